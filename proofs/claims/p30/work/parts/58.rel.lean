/-! MATHEMATICS, 34: what holds of both between calls; an act that is recorded; one that is refused. -/
section REL
variable {A : Nat → Nat → Nat} {s t g : Nat → Int32}
-- an int is below 0, or a number
theorem i_split (v : Int32) : v < 0 ∨ ∃ m : Nat, m < 2 ^ 31 ∧ v = nI m := by
  by_cases h : v < 0
  · exact Or.inl h
  · exact Or.inr (nI_of h)
theorem ng_lt {v : Int32} (h : v < 0) {j : Nat} (hj : j < 2 ^ 31) : v < nI j := by
  rw [Int32.lt_iff_toInt_lt] at h ⊢
  have e1 := nI_toInt hj
  have e2 : (0 : Int32).toInt = 0 := by decide
  omega
theorem ng_le {v : Int32} (h : v < 0) {j : Nat} (hj : j < 2 ^ 31) : v ≤ nI j := by
  have := ng_lt h hj
  rw [Int32.lt_iff_toInt_lt] at this
  rw [Int32.le_iff_toInt_le]
  omega
theorem ng_nle {v : Int32} (h : v < 0) {j : Nat} (hj : j < 2 ^ 31) : ¬ nI j ≤ v := by
  have := ng_lt h hj
  rw [Int32.lt_iff_toInt_lt] at this
  rw [Int32.le_iff_toInt_le]
  omega
theorem ng_nlt {v : Int32} (h : v < 0) {j : Nat} (hj : j < 2 ^ 31) : ¬ nI j < v := by
  have := ng_lt h hj
  rw [Int32.lt_iff_toInt_lt] at this ⊢
  omega
theorem ng_ne {v : Int32} (h : v < 0) {j : Nat} (hj : j < 2 ^ 31) : ¬ v = nI j := by
  intro e
  have := ng_lt h hj
  rw [← e, Int32.lt_iff_toInt_lt] at this
  omega
end REL
