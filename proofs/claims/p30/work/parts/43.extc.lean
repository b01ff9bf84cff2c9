/-! MATHEMATICS, 19: what begins an extent, as the class tells it. -/
section EXTC
variable {d : Nat → Nat → Int32} {A : Nat → Nat → Nat}
def be (A : Nat → Nat → Nat) (k : Nat) : Nat := if 0 < k ∧ A 1 (k - 1) = A 1 k ∧ A 2 (k - 1) + 1 = A 2 k then 0 else 1
theorem C_beginsExtent (h : RC d A) (hI : IB A) {k : Nat} (hk : k < 64) (ho : A 1 k < 8) : f_X0_beginsExtent d (nI k) = some (nI (be A k)) := by
  have z := hI.1 k hk
  have w := z.2.2 ho
  have hl := (hI.2.2.2 (A 1 k) ho).2
  unfold f_X0_beginsExtent
  rw [f_at_in (by decide) _ hk, gb_some, h.own hk, if_neg (by omega)]
  by_cases k0 : k = 0
  · subst k0
    rw [f_holds_out (d 1) (v := nI 0 - 1) (Or.inl (by decide)), gb_some, if_pos rfl, be, if_neg (by omega)]
    rfl
  · have e1 : nI k - 1 = nI (k - 1) := nI_sub (a := k) (b := 1) (by omega)
    have hk1 : k - 1 < 64 := by omega
    have z1 := hI.1 (k - 1) hk1
    rw [e1]
    by_cases eo : A 1 (k - 1) = A 1 k
    · have w1 := z1.2.2 (by omega)
      rw [f_holds_t (by decide) _ hk1 (by rw [h.own hk1, if_neg (by omega), eo]), gb_some, if_neg (by decide), f_at_in (by decide) _ hk, gb_some, h.ix hk, if_neg (by omega)]
      by_cases e2 : A 2 (k - 1) + 1 = A 2 k
      · have e3 : nI (A 2 k) - 1 = nI (A 2 (k - 1)) := by rw [← e2]; exact nI_sub (b := 1) (by omega)
        rw [f_holds_t (by decide) _ hk1 (by rw [h.ix hk1, if_neg (by omega), e3]), gb_some, if_neg (by decide), be, if_pos ⟨by omega, eo, e2⟩]
        rfl
      · have ne : ¬ d 2 (k - 1) = nI (A 2 k) - 1 := by
          rw [h.ix hk1, if_neg (by omega)]
          by_cases c : A 2 k = 0
          · rw [c]
            intro q
            exact nI_pos (n := A 2 (k - 1)) (by rw [eo] at w1; omega) (by rw [q]; decide)
          · have e4 : nI (A 2 k) - 1 = nI (A 2 k - 1) := nI_sub (b := 1) (by omega)
            rw [e4]
            exact fun q => e2 (by have := (nI_eq (by rw [eo] at w1; omega) (by omega)).1 q; omega)
        rw [f_holds_f (by decide) _ hk1 ne, gb_some, if_pos rfl, be, if_neg (fun q => e2 q.2.2)]
        rfl
    · have ne : ¬ d 1 (k - 1) = nI (A 1 k) := by
        rw [h.own hk1]
        by_cases c : A 1 (k - 1) = 8
        · rw [if_pos c]; exact fun q => nI_m5 (k := A 1 k) (by omega) q.symm
        · rw [if_neg c]; exact fun q => eo ((nI_eq (by omega) (by omega)).1 q)
      rw [f_holds_f (by decide) _ hk1 ne, gb_some, if_pos rfl, be, if_neg (fun q => eo q.2.1)]
      rfl
end EXTC
