/-! MATHEMATICS, 2: the reference's rows at their places. -/
theorem nI_mul (a b : Nat) : nI a * nI b = nI (a * b) := (Int32.ofNat_mul a b).symm
theorem m_rd {α : Type} {x : Nat} (h : x < 1968) (k : Option α) : (if 0 ≤ nI x ∧ (nI x).toNatClampNeg < 1968 then k else none) = k := if_pos ⟨nI_pos' (by omega), by rw [nI_clamp (by omega)]; exact h⟩
section MOD
variable {s t g : Nat → Int32} {A : Nat → Nat → Nat} {b : Nat}
theorem nI_if (P : Prop) [Decidable P] : (if P then (1 : Int32) else 0) = nI (if P then 1 else 0) := by
  by_cases h : P
  · rw [if_pos h, if_pos h]; rfl
  · rw [if_neg h, if_neg h]; rfl
end MOD
