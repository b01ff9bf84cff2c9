/-! MATHEMATICS, 33: what is copied; the history, on both sides. -/
section HIST
variable {A : Nat → Nat → Nat} {s t g : Nat → Int32}
theorem sbI_mod {o k : Nat} (h : o + k < 10) : sbI (nI o) (nI k) = nI ((o + k) % 5) := by
  unfold sbI
  rw [nI_add]
  obtain ⟨m, hm, e⟩ : ∃ m, m < 10 ∧ o + k = m := ⟨o + k, h, rfl⟩
  rw [e]
  rcases (show m = 0 ∨ m = 1 ∨ m = 2 ∨ m = 3 ∨ m = 4 ∨ m = 5 ∨ m = 6 ∨ m = 7 ∨ m = 8 ∨ m = 9 by omega) with q | q | q | q | q | q | q | q | q | q <;> subst q <;> decide
end HIST
