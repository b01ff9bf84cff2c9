/-! MATHEMATICS, 36: create, crash, mend, set, cut, append as calls. -/
section CALLS2
variable {A : Nat → Nat → Nat} {s t g : Nat → Int32}
theorem ct_all (P : Nat → Prop) [DecidablePred P] (n : Nat) (h : ∀ i, i < n → P i) : ct P n = n := by
  induction n with
  | zero => rfl
  | succ n ih => rw [ct_succ, ih (fun i hi => h i (by omega)), if_pos (h n (by omega))]
theorem first_free (A : Nat → Nat → Nat) : ∀ n, (∃ f, f < n ∧ A 3 f = 0 ∧ ∀ i, i < f → A 3 i ≠ 0) ∨ ∀ i, i < n → A 3 i ≠ 0 := by
  intro n
  induction n with
  | zero => exact Or.inr (fun i h => absurd h (Nat.not_lt_zero _))
  | succ n ih =>
    rcases ih with ⟨f, h1, h2, h3⟩ | h
    · exact Or.inl ⟨f, by omega, h2, h3⟩
    · by_cases c : A 3 n = 0
      · exact Or.inl ⟨n, by omega, c, h⟩
      · refine Or.inr (fun i hi => ?_)
        by_cases e : i = n
        · rw [e]; exact c
        · exact h i (by omega)
theorem crN_le (hI : IA A) : ∀ j, j ≤ 8 → crN A j ≤ 64 * j := by
  intro j
  induction j with
  | zero => intro _; exact Nat.le_refl _
  | succ j ih =>
    intro h
    have q := ih (by omega)
    have z := (IA_crJ hI (j := j) (by omega)).2.2.2.1 j (by omega)
    show crN A j + (if crJ A j 3 j = 0 then 0 else crJ A j 5 j - crJ A j 6 j) ≤ 64 * (j + 1)
    by_cases c : crJ A j 3 j = 0
    · rw [if_pos c]; omega
    · rw [if_neg c]; omega
theorem mdN_le (hI : IA A) : ∀ j, j ≤ 8 → mdN A j ≤ 64 * j := by
  intro j
  induction j with
  | zero => intro _; exact Nat.le_refl _
  | succ j ih =>
    intro h
    have q := ih (by omega)
    have z := (IA_mend hI (j := j) (by omega)).2.2.2.1 j (by omega)
    show mdN A j + (if mdJ A j 3 j = 1 then mdJ A j 4 j - mdJ A j 5 j else 0) ≤ 64 * (j + 1)
    by_cases c : mdJ A j 3 j = 1
    · rw [if_pos c]; omega
    · rw [if_neg c]; omega
end CALLS2
