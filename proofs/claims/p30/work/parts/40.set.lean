/-! MATHEMATICS, 16: set. -/
section SET
variable {d : Nat → Nat → Int32} {A : Nat → Nat → Nat} {s t g : Nat → Int32}
theorem IA_set (hI : IA A) {i n : Nat} (hn : n ≤ 16) (h1 : i = 1 → n ≤ 1) : IA (as A 8 i n) := by
  refine IA_of (hI.b.congr (fun k i hk => as_ne _ _ (by omega))) (fun q hq => ?_) ?_
  · have z := hI.2.2.2.1 q hq
    rw [as_ne (k' := 5) _ _ (by omega), as_ne (k' := 4) _ _ (by omega), as_ne (k' := 6) _ _ (by omega), as_ne (k' := 3) _ _ (by omega), as_ne (k' := 7) _ _ (by omega)]
    exact ⟨z.2.1, z.2.2.2⟩
  · have z := hI.2.2.2.2
    by_cases e0 : i = 0
    · subst e0; rw [as_eq, as_ne _ _ (by omega)]; exact ⟨hn, z.2⟩
    · by_cases e1 : i = 1
      · subst e1; rw [as_eq, as_ne _ _ (by omega)]; exact ⟨z.1, h1 rfl⟩
      · rw [as_ne _ _ (by omega), as_ne _ _ (by omega)]; exact z
theorem C_set0 (h : RC d A) {n : Nat} (hn : n ≤ 16) : ∃ d', f_X0_changeSetting d 0 (nI n) = some (nI (A 8 0), d') ∧ RC d' (as A 8 0 n) := by
  have e1 : f_X3_at 2 (d 8) 0 = some (d 8 0) := f_at_in (by decide) (d 8) (i := 0) (by decide)
  have e2 : f_X3_put 2 (d 8) 0 (nI n) = some (upd (d 8) 0 (nI n)) := f_put_in (by decide) (d 8) (i := 0) (by decide) _
  unfold f_X0_changeSetting
  rw [if_pos rfl, if_neg (nI_pos (by omega)), if_pos (show nI n ≤ (16 : Int32) from nI_le (b := 16) hn (by decide)), e1, gb_some, e2, gb_some, glet_eq, h.sg (by decide)]
  exact ⟨_, rfl, RC_set h (k := 8) (j := 0) (by decide) (by decide) (as_eq _ _ _ _) (fun k' i q => as_ne _ _ q)⟩
theorem C_set1 (h : RC d A) {n : Nat} (hn : n ≤ 1) : ∃ d', f_X0_changeSetting d 1 (nI n) = some (nI (A 8 1), d') ∧ RC d' (as A 8 1 n) := by
  have e1 : f_X3_at 2 (d 8) 1 = some (d 8 1) := f_at_in (by decide) (d 8) (i := 1) (by decide)
  have e2 : f_X3_put 2 (d 8) 1 (nI n) = some (upd (d 8) 1 (nI n)) := f_put_in (by decide) (d 8) (i := 1) (by decide) _
  unfold f_X0_changeSetting
  rw [if_neg (by decide), if_pos rfl, if_neg (nI_pos (by omega)), if_pos (show nI n ≤ (1 : Int32) from nI_le (b := 1) hn (by decide)), e1, gb_some, e2, gb_some, glet_eq, h.sg (by decide)]
  exact ⟨_, rfl, RC_set h (k := 8) (j := 1) (by decide) (by decide) (as_eq _ _ _ _) (fun k' i q => as_ne _ _ q)⟩
end SET
