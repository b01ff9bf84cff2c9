/-! MATHEMATICS, 13: create, the class's side. -/
section CREATE
variable {d : Nat → Nat → Int32} {A : Nat → Nat → Nat}
def neA (A : Nat → Nat → Nat) (f : Nat) : Nat → Nat → Nat := as (as (as (as (as A 3 f 1) 4 f 0) 5 f 0) 6 f 0) 7 f 1
theorem neA_far {f k i : Nat} (h : ¬ ((k = 3 ∨ k = 4 ∨ k = 5 ∨ k = 6 ∨ k = 7) ∧ i = f)) : neA A f k i = A k i := by
  unfold neA
  rw [as_ne _ _ (by omega), as_ne _ _ (by omega), as_ne _ _ (by omega), as_ne _ _ (by omega), as_ne _ _ (by omega)]
theorem neA_3 (f : Nat) : neA A f 3 f = 1 := by
  unfold neA
  rw [as_ne _ _ (by omega), as_ne _ _ (by omega), as_ne _ _ (by omega), as_ne _ _ (by omega), as_eq]
theorem neA_4 (f : Nat) : neA A f 4 f = 0 := by
  unfold neA
  rw [as_ne _ _ (by omega), as_ne _ _ (by omega), as_ne _ _ (by omega), as_eq]
theorem neA_5 (f : Nat) : neA A f 5 f = 0 := by
  unfold neA
  rw [as_ne _ _ (by omega), as_ne _ _ (by omega), as_eq]
theorem neA_6 (f : Nat) : neA A f 6 f = 0 := by
  unfold neA
  rw [as_ne _ _ (by omega), as_eq]
theorem neA_7 (f : Nat) : neA A f 7 f = 1 := by
  unfold neA
  rw [as_eq]
theorem IA_create (hI : IA A) {f : Nat} (hf : f < 8) (h0 : A 3 f = 0) : IA (neA A f) := by
  have hm := hI.2.2.2.1 f hf
  have h4 : ∀ i, neA A f 4 i = A 4 i := fun i => by
    by_cases e : i = f
    · subst e; rw [neA_4]; omega
    · exact neA_far (by omega)
  refine IA_of ⟨fun k hk => ?_, fun q i hq hi => ?_, fun k j hk hj ho e1 e2 => ?_, fun q hq => ?_⟩ (fun q hq => ?_) ?_
  · have z := hI.1 k hk
    rw [neA_far (k := 1) (by omega), neA_far (k := 0) (by omega), neA_far (k := 2) (by omega), h4]
    refine ⟨z.1, z.2.1, fun h => ?_⟩
    have z2 := z.2.2 h
    rw [neA_far (k := 3) (fun w => z2.1 (by rw [w.2]; exact h0))]
    exact z2
  · rw [h4] at hi
    obtain ⟨k, hk, ho, hx⟩ := hI.2.1 q i hq hi
    exact ⟨k, hk, by rw [neA_far (by omega)]; exact ho, by rw [neA_far (by omega)]; exact hx⟩
  · rw [neA_far (k := 1) (by omega)] at ho
    rw [neA_far (k := 1) (by omega), neA_far (k := 1) (by omega)] at e1
    rw [neA_far (k := 2) (by omega), neA_far (k := 2) (by omega)] at e2
    exact hI.2.2.1 k j hk hj ho e1 e2
  · have z := hI.2.2.2.1 q hq
    rw [h4]
    by_cases e : q = f
    · subst e; rw [neA_3]; omega
    · rw [neA_far (by omega)]; omega
  · have z := hI.2.2.2.1 q hq
    rw [h4]
    by_cases e : q = f
    · subst e; rw [neA_3, neA_5, neA_6, neA_7]; omega
    · rw [neA_far (k := 5) (by omega), neA_far (k := 7) (by omega), neA_far (k := 3) (by omega), neA_far (k := 6) (by omega)]; omega
  · rw [neA_far (by omega), neA_far (by omega)]; exact hI.2.2.2.2
theorem C_create (h : RC d A) (hI : IA A) {f : Nat} (hf : f < 8) (h0 : A 3 f = 0) (hl : ∀ i, i < f → A 3 i ≠ 0) : ∃ d', f_X0_createFile d = some (nI f, d') ∧ RC d' (neA A f) := by
  have h1 := RC_set (B' := as A 3 f 1) h (k := 3) (j := f) (v := 1) (by decide) (by decide) (as_eq _ _ _ _) (fun k' i q => as_ne _ _ q)
  have h2 := RC_set (B' := as (as A 3 f 1) 4 f 0) h1 (k := 4) (j := f) (v := 0) (by decide) (by decide) (as_eq _ _ _ _) (fun k' i q => as_ne _ _ q)
  have h3 := RC_set (B' := as (as (as A 3 f 1) 4 f 0) 5 f 0) h2 (k := 5) (j := f) (v := 0) (by decide) (by decide) (as_eq _ _ _ _) (fun k' i q => as_ne _ _ q)
  have h4 := RC_set (B' := as (as (as (as A 3 f 1) 4 f 0) 5 f 0) 6 f 0) h3 (k := 6) (j := f) (v := 0) (by decide) (by decide) (as_eq _ _ _ _) (fun k' i q => as_ne _ _ q)
  have h5 := RC_set (B' := neA A f) h4 (k := 7) (j := f) (v := 1) (by decide) (by decide) (as_eq _ _ _ _) (fun k' i q => as_ne _ _ q)
  refine ⟨_, loopN (fun fu j => f_X0_createFile_L2 fu (nI j) d) f _ (fun fu j hj => ?_) (fun fu => ?_) gFu 0 (by omega) (Nat.lt_of_lt_of_le hf (by decide)), h5⟩
  · show f_X0_createFile_L2 (fu + 1) (nI j) d = f_X0_createFile_L2 fu (nI (j + 1)) d
    have hm := hI.2.2.2.1 j (by omega)
    rw [f_X0_createFile_L2, if_neg (by rw [l_lit8 (by omega)]; omega), f_holds_f (by decide) _ (show j < 8 by omega) (by rw [h.md (by omega)]; exact fun z => hl j hj ((nI_eq (b := 0) (by omega) (by decide)).1 z)), gb_some, if_pos rfl, glet_eq, nI_1]
  · show f_X0_createFile_L2 (fu + 1) (nI f) d = _
    rw [f_X0_createFile_L2, if_neg (by rw [l_lit8 (by omega)]; omega), f_holds_t (by decide) _ hf (by rw [h.md hf, h0]; rfl), gb_some, if_neg (by decide), f_put_in (by decide) _ hf, gb_some, glet_eq, f_put_in (by decide) _ hf, gb_some, glet_eq, f_put_in (by decide) _ hf, gb_some, glet_eq, f_put_in (by decide) _ hf, gb_some, glet_eq, f_put_in (by decide) _ hf, gb_some, glet_eq]
    rfl
theorem C_create_full (h : RC d A) (hI : IA A) (hl : ∀ i, i < 8 → A 3 i ≠ 0) : f_X0_createFile d = some (-3, d) := by
  refine loopN (fun fu j => f_X0_createFile_L2 fu (nI j) d) 8 _ (fun fu j hj => ?_) (fun fu => ?_) gFu 0 (by omega) (by decide)
  · show f_X0_createFile_L2 (fu + 1) (nI j) d = f_X0_createFile_L2 fu (nI (j + 1)) d
    have hm := hI.2.2.2.1 j (by omega)
    rw [f_X0_createFile_L2, if_neg (by rw [l_lit8 (by omega)]; omega), f_holds_f (by decide) _ hj (by rw [h.md (by omega)]; exact fun z => hl j hj ((nI_eq (b := 0) (by omega) (by decide)).1 z)), gb_some, if_pos rfl, glet_eq, nI_1]
  · show f_X0_createFile_L2 (fu + 1) _ _ = _
    rw [f_X0_createFile_L2, if_pos (by decide)]
end CREATE
