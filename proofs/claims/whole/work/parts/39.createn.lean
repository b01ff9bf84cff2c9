/-! MATHEMATICS, 15: create, the reference's side, put together. -/
section CREATEN
variable {A : Nat → Nat → Nat} {s t g : Nat → Int32}
theorem neS_far (s : Nat → Int32) (f : Nat) {k : Nat} (h : k < 192 + 6 * f ∨ 192 + 6 * f + 6 ≤ k) : neS s f k = s k := by
  unfold neS
  rw [upd_ne _ _ (by omega), upd_ne _ _ (by omega), upd_ne _ _ (by omega), upd_ne _ _ (by omega), upd_ne _ _ (by omega), upd_ne _ _ (by omega)]
theorem RM_new (h : RM s 0 A) {f : Nat} (hf : f < 8) : RM (neS s f) 0 (neA A f) := by
  refine ⟨fun i hi => ⟨?_, ?_, ?_⟩, fun q hq => ?_, fun i hi => ?_, fun i hi => ?_⟩
  · rw [neS_far _ _ (by omega), neA_far (by omega)]; exact (h.1 i hi).1
  · rw [neS_far _ _ (by omega), neA_far (by omega)]; exact (h.1 i hi).2.1
  · rw [neS_far _ _ (by omega), neA_far (by omega), neA_far (by omega)]; exact (h.1 i hi).2.2
  · by_cases e : q = f
    · subst e
      rw [neA_3, neA_4, neA_5, neA_6, neA_7, show 0 + 192 + 6 * q = 192 + 6 * q by omega]
      refine ⟨?_, ?_, fun _ => ⟨?_, ?_, ?_, ?_⟩⟩ <;> simp [neS, upd] <;> rfl
    · rw [neS_far _ _ (by omega), neS_far _ _ (by omega), neS_far _ _ (by omega), neS_far _ _ (by omega), neS_far _ _ (by omega), neS_far _ _ (by omega), neA_far (k := 3) (by omega), neA_far (k := 4) (by omega), neA_far (k := 5) (by omega), neA_far (k := 6) (by omega), neA_far (k := 7) (by omega)]
      exact h.2.1 q hq
  · rw [neS_far _ _ (by omega), neA_far (by omega)]; exact h.2.2.1 i hi
  · rw [neS_far _ _ (by omega), neA_far (by omega)]; exact h.2.2.2 i hi
theorem M_create (h : RM s 0 A) {f : Nat} (hf : f < 8) (h0 : A 3 f = 0) (hl : ∀ i, i < f → A 3 i ≠ 0) : f_X6_creates s t g = some (nI f, neS s f) ∧ RM (neS s f) 0 (neA A f) ∧ Out 0 s (neS s f) := by
  refine ⟨loopN (fun fu j => f_X6_creates_L2 t g fu (nI j) s) f _ (fun fu j hj => ?_) (fun fu => ?_) gFu 0 (by omega) (Nat.lt_of_lt_of_le hf (by decide)), RM_new h hf, fun k hk => neS_far _ _ (by omega)⟩
  · show f_X6_creates_L2 t g (fu + 1) (nI j) s = f_X6_creates_L2 t g fu (nI (j + 1)) s
    rw [f_X6_creates_L2, M_isThere h (by omega), gb_some, if_neg (hl j hj), if_neg (by decide), glet_eq, nI_1]
  · show f_X6_creates_L2 t g (fu + 1) (nI f) s = _
    rw [f_X6_creates_L2, M_isThere h hf, gb_some, if_pos h0, if_pos rfl]
    exact M_cells hf (gFu - 7)
end CREATEN
