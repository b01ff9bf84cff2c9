/-! MATHEMATICS, 5: the reference's updates of one number; giving back. -/
section RMUPD2
variable {s : Nat → Int32} {b : Nat} {B B' : Nat → Nat → Nat}
theorem RM_st (h : RM s b B) {j v : Nat} (hj : j < 64) (hB : B' 0 j = v) (hN : ∀ k' i, ¬ (k' = 0 ∧ i = j) → B' k' i = B k' i) : RM (upd s (b + j) (nI v)) b B' := by
  refine ⟨fun i hi => ⟨?_, ?_, ?_⟩, fun f hf => ⟨?_, ?_, fun h0 => ⟨?_, ?_, ?_, ?_⟩⟩, fun i hi => ?_, fun i hi => ?_⟩
  · by_cases e : i = j
    · subst e; rw [upd_eq, hB]
    · rw [upd_ne _ _ (by omega), hN 0 i (by omega)]; exact (h.1 i hi).1
  · rw [upd_ne _ _ (by omega), hN 1 i (by omega)]; exact h.own hi
  · intro h8
    rw [hN 1 i (by omega)] at h8
    rw [upd_ne _ _ (by omega), hN 2 i (by omega)]; exact h.ix hi h8
  · rw [upd_ne _ _ (by omega), hN 3 f (by omega)]; exact h.ex hf
  · rw [upd_ne _ _ (by omega), hN 4 f (by omega)]; exact h.ln hf
  · rw [hN 3 f (by omega)] at h0
    rw [upd_ne _ _ (by omega), hN 5 f (by omega)]; exact h.sz hf h0
  · rw [hN 3 f (by omega)] at h0
    rw [upd_ne _ _ (by omega), hN 6 f (by omega)]; exact h.sf hf h0
  · rw [hN 3 f (by omega)] at h0; rw [upd_ne _ _ (by omega), hN 3 f (by omega)]; exact h.op hf h0
  · rw [hN 3 f (by omega)] at h0
    rw [upd_ne _ _ (by omega), hN 7 f (by omega)]; exact h.ld hf h0
  · rw [upd_ne _ _ (by omega), hN 8 i (by omega)]; exact h.2.2.1 i hi
  · rw [upd_ne _ _ (by omega), hN 9 i (by omega)]; exact h.2.2.2 i hi
theorem RM_sz (h : RM s b B) {j v : Nat} (hj : j < 8) (hB : B' 5 j = v) (hN : ∀ k' i, ¬ (k' = 5 ∧ i = j) → B' k' i = B k' i) : RM (upd s (b + 192 + 6 * j + 2) (nI v)) b B' := by
  refine ⟨fun i hi => ⟨?_, ?_, ?_⟩, fun f hf => ⟨?_, ?_, fun h0 => ⟨?_, ?_, ?_, ?_⟩⟩, fun i hi => ?_, fun i hi => ?_⟩
  · rw [upd_ne _ _ (by omega), hN 0 i (by omega)]; exact (h.1 i hi).1
  · rw [upd_ne _ _ (by omega), hN 1 i (by omega)]; exact h.own hi
  · intro h8
    rw [hN 1 i (by omega)] at h8
    rw [upd_ne _ _ (by omega), hN 2 i (by omega)]; exact h.ix hi h8
  · rw [upd_ne _ _ (by omega), hN 3 f (by omega)]; exact h.ex hf
  · rw [upd_ne _ _ (by omega), hN 4 f (by omega)]; exact h.ln hf
  · rw [hN 3 f (by omega)] at h0
    by_cases e : f = j
    · subst e; rw [upd_eq, hB]
    · rw [upd_ne _ _ (by omega), hN 5 f (by omega)]; exact h.sz hf h0
  · rw [hN 3 f (by omega)] at h0
    rw [upd_ne _ _ (by omega), hN 6 f (by omega)]; exact h.sf hf h0
  · rw [hN 3 f (by omega)] at h0; rw [upd_ne _ _ (by omega), hN 3 f (by omega)]; exact h.op hf h0
  · rw [hN 3 f (by omega)] at h0
    rw [upd_ne _ _ (by omega), hN 7 f (by omega)]; exact h.ld hf h0
  · rw [upd_ne _ _ (by omega), hN 8 i (by omega)]; exact h.2.2.1 i hi
  · rw [upd_ne _ _ (by omega), hN 9 i (by omega)]; exact h.2.2.2 i hi
theorem RM_sf (h : RM s b B) {j v : Nat} (hj : j < 8) (hB : B' 6 j = v) (hN : ∀ k' i, ¬ (k' = 6 ∧ i = j) → B' k' i = B k' i) : RM (upd s (b + 192 + 6 * j + 3) (nI v)) b B' := by
  refine ⟨fun i hi => ⟨?_, ?_, ?_⟩, fun f hf => ⟨?_, ?_, fun h0 => ⟨?_, ?_, ?_, ?_⟩⟩, fun i hi => ?_, fun i hi => ?_⟩
  · rw [upd_ne _ _ (by omega), hN 0 i (by omega)]; exact (h.1 i hi).1
  · rw [upd_ne _ _ (by omega), hN 1 i (by omega)]; exact h.own hi
  · intro h8
    rw [hN 1 i (by omega)] at h8
    rw [upd_ne _ _ (by omega), hN 2 i (by omega)]; exact h.ix hi h8
  · rw [upd_ne _ _ (by omega), hN 3 f (by omega)]; exact h.ex hf
  · rw [upd_ne _ _ (by omega), hN 4 f (by omega)]; exact h.ln hf
  · rw [hN 3 f (by omega)] at h0
    rw [upd_ne _ _ (by omega), hN 5 f (by omega)]; exact h.sz hf h0
  · rw [hN 3 f (by omega)] at h0
    by_cases e : f = j
    · subst e; rw [upd_eq, hB]
    · rw [upd_ne _ _ (by omega), hN 6 f (by omega)]; exact h.sf hf h0
  · rw [hN 3 f (by omega)] at h0; rw [upd_ne _ _ (by omega), hN 3 f (by omega)]; exact h.op hf h0
  · rw [hN 3 f (by omega)] at h0
    rw [upd_ne _ _ (by omega), hN 7 f (by omega)]; exact h.ld hf h0
  · rw [upd_ne _ _ (by omega), hN 8 i (by omega)]; exact h.2.2.1 i hi
  · rw [upd_ne _ _ (by omega), hN 9 i (by omega)]; exact h.2.2.2 i hi
theorem RM_ld (h : RM s b B) {j v : Nat} (hj : j < 8) (hB : B' 7 j = v) (hN : ∀ k' i, ¬ (k' = 7 ∧ i = j) → B' k' i = B k' i) : RM (upd s (b + 192 + 6 * j + 5) (nI v)) b B' := by
  refine ⟨fun i hi => ⟨?_, ?_, ?_⟩, fun f hf => ⟨?_, ?_, fun h0 => ⟨?_, ?_, ?_, ?_⟩⟩, fun i hi => ?_, fun i hi => ?_⟩
  · rw [upd_ne _ _ (by omega), hN 0 i (by omega)]; exact (h.1 i hi).1
  · rw [upd_ne _ _ (by omega), hN 1 i (by omega)]; exact h.own hi
  · intro h8
    rw [hN 1 i (by omega)] at h8
    rw [upd_ne _ _ (by omega), hN 2 i (by omega)]; exact h.ix hi h8
  · rw [upd_ne _ _ (by omega), hN 3 f (by omega)]; exact h.ex hf
  · rw [upd_ne _ _ (by omega), hN 4 f (by omega)]; exact h.ln hf
  · rw [hN 3 f (by omega)] at h0
    rw [upd_ne _ _ (by omega), hN 5 f (by omega)]; exact h.sz hf h0
  · rw [hN 3 f (by omega)] at h0
    rw [upd_ne _ _ (by omega), hN 6 f (by omega)]; exact h.sf hf h0
  · rw [hN 3 f (by omega)] at h0; rw [upd_ne _ _ (by omega), hN 3 f (by omega)]; exact h.op hf h0
  · rw [hN 3 f (by omega)] at h0
    by_cases e : f = j
    · subst e; rw [upd_eq, hB]
    · rw [upd_ne _ _ (by omega), hN 7 f (by omega)]; exact h.ld hf h0
  · rw [upd_ne _ _ (by omega), hN 8 i (by omega)]; exact h.2.2.1 i hi
  · rw [upd_ne _ _ (by omega), hN 9 i (by omega)]; exact h.2.2.2 i hi
theorem RM_sg (h : RM s b B) {j v : Nat} (hj : j < 2) (hB : B' 8 j = v) (hN : ∀ k' i, ¬ (k' = 8 ∧ i = j) → B' k' i = B k' i) : RM (upd s (b + 240 + j) (nI v)) b B' := by
  refine ⟨fun i hi => ⟨?_, ?_, ?_⟩, fun f hf => ⟨?_, ?_, fun h0 => ⟨?_, ?_, ?_, ?_⟩⟩, fun i hi => ?_, fun i hi => ?_⟩
  · rw [upd_ne _ _ (by omega), hN 0 i (by omega)]; exact (h.1 i hi).1
  · rw [upd_ne _ _ (by omega), hN 1 i (by omega)]; exact h.own hi
  · intro h8
    rw [hN 1 i (by omega)] at h8
    rw [upd_ne _ _ (by omega), hN 2 i (by omega)]; exact h.ix hi h8
  · rw [upd_ne _ _ (by omega), hN 3 f (by omega)]; exact h.ex hf
  · rw [upd_ne _ _ (by omega), hN 4 f (by omega)]; exact h.ln hf
  · rw [hN 3 f (by omega)] at h0
    rw [upd_ne _ _ (by omega), hN 5 f (by omega)]; exact h.sz hf h0
  · rw [hN 3 f (by omega)] at h0
    rw [upd_ne _ _ (by omega), hN 6 f (by omega)]; exact h.sf hf h0
  · rw [hN 3 f (by omega)] at h0; rw [upd_ne _ _ (by omega), hN 3 f (by omega)]; exact h.op hf h0
  · rw [hN 3 f (by omega)] at h0
    rw [upd_ne _ _ (by omega), hN 7 f (by omega)]; exact h.ld hf h0
  · by_cases e : i = j
    · subst e; rw [upd_eq, hB]
    · rw [upd_ne _ _ (by omega), hN 8 i (by omega)]; exact h.2.2.1 i hi
  · rw [upd_ne _ _ (by omega), hN 9 i (by omega)]; exact h.2.2.2 i hi
theorem RM_tt (h : RM s b B) {j v : Nat} (hj : j < 4) (hB : B' 9 j = v) (hN : ∀ k' i, ¬ (k' = 9 ∧ i = j) → B' k' i = B k' i) : RM (upd s (b + 242 + j) (nI v)) b B' := by
  refine ⟨fun i hi => ⟨?_, ?_, ?_⟩, fun f hf => ⟨?_, ?_, fun h0 => ⟨?_, ?_, ?_, ?_⟩⟩, fun i hi => ?_, fun i hi => ?_⟩
  · rw [upd_ne _ _ (by omega), hN 0 i (by omega)]; exact (h.1 i hi).1
  · rw [upd_ne _ _ (by omega), hN 1 i (by omega)]; exact h.own hi
  · intro h8
    rw [hN 1 i (by omega)] at h8
    rw [upd_ne _ _ (by omega), hN 2 i (by omega)]; exact h.ix hi h8
  · rw [upd_ne _ _ (by omega), hN 3 f (by omega)]; exact h.ex hf
  · rw [upd_ne _ _ (by omega), hN 4 f (by omega)]; exact h.ln hf
  · rw [hN 3 f (by omega)] at h0
    rw [upd_ne _ _ (by omega), hN 5 f (by omega)]; exact h.sz hf h0
  · rw [hN 3 f (by omega)] at h0
    rw [upd_ne _ _ (by omega), hN 6 f (by omega)]; exact h.sf hf h0
  · rw [hN 3 f (by omega)] at h0; rw [upd_ne _ _ (by omega), hN 3 f (by omega)]; exact h.op hf h0
  · rw [hN 3 f (by omega)] at h0
    rw [upd_ne _ _ (by omega), hN 7 f (by omega)]; exact h.ld hf h0
  · rw [upd_ne _ _ (by omega), hN 8 i (by omega)]; exact h.2.2.1 i hi
  · by_cases e : i = j
    · subst e; rw [upd_eq, hB]
    · rw [upd_ne _ _ (by omega), hN 9 i (by omega)]; exact h.2.2.2 i hi
end RMUPD2
/-- the file f gives back -/
def gv (A : Nat → Nat → Nat) (f : Nat) : Nat → Nat → Nat := as (as (fr A f (A 5 f)) 7 f 1) 9 1 (A 9 1 + (A 4 f - A 5 f))
theorem fr_row {A : Nat → Nat → Nat} {f n k i : Nat} (h1 : k ≠ 1) (h4 : k ≠ 4) : fr A f n k i = A k i := by
  unfold fr; rw [if_neg (fun q => h1 q.1), if_neg (fun q => h4 q.1)]
theorem C_giveBack {d : Nat → Nat → Int32} {A : Nat → Nat → Nat} (h : RC d A) (hI : IA A) {f : Nat} (hf : f < 8) : ∃ d', f_X0_giveBack d (nI f) = some (nI (A 4 f - A 5 f), d') ∧ RC d' (gv A f) := by
  have hm := hI.2.2.2.1 f hf
  obtain ⟨d1, e1, h1⟩ := C_freeFrom h hI.b hf (n := A 5 f) (by omega)
  unfold f_X0_giveBack
  rw [C_lentOf h hI hf, gb_some, f_at_in (by decide) _ hf, gb_some, h.sz hf, e1, gb_some, f_put_in (by decide) _ hf, gb_some, glet_eq]
  have h2 := RC_set (B' := as (fr A f (A 5 f)) 7 f 1) h1 (k := 7) (j := f) (v := 1) (by decide) (by decide) (as_eq _ _ _ _) (fun k' i q => as_ne _ _ q)
  rw [show f_X3_grow 4 _ 1 (nI (A 4 f - A 5 f)) = _ from f_grow_in (n := 4) (by decide) _ (i := 1) (by decide) _, gb_some, glet_eq]
  refine ⟨_, rfl, ?_⟩
  have h9 : (va_up d1 7 (upd (d1 7) f 1)) 9 1 = nI (A 9 1) := by
    have := h2.tt (i := 1) (by decide)
    rw [as_ne _ _ (by omega), fr_row (by decide) (by decide)] at this
    exact this
  rw [h9, nI_add]
  exact RC_set (B' := gv A f) h2 (k := 9) (j := 1) (v := A 9 1 + (A 4 f - A 5 f)) (by decide) (by decide) (as_eq _ _ _ _) (fun k' i q => as_ne _ _ q)
theorem M_givesBack {s t g : Nat → Int32} {A : Nat → Nat → Nat} {b : Nat} (h : RM s b A) (hI : IA A) (hb : b ≤ 1722) {f : Nat} (hf : f < 8) (h0 : A 3 f ≠ 0) : ∃ s', f_X6_givesBack s t g (nI b) (nI f) = some (nI (A 4 f - A 5 f), s') ∧ RM s' b (gv A f) ∧ Out b s s' := by
  have hm := hI.2.2.2.1 f hf
  obtain ⟨s1, e1, h1, o1⟩ := M_frees (t := t) (g := g) h hI.b hb hf (n := A 5 f) hm.2.1
  unfold f_X6_givesBack
  have a2 : nI (b + 192 + 6 * f) + 2 = nI (b + 192 + 6 * f + 2) := nI_add _ 2
  have a5 : nI (b + 192 + 6 * f) + 5 = nI (b + 192 + 6 * f + 5) := nI_add _ 5
  have a9 : nI b + 243 = nI (b + 243) := nI_add _ 243
  rw [M_at, gb_some, a2, m_rd (by omega), nI_clamp (by omega), h.sz hf h0, e1, gbb2_some, gb_some, a5, m_rd (by omega), nI_clamp (by omega), glet_eq, a9, m_rd (by omega), m_rd (by omega), nI_clamp (by omega), glet_eq]
  have h2 := RM_ld (B' := as (fr A f (A 5 f)) 7 f 1) h1 hf (v := 1) (as_eq _ _ _ _) (fun k' i q => as_ne _ _ q)
  have h9 : upd s1 (b + 192 + 6 * f + 5) 1 (b + 243) = nI (A 9 1) := by
    have := h2.2.2.2 1 (by decide)
    rw [as_ne _ _ (by omega), fr_row (by decide) (by decide)] at this
    exact this
  rw [h9, nI_add]
  exact ⟨_, rfl, RM_tt (B' := gv A f) (j := 1) h2 (by decide) (as_eq _ _ _ _) (fun k' i q => as_ne _ _ q), (o1.up (by omega) (by omega)).up (by omega) (by omega)⟩
