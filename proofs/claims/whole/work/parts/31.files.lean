/-! MATHEMATICS, 7: modes; sync, close, open on both sides. -/
section MODE
variable {A : Nat → Nat → Nat}
theorem IA_mode (hI : IA A) {f m : Nat} (h0 : A 3 f ≠ 0) (hm : m = 1 ∨ m = 2) : IA (as A 3 f m) := by
  have hne : ∀ g, as A 3 f m 3 g ≠ 0 ↔ A 3 g ≠ 0 := by
    intro g
    by_cases e : g = f
    · subst e; rw [as_eq]; omega
    · rw [as_ne _ _ (by omega)]
  refine IA_of ⟨fun k hk => ?_, fun g i hg hi => ?_, fun k j hk hj ho e1 e2 => ?_, fun g hg => ?_⟩ (fun g hg => ?_) ?_
  · have q := hI.1 k hk
    rw [as_ne (k' := 1) _ _ (by omega), as_ne (k' := 0) _ _ (by omega), as_ne (k' := 2) _ _ (by omega), as_ne (k' := 4) _ _ (by omega), hne]
    exact q
  · rw [as_ne (k' := 4) _ _ (by omega)] at hi
    obtain ⟨k, hk, ho, hx⟩ := hI.2.1 g i hg hi
    exact ⟨k, hk, by rw [as_ne _ _ (by omega)]; exact ho, by rw [as_ne _ _ (by omega)]; exact hx⟩
  · rw [as_ne _ _ (by omega)] at ho
    rw [as_ne _ _ (by omega), as_ne _ _ (by omega)] at e1 e2
    exact hI.2.2.1 k j hk hj ho e1 e2
  · have q := hI.2.2.2.1 g hg
    rw [as_ne (k' := 4) _ _ (by omega)]
    by_cases e : g = f
    · subst e; rw [as_eq]; omega
    · rw [as_ne _ _ (by omega)]; omega
  · have q := hI.2.2.2.1 g hg
    have h3 := hne g
    rw [as_ne (k' := 4) _ _ (by omega), as_ne (k' := 5) _ _ (by omega), as_ne (k' := 6) _ _ (by omega), as_ne (k' := 7) _ _ (by omega)]
    omega
  · rw [as_ne (k' := 8) _ _ (by omega), as_ne (k' := 8) _ _ (by omega)]; exact hI.2.2.2.2
theorem RM_mode {s : Nat → Int32} {b : Nat} {B B' : Nat → Nat → Nat} (h : RM s b B) {j : Nat} (hj : j < 8) (h0 : B 3 j ≠ 0) (h1 : B' 3 j ≠ 0) {v : Int32} (hv : v = if B' 3 j = 2 then 1 else 0) (hN : ∀ k' i, ¬ (k' = 3 ∧ i = j) → B' k' i = B k' i) : RM (upd s (b + 192 + 6 * j + 4) v) b B' := by
  have hne : ∀ g, B' 3 g ≠ 0 → B 3 g ≠ 0 := fun g hg => by
    by_cases e : g = j
    · subst e; exact h0
    · rw [← hN 3 g (by omega)]; exact hg
  refine ⟨fun i hi => ⟨?_, ?_, ?_⟩, fun f hf => ⟨?_, ?_, fun g0 => ⟨?_, ?_, ?_, ?_⟩⟩, fun i hi => ?_, fun i hi => ?_⟩
  · rw [upd_ne _ _ (by omega), hN 0 i (by omega)]; exact (h.1 i hi).1
  · rw [upd_ne _ _ (by omega), hN 1 i (by omega)]; exact h.own hi
  · intro h8
    rw [hN 1 i (by omega)] at h8
    rw [upd_ne _ _ (by omega), hN 2 i (by omega)]; exact h.ix hi h8
  · rw [upd_ne _ _ (by omega), h.ex hf]
    by_cases e : f = j
    · subst e; rw [if_neg h0, if_neg h1]
    · rw [hN 3 f (by omega)]
  · rw [upd_ne _ _ (by omega), hN 4 f (by omega)]; exact h.ln hf
  · rw [upd_ne _ _ (by omega), hN 5 f (by omega)]; exact h.sz hf (hne f g0)
  · rw [upd_ne _ _ (by omega), hN 6 f (by omega)]; exact h.sf hf (hne f g0)
  · by_cases e : f = j
    · subst e; rw [upd_eq]; exact hv
    · rw [upd_ne _ _ (by omega), hN 3 f (by omega)]; exact h.op hf (hne f g0)
  · rw [upd_ne _ _ (by omega), hN 7 f (by omega)]; exact h.ld hf (hne f g0)
  · rw [upd_ne _ _ (by omega), hN 8 i (by omega)]; exact h.2.2.1 i hi
  · rw [upd_ne _ _ (by omega), hN 9 i (by omega)]; exact h.2.2.2 i hi
end MODE
section FILES
variable {d : Nat → Nat → Int32} {A : Nat → Nat → Nat} {s t g : Nat → Int32}
-- what the reference says of a refusal
theorem M_openError (h : RM s 0 A) (hI : IA A) {f : Nat} (hf : f < 8) : f_X6_openError s t g (nI f) = some (if A 3 f = 0 then -1 else if A 3 f = 2 then -4 else 0) := by
  unfold f_X6_openError
  rw [M_isThere h hf, gb_some]
  by_cases e : A 3 f = 0
  · rw [if_pos e, if_pos rfl, if_pos e]
  · rw [if_neg e, if_neg (by decide), M_isOpen h hf e, gb_some, if_neg e]
    by_cases e2 : A 3 f = 2
    · rw [if_pos e2, if_neg (by decide), if_pos e2]
    · rw [if_neg e2, if_pos rfl, if_neg e2]
theorem M_openError_out {v : Int32} (h : v < 0 ∨ nI 8 ≤ v) : f_X6_openError s t g v = some (-1) := by
  unfold f_X6_openError
  rw [M_isThere_out h, gb_some, if_pos rfl]
theorem M_closeError (h : RM s 0 A) (hI : IA A) {f : Nat} (hf : f < 8) : f_X6_closeError s t g (nI f) = some (if A 3 f = 0 then -1 else if A 3 f = 2 then 0 else -4) := by
  unfold f_X6_closeError
  rw [M_isThere h hf, gb_some]
  by_cases e : A 3 f = 0
  · rw [if_pos e, if_pos rfl, if_pos e]
  · rw [if_neg e, if_neg (by decide), M_isOpen h hf e, gb_some, if_neg e]
    by_cases e2 : A 3 f = 2
    · rw [if_pos e2, if_neg (by decide), if_pos e2]
    · rw [if_neg e2, if_pos rfl, if_neg e2]
theorem M_closeError_out {v : Int32} (h : v < 0 ∨ nI 8 ≤ v) : f_X6_closeError s t g v = some (-1) := by
  unfold f_X6_closeError
  rw [M_isThere_out h, gb_some, if_pos rfl]
-- sync
def syA (A : Nat → Nat → Nat) (f : Nat) : Nat → Nat → Nat := as A 6 f (A 5 f)
theorem IA_sync (hI : IA A) {f : Nat} : IA (syA A f) := IA_as hI (Or.inr (Or.inl rfl)) (fun e => absurd e (by decide)) (fun _ _ _ => Nat.le_refl _)
theorem C_sync (h : RC d A) (hI : IA A) {f : Nat} (hf : f < 8) (h2 : A 3 f = 2) : ∃ d', f_X0_syncFile d (nI f) = some (nI (A 5 f - A 6 f), d') ∧ RC d' (syA A f) := by
  have hm := hI.2.2.2.1 f hf
  unfold f_X0_syncFile
  rw [C_isFile h hI hf, gb_some, if_neg (by rw [if_neg (by omega)]; decide), C_isOpen h hI hf, gb_some, if_neg (by rw [if_pos h2]; decide), f_at_in (by decide) _ hf, gb_some, f_at_in (by decide) _ hf, gb_some, glet_eq, gb_some, f_put_in (by decide) _ hf, gb_some, glet_eq, h.sz hf, h.sf hf, nI_sub (by omega)]
  exact ⟨_, rfl, RC_set h (by decide) (by decide) (as_eq _ _ _ _) (fun k' i q => as_ne _ _ q)⟩
theorem M_sync (h : RM s 0 A) (hI : IA A) {f : Nat} (hf : f < 8) (h2 : A 3 f = 2) : ∃ s', f_X6_syncs s t g (nI f) = some (nI (A 5 f - A 6 f), s') ∧ RM s' 0 (syA A f) ∧ Out 0 s s' := by
  have hm := hI.2.2.2.1 f hf
  unfold f_X6_syncs
  have a2 : nI (0 + 192 + 6 * f) + 2 = nI (0 + 192 + 6 * f + 2) := nI_add _ 2
  have a3 : nI (0 + 192 + 6 * f) + 3 = nI (0 + 192 + 6 * f + 3) := nI_add _ 3
  rw [show f_X6_at 0 (nI f) = some (nI (0 + 192 + 6 * f)) from M_at 0 f, gb_some, a2, a3, m_rd (by omega), m_rd (by omega), glet_eq, m_rd (by omega), m_rd (by omega), glet_eq, nI_clamp (by omega), nI_clamp (by omega), h.sz hf (by omega), h.sf hf (by omega), nI_sub (by omega)]
  exact ⟨_, rfl, RM_sf h hf (as_eq _ _ _ _) (fun k' i q => as_ne _ _ q), Out.rf.up (by omega) (by omega)⟩
-- close
def clA (A : Nat → Nat → Nat) (f : Nat) : Nat → Nat → Nat := as (as (gv A f) 6 f (A 5 f)) 3 f 1
theorem gv_md (A : Nat → Nat → Nat) (f i : Nat) : gv A f 3 i = A 3 i := by rw [gv_low _ _ (by decide) (by decide), fr_row (by decide) (by decide)]
theorem gv_sz (A : Nat → Nat → Nat) (f i : Nat) : gv A f 5 i = A 5 i := by rw [gv_low _ _ (by decide) (by decide), fr_row (by decide) (by decide)]
theorem IA_close (hI : IA A) {f : Nat} (hf : f < 8) (h2 : A 3 f = 2) : IA (clA A f) := by
  refine IA_mode (IA_as (IA_gv hI hf) (Or.inr (Or.inl rfl)) (fun e => absurd e (by decide)) (fun _ _ _ => ?_)) ?_ (Or.inl rfl)
  · rw [gv_sz]; exact Nat.le_refl _
  · rw [as_ne _ _ (by omega), gv_md]; omega
theorem C_close (h : RC d A) (hI : IA A) {f : Nat} (hf : f < 8) (h2 : A 3 f = 2) : ∃ d', f_X0_closeFile d (nI f) = some (nI (A 4 f - A 5 f), d') ∧ RC d' (clA A f) := by
  obtain ⟨d1, e1, h1⟩ := C_giveBack h hI hf
  unfold f_X0_closeFile
  rw [C_isFile h hI hf, gb_some, if_neg (by rw [if_neg (by omega)]; decide), C_isOpen h hI hf, gb_some, if_neg (by rw [if_pos h2]; decide), e1, gbb2_some, f_at_in (by decide) _ hf, gb_some, f_put_in (by decide) _ hf, gb_some, glet_eq, f_put_in (by decide) _ hf, gb_some, glet_eq, h1.sz hf, gv_sz]
  have h3 := RC_set (B' := as (gv A f) 6 f (A 5 f)) h1 (k := 6) (j := f) (v := A 5 f) (by decide) (by decide) (as_eq _ _ _ _) (fun k' i q => as_ne _ _ q)
  exact ⟨_, rfl, RC_set (B' := clA A f) h3 (k := 3) (j := f) (v := 1) (by decide) (by decide) (as_eq _ _ _ _) (fun k' i q => as_ne _ _ q)⟩
theorem M_close (h : RM s 0 A) (hI : IA A) {f : Nat} (hf : f < 8) (h2 : A 3 f = 2) : ∃ s', f_X6_closes s t g (nI f) = some (nI (A 4 f - A 5 f), s') ∧ RM s' 0 (clA A f) ∧ Out 0 s s' := by
  obtain ⟨s1, e1, h1, o1⟩ := M_givesBack (t := t) (g := g) h hI (by omega) hf (by omega)
  unfold f_X6_closes
  have a2 : nI (0 + 192 + 6 * f) + 2 = nI (0 + 192 + 6 * f + 2) := nI_add _ 2
  have a3 : nI (0 + 192 + 6 * f) + 3 = nI (0 + 192 + 6 * f + 3) := nI_add _ 3
  have a4 : nI (0 + 192 + 6 * f) + 4 = nI (0 + 192 + 6 * f + 4) := nI_add _ 4
  have e0 : f_X6_givesBack s t g 0 (nI f) = some (nI (A 4 f - A 5 f), s1) := e1
  rw [e0, gbb2_some, show f_X6_at 0 (nI f) = some (nI (0 + 192 + 6 * f)) from M_at 0 f, gb_some, gb_some, a2, a3, m_rd (by omega), m_rd (by omega), nI_clamp (by omega), nI_clamp (by omega), glet_eq, gb_some, a4, m_rd (by omega), nI_clamp (by omega), glet_eq, h1.sz hf (by rw [gv_md]; omega), gv_sz]
  have h3 := RM_sf (B' := as (gv A f) 6 f (A 5 f)) h1 hf (as_eq _ _ _ _) (fun k' i q => as_ne _ _ q)
  refine ⟨_, rfl, RM_mode (B' := clA A f) h3 hf ?_ ?_ ?_ (fun k' i q => as_ne _ _ q), (o1.up (by omega) (by omega)).up (by omega) (by omega)⟩
  · rw [as_ne _ _ (by omega), gv_md]; omega
  · unfold clA; rw [as_eq]; decide
  · unfold clA; rw [as_eq]; rfl
-- open
def opA (A : Nat → Nat → Nat) (f : Nat) : Nat → Nat → Nat := as A 3 f 2
theorem IA_open (hI : IA A) {f : Nat} (h0 : A 3 f ≠ 0) : IA (opA A f) := IA_mode hI h0 (Or.inr rfl)
theorem C_open (h : RC d A) (hI : IA A) {f : Nat} (hf : f < 8) (h1 : A 3 f = 1) : ∃ d', f_X0_openFile d (nI f) = some (nI (ct (fun f' => opA A f 3 f' = 2) 8), d') ∧ RC d' (opA A f) := by
  unfold f_X0_openFile
  have h3 := RC_set (B' := opA A f) h (k := 3) (j := f) (v := 2) (by decide) (by decide) (as_eq _ _ _ _) (fun k' i q => as_ne _ _ q)
  rw [C_isFile h hI hf, gb_some, if_neg (by rw [if_neg (by omega)]; decide), C_isOpen h hI hf, gb_some, if_pos (by rw [if_neg (by omega)]), f_put_in (by decide) _ hf, gb_some, glet_eq]
  have h4 := C_filesThatAre h3 (IA_open hI (by omega)) 2 (by decide)
  have h5 : f_X0_filesThatAre (va_up d 3 (upd (d 3) f 2)) 2 = some (nI (ct (fun f' => opA A f 3 f' = 2) 8)) := h4
  rw [h5, gb_some]
  exact ⟨_, rfl, h3⟩
theorem M_open (h : RM s 0 A) (hI : IA A) {f : Nat} (hf : f < 8) (h1 : A 3 f = 1) : ∃ s', f_X6_opens s t g (nI f) = some (nI (ct (fun f' => opA A f 3 f' = 2) 8), s') ∧ RM s' 0 (opA A f) ∧ Out 0 s s' := by
  unfold f_X6_opens
  have a4 : nI (0 + 192 + 6 * f) + 4 = nI (0 + 192 + 6 * f + 4) := nI_add _ 4
  have h3 := RM_mode (B' := opA A f) h hf (v := 1) (by omega) (by unfold opA; rw [as_eq]; decide) (by unfold opA; rw [as_eq]; rfl) (fun k' i q => as_ne _ _ q)
  rw [show f_X6_at 0 (nI f) = some (nI (0 + 192 + 6 * f)) from M_at 0 f, gb_some, a4, m_rd (by omega), nI_clamp (by omega), glet_eq, M_opened h3, gb_some]
  exact ⟨_, rfl, h3, Out.rf.up (by omega) (by omega)⟩
end FILES
