/-! MATHEMATICS, 7: modes; sync, close, open on both sides. -/
section MODE
variable {A : Nat → Nat → Nat}
theorem IA_mode (hI : IA A) {f m : Nat} (h0 : A 3 f ≠ 0) (hm : m = 1 ∨ m = 2) : IA (as A 3 f m) := by
  have hne : ∀ g, as A 3 f m 3 g ≠ 0 ↔ A 3 g ≠ 0 := by
    intro g
    by_cases e : g = f
    · subst e; rw [as_eq]; omega
    · rw [as_ne _ _ (by omega)]
  refine IA_of ⟨fun k hk => ?_, fun g i hg hi => ?_, fun k j hk hj ho e1 e2 => ?_, fun g hg => ?_⟩ (fun g hg => ?_) ?_
  · have q := hI.1 k hk
    rw [as_ne (k' := 1) _ _ (by omega), as_ne (k' := 0) _ _ (by omega), as_ne (k' := 2) _ _ (by omega), as_ne (k' := 4) _ _ (by omega), hne]
    exact q
  · rw [as_ne (k' := 4) _ _ (by omega)] at hi
    obtain ⟨k, hk, ho, hx⟩ := hI.2.1 g i hg hi
    exact ⟨k, hk, by rw [as_ne _ _ (by omega)]; exact ho, by rw [as_ne _ _ (by omega)]; exact hx⟩
  · rw [as_ne _ _ (by omega)] at ho
    rw [as_ne _ _ (by omega), as_ne _ _ (by omega)] at e1 e2
    exact hI.2.2.1 k j hk hj ho e1 e2
  · have q := hI.2.2.2.1 g hg
    rw [as_ne (k' := 4) _ _ (by omega)]
    by_cases e : g = f
    · subst e; rw [as_eq]; omega
    · rw [as_ne _ _ (by omega)]; omega
  · have q := hI.2.2.2.1 g hg
    have h3 := hne g
    rw [as_ne (k' := 4) _ _ (by omega), as_ne (k' := 5) _ _ (by omega), as_ne (k' := 6) _ _ (by omega), as_ne (k' := 7) _ _ (by omega)]
    omega
  · rw [as_ne (k' := 8) _ _ (by omega), as_ne (k' := 8) _ _ (by omega)]; exact hI.2.2.2.2
end MODE
section FILES
variable {d : Nat → Nat → Int32} {A : Nat → Nat → Nat} {s t g : Nat → Int32}
-- sync
def syA (A : Nat → Nat → Nat) (f : Nat) : Nat → Nat → Nat := as A 6 f (A 5 f)
theorem IA_sync (hI : IA A) {f : Nat} : IA (syA A f) := IA_as hI (Or.inr (Or.inl rfl)) (fun e => absurd e (by decide)) (fun _ _ _ => Nat.le_refl _)
theorem C_sync (h : RC d A) (hI : IA A) {f : Nat} (hf : f < 8) (h2 : A 3 f = 2) : ∃ d', f_X0_syncFile d (nI f) = some (nI (A 5 f - A 6 f), d') ∧ RC d' (syA A f) := by
  have hm := hI.2.2.2.1 f hf
  unfold f_X0_syncFile
  rw [C_isFile h hI hf, gb_some, if_neg (by rw [if_neg (by omega)]; decide), C_isOpen h hI hf, gb_some, if_neg (by rw [if_pos h2]; decide), f_at_in (by decide) _ hf, gb_some, f_at_in (by decide) _ hf, gb_some, glet_eq, gb_some, f_put_in (by decide) _ hf, gb_some, glet_eq, h.sz hf, h.sf hf, nI_sub (by omega)]
  exact ⟨_, rfl, RC_set h (by decide) (by decide) (as_eq _ _ _ _) (fun k' i q => as_ne _ _ q)⟩
-- close
def clA (A : Nat → Nat → Nat) (f : Nat) : Nat → Nat → Nat := as (as (gv A f) 6 f (A 5 f)) 3 f 1
theorem gv_md (A : Nat → Nat → Nat) (f i : Nat) : gv A f 3 i = A 3 i := by rw [gv_low _ _ (by decide) (by decide), fr_row (by decide) (by decide)]
theorem gv_sz (A : Nat → Nat → Nat) (f i : Nat) : gv A f 5 i = A 5 i := by rw [gv_low _ _ (by decide) (by decide), fr_row (by decide) (by decide)]
theorem IA_close (hI : IA A) {f : Nat} (hf : f < 8) (h2 : A 3 f = 2) : IA (clA A f) := by
  refine IA_mode (IA_as (IA_gv hI hf) (Or.inr (Or.inl rfl)) (fun e => absurd e (by decide)) (fun _ _ _ => ?_)) ?_ (Or.inl rfl)
  · rw [gv_sz]; exact Nat.le_refl _
  · rw [as_ne _ _ (by omega), gv_md]; omega
theorem C_close (h : RC d A) (hI : IA A) {f : Nat} (hf : f < 8) (h2 : A 3 f = 2) : ∃ d', f_X0_closeFile d (nI f) = some (nI (A 4 f - A 5 f), d') ∧ RC d' (clA A f) := by
  obtain ⟨d1, e1, h1⟩ := C_giveBack h hI hf
  unfold f_X0_closeFile
  rw [C_isFile h hI hf, gb_some, if_neg (by rw [if_neg (by omega)]; decide), C_isOpen h hI hf, gb_some, if_neg (by rw [if_pos h2]; decide), e1, gbb2_some, f_at_in (by decide) _ hf, gb_some, f_put_in (by decide) _ hf, gb_some, glet_eq, f_put_in (by decide) _ hf, gb_some, glet_eq, h1.sz hf, gv_sz]
  have h3 := RC_set (B' := as (gv A f) 6 f (A 5 f)) h1 (k := 6) (j := f) (v := A 5 f) (by decide) (by decide) (as_eq _ _ _ _) (fun k' i q => as_ne _ _ q)
  exact ⟨_, rfl, RC_set (B' := clA A f) h3 (k := 3) (j := f) (v := 1) (by decide) (by decide) (as_eq _ _ _ _) (fun k' i q => as_ne _ _ q)⟩
-- open
def opA (A : Nat → Nat → Nat) (f : Nat) : Nat → Nat → Nat := as A 3 f 2
theorem IA_open (hI : IA A) {f : Nat} (h0 : A 3 f ≠ 0) : IA (opA A f) := IA_mode hI h0 (Or.inr rfl)
theorem C_open (h : RC d A) (hI : IA A) {f : Nat} (hf : f < 8) (h1 : A 3 f = 1) : ∃ d', f_X0_openFile d (nI f) = some (nI (ct (fun f' => opA A f 3 f' = 2) 8), d') ∧ RC d' (opA A f) := by
  unfold f_X0_openFile
  have h3 := RC_set (B' := opA A f) h (k := 3) (j := f) (v := 2) (by decide) (by decide) (as_eq _ _ _ _) (fun k' i q => as_ne _ _ q)
  rw [C_isFile h hI hf, gb_some, if_neg (by rw [if_neg (by omega)]; decide), C_isOpen h hI hf, gb_some, if_pos (by rw [if_neg (by omega)]), f_put_in (by decide) _ hf, gb_some, glet_eq]
  have h4 := C_filesThatAre h3 (IA_open hI (by omega)) 2 (by decide)
  have h5 : f_X0_filesThatAre (va_up d 3 (upd (d 3) f 2)) 2 = some (nI (ct (fun f' => opA A f 3 f' = 2) 8)) := h4
  rw [h5, gb_some]
  exact ⟨_, rfl, h3⟩
end FILES
