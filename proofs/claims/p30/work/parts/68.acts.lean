/-! THE ACTS KEEP WHAT HOLDS OF A DISK (totals, lends of closed files). -/
section GAS
variable {A X : Nat → Nat → Nat} {T : Nat}
theorem GA_low (hG : GA A T) (hI : IA X) (h5 : ∀ i, i < 8 → X 5 i ≤ A 5 i) (h90 : X 9 0 = A 9 0) (h91 : A 9 1 ≤ X 9 1 ∧ X 9 1 ≤ A 9 1 + 512) (h92 : X 9 2 = A 9 2) (h93 : X 9 3 ≤ A 9 3 + 512) (hl : ∀ f, f < 8 → X 3 f = 1 → X 7 f = 1) : GA X (T + 1024) := by
  obtain ⟨g1, g2, g3, g4, g5⟩ := hG
  have s := sm_le (w := X 5) (v := A 5) (n := 8) h5
  refine ⟨hI, by omega, by omega, fun i hi => ?_, hl⟩
  have z0 := g4 0 (by decide)
  have z1 := g4 1 (by decide)
  have z2 := g4 2 (by decide)
  have z3 := g4 3 (by decide)
  rcases (show i = 0 ∨ i = 1 ∨ i = 2 ∨ i = 3 by omega) with e | e | e | e <;> subst e <;> omega
theorem gv_tt (A : Nat → Nat → Nat) (f i : Nat) : gv A f 9 i = if i = 1 then A 9 1 + (A 4 f - A 5 f) else A 9 i := by
  unfold gv
  by_cases e : i = 1
  · subst e; rw [as_eq, if_pos rfl]
  · rw [as_ne _ _ (fun q => e q.2), as_ne _ _ (by omega), fr_row (by decide) (by decide), if_neg e]
theorem GA_as (hG : GA A T) {k i v : Nat} (hI : IA (as A k i v)) (h : k = 6 ∨ k = 8) : GA (as A k i v) (T + 1024) := by
  refine GA_low hG hI (fun q _ => ?_) ?_ ?_ ?_ ?_ (fun f hf h3 => ?_)
  · rw [as_ne _ _ (by omega)]; exact Nat.le_refl _
  · rw [as_ne _ _ (by omega)]
  · rw [as_ne _ _ (by omega)]; omega
  · rw [as_ne _ _ (by omega)]
  · rw [as_ne _ _ (by omega)]; omega
  · rw [as_ne _ _ (by omega)] at h3
    rw [as_ne _ _ (by omega)]; exact hG.2.2.2.2 f hf h3
theorem GA_open (hG : GA A T) {f : Nat} (h0 : A 3 f ≠ 0) : GA (opA A f) (T + 1024) := by
  have hI := IA_open hG.1 h0
  unfold opA at hI ⊢
  refine GA_low hG hI (fun q _ => ?_) ?_ ?_ ?_ ?_ (fun q hq h3 => ?_)
  · rw [as_ne _ _ (by omega)]; exact Nat.le_refl _
  · rw [as_ne _ _ (by omega)]
  · rw [as_ne _ _ (by omega)]; omega
  · rw [as_ne _ _ (by omega)]
  · rw [as_ne _ _ (by omega)]; omega
  · by_cases e : q = f
    · subst e; rw [as_eq] at h3; omega
    · rw [as_ne _ _ (by omega)] at h3
      rw [as_ne _ _ (by omega)]; exact hG.2.2.2.2 q hq h3
theorem GA_close (hG : GA A T) {f : Nat} (hf : f < 8) (h2 : A 3 f = 2) : GA (clA A f) (T + 1024) := by
  have hI := IA_close hG.1 hf h2
  have hm := hG.1.2.2.2.1 f hf
  unfold clA at hI ⊢
  have e9 : ∀ i, as (as (gv A f) 6 f (A 5 f)) 3 f 1 9 i = if i = 1 then A 9 1 + (A 4 f - A 5 f) else A 9 i := fun i => by
    rw [as_ne _ _ (by omega), as_ne _ _ (by omega), gv_tt]
  refine GA_low hG hI (fun q _ => ?_) ?_ ?_ ?_ ?_ (fun q hq h3 => ?_)
  · rw [as_ne _ _ (by omega), as_ne _ _ (by omega), gv_sz]; exact Nat.le_refl _
  · rw [e9, if_neg (by decide)]
  · rw [e9, if_pos rfl]; omega
  · rw [e9, if_neg (by decide)]
  · rw [e9, if_neg (by decide)]; omega
  · rw [as_ne _ _ (by omega), as_ne _ _ (by omega), gv_lend]
    by_cases e : q = f
    · rw [if_pos e]
    · rw [as_ne _ _ (by omega), as_ne _ _ (by omega), gv_md] at h3
      rw [if_neg e]; exact hG.2.2.2.2 q hq h3
theorem GA_remove (hG : GA A T) {f : Nat} (hf : f < 8) : GA (rmA A f) (T + 1024) := by
  have hI := IA_remove hG.1 hf
  have e9 : ∀ i, rmA A f 9 i = A 9 i := fun i => by
    unfold rmA
    rw [as_ne _ _ (by omega), as_ne _ _ (by omega), fr_row (by decide) (by decide)]
  refine GA_low hG hI (fun q _ => ?_) (e9 0) ?_ (e9 2) ?_ (fun q hq h3 => ?_)
  · unfold rmA
    rw [as_ne _ _ (by omega)]
    by_cases e : q = f
    · subst e; rw [as_eq]; exact Nat.zero_le _
    · rw [as_ne _ _ (by omega), fr_row (by decide) (by decide)]; exact Nat.le_refl _
  · rw [e9]; omega
  · rw [e9]; omega
  · unfold rmA at h3 ⊢
    by_cases e : q = f
    · subst e; rw [as_eq] at h3; omega
    · rw [as_ne _ _ (by omega), as_ne _ _ (by omega), fr_row (by decide) (by decide)] at h3
      rw [as_ne _ _ (by omega), as_ne _ _ (by omega), fr_row (by decide) (by decide)]; exact hG.2.2.2.2 q hq h3
theorem GA_cut (hG : GA A T) {f n : Nat} (hf : f < 8) (hn : n ≤ A 5 f) : GA (cuA A f n) (T + 1024) := by
  have hI := IA_cut hG.1 hf hn
  have hm := hG.1.2.2.2.1 f hf
  have e9 : ∀ i, cuA A f n 9 i = if i = 1 then A 9 1 + (A 4 f - A 5 f) else A 9 i := fun i => by
    unfold cuA
    rw [as_ne _ _ (by omega), as_ne _ _ (by omega), fr_row (by decide) (by decide), gv_tt]
  refine GA_low hG hI (fun q _ => ?_) ?_ ?_ ?_ ?_ (fun q hq h3 => ?_)
  · unfold cuA
    rw [as_ne _ _ (by omega)]
    by_cases e : q = f
    · subst e; rw [as_eq]; exact hn
    · rw [as_ne _ _ (by omega), fr_row (by decide) (by decide), gv_sz]; exact Nat.le_refl _
  · rw [e9, if_neg (by decide)]
  · rw [e9, if_pos rfl]; omega
  · rw [e9, if_neg (by decide)]
  · rw [e9, if_neg (by decide)]; omega
  · unfold cuA at h3 ⊢
    rw [as_ne _ _ (by omega), as_ne _ _ (by omega), fr_row (by decide) (by decide), gv_md] at h3
    rw [as_ne _ _ (by omega), as_ne _ _ (by omega), fr_row (by decide) (by decide), gv_lend]
    by_cases e : q = f
    · rw [if_pos e]
    · rw [if_neg e]; exact hG.2.2.2.2 q hq h3
theorem GA_create (hG : GA A T) {f : Nat} (hf : f < 8) (h0 : A 3 f = 0) : GA (neA A f) (T + 1024) := by
  refine GA_low hG (IA_create hG.1 hf h0) (fun q _ => ?_) (neA_far (by omega)) ?_ (neA_far (by omega)) ?_ (fun q hq h3 => ?_)
  · by_cases e : q = f
    · subst e; rw [neA_5]; exact Nat.zero_le _
    · rw [neA_far (by omega)]; exact Nat.le_refl _
  · rw [neA_far (by omega)]; omega
  · rw [neA_far (by omega)]; omega
  · by_cases e : q = f
    · subst e; rw [neA_7]
    · rw [neA_far (by omega)] at h3
      rw [neA_far (by omega)]; exact hG.2.2.2.2 q hq h3
-- a crash, told at once
def crF (A : Nat → Nat → Nat) (j : Nat) : Nat → Nat → Nat := fun k i => if i < j ∧ A 3 i ≠ 0 then (if k = 5 then A 6 i else if k = 7 then 1 else if k = 3 then 1 else A k i) else A k i
theorem crJ_eq (A : Nat → Nat → Nat) : ∀ j, crJ A j = crF A j := by
  intro j
  induction j with
  | zero => funext k i; unfold crF; rw [if_neg (by omega)]; rfl
  | succ j ih =>
    have e3 : crF A j 3 j = A 3 j := by unfold crF; rw [if_neg (by omega)]
    have e6 : crF A j 6 j = A 6 j := by unfold crF; rw [if_neg (by omega)]
    show (if crJ A j 3 j = 0 then crJ A j else cr1 (crJ A j) j) = crF A (j + 1)
    rw [ih, e3]
    funext k i
    by_cases c : A 3 j = 0
    · rw [if_pos c]
      unfold crF
      by_cases c2 : i < j ∧ A 3 i ≠ 0
      · rw [if_pos c2, if_pos (show i < j + 1 ∧ A 3 i ≠ 0 from ⟨by omega, c2.2⟩)]
      · rw [if_neg c2, if_neg]
        rintro ⟨q1, q2⟩
        by_cases e : i = j
        · subst e; exact q2 c
        · exact c2 ⟨by omega, q2⟩
    · rw [if_neg c]
      by_cases e : i = j
      · subst e
        have e9 : crF A (i + 1) k i = if k = 5 then A 6 i else if k = 7 then 1 else if k = 3 then 1 else A k i := by unfold crF; rw [if_pos ⟨by omega, c⟩]
        have e8 : crF A i k i = A k i := by unfold crF; rw [if_neg (by omega)]
        rw [e9]
        unfold cr1
        by_cases k3 : k = 3
        · subst k3; rw [as_eq]; rfl
        · rw [as_ne _ _ (by omega)]
          by_cases k7 : k = 7
          · subst k7; rw [as_eq]; rfl
          · rw [as_ne _ _ (by omega)]
            by_cases k5 : k = 5
            · subst k5; rw [as_eq, e6]; rfl
            · rw [as_ne _ _ (by omega), e8, if_neg k5, if_neg k7, if_neg k3]
      · unfold cr1
        rw [as_ne _ _ (by omega), as_ne _ _ (by omega), as_ne _ _ (by omega)]
        unfold crF
        by_cases c2 : i < j ∧ A 3 i ≠ 0
        · rw [if_pos c2, if_pos (show i < j + 1 ∧ A 3 i ≠ 0 from ⟨by omega, c2.2⟩)]
        · rw [if_neg c2, if_neg (fun q => c2 ⟨by omega, q.2⟩)]
def duI (A : Nat → Nat → Nat) (i : Nat) : Nat := if A 3 i = 0 then 0 else A 5 i - A 6 i
theorem crN_eq (A : Nat → Nat → Nat) : ∀ j, crN A j = sm (duI A) j := by
  intro j
  induction j with
  | zero => rfl
  | succ j ih =>
    have e : ∀ k, crF A j k j = A k j := fun k => by unfold crF; rw [if_neg (by omega)]
    show crN A j + (if crJ A j 3 j = 0 then 0 else crJ A j 5 j - crJ A j 6 j) = sm (duI A) j + duI A j
    rw [ih, crJ_eq, e, e, e]; rfl
theorem crA_row (A : Nat → Nat → Nat) {k i : Nat} (h5 : k ≠ 5) (h7 : k ≠ 7) (h3 : k ≠ 3) (h9 : k ≠ 9) : crA A k i = A k i := by
  unfold crA
  rw [as_ne _ _ (fun q => h9 q.1), crJ_eq]
  unfold crF
  by_cases c : i < 8 ∧ A 3 i ≠ 0
  · rw [if_pos c, if_neg h5, if_neg h7, if_neg h3]
  · rw [if_neg c]
theorem crA_sz {i : Nat} (hi : i < 8) : crA A 5 i = if A 3 i = 0 then A 5 i else A 6 i := by
  unfold crA
  rw [as_ne _ _ (by omega), crJ_eq]
  unfold crF
  by_cases c : A 3 i = 0
  · rw [if_neg (fun q => q.2 c), if_pos c]
  · rw [if_pos ⟨hi, c⟩, if_pos rfl, if_neg c]
theorem crA_md {i : Nat} (hi : i < 8) : crA A 3 i = if A 3 i = 0 then 0 else 1 := by
  unfold crA
  rw [as_ne _ _ (by omega), crJ_eq]
  unfold crF
  by_cases c : A 3 i = 0
  · rw [if_neg (fun q => q.2 c), if_pos c, c]
  · rw [if_pos ⟨hi, c⟩, if_neg (by decide), if_neg (by decide), if_pos rfl, if_neg c]
theorem crA_ld {i : Nat} (hi : i < 8) (h : A 3 i ≠ 0) : crA A 7 i = 1 := by
  unfold crA
  rw [as_ne _ _ (by omega), crJ_eq]
  unfold crF
  rw [if_pos ⟨hi, h⟩, if_neg (by decide), if_pos rfl]
theorem crA_tt (i : Nat) : crA A 9 i = if i = 3 then A 9 3 + sm (duI A) 8 else A 9 i := by
  have e : ∀ i, crF A 8 9 i = A 9 i := fun i => by
    unfold crF
    by_cases c : i < 8 ∧ A 3 i ≠ 0
    · rw [if_pos c, if_neg (by decide), if_neg (by decide), if_neg (by decide)]
    · rw [if_neg c]
  unfold crA
  rw [crJ_eq, crN_eq]
  by_cases c : i = 3
  · subst c; rw [as_eq, if_pos rfl, e]
  · rw [as_ne _ _ (by omega), if_neg c, e]
theorem du_le (hI : IA A) : sm (duI A) 8 ≤ 512 := by
  have e := sm_le (w := duI A) (v := fun _ => 64) (n := 8) (fun i hi => by
    have z := hI.2.2.2.1 i hi
    unfold duI
    by_cases c : A 3 i = 0
    · rw [if_pos c]; omega
    · rw [if_neg c]; omega)
  rw [sm_const] at e
  exact e
theorem GA_crash (hG : GA A T) : GA (crA A) (T + 1024) := by
  have hd := du_le hG.1
  refine GA_low hG (IA_crash hG.1) (fun i hi => ?_) ?_ ?_ ?_ ?_ (fun f hf h3 => ?_)
  · have z := hG.1.2.2.2.1 i hi
    rw [crA_sz hi]
    by_cases c : A 3 i = 0
    · rw [if_pos c]; exact Nat.le_refl _
    · rw [if_neg c]; exact z.2.2.2.2.2.1 c
  · rw [crA_tt, if_neg (by decide)]
  · rw [crA_tt, if_neg (by decide)]; omega
  · rw [crA_tt, if_neg (by decide)]
  · rw [crA_tt, if_pos rfl]; omega
  · rw [crA_md hf] at h3
    refine crA_ld hf (fun q => ?_)
    rw [if_pos q] at h3; omega
-- mending, told at once
def leI (A : Nat → Nat → Nat) (i : Nat) : Nat := if A 3 i = 1 then A 4 i - A 5 i else 0
theorem md_all (A : Nat → Nat → Nat) : ∀ j, (∀ i, mdJ A j 5 i = A 5 i) ∧ (∀ i, mdJ A j 3 i = A 3 i) ∧ (∀ i, mdJ A j 6 i = A 6 i) ∧ (∀ i, mdJ A j 4 i = if i < j ∧ A 3 i = 1 then A 5 i else A 4 i) ∧ (∀ i, mdJ A j 7 i = if i < j ∧ A 3 i = 1 then 1 else A 7 i) ∧ (∀ i, mdJ A j 9 i = if i = 1 then A 9 1 + sm (leI A) j else A 9 i) ∧ mdN A j = sm (leI A) j := by
  intro j
  induction j with
  | zero => exact ⟨fun _ => rfl, fun _ => rfl, fun _ => rfl, fun i => by rw [if_neg (by omega)]; rfl, fun i => by rw [if_neg (by omega)]; rfl, fun i => by
      by_cases c : i = 1
      · rw [if_pos c, c]; rfl
      · rw [if_neg c]; rfl, rfl⟩
  | succ j ih =>
    obtain ⟨h5, h3, h6, h4, h7, h9, hN⟩ := ih
    have e4 : mdJ A j 4 j = A 4 j := by rw [h4, if_neg (by omega)]
    have eS : mdJ A (j + 1) = if A 3 j = 1 then gv (mdJ A j) j else mdJ A j := by
      show (if mdJ A j 3 j = 1 then gv (mdJ A j) j else mdJ A j) = _
      rw [h3]
    have eN : mdN A (j + 1) = sm (leI A) j + leI A j := by
      show mdN A j + (if mdJ A j 3 j = 1 then mdJ A j 4 j - mdJ A j 5 j else 0) = _
      rw [hN, h3, e4, h5]; rfl
    rw [eS]
    by_cases c : A 3 j = 1
    · have el : leI A j = A 4 j - A 5 j := by unfold leI; rw [if_pos c]
      rw [if_pos c]
      refine ⟨fun i => by rw [gv_sz, h5], fun i => by rw [gv_md, h3], fun i => by rw [gv_sf, h6], fun i => ?_, fun i => ?_, fun i => ?_, eN⟩
      · rw [gv_len, h5, h4]
        by_cases e : i = j
        · rw [if_pos e, if_pos ⟨by omega, by rw [e]; exact c⟩, e]
        · rw [if_neg e]
          by_cases c2 : i < j ∧ A 3 i = 1
          · rw [if_pos c2, if_pos ⟨by omega, c2.2⟩]
          · rw [if_neg c2, if_neg (fun q => c2 ⟨by omega, q.2⟩)]
      · rw [gv_lend, h7]
        by_cases e : i = j
        · rw [if_pos e, if_pos ⟨by omega, by rw [e]; exact c⟩]
        · rw [if_neg e]
          by_cases c2 : i < j ∧ A 3 i = 1
          · rw [if_pos c2, if_pos ⟨by omega, c2.2⟩]
          · rw [if_neg c2, if_neg (fun q => c2 ⟨by omega, q.2⟩)]
      · rw [gv_tt, h9, h9, e4, h5]
        by_cases e : i = 1
        · rw [if_pos e, if_pos e, if_pos rfl, sm_succ, el]; omega
        · rw [if_neg e, if_neg e, if_neg e]
    · have el : leI A j = 0 := by unfold leI; rw [if_neg c]
      rw [if_neg c]
      refine ⟨h5, h3, h6, fun i => ?_, fun i => ?_, fun i => ?_, eN⟩
      · rw [h4]
        by_cases c2 : i < j ∧ A 3 i = 1
        · rw [if_pos c2, if_pos ⟨by omega, c2.2⟩]
        · rw [if_neg c2, if_neg]
          rintro ⟨q1, q2⟩
          by_cases e : i = j
          · rw [e] at q2; exact c q2
          · exact c2 ⟨by omega, q2⟩
      · rw [h7]
        by_cases c2 : i < j ∧ A 3 i = 1
        · rw [if_pos c2, if_pos ⟨by omega, c2.2⟩]
        · rw [if_neg c2, if_neg]
          rintro ⟨q1, q2⟩
          by_cases e : i = j
          · rw [e] at q2; exact c q2
          · exact c2 ⟨by omega, q2⟩
      · rw [h9, sm_succ, el, Nat.add_zero]
theorem le_le (hI : IA A) : sm (leI A) 8 ≤ 512 := by
  have e := sm_le (w := leI A) (v := fun _ => 64) (n := 8) (fun i hi => by
    have z := hI.2.2.2.1 i hi
    unfold leI
    by_cases c : A 3 i = 1
    · rw [if_pos c]; omega
    · rw [if_neg c]; omega)
  rw [sm_const] at e
  exact e
theorem GA_mend (hG : GA A T) : GA (mdJ A 8) (T + 1024) := by
  have hd := le_le hG.1
  obtain ⟨h5, h3, h6, h4, h7, h9, hN⟩ := md_all A 8
  refine GA_low hG (IA_mend hG.1 (Nat.le_refl _)) (fun i hi => ?_) ?_ ?_ ?_ ?_ (fun f hf e3 => ?_)
  · rw [h5]; exact Nat.le_refl _
  · rw [h9, if_neg (by decide)]
  · rw [h9, if_pos rfl]; omega
  · rw [h9, if_neg (by decide)]
  · rw [h9, if_neg (by decide)]; omega
  · rw [h3] at e3
    rw [h7, if_pos ⟨hf, e3⟩]
-- append
theorem tb1_tt (A : Nat → Nat → Nat) (f i : Nat) : tb1 A f 9 i = if i = 2 then A 9 2 + 1 else if i = 1 then A 9 1 + (A 4 (glJ A f 8).1 - A 5 (glJ A f 8).1) else A 9 i := by
  unfold tb1
  by_cases e : i = 2
  · subst e; rw [as_eq, if_pos rfl]
  · rw [as_ne _ _ (by omega), if_neg e, gv_tt]
theorem tb1_ld (A : Nat → Nat → Nat) (f i : Nat) : tb1 A f 7 i = if i = (glJ A f 8).1 then 1 else A 7 i := by
  unfold tb1
  rw [as_ne _ _ (by omega), gv_lend]
theorem tb_keep {f need : Nat} (hf : f < 8) : ∀ (n : Nat) (A : Nat → Nat → Nat), IA A → need ≤ fre A + LOt A f → nl A f ≤ n → A 9 2 ≤ A 9 1 → tbJ f need n A 9 2 ≤ tbJ f need n A 9 1 ∧ tbJ f need n A 9 1 ≤ A 9 1 + 64 * n ∧ tbJ f need n A 9 2 ≤ A 9 2 + n ∧ tbJ f need n A 9 0 = A 9 0 ∧ tbJ f need n A 9 3 = A 9 3 ∧ tbJ f need n A 7 f = A 7 f ∧ (∀ q, A 7 q = 1 → tbJ f need n A 7 q = 1) := by
  intro n
  induction n with
  | zero =>
    intro A hI h1 h2 h3
    exact ⟨h3, by show A 9 1 ≤ _; omega, by show A 9 2 ≤ _; omega, rfl, rfl, rfl, fun _ h => h⟩
  | succ n ih =>
    intro A hI h1 h2 h3
    rw [tbJ_succ]
    by_cases c : need ≤ fre A
    · rw [if_pos c]; exact ⟨h3, by omega, by omega, rfl, rfl, rfl, fun _ h => h⟩
    · rw [if_neg c]
      have hL : 0 < LOt A f := by omega
      have hg := gl_some hL
      have hn := nl_less hI hL
      have hk := tb1_keep hI hf hL
      have z := hI.2.2.2.1 _ hg.1
      have t1 : tb1 A f 9 1 = A 9 1 + (A 4 (glJ A f 8).1 - A 5 (glJ A f 8).1) := by rw [tb1_tt, if_neg (by decide), if_pos rfl]
      have t2 : tb1 A f 9 2 = A 9 2 + 1 := by rw [tb1_tt, if_pos rfl]
      have t0 : tb1 A f 9 0 = A 9 0 := by rw [tb1_tt, if_neg (by decide), if_neg (by decide)]
      have t3 : tb1 A f 9 3 = A 9 3 := by rw [tb1_tt, if_neg (by decide), if_neg (by decide)]
      have t7 : tb1 A f 7 f = A 7 f := by rw [tb1_ld, if_neg (fun q => hg.2.1 q.symm)]
      obtain ⟨q1, q2, q3, q4, q5, q6, q7⟩ := ih (tb1 A f) (IA_tb1 hI hg.1) (by omega) (by omega) (by omega)
      refine ⟨q1, by omega, by omega, by omega, by omega, by omega, fun q h => q7 q ?_⟩
      rw [tb1_ld]
      by_cases e : q = (glJ A f 8).1
      · rw [if_pos e]
      · rw [if_neg e]; exact h
theorem ln_rows (hI : IA A) {f need : Nat} (hf : f < 8) (h0 : A 3 f ≠ 0) (hn : need ≤ fre A) : lnA A f need 4 f = A 4 f + ak A f need ∧ lnA A f need 7 f = (if need < ak A f need then mnN 16 (2 * A 7 f) else A 7 f) ∧ (∀ i, i ≠ f → lnA A f need 7 i = A 7 i) := by
  obtain ⟨q1, q2, q3, q4, q5⟩ := b1k_ok (need := need) hI hf h0
  have k1 := ak_le A f need
  have k2 := fre_le A
  obtain ⟨p1, p2, p3⟩ := IA_grow hf 64 (b1k A f need) (ak A f need - a1k A f need) q1 (by rw [q5 3 f (by decide) (by decide) (by decide)]; exact h0) (by omega) (by omega)
  have e7 : ∀ i, grJ f 64 (b1k A f need) (ak A f need - a1k A f need) 7 i = A 7 i := fun i => by rw [p3 7 i (by decide) (by decide) (by decide), q5 7 i (by decide) (by decide) (by decide)]
  unfold lnA grE
  by_cases c : need < ak A f need
  · rw [if_pos c, if_pos c, e7]
    refine ⟨?_, as_eq _ _ _ _, fun i hi => ?_⟩
    · rw [as_ne _ _ (by omega), p2, q3]; omega
    · rw [as_ne _ _ (fun z => hi z.2), e7]
  · rw [if_neg c, if_neg c]
    exact ⟨by rw [p2, q3]; omega, e7 f, fun i _ => e7 i⟩
/-- what the growing leaves of the disk -/
theorem ga_rows (hG : GA A T) {f n : Nat} (hf : f < 8) (h0 : A 3 f ≠ 0) (hn : n ≤ 64 - sm (A 5) 8) : (∀ i, gaA A f (n - (A 4 f - A 5 f)) 5 i = A 5 i) ∧ (∀ i, gaA A f (n - (A 4 f - A 5 f)) 3 i = A 3 i) ∧ gaA A f (n - (A 4 f - A 5 f)) 9 0 = A 9 0 ∧ gaA A f (n - (A 4 f - A 5 f)) 9 2 ≤ gaA A f (n - (A 4 f - A 5 f)) 9 1 ∧ (∀ i, i < 4 → gaA A f (n - (A 4 f - A 5 f)) 9 i ≤ T + 512) ∧ (∀ q, q ≠ f → A 7 q = 1 → gaA A f (n - (A 4 f - A 5 f)) 7 q = 1) := by
  obtain ⟨hI, g2, g3, g4, g5⟩ := hG
  unfold gaA
  by_cases c : n - (A 4 f - A 5 f) = 0
  · rw [if_pos c]
    exact ⟨fun _ => rfl, fun _ => rfl, rfl, g3, fun i hi => by have := g4 i hi; omega, fun _ _ h => h⟩
  · rw [if_neg c]
    have hz := need_ok hI hf hn
    obtain ⟨t1, t2, t3, t4, t5⟩ := IA_take hf 8 A hI hz (nl_le A f)
    obtain ⟨k1, k2, k3, k4, k5, k6, k7⟩ := tb_keep hf 8 A hI hz (nl_le A f) g3
    obtain ⟨l1, l2, l3⟩ := IA_len t1 hf (by rw [t5]; exact h0) t2
    obtain ⟨r1, r2, r3⟩ := ln_rows t1 hf (by rw [t5]; exact h0) t2
    have e9 : ∀ i, lnA (tbJ f (n - (A 4 f - A 5 f)) 8 A) f (n - (A 4 f - A 5 f)) 9 i = tbJ f (n - (A 4 f - A 5 f)) 8 A 9 i := fun i => l3 9 i (by decide) (by decide) (by decide) (by decide)
    refine ⟨fun i => by rw [l3 5 i (by decide) (by decide) (by decide) (by decide), t4], fun i => by rw [l3 3 i (by decide) (by decide) (by decide) (by decide), t5], by rw [e9, k4], by rw [e9, e9]; exact k1, fun i hi => ?_, fun q hq h => by rw [r3 q hq]; exact k7 q h⟩
    rw [e9]
    have z0 := g4 0 (by decide)
    have z1 := g4 1 (by decide)
    have z2 := g4 2 (by decide)
    have z3 := g4 3 (by decide)
    rcases (show i = 0 ∨ i = 1 ∨ i = 2 ∨ i = 3 by omega) with e | e | e | e <;> subst e <;> omega
theorem wr_row {f n st k i : Nat} (h0 : k ≠ 0) (h5 : k ≠ 5) (h9 : k ≠ 9) : wrA A f n st k i = A k i := by
  unfold wrA
  rw [as_ne _ _ (fun q => h9 q.1), wkA_row h0 h5]
theorem wr_sz (A : Nat → Nat → Nat) (f n st i : Nat) : wrA A f n st 5 i = if i = f then A 5 f + n else A 5 i := by
  unfold wrA
  rw [as_ne _ _ (by omega), wkA_sz]
theorem wr_tt (A : Nat → Nat → Nat) (f n st i : Nat) : wrA A f n st 9 i = if i = 0 then A 9 0 + n else A 9 i := by
  unfold wrA
  by_cases e : i = 0
  · subst e; rw [as_eq, if_pos rfl]
  · rw [as_ne _ _ (by omega), wkA_row (by decide) (by decide), if_neg e]
theorem GA_append (hG : GA A T) {f n st : Nat} (hf : f < 8) (h2 : A 3 f = 2) (hn : n ≤ 64 - sm (A 5) 8) (hst : st ≤ 99) : GA (apA A f n st) (T + 1024) := by
  have h0 : A 3 f ≠ 0 := by omega
  obtain ⟨a5, a3, a0, a12, a9, a7⟩ := ga_rows hG hf h0 hn
  have hI := IA_append hG.1 hf h0 hn hst
  have hs := sm_bump (w := A 5) (v := apA A f n st 5) (n := 8) (f := f) (a := n) hf (by unfold apA; rw [wr_sz, if_pos rfl, a5]) (fun i _ hi => by unfold apA; rw [wr_sz, if_neg hi, a5])
  have g2 := hG.2.1
  have g4 := hG.2.2.2.1 0 (by decide)
  refine ⟨hI, ?_, ?_, fun i hi => ?_, fun q hq h3 => ?_⟩
  · rw [hs]
    unfold apA
    rw [wr_tt, if_pos rfl, a0]; omega
  · unfold apA
    rw [wr_tt, wr_tt, if_neg (by decide), if_neg (by decide)]; exact a12
  · unfold apA
    rw [wr_tt]
    by_cases e : i = 0
    · rw [if_pos e, a0]; omega
    · rw [if_neg e]; have := a9 i hi; omega
  · unfold apA at h3 ⊢
    rw [wr_row (by decide) (by decide) (by decide), a3] at h3
    rw [wr_row (by decide) (by decide) (by decide)]
    exact a7 q (fun e => by rw [e] at h3; omega) (hG.2.2.2.2 q hq h3)
end GAS
