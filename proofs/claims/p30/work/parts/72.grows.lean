/-! WHAT WOULD BE IS WHAT IS WHEN IT IS DONE: the law's check of an append, taken back. -/
section LGROWS
variable {A : Nat → Nat → Nat} {D : Nat → Nat → Nat → Int32} {sav old hsz : Int32} {cs : Nat → Int32} {len : Int32} {g : Nat → Int32} {T n : Nat} {Hs : Nat → Nat → Nat → Nat}
theorem ia_keep (hK : KsT D old hsz A n Hs T) (w : Nat → Nat → Int32) : KsT (va_up (dcp D 1 0) 1 w) old hsz A n Hs T := by
  have ei : ∀ i, i ≠ 1 → va_up (dcp D 1 0) 1 w i = D i := fun i hi => by unfold dcp; rw [up_ne _ _ hi, up_ne _ _ hi]
  obtain ⟨h1, h2, h3, h4, o, h5, h6, h7⟩ := hK
  exact ⟨by rw [ei 0 (by decide)]; exact h1, h2, h3, h4, o, h5, h6, fun j hj => ⟨by rw [ei _ (by omega)]; exact (h7 j hj).1, (h7 j hj).2⟩⟩
theorem ia_none (hK : KsT D old hsz A n Hs T) {f : Nat} (hf : f < 8) (e0 : A 3 f = 0) (v2 v3 : Int32) : f_X5_ifAppended D sav old hsz cs len g (nI f) v2 v3 = some (-1, D) := by
  unfold f_X5_ifAppended
  rw [C_isFile hK.1 hK.2.1.1 hf, gb_some, if_pos e0, if_pos rfl]
theorem w3_ok {v : Int32} (h : v = 0 ∨ v = 1 ∨ v = 2) : ¬ v < 0 ∧ v ≤ 2 := by
  rcases h with rfl | rfl | rfl <;> exact ⟨by decide, by decide⟩
theorem ia_no (hK : KsT D old hsz A n Hs T) {f b : Nat} (hf : f < 8) (e0 : A 3 f ≠ 0) (h1 : 1 ≤ b) (h64 : b ≤ 64) (hno : A 3 f ≠ 2 ∨ ¬ b ≤ 64 - sm (A 5) 8) {v3 : Int32} (hv : v3 = 0 ∨ v3 = 1 ∨ v3 = 2) : ∃ D', f_X5_ifAppended D sav old hsz cs len g (nI f) (nI b) v3 = some (-4, D') ∧ KsT D' old hsz A n Hs T := by
  have w := w3_ok hv
  have e1 : dcp D 1 0 1 = D 0 := by unfold dcp; rw [up_eq]
  have c1 : f_X0_appendTo (D 0) (nI f) (nI b) 0 = some (-4, D 0) := C_app_no hK.1 hK.2.1.1 hf e0 h1 h64 (st := 0) (by decide) hno
  refine ⟨_, ?_, ia_keep hK (D 0)⟩
  unfold f_X5_ifAppended
  rw [C_isFile hK.1 hK.2.1.1 hf, gb_some, if_neg e0, if_neg n10, if_neg w.1, if_pos w.2, glet_eq, e1, c1, gbb2_some, glet_eq, if_pos (show (-4 : Int32) < 0 by decide)]
/-- what ifAppended tells of the disk Z that would be -/
noncomputable def iaV (Z : Nat → Nat → Nat) (f : Nat) (v : Int32) : Nat := if v = 0 then sm (exJ Z f) (Z 4 f) else if v = 1 then Z 4 f - Z 5 f else fre Z
theorem ia_yes (hK : KsT D old hsz A n Hs T) {f b : Nat} (hf : f < 8) (e2 : A 3 f = 2) (h1 : 1 ≤ b) (hb : b ≤ 64 - sm (A 5) 8) {v3 : Int32} (hv : v3 = 0 ∨ v3 = 1 ∨ v3 = 2) : ∃ D', f_X5_ifAppended D sav old hsz cs len g (nI f) (nI b) v3 = some (nI (iaV (apA A f b 0) f v3), D') ∧ KsT D' old hsz A n Hs T := by
  have w := w3_ok hv
  have hI := hK.2.1.1
  have e0 : A 3 f ≠ 0 := by omega
  have e1 : dcp D 1 0 1 = D 0 := by unfold dcp; rw [up_eq]
  have hAp := IA_append hI hf e0 hb (st := 0) (by decide)
  have hbd := sm_exJ_le (apA A f b 0) f (apA A f b 0 4 f)
  have hb4 := (hAp.2.2.2.1 f hf).2.2.1
  obtain ⟨d', c1, c2⟩ := C_append hK.1 hI hf e2 h1 hb (st := 0) (by decide)
  have c1' : f_X0_appendTo (D 0) (nI f) (nI b) 0 = some (nI (sm (exJ (apA A f b 0) f) (apA A f b 0 4 f)), d') := c1
  have cF : f_X0_freeBlocks d' = some (nI (fre (apA A f b 0))) := C_freeBlocks c2 hAp
  refine ⟨_, ?_, ia_keep hK d'⟩
  unfold f_X5_ifAppended
  rw [C_isFile hK.1 hI hf, gb_some, if_neg e0, if_neg n10, if_neg w.1, if_pos w.2, glet_eq, e1, c1', gbb2_some, glet_eq, if_neg (nI_pos (by omega)), up_eq, C_lentOf c2 hAp hf, gb_some, cF, gb_some]
  unfold iaV
  by_cases w0 : v3 = 0
  · rw [if_pos w0, if_pos w0]
  · rw [if_neg w0, if_neg w0]
    by_cases w1 : v3 = 1
    · rw [if_pos w1, if_pos w1]
    · rw [if_neg w1, if_neg w1]
-- the stamp that is written changes nothing else
theorem ap_same (A : Nat → Nat → Nat) (f b st : Nat) {k : Nat} (hk : k ≠ 0) (i : Nat) : apA A f b st k i = apA A f b 0 k i := by
  unfold apA
  by_cases h5 : k = 5
  · subst h5; rw [wr_sz, wr_sz]
  · by_cases h9 : k = 9
    · subst h9; rw [wr_tt, wr_tt]
    · rw [wr_row hk h5 h9, wr_row hk h5 h9]
theorem bk_congr {X Y : Nat → Nat → Nat} (h1 : ∀ i, X 1 i = Y 1 i) (h2 : ∀ i, X 2 i = Y 2 i) (f i : Nat) : bk X f i = bk Y f i := by
  unfold bk
  rw [show (fun k : Nat => k < 64 ∧ X 1 k = f ∧ X 2 k = i) = (fun k : Nat => k < 64 ∧ Y 1 k = f ∧ Y 2 k = i) from funext (fun k => by rw [h1, h2])]
theorem ap_ext (A : Nat → Nat → Nat) (f b st : Nat) : sm (exJ (apA A f b st) f) (apA A f b st 4 f) = sm (exJ (apA A f b 0) f) (apA A f b 0 4 f) := by
  rw [ap_same A f b st (by decide) f]
  refine sm_congr (fun i _ => ?_)
  unfold exJ
  rw [bk_congr (ap_same A f b st (by decide)) (ap_same A f b st (by decide)), bk_congr (ap_same A f b st (by decide)) (ap_same A f b st (by decide)) f (i - 1)]
theorem ap_fre (A : Nat → Nat → Nat) (f b st : Nat) : fre (apA A f b st) = fre (apA A f b 0) := by
  unfold fre ct
  exact sm_congr (fun k _ => by
    show (if apA A f b st 1 k = 8 then 1 else 0) = (if apA A f b 0 1 k = 8 then 1 else 0)
    rw [ap_same A f b st (by decide) k])
theorem ap_sz (hG : GA A T) {f b st : Nat} (hf : f < 8) (h0 : A 3 f ≠ 0) (hb : b ≤ 64 - sm (A 5) 8) : apA A f b st 5 f = A 5 f + b := by
  obtain ⟨a5, -⟩ := ga_rows hG hf h0 hb
  unfold apA
  rw [wr_sz, if_pos rfl, a5]
theorem ap_tt (hG : GA A T) {f b st : Nat} (hf : f < 8) (h0 : A 3 f ≠ 0) (hb : b ≤ 64 - sm (A 5) 8) : apA A f b st 9 0 = A 9 0 + b := by
  obtain ⟨a5, a3, a0, -⟩ := ga_rows hG hf h0 hb
  unfold apA
  rw [wr_tt, if_pos rfl, a0]
theorem ap_few {f b st : Nat} (hb : b ≤ A 4 f - A 5 f) : apA A f b st 4 f = A 4 f ∧ apA A f b st 7 f = A 7 f ∧ apA A f b st 9 1 = A 9 1 := by
  have eg : gaA A f (b - (A 4 f - A 5 f)) = A := by unfold gaA; rw [if_pos (by omega)]
  unfold apA
  rw [eg]
  exact ⟨wr_row (by decide) (by decide) (by decide), wr_row (by decide) (by decide) (by decide), by rw [wr_tt, if_neg (by decide)]⟩
theorem ap_many (hG : GA A T) {f b st : Nat} (hf : f < 8) (h0 : A 3 f ≠ 0) (hb : b ≤ 64 - sm (A 5) 8) (hm : A 4 f - A 5 f < b) : ∃ a, b - (A 4 f - A 5 f) ≤ a ∧ apA A f b st 4 f = A 4 f + a ∧ apA A f b st 7 f = if b - (A 4 f - A 5 f) < a then mnN 16 (2 * A 7 f) else A 7 f := by
  have hI := hG.1
  have hz := need_ok hI hf hb
  obtain ⟨t1, t2, t3, t4, t5⟩ := IA_take hf 8 A hI hz (nl_le A f)
  obtain ⟨k1, k2, k3, k4, k5, k6, k7⟩ := tb_keep hf 8 A hI hz (nl_le A f) hG.2.2.1
  obtain ⟨r1, r2, r3⟩ := ln_rows t1 hf (by rw [t5]; exact h0) t2
  have eg : gaA A f (b - (A 4 f - A 5 f)) = lnA (tbJ f (b - (A 4 f - A 5 f)) 8 A) f (b - (A 4 f - A 5 f)) := by unfold gaA; rw [if_neg (by omega)]
  refine ⟨ak (tbJ f (b - (A 4 f - A 5 f)) 8 A) f (b - (A 4 f - A 5 f)), (ak_le _ _ _).2 t2, ?_, ?_⟩
  · unfold apA
    rw [wr_row (by decide) (by decide) (by decide), eg, r1, t3]
  · unfold apA
    rw [wr_row (by decide) (by decide) (by decide), eg, r2, k6]
theorem wr_st (A : Nat → Nat → Nat) (f n st i : Nat) : wrA A f n st 0 i = if A 1 i = f ∧ A 5 f ≤ A 2 i ∧ A 2 i < A 5 f + n then st else A 0 i := by
  unfold wrA
  rw [as_ne _ _ (by omega), wkA_st]
theorem stp_zero (A : Nat → Nat → Nat) (f a : Nat) : ∀ n, n ≤ a → sm (stpJ A f a) n = 0 := by
  intro n
  induction n with
  | zero => intro _; rfl
  | succ n ih => intro hn; rw [sm_succ, ih (by omega)]; unfold stpJ; rw [if_neg (by omega)]
theorem gr_loop {f b st : Nat} (hc : RC (D 0) (apA A f b st)) (hG : GA A T) (hf : f < 8) (h2 : A 3 f = 2) (hb : b ≤ 64 - sm (A 5) 8) (hst : st ≤ 99) (v4 v5 v6 v8 v9 v10 v11 v12 : Int32) (v13 : Int64) (v15 : Int32) : f_L_grows_L342 D sav old hsz cs len g (nI f) (nI b) (nI st) v4 v5 v6 (nI (A 5 f)) v8 v9 v10 v11 v12 v13 v15 gFu 0 = some (nI b) := by
  have h0 : A 3 f ≠ 0 := by omega
  have hGp := GA_append hG hf h2 hb hst
  have hIp := hGp.1
  have hl := hIp.2.2.2.1 f hf
  have e5 := ap_sz (st := st) hG hf h0 hb
  obtain ⟨a5, a3, -⟩ := ga_rows hG hf h0 hb
  have e3 : apA A f b st 3 f ≠ 0 := by
    unfold apA
    rw [wr_row (by decide) (by decide) (by decide), a3]; exact h0
  refine loopN (fun fu j => f_L_grows_L342 D sav old hsz cs len g (nI f) (nI b) (nI st) v4 v5 v6 (nI (A 5 f)) v8 v9 v10 v11 v12 v13 v15 fu (nI j)) b _ (fun fu j hj => ?_) (fun fu => ?_) gFu 0 (by omega) (by show b < 0 + 1000; omega)
  · show f_L_grows_L342 D sav old hsz cs len g (nI f) (nI b) (nI st) v4 v5 v6 (nI (A 5 f)) v8 v9 v10 v11 v12 v13 v15 (fu + 1) (nI j) = f_L_grows_L342 D sav old hsz cs len g (nI f) (nI b) (nI st) v4 v5 v6 (nI (A 5 f)) v8 v9 v10 v11 v12 v13 v15 fu (nI (j + 1))
    have hbk := bk_spec hIp.b hf (i := A 5 f + j) (by omega)
    have w : mnN (apA A f b st 5 f) (A 5 f + j + 1) = A 5 f + j + 1 := by
      have := mnN_le (apA A f b st 5 f) (A 5 f + j + 1)
      omega
    have es : apA A f b st 0 (bk (apA A f b st) f (A 5 f + j)) = st := by
      have q1 := hbk.2.1
      have q2 := hbk.2.2
      unfold apA at q1 q2 ⊢
      rw [wr_row (by decide) (by decide) (by decide)] at q1 q2
      rw [wr_st, if_pos ⟨q1, by rw [a5]; omega, by rw [a5]; omega⟩]
    have rd : f_X5_read D sav old hsz cs len g (nI f) (nI (A 5 f + j)) 1 0 = some (nI st) := by
      have := q_read (sav := sav) (old := old) (hsz := hsz) (cs := cs) (len := len) (g := g) hc hIp hf e3 (a := A 5 f + j) (m := 1) (by omega) (by decide) (by decide) (by omega) 0 (Or.inl rfl)
      rw [if_pos rfl, w, sm_succ, stp_zero _ _ _ _ (Nat.le_refl _), Nat.zero_add] at this
      unfold stpJ at this
      rw [if_pos (Nat.le_refl _), es] at this
      exact this
    rw [f_L_grows_L342, if_neg (nI_ge hj (by omega)), nI_add, rd, gb_some, if_pos rfl, glet_eq, nI_1]
  · show f_L_grows_L342 D sav old hsz cs len g (nI f) (nI b) (nI st) v4 v5 v6 (nI (A 5 f)) v8 v9 v10 v11 v12 v13 v15 (fu + 1) (nI b) = _
    rw [f_L_grows_L342, if_pos (nI_le (Nat.le_refl _) (by omega))]
theorem file3 (hc : RC (D 0) A) (hI : IA A) {f : Nat} (hf : f < 8) (e2 : A 3 f = 2) : f_X5_file D sav old hsz cs len g (nI f) 3 = some 1 := by
  rw [q_file3 hc hI hf (by omega), if_pos e2]
theorem grows_none (hK : KsT D old hsz A n Hs T) {f b st : Nat} (hf : f < 8) (e0 : A 3 f = 0) (h1 : 1 ≤ b) (h64 : b ≤ 64) (hst : st ≤ 99) : ∃ D', f_L_grows D sav old hsz cs len g (nI f) (nI b) (nI st) = some (1, D', old, hsz) ∧ KsT D' old hsz A n Hs T := by
  have hI := hK.2.1.1
  have hc := hK.1
  have t0 : f_X5_total D sav old hsz cs len g 0 = some (nI (A 9 0)) := q_total hc (i := 0) (by decide)
  have t1 : f_X5_total D sav old hsz cs len g 1 = some (nI (A 9 1)) := q_total hc (i := 1) (by decide)
  obtain ⟨D2, a1, a2⟩ := act_refd (sav := sav) (cs := cs) (len := len) (g := g) hK (F := fun d => f_X0_appendTo d (nI f) (nI b) (nI st)) (r := -1) ⟨by decide, fun d hc => C_app_none hc hI hf e0 _ _⟩
  have a1' : f_X5_append D sav old hsz cs len g (nI f) (nI b) (nI st) = some (-1, D2, old, hsz) := a1
  refine ⟨D2, ?_, a2⟩
  unfold f_L_grows
  rw [ia_none hK hf e0, gbb2_some, ia_none hK hf e0, gbb2_some, ia_none hK hf e0, gbb2_some, q_file_no hc hI hf e0, gb_some, q_file_no hc hI hf e0, gb_some, q_file_no hc hI hf e0, gb_some, t0, gb_some, t1, gb_some, q_file_no hc hI hf e0, gb_some, if_neg (show ¬ (-1 : Int32) = 1 by decide), print_eq hc hI, gb_some, a1', gbb4_some, if_neg (show ¬ (0 : Int32) ≤ -1 by decide), if_pos rfl, if_pos rfl, if_pos rfl, if_pos rfl, if_pos rfl, print_eq a2.1 hI, gb_some, if_pos (lg_self _)]
theorem grows_no (hK : KsT D old hsz A n Hs T) {f b st : Nat} (hf : f < 8) (e0 : A 3 f ≠ 0) (h1 : 1 ≤ b) (h64 : b ≤ 64) (hst : st ≤ 99) (hno : A 3 f ≠ 2 ∨ ¬ b ≤ 64 - sm (A 5) 8) : ∃ D', f_L_grows D sav old hsz cs len g (nI f) (nI b) (nI st) = some (1, D', old, hsz) ∧ KsT D' old hsz A n Hs T := by
  have hI := hK.2.1.1
  have hl := hI.2.2.2.1 f hf
  obtain ⟨D1, i1, k1⟩ := ia_no (sav := sav) (cs := cs) (len := len) (g := g) hK hf e0 h1 h64 hno (v3 := 0) (Or.inl rfl)
  obtain ⟨D2, i2, k2⟩ := ia_no (sav := sav) (cs := cs) (len := len) (g := g) k1 hf e0 h1 h64 hno (v3 := 1) (Or.inr (Or.inl rfl))
  obtain ⟨D3, i3, k3⟩ := ia_no (sav := sav) (cs := cs) (len := len) (g := g) k2 hf e0 h1 h64 hno (v3 := 2) (Or.inr (Or.inr rfl))
  have hc := k3.1
  have t0 : f_X5_total D3 sav old hsz cs len g 0 = some (nI (A 9 0)) := q_total hc (i := 0) (by decide)
  have t1 : f_X5_total D3 sav old hsz cs len g 1 = some (nI (A 9 1)) := q_total hc (i := 1) (by decide)
  obtain ⟨D4, a1, a2⟩ := act_refd (sav := sav) (cs := cs) (len := len) (g := g) k3 (F := fun d => f_X0_appendTo d (nI f) (nI b) (nI st)) (r := -4) ⟨by decide, fun d hc => C_app_no hc hI hf e0 h1 h64 hst hno⟩
  have a1' : f_X5_append D3 sav old hsz cs len g (nI f) (nI b) (nI st) = some (-4, D4, old, hsz) := a1
  refine ⟨D4, ?_, a2⟩
  have n5 : ¬ nI (A 5 f) = -1 := nI_nm1 (by omega)
  unfold f_L_grows
  rw [i1, gbb2_some, i2, gbb2_some, i3, gbb2_some, q_file0 hc hI hf e0, gb_some, q_file1 hc hI hf e0, gb_some, q_file5 hc hI hf e0, gb_some, t0, gb_some, t1, gb_some, q_file3 hc hI hf e0, gb_some]
  by_cases e2 : A 3 f = 2
  · have hb : ¬ b ≤ 64 - sm (A 5) 8 := by
      rcases hno with q | q
      · exact absurd e2 q
      · exact q
    rw [if_pos e2, if_pos rfl, q_room hc hI hf e0, if_pos e2, gb_some, if_pos (nI_lt (by omega) (by omega)), print_eq hc hI, gb_some, a1', gbb4_some, if_neg (show ¬ (0 : Int32) ≤ -4 by decide), if_neg n5, if_pos rfl, if_pos rfl, if_pos rfl, if_pos rfl, print_eq a2.1 hI, gb_some, if_pos (lg_self _)]
  · rw [if_neg e2, if_neg (show ¬ (0 : Int32) = 1 by decide), print_eq hc hI, gb_some, a1', gbb4_some, if_neg (show ¬ (0 : Int32) ≤ -4 by decide), if_neg n5, if_pos rfl, if_pos rfl, if_pos rfl, if_pos rfl, print_eq a2.1 hI, gb_some, if_pos (lg_self _)]
theorem grows_yes (hK : KsT D old hsz A n Hs T) {f b st : Nat} (hf : f < 8) (e2 : A 3 f = 2) (h1 : 1 ≤ b) (hb : b ≤ 64 - sm (A 5) 8) (hst : st ≤ 99) (hT : T + 1024 < 2 ^ 31) : ∃ D' old' hsz' n' Hs', f_L_grows D sav old hsz cs len g (nI f) (nI b) (nI st) = some (1, D', old', hsz') ∧ KsT D' old' hsz' A n' Hs' (T + 1024) := by
  have hG := hK.2.1
  have hI := hG.1
  have e0 : A 3 f ≠ 0 := by omega
  have hl := hI.2.2.2.1 f hf
  obtain ⟨D1, i1, k1⟩ := ia_yes (sav := sav) (cs := cs) (len := len) (g := g) hK hf e2 h1 hb (v3 := 0) (Or.inl rfl)
  obtain ⟨D2, i2, k2⟩ := ia_yes (sav := sav) (cs := cs) (len := len) (g := g) k1 hf e2 h1 hb (v3 := 1) (Or.inr (Or.inl rfl))
  obtain ⟨D3, i3, k3⟩ := ia_yes (sav := sav) (cs := cs) (len := len) (g := g) k2 hf e2 h1 hb (v3 := 2) (Or.inr (Or.inr rfl))
  have v0 : iaV (apA A f b 0) f 0 = sm (exJ (apA A f b st) f) (apA A f b st 4 f) := by unfold iaV; rw [if_pos rfl, ap_ext A f b st]
  have v1 : iaV (apA A f b 0) f 1 = apA A f b st 4 f - apA A f b st 5 f := by unfold iaV; rw [if_neg n10, if_pos rfl, ap_same A f b st (by decide), ap_same A f b st (by decide)]
  have v2 : iaV (apA A f b 0) f 2 = fre (apA A f b st) := by unfold iaV; rw [if_neg zn20, if_neg zn21, ap_fre A f b st]
  rw [v0] at i1
  rw [v1] at i2
  rw [v2] at i3
  have hc := k3.1
  have t0 : f_X5_total D3 sav old hsz cs len g 0 = some (nI (A 9 0)) := q_total hc (i := 0) (by decide)
  have t1 : f_X5_total D3 sav old hsz cs len g 1 = some (nI (A 9 1)) := q_total hc (i := 1) (by decide)
  obtain ⟨D4, old4, a1, k4⟩ := act_done (sav := sav) (cs := cs) (len := len) (g := g) k3 (Nat.le_add_right T 1024) (dn_append hG hf e2 h1 hb hst)
  have a1' : f_X5_append D3 sav old hsz cs len g (nI f) (nI b) (nI st) = some (nI (sm (exJ (apA A f b st) f) (apA A f b st 4 f)), D4, old4, nI (puN n)) := a1
  have hGp := k4.2.1
  have hIp := hGp.1
  have hc4 := k4.1
  have hlp := hIp.2.2.2.1 f hf
  have hse := sm_exJ_le (apA A f b st) f (apA A f b st 4 f)
  obtain ⟨a5, a3, -⟩ := ga_rows hG hf e0 hb
  have e3 : apA A f b st 3 f ≠ 0 := by
    unfold apA
    rw [wr_row (by decide) (by decide) (by decide), a3]; exact e0
  have e5 := ap_sz (st := st) hG hf e0 hb
  have e9 := ap_tt (st := st) hG hf e0 hb
  have c2 : f_X5_count D4 sav old4 (nI (puN n)) cs len g 2 = some (nI (fre (apA A f b st))) := q_count hc4 hIp (w := 2) (by decide)
  have u0 : f_X5_total D4 sav old4 (nI (puN n)) cs len g 0 = some (nI (apA A f b st 9 0)) := q_total hc4 (i := 0) (by decide)
  have u1 : f_X5_total D4 sav old4 (nI (puN n)) cs len g 1 = some (nI (apA A f b st 9 1)) := q_total hc4 (i := 1) (by decide)
  obtain ⟨D5, b1, k5⟩ := undo_go (sav := sav) (cs := cs) (len := len) (g := g) k4 (puN_pos n).1
  rw [puH_top n Hs A hK.2.2.1] at k5
  have fin : ∀ r816 r817 v4 v5 v6 v8 v9 v10 v11 : Int32, ∀ w : Int64, (gb (f_L_grows_L342 D4 sav old4 (nI (puN n)) cs len g (nI f) (nI b) (nI st) v4 v5 v6 (nI (A 5 f)) v8 v9 v10 v11 1 w r817 gFu 0) (fun _ => gbb3 (f_X5_undo D4 sav old4 (nI (puN n)) cs len g) (fun r977 D978 hsz979 => if r977 < 0 then none else gb (f_L_print D978 sav old4 hsz979 cs len g) (fun r981 => if (lg_cmp r981 (PRT A)) = 0 then some ((1 : Int32), D978, old4, hsz979) else none)))) = some (1, D5, old4, nI (puN n - 1)) := by
    intro r816 r817 v4 v5 v6 v8 v9 v10 v11 w
    rw [gr_loop hc4 hG hf e2 hb hst, gb_some, b1, gbb3_some, if_neg (nI_pos (by have := (puN_pos n).2; omega)), print_eq k5.1 hI, gb_some, if_pos (lg_self _)]
  refine ⟨D5, old4, nI (puN n - 1), puN n - 1, _, ?_, k5⟩
  unfold f_L_grows
  rw [i1, gbb2_some, i2, gbb2_some, i3, gbb2_some, q_file0 hc hI hf e0, gb_some, q_file1 hc hI hf e0, gb_some, q_file5 hc hI hf e0, gb_some, t0, gb_some, t1, gb_some, file3 hc hI hf e2, gb_some, if_pos rfl, q_room hc hI hf e0, if_pos e2, gb_some, if_neg (nI_nlt (by omega) (by omega)), print_eq hc hI, gb_some, a1', gbb4_some, if_pos (nI_pos' (by omega)), if_pos rfl, q_file4 hc4 hIp hf e3, gb_some, if_pos rfl, q_file1 hc4 hIp hf e3, gb_some, if_pos rfl, c2, gb_some, if_pos rfl, q_file0 hc4 hIp hf e3, gb_some, nI_add, if_pos (by rw [e5]), u0, gb_some, nI_add, if_pos (by rw [e9]), hangs_ok hc4 hGp hT, gb_some, if_neg n10]
  by_cases cm : A 4 f - A 5 f < b
  · obtain ⟨a, m1, m2, m3⟩ := ap_many (st := st) hG hf e0 hb cm
    rw [if_pos (nI_lt cm (by omega)), q_file5 hc4 hIp hf e3, gb_some, m3]
    by_cases ca : b - (A 4 f - A 5 f) < a
    · rw [if_pos ca, if_neg (nI_ne0 (by omega) (by omega))]
      by_cases c7 : A 7 f ≤ 7
      · have em : mnN 16 (2 * A 7 f) = 2 * A 7 f := by unfold mnN; rw [if_neg (by omega)]
        rw [if_pos (show nI (A 7 f) ≤ (7 : Int32) from nI_le (b := 7) c7 (by decide)), em, if_pos (show nI (2 * A 7 f) = 2 * nI (A 7 f) from (nI_mul 2 (A 7 f)).symm)]
        exact fin 0 _ _ _ _ _ _ _ _ _
      · have em : mnN 16 (2 * A 7 f) = 16 := by
          have := mnN_le 16 (2 * A 7 f)
          omega
        rw [if_neg (show ¬ nI (A 7 f) ≤ (7 : Int32) from nI_ge (a := 7) (by omega) (by omega)), em, if_pos (show nI 16 = 16 from rfl)]
        exact fin 0 _ _ _ _ _ _ _ _ _
    · rw [if_neg ca, if_pos (show nI (apA A f b st 4 f - apA A f b st 5 f) = 0 by rw [show apA A f b st 4 f - apA A f b st 5 f = 0 by omega]; rfl), if_pos rfl]
      exact fin 0 _ _ _ _ _ _ _ _ _
  · obtain ⟨m1, m2, m3⟩ := ap_few (A := A) (f := f) (b := b) (st := st) (by omega)
    rw [if_neg (nI_nlt (by omega) (by omega)), nI_sub (by omega), if_pos (show nI (apA A f b st 4 f - apA A f b st 5 f) = nI (A 4 f - A 5 f - b) by rw [m1, e5, show A 4 f - (A 5 f + b) = A 4 f - A 5 f - b by omega]), q_file5 hc4 hIp hf e3, gb_some, m2, if_pos rfl, u1, gb_some, m3, if_pos rfl]
    exact fin 0 _ _ _ _ _ _ _ _ _
theorem grows_ok (hK : KsT D old hsz A n Hs T) {f b st : Nat} (hf : f < 8) (h1 : 1 ≤ b) (h64 : b ≤ 64) (hst : st ≤ 99) (hT : T + 1024 < 2 ^ 31) : ∃ D' old' hsz' n' Hs', f_L_grows D sav old hsz cs len g (nI f) (nI b) (nI st) = some (1, D', old', hsz') ∧ KsT D' old' hsz' A n' Hs' (T + 1024) := by
  by_cases e0 : A 3 f = 0
  · obtain ⟨D', q1, q2⟩ := grows_none (sav := sav) (cs := cs) (len := len) (g := g) hK hf e0 h1 h64 hst
    exact ⟨D', old, hsz, n, Hs, q1, q2.up (by omega)⟩
  · by_cases c : A 3 f = 2 ∧ b ≤ 64 - sm (A 5) 8
    · exact grows_yes hK hf c.1 h1 c.2 hst hT
    · have hno : A 3 f ≠ 2 ∨ ¬ b ≤ 64 - sm (A 5) 8 := by
        by_cases q : A 3 f = 2
        · exact Or.inr (fun z => c ⟨q, z⟩)
        · exact Or.inl q
      obtain ⟨D', q1, q2⟩ := grows_no (sav := sav) (cs := cs) (len := len) (g := g) hK hf e0 h1 h64 hst hno
      exact ⟨D', old, hsz, n, Hs, q1, q2.up (by omega)⟩
end LGROWS
