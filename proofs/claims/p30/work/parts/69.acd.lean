/-! EVERY ACT, WITH ANY NUMBERS: done, or refused. -/
section ACD
variable {A : Nat → Nat → Nat} {T : Nat}
theorem ad_create (hG : GA A T) : AcD f_X0_createFile A T := by
  rcases first_free A 8 with ⟨f, hf, h0, hl⟩ | hl
  · exact Or.inl ⟨f, neA A f, by omega, GA_create hG hf h0, fun d hc => C_create hc hG.1 hf h0 hl⟩
  · exact Or.inr ⟨-3, by decide, fun d hc => C_create_full hc hG.1 hl⟩
theorem ad_open (hG : GA A T) (v : Int32) : AcD (fun d => f_X0_openFile d v) A T := by
  have hI := hG.1
  rcases i_cases v 8 (by decide) with ⟨f, hf, rfl⟩ | ho
  · have hmd := hI.2.2.2.1 f hf
    by_cases e0 : A 3 f = 0
    · refine Or.inr ⟨-1, by decide, fun d hc => ?_⟩
      show f_X0_openFile d (nI f) = _
      unfold f_X0_openFile
      rw [C_isFile hc hI hf, gb_some, if_pos e0, if_pos rfl]
    · by_cases e1 : A 3 f = 2
      · refine Or.inr ⟨-4, by decide, fun d hc => ?_⟩
        show f_X0_openFile d (nI f) = _
        unfold f_X0_openFile
        rw [C_isFile hc hI hf, gb_some, if_neg e0, if_neg (by decide), C_isOpen hc hI hf, gb_some, if_pos e1, if_neg (by decide)]
      · exact Or.inl ⟨ct (fun f' => opA A f 3 f' = 2) 8, opA A f, Nat.lt_of_le_of_lt (ct_le _ 8) (by decide), GA_open hG e0, fun d hc => C_open hc hI hf (by omega)⟩
  · refine Or.inr ⟨-1, by decide, fun d hc => ?_⟩
    show f_X0_openFile d v = _
    unfold f_X0_openFile
    rw [C_isFile_out ho, gb_some, if_pos rfl]
theorem ad_close (hG : GA A T) (v : Int32) : AcD (fun d => f_X0_closeFile d v) A T := by
  have hI := hG.1
  rcases i_cases v 8 (by decide) with ⟨f, hf, rfl⟩ | ho
  · have hmd := hI.2.2.2.1 f hf
    by_cases e0 : A 3 f = 0
    · refine Or.inr ⟨-1, by decide, fun d hc => ?_⟩
      show f_X0_closeFile d (nI f) = _
      unfold f_X0_closeFile
      rw [C_isFile hc hI hf, gb_some, if_pos e0, if_pos rfl]
    · by_cases e1 : A 3 f = 2
      · exact Or.inl ⟨A 4 f - A 5 f, clA A f, by omega, GA_close hG hf e1, fun d hc => C_close hc hI hf e1⟩
      · refine Or.inr ⟨-4, by decide, fun d hc => ?_⟩
        show f_X0_closeFile d (nI f) = _
        unfold f_X0_closeFile
        rw [C_isFile hc hI hf, gb_some, if_neg e0, if_neg (by decide), C_isOpen hc hI hf, gb_some, if_neg e1, if_pos rfl]
  · refine Or.inr ⟨-1, by decide, fun d hc => ?_⟩
    show f_X0_closeFile d v = _
    unfold f_X0_closeFile
    rw [C_isFile_out ho, gb_some, if_pos rfl]
theorem ad_remove (hG : GA A T) (v : Int32) : AcD (fun d => f_X0_removeFile d v) A T := by
  have hI := hG.1
  rcases i_cases v 8 (by decide) with ⟨f, hf, rfl⟩ | ho
  · have hmd := hI.2.2.2.1 f hf
    by_cases e0 : A 3 f = 0
    · refine Or.inr ⟨-1, by decide, fun d hc => ?_⟩
      show f_X0_removeFile d (nI f) = _
      unfold f_X0_removeFile
      rw [C_isFile hc hI hf, gb_some, if_pos e0, if_pos rfl]
    · by_cases e1 : A 3 f = 2
      · refine Or.inr ⟨-4, by decide, fun d hc => ?_⟩
        show f_X0_removeFile d (nI f) = _
        unfold f_X0_removeFile
        rw [C_isFile hc hI hf, gb_some, if_neg e0, if_neg (by decide), C_isOpen hc hI hf, gb_some, if_pos e1, if_neg (by decide)]
      · exact Or.inl ⟨A 4 f, rmA A f, by omega, GA_remove hG hf, fun d hc => C_remove hc hI hf (by omega)⟩
  · refine Or.inr ⟨-1, by decide, fun d hc => ?_⟩
    show f_X0_removeFile d v = _
    unfold f_X0_removeFile
    rw [C_isFile_out ho, gb_some, if_pos rfl]
theorem ad_sync (hG : GA A T) (v : Int32) : AcD (fun d => f_X0_syncFile d v) A T := by
  have hI := hG.1
  rcases i_cases v 8 (by decide) with ⟨f, hf, rfl⟩ | ho
  · have hmd := hI.2.2.2.1 f hf
    by_cases e0 : A 3 f = 0
    · refine Or.inr ⟨-1, by decide, fun d hc => ?_⟩
      show f_X0_syncFile d (nI f) = _
      unfold f_X0_syncFile
      rw [C_isFile hc hI hf, gb_some, if_pos e0, if_pos rfl]
    · by_cases e1 : A 3 f = 2
      · exact Or.inl ⟨A 5 f - A 6 f, syA A f, by omega, GA_as hG (IA_sync hI) (Or.inl rfl), fun d hc => C_sync hc hI hf e1⟩
      · refine Or.inr ⟨-4, by decide, fun d hc => ?_⟩
        show f_X0_syncFile d (nI f) = _
        unfold f_X0_syncFile
        rw [C_isFile hc hI hf, gb_some, if_neg e0, if_neg (by decide), C_isOpen hc hI hf, gb_some, if_neg e1, if_pos rfl]
  · refine Or.inr ⟨-1, by decide, fun d hc => ?_⟩
    show f_X0_syncFile d v = _
    unfold f_X0_syncFile
    rw [C_isFile_out ho, gb_some, if_pos rfl]
theorem dn_crash (hG : GA A T) : DneA f_X0_crashAll A (crN A 8) (crA A) (T + 1024) := by
  have hn := crN_le hG.1 8 (Nat.le_refl _)
  exact ⟨by omega, GA_crash hG, fun d hc => C_crash hc hG.1⟩
theorem dn_mend (hG : GA A T) : DneA f_X0_mendAll A (mdN A 8) (mdJ A 8) (T + 1024) := by
  have hn := mdN_le hG.1 8 (Nat.le_refl _)
  exact ⟨by omega, GA_mend hG, fun d hc => C_mend hc hG.1⟩
theorem ad_cut (hG : GA A T) (v1 v2 : Int32) : AcD (fun d => f_X0_cutFile d v1 v2) A T := by
  have hI := hG.1
  rcases i_cases v1 8 (by decide) with ⟨f, hf, rfl⟩ | ho
  · have hmd := hI.2.2.2.1 f hf
    by_cases e0 : A 3 f = 0
    · refine Or.inr ⟨-1, by decide, fun d hc => ?_⟩
      show f_X0_cutFile d (nI f) v2 = _
      unfold f_X0_cutFile
      rw [C_isFile hc hI hf, gb_some, if_pos e0, if_pos rfl]
    · rcases i_split v2 with hv | ⟨n, hn, rfl⟩
      · refine Or.inr ⟨-2, by decide, fun d hc => ?_⟩
        show f_X0_cutFile d (nI f) v2 = _
        unfold f_X0_cutFile
        rw [C_isFile hc hI hf, gb_some, if_neg e0, if_neg (by decide), if_pos hv]
      · by_cases c64 : n ≤ 64
        · by_cases e2 : A 3 f = 2
          · by_cases c5 : n ≤ A 5 f
            · exact Or.inl ⟨A 4 f - n, cuA A f n, by omega, GA_cut hG hf c5, fun d hc => C_cut hc hI hf e2 c5⟩
            · refine Or.inr ⟨-4, by decide, fun d hc => ?_⟩
              show f_X0_cutFile d (nI f) (nI n) = _
              unfold f_X0_cutFile
              rw [C_isFile hc hI hf, gb_some, if_neg e0, if_neg (by decide), if_neg (nI_pos hn), if_pos (show nI n ≤ (64 : Int32) from nI_le (b := 64) c64 (by decide)), C_isOpen hc hI hf, gb_some, if_pos e2, if_neg (by decide), f_at_in (by decide) _ hf, gb_some, hc.sz hf, if_neg (nI_ge (by omega) (by omega))]
          · refine Or.inr ⟨-4, by decide, fun d hc => ?_⟩
            show f_X0_cutFile d (nI f) (nI n) = _
            unfold f_X0_cutFile
            rw [C_isFile hc hI hf, gb_some, if_neg e0, if_neg (by decide), if_neg (nI_pos hn), if_pos (show nI n ≤ (64 : Int32) from nI_le (b := 64) c64 (by decide)), C_isOpen hc hI hf, gb_some, if_neg e2, if_pos rfl]
        · refine Or.inr ⟨-2, by decide, fun d hc => ?_⟩
          show f_X0_cutFile d (nI f) (nI n) = _
          unfold f_X0_cutFile
          rw [C_isFile hc hI hf, gb_some, if_neg e0, if_neg (by decide), if_neg (nI_pos hn), if_neg (show ¬ nI n ≤ (64 : Int32) from nI_ge (a := 64) (by omega) hn)]
  · refine Or.inr ⟨-1, by decide, fun d hc => ?_⟩
    show f_X0_cutFile d v1 v2 = _
    unfold f_X0_cutFile
    rw [C_isFile_out ho, gb_some, if_pos rfl]
theorem ad_set (hG : GA A T) (v1 v2 : Int32) : AcD (fun d => f_X0_changeSetting d v1 v2) A T := by
  have hI := hG.1
  have h8 := hI.2.2.2.2
  by_cases c0 : v1 = 0
  · subst c0
    by_cases hv : v2 < 0 ∨ 16 < v2
    · refine Or.inr ⟨-2, by decide, fun d hc => ?_⟩
      show f_X0_changeSetting d 0 v2 = _
      unfold f_X0_changeSetting
      rw [if_pos rfl]
      by_cases c : v2 < 0
      · rw [if_pos c]
      · rw [if_neg c, if_neg (Int32.not_le.mpr (hv.resolve_left c))]
    · obtain ⟨n, -, hn, rfl⟩ := i_range (lo := 0) (hi := 16) (by decide) (by decide) hv
      exact Or.inl ⟨A 8 0, as A 8 0 n, by omega, GA_as hG (IA_set hI hn (fun q => absurd q (by decide))) (Or.inr rfl), fun d hc => C_set0 hc hn⟩
  · by_cases c1 : v1 = 1
    · subst c1
      by_cases hv : v2 < 0 ∨ 1 < v2
      · refine Or.inr ⟨-2, by decide, fun d hc => ?_⟩
        show f_X0_changeSetting d 1 v2 = _
        unfold f_X0_changeSetting
        rw [if_neg (by decide), if_pos rfl]
        by_cases c : v2 < 0
        · rw [if_pos c]
        · rw [if_neg c, if_neg (Int32.not_le.mpr (hv.resolve_left c))]
      · obtain ⟨n, -, hn, rfl⟩ := i_range (lo := 0) (hi := 1) (by decide) (by decide) hv
        exact Or.inl ⟨A 8 1, as A 8 1 n, by omega, GA_as hG (IA_set hI (by omega) (fun _ => hn)) (Or.inr rfl), fun d hc => C_set1 hc hn⟩
    · refine Or.inr ⟨-1, by decide, fun d hc => ?_⟩
      show f_X0_changeSetting d v1 v2 = _
      unfold f_X0_changeSetting
      rw [if_neg c0, if_neg c1]
theorem dn_append (hG : GA A T) {f n st : Nat} (hf : f < 8) (h2 : A 3 f = 2) (h1 : 1 ≤ n) (hn : n ≤ 64 - sm (A 5) 8) (hst : st ≤ 99) : DneA (fun d => f_X0_appendTo d (nI f) (nI n) (nI st)) A (sm (exJ (apA A f n st) f) (apA A f n st 4 f)) (apA A f n st) (T + 1024) := by
  have hAp := IA_append hG.1 hf (show A 3 f ≠ 0 by omega) hn hst
  have hbd := sm_exJ_le (apA A f n st) f (apA A f n st 4 f)
  have hb4 := (hAp.2.2.2.1 f hf).2.2.1
  exact ⟨by omega, GA_append hG hf h2 hn hst, fun d hc => C_append hc hG.1 hf h2 h1 hn hst⟩
theorem ad_append (hG : GA A T) (v1 v2 v3 : Int32) : AcD (fun d => f_X0_appendTo d v1 v2 v3) A T := by
  have hI := hG.1
  rcases i_cases v1 8 (by decide) with ⟨f, hf, rfl⟩ | ho
  · by_cases e0 : A 3 f = 0
    · exact Or.inr ⟨-1, by decide, fun d hc => C_app_none hc hI hf e0 v2 v3⟩
    · by_cases hv : v2 < 1 ∨ 64 < v2
      · exact Or.inr ⟨-2, by decide, fun d hc => C_app_bad hc hI hf e0 hv v3⟩
      · by_cases hw : v3 < 0 ∨ 99 < v3
        · exact Or.inr ⟨-2, by decide, fun d hc => C_app_bad2 hc hI hf e0 hv hw⟩
        · obtain ⟨n, h1, h64, rfl⟩ := i_range (lo := 1) (hi := 64) (by decide) (by decide) hv
          obtain ⟨st, -, hst, rfl⟩ := i_range (lo := 0) (hi := 99) (by decide) (by decide) hw
          by_cases c : A 3 f = 2 ∧ n ≤ 64 - sm (A 5) 8
          · exact Or.inl ⟨_, _, dn_append hG hf c.1 h1 c.2 hst⟩
          · have hno : A 3 f ≠ 2 ∨ ¬ n ≤ 64 - sm (A 5) 8 := by
              by_cases q : A 3 f = 2
              · exact Or.inr (fun z => c ⟨q, z⟩)
              · exact Or.inl q
            exact Or.inr ⟨-4, by decide, fun d hc => C_app_no hc hI hf e0 h1 h64 hst hno⟩
  · exact Or.inr ⟨-1, by decide, fun d hc => C_app_out ho v2 v3⟩
-- the law's own numbers, and its act
theorem low_lt (v : Int32) {n : Nat} (h0 : 0 < n) (hn : n < 2 ^ 31) : ∃ r, r < n ∧ f_L_low v (nI n) = some (nI r) := by
  obtain ⟨j, hj, e⟩ := pk_andE v 31 (m := 2147483647) (by decide)
  refine ⟨j % n, Nat.mod_lt _ h0, ?_⟩
  have d : nI j / nI n = nI (j / n) := (Int32.ofNat_div hj hn).symm
  have m : nI (j / n) * nI n = nI (j / n * n) := nI_mul _ _
  have q := Nat.div_add_mod j n
  rw [Nat.mul_comm n (j / n)] at q
  have le : j / n * n ≤ j := Nat.div_mul_le_self j n
  unfold f_L_low
  rw [if_neg (nI_ne0 h0 hn), e, d, m, nI_sub le]
  have e2 : j - j / n * n = j % n := by
    generalize j / n * n = a at q le ⊢
    generalize j % n = b at q ⊢
    omega
  rw [e2]
theorem gbb4_id {α1 α2 α3 α4 : Type} (o : Option (α1 × α2 × α3 × α4)) : gbb4 o (fun a b c d => some (a, b, c, d)) = o := by
  cases o with
  | none => rfl
  | some v => rfl
theorem act_F (x y : Int32) : ∃ F : (Nat → Nat → Int32) → Option (Int32 × (Nat → Nat → Int32)), (∀ A T, GA A T → AcD F A T) ∧ ∀ D sav old hsz cs len g, f_L_act D sav old hsz cs len g x y = actS F D sav old hsz cs len g := by
  obtain ⟨a, -, ea⟩ := low_lt (x >>> ((4 : Int32) &&& 31)) (n := 4) (by decide) (by decide)
  obtain ⟨b, -, eb⟩ := low_lt x (n := 17) (by decide) (by decide)
  obtain ⟨y2, -, ey2⟩ := low_lt y (n := 2) (by decide) (by decide)
  obtain ⟨y3, -, ey3⟩ := low_lt y (n := 3) (by decide) (by decide)
  obtain ⟨y14, -, ey14⟩ := low_lt y (n := 14) (by decide) (by decide)
  obtain ⟨z17, -, ez17⟩ := low_lt (y >>> ((1 : Int32) &&& 31)) (n := 17) (by decide) (by decide)
  obtain ⟨z2, -, ez2⟩ := low_lt (y >>> ((1 : Int32) &&& 31)) (n := 2) (by decide) (by decide)
  obtain ⟨w5, -, ew5⟩ := low_lt (y >>> ((9 : Int32) &&& 31)) (n := 5) (by decide) (by decide)
  obtain ⟨u64, -, eu64⟩ := low_lt y (n := 64) (by decide) (by decide)
  obtain ⟨u12, -, eu12⟩ := low_lt y (n := 12) (by decide) (by decide)
  obtain ⟨s100, -, es100⟩ := low_lt (y >>> ((3 : Int32) &&& 31)) (n := 100) (by decide) (by decide)
  have ea' : f_L_low (x >>> ((4 : Int32) &&& 31)) 4 = some (nI a) := ea
  have eb' : f_L_low x 17 = some (nI b) := eb
  have ey2' : f_L_low y 2 = some (nI y2) := ey2
  have ey3' : f_L_low y 3 = some (nI y3) := ey3
  have ey14' : f_L_low y 14 = some (nI y14) := ey14
  have ez17' : f_L_low (y >>> ((1 : Int32) &&& 31)) 17 = some (nI z17) := ez17
  have ez2' : f_L_low (y >>> ((1 : Int32) &&& 31)) 2 = some (nI z2) := ez2
  have ew5' : f_L_low (y >>> ((9 : Int32) &&& 31)) 5 = some (nI w5) := ew5
  have eu64' : f_L_low y 64 = some (nI u64) := eu64
  have eu12' : f_L_low y 12 = some (nI u12) := eu12
  have es100' : f_L_low (y >>> ((3 : Int32) &&& 31)) 100 = some (nI s100) := es100
  by_cases c0 : nI b = 0
  · refine ⟨f_X0_createFile, fun A T h => ad_create h, fun D sav old hsz cs len g => ?_⟩
    unfold f_L_act
    rw [ea', gb_some, eb', gb_some, if_pos c0, gbb4_id]; rfl
  by_cases c1 : nI b = 1
  · refine ⟨f_X0_createFile, fun A T h => ad_create h, fun D sav old hsz cs len g => ?_⟩
    unfold f_L_act
    rw [ea', gb_some, eb', gb_some, if_neg c0, if_pos c1, gbb4_id]; rfl
  by_cases c2 : nI b = 2
  · refine ⟨fun d => f_X0_openFile d (nI a), fun A T h => ad_open h _, fun D sav old hsz cs len g => ?_⟩
    unfold f_L_act
    rw [ea', gb_some, eb', gb_some, if_neg c0, if_neg c1, if_pos c2, gbb4_id]; rfl
  by_cases c3 : nI b = 3
  · refine ⟨fun d => f_X0_openFile d (nI a), fun A T h => ad_open h _, fun D sav old hsz cs len g => ?_⟩
    unfold f_L_act
    rw [ea', gb_some, eb', gb_some, if_neg c0, if_neg c1, if_neg c2, if_pos c3, gbb4_id]; rfl
  by_cases c4 : nI b = 4
  · refine ⟨fun d => f_X0_openFile d (nI a), fun A T h => ad_open h _, fun D sav old hsz cs len g => ?_⟩
    unfold f_L_act
    rw [ea', gb_some, eb', gb_some, if_neg c0, if_neg c1, if_neg c2, if_neg c3, if_pos c4, gbb4_id]; rfl
  by_cases c5 : nI b = 5
  · by_cases k : nI y2 = 0
    · refine ⟨fun d => f_X0_closeFile d (nI a), fun A T h => ad_close h _, fun D sav old hsz cs len g => ?_⟩
      unfold f_L_act
      rw [ea', gb_some, eb', gb_some, if_neg c0, if_neg c1, if_neg c2, if_neg c3, if_neg c4, if_pos c5, ey2', gb_some, if_pos k, gbb4_id]; rfl
    · refine ⟨fun d => f_X0_syncFile d (nI a), fun A T h => ad_sync h _, fun D sav old hsz cs len g => ?_⟩
      unfold f_L_act
      rw [ea', gb_some, eb', gb_some, if_neg c0, if_neg c1, if_neg c2, if_neg c3, if_neg c4, if_pos c5, ey2', gb_some, if_neg k, gbb4_id]; rfl
  by_cases c6 : nI b = 6
  · by_cases k : nI y3 = 0
    · refine ⟨fun d => f_X0_removeFile d (nI a), fun A T h => ad_remove h _, fun D sav old hsz cs len g => ?_⟩
      unfold f_L_act
      rw [ea', gb_some, eb', gb_some, if_neg c0, if_neg c1, if_neg c2, if_neg c3, if_neg c4, if_neg c5, if_pos c6, ey3', gb_some, if_pos k, gbb4_id]; rfl
    · refine ⟨f_X0_mendAll, fun A T h => Or.inl ⟨_, _, dn_mend h⟩, fun D sav old hsz cs len g => ?_⟩
      unfold f_L_act
      rw [ea', gb_some, eb', gb_some, if_neg c0, if_neg c1, if_neg c2, if_neg c3, if_neg c4, if_neg c5, if_pos c6, ey3', gb_some, if_neg k, gbb4_id]; rfl
  by_cases c7 : nI b = 7
  · by_cases k : nI y2 = 0
    · refine ⟨f_X0_crashAll, fun A T h => Or.inl ⟨_, _, dn_crash h⟩, fun D sav old hsz cs len g => ?_⟩
      unfold f_L_act
      rw [ea', gb_some, eb', gb_some, if_neg c0, if_neg c1, if_neg c2, if_neg c3, if_neg c4, if_neg c5, if_neg c6, if_pos c7, ey2', gb_some, if_pos k, gbb4_id]; rfl
    · refine ⟨fun d => f_X0_syncFile d (nI a), fun A T h => ad_sync h _, fun D sav old hsz cs len g => ?_⟩
      unfold f_L_act
      rw [ea', gb_some, eb', gb_some, if_neg c0, if_neg c1, if_neg c2, if_neg c3, if_neg c4, if_neg c5, if_neg c6, if_pos c7, ey2', gb_some, if_neg k, gbb4_id]; rfl
  by_cases c8 : nI b = 8
  · by_cases k : nI y2 = 0
    · refine ⟨fun d => f_X0_changeSetting d (nI y2) (nI z17), fun A T h => ad_set h _ _, fun D sav old hsz cs len g => ?_⟩
      unfold f_L_act
      rw [ea', gb_some, eb', gb_some, if_neg c0, if_neg c1, if_neg c2, if_neg c3, if_neg c4, if_neg c5, if_neg c6, if_neg c7, if_pos c8, ey2', gb_some, gb_some, if_pos k, ez17', gb_some, gbb4_id]; rfl
    · refine ⟨fun d => f_X0_changeSetting d (nI y2) (nI z2), fun A T h => ad_set h _ _, fun D sav old hsz cs len g => ?_⟩
      unfold f_L_act
      rw [ea', gb_some, eb', gb_some, if_neg c0, if_neg c1, if_neg c2, if_neg c3, if_neg c4, if_neg c5, if_neg c6, if_neg c7, if_pos c8, ey2', gb_some, gb_some, if_neg k, ez2', gb_some, gbb4_id]; rfl
  by_cases c9 : nI b = 9
  · refine ⟨fun d => f_X0_cutFile d (nI a) (nI y14), fun A T h => ad_cut h _ _, fun D sav old hsz cs len g => ?_⟩
    unfold f_L_act
    rw [ea', gb_some, eb', gb_some, if_neg c0, if_neg c1, if_neg c2, if_neg c3, if_neg c4, if_neg c5, if_neg c6, if_neg c7, if_neg c8, if_pos c9, ey14', gb_some, gbb4_id]; rfl
  by_cases k : nI w5 = 0
  · refine ⟨fun d => f_X0_appendTo d (nI a) (1 + nI u64) (nI s100), fun A T h => ad_append h _ _ _, fun D sav old hsz cs len g => ?_⟩
    unfold f_L_act
    rw [ea', gb_some, eb', gb_some, if_neg c0, if_neg c1, if_neg c2, if_neg c3, if_neg c4, if_neg c5, if_neg c6, if_neg c7, if_neg c8, if_neg c9, ew5', gb_some, if_pos k, eu64', gb_some, es100', gb_some, gbb4_id]; rfl
  · refine ⟨fun d => f_X0_appendTo d (nI a) (1 + nI u12) (nI s100), fun A T h => ad_append h _ _ _, fun D sav old hsz cs len g => ?_⟩
    unfold f_L_act
    rw [ea', gb_some, eb', gb_some, if_neg c0, if_neg c1, if_neg c2, if_neg c3, if_neg c4, if_neg c5, if_neg c6, if_neg c7, if_neg c8, if_neg c9, ew5', gb_some, if_neg k, eu12', gb_some, es100', gb_some, gbb4_id]; rfl
end ACD
