/-! MATHEMATICS, 40: undo, save, restore; what would be. -/
section PAST
variable {A : Nat → Nat → Nat} {s t g : Nat → Int32} {d : Nat → Nat → Int32}
theorem st_undo_RR : st_undo RR := by
  intro D sav old hsz cs len g s t g6 hR
  obtain ⟨⟨A, hc, hm, hI⟩, ⟨o, n, h1, h2, h3, h4, h5, h6⟩, hS, hT⟩ := hR
  unfold f_X5_undo f_X1_takeLatest f_X6_undo
  rw [h3, h4, h5]
  by_cases c : n = 0
  · subst c
    rw [if_pos (show nI 0 ≤ 0 by decide), gbb3_some, if_pos rfl, if_pos (show nI 0 = 0 from rfl)]
    exact ⟨_, _, _, _, _, rfl, rfl, ⟨A, hc, hm, hI⟩, ⟨o, 0, h1, h2, rfl, rfl, h5, h6⟩, hS, hT⟩
  · obtain ⟨B, k1, k2, k3⟩ := h6 (n - 1) (by omega)
    have e1 : nI n - 1 = nI (n - 1) := nI_sub (b := 1) (by omega)
    have hb : (o + (n - 1)) % 5 < 5 := Nat.mod_lt _ (by decide)
    have k2' : RM s (246 * n) B := by rw [show n = n - 1 + 1 by omega]; exact k2
    have ec : f_X6_copies s t g6 (nI n) 0 = some (cpS s n 0) := M_copies s t g6 (a := n) (b := 0) c (by omega) (by decide)
    rw [if_neg (nI_nle (by omega) (by omega)), e1, sbI_mod (by omega), if_pos ⟨nI_pos' (by omega), by rw [nI_clamp (by omega)]; exact hb⟩, nI_clamp (by omega), gbb3_some, if_neg n10]
    unfold f_X1_size
    rw [gb_some, if_neg (nI_ne0 (by omega) (by omega)), ec, gb_some, glet_eq, upd_eq]
    refine ⟨_, _, _, _, _, rfl, rfl, ⟨B, ?_, RM_cp (a := n) k2' 0, k3⟩, ⟨o, n - 1, h1, by omega, rfl, rfl, upd_eq _ _ _, fun j hj => ?_⟩, hS.congr ?_ (fun x hx _ => cpS_out _ _ (by omega)) (upd_ne _ _ (by decide)), hT.congr (upd_ne _ _ (by decide))⟩
    · unfold dcp
      rw [up_eq]; exact k1
    · obtain ⟨E, q1, q2, q3⟩ := h6 j (by omega)
      refine ⟨E, ?_, q2.shift (fun x hx => cpS_out _ _ (by omega)), q3⟩
      unfold dcp
      rw [up_ne _ _ (by omega)]; exact q1
    · unfold dcp
      rw [up_ne _ _ (by decide)]
theorem st_save_RR : st_save RR := by
  intro D sav old hsz cs len g s t g6 hR
  obtain ⟨⟨A, hc, hm, hI⟩, hH, hS, hT⟩ := hR
  have e0 : dcp D 2 0 0 = D 0 := by unfold dcp; rw [up_ne _ _ (by decide)]
  have e2 : dcp D 2 0 2 = D 0 := by unfold dcp; rw [up_eq]
  have ec : f_X6_copies s t g6 0 6 = some (cpS s 0 6) := M_copies s t g6 (a := 0) (b := 6) (by decide) (by decide) (by decide)
  have hm2 : RM (cpS s 0 6) 0 A := hm.keep (fun x hx => cpS_out _ _ (by omega))
  have cF : f_X0_freeBlocks (D 0) = some (nI (fre A)) := C_freeBlocks hc hI
  have eF : f_X6_free (cpS s 0 6) t (upd g6 1 1) 0 = some (nI (fre A)) := M_free (b := 0) hm2 hI (by omega)
  unfold f_X5_save f_X6_save
  rw [glet_eq, glet_eq, e0, cF, gb_some, ec, gb_some, glet_eq, eF, gb_some]
  refine ⟨_, _, _, _, _, rfl, rfl, ⟨A, by rw [e0]; exact hc, hm2, hI⟩, hH.congr (fun i hi => ?_) (fun x hx1 hx2 => cpS_out _ _ (by omega)) (upd_ne _ _ (by decide)), ⟨(upd_eq _ _ _).symm, Or.inr ⟨A, by rw [e2]; exact hc, RM_cp (a := 0) hm 6, hI⟩⟩, hT.congr (upd_ne _ _ (by decide))⟩
  unfold dcp
  rw [up_ne _ _ (by omega)]
theorem st_restore_RR : st_restore RR := by
  intro D sav old hsz cs len g s t g6 hR
  obtain ⟨⟨A, hc, hm, hI⟩, hH, ⟨hS1, hS2⟩, hT⟩ := hR
  unfold f_X5_restore f_X6_restore
  by_cases c : sav = 0
  · rw [if_pos c, if_pos (by rw [← hS1]; exact c)]
    exact ⟨_, _, _, _, _, _, rfl, rfl, ⟨A, hc, hm, hI⟩, hH, ⟨hS1, hS2⟩, hT⟩
  · obtain ⟨B, k1, k2, k3⟩ := hS2.resolve_left c
    obtain ⟨o, n, h1, h2, h3, h4, h5, h6⟩ := hH
    obtain ⟨D', o', n', s', g', q1, q2, q3, q4, q5, q6, q7, q8, q9, q10⟩ := rec_both h6 h1 h2 (q := 0) (by decide) hc hm hI h5 sav cs len g
    have e0 : dcp D' 0 2 0 = D 2 := by unfold dcp; rw [up_eq, q7 2 (by decide)]
    have e2 : dcp D' 0 2 2 = D 2 := by unfold dcp; rw [up_ne _ _ (by decide), q7 2 (by decide)]
    have k2' : RM s' (246 * 6) B := k2.shift (fun x hx => q9 _ (by omega))
    have ec : f_X6_copies s' t g' 6 0 = some (cpS s' 6 0) := M_copies s' t g' (a := 6) (b := 0) (by decide) (by decide) (by decide)
    have hm2 : RM (cpS s' 6 0) 0 B := RM_cp (a := 6) k2' 0
    have cF : f_X0_freeBlocks (D 2) = some (nI (fre B)) := C_freeBlocks k1 k3
    have eF : f_X6_free (cpS s' 6 0) t g' 0 = some (nI (fre B)) := M_free (b := 0) hm2 k3 (by omega)
    rw [if_neg c, if_neg (by rw [← hS1]; exact c), h3, h4, q3, gbb3_some, glet_eq, e0, cF, gb_some, q4, gbb2_some, ec, gb_some, eF, gb_some]
    refine ⟨_, _, _, _, _, _, rfl, rfl, ⟨B, by rw [e0]; exact k1, hm2, k3⟩, ⟨o', n', q1, q2, rfl, rfl, q5, q10.congr (fun i hi => ?_) (fun x hx _ => cpS_out _ _ (by omega)) q2⟩, ⟨by rw [q6 1 (by decide)]; exact hS1, Or.inr ⟨B, by rw [e2]; exact k1, k2'.shift (fun x hx => cpS_out _ _ (by omega)), k3⟩⟩, hT.congr (q6 2 (by decide))⟩
    unfold dcp
    rw [up_ne _ _ (by omega)]
theorem st_ifAppended_RR : st_ifAppended RR := by
  intro D sav old hsz cs len g s t g6 hR v1 v2 v3
  have hR2 := hR
  obtain ⟨⟨A, hc, hm, hI⟩, hH, hS, hT⟩ := hR2
  have e1 : dcp D 1 0 1 = D 0 := by unfold dcp; rw [up_eq]
  have keep : ∀ (w : Nat → Nat → Int32) (s' : Nat → Int32), (∀ x, x < 1722 → s' x = s x) → RR (va_up (dcp D 1 0) 1 w) sav old hsz cs len g s' t g6 := fun w s' hs => by
    have ei : ∀ i, i ≠ 1 → va_up (dcp D 1 0) 1 w i = D i := fun i hi => by unfold dcp; rw [up_ne _ _ hi, up_ne _ _ hi]
    exact ⟨⟨A, by rw [ei 0 (by decide)]; exact hc, hm.keep (fun x hx => hs x (by omega)), hI⟩, hH.congr (fun i hi => ei i (by omega)) (fun x _ hx => hs x (by omega)) rfl, hS.congr (ei 2 (by decide)) (fun x _ hx => hs x hx) rfl, hT⟩
  unfold f_X5_ifAppended f_X6_ifAppended
  rcases i_cases v1 8 (by decide) with ⟨f, hf, rfl⟩ | ho
  · have hmd := hI.2.2.2.1 f hf
    by_cases e0 : A 3 f = 0
    · rw [C_isFile hc hI hf, gb_some, if_pos e0, if_pos rfl, M_isThere hm hf, gb_some, if_pos e0, if_pos rfl]
      exact ⟨_, _, _, rfl, rfl, hR⟩
    · rw [C_isFile hc hI hf, gb_some, if_neg e0, if_neg n10, M_isThere hm hf, gb_some, if_neg e0, if_neg n10, M_in_if v2 1 64, gb_some, M_in_if v3 0 2, gb_some]
      by_cases hw : v3 < 0 ∨ 2 < v3
      · have ecl : (if v3 < 0 then some (-2, D) else if v3 ≤ 2 then glet (dcp D 1 0) (fun D5 => gbb2 (f_X0_appendTo (D5 1) (nI f) v2 0) (fun r6 w7 => glet (va_up D5 1 w7) (fun D8 => if r6 < 0 then some (r6, D8) else if v3 = 0 then some (r6, D8) else if v3 = 1 then gb (f_X0_lentOf (D8 1) (nI f)) (fun r13 => some (r13, D8)) else gb (f_X0_freeBlocks (D8 1)) (fun r12 => some (r12, D8))))) else some (-2, D)) = some (-2, D) := by
          by_cases c : v3 < 0
          · rw [if_pos c]
          · rw [if_neg c, if_neg (Int32.not_le.mpr (hw.resolve_left c))]
        rw [ecl]
        by_cases hv : v2 < 1 ∨ 64 < v2
        · rw [if_pos hv, if_pos rfl]
          exact ⟨_, _, _, rfl, rfl, hR⟩
        · rw [if_neg hv, if_neg n10, if_pos hw, if_pos rfl]
          exact ⟨_, _, _, rfl, rfl, hR⟩
      · rw [if_neg (fun q => hw (Or.inl q)), if_pos (Int32.not_lt.mp (fun q => hw (Or.inr q))), glet_eq, e1]
        by_cases hv : v2 < 1 ∨ 64 < v2
        · rw [C_app_bad hc hI hf e0 hv 0, gbb2_some, glet_eq, if_pos (show (-2 : Int32) < 0 by decide), if_pos hv, if_pos rfl]
          exact ⟨_, _, _, rfl, rfl, keep _ _ (fun _ _ => rfl)⟩
        · obtain ⟨n, h1, h64, rfl⟩ := i_range (lo := 1) (hi := 64) (by decide) (by decide) hv
          rw [if_neg hv, if_neg n10, if_neg hw, if_neg n10, M_isOpen hm hf e0, gb_some]
          by_cases c : A 3 f = 2 ∧ n ≤ 64 - sm (A 5) 8
          · have hAp := IA_append hI hf (n := n) (st := 0) (by omega) c.2 (by decide)
            have hbd := sm_exJ_le (apA A f n 0) f (apA A f n 0 4 f)
            have hb4 := (hAp.2.2.2.1 f hf).2.2.1
            obtain ⟨d', c1, c2⟩ := C_append hc hI hf c.1 h1 c.2 (st := 0) (by decide)
            have c1' : f_X0_appendTo (D 0) (nI f) (nI n) 0 = some (nI (sm (exJ (apA A f n 0) f) (apA A f n 0 4 f)), d') := c1
            have ec : f_X6_copies s t g6 0 7 = some (cpS s 0 7) := M_copies s t g6 (a := 0) (b := 7) (by decide) (by decide) (by decide)
            obtain ⟨s2, m1, m2, m3⟩ := M_append (t := t) (g := g6) (b := 1722) (RM_cp (a := 0) hm 7) hI (by omega) hf e0 c.2 (st := 0) (by decide)
            have m1' : f_X6_appends (cpS s 0 7) t g6 1722 (nI f) (nI n) 0 = some (nI (sm (exJ (apA A f n 0) f) (apA A f n 0 4 f)), s2) := m1
            have hs2 : ∀ x, x < 1722 → s2 x = s x := fun x hx => (m3 x (Or.inl hx)).trans (cpS_out _ _ (by omega))
            have eL : f_X6_lent s2 t g6 1722 (nI f) = some (nI (apA A f n 0 4 f - apA A f n 0 5 f)) := M_lent (b := 1722) m2 hAp (by omega) hf
            have eF : f_X6_free s2 t g6 1722 = some (nI (fre (apA A f n 0))) := M_free (b := 1722) m2 hAp (by omega)
            have cF : f_X0_freeBlocks d' = some (nI (fre (apA A f n 0))) := C_freeBlocks c2 hAp
            rw [c1', gbb2_some, glet_eq, if_neg (nI_pos (by omega)), up_eq, C_lentOf c2 hAp hf, gb_some, cF, gb_some, if_pos c.1, if_neg n10, M_canAppend hm hI _ h64, gb_some, if_pos c.2, if_neg n10, ec, gb_some, m1', gbb2_some, eL, gb_some, eF, gb_some]
            by_cases w0 : v3 = 0
            · rw [if_pos w0, if_pos w0]
              exact ⟨_, _, _, rfl, rfl, keep _ _ hs2⟩
            · rw [if_neg w0, if_neg w0]
              by_cases w1 : v3 = 1
              · rw [if_pos w1, if_pos w1]
                exact ⟨_, _, _, rfl, rfl, keep _ _ hs2⟩
              · rw [if_neg w1, if_neg w1]
                exact ⟨_, _, _, rfl, rfl, keep _ _ hs2⟩
          · have hno : A 3 f ≠ 2 ∨ ¬ n ≤ 64 - sm (A 5) 8 := by
              by_cases q : A 3 f = 2
              · exact Or.inr (fun z => c ⟨q, z⟩)
              · exact Or.inl q
            have c1' : f_X0_appendTo (D 0) (nI f) (nI n) 0 = some (-4, D 0) := C_app_no hc hI hf e0 h1 h64 (st := 0) (by decide) hno
            rw [c1', gbb2_some, glet_eq, if_pos (show (-4 : Int32) < 0 by decide)]
            by_cases q : A 3 f = 2
            · rw [if_pos q, if_neg n10, M_canAppend hm hI _ h64, gb_some, if_neg (fun z => c ⟨q, z⟩), if_pos rfl]
              exact ⟨_, _, _, rfl, rfl, keep _ _ (fun _ _ => rfl)⟩
            · rw [if_neg q, if_pos rfl]
              exact ⟨_, _, _, rfl, rfl, keep _ _ (fun _ _ => rfl)⟩
  · rw [C_isFile_out ho, gb_some, if_pos rfl, M_isThere_out ho, gb_some, if_pos rfl]
    exact ⟨_, _, _, rfl, rfl, hR⟩
end PAST
