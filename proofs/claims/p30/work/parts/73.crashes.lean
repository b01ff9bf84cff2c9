/-! A CRASH LOSES WHAT WAS NOT SAFE; MENDING GIVES BACK WHAT WAS LENT: the law's check, taken back. -/
section LCRASH
variable {A : Nat → Nat → Nat} {D : Nat → Nat → Nat → Int32} {sav old hsz : Int32} {cs : Nat → Int32} {len : Int32} {g : Nat → Int32} {T n : Nat} {Hs : Nat → Nat → Nat → Nat}
theorem cr_loop (hc : RC (D 0) A) (hI : IA A) (v1 : Int64) (v4 : Int32) : f_L_crashes_L13 D sav old hsz cs len g v1 v4 gFu 0 0 = some (nI (sm (duI A) 8), nI 8) := by
  refine loopN (fun fu j => f_L_crashes_L13 D sav old hsz cs len g v1 v4 fu (nI (sm (duI A) j)) (nI j)) 8 _ (fun fu j hj => ?_) (fun fu => ?_) gFu 0 (by omega) (by decide)
  · show f_L_crashes_L13 D sav old hsz cs len g v1 v4 (fu + 1) (nI (sm (duI A) j)) (nI j) = f_L_crashes_L13 D sav old hsz cs len g v1 v4 fu (nI (sm (duI A) j + duI A j)) (nI (j + 1))
    have hl := hI.2.2.2.1 j hj
    rw [f_L_crashes_L13, if_neg (by rw [l_lit8 (by omega)]; omega)]
    by_cases e0 : A 3 j = 0
    · have ed : duI A j = 0 := by unfold duI; rw [if_pos e0]
      rw [q_file_no hc hI hj e0, gb_some, if_neg (show ¬ (0 : Int32) ≤ -1 by decide), glet_eq, glet_eq, nI_1, ed, show nI (sm (duI A) j) + 0 = nI (sm (duI A) j + 0) from nI_add _ 0]
    · have ed : duI A j = A 5 j - A 6 j := by unfold duI; rw [if_neg e0]
      rw [q_file0 hc hI hj e0, gb_some, if_pos (nI_pos' (by omega)), gb_some, q_file2 hc hI hj e0, gb_some, nI_sub (hl.2.2.2.2.2.1 e0), glet_eq, glet_eq, nI_add, nI_1, ed]
  · show f_L_crashes_L13 D sav old hsz cs len g v1 v4 (fu + 1) _ (nI 8) = _
    rw [f_L_crashes_L13, if_pos (by decide)]
theorem cr_safe (hc : RC (D 0) (crA A)) (hI : IA A) (v1 : Int64) (v3 v4 v5 v6 v7 : Int32) : f_L_crashes_L147 D sav old hsz cs len g v1 v3 v4 v5 v6 v7 gFu 0 = some (nI 8) := by
  have hIc := IA_crash hI
  refine loopN (fun fu j => f_L_crashes_L147 D sav old hsz cs len g v1 v3 v4 v5 v6 v7 fu (nI j)) 8 _ (fun fu j hj => ?_) (fun fu => ?_) gFu 0 (by omega) (by decide)
  · show f_L_crashes_L147 D sav old hsz cs len g v1 v3 v4 v5 v6 v7 (fu + 1) (nI j) = f_L_crashes_L147 D sav old hsz cs len g v1 v3 v4 v5 v6 v7 fu (nI (j + 1))
    rw [f_L_crashes_L147, if_neg (by rw [l_lit8 (by omega)]; omega)]
    by_cases e0 : A 3 j = 0
    · have e1 : crA A 3 j = 0 := by rw [crA_md hj, if_pos e0]
      rw [q_file_no hc hIc hj e1, gb_some, q_file_no hc hIc hj e1, gb_some, if_pos rfl, glet_eq, nI_1]
    · have e1 : crA A 3 j ≠ 0 := by rw [crA_md hj, if_neg e0]; decide
      have e5 : crA A 5 j = crA A 6 j := by rw [crA_sz hj, if_neg e0, crA_row A (by decide) (by decide) (by decide) (by decide)]
      rw [q_file0 hc hIc hj e1, gb_some, q_file2 hc hIc hj e1, gb_some, if_pos (by rw [e5]), glet_eq, nI_1]
  · show f_L_crashes_L147 D sav old hsz cs len g v1 v3 v4 v5 v6 v7 (fu + 1) (nI 8) = _
    rw [f_L_crashes_L147, if_pos (by decide)]
theorem ct_none (P : Nat → Prop) [DecidablePred P] (n : Nat) (h : ∀ i, i < n → ¬ P i) : ct P n = 0 := by
  induction n with
  | zero => rfl
  | succ n ih => rw [ct_succ, ih (fun i hi => h i (by omega)), if_neg (h n (by omega))]
theorem cr_open : ct (fun f => crA A 3 f = 2) 8 = 0 := by
  refine ct_none _ 8 (fun i hi q => ?_)
  rw [crA_md hi] at q
  by_cases c : A 3 i = 0
  · rw [if_pos c] at q; omega
  · rw [if_neg c] at q; omega
theorem cr_fre : fre (crA A) = fre A := by
  unfold fre ct
  exact sm_congr (fun k _ => by
    show (if crA A 1 k = 8 then 1 else 0) = (if A 1 k = 8 then 1 else 0)
    rw [crA_row A (by decide) (by decide) (by decide) (by decide)])
theorem cr_lent (hI : IA A) : sm (leI (crA A)) 8 = sm (fun f => crA A 4 f - crA A 5 f) 8 := by
  have hIc := IA_crash hI
  refine sm_congr (fun f hf => ?_)
  have hl := hIc.2.2.2.1 f hf
  unfold leI
  by_cases c : crA A 3 f = 1
  · rw [if_pos c]
  · have c0 : crA A 3 f = 0 := by
      rw [crA_md hf] at c ⊢
      by_cases q : A 3 f = 0
      · rw [if_pos q]
      · rw [if_neg q] at c; exact absurd rfl c
    have := hl.2.2.2.2.2.2 c0
    rw [if_neg c]; omega
theorem md_lent (hI : IA A) : sm (fun f => mdJ (crA A) 8 4 f - mdJ (crA A) 8 5 f) 8 = 0 := by
  have hIc := IA_crash hI
  obtain ⟨h5, h3, h6, h4, h7, h9, hN⟩ := md_all (crA A) 8
  rw [sm_congr (v := fun _ => 0) (fun f hf => ?_), sm_zero]
  have hl := hIc.2.2.2.1 f hf
  rw [h4, h5]
  by_cases c : crA A 3 f = 1
  · rw [if_pos ⟨hf, c⟩, Nat.sub_self]
  · have c0 : crA A 3 f = 0 := by
      rw [crA_md hf] at c ⊢
      by_cases q : A 3 f = 0
      · rw [if_pos q]
      · rw [if_neg q] at c; exact absurd rfl c
    have := hl.2.2.2.2.2.2 c0
    rw [if_neg (fun q => c q.2)]; omega
theorem md_fre (hI : IA A) : fre (mdJ (crA A) 8) = fre A + sm (leI (crA A)) 8 := by
  have hIc := IA_crash hI
  have hIm := IA_mend hIc (j := 8) (Nat.le_refl _)
  have s1 := sum64 hIc.b
  have s2 := sum64 hIm.b
  have l1 := lent_sum hIc
  have l2 := lent_sum hIm
  have z := md_lent hI
  have cl := cr_lent hI
  have cf := cr_fre (A := A)
  have e5 : sm (mdJ (crA A) 8 5) 8 = sm (crA A 5) 8 := sm_congr (fun i _ => (md_all (crA A) 8).1 i)
  omega
theorem pu2 (n : Nat) (Hs : Nat → Nat → Nat → Nat) (A C : Nat → Nat → Nat) (hn : n ≤ 5) : 0 < puN (puN n) - 1 ∧ puH (puN n) (puH n Hs A) C (puN (puN n) - 1 - 1) = A := by
  have h1 := puN_pos n
  have h2 := puH_top n Hs A hn
  by_cases c : puN n < 5
  · have e : puN (puN n) = puN n + 1 := by
      show (if puN n < 5 then puN n + 1 else 5) = _
      rw [if_pos c]
    have e3 : puH (puN n) (puH n Hs A) C (puN n - 1) = puH n Hs A (puN n - 1) := by
      show (if puN n < 5 then (if puN n - 1 = puN n then C else puH n Hs A (puN n - 1)) else (if puN n - 1 = 4 then C else puH n Hs A (puN n - 1 + 1))) = _
      rw [if_pos c, if_neg (by omega)]
    rw [e, Nat.add_sub_cancel, e3]
    exact ⟨h1.1, h2⟩
  · have e5 : puN n = 5 := by omega
    have e : puN (puN n) = 5 := by rw [e5]; rfl
    have e3 : puH (puN n) (puH n Hs A) C 3 = puH n Hs A (puN n - 1) := by
      show (if puN n < 5 then (if 3 = puN n then C else puH n Hs A 3) else (if 3 = 4 then C else puH n Hs A (3 + 1))) = _
      rw [if_neg c, if_neg (by decide), e5]
    rw [e]
    refine ⟨by decide, ?_⟩
    show puH (puN n) (puH n Hs A) C 3 = A
    rw [e3, h2]
theorem crashes_ok (hK : KsT D old hsz A n Hs T) (hT : T + 2048 < 2 ^ 31) : ∃ D' old' hsz' n' Hs', f_L_crashes D sav old hsz cs len g = some (1, D', old', hsz') ∧ KsT D' old' hsz' A n' Hs' (T + 2048) := by
  have hG := hK.2.1
  have hI := hG.1
  have hc := hK.1
  have hIc := IA_crash hI
  obtain ⟨D1, old1, a1, k1⟩ := act_done (sav := sav) (cs := cs) (len := len) (g := g) hK (Nat.le_add_right T 1024) (dn_crash hG)
  have a1' : f_X5_crash D sav old hsz cs len g = some (nI (crN A 8), D1, old1, nI (puN n)) := a1
  rw [crN_eq] at a1'
  obtain ⟨D2, old2, a2, k2⟩ := act_done (sav := sav) (cs := cs) (len := len) (g := g) k1 (Nat.le_add_right (T + 1024) 1024) (dn_mend k1.2.1)
  have a2' : f_X5_mend D1 sav old1 (nI (puN n)) cs len g = some (nI (mdN (crA A) 8), D2, old2, nI (puN (puN n))) := a2
  rw [(md_all (crA A) 8).2.2.2.2.2.2] at a2'
  obtain ⟨D3, b1, k3⟩ := undo_go (sav := sav) (cs := cs) (len := len) (g := g) k2 (puN_pos _).1
  have p2 := pu2 n Hs A (crA A) hK.2.2.1
  obtain ⟨D4, b2, k4⟩ := undo_go (sav := sav) (cs := cs) (len := len) (g := g) k3 p2.1
  rw [p2.2] at k4
  have hc1 := k1.1
  have hc2 := k2.1
  have hIm := k2.2.1.1
  have w5 := (puN_pos (puN n)).2
  have c2 : f_X5_count D sav old hsz cs len g 2 = some (nI (fre A)) := q_count hc hI (w := 2) (by decide)
  have t3 : f_X5_total D sav old hsz cs len g 3 = some (nI (A 9 3)) := q_total hc (i := 3) (by decide)
  have t1 : f_X5_total D sav old hsz cs len g 1 = some (nI (A 9 1)) := q_total hc (i := 1) (by decide)
  have d1 : f_X5_count D1 sav old1 (nI (puN n)) cs len g 1 = some (nI (ct (fun f => crA A 3 f = 2) 8)) := q_count hc1 hIc (w := 1) (by decide)
  have d2 : f_X5_count D1 sav old1 (nI (puN n)) cs len g 2 = some (nI (fre (crA A))) := q_count hc1 hIc (w := 2) (by decide)
  have d4 : f_X5_count D1 sav old1 (nI (puN n)) cs len g 4 = some (nI (sm (fun f => crA A 4 f - crA A 5 f) 8)) := q_count hc1 hIc (w := 4) (by decide)
  have d5 : f_X5_count D1 sav old1 (nI (puN n)) cs len g 5 = some (nI (sm (leI (crA A)) 8)) := q_count hc1 hIc (w := 5) (by decide)
  have u3 : f_X5_total D1 sav old1 (nI (puN n)) cs len g 3 = some (nI (crA A 9 3)) := q_total hc1 (i := 3) (by decide)
  have m2 : f_X5_count D2 sav old2 (nI (puN (puN n))) cs len g 2 = some (nI (fre (mdJ (crA A) 8))) := q_count hc2 hIm (w := 2) (by decide)
  have m4 : f_X5_count D2 sav old2 (nI (puN (puN n))) cs len g 4 = some (nI (sm (fun f => mdJ (crA A) 8 4 f - mdJ (crA A) 8 5 f) 8)) := q_count hc2 hIm (w := 4) (by decide)
  have m1 : f_X5_total D2 sav old2 (nI (puN (puN n))) cs len g 1 = some (nI (mdJ (crA A) 8 9 1)) := q_total hc2 (i := 1) (by decide)
  have x3 : crA A 9 3 = A 9 3 + sm (duI A) 8 := by rw [crA_tt, if_pos rfl]
  have x1 : mdJ (crA A) 8 9 1 = A 9 1 + sm (leI (crA A)) 8 := by rw [(md_all (crA A) 8).2.2.2.2.2.1, if_pos rfl, crA_tt, if_neg (by decide)]
  refine ⟨D4, old2, _, _, _, ?_, k4⟩
  unfold f_L_crashes
  rw [print_eq hc hI, gb_some, cr_loop hc hI, gbb2_some, c2, gb_some, t3, gb_some, t1, gb_some, a1', gbb4_some, if_pos rfl, d1, cr_open, gb_some, if_pos (show nI 0 = 0 from rfl), d2, cr_fre, gb_some, if_pos rfl, u3, gb_some, nI_add, if_pos (by rw [x3]), d5, gb_some, d4, gb_some, if_pos (by rw [cr_lent hI]), hangs_ok hc1 k1.2.1 (by omega), gb_some, if_neg n10, cr_safe hc1 hI, gb_some, gb_some, a2', gbb4_some, if_pos (by rw [cr_lent hI]), m4, md_lent hI, gb_some, if_pos (show nI 0 = 0 from rfl), m2, gb_some, nI_add, if_pos (by rw [md_fre hI, cr_lent hI]), m1, gb_some, nI_add, if_pos (by rw [x1, cr_lent hI]), hangs_ok hc2 k2.2.1 (by omega), gb_some, if_neg n10, b1, gbb3_some, if_neg (nI_pos (by omega)), b2, gbb3_some, if_neg (nI_pos (by omega)), print_eq k4.1 hI, gb_some, if_pos (lg_self _)]
end LCRASH
