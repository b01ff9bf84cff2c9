/-! THE LAW'S OWN WALK, STAGE BY STAGE. -/
abbrev lwG (X : gX) (Z : gZ) (Ar : Nat → Prop) (adx : Nat → Nat) (D : Nat → Nat → Nat → Int32) (old hsz : Int32) (pc : Nat) (lv : List (Nat × Value)) (st : List Value) : Prop := GL X Z 10 Ar 175 2167 (gW 175 adx (xE Z.2.1 Z.2.2 adx D 0 old hsz (fun _ => 0) 0 (fun _ => 0))) pc lv st
theorem irem4 {i : Nat} (h : i < 2 ^ 31) : nI i - nI i / 4 * 4 = nI (i % 4) := by
  have d : nI i / 4 = nI (i / 4) := (Int32.ofNat_div h (by decide)).symm
  have m : nI (i / 4) * 4 = nI (i / 4 * 4) := nI_mul _ 4
  rw [d, m, nI_sub (by omega), show i - i / 4 * 4 = i % 4 by omega]
set_option maxHeartbeats 8000000 in
set_option maxRecDepth 100000 in
theorem lw_xy {X : gX} {Z : gZ} {b L : Nat} {xs : Nat → Int32} {adx : Nat → Nat} {Ar : Nat → Prop} (C : LC X Z cL_law 10 wsL_law RL room_1 Ar) (hX : va_X b L xs X.2.2.2.2.1 X.2.2.2.2.1.heap) (hbl : b < X.2.2.2.2.1.heap.size) (hbA : ¬ Ar b) (hL : L ≤ 260) {i : Nat} (hi : i < 40) {D : Nat → Nat → Nat → Int32} {old hsz : Int32} (kk : ∀ x y : Int32, lwG X Z Ar adx D old hsz 54 [(5, .int y), (4, .int x), (3, .int (nI i)), (2, .int 1), (1, .ref (adx 168)), (0, .ref b)] []) : lwG X Z Ar adx D old hsz 25 [(3, .int (nI i)), (2, .int 1), (1, .ref (adx 168)), (0, .ref b)] [] := by
  have t : ∀ x : Int32, lwG X Z Ar adx D old hsz 43 [(4, .int x), (3, .int (nI i)), (2, .int 1), (1, .ref (adx 168)), (0, .ref b)] [] := fun x => by
    refine l_aload_n C dL_law_43 4 rfl ?_
    refine l_iconst (v := 2) C dL_law_44 (by decide) ?_
    refine l_iload_n C dL_law_45 1 rfl ?_
    refine l_imul C dL_law_46 ?_
    refine l_iconst (v := 1) C dL_law_47 (by decide) ?_
    refine l_iadd C dL_law_48 ?_
    rw [show ((2 * (nI i)) + 1 : Int32) = nI (2 * i + 1) from by rw [show (2 : Int32) * nI i = nI (2 * i) from nI_mul 2 i]; exact nI_add (2 * i) 1]
    refine l_cell C hX hbl hbA (by omega) (by omega) gL_law_L_cell ⟨by decide, by decide⟩ (by decide) (by decide) dL_law_49 (Nat.le_of_ble_eq_true rfl) (fun y => ?_)
    refine l_istore C dL_law_52 (by decide) [(5, .int y), (4, .int x), (3, .int (nI i)), (2, .int 1), (1, .ref (adx 168)), (0, .ref b)] rfl ?_
    exact l_sub [0, 1, 2, 3, 4, 5] rfl (kk x y)
  refine l_iload_n C dL_law_25 0 rfl ?_
  refine l_iconst (v := 3) C dL_law_26 (by decide) ?_
  refine l_icmp_ge (tgt := 34) C dL_law_27 (by decide) (fun hc => ?_) (fun hc => ?_)
  · refine l_aload_n C dL_law_34 3 rfl ?_
    refine l_iconst (v := 2) C dL_law_35 (by decide) ?_
    refine l_iload_n C dL_law_36 0 rfl ?_
    refine l_imul C dL_law_37 ?_
    rw [show (2 * (nI i) : Int32) = nI (2 * i) from nI_mul 2 i]
    refine l_cell C hX hbl hbA (by omega) (by omega) gL_law_L_cell ⟨by decide, by decide⟩ (by decide) (by decide) dL_law_38 (Nat.le_of_ble_eq_true rfl) (fun x => ?_)
    refine l_istore C dL_law_41 (by decide) [(4, .int x), (3, .int (nI i)), (2, .int 1), (1, .ref (adx 168)), (0, .ref b)] rfl ?_
    exact l_sub [0, 1, 2, 3, 4] rfl (t x)
  · refine l_iconst (v := 0) C dL_law_30 (by decide) ?_
    refine l_goto (tgt := 41) C dL_law_31 (by decide) ?_
    refine l_istore C dL_law_41 (by decide) [(4, .int 0), (3, .int (nI i)), (2, .int 1), (1, .ref (adx 168)), (0, .ref b)] rfl ?_
    exact l_sub [0, 1, 2, 3, 4] rfl (t 0)
set_option maxHeartbeats 8000000 in
set_option maxRecDepth 100000 in
theorem lw_told {X : gX} {Z : gZ} {b L : Nat} {xs : Nat → Int32} {adx : Nat → Nat} {Ar : Nat → Prop} (C : LC X Z cL_law 10 wsL_law RL room_1 Ar) (hX : va_X b L xs X.2.2.2.2.1 X.2.2.2.2.1.heap) (hbl : b < X.2.2.2.2.1.heap.size) (hbA : ¬ Ar b) (hL : L ≤ 260) {i : Nat} (hi : i < 40) {D : Nat → Nat → Nat → Int32} {old hsz : Int32} {A : Nat → Nat → Nat} {n T : Nat} {Hs : Nat → Nat → Nat → Nat} {x y : Int32} (hK : KsT D old hsz A n Hs T) (kR : ∀ (D' : Nat → Nat → Nat → Int32) (r : Int32), r < 0 → KsT D' old hsz A n Hs T → lwG X Z Ar adx D' old hsz 99 [(9, .int r), (7, .long (PRT A)), (6, .int (nI n)), (5, .int y), (4, .int x), (3, .int (nI i)), (2, .int 1), (1, .ref (adx 168)), (0, .ref b)] []) (kD : ∀ (F : (Nat → Nat → Int32) → Option (Int32 × (Nat → Nat → Int32))) (r : Nat) (A' : Nat → Nat → Nat) (D' : Nat → Nat → Nat → Int32) (old' : Int32), DneA F A r A' (T + 1024) → (5 < i → ∀ D sav old hsz cs len g, f_L_act D sav old hsz cs len g x y = actS F D sav old hsz cs len g) → KsT D' old' (nI (puN n)) A' (puN n) (puH n Hs A) (T + 1024) → lwG X Z Ar adx D' old' (nI (puN n)) 99 [(9, .int (nI r)), (7, .long (PRT A)), (6, .int (nI n)), (5, .int y), (4, .int x), (3, .int (nI i)), (2, .int 1), (1, .ref (adx 168)), (0, .ref b)] []) : lwG X Z Ar adx D old hsz 54 [(5, .int y), (4, .int x), (3, .int (nI i)), (2, .int 1), (1, .ref (adx 168)), (0, .ref b)] [] := by
  have h9 : f_X5_count D 0 old hsz (fun _ => 0) 0 (fun _ => 0) 9 = some (nI n) := q_count9 n hK.2.2.2.1
  have hp : f_L_print D 0 old hsz (fun _ => 0) 0 (fun _ => 0) = some (PRT A) := print_eq hK.1 hK.2.1.1
  have a89 : lwG X Z Ar adx D old hsz 89 [(7, .long (PRT A)), (6, .int (nI n)), (5, .int y), (4, .int x), (3, .int (nI i)), (2, .int 1), (1, .ref (adx 168)), (0, .ref b)] [] := by
    obtain ⟨F, hF1, hF2⟩ := act_F x y
    rcases hF1 A T hK.2.1 with ⟨r, A', hd⟩ | ⟨r, hr⟩
    · obtain ⟨D', old', a1, k1⟩ := act_done (sav := 0) (cs := fun _ => 0) (len := 0) (g := fun _ => 0) hK (Nat.le_add_right T 1024) hd
      rw [← hF2] at a1
      refine l_aload_n C dL_law_89 6 rfl ?_
      refine l_iload C dL_law_90 3 rfl ?_
      refine l_iload C dL_law_92 2 rfl ?_
      refine l_cTi (rest := []) (As := [.ref (adx 168), .int x, .int y]) (m := 175) (adc := adx) (Ec := (xE Z.2.1 Z.2.2 adx D 0 old hsz (fun _ => 0) 0 (fun _ => 0))) (Ec' := (xE Z.2.1 Z.2.2 adx D' 0 old' (nI (puN n)) (fun _ => 0) 0 (fun _ => 0))) C gL_law_L_act rfl ok_L_act ⟨by decide, by decide⟩ ⟨rfl, rfl⟩ (by decide) (by decide) (fun hI => cn_L_act _ Z adx hI D 0 old hsz (fun _ => 0) 0 (fun _ => 0) x y a1) rfl dL_law_94 rfl (Nat.le_of_ble_eq_true rfl) ?_
      refine l_istore C dL_law_97 (by decide) [(9, .int (nI r)), (7, .long (PRT A)), (6, .int (nI n)), (5, .int y), (4, .int x), (3, .int (nI i)), (2, .int 1), (1, .ref (adx 168)), (0, .ref b)] rfl ?_
      exact l_sub [0, 1, 2, 3, 4, 5, 6, 7, 8] rfl (kD F r A' D' old' hd (fun _ => hF2) k1)
    · obtain ⟨D', a1, k1⟩ := act_refd (sav := 0) (cs := fun _ => 0) (len := 0) (g := fun _ => 0) hK hr
      rw [← hF2] at a1
      refine l_aload_n C dL_law_89 6 rfl ?_
      refine l_iload C dL_law_90 3 rfl ?_
      refine l_iload C dL_law_92 2 rfl ?_
      refine l_cTi (rest := []) (As := [.ref (adx 168), .int x, .int y]) (m := 175) (adc := adx) (Ec := (xE Z.2.1 Z.2.2 adx D 0 old hsz (fun _ => 0) 0 (fun _ => 0))) (Ec' := (xE Z.2.1 Z.2.2 adx D' 0 old hsz (fun _ => 0) 0 (fun _ => 0))) C gL_law_L_act rfl ok_L_act ⟨by decide, by decide⟩ ⟨rfl, rfl⟩ (by decide) (by decide) (fun hI => cn_L_act _ Z adx hI D 0 old hsz (fun _ => 0) 0 (fun _ => 0) x y a1) rfl dL_law_94 rfl (Nat.le_of_ble_eq_true rfl) ?_
      refine l_istore C dL_law_97 (by decide) [(9, .int r), (7, .long (PRT A)), (6, .int (nI n)), (5, .int y), (4, .int x), (3, .int (nI i)), (2, .int 1), (1, .ref (adx 168)), (0, .ref b)] rfl ?_
      exact l_sub [0, 1, 2, 3, 4, 5, 6, 7, 8] rfl (kR D' r hr.1 k1)
  refine l_aload_n C dL_law_54 4 rfl ?_
  refine l_bipush (v := 9) C dL_law_55 (by decide) ?_
  refine l_cWi (rest := []) (m := 175) (adc := adx) (Ec := (xE Z.2.1 Z.2.2 adx D 0 old hsz (fun _ => 0) 0 (fun _ => 0))) (Ec' := (xE Z.2.1 Z.2.2 adx D 0 old hsz (fun _ => 0) 0 (fun _ => 0))) C gL_law_X5_count rfl ok_X5_count ⟨by decide, by decide⟩ ⟨rfl, rfl⟩ (by decide) (by decide) 168 (by decide) rfl rfl (fun hI => cn_X5_count _ Z adx hI D 0 old hsz (fun _ => 0) 0 (fun _ => 0) 9 h9) rfl dL_law_57 rfl (Nat.le_of_ble_eq_true rfl) ?_
  refine l_istore C dL_law_60 (by decide) [(6, .int (nI n)), (5, .int y), (4, .int x), (3, .int (nI i)), (2, .int 1), (1, .ref (adx 168)), (0, .ref b)] rfl ?_
  refine l_aload_n C dL_law_62 5 rfl ?_
  refine l_cTj (rest := []) (As := [.ref (adx 168)]) (m := 175) (adc := adx) (Ec := (xE Z.2.1 Z.2.2 adx D 0 old hsz (fun _ => 0) 0 (fun _ => 0))) (Ec' := (xE Z.2.1 Z.2.2 adx D 0 old hsz (fun _ => 0) 0 (fun _ => 0))) C gL_law_L_print rfl ok_L_print ⟨by decide, by decide⟩ ⟨rfl, rfl⟩ (by decide) (by decide) (fun hI => cn_L_print _ Z adx hI D 0 old hsz (fun _ => 0) 0 (fun _ => 0) hp) rfl dL_law_63 rfl (Nat.le_of_ble_eq_true rfl) ?_
  refine l_lstore C dL_law_66 (by decide) [(7, .long (PRT A)), (6, .int (nI n)), (5, .int y), (4, .int x), (3, .int (nI i)), (2, .int 1), (1, .ref (adx 168)), (0, .ref b)] rfl ?_
  refine l_iload_n C dL_law_68 4 rfl ?_
  refine l_iconst (v := 2) C dL_law_69 (by decide) ?_
  refine l_icmp_le (tgt := 89) C dL_law_70 (by decide) (fun hc => ?_) (fun hc0 => ?_)
  · exact l_sub [0, 1, 2, 3, 4, 5, 6, 7] rfl (a89)
  · refine l_iload_n C dL_law_73 4 rfl ?_
    refine l_bipush (v := 6) C dL_law_74 (by decide) ?_
    refine l_icmp_ge (tgt := 89) C dL_law_76 (by decide) (fun hc => ?_) (fun hc => ?_)
    · exact l_sub [0, 1, 2, 3, 4, 5, 6, 7] rfl (a89)
    · have hi5 : i < 6 := by
        by_cases q : i < 6
        · exact q
        · exact absurd (show (6 : Int32) ≤ nI i from nI_le (a := 6) (by omega) (by omega)) hc
      have hi3 : 3 ≤ i := by
        by_cases q : 3 ≤ i
        · exact q
        · exact absurd (show nI i ≤ (2 : Int32) from nI_le (b := 2) (by omega) (by decide)) hc0
      rcases ad_open hK.2.1 (nI (i - 3)) with ⟨r, A', hd⟩ | ⟨r, hr⟩
      · obtain ⟨D', old', a1, k1⟩ := act_done (sav := 0) (cs := fun _ => 0) (len := 0) (g := fun _ => 0) hK (Nat.le_add_right T 1024) hd
        refine l_aload_n C dL_law_79 6 rfl ?_
        refine l_iload_n C dL_law_80 4 rfl ?_
        refine l_iconst (v := 3) C dL_law_81 (by decide) ?_
        refine l_isub C dL_law_82 ?_
        rw [show ((nI i) - 3 : Int32) = nI (i - 3) from nI_sub (b := 3) hi3]
        refine l_cWi (rest := []) (m := 175) (adc := adx) (Ec := (xE Z.2.1 Z.2.2 adx D 0 old hsz (fun _ => 0) 0 (fun _ => 0))) (Ec' := (xE Z.2.1 Z.2.2 adx D' 0 old' (nI (puN n)) (fun _ => 0) 0 (fun _ => 0))) C gL_law_X5_open rfl ok_X5_open ⟨by decide, by decide⟩ ⟨rfl, rfl⟩ (by decide) (by decide) 168 (by decide) rfl rfl (fun hI => cn_X5_open _ Z adx hI D 0 old hsz (fun _ => 0) 0 (fun _ => 0) (nI (i - 3)) a1) rfl dL_law_83 rfl (Nat.le_of_ble_eq_true rfl) ?_
        refine l_goto (tgt := 97) C dL_law_86 (by decide) ?_
        refine l_istore C dL_law_97 (by decide) [(9, .int (nI r)), (7, .long (PRT A)), (6, .int (nI n)), (5, .int y), (4, .int x), (3, .int (nI i)), (2, .int 1), (1, .ref (adx 168)), (0, .ref b)] rfl ?_
        exact l_sub [0, 1, 2, 3, 4, 5, 6, 7, 8] rfl (kD _ r A' D' old' hd (fun q => by omega) k1)
      · obtain ⟨D', a1, k1⟩ := act_refd (sav := 0) (cs := fun _ => 0) (len := 0) (g := fun _ => 0) hK hr
        refine l_aload_n C dL_law_79 6 rfl ?_
        refine l_iload_n C dL_law_80 4 rfl ?_
        refine l_iconst (v := 3) C dL_law_81 (by decide) ?_
        refine l_isub C dL_law_82 ?_
        rw [show ((nI i) - 3 : Int32) = nI (i - 3) from nI_sub (b := 3) hi3]
        refine l_cWi (rest := []) (m := 175) (adc := adx) (Ec := (xE Z.2.1 Z.2.2 adx D 0 old hsz (fun _ => 0) 0 (fun _ => 0))) (Ec' := (xE Z.2.1 Z.2.2 adx D' 0 old hsz (fun _ => 0) 0 (fun _ => 0))) C gL_law_X5_open rfl ok_X5_open ⟨by decide, by decide⟩ ⟨rfl, rfl⟩ (by decide) (by decide) 168 (by decide) rfl rfl (fun hI => cn_X5_open _ Z adx hI D 0 old hsz (fun _ => 0) 0 (fun _ => 0) (nI (i - 3)) a1) rfl dL_law_83 rfl (Nat.le_of_ble_eq_true rfl) ?_
        refine l_goto (tgt := 97) C dL_law_86 (by decide) ?_
        refine l_istore C dL_law_97 (by decide) [(9, .int r), (7, .long (PRT A)), (6, .int (nI n)), (5, .int y), (4, .int x), (3, .int (nI i)), (2, .int 1), (1, .ref (adx 168)), (0, .ref b)] rfl ?_
        exact l_sub [0, 1, 2, 3, 4, 5, 6, 7, 8] rfl (kR D' r hr.1 k1)
set_option maxHeartbeats 8000000 in
set_option maxRecDepth 100000 in
theorem lw_refd {X : gX} {Z : gZ} {b L : Nat} {xs : Nat → Int32} {adx : Nat → Nat} {Ar : Nat → Prop} (C : LC X Z cL_law 10 wsL_law RL room_1 Ar) (hX : va_X b L xs X.2.2.2.2.1 X.2.2.2.2.1.heap) (hbl : b < X.2.2.2.2.1.heap.size) (hbA : ¬ Ar b) (hL : L ≤ 260) {i : Nat} (hi : i < 40) {D : Nat → Nat → Nat → Int32} {old hsz : Int32} {A : Nat → Nat → Nat} {n T : Nat} {Hs : Nat → Nat → Nat → Nat} {x y r : Int32} (hr : r < 0) (hK : KsT D old hsz A n Hs T) (kE : lwG X Z Ar adx D old hsz 231 [(5, .int y), (4, .int x), (3, .int (nI i)), (2, .int 1), (1, .ref (adx 168)), (0, .ref b)] []) : lwG X Z Ar adx D old hsz 99 [(9, .int r), (7, .long (PRT A)), (6, .int (nI n)), (5, .int y), (4, .int x), (3, .int (nI i)), (2, .int 1), (1, .ref (adx 168)), (0, .ref b)] [] := by
  have h9 : f_X5_count D 0 old hsz (fun _ => 0) 0 (fun _ => 0) 9 = some (nI n) := q_count9 n hK.2.2.2.1
  have hp : f_L_print D 0 old hsz (fun _ => 0) 0 (fun _ => 0) = some (PRT A) := print_eq hK.1 hK.2.1.1
  refine l_iload C dL_law_99 0 rfl ?_
  refine l_if_ge (tgt := 134) C dL_law_101 (by decide) (fun hc => absurd hc (Int32.not_le.mpr hr)) (fun _ => ?_)
  refine l_aload_n C dL_law_104 7 rfl ?_
  refine l_bipush (v := 9) C dL_law_105 (by decide) ?_
  refine l_cWi (rest := []) (m := 175) (adc := adx) (Ec := (xE Z.2.1 Z.2.2 adx D 0 old hsz (fun _ => 0) 0 (fun _ => 0))) (Ec' := (xE Z.2.1 Z.2.2 adx D 0 old hsz (fun _ => 0) 0 (fun _ => 0))) C gL_law_X5_count rfl ok_X5_count ⟨by decide, by decide⟩ ⟨rfl, rfl⟩ (by decide) (by decide) 168 (by decide) rfl rfl (fun hI => cn_X5_count _ Z adx hI D 0 old hsz (fun _ => 0) 0 (fun _ => 0) 9 h9) rfl dL_law_107 rfl (Nat.le_of_ble_eq_true rfl) ?_
  refine l_iload C dL_law_110 2 rfl ?_
  refine l_icmp_ne (tgt := 129) C dL_law_112 (by decide) (fun hc => absurd rfl hc) (fun _ => ?_)
  refine l_aload_n C dL_law_115 7 rfl ?_
  refine l_cTj (rest := []) (As := [.ref (adx 168)]) (m := 175) (adc := adx) (Ec := (xE Z.2.1 Z.2.2 adx D 0 old hsz (fun _ => 0) 0 (fun _ => 0))) (Ec' := (xE Z.2.1 Z.2.2 adx D 0 old hsz (fun _ => 0) 0 (fun _ => 0))) C gL_law_L_print rfl ok_L_print ⟨by decide, by decide⟩ ⟨rfl, rfl⟩ (by decide) (by decide) (fun hI => cn_L_print _ Z adx hI D 0 old hsz (fun _ => 0) 0 (fun _ => 0) hp) rfl dL_law_116 rfl (Nat.le_of_ble_eq_true rfl) ?_
  refine l_lload C dL_law_119 1 rfl ?_
  refine l_lcmp C dL_law_121 ?_
  refine l_if_ne (tgt := 129) C dL_law_122 (by decide) (fun hc => absurd (lg_self _) hc) (fun _ => ?_)
  refine l_iconst (v := 1) C dL_law_125 (by decide) ?_
  refine l_goto (tgt := 130) C dL_law_126 (by decide) ?_
  refine l_istore_n C dL_law_130 (by decide) [(2, .int 1), (9, .int r), (7, .long (PRT A)), (6, .int (nI n)), (5, .int y), (4, .int x), (3, .int (nI i)), (1, .ref (adx 168)), (0, .ref b)] rfl ?_
  refine l_goto (tgt := 231) C dL_law_131 (by decide) ?_
  exact l_sub [4, 5, 6, 0, 7, 8] rfl (kE)
set_option maxHeartbeats 8000000 in
set_option maxRecDepth 100000 in
theorem lw_done {X : gX} {Z : gZ} {b L : Nat} {xs : Nat → Int32} {adx : Nat → Nat} {Ar : Nat → Prop} (C : LC X Z cL_law 10 wsL_law RL room_1 Ar) (hX : va_X b L xs X.2.2.2.2.1 X.2.2.2.2.1.heap) (hbl : b < X.2.2.2.2.1.heap.size) (hbA : ¬ Ar b) (hL : L ≤ 260) {i : Nat} (hi : i < 40) {D : Nat → Nat → Nat → Int32} {old : Int32} {A A' : Nat → Nat → Nat} {n T r : Nat} {Hs : Nat → Nat → Nat → Nat} {x y : Int32} {F : (Nat → Nat → Int32) → Option (Int32 × (Nat → Nat → Int32))} (hn : n ≤ 5) (hd : DneA F A r A' (T + 1024)) (hF : 5 < i → ∀ D sav old hsz cs len g, f_L_act D sav old hsz cs len g x y = actS F D sav old hsz cs len g) (hK : KsT D old (nI (puN n)) A' (puN n) (puH n Hs A) (T + 1024)) (kE : ∀ (D' : Nat → Nat → Nat → Int32) (old' hsz' : Int32) (n' : Nat) (Hs' : Nat → Nat → Nat → Nat), KsT D' old' hsz' A' n' Hs' (T + 1024) → lwG X Z Ar adx D' old' hsz' 231 [(5, .int y), (4, .int x), (3, .int (nI i)), (2, .int 1), (1, .ref (adx 168)), (0, .ref b)] []) : lwG X Z Ar adx D old (nI (puN n)) 99 [(9, .int (nI r)), (7, .long (PRT A)), (6, .int (nI n)), (5, .int y), (4, .int x), (3, .int (nI i)), (2, .int 1), (1, .ref (adx 168)), (0, .ref b)] [] := by
  have h9 : f_X5_count D 0 old (nI (puN n)) (fun _ => 0) 0 (fun _ => 0) 9 = some (nI (puN n)) := q_count9 (puN n) rfl
  have pp := puN_pos n
  have r0 : (0 : Int32) ≤ nI r := nI_pos' hd.1
  have t162 : lwG X Z Ar adx D old (nI (puN n)) 162 [(9, .int (nI r)), (7, .long (PRT A)), (6, .int (nI n)), (5, .int y), (4, .int x), (3, .int (nI i)), (2, .int 1), (1, .ref (adx 168)), (0, .ref b)] [.int 1] := by
    obtain ⟨v, -, ev⟩ := low_lt (y >>> ((2 : Int32) &&& 31)) (n := 5) (by decide) (by decide)
    refine l_istore_n C dL_law_162 (by decide) [(2, .int 1), (9, .int (nI r)), (7, .long (PRT A)), (6, .int (nI n)), (5, .int y), (4, .int x), (3, .int (nI i)), (1, .ref (adx 168)), (0, .ref b)] rfl ?_
    refine l_iload_n C dL_law_163 0 rfl ?_
    refine l_if_eq (tgt := 231) C dL_law_164 (by decide) (fun hc => absurd hc (by decide)) (fun _ => ?_)
    refine l_iload C dL_law_167 4 rfl ?_
    refine l_iconst (v := 2) C dL_law_169 (by decide) ?_
    refine l_ishr C dL_law_170 ?_
    refine l_iconst (v := 5) C dL_law_171 (by decide) ?_
    refine l_cNi (rest := []) (As := [.int (y >>> ((2 : Int32) &&& 31)), .int 5]) C gL_law_L_low rfl ok_L_low ⟨by decide, by decide⟩ ⟨rfl, rfl⟩ (by decide) (by decide) (cn_L_low _ Z (y >>> ((2 : Int32) &&& 31)) 5 ev) rfl dL_law_172 rfl (Nat.le_of_ble_eq_true rfl) ?_
    refine l_if_ne (tgt := 231) C dL_law_175 (by decide) (fun hc => ?_) (fun hc => ?_)
    · exact l_sub [4, 5, 6, 0, 7, 8] rfl (kE D old (nI (puN n)) (puN n) (puH n Hs A) hK)
    · refine l_iload_n C dL_law_178 6 rfl ?_
      refine l_iconst (v := 5) C dL_law_179 (by decide) ?_
      refine l_icmp_le (tgt := 231) C dL_law_180 (by decide) (fun hc => ?_) (fun hc => ?_)
      · exact l_sub [4, 5, 6, 0, 7, 8] rfl (kE D old (nI (puN n)) (puN n) (puH n Hs A) hK)
      · have hi5 : 5 < i := by
          by_cases q : 5 < i
          · exact q
          · exact absurd (show nI i ≤ (5 : Int32) from nI_le (b := 5) (by omega) (by decide)) hc
        obtain ⟨D1, b1, k1⟩ := undo_go (sav := 0) (cs := fun _ => 0) (len := 0) (g := fun _ => 0) hK pp.1
        rw [puH_top n Hs A hn] at k1
        obtain ⟨D2, old2, a2, k2⟩ := act_done (sav := 0) (cs := fun _ => 0) (len := 0) (g := fun _ => 0) k1 (Nat.le_refl (T + 1024)) hd
        rw [← hF hi5] at a2
        have hp : f_L_print D1 0 old (nI (puN n - 1)) (fun _ => 0) 0 (fun _ => 0) = some (PRT A) := print_eq k1.1 k1.2.1.1
        have t199 : lwG X Z Ar adx D1 old (nI (puN n - 1)) 199 [(2, .int 1), (9, .int (nI r)), (7, .long (PRT A)), (6, .int (nI n)), (5, .int y), (4, .int x), (3, .int (nI i)), (1, .ref (adx 168)), (0, .ref b)] [.int (nI (puN n - 1)), .int (nI (puN n - 1))] := by
          refine l_icmp_ne (tgt := 229) C dL_law_199 (by decide) (fun hc => absurd rfl hc) (fun _ => ?_)
          refine l_aload_n C dL_law_202 7 rfl ?_
          refine l_cTj (rest := []) (As := [.ref (adx 168)]) (m := 175) (adc := adx) (Ec := (xE Z.2.1 Z.2.2 adx D1 0 old (nI (puN n - 1)) (fun _ => 0) 0 (fun _ => 0))) (Ec' := (xE Z.2.1 Z.2.2 adx D1 0 old (nI (puN n - 1)) (fun _ => 0) 0 (fun _ => 0))) C gL_law_L_print rfl ok_L_print ⟨by decide, by decide⟩ ⟨rfl, rfl⟩ (by decide) (by decide) (fun hI => cn_L_print _ Z adx hI D1 0 old (nI (puN n - 1)) (fun _ => 0) 0 (fun _ => 0) hp) rfl dL_law_203 rfl (Nat.le_of_ble_eq_true rfl) ?_
          refine l_lload C dL_law_206 2 rfl ?_
          refine l_lcmp C dL_law_208 ?_
          refine l_if_ne (tgt := 229) C dL_law_209 (by decide) (fun hc => absurd (lg_self _) hc) (fun _ => ?_)
          refine l_aload_n C dL_law_212 7 rfl ?_
          refine l_iload C dL_law_213 5 rfl ?_
          refine l_iload C dL_law_215 4 rfl ?_
          refine l_cTi (rest := []) (As := [.ref (adx 168), .int x, .int y]) (m := 175) (adc := adx) (Ec := (xE Z.2.1 Z.2.2 adx D1 0 old (nI (puN n - 1)) (fun _ => 0) 0 (fun _ => 0))) (Ec' := (xE Z.2.1 Z.2.2 adx D2 0 old2 (nI (puN (puN n - 1))) (fun _ => 0) 0 (fun _ => 0))) C gL_law_L_act rfl ok_L_act ⟨by decide, by decide⟩ ⟨rfl, rfl⟩ (by decide) (by decide) (fun hI => cn_L_act _ Z adx hI D1 0 old (nI (puN n - 1)) (fun _ => 0) 0 (fun _ => 0) x y a2) rfl dL_law_217 rfl (Nat.le_of_ble_eq_true rfl) ?_
          refine l_iload C dL_law_220 1 rfl ?_
          refine l_icmp_ne (tgt := 229) C dL_law_222 (by decide) (fun hc => absurd rfl hc) (fun _ => ?_)
          refine l_iconst (v := 1) C dL_law_225 (by decide) ?_
          refine l_goto (tgt := 230) C dL_law_226 (by decide) ?_
          refine l_istore_n C dL_law_230 (by decide) [(2, .int 1), (9, .int (nI r)), (7, .long (PRT A)), (6, .int (nI n)), (5, .int y), (4, .int x), (3, .int (nI i)), (1, .ref (adx 168)), (0, .ref b)] rfl ?_
          exact l_sub [4, 5, 6, 0, 7, 8] rfl (kE D2 old2 (nI (puN (puN n - 1))) _ _ k2)
        refine l_aload_n C dL_law_183 7 rfl ?_
        refine l_cWi (rest := []) (m := 175) (adc := adx) (Ec := (xE Z.2.1 Z.2.2 adx D 0 old (nI (puN n)) (fun _ => 0) 0 (fun _ => 0))) (Ec' := (xE Z.2.1 Z.2.2 adx D1 0 old (nI (puN n - 1)) (fun _ => 0) 0 (fun _ => 0))) C gL_law_X5_undo rfl ok_X5_undo ⟨by decide, by decide⟩ ⟨rfl, rfl⟩ (by decide) (by decide) 168 (by decide) rfl rfl (fun hI => cn_X5_undo _ Z adx hI D 0 old (nI (puN n)) (fun _ => 0) 0 (fun _ => 0) b1) rfl dL_law_184 rfl (Nat.le_of_ble_eq_true rfl) ?_
        refine l_iload C dL_law_187 3 rfl ?_
        refine l_iconst (v := 5) C dL_law_189 (by decide) ?_
        refine l_icmp_ge (tgt := 198) C dL_law_190 (by decide) (fun hc => ?_) (fun hc => ?_)
        · have e : puN n - 1 = 4 := by
            unfold puN
            by_cases q : n < 5
            · exact absurd hc (show ¬ (5 : Int32) ≤ nI n from nI_ge (b := 5) q (by decide))
            · rw [if_neg q]
          refine l_iconst (v := 4) C dL_law_198 (by decide) ?_
          rw [show (4 : Int32) = nI (puN n - 1) by rw [e]; rfl]
          exact t199
        · have e : puN n - 1 = n := by
            unfold puN
            by_cases q : n < 5
            · rw [if_pos q]; omega
            · exact absurd (show (5 : Int32) ≤ nI n from nI_le (a := 5) (by omega) (by omega)) hc
          refine l_iload C dL_law_193 3 rfl ?_
          refine l_goto (tgt := 199) C dL_law_195 (by decide) ?_
          rw [e] at t199 ⊢
          exact t199
  refine l_iload C dL_law_99 0 rfl ?_
  refine l_if_ge (tgt := 134) C dL_law_101 (by decide) (fun _ => ?_) (fun hc => absurd r0 hc)
  refine l_aload_n C dL_law_134 7 rfl ?_
  refine l_bipush (v := 9) C dL_law_135 (by decide) ?_
  refine l_cWi (rest := []) (m := 175) (adc := adx) (Ec := (xE Z.2.1 Z.2.2 adx D 0 old (nI (puN n)) (fun _ => 0) 0 (fun _ => 0))) (Ec' := (xE Z.2.1 Z.2.2 adx D 0 old (nI (puN n)) (fun _ => 0) 0 (fun _ => 0))) C gL_law_X5_count rfl ok_X5_count ⟨by decide, by decide⟩ ⟨rfl, rfl⟩ (by decide) (by decide) 168 (by decide) rfl rfl (fun hI => cn_X5_count _ Z adx hI D 0 old (nI (puN n)) (fun _ => 0) 0 (fun _ => 0) 9 h9) rfl dL_law_137 rfl (Nat.le_of_ble_eq_true rfl) ?_
  refine l_iload C dL_law_140 2 rfl ?_
  refine l_iconst (v := 5) C dL_law_142 (by decide) ?_
  refine l_icmp_ge (tgt := 153) C dL_law_143 (by decide) (fun hc => ?_) (fun hc => ?_)
  · have e : puN n = 5 := by
      unfold puN
      by_cases q : n < 5
      · exact absurd hc (show ¬ (5 : Int32) ≤ nI n from nI_ge (b := 5) q (by decide))
      · rw [if_neg q]
    refine l_iconst (v := 5) C dL_law_153 (by decide) ?_
    refine l_icmp_ne (tgt := 161) C dL_law_154 (by decide) (fun hc => absurd (show nI (puN n) = 5 by rw [e]; rfl) hc) (fun _ => ?_)
    refine l_iconst (v := 1) C dL_law_157 (by decide) ?_
    refine l_goto (tgt := 162) C dL_law_158 (by decide) ?_
    exact t162
  · have e : puN n = n + 1 := by
      unfold puN
      by_cases q : n < 5
      · rw [if_pos q]
      · exact absurd (show (5 : Int32) ≤ nI n from nI_le (a := 5) (by omega) (by omega)) hc
    refine l_iload C dL_law_146 2 rfl ?_
    refine l_iconst (v := 1) C dL_law_148 (by decide) ?_
    refine l_iadd C dL_law_149 ?_
    refine l_goto (tgt := 154) C dL_law_150 (by decide) ?_
    refine l_icmp_ne (tgt := 161) C dL_law_154 (by decide) (fun hc => absurd (show nI (puN n) = nI n + 1 by rw [e, nI_1]) hc) (fun _ => ?_)
    refine l_iconst (v := 1) C dL_law_157 (by decide) ?_
    refine l_goto (tgt := 162) C dL_law_158 (by decide) ?_
    exact t162
set_option maxHeartbeats 8000000 in
set_option maxRecDepth 100000 in
theorem lw_rest {X : gX} {Z : gZ} {b L : Nat} {xs : Nat → Int32} {adx : Nat → Nat} {Ar : Nat → Prop} (C : LC X Z cL_law 10 wsL_law RL room_1 Ar) (hX : va_X b L xs X.2.2.2.2.1 X.2.2.2.2.1.heap) (hbl : b < X.2.2.2.2.1.heap.size) (hbA : ¬ Ar b) (hL : L ≤ 260) {i : Nat} (hi : i < 40) {D : Nat → Nat → Nat → Int32} {old hsz : Int32} {A : Nat → Nat → Nat} {n T : Nat} {Hs : Nat → Nat → Nat → Nat} {x y : Int32} (hT : T + 8192 < 2 ^ 31) (hK : KsT D old hsz A n Hs T) (kk : ∀ (D' : Nat → Nat → Nat → Int32) (old' hsz' : Int32) (n' : Nat) (Hs' : Nat → Nat → Nat → Nat), KsT D' old' hsz' A n' Hs' (T + 3072) → lwG X Z Ar adx D' old' hsz' 15 [(3, .int (nI (i + 1))), (2, .int 1), (1, .ref (adx 168)), (0, .ref b)] []) : lwG X Z Ar adx D old hsz 231 [(5, .int y), (4, .int x), (3, .int (nI i)), (2, .int 1), (1, .ref (adx 168)), (0, .ref b)] [] := by
  have hh : f_L_hangs D 0 old hsz (fun _ => 0) 0 (fun _ => 0) = some 1 := hangs_ok hK.1 hK.2.1 (by omega)
  obtain ⟨f, hf, ef⟩ := low_lt (y >>> ((4 : Int32) &&& 31)) (n := 4) (by decide) (by decide)
  obtain ⟨v, -, ev⟩ := low_lt (x >>> ((9 : Int32) &&& 31)) (n := 4) (by decide) (by decide)
  obtain ⟨c64, hc64, ec64⟩ := low_lt (x >>> ((3 : Int32) &&& 31)) (n := 64) (by decide) (by decide)
  obtain ⟨c16, hc16, ec16⟩ := low_lt (x >>> ((3 : Int32) &&& 31)) (n := 16) (by decide) (by decide)
  obtain ⟨z, hz, ez⟩ := low_lt (y >>> ((6 : Int32) &&& 31)) (n := 100) (by decide) (by decide)
  have t308 : ∀ (D1 : Nat → Nat → Nat → Int32) (old1 hsz1 : Int32) (n1 : Nat) (Hs1 : Nat → Nat → Nat → Nat), KsT D1 old1 hsz1 A n1 Hs1 (T + 3072) → lwG X Z Ar adx D1 old1 hsz1 308 [(5, .int y), (4, .int x), (3, .int (nI i)), (2, .int 1), (1, .ref (adx 168)), (0, .ref b)] [] := by
    intro D1 old1 hsz1 n1 Hs1 k1
    refine l_iconst (v := 1) C dL_law_308 (by decide) ?_
    refine l_goto (tgt := 313) C dL_law_309 (by decide) ?_
    refine l_istore_n C dL_law_313 (by decide) [(2, .int 1), (5, .int y), (4, .int x), (3, .int (nI i)), (1, .ref (adx 168)), (0, .ref b)] rfl ?_
    refine l_iinc (v := nI (i + 1)) C dL_law_314 3 rfl (nI_1 i) (by decide) [(3, .int (nI (i + 1))), (2, .int 1), (5, .int y), (4, .int x), (1, .ref (adx 168)), (0, .ref b)] rfl ?_
    refine l_goto (tgt := 15) C dL_law_317 (by decide) ?_
    exact l_sub [0, 1, 4, 5] rfl (kk D1 old1 hsz1 n1 Hs1 k1)
  have t289 : ∀ q : Nat, 1 ≤ q → q ≤ 64 → lwG X Z Ar adx D old hsz 289 [(5, .int y), (4, .int x), (3, .int (nI i)), (2, .int 1), (1, .ref (adx 168)), (0, .ref b)] [.int (nI z), .int (nI q), .int (nI f), .ref (adx 168)] := by
    intro q q1 q2
    obtain ⟨D1, old1, hsz1, n1, Hs1, g1, k1⟩ := grows_ok (sav := 0) (cs := fun _ => 0) (len := 0) (g := fun _ => 0) hK (f := f) (b := q) (st := z) (by omega) q1 q2 (by omega) (by omega)
    refine l_cTi (rest := []) (As := [.ref (adx 168), .int (nI f), .int (nI q), .int (nI z)]) (m := 175) (adc := adx) (Ec := (xE Z.2.1 Z.2.2 adx D 0 old hsz (fun _ => 0) 0 (fun _ => 0))) (Ec' := (xE Z.2.1 Z.2.2 adx D1 0 old1 hsz1 (fun _ => 0) 0 (fun _ => 0))) C gL_law_L_grows rfl ok_L_grows ⟨by decide, by decide⟩ ⟨rfl, rfl⟩ (by decide) (by decide) (fun hI => cn_L_grows _ Z adx hI D 0 old hsz (fun _ => 0) 0 (fun _ => 0) (nI f) (nI q) (nI z) g1) rfl dL_law_289 rfl (Nat.le_of_ble_eq_true rfl) ?_
    refine l_if_eq (tgt := 312) C dL_law_292 (by decide) (fun hc => absurd hc (by decide)) (fun _ => ?_)
    refine l_iload_n C dL_law_295 2 rfl ?_
    refine l_iconst (v := 4) C dL_law_296 (by decide) ?_
    refine l_irem C dL_law_297 (by decide) ?_
    rw [show ((nI i) - (nI i) / 4 * 4 : Int32) = nI (i % 4) from irem4 (by omega)]
    refine l_if_gt (tgt := 308) C dL_law_298 (by decide) (fun hc => ?_) (fun hc => ?_)
    · exact l_sub [0, 1, 2, 3, 4, 5] rfl (t308 D1 old1 hsz1 n1 Hs1 (k1.up (by omega)))
    · obtain ⟨D2, old2, hsz2, n2, Hs2, g2, k2⟩ := crashes_ok (sav := 0) (cs := fun _ => 0) (len := 0) (g := fun _ => 0) k1 (by omega)
      refine l_aload_n C dL_law_301 4 rfl ?_
      refine l_cTi (rest := []) (As := [.ref (adx 168)]) (m := 175) (adc := adx) (Ec := (xE Z.2.1 Z.2.2 adx D1 0 old1 hsz1 (fun _ => 0) 0 (fun _ => 0))) (Ec' := (xE Z.2.1 Z.2.2 adx D2 0 old2 hsz2 (fun _ => 0) 0 (fun _ => 0))) C gL_law_L_crashes rfl ok_L_crashes ⟨by decide, by decide⟩ ⟨rfl, rfl⟩ (by decide) (by decide) (fun hI => cn_L_crashes _ Z adx hI D1 0 old1 hsz1 (fun _ => 0) 0 (fun _ => 0) g2) rfl dL_law_302 rfl (Nat.le_of_ble_eq_true rfl) ?_
      refine l_if_eq (tgt := 312) C dL_law_305 (by decide) (fun hc => absurd hc (by decide)) (fun _ => ?_)
      exact l_sub [0, 1, 2, 3, 4, 5] rfl (t308 D2 old2 hsz2 n2 Hs2 (k2.up (by omega)))
  refine l_iload_n C dL_law_231 3 rfl ?_
  refine l_if_eq (tgt := 312) C dL_law_232 (by decide) (fun hc => absurd hc (by decide)) (fun _ => ?_)
  refine l_aload_n C dL_law_235 4 rfl ?_
  refine l_cTi (rest := []) (As := [.ref (adx 168)]) (m := 175) (adc := adx) (Ec := (xE Z.2.1 Z.2.2 adx D 0 old hsz (fun _ => 0) 0 (fun _ => 0))) (Ec' := (xE Z.2.1 Z.2.2 adx D 0 old hsz (fun _ => 0) 0 (fun _ => 0))) C gL_law_L_hangs rfl ok_L_hangs ⟨by decide, by decide⟩ ⟨rfl, rfl⟩ (by decide) (by decide) (fun hI => cn_L_hangs _ Z adx hI D 0 old hsz (fun _ => 0) 0 (fun _ => 0) hh) rfl dL_law_236 rfl (Nat.le_of_ble_eq_true rfl) ?_
  refine l_if_eq (tgt := 312) C dL_law_239 (by decide) (fun hc => absurd hc (by decide)) (fun _ => ?_)
  refine l_aload_n C dL_law_242 4 rfl ?_
  refine l_iload C dL_law_243 0 rfl ?_
  refine l_iconst (v := 4) C dL_law_245 (by decide) ?_
  refine l_ishr C dL_law_246 ?_
  refine l_iconst (v := 4) C dL_law_247 (by decide) ?_
  refine l_cNi (rest := [.ref (adx 168)]) (As := [.int (y >>> ((4 : Int32) &&& 31)), .int 4]) C gL_law_L_low rfl ok_L_low ⟨by decide, by decide⟩ ⟨rfl, rfl⟩ (by decide) (by decide) (cn_L_low _ Z (y >>> ((4 : Int32) &&& 31)) 4 ef) rfl dL_law_248 rfl (Nat.le_of_ble_eq_true rfl) ?_
  refine l_iconst (v := 1) C dL_law_251 (by decide) ?_
  refine l_iload C dL_law_252 1 rfl ?_
  refine l_iconst (v := 3) C dL_law_254 (by decide) ?_
  refine l_ishr C dL_law_255 ?_
  refine l_iload C dL_law_256 1 rfl ?_
  refine l_bipush (v := 9) C dL_law_258 (by decide) ?_
  refine l_ishr C dL_law_260 ?_
  refine l_iconst (v := 4) C dL_law_261 (by decide) ?_
  refine l_cNi (rest := [.int (x >>> ((3 : Int32) &&& 31)), .int 1, .int (nI f), .ref (adx 168)]) (As := [.int (x >>> ((9 : Int32) &&& 31)), .int 4]) C gL_law_L_low rfl ok_L_low ⟨by decide, by decide⟩ ⟨rfl, rfl⟩ (by decide) (by decide) (cn_L_low _ Z (x >>> ((9 : Int32) &&& 31)) 4 ev) rfl dL_law_262 rfl (Nat.le_of_ble_eq_true rfl) ?_
  refine l_if_ne (tgt := 273) C dL_law_265 (by decide) (fun hc => ?_) (fun hc => ?_)
  · refine l_bipush (v := 16) C dL_law_273 (by decide) ?_
    refine l_cNi (rest := [.int 1, .int (nI f), .ref (adx 168)]) (As := [.int (x >>> ((3 : Int32) &&& 31)), .int 16]) C gL_law_L_low rfl ok_L_low ⟨by decide, by decide⟩ ⟨rfl, rfl⟩ (by decide) (by decide) (cn_L_low _ Z (x >>> ((3 : Int32) &&& 31)) 16 ec16) rfl dL_law_275 rfl (Nat.le_of_ble_eq_true rfl) ?_
    refine l_iadd C dL_law_278 ?_
    rw [show (1 + (nI c16) : Int32) = nI (1 + c16) from nI_add 1 c16]
    refine l_iload C dL_law_279 0 rfl ?_
    refine l_bipush (v := 6) C dL_law_281 (by decide) ?_
    refine l_ishr C dL_law_283 ?_
    refine l_bipush (v := 100) C dL_law_284 (by decide) ?_
    refine l_cNi (rest := [.int (nI (1 + c16)), .int (nI f), .ref (adx 168)]) (As := [.int (y >>> ((6 : Int32) &&& 31)), .int 100]) C gL_law_L_low rfl ok_L_low ⟨by decide, by decide⟩ ⟨rfl, rfl⟩ (by decide) (by decide) (cn_L_low _ Z (y >>> ((6 : Int32) &&& 31)) 100 ez) rfl dL_law_286 rfl (Nat.le_of_ble_eq_true rfl) ?_
    exact t289 (1 + c16) (by omega) (by omega)
  · refine l_bipush (v := 64) C dL_law_268 (by decide) ?_
    refine l_goto (tgt := 275) C dL_law_270 (by decide) ?_
    refine l_cNi (rest := [.int 1, .int (nI f), .ref (adx 168)]) (As := [.int (x >>> ((3 : Int32) &&& 31)), .int 64]) C gL_law_L_low rfl ok_L_low ⟨by decide, by decide⟩ ⟨rfl, rfl⟩ (by decide) (by decide) (cn_L_low _ Z (x >>> ((3 : Int32) &&& 31)) 64 ec64) rfl dL_law_275 rfl (Nat.le_of_ble_eq_true rfl) ?_
    refine l_iadd C dL_law_278 ?_
    rw [show (1 + (nI c64) : Int32) = nI (1 + c64) from nI_add 1 c64]
    refine l_iload C dL_law_279 0 rfl ?_
    refine l_bipush (v := 6) C dL_law_281 (by decide) ?_
    refine l_ishr C dL_law_283 ?_
    refine l_bipush (v := 100) C dL_law_284 (by decide) ?_
    refine l_cNi (rest := [.int (nI (1 + c64)), .int (nI f), .ref (adx 168)]) (As := [.int (y >>> ((6 : Int32) &&& 31)), .int 100]) C gL_law_L_low rfl ok_L_low ⟨by decide, by decide⟩ ⟨rfl, rfl⟩ (by decide) (by decide) (cn_L_low _ Z (y >>> ((6 : Int32) &&& 31)) 100 ez) rfl dL_law_286 rfl (Nat.le_of_ble_eq_true rfl) ?_
    exact t289 (1 + c64) (by omega) (by omega)
set_option maxHeartbeats 8000000 in
set_option maxRecDepth 100000 in
theorem lw_loop {X : gX} {Z : gZ} {b L : Nat} {xs : Nat → Int32} {adx : Nat → Nat} {Ar : Nat → Prop} (C : LC X Z cL_law 10 wsL_law RL room_1 Ar) (hX : va_X b L xs X.2.2.2.2.1 X.2.2.2.2.1.heap) (hbl : b < X.2.2.2.2.1.heap.size) (hbA : ¬ Ar b) (hL : L ≤ 260) (hend : ∀ (D : Nat → Nat → Nat → Int32) (old hsz : Int32) (j : Nat), lwG X Z Ar adx D old hsz 320 [(3, .int (nI j)), (2, .int 1), (1, .ref (adx 168)), (0, .ref b)] []) : ∀ (m i : Nat) (D : Nat → Nat → Nat → Int32) (old hsz : Int32) (A : Nat → Nat → Nat) (n : Nat) (Hs : Nat → Nat → Nat → Nat), 40 - i ≤ m → i ≤ 40 → KsT D old hsz A n Hs (4096 * i) → lwG X Z Ar adx D old hsz 15 [(3, .int (nI i)), (2, .int 1), (1, .ref (adx 168)), (0, .ref b)] [] := by
  intro m
  induction m with
  | zero =>
    intro i D old hsz A n Hs h1 h2 hK
    have hc40 : (40 : Int32) ≤ nI i := nI_le (a := 40) (by omega) (by omega)
    refine l_iload_n C dL_law_15 0 rfl ?_
    refine l_bipush (v := 40) C dL_law_16 (by decide) ?_
    refine l_icmp_ge (tgt := 320) C dL_law_18 (by decide) (fun _ => ?_) (fun hc => absurd hc40 hc)
    exact l_sub [0, 1, 2, 3] rfl (hend D old hsz i)
  | succ m ih =>
    intro i D old hsz A n Hs h1 h2 hK
    by_cases c40 : i = 40
    · have hc40 : (40 : Int32) ≤ nI i := nI_le (a := 40) (by omega) (by omega)
      refine l_iload_n C dL_law_15 0 rfl ?_
      refine l_bipush (v := 40) C dL_law_16 (by decide) ?_
      refine l_icmp_ge (tgt := 320) C dL_law_18 (by decide) (fun _ => ?_) (fun hc => absurd hc40 hc)
      exact l_sub [0, 1, 2, 3] rfl (hend D old hsz i)
    · have hi : i < 40 := by omega
      have hc40 : ¬ (40 : Int32) ≤ nI i := nI_ge (b := 40) hi (by decide)
      have nx : ∀ (A' : Nat → Nat → Nat) (T : Nat), T ≤ 4096 * i + 1024 → ∀ (D' : Nat → Nat → Nat → Int32) (old' hsz' : Int32) (n' : Nat) (Hs' : Nat → Nat → Nat → Nat) (x y : Int32), KsT D' old' hsz' A' n' Hs' T → lwG X Z Ar adx D' old' hsz' 231 [(5, .int y), (4, .int x), (3, .int (nI i)), (2, .int 1), (1, .ref (adx 168)), (0, .ref b)] [] := fun A' T hT D' old' hsz' n' Hs' x y k => lw_rest C hX hbl hbA hL hi (by omega) k (fun D2 old2 hsz2 n2 Hs2 k2 => ih (i + 1) D2 old2 hsz2 A' n2 Hs2 (by omega) (by omega) (k2.up (by omega)))
      refine l_iload_n C dL_law_15 0 rfl ?_
      refine l_bipush (v := 40) C dL_law_16 (by decide) ?_
      refine l_icmp_ge (tgt := 320) C dL_law_18 (by decide) (fun hc => absurd hc hc40) (fun _ => ?_)
      refine l_iload_n C dL_law_21 1 rfl ?_
      refine l_if_eq (tgt := 320) C dL_law_22 (by decide) (fun hc => absurd hc (by decide)) (fun _ => ?_)
      refine lw_xy C hX hbl hbA hL hi (fun x y => ?_)
      refine lw_told C hX hbl hbA hL hi hK (fun D' r hr k => ?_) (fun F r A' D' old' hd hF k => ?_)
      · exact lw_refd C hX hbl hbA hL hi hr k (nx A (4096 * i) (by omega) D' old hsz n Hs x y k)
      · exact lw_done C hX hbl hbA hL hi hK.2.2.1 hd hF k (fun D2 old2 hsz2 n2 Hs2 k2 => nx A' (4096 * i + 1024) (Nat.le_refl _) D2 old2 hsz2 n2 Hs2 x y k2)
