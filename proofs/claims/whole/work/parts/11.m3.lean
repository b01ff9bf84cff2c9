theorem ok_X6_isHere : gOk yX6_isHere RX6 2 := by refine ⟨?_, ?_, ?_, ?_⟩ <;> decide +kernel
theorem ok_X6_takes : gOk yX6_takes RX6 1 := by refine ⟨?_, ?_, ?_, ?_⟩ <;> decide +kernel
theorem ok_X6_readsFile : gOk yX6_readsFile RX6 0 := by refine ⟨?_, ?_, ?_, ?_⟩ <;> decide +kernel
theorem ok_X6_number : gOk yX6_number RX6 2 := by refine ⟨?_, ?_, ?_, ?_⟩ <;> decide +kernel
theorem ok_X6_readsAppend : gOk yX6_readsAppend RX6 0 := by refine ⟨?_, ?_, ?_, ?_⟩ <;> decide +kernel
theorem ok_X6_readsCut : gOk yX6_readsCut RX6 0 := by refine ⟨?_, ?_, ?_, ?_⟩ <;> decide +kernel
theorem ok_X6_readsOrder : gOk yX6_readsOrder RX6 0 := by refine ⟨?_, ?_, ?_, ?_⟩ <;> decide +kernel
theorem ok_X6_fault : gOk yX6_fault RX6 0 := by refine ⟨?_, ?_, ?_, ?_⟩ <;> decide +kernel
theorem ok_X6_orderError : gOk yX6_orderError RX6 0 := by refine ⟨?_, ?_, ?_, ?_⟩ <;> decide +kernel
theorem ok_X6_does : gOk yX6_does RX6 0 := by refine ⟨?_, ?_, ?_, ?_⟩ <;> decide +kernel
theorem ok_X6_perform : gOk yX6_perform RX6 0 := by refine ⟨?_, ?_, ?_, ?_⟩ <;> decide +kernel
theorem ok_X6_undo : gOk yX6_undo RX6 0 := by refine ⟨?_, ?_, ?_, ?_⟩ <;> decide +kernel
theorem ok_X6_save : gOk yX6_save RX6 0 := by refine ⟨?_, ?_, ?_, ?_⟩ <;> decide +kernel
theorem ok_X6_restore : gOk yX6_restore RX6 0 := by refine ⟨?_, ?_, ?_, ?_⟩ <;> decide +kernel
abbrev rm_X6_isHere : Room := ({ frames := 1, cells := 0, slots := 0, locals := 22 } : Room)
def f_X6_isHere (s : Nat → Int32) (t : Nat → Int32) (g : Nat → Int32) (v1 : Int32) (v2 : Int32) : Option Int32 := if (g 2) ≤ (g 3) then some 0 else if 0 ≤ (g 3) ∧ ((g 3)).toNatClampNeg < 80 then gb (f_X6_in (t ((g 3)).toNatClampNeg) v1 v2) (fun r2 => if r2 = 0 then some 0 else some 1) else none
set_option maxRecDepth 20000 in
theorem in_X6_isHere : ∀ w ∈ wsX60, w ∈ wsX6_isHere := by decide +kernel
set_option maxRecDepth 20000 in
theorem fl_X6_isHere_148 : Cond.fieldLink RX6 148 (TX6 5).1 (TX6 5).2.1 (TX6 5).2.2.1 ∈ wsX6_isHere := by decide +kernel
set_option maxRecDepth 20000 in
theorem fl_X6_isHere_13 : Cond.fieldLink RX6 13 (TX6 3).1 (TX6 3).2.1 (TX6 3).2.2.1 ∈ wsX6_isHere := by decide +kernel
set_option maxRecDepth 20000 in
theorem fl_X6_isHere_145 : Cond.fieldLink RX6 145 (TX6 4).1 (TX6 4).2.1 (TX6 4).2.2.1 ∈ wsX6_isHere := by decide +kernel
set_option maxHeartbeats 4000000 in
set_option maxRecDepth 100000 in
theorem cn_X6_isHere (l : Launch) (Z : gZ) (ad : Nat → Nat) (hI : gInj 3 ad) (s : Nat → Int32) (t : Nat → Int32) (g : Nat → Int32) (v1 : Int32) (v2 : Int32) {r : Int32} (h : f_X6_isHere s t g v1 v2 = some r) : gI l yX6_isHere wsX6_isHere rm_X6_isHere Z 3 ad [.ref (ad 0), .int v1, .int v2] (mdlE Z.2.1 ad s t g) r (mdlE Z.2.1 ad s t g) := by
  refine g_entryI (cc := cX6_isHere) (maxL := 3) (by decide +kernel) rfl hI (Nat.le_of_ble_eq_true rfl) (fun X C e => ?_)
  unfold f_X6_isHere at h
  show GG X Z 3 3 ad (mdlE Z.2.1 ad s t g) 0 [(0, .ref (ad 0)), (1, .int v1), (2, .int v2)] []
  refine g_aload_n C dX6_isHere_0 0 rfl ?_
  refine g_getf (v := .int (g 3)) C 0 (by decide) rfl rfl in_X6_isHere 5 (by decide) fl_X6_isHere_148 rfl dX6_isHere_1 ?_
  refine g_aload_n C dX6_isHere_4 0 rfl ?_
  refine g_getf (v := .int (g 2)) C 0 (by decide) rfl rfl in_X6_isHere 4 (by decide) fl_X6_isHere_145 rfl dX6_isHere_5 ?_
  refine g_icmp_ge (tgt := 32) C dX6_isHere_8 (by decide) (fun c1 => ?_) (fun c1 => ?_)
  · replace h := gi_pos c1 h
    refine g_iconst (v := 0) C dX6_isHere_32 (by decide) ?_
    obtain rfl := gs1 h
    exact g_zret C e rfl dX6_isHere_33
  · replace h := gi_neg c1 h
    refine g_aload_n C dX6_isHere_11 0 rfl ?_
    refine g_getf (v := .ref (ad 2)) C 0 (by decide) rfl rfl in_X6_isHere 3 (by decide) fl_X6_isHere_13 rfl dX6_isHere_12 ?_
    refine g_aload_n C dX6_isHere_15 0 rfl ?_
    refine g_getf (v := .int (g 3)) C 0 (by decide) rfl rfl in_X6_isHere 5 (by decide) fl_X6_isHere_148 rfl dX6_isHere_16 ?_
    obtain ⟨b4, h⟩ := gguard h
    refine g_iald C 2 (by decide) rfl (g_in b4) dX6_isHere_19 ?_
    refine g_iload_n C dX6_isHere_20 1 rfl ?_
    refine g_iload_n C dX6_isHere_21 2 rfl ?_
    obtain ⟨r2, er2, h⟩ := gb1 h
    refine g_callSi (rest := []) C gX6_isHere_X6_in rfl ok_X6_in ⟨by decide, by decide⟩ ⟨rfl, rfl⟩ (cn_X6_in X.2.1 Z (t ((g 3)).toNatClampNeg) v1 v2 er2) rfl dX6_isHere_22 rfl (Nat.le_of_ble_eq_true rfl) ?_
    refine g_if_eq (tgt := 32) C dX6_isHere_25 (by decide) (fun c3 => ?_) (fun c3 => ?_)
    · replace h := gi_pos c3 h
      refine g_iconst (v := 0) C dX6_isHere_32 (by decide) ?_
      obtain rfl := gs1 h
      exact g_zret C e rfl dX6_isHere_33
    · replace h := gi_neg c3 h
      refine g_iconst (v := 1) C dX6_isHere_28 (by decide) ?_
      refine g_goto (tgt := 33) C dX6_isHere_29 (by decide) ?_
      obtain rfl := gs1 h
      exact g_zret C e rfl dX6_isHere_33
abbrev rm_X6_takes : Room := ({ frames := 2, cells := 0, slots := 0, locals := 44 } : Room)
def f_X6_takes (s : Nat → Int32) (t : Nat → Int32) (g : Nat → Int32) (v1 : Int32) : Option (Int32 × (Nat → Int32)) := gb (f_X6_isHere s t g v1 v1) (fun r1 => gb (f_X6_flag r1) (fun r2 => glet (upd g 3 ((g 3) + r2)) (fun g3 => if r1 = 0 ∨ r1 = 1 then some (r1, g3) else none)))
set_option maxRecDepth 20000 in
theorem in_X6_takes : ∀ w ∈ wsX60, w ∈ wsX6_takes := by decide +kernel
set_option maxRecDepth 20000 in
theorem fl_X6_takes_148 : Cond.fieldLink RX6 148 (TX6 5).1 (TX6 5).2.1 (TX6 5).2.2.1 ∈ wsX6_takes := by decide +kernel
set_option maxHeartbeats 4000000 in
set_option maxRecDepth 100000 in
theorem cn_X6_takes (l : Launch) (Z : gZ) (ad : Nat → Nat) (hI : gInj 3 ad) (s : Nat → Int32) (t : Nat → Int32) (g : Nat → Int32) (v1 : Int32) {r : Int32} {g' : Nat → Int32} (h : f_X6_takes s t g v1 = some (r, g')) : gI l yX6_takes wsX6_takes rm_X6_takes Z 3 ad [.ref (ad 0), .int v1] (mdlE Z.2.1 ad s t g) r (mdlE Z.2.1 ad s t g') := by
  refine g_entryI (cc := cX6_takes) (maxL := 3) (by decide +kernel) rfl hI (Nat.le_of_ble_eq_true rfl) (fun X C e => ?_)
  unfold f_X6_takes at h
  show GG X Z 3 3 ad (mdlE Z.2.1 ad s t g) 0 [(0, .ref (ad 0)), (1, .int v1)] []
  refine g_aload_n C dX6_takes_0 0 rfl ?_
  refine g_iload_n C dX6_takes_1 1 rfl ?_
  refine g_iload_n C dX6_takes_2 1 rfl ?_
  obtain ⟨r1, er1, h⟩ := gb1 h
  refine g_callWi (rest := []) C gX6_takes_X6_isHere rfl ok_X6_isHere ⟨by decide, by decide⟩ ⟨rfl, rfl⟩ 0 (by decide) rfl rfl (fun hI => cn_X6_isHere X.2.1 Z ad hI s t g v1 v1 er1) rfl dX6_takes_3 rfl (Nat.le_of_ble_eq_true rfl) ?_
  refine g_istore_n C dX6_takes_6 (by decide) [(2, .int r1), (0, .ref (ad 0)), (1, .int v1)] rfl ?_
  refine g_aload_n C dX6_takes_7 1 rfl ?_
  refine g_dup C dX6_takes_8 rfl ?_
  refine g_getf (v := .int (g 3)) C 0 (by decide) rfl rfl in_X6_takes 5 (by decide) fl_X6_takes_148 rfl dX6_takes_9 ?_
  refine g_iload_n C dX6_takes_12 0 rfl ?_
  obtain ⟨r2, er2, h⟩ := gb1 h
  refine g_callSi (rest := [.int (g 3), .ref (ad 0)]) C gX6_takes_X6_flag rfl ok_X6_flag ⟨by decide, by decide⟩ ⟨rfl, rfl⟩ (cn_X6_flag X.2.1 Z r1 er2) rfl dX6_takes_13 rfl (Nat.le_of_ble_eq_true rfl) ?_
  refine g_iadd C dX6_takes_16 ?_
  obtain ⟨g3, eg3, h⟩ := gl h
  refine g_putf C 0 (by decide) rfl rfl in_X6_takes tyX6 tyX6_ok nmX6 5 (by decide) fl_X6_takes_148 rfl rfl rfl (Nat.le_of_ble_eq_true rfl) dX6_takes_17 (mdlE Z.2.1 ad s t g3) (by rw [eg3]; exact mdlE_g3) ?_
  refine g_iload_n C dX6_takes_20 0 rfl ?_
  obtain ⟨b4, h⟩ := gguard h
  obtain ⟨rfl, rfl⟩ := gs2 h
  exact g_zret C e (g_b01 b4) dX6_takes_21
abbrev rm_X6_readsFile : Room := ({ frames := 2, cells := 0, slots := 0, locals := 44 } : Room)
def f_X6_readsFile (s : Nat → Int32) (t : Nat → Int32) (g : Nat → Int32) : Option (Int32 × (Nat → Int32)) := gb (f_X6_isHere s t g 48 55) (fun r1 => if r1 = 0 then glet (upd g 5 (-5)) (fun g3 => if (g3 5) = (-5) then gb (f_X6_flag 0) (fun r5 => glet (upd g3 3 ((g3 3) + r5)) (fun g6 => if (g6 5) = (-5) then some (0, g6) else some (1, g6))) else gb (f_X6_flag 1) (fun r8 => glet (upd g3 3 ((g3 3) + r8)) (fun g9 => if (g9 5) = (-5) then some (0, g9) else some (1, g9)))) else if 0 ≤ (g 3) ∧ ((g 3)).toNatClampNeg < 80 then glet (upd g 5 ((t ((g 3)).toNatClampNeg) - 48)) (fun g11 => if (g11 5) = (-5) then gb (f_X6_flag 0) (fun r13 => glet (upd g11 3 ((g11 3) + r13)) (fun g14 => if (g14 5) = (-5) then some (0, g14) else some (1, g14))) else gb (f_X6_flag 1) (fun r16 => glet (upd g11 3 ((g11 3) + r16)) (fun g17 => if (g17 5) = (-5) then some (0, g17) else some (1, g17)))) else none)
set_option maxRecDepth 20000 in
theorem in_X6_readsFile : ∀ w ∈ wsX60, w ∈ wsX6_readsFile := by decide +kernel
set_option maxRecDepth 20000 in
theorem fl_X6_readsFile_154 : Cond.fieldLink RX6 154 (TX6 7).1 (TX6 7).2.1 (TX6 7).2.2.1 ∈ wsX6_readsFile := by decide +kernel
set_option maxRecDepth 20000 in
theorem fl_X6_readsFile_148 : Cond.fieldLink RX6 148 (TX6 5).1 (TX6 5).2.1 (TX6 5).2.2.1 ∈ wsX6_readsFile := by decide +kernel
set_option maxRecDepth 20000 in
theorem fl_X6_readsFile_13 : Cond.fieldLink RX6 13 (TX6 3).1 (TX6 3).2.1 (TX6 3).2.2.1 ∈ wsX6_readsFile := by decide +kernel
set_option maxHeartbeats 4000000 in
set_option maxRecDepth 100000 in
theorem cn_X6_readsFile (l : Launch) (Z : gZ) (ad : Nat → Nat) (hI : gInj 3 ad) (s : Nat → Int32) (t : Nat → Int32) (g : Nat → Int32) {r : Int32} {g' : Nat → Int32} (h : f_X6_readsFile s t g = some (r, g')) : gI l yX6_readsFile wsX6_readsFile rm_X6_readsFile Z 3 ad [.ref (ad 0)] (mdlE Z.2.1 ad s t g) r (mdlE Z.2.1 ad s t g') := by
  refine g_entryI (cc := cX6_readsFile) (maxL := 1) (by decide +kernel) rfl hI (Nat.le_of_ble_eq_true rfl) (fun X C e => ?_)
  unfold f_X6_readsFile at h
  show GG X Z 1 3 ad (mdlE Z.2.1 ad s t g) 0 [(0, .ref (ad 0))] []
  refine g_aload_n C dX6_readsFile_0 0 rfl ?_
  refine g_aload_n C dX6_readsFile_1 0 rfl ?_
  refine g_bipush (v := 48) C dX6_readsFile_2 (by decide) ?_
  refine g_bipush (v := 55) C dX6_readsFile_4 (by decide) ?_
  obtain ⟨r1, er1, h⟩ := gb1 h
  refine g_callWi (rest := [.ref (ad 0)]) C gX6_readsFile_X6_isHere rfl ok_X6_isHere ⟨by decide, by decide⟩ ⟨rfl, rfl⟩ 0 (by decide) rfl rfl (fun hI => cn_X6_isHere X.2.1 Z ad hI s t g 48 55 er1) rfl dX6_readsFile_6 rfl (Nat.le_of_ble_eq_true rfl) ?_
  refine g_if_eq (tgt := 27) C dX6_readsFile_9 (by decide) (fun c2 => ?_) (fun c2 => ?_)
  · replace h := gi_pos c2 h
    refine g_bipush (v := (-5)) C dX6_readsFile_27 (by decide) ?_
    obtain ⟨g3, eg3, h⟩ := gl h
    refine g_putf C 0 (by decide) rfl rfl in_X6_readsFile tyX6 tyX6_ok nmX6 7 (by decide) fl_X6_readsFile_154 rfl rfl rfl (Nat.le_of_ble_eq_true rfl) dX6_readsFile_29 (mdlE Z.2.1 ad s t g3) (by rw [eg3]; exact mdlE_g5) ?_
    refine g_aload_n C dX6_readsFile_32 0 rfl ?_
    refine g_dup C dX6_readsFile_33 rfl ?_
    refine g_getf (v := .int (g3 3)) C 0 (by decide) rfl rfl in_X6_readsFile 5 (by decide) fl_X6_readsFile_148 rfl dX6_readsFile_34 ?_
    refine g_aload_n C dX6_readsFile_37 0 rfl ?_
    refine g_getf (v := .int (g3 5)) C 0 (by decide) rfl rfl in_X6_readsFile 7 (by decide) fl_X6_readsFile_154 rfl dX6_readsFile_38 ?_
    refine g_bipush (v := (-5)) C dX6_readsFile_41 (by decide) ?_
    refine g_icmp_eq (tgt := 50) C dX6_readsFile_43 (by decide) (fun c4 => ?_) (fun c4 => ?_)
    · replace h := gi_pos c4 h
      refine g_iconst (v := 0) C dX6_readsFile_50 (by decide) ?_
      obtain ⟨r5, er5, h⟩ := gb1 h
      refine g_callSi (rest := [.int (g3 3), .ref (ad 0)]) C gX6_readsFile_X6_flag rfl ok_X6_flag ⟨by decide, by decide⟩ ⟨rfl, rfl⟩ (cn_X6_flag X.2.1 Z 0 er5) rfl dX6_readsFile_51 rfl (Nat.le_of_ble_eq_true rfl) ?_
      refine g_iadd C dX6_readsFile_54 ?_
      obtain ⟨g6, eg6, h⟩ := gl h
      refine g_putf C 0 (by decide) rfl rfl in_X6_readsFile tyX6 tyX6_ok nmX6 5 (by decide) fl_X6_readsFile_148 rfl rfl rfl (Nat.le_of_ble_eq_true rfl) dX6_readsFile_55 (mdlE Z.2.1 ad s t g6) (by rw [eg6]; exact mdlE_g3) ?_
      refine g_aload_n C dX6_readsFile_58 0 rfl ?_
      refine g_getf (v := .int (g6 5)) C 0 (by decide) rfl rfl in_X6_readsFile 7 (by decide) fl_X6_readsFile_154 rfl dX6_readsFile_59 ?_
      refine g_bipush (v := (-5)) C dX6_readsFile_62 (by decide) ?_
      refine g_icmp_eq (tgt := 71) C dX6_readsFile_64 (by decide) (fun c7 => ?_) (fun c7 => ?_)
      · replace h := gi_pos c7 h
        refine g_iconst (v := 0) C dX6_readsFile_71 (by decide) ?_
        obtain ⟨rfl, rfl⟩ := gs2 h
        exact g_zret C e rfl dX6_readsFile_72
      · replace h := gi_neg c7 h
        refine g_iconst (v := 1) C dX6_readsFile_67 (by decide) ?_
        refine g_goto (tgt := 72) C dX6_readsFile_68 (by decide) ?_
        obtain ⟨rfl, rfl⟩ := gs2 h
        exact g_zret C e rfl dX6_readsFile_72
    · replace h := gi_neg c4 h
      refine g_iconst (v := 1) C dX6_readsFile_46 (by decide) ?_
      refine g_goto (tgt := 51) C dX6_readsFile_47 (by decide) ?_
      obtain ⟨r8, er8, h⟩ := gb1 h
      refine g_callSi (rest := [.int (g3 3), .ref (ad 0)]) C gX6_readsFile_X6_flag rfl ok_X6_flag ⟨by decide, by decide⟩ ⟨rfl, rfl⟩ (cn_X6_flag X.2.1 Z 1 er8) rfl dX6_readsFile_51 rfl (Nat.le_of_ble_eq_true rfl) ?_
      refine g_iadd C dX6_readsFile_54 ?_
      obtain ⟨g9, eg9, h⟩ := gl h
      refine g_putf C 0 (by decide) rfl rfl in_X6_readsFile tyX6 tyX6_ok nmX6 5 (by decide) fl_X6_readsFile_148 rfl rfl rfl (Nat.le_of_ble_eq_true rfl) dX6_readsFile_55 (mdlE Z.2.1 ad s t g9) (by rw [eg9]; exact mdlE_g3) ?_
      refine g_aload_n C dX6_readsFile_58 0 rfl ?_
      refine g_getf (v := .int (g9 5)) C 0 (by decide) rfl rfl in_X6_readsFile 7 (by decide) fl_X6_readsFile_154 rfl dX6_readsFile_59 ?_
      refine g_bipush (v := (-5)) C dX6_readsFile_62 (by decide) ?_
      refine g_icmp_eq (tgt := 71) C dX6_readsFile_64 (by decide) (fun c10 => ?_) (fun c10 => ?_)
      · replace h := gi_pos c10 h
        refine g_iconst (v := 0) C dX6_readsFile_71 (by decide) ?_
        obtain ⟨rfl, rfl⟩ := gs2 h
        exact g_zret C e rfl dX6_readsFile_72
      · replace h := gi_neg c10 h
        refine g_iconst (v := 1) C dX6_readsFile_67 (by decide) ?_
        refine g_goto (tgt := 72) C dX6_readsFile_68 (by decide) ?_
        obtain ⟨rfl, rfl⟩ := gs2 h
        exact g_zret C e rfl dX6_readsFile_72
  · replace h := gi_neg c2 h
    refine g_aload_n C dX6_readsFile_12 0 rfl ?_
    refine g_getf (v := .ref (ad 2)) C 0 (by decide) rfl rfl in_X6_readsFile 3 (by decide) fl_X6_readsFile_13 rfl dX6_readsFile_13 ?_
    refine g_aload_n C dX6_readsFile_16 0 rfl ?_
    refine g_getf (v := .int (g 3)) C 0 (by decide) rfl rfl in_X6_readsFile 5 (by decide) fl_X6_readsFile_148 rfl dX6_readsFile_17 ?_
    obtain ⟨b19, h⟩ := gguard h
    refine g_iald C 2 (by decide) rfl (g_in b19) dX6_readsFile_20 ?_
    refine g_bipush (v := 48) C dX6_readsFile_21 (by decide) ?_
    refine g_isub C dX6_readsFile_23 ?_
    refine g_goto (tgt := 29) C dX6_readsFile_24 (by decide) ?_
    obtain ⟨g11, eg11, h⟩ := gl h
    refine g_putf C 0 (by decide) rfl rfl in_X6_readsFile tyX6 tyX6_ok nmX6 7 (by decide) fl_X6_readsFile_154 rfl rfl rfl (Nat.le_of_ble_eq_true rfl) dX6_readsFile_29 (mdlE Z.2.1 ad s t g11) (by rw [eg11]; exact mdlE_g5) ?_
    refine g_aload_n C dX6_readsFile_32 0 rfl ?_
    refine g_dup C dX6_readsFile_33 rfl ?_
    refine g_getf (v := .int (g11 3)) C 0 (by decide) rfl rfl in_X6_readsFile 5 (by decide) fl_X6_readsFile_148 rfl dX6_readsFile_34 ?_
    refine g_aload_n C dX6_readsFile_37 0 rfl ?_
    refine g_getf (v := .int (g11 5)) C 0 (by decide) rfl rfl in_X6_readsFile 7 (by decide) fl_X6_readsFile_154 rfl dX6_readsFile_38 ?_
    refine g_bipush (v := (-5)) C dX6_readsFile_41 (by decide) ?_
    refine g_icmp_eq (tgt := 50) C dX6_readsFile_43 (by decide) (fun c12 => ?_) (fun c12 => ?_)
    · replace h := gi_pos c12 h
      refine g_iconst (v := 0) C dX6_readsFile_50 (by decide) ?_
      obtain ⟨r13, er13, h⟩ := gb1 h
      refine g_callSi (rest := [.int (g11 3), .ref (ad 0)]) C gX6_readsFile_X6_flag rfl ok_X6_flag ⟨by decide, by decide⟩ ⟨rfl, rfl⟩ (cn_X6_flag X.2.1 Z 0 er13) rfl dX6_readsFile_51 rfl (Nat.le_of_ble_eq_true rfl) ?_
      refine g_iadd C dX6_readsFile_54 ?_
      obtain ⟨g14, eg14, h⟩ := gl h
      refine g_putf C 0 (by decide) rfl rfl in_X6_readsFile tyX6 tyX6_ok nmX6 5 (by decide) fl_X6_readsFile_148 rfl rfl rfl (Nat.le_of_ble_eq_true rfl) dX6_readsFile_55 (mdlE Z.2.1 ad s t g14) (by rw [eg14]; exact mdlE_g3) ?_
      refine g_aload_n C dX6_readsFile_58 0 rfl ?_
      refine g_getf (v := .int (g14 5)) C 0 (by decide) rfl rfl in_X6_readsFile 7 (by decide) fl_X6_readsFile_154 rfl dX6_readsFile_59 ?_
      refine g_bipush (v := (-5)) C dX6_readsFile_62 (by decide) ?_
      refine g_icmp_eq (tgt := 71) C dX6_readsFile_64 (by decide) (fun c15 => ?_) (fun c15 => ?_)
      · replace h := gi_pos c15 h
        refine g_iconst (v := 0) C dX6_readsFile_71 (by decide) ?_
        obtain ⟨rfl, rfl⟩ := gs2 h
        exact g_zret C e rfl dX6_readsFile_72
      · replace h := gi_neg c15 h
        refine g_iconst (v := 1) C dX6_readsFile_67 (by decide) ?_
        refine g_goto (tgt := 72) C dX6_readsFile_68 (by decide) ?_
        obtain ⟨rfl, rfl⟩ := gs2 h
        exact g_zret C e rfl dX6_readsFile_72
    · replace h := gi_neg c12 h
      refine g_iconst (v := 1) C dX6_readsFile_46 (by decide) ?_
      refine g_goto (tgt := 51) C dX6_readsFile_47 (by decide) ?_
      obtain ⟨r16, er16, h⟩ := gb1 h
      refine g_callSi (rest := [.int (g11 3), .ref (ad 0)]) C gX6_readsFile_X6_flag rfl ok_X6_flag ⟨by decide, by decide⟩ ⟨rfl, rfl⟩ (cn_X6_flag X.2.1 Z 1 er16) rfl dX6_readsFile_51 rfl (Nat.le_of_ble_eq_true rfl) ?_
      refine g_iadd C dX6_readsFile_54 ?_
      obtain ⟨g17, eg17, h⟩ := gl h
      refine g_putf C 0 (by decide) rfl rfl in_X6_readsFile tyX6 tyX6_ok nmX6 5 (by decide) fl_X6_readsFile_148 rfl rfl rfl (Nat.le_of_ble_eq_true rfl) dX6_readsFile_55 (mdlE Z.2.1 ad s t g17) (by rw [eg17]; exact mdlE_g3) ?_
      refine g_aload_n C dX6_readsFile_58 0 rfl ?_
      refine g_getf (v := .int (g17 5)) C 0 (by decide) rfl rfl in_X6_readsFile 7 (by decide) fl_X6_readsFile_154 rfl dX6_readsFile_59 ?_
      refine g_bipush (v := (-5)) C dX6_readsFile_62 (by decide) ?_
      refine g_icmp_eq (tgt := 71) C dX6_readsFile_64 (by decide) (fun c18 => ?_) (fun c18 => ?_)
      · replace h := gi_pos c18 h
        refine g_iconst (v := 0) C dX6_readsFile_71 (by decide) ?_
        obtain ⟨rfl, rfl⟩ := gs2 h
        exact g_zret C e rfl dX6_readsFile_72
      · replace h := gi_neg c18 h
        refine g_iconst (v := 1) C dX6_readsFile_67 (by decide) ?_
        refine g_goto (tgt := 72) C dX6_readsFile_68 (by decide) ?_
        obtain ⟨rfl, rfl⟩ := gs2 h
        exact g_zret C e rfl dX6_readsFile_72
abbrev rm_X6_number : Room := ({ frames := 2, cells := 0, slots := 0, locals := 44 } : Room)
def f_X6_number_L22 (s : Nat → Int32) (t : Nat → Int32) (v1 : Int32) (v2 : Int32) : Nat → Int32 → Int32 → (Nat → Int32) → Option (Int32 × (Nat → Int32))
  | 0, _, _, _ => none
  | fu + 1, v3, v4, g => if v4 = 0 then some (v3, g) else if v3 = (-5) then if 0 ≤ (g 3) ∧ ((g 3)).toNatClampNeg < 80 then glet ((t ((g 3)).toNatClampNeg) - 48) (fun x13 => glet (upd g 3 ((g 3) + 1)) (fun g14 => if x13 ≤ 0 then f_X6_number_L22 s t v1 v2 fu x13 0 g14 else gb (f_X6_isHere s t g14 48 57) (fun r16 => if r16 = 0 then f_X6_number_L22 s t v1 v2 fu x13 0 g14 else if 0 ≤ (g14 3) ∧ ((g14 3)).toNatClampNeg < 80 then if v2 < (((10 * x13) + (t ((g14 3)).toNatClampNeg)) - 48) then f_X6_number_L22 s t v1 v2 fu x13 0 g14 else f_X6_number_L22 s t v1 v2 fu x13 1 g14 else none))) else none else if 0 ≤ (g 3) ∧ ((g 3)).toNatClampNeg < 80 then glet (((10 * v3) + (t ((g 3)).toNatClampNeg)) - 48) (fun x5 => glet (upd g 3 ((g 3) + 1)) (fun g6 => if x5 ≤ 0 then f_X6_number_L22 s t v1 v2 fu x5 0 g6 else gb (f_X6_isHere s t g6 48 57) (fun r8 => if r8 = 0 then f_X6_number_L22 s t v1 v2 fu x5 0 g6 else if 0 ≤ (g6 3) ∧ ((g6 3)).toNatClampNeg < 80 then if v2 < (((10 * x5) + (t ((g6 3)).toNatClampNeg)) - 48) then f_X6_number_L22 s t v1 v2 fu x5 0 g6 else f_X6_number_L22 s t v1 v2 fu x5 1 g6 else none))) else none
def f_X6_number (s : Nat → Int32) (t : Nat → Int32) (g : Nat → Int32) (v1 : Int32) (v2 : Int32) : Option (Int32 × (Nat → Int32)) := if v1 = 0 then gb (f_X6_isHere s t g 48 57) (fun r21 => f_X6_number_L22 s t v1 v2 gFu (-5) r21 g) else gb (f_X6_isHere s t g 49 57) (fun r2 => f_X6_number_L22 s t v1 v2 gFu (-5) r2 g)
set_option maxRecDepth 20000 in
theorem in_X6_number : ∀ w ∈ wsX60, w ∈ wsX6_number := by decide +kernel
set_option maxRecDepth 20000 in
theorem fl_X6_number_148 : Cond.fieldLink RX6 148 (TX6 5).1 (TX6 5).2.1 (TX6 5).2.2.1 ∈ wsX6_number := by decide +kernel
set_option maxRecDepth 20000 in
theorem fl_X6_number_13 : Cond.fieldLink RX6 13 (TX6 3).1 (TX6 3).2.1 (TX6 3).2.2.1 ∈ wsX6_number := by decide +kernel
set_option maxHeartbeats 4000000 in
set_option maxRecDepth 100000 in
theorem cl_X6_number_L22 {X : gX} {Z : gZ} {ad : Nat → Nat} {s : Nat → Int32} {t : Nat → Int32} {r : Int32} {g' : Nat → Int32} (C : GC X Z cX6_number 5 wsX6_number RX6 rm_X6_number 3 ad) (e : gEI X Z 3 ad .int r (mdlE Z.2.1 ad s t g')) (v1 : Int32) (v2 : Int32) : ∀ (fu : Nat) (v3 : Int32) (v4 : Int32) (g : Nat → Int32) (h : f_X6_number_L22 s t v1 v2 fu v3 v4 g = some (r, g')), GG X Z 5 3 ad (mdlE Z.2.1 ad s t g) 22 [(0, .ref (ad 0)), (1, .int v1), (2, .int v2), (3, .int v3), (4, .int v4)] [] := by
  intro fu
  induction fu with
  | zero => intro v3 v4 g h; cases h
  | succ fu ih =>
    intro v3 v4 g h
    rw [f_X6_number_L22] at h
    refine g_iload C dX6_number_22 4 rfl ?_
    refine g_if_eq (tgt := 122) C dX6_number_24 (by decide) (fun c3 => ?_) (fun c3 => ?_)
    · replace h := gi_pos c3 h
      refine g_iload_n C dX6_number_122 3 rfl ?_
      obtain ⟨rfl, rfl⟩ := gs2 h
      exact g_iret C e dX6_number_123
    · replace h := gi_neg c3 h
      refine g_iload_n C dX6_number_27 3 rfl ?_
      refine g_bipush (v := (-5)) C dX6_number_28 (by decide) ?_
      refine g_icmp_ne (tgt := 48) C dX6_number_30 (by decide) (fun c4 => ?_) (fun c4 => ?_)
      · replace h := gi_neg c4 h
        refine g_bipush (v := 10) C dX6_number_48 (by decide) ?_
        refine g_iload_n C dX6_number_50 3 rfl ?_
        refine g_imul C dX6_number_51 ?_
        refine g_aload_n C dX6_number_52 0 rfl ?_
        refine g_getf (v := .ref (ad 2)) C 0 (by decide) rfl rfl in_X6_number 3 (by decide) fl_X6_number_13 rfl dX6_number_53 ?_
        refine g_aload_n C dX6_number_56 0 rfl ?_
        refine g_getf (v := .int (g 3)) C 0 (by decide) rfl rfl in_X6_number 5 (by decide) fl_X6_number_148 rfl dX6_number_57 ?_
        obtain ⟨b12, h⟩ := gguard h
        refine g_iald C 2 (by decide) rfl (g_in b12) dX6_number_60 ?_
        refine g_iadd C dX6_number_61 ?_
        refine g_bipush (v := 48) C dX6_number_62 (by decide) ?_
        refine g_isub C dX6_number_64 ?_
        obtain ⟨x5, ex5, h⟩ := gl h
        refine g_istore_n C dX6_number_65 (by decide) [(3, .int x5), (0, .ref (ad 0)), (1, .int v1), (2, .int v2), (4, .int v4)] (by rw [ex5]; rfl) ?_
        refine g_aload_n C dX6_number_66 1 rfl ?_
        refine g_dup C dX6_number_67 rfl ?_
        refine g_getf (v := .int (g 3)) C 0 (by decide) rfl rfl in_X6_number 5 (by decide) fl_X6_number_148 rfl dX6_number_68 ?_
        refine g_iconst (v := 1) C dX6_number_71 (by decide) ?_
        refine g_iadd C dX6_number_72 ?_
        obtain ⟨g6, eg6, h⟩ := gl h
        refine g_putf C 0 (by decide) rfl rfl in_X6_number tyX6 tyX6_ok nmX6 5 (by decide) fl_X6_number_148 rfl rfl rfl (Nat.le_of_ble_eq_true rfl) dX6_number_73 (mdlE Z.2.1 ad s t g6) (by rw [eg6]; exact mdlE_g3) ?_
        refine g_iload_n C dX6_number_76 0 rfl ?_
        refine g_if_le (tgt := 116) C dX6_number_77 (by decide) (fun c7 => ?_) (fun c7 => ?_)
        · replace h := gi_pos c7 h
          refine g_iconst (v := 0) C dX6_number_116 (by decide) ?_
          refine g_istore C dX6_number_117 (by decide) [(4, .int 0), (3, .int x5), (0, .ref (ad 0)), (1, .int v1), (2, .int v2)] rfl ?_
          refine g_goto (tgt := 22) C dX6_number_119 (by decide) ?_
          exact g_sub [2, 3, 4, 1, 0] rfl (ih x5 0 g6 h)
        · replace h := gi_neg c7 h
          refine g_aload_n C dX6_number_80 1 rfl ?_
          refine g_bipush (v := 48) C dX6_number_81 (by decide) ?_
          refine g_bipush (v := 57) C dX6_number_83 (by decide) ?_
          obtain ⟨r8, er8, h⟩ := gb1 h
          refine g_callWi (rest := []) C gX6_number_X6_isHere rfl ok_X6_isHere ⟨by decide, by decide⟩ ⟨rfl, rfl⟩ 0 (by decide) rfl rfl (fun hI => cn_X6_isHere X.2.1 Z ad hI s t g6 48 57 er8) rfl dX6_number_85 rfl (Nat.le_of_ble_eq_true rfl) ?_
          refine g_if_eq (tgt := 116) C dX6_number_88 (by decide) (fun c9 => ?_) (fun c9 => ?_)
          · replace h := gi_pos c9 h
            refine g_iconst (v := 0) C dX6_number_116 (by decide) ?_
            refine g_istore C dX6_number_117 (by decide) [(4, .int 0), (3, .int x5), (0, .ref (ad 0)), (1, .int v1), (2, .int v2)] rfl ?_
            refine g_goto (tgt := 22) C dX6_number_119 (by decide) ?_
            exact g_sub [2, 3, 4, 1, 0] rfl (ih x5 0 g6 h)
          · replace h := gi_neg c9 h
            refine g_bipush (v := 10) C dX6_number_91 (by decide) ?_
            refine g_iload_n C dX6_number_93 0 rfl ?_
            refine g_imul C dX6_number_94 ?_
            refine g_aload_n C dX6_number_95 1 rfl ?_
            refine g_getf (v := .ref (ad 2)) C 0 (by decide) rfl rfl in_X6_number 3 (by decide) fl_X6_number_13 rfl dX6_number_96 ?_
            refine g_aload_n C dX6_number_99 1 rfl ?_
            refine g_getf (v := .int (g6 3)) C 0 (by decide) rfl rfl in_X6_number 5 (by decide) fl_X6_number_148 rfl dX6_number_100 ?_
            obtain ⟨b11, h⟩ := gguard h
            refine g_iald C 2 (by decide) rfl (g_in b11) dX6_number_103 ?_
            refine g_iadd C dX6_number_104 ?_
            refine g_bipush (v := 48) C dX6_number_105 (by decide) ?_
            refine g_isub C dX6_number_107 ?_
            refine g_iload_n C dX6_number_108 3 rfl ?_
            refine g_icmp_gt (tgt := 116) C dX6_number_109 (by decide) (fun c10 => ?_) (fun c10 => ?_)
            · replace h := gi_pos c10 h
              refine g_iconst (v := 0) C dX6_number_116 (by decide) ?_
              refine g_istore C dX6_number_117 (by decide) [(4, .int 0), (3, .int x5), (0, .ref (ad 0)), (1, .int v1), (2, .int v2)] rfl ?_
              refine g_goto (tgt := 22) C dX6_number_119 (by decide) ?_
              exact g_sub [2, 3, 4, 1, 0] rfl (ih x5 0 g6 h)
            · replace h := gi_neg c10 h
              refine g_iconst (v := 1) C dX6_number_112 (by decide) ?_
              refine g_goto (tgt := 117) C dX6_number_113 (by decide) ?_
              refine g_istore C dX6_number_117 (by decide) [(4, .int 1), (3, .int x5), (0, .ref (ad 0)), (1, .int v1), (2, .int v2)] rfl ?_
              refine g_goto (tgt := 22) C dX6_number_119 (by decide) ?_
              exact g_sub [2, 3, 4, 1, 0] rfl (ih x5 1 g6 h)
      · replace h := gi_pos c4 h
        refine g_aload_n C dX6_number_33 0 rfl ?_
        refine g_getf (v := .ref (ad 2)) C 0 (by decide) rfl rfl in_X6_number 3 (by decide) fl_X6_number_13 rfl dX6_number_34 ?_
        refine g_aload_n C dX6_number_37 0 rfl ?_
        refine g_getf (v := .int (g 3)) C 0 (by decide) rfl rfl in_X6_number 5 (by decide) fl_X6_number_148 rfl dX6_number_38 ?_
        obtain ⟨b20, h⟩ := gguard h
        refine g_iald C 2 (by decide) rfl (g_in b20) dX6_number_41 ?_
        refine g_bipush (v := 48) C dX6_number_42 (by decide) ?_
        refine g_isub C dX6_number_44 ?_
        refine g_goto (tgt := 65) C dX6_number_45 (by decide) ?_
        obtain ⟨x13, ex13, h⟩ := gl h
        refine g_istore_n C dX6_number_65 (by decide) [(3, .int x13), (0, .ref (ad 0)), (1, .int v1), (2, .int v2), (4, .int v4)] (by rw [ex13]; rfl) ?_
        refine g_aload_n C dX6_number_66 1 rfl ?_
        refine g_dup C dX6_number_67 rfl ?_
        refine g_getf (v := .int (g 3)) C 0 (by decide) rfl rfl in_X6_number 5 (by decide) fl_X6_number_148 rfl dX6_number_68 ?_
        refine g_iconst (v := 1) C dX6_number_71 (by decide) ?_
        refine g_iadd C dX6_number_72 ?_
        obtain ⟨g14, eg14, h⟩ := gl h
        refine g_putf C 0 (by decide) rfl rfl in_X6_number tyX6 tyX6_ok nmX6 5 (by decide) fl_X6_number_148 rfl rfl rfl (Nat.le_of_ble_eq_true rfl) dX6_number_73 (mdlE Z.2.1 ad s t g14) (by rw [eg14]; exact mdlE_g3) ?_
        refine g_iload_n C dX6_number_76 0 rfl ?_
        refine g_if_le (tgt := 116) C dX6_number_77 (by decide) (fun c15 => ?_) (fun c15 => ?_)
        · replace h := gi_pos c15 h
          refine g_iconst (v := 0) C dX6_number_116 (by decide) ?_
          refine g_istore C dX6_number_117 (by decide) [(4, .int 0), (3, .int x13), (0, .ref (ad 0)), (1, .int v1), (2, .int v2)] rfl ?_
          refine g_goto (tgt := 22) C dX6_number_119 (by decide) ?_
          exact g_sub [2, 3, 4, 1, 0] rfl (ih x13 0 g14 h)
        · replace h := gi_neg c15 h
          refine g_aload_n C dX6_number_80 1 rfl ?_
          refine g_bipush (v := 48) C dX6_number_81 (by decide) ?_
          refine g_bipush (v := 57) C dX6_number_83 (by decide) ?_
          obtain ⟨r16, er16, h⟩ := gb1 h
          refine g_callWi (rest := []) C gX6_number_X6_isHere rfl ok_X6_isHere ⟨by decide, by decide⟩ ⟨rfl, rfl⟩ 0 (by decide) rfl rfl (fun hI => cn_X6_isHere X.2.1 Z ad hI s t g14 48 57 er16) rfl dX6_number_85 rfl (Nat.le_of_ble_eq_true rfl) ?_
          refine g_if_eq (tgt := 116) C dX6_number_88 (by decide) (fun c17 => ?_) (fun c17 => ?_)
          · replace h := gi_pos c17 h
            refine g_iconst (v := 0) C dX6_number_116 (by decide) ?_
            refine g_istore C dX6_number_117 (by decide) [(4, .int 0), (3, .int x13), (0, .ref (ad 0)), (1, .int v1), (2, .int v2)] rfl ?_
            refine g_goto (tgt := 22) C dX6_number_119 (by decide) ?_
            exact g_sub [2, 3, 4, 1, 0] rfl (ih x13 0 g14 h)
          · replace h := gi_neg c17 h
            refine g_bipush (v := 10) C dX6_number_91 (by decide) ?_
            refine g_iload_n C dX6_number_93 0 rfl ?_
            refine g_imul C dX6_number_94 ?_
            refine g_aload_n C dX6_number_95 1 rfl ?_
            refine g_getf (v := .ref (ad 2)) C 0 (by decide) rfl rfl in_X6_number 3 (by decide) fl_X6_number_13 rfl dX6_number_96 ?_
            refine g_aload_n C dX6_number_99 1 rfl ?_
            refine g_getf (v := .int (g14 3)) C 0 (by decide) rfl rfl in_X6_number 5 (by decide) fl_X6_number_148 rfl dX6_number_100 ?_
            obtain ⟨b19, h⟩ := gguard h
            refine g_iald C 2 (by decide) rfl (g_in b19) dX6_number_103 ?_
            refine g_iadd C dX6_number_104 ?_
            refine g_bipush (v := 48) C dX6_number_105 (by decide) ?_
            refine g_isub C dX6_number_107 ?_
            refine g_iload_n C dX6_number_108 3 rfl ?_
            refine g_icmp_gt (tgt := 116) C dX6_number_109 (by decide) (fun c18 => ?_) (fun c18 => ?_)
            · replace h := gi_pos c18 h
              refine g_iconst (v := 0) C dX6_number_116 (by decide) ?_
              refine g_istore C dX6_number_117 (by decide) [(4, .int 0), (3, .int x13), (0, .ref (ad 0)), (1, .int v1), (2, .int v2)] rfl ?_
              refine g_goto (tgt := 22) C dX6_number_119 (by decide) ?_
              exact g_sub [2, 3, 4, 1, 0] rfl (ih x13 0 g14 h)
            · replace h := gi_neg c18 h
              refine g_iconst (v := 1) C dX6_number_112 (by decide) ?_
              refine g_goto (tgt := 117) C dX6_number_113 (by decide) ?_
              refine g_istore C dX6_number_117 (by decide) [(4, .int 1), (3, .int x13), (0, .ref (ad 0)), (1, .int v1), (2, .int v2)] rfl ?_
              refine g_goto (tgt := 22) C dX6_number_119 (by decide) ?_
              exact g_sub [2, 3, 4, 1, 0] rfl (ih x13 1 g14 h)
set_option maxHeartbeats 4000000 in
set_option maxRecDepth 100000 in
theorem cn_X6_number (l : Launch) (Z : gZ) (ad : Nat → Nat) (hI : gInj 3 ad) (s : Nat → Int32) (t : Nat → Int32) (g : Nat → Int32) (v1 : Int32) (v2 : Int32) {r : Int32} {g' : Nat → Int32} (h : f_X6_number s t g v1 v2 = some (r, g')) : gI l yX6_number wsX6_number rm_X6_number Z 3 ad [.ref (ad 0), .int v1, .int v2] (mdlE Z.2.1 ad s t g) r (mdlE Z.2.1 ad s t g') := by
  refine g_entryI (cc := cX6_number) (maxL := 5) (by decide +kernel) rfl hI (Nat.le_of_ble_eq_true rfl) (fun X C e => ?_)
  unfold f_X6_number at h
  show GG X Z 5 3 ad (mdlE Z.2.1 ad s t g) 0 [(0, .ref (ad 0)), (1, .int v1), (2, .int v2)] []
  refine g_bipush (v := (-5)) C dX6_number_0 (by decide) ?_
  refine g_istore_n C dX6_number_2 (by decide) [(3, .int (-5)), (0, .ref (ad 0)), (1, .int v1), (2, .int v2)] rfl ?_
  refine g_aload_n C dX6_number_3 1 rfl ?_
  refine g_iload_n C dX6_number_4 2 rfl ?_
  refine g_if_ne (tgt := 13) C dX6_number_5 (by decide) (fun c1 => ?_) (fun c1 => ?_)
  · replace h := gi_neg c1 h
    refine g_bipush (v := 49) C dX6_number_13 (by decide) ?_
    refine g_bipush (v := 57) C dX6_number_15 (by decide) ?_
    obtain ⟨r2, er2, h⟩ := gb1 h
    refine g_callWi (rest := []) C gX6_number_X6_isHere rfl ok_X6_isHere ⟨by decide, by decide⟩ ⟨rfl, rfl⟩ 0 (by decide) rfl rfl (fun hI => cn_X6_isHere X.2.1 Z ad hI s t g 49 57 er2) rfl dX6_number_17 rfl (Nat.le_of_ble_eq_true rfl) ?_
    refine g_istore C dX6_number_20 (by decide) [(4, .int r2), (3, .int (-5)), (0, .ref (ad 0)), (1, .int v1), (2, .int v2)] rfl ?_
    exact g_sub [2, 3, 4, 1, 0] rfl (cl_X6_number_L22 C e v1 v2 gFu (-5) r2 g h)
  · replace h := gi_pos c1 h
    refine g_bipush (v := 48) C dX6_number_8 (by decide) ?_
    refine g_goto (tgt := 15) C dX6_number_10 (by decide) ?_
    refine g_bipush (v := 57) C dX6_number_15 (by decide) ?_
    obtain ⟨r21, er21, h⟩ := gb1 h
    refine g_callWi (rest := []) C gX6_number_X6_isHere rfl ok_X6_isHere ⟨by decide, by decide⟩ ⟨rfl, rfl⟩ 0 (by decide) rfl rfl (fun hI => cn_X6_isHere X.2.1 Z ad hI s t g 48 57 er21) rfl dX6_number_17 rfl (Nat.le_of_ble_eq_true rfl) ?_
    refine g_istore C dX6_number_20 (by decide) [(4, .int r21), (3, .int (-5)), (0, .ref (ad 0)), (1, .int v1), (2, .int v2)] rfl ?_
    exact g_sub [2, 3, 4, 1, 0] rfl (cl_X6_number_L22 C e v1 v2 gFu (-5) r21 g h)
abbrev rm_X6_readsAppend : Room := ({ frames := 3, cells := 0, slots := 0, locals := 68 } : Room)
def f_X6_readsAppend (s : Nat → Int32) (t : Nat → Int32) (g : Nat → Int32) : Option (Int32 × (Nat → Int32)) := gbb2 (f_X6_readsFile s t g) (fun r1 g2 => if r1 = 0 then some (0, g2) else gbb2 (f_X6_takes s t g2 58) (fun r4 g5 => if r4 = 0 then some (0, g5) else gbb2 (f_X6_number s t g5 1 64) (fun r7 g8 => glet (upd g8 6 r7) (fun g9 => if (g9 6) = (-5) then glet (upd g9 7 (-5)) (fun g11 => if (g11 7) = (-5) then some (0, g11) else some (1, g11)) else gbb2 (f_X6_takes s t g9 61) (fun r13 g14 => if r13 = 0 then glet (upd g14 7 (-5)) (fun g16 => if (g16 7) = (-5) then some (0, g16) else some (1, g16)) else gbb2 (f_X6_number s t g14 0 99) (fun r18 g19 => glet (upd g19 7 r18) (fun g20 => if (g20 7) = (-5) then some (0, g20) else some (1, g20))))))))
set_option maxRecDepth 20000 in
theorem in_X6_readsAppend : ∀ w ∈ wsX60, w ∈ wsX6_readsAppend := by decide +kernel
set_option maxRecDepth 20000 in
theorem fl_X6_readsAppend_170 : Cond.fieldLink RX6 170 (TX6 9).1 (TX6 9).2.1 (TX6 9).2.2.1 ∈ wsX6_readsAppend := by decide +kernel
set_option maxRecDepth 20000 in
theorem fl_X6_readsAppend_167 : Cond.fieldLink RX6 167 (TX6 8).1 (TX6 8).2.1 (TX6 8).2.2.1 ∈ wsX6_readsAppend := by decide +kernel
set_option maxHeartbeats 4000000 in
set_option maxRecDepth 100000 in
theorem cn_X6_readsAppend (l : Launch) (Z : gZ) (ad : Nat → Nat) (hI : gInj 3 ad) (s : Nat → Int32) (t : Nat → Int32) (g : Nat → Int32) {r : Int32} {g' : Nat → Int32} (h : f_X6_readsAppend s t g = some (r, g')) : gI l yX6_readsAppend wsX6_readsAppend rm_X6_readsAppend Z 3 ad [.ref (ad 0)] (mdlE Z.2.1 ad s t g) r (mdlE Z.2.1 ad s t g') := by
  refine g_entryI (cc := cX6_readsAppend) (maxL := 1) (by decide +kernel) rfl hI (Nat.le_of_ble_eq_true rfl) (fun X C e => ?_)
  unfold f_X6_readsAppend at h
  show GG X Z 1 3 ad (mdlE Z.2.1 ad s t g) 0 [(0, .ref (ad 0))] []
  refine g_aload_n C dX6_readsAppend_0 0 rfl ?_
  obtain ⟨r1, g2, er1, h⟩ := gb2 h
  refine g_callWi (rest := []) C gX6_readsAppend_X6_readsFile rfl ok_X6_readsFile ⟨by decide, by decide⟩ ⟨rfl, rfl⟩ 0 (by decide) rfl rfl (fun hI => cn_X6_readsFile X.2.1 Z ad hI s t g  er1) rfl dX6_readsAppend_1 rfl (Nat.le_of_ble_eq_true rfl) ?_
  refine g_if_eq (tgt := 16) C dX6_readsAppend_4 (by decide) (fun c3 => ?_) (fun c3 => ?_)
  · replace h := gi_pos c3 h
    refine g_iconst (v := 0) C dX6_readsAppend_16 (by decide) ?_
    obtain ⟨rfl, rfl⟩ := gs2 h
    exact g_zret C e rfl dX6_readsAppend_17
  · replace h := gi_neg c3 h
    refine g_aload_n C dX6_readsAppend_7 0 rfl ?_
    refine g_bipush (v := 58) C dX6_readsAppend_8 (by decide) ?_
    obtain ⟨r4, g5, er4, h⟩ := gb2 h
    refine g_callWi (rest := []) C gX6_readsAppend_X6_takes rfl ok_X6_takes ⟨by decide, by decide⟩ ⟨rfl, rfl⟩ 0 (by decide) rfl rfl (fun hI => cn_X6_takes X.2.1 Z ad hI s t g2 58 er4) rfl dX6_readsAppend_10 rfl (Nat.le_of_ble_eq_true rfl) ?_
    refine g_if_ne (tgt := 18) C dX6_readsAppend_13 (by decide) (fun c6 => ?_) (fun c6 => ?_)
    · replace h := gi_neg c6 h
      refine g_aload_n C dX6_readsAppend_18 0 rfl ?_
      refine g_aload_n C dX6_readsAppend_19 0 rfl ?_
      refine g_iconst (v := 1) C dX6_readsAppend_20 (by decide) ?_
      refine g_bipush (v := 64) C dX6_readsAppend_21 (by decide) ?_
      obtain ⟨r7, g8, er7, h⟩ := gb2 h
      refine g_callWi (rest := [.ref (ad 0)]) C gX6_readsAppend_X6_number rfl ok_X6_number ⟨by decide, by decide⟩ ⟨rfl, rfl⟩ 0 (by decide) rfl rfl (fun hI => cn_X6_number X.2.1 Z ad hI s t g5 1 64 er7) rfl dX6_readsAppend_23 rfl (Nat.le_of_ble_eq_true rfl) ?_
      obtain ⟨g9, eg9, h⟩ := gl h
      refine g_putf C 0 (by decide) rfl rfl in_X6_readsAppend tyX6 tyX6_ok nmX6 8 (by decide) fl_X6_readsAppend_167 rfl rfl rfl (Nat.le_of_ble_eq_true rfl) dX6_readsAppend_26 (mdlE Z.2.1 ad s t g9) (by rw [eg9]; exact mdlE_g6) ?_
      refine g_aload_n C dX6_readsAppend_29 0 rfl ?_
      refine g_aload_n C dX6_readsAppend_30 0 rfl ?_
      refine g_getf (v := .int (g9 6)) C 0 (by decide) rfl rfl in_X6_readsAppend 8 (by decide) fl_X6_readsAppend_167 rfl dX6_readsAppend_31 ?_
      refine g_bipush (v := (-5)) C dX6_readsAppend_34 (by decide) ?_
      refine g_icmp_eq (tgt := 58) C dX6_readsAppend_36 (by decide) (fun c10 => ?_) (fun c10 => ?_)
      · replace h := gi_pos c10 h
        refine g_bipush (v := (-5)) C dX6_readsAppend_58 (by decide) ?_
        obtain ⟨g11, eg11, h⟩ := gl h
        refine g_putf C 0 (by decide) rfl rfl in_X6_readsAppend tyX6 tyX6_ok nmX6 9 (by decide) fl_X6_readsAppend_170 rfl rfl rfl (Nat.le_of_ble_eq_true rfl) dX6_readsAppend_60 (mdlE Z.2.1 ad s t g11) (by rw [eg11]; exact mdlE_g7) ?_
        refine g_aload_n C dX6_readsAppend_63 0 rfl ?_
        refine g_getf (v := .int (g11 7)) C 0 (by decide) rfl rfl in_X6_readsAppend 9 (by decide) fl_X6_readsAppend_170 rfl dX6_readsAppend_64 ?_
        refine g_bipush (v := (-5)) C dX6_readsAppend_67 (by decide) ?_
        refine g_icmp_eq (tgt := 76) C dX6_readsAppend_69 (by decide) (fun c12 => ?_) (fun c12 => ?_)
        · replace h := gi_pos c12 h
          refine g_iconst (v := 0) C dX6_readsAppend_76 (by decide) ?_
          obtain ⟨rfl, rfl⟩ := gs2 h
          exact g_zret C e rfl dX6_readsAppend_77
        · replace h := gi_neg c12 h
          refine g_iconst (v := 1) C dX6_readsAppend_72 (by decide) ?_
          refine g_goto (tgt := 77) C dX6_readsAppend_73 (by decide) ?_
          obtain ⟨rfl, rfl⟩ := gs2 h
          exact g_zret C e rfl dX6_readsAppend_77
      · replace h := gi_neg c10 h
        refine g_aload_n C dX6_readsAppend_39 0 rfl ?_
        refine g_bipush (v := 61) C dX6_readsAppend_40 (by decide) ?_
        obtain ⟨r13, g14, er13, h⟩ := gb2 h
        refine g_callWi (rest := [.ref (ad 0)]) C gX6_readsAppend_X6_takes rfl ok_X6_takes ⟨by decide, by decide⟩ ⟨rfl, rfl⟩ 0 (by decide) rfl rfl (fun hI => cn_X6_takes X.2.1 Z ad hI s t g9 61 er13) rfl dX6_readsAppend_42 rfl (Nat.le_of_ble_eq_true rfl) ?_
        refine g_if_eq (tgt := 58) C dX6_readsAppend_45 (by decide) (fun c15 => ?_) (fun c15 => ?_)
        · replace h := gi_pos c15 h
          refine g_bipush (v := (-5)) C dX6_readsAppend_58 (by decide) ?_
          obtain ⟨g16, eg16, h⟩ := gl h
          refine g_putf C 0 (by decide) rfl rfl in_X6_readsAppend tyX6 tyX6_ok nmX6 9 (by decide) fl_X6_readsAppend_170 rfl rfl rfl (Nat.le_of_ble_eq_true rfl) dX6_readsAppend_60 (mdlE Z.2.1 ad s t g16) (by rw [eg16]; exact mdlE_g7) ?_
          refine g_aload_n C dX6_readsAppend_63 0 rfl ?_
          refine g_getf (v := .int (g16 7)) C 0 (by decide) rfl rfl in_X6_readsAppend 9 (by decide) fl_X6_readsAppend_170 rfl dX6_readsAppend_64 ?_
          refine g_bipush (v := (-5)) C dX6_readsAppend_67 (by decide) ?_
          refine g_icmp_eq (tgt := 76) C dX6_readsAppend_69 (by decide) (fun c17 => ?_) (fun c17 => ?_)
          · replace h := gi_pos c17 h
            refine g_iconst (v := 0) C dX6_readsAppend_76 (by decide) ?_
            obtain ⟨rfl, rfl⟩ := gs2 h
            exact g_zret C e rfl dX6_readsAppend_77
          · replace h := gi_neg c17 h
            refine g_iconst (v := 1) C dX6_readsAppend_72 (by decide) ?_
            refine g_goto (tgt := 77) C dX6_readsAppend_73 (by decide) ?_
            obtain ⟨rfl, rfl⟩ := gs2 h
            exact g_zret C e rfl dX6_readsAppend_77
        · replace h := gi_neg c15 h
          refine g_aload_n C dX6_readsAppend_48 0 rfl ?_
          refine g_iconst (v := 0) C dX6_readsAppend_49 (by decide) ?_
          refine g_bipush (v := 99) C dX6_readsAppend_50 (by decide) ?_
          obtain ⟨r18, g19, er18, h⟩ := gb2 h
          refine g_callWi (rest := [.ref (ad 0)]) C gX6_readsAppend_X6_number rfl ok_X6_number ⟨by decide, by decide⟩ ⟨rfl, rfl⟩ 0 (by decide) rfl rfl (fun hI => cn_X6_number X.2.1 Z ad hI s t g14 0 99 er18) rfl dX6_readsAppend_52 rfl (Nat.le_of_ble_eq_true rfl) ?_
          refine g_goto (tgt := 60) C dX6_readsAppend_55 (by decide) ?_
          obtain ⟨g20, eg20, h⟩ := gl h
          refine g_putf C 0 (by decide) rfl rfl in_X6_readsAppend tyX6 tyX6_ok nmX6 9 (by decide) fl_X6_readsAppend_170 rfl rfl rfl (Nat.le_of_ble_eq_true rfl) dX6_readsAppend_60 (mdlE Z.2.1 ad s t g20) (by rw [eg20]; exact mdlE_g7) ?_
          refine g_aload_n C dX6_readsAppend_63 0 rfl ?_
          refine g_getf (v := .int (g20 7)) C 0 (by decide) rfl rfl in_X6_readsAppend 9 (by decide) fl_X6_readsAppend_170 rfl dX6_readsAppend_64 ?_
          refine g_bipush (v := (-5)) C dX6_readsAppend_67 (by decide) ?_
          refine g_icmp_eq (tgt := 76) C dX6_readsAppend_69 (by decide) (fun c21 => ?_) (fun c21 => ?_)
          · replace h := gi_pos c21 h
            refine g_iconst (v := 0) C dX6_readsAppend_76 (by decide) ?_
            obtain ⟨rfl, rfl⟩ := gs2 h
            exact g_zret C e rfl dX6_readsAppend_77
          · replace h := gi_neg c21 h
            refine g_iconst (v := 1) C dX6_readsAppend_72 (by decide) ?_
            refine g_goto (tgt := 77) C dX6_readsAppend_73 (by decide) ?_
            obtain ⟨rfl, rfl⟩ := gs2 h
            exact g_zret C e rfl dX6_readsAppend_77
    · replace h := gi_pos c6 h
      refine g_iconst (v := 0) C dX6_readsAppend_16 (by decide) ?_
      obtain ⟨rfl, rfl⟩ := gs2 h
      exact g_zret C e rfl dX6_readsAppend_17
abbrev rm_X6_readsCut : Room := ({ frames := 3, cells := 0, slots := 0, locals := 68 } : Room)
def f_X6_readsCut (s : Nat → Int32) (t : Nat → Int32) (g : Nat → Int32) : Option (Int32 × (Nat → Int32)) := gbb2 (f_X6_readsFile s t g) (fun r1 g2 => if r1 = 0 then glet (upd g2 6 (-5)) (fun g4 => if (g4 6) = (-5) then some (0, g4) else some (1, g4)) else gbb2 (f_X6_takes s t g2 58) (fun r6 g7 => if r6 = 0 then glet (upd g7 6 (-5)) (fun g9 => if (g9 6) = (-5) then some (0, g9) else some (1, g9)) else gbb2 (f_X6_number s t g7 0 64) (fun r11 g12 => glet (upd g12 6 r11) (fun g13 => if (g13 6) = (-5) then some (0, g13) else some (1, g13)))))
set_option maxRecDepth 20000 in
theorem in_X6_readsCut : ∀ w ∈ wsX60, w ∈ wsX6_readsCut := by decide +kernel
set_option maxRecDepth 20000 in
theorem fl_X6_readsCut_167 : Cond.fieldLink RX6 167 (TX6 8).1 (TX6 8).2.1 (TX6 8).2.2.1 ∈ wsX6_readsCut := by decide +kernel
set_option maxHeartbeats 4000000 in
set_option maxRecDepth 100000 in
theorem cn_X6_readsCut (l : Launch) (Z : gZ) (ad : Nat → Nat) (hI : gInj 3 ad) (s : Nat → Int32) (t : Nat → Int32) (g : Nat → Int32) {r : Int32} {g' : Nat → Int32} (h : f_X6_readsCut s t g = some (r, g')) : gI l yX6_readsCut wsX6_readsCut rm_X6_readsCut Z 3 ad [.ref (ad 0)] (mdlE Z.2.1 ad s t g) r (mdlE Z.2.1 ad s t g') := by
  refine g_entryI (cc := cX6_readsCut) (maxL := 1) (by decide +kernel) rfl hI (Nat.le_of_ble_eq_true rfl) (fun X C e => ?_)
  unfold f_X6_readsCut at h
  show GG X Z 1 3 ad (mdlE Z.2.1 ad s t g) 0 [(0, .ref (ad 0))] []
  refine g_aload_n C dX6_readsCut_0 0 rfl ?_
  refine g_aload_n C dX6_readsCut_1 0 rfl ?_
  obtain ⟨r1, g2, er1, h⟩ := gb2 h
  refine g_callWi (rest := [.ref (ad 0)]) C gX6_readsCut_X6_readsFile rfl ok_X6_readsFile ⟨by decide, by decide⟩ ⟨rfl, rfl⟩ 0 (by decide) rfl rfl (fun hI => cn_X6_readsFile X.2.1 Z ad hI s t g  er1) rfl dX6_readsCut_2 rfl (Nat.le_of_ble_eq_true rfl) ?_
  refine g_if_eq (tgt := 27) C dX6_readsCut_5 (by decide) (fun c3 => ?_) (fun c3 => ?_)
  · replace h := gi_pos c3 h
    refine g_bipush (v := (-5)) C dX6_readsCut_27 (by decide) ?_
    obtain ⟨g4, eg4, h⟩ := gl h
    refine g_putf C 0 (by decide) rfl rfl in_X6_readsCut tyX6 tyX6_ok nmX6 8 (by decide) fl_X6_readsCut_167 rfl rfl rfl (Nat.le_of_ble_eq_true rfl) dX6_readsCut_29 (mdlE Z.2.1 ad s t g4) (by rw [eg4]; exact mdlE_g6) ?_
    refine g_aload_n C dX6_readsCut_32 0 rfl ?_
    refine g_getf (v := .int (g4 6)) C 0 (by decide) rfl rfl in_X6_readsCut 8 (by decide) fl_X6_readsCut_167 rfl dX6_readsCut_33 ?_
    refine g_bipush (v := (-5)) C dX6_readsCut_36 (by decide) ?_
    refine g_icmp_eq (tgt := 45) C dX6_readsCut_38 (by decide) (fun c5 => ?_) (fun c5 => ?_)
    · replace h := gi_pos c5 h
      refine g_iconst (v := 0) C dX6_readsCut_45 (by decide) ?_
      obtain ⟨rfl, rfl⟩ := gs2 h
      exact g_zret C e rfl dX6_readsCut_46
    · replace h := gi_neg c5 h
      refine g_iconst (v := 1) C dX6_readsCut_41 (by decide) ?_
      refine g_goto (tgt := 46) C dX6_readsCut_42 (by decide) ?_
      obtain ⟨rfl, rfl⟩ := gs2 h
      exact g_zret C e rfl dX6_readsCut_46
  · replace h := gi_neg c3 h
    refine g_aload_n C dX6_readsCut_8 0 rfl ?_
    refine g_bipush (v := 58) C dX6_readsCut_9 (by decide) ?_
    obtain ⟨r6, g7, er6, h⟩ := gb2 h
    refine g_callWi (rest := [.ref (ad 0)]) C gX6_readsCut_X6_takes rfl ok_X6_takes ⟨by decide, by decide⟩ ⟨rfl, rfl⟩ 0 (by decide) rfl rfl (fun hI => cn_X6_takes X.2.1 Z ad hI s t g2 58 er6) rfl dX6_readsCut_11 rfl (Nat.le_of_ble_eq_true rfl) ?_
    refine g_if_eq (tgt := 27) C dX6_readsCut_14 (by decide) (fun c8 => ?_) (fun c8 => ?_)
    · replace h := gi_pos c8 h
      refine g_bipush (v := (-5)) C dX6_readsCut_27 (by decide) ?_
      obtain ⟨g9, eg9, h⟩ := gl h
      refine g_putf C 0 (by decide) rfl rfl in_X6_readsCut tyX6 tyX6_ok nmX6 8 (by decide) fl_X6_readsCut_167 rfl rfl rfl (Nat.le_of_ble_eq_true rfl) dX6_readsCut_29 (mdlE Z.2.1 ad s t g9) (by rw [eg9]; exact mdlE_g6) ?_
      refine g_aload_n C dX6_readsCut_32 0 rfl ?_
      refine g_getf (v := .int (g9 6)) C 0 (by decide) rfl rfl in_X6_readsCut 8 (by decide) fl_X6_readsCut_167 rfl dX6_readsCut_33 ?_
      refine g_bipush (v := (-5)) C dX6_readsCut_36 (by decide) ?_
      refine g_icmp_eq (tgt := 45) C dX6_readsCut_38 (by decide) (fun c10 => ?_) (fun c10 => ?_)
      · replace h := gi_pos c10 h
        refine g_iconst (v := 0) C dX6_readsCut_45 (by decide) ?_
        obtain ⟨rfl, rfl⟩ := gs2 h
        exact g_zret C e rfl dX6_readsCut_46
      · replace h := gi_neg c10 h
        refine g_iconst (v := 1) C dX6_readsCut_41 (by decide) ?_
        refine g_goto (tgt := 46) C dX6_readsCut_42 (by decide) ?_
        obtain ⟨rfl, rfl⟩ := gs2 h
        exact g_zret C e rfl dX6_readsCut_46
    · replace h := gi_neg c8 h
      refine g_aload_n C dX6_readsCut_17 0 rfl ?_
      refine g_iconst (v := 0) C dX6_readsCut_18 (by decide) ?_
      refine g_bipush (v := 64) C dX6_readsCut_19 (by decide) ?_
      obtain ⟨r11, g12, er11, h⟩ := gb2 h
      refine g_callWi (rest := [.ref (ad 0)]) C gX6_readsCut_X6_number rfl ok_X6_number ⟨by decide, by decide⟩ ⟨rfl, rfl⟩ 0 (by decide) rfl rfl (fun hI => cn_X6_number X.2.1 Z ad hI s t g7 0 64 er11) rfl dX6_readsCut_21 rfl (Nat.le_of_ble_eq_true rfl) ?_
      refine g_goto (tgt := 29) C dX6_readsCut_24 (by decide) ?_
      obtain ⟨g13, eg13, h⟩ := gl h
      refine g_putf C 0 (by decide) rfl rfl in_X6_readsCut tyX6 tyX6_ok nmX6 8 (by decide) fl_X6_readsCut_167 rfl rfl rfl (Nat.le_of_ble_eq_true rfl) dX6_readsCut_29 (mdlE Z.2.1 ad s t g13) (by rw [eg13]; exact mdlE_g6) ?_
      refine g_aload_n C dX6_readsCut_32 0 rfl ?_
      refine g_getf (v := .int (g13 6)) C 0 (by decide) rfl rfl in_X6_readsCut 8 (by decide) fl_X6_readsCut_167 rfl dX6_readsCut_33 ?_
      refine g_bipush (v := (-5)) C dX6_readsCut_36 (by decide) ?_
      refine g_icmp_eq (tgt := 45) C dX6_readsCut_38 (by decide) (fun c14 => ?_) (fun c14 => ?_)
      · replace h := gi_pos c14 h
        refine g_iconst (v := 0) C dX6_readsCut_45 (by decide) ?_
        obtain ⟨rfl, rfl⟩ := gs2 h
        exact g_zret C e rfl dX6_readsCut_46
      · replace h := gi_neg c14 h
        refine g_iconst (v := 1) C dX6_readsCut_41 (by decide) ?_
        refine g_goto (tgt := 46) C dX6_readsCut_42 (by decide) ?_
        obtain ⟨rfl, rfl⟩ := gs2 h
        exact g_zret C e rfl dX6_readsCut_46
abbrev rm_X6_readsOrder : Room := ({ frames := 4, cells := 0, slots := 0, locals := 88 } : Room)
def f_X6_readsOrder (s : Nat → Int32) (t : Nat → Int32) (g : Nat → Int32) : Option (Int32 × (Nat → Int32)) := if (g 2) ≤ (g 3) then glet (upd g 4 0) (fun g2 => glet (upd g2 3 ((g2 3) + 1)) (fun g3 => if (g3 4) = 33 then some (1, g3) else if (g3 4) = 97 then gbb2 (f_X6_readsAppend s t g3) (fun r6 g7 => if r6 = 0 ∨ r6 = 1 then some (r6, g7) else none) else if (g3 4) = 100 then gbb2 (f_X6_readsFile s t g3) (fun r10 g11 => if r10 = 0 ∨ r10 = 1 then some (r10, g11) else none) else if (g3 4) = 109 then some (1, g3) else if (g3 4) = 110 then some (1, g3) else if (g3 4) = 111 then gbb2 (f_X6_readsFile s t g3) (fun r16 g17 => if r16 = 0 ∨ r16 = 1 then some (r16, g17) else none) else if (g3 4) = 115 then gbb2 (f_X6_readsFile s t g3) (fun r20 g21 => if r20 = 0 ∨ r20 = 1 then some (r20, g21) else none) else if (g3 4) = 116 then gbb2 (f_X6_readsCut s t g3) (fun r24 g25 => if r24 = 0 ∨ r24 = 1 then some (r24, g25) else none) else if (g3 4) = 120 then gbb2 (f_X6_readsFile s t g3) (fun r28 g29 => if r28 = 0 ∨ r28 = 1 then some (r28, g29) else none) else glet (upd g3 3 ((g3 3) - 1)) (fun g31 => some (0, g31)))) else if 0 ≤ (g 3) ∧ ((g 3)).toNatClampNeg < 80 then glet (upd g 4 (t ((g 3)).toNatClampNeg)) (fun g32 => glet (upd g32 3 ((g32 3) + 1)) (fun g33 => if (g33 4) = 33 then some (1, g33) else if (g33 4) = 97 then gbb2 (f_X6_readsAppend s t g33) (fun r36 g37 => if r36 = 0 ∨ r36 = 1 then some (r36, g37) else none) else if (g33 4) = 100 then gbb2 (f_X6_readsFile s t g33) (fun r40 g41 => if r40 = 0 ∨ r40 = 1 then some (r40, g41) else none) else if (g33 4) = 109 then some (1, g33) else if (g33 4) = 110 then some (1, g33) else if (g33 4) = 111 then gbb2 (f_X6_readsFile s t g33) (fun r46 g47 => if r46 = 0 ∨ r46 = 1 then some (r46, g47) else none) else if (g33 4) = 115 then gbb2 (f_X6_readsFile s t g33) (fun r50 g51 => if r50 = 0 ∨ r50 = 1 then some (r50, g51) else none) else if (g33 4) = 116 then gbb2 (f_X6_readsCut s t g33) (fun r54 g55 => if r54 = 0 ∨ r54 = 1 then some (r54, g55) else none) else if (g33 4) = 120 then gbb2 (f_X6_readsFile s t g33) (fun r58 g59 => if r58 = 0 ∨ r58 = 1 then some (r58, g59) else none) else glet (upd g33 3 ((g33 3) - 1)) (fun g61 => some (0, g61)))) else none
set_option maxRecDepth 20000 in
theorem in_X6_readsOrder : ∀ w ∈ wsX60, w ∈ wsX6_readsOrder := by decide +kernel
set_option maxRecDepth 20000 in
theorem fl_X6_readsOrder_148 : Cond.fieldLink RX6 148 (TX6 5).1 (TX6 5).2.1 (TX6 5).2.2.1 ∈ wsX6_readsOrder := by decide +kernel
set_option maxRecDepth 20000 in
theorem fl_X6_readsOrder_173 : Cond.fieldLink RX6 173 (TX6 6).1 (TX6 6).2.1 (TX6 6).2.2.1 ∈ wsX6_readsOrder := by decide +kernel
set_option maxRecDepth 20000 in
theorem fl_X6_readsOrder_13 : Cond.fieldLink RX6 13 (TX6 3).1 (TX6 3).2.1 (TX6 3).2.2.1 ∈ wsX6_readsOrder := by decide +kernel
set_option maxRecDepth 20000 in
theorem fl_X6_readsOrder_145 : Cond.fieldLink RX6 145 (TX6 4).1 (TX6 4).2.1 (TX6 4).2.2.1 ∈ wsX6_readsOrder := by decide +kernel
set_option maxHeartbeats 4000000 in
set_option maxRecDepth 100000 in
theorem cn_X6_readsOrder (l : Launch) (Z : gZ) (ad : Nat → Nat) (hI : gInj 3 ad) (s : Nat → Int32) (t : Nat → Int32) (g : Nat → Int32) {r : Int32} {g' : Nat → Int32} (h : f_X6_readsOrder s t g = some (r, g')) : gI l yX6_readsOrder wsX6_readsOrder rm_X6_readsOrder Z 3 ad [.ref (ad 0)] (mdlE Z.2.1 ad s t g) r (mdlE Z.2.1 ad s t g') := by
  refine g_entryI (cc := cX6_readsOrder) (maxL := 1) (by decide +kernel) rfl hI (Nat.le_of_ble_eq_true rfl) (fun X C e => ?_)
  unfold f_X6_readsOrder at h
  show GG X Z 1 3 ad (mdlE Z.2.1 ad s t g) 0 [(0, .ref (ad 0))] []
  refine g_aload_n C dX6_readsOrder_0 0 rfl ?_
  refine g_aload_n C dX6_readsOrder_1 0 rfl ?_
  refine g_getf (v := .int (g 3)) C 0 (by decide) rfl rfl in_X6_readsOrder 5 (by decide) fl_X6_readsOrder_148 rfl dX6_readsOrder_2 ?_
  refine g_aload_n C dX6_readsOrder_5 0 rfl ?_
  refine g_getf (v := .int (g 2)) C 0 (by decide) rfl rfl in_X6_readsOrder 4 (by decide) fl_X6_readsOrder_145 rfl dX6_readsOrder_6 ?_
  refine g_icmp_ge (tgt := 24) C dX6_readsOrder_9 (by decide) (fun c1 => ?_) (fun c1 => ?_)
  · replace h := gi_pos c1 h
    refine g_iconst (v := 0) C dX6_readsOrder_24 (by decide) ?_
    obtain ⟨g2, eg2, h⟩ := gl h
    refine g_putf C 0 (by decide) rfl rfl in_X6_readsOrder tyX6 tyX6_ok nmX6 6 (by decide) fl_X6_readsOrder_173 rfl rfl rfl (Nat.le_of_ble_eq_true rfl) dX6_readsOrder_25 (mdlE Z.2.1 ad s t g2) (by rw [eg2]; exact mdlE_g4) ?_
    refine g_aload_n C dX6_readsOrder_28 0 rfl ?_
    refine g_dup C dX6_readsOrder_29 rfl ?_
    refine g_getf (v := .int (g2 3)) C 0 (by decide) rfl rfl in_X6_readsOrder 5 (by decide) fl_X6_readsOrder_148 rfl dX6_readsOrder_30 ?_
    refine g_iconst (v := 1) C dX6_readsOrder_33 (by decide) ?_
    refine g_iadd C dX6_readsOrder_34 ?_
    obtain ⟨g3, eg3, h⟩ := gl h
    refine g_putf C 0 (by decide) rfl rfl in_X6_readsOrder tyX6 tyX6_ok nmX6 5 (by decide) fl_X6_readsOrder_148 rfl rfl rfl (Nat.le_of_ble_eq_true rfl) dX6_readsOrder_35 (mdlE Z.2.1 ad s t g3) (by rw [eg3]; exact mdlE_g3) ?_
    refine g_aload_n C dX6_readsOrder_38 0 rfl ?_
    refine g_getf (v := .int (g3 4)) C 0 (by decide) rfl rfl in_X6_readsOrder 6 (by decide) fl_X6_readsOrder_173 rfl dX6_readsOrder_39 ?_
    by_cases c4 : (g3 4) = 33
    · replace h := gi_pos c4 h
      refine g_lookup (tgt := 124) (off := 82) C dX6_readsOrder_42 (by decide) (by rw [c4] <;> decide) (by decide) ?_
      refine g_iconst (v := 1) C dX6_readsOrder_124 (by decide) ?_
      obtain ⟨rfl, rfl⟩ := gs2 h
      exact g_zret C e rfl dX6_readsOrder_125
    · replace h := gi_neg c4 h
      by_cases c5 : (g3 4) = 97
      · replace h := gi_pos c5 h
        refine g_lookup (tgt := 131) (off := 89) C dX6_readsOrder_42 (by decide) (by rw [c5] <;> decide) (by decide) ?_
        refine g_aload_n C dX6_readsOrder_131 0 rfl ?_
        obtain ⟨r6, g7, er6, h⟩ := gb2 h
        refine g_callWi (rest := []) C gX6_readsOrder_X6_readsAppend rfl ok_X6_readsAppend ⟨by decide, by decide⟩ ⟨rfl, rfl⟩ 0 (by decide) rfl rfl (fun hI => cn_X6_readsAppend X.2.1 Z ad hI s t g3  er6) rfl dX6_readsOrder_132 rfl (Nat.le_of_ble_eq_true rfl) ?_
        obtain ⟨b8, h⟩ := gguard h
        obtain ⟨rfl, rfl⟩ := gs2 h
        exact g_zret C e (g_b01 b8) dX6_readsOrder_135
      · replace h := gi_neg c5 h
        by_cases c9 : (g3 4) = 100
        · replace h := gi_pos c9 h
          refine g_lookup (tgt := 126) (off := 84) C dX6_readsOrder_42 (by decide) (by rw [c9] <;> decide) (by decide) ?_
          refine g_aload_n C dX6_readsOrder_126 0 rfl ?_
          obtain ⟨r10, g11, er10, h⟩ := gb2 h
          refine g_callWi (rest := []) C gX6_readsOrder_X6_readsFile rfl ok_X6_readsFile ⟨by decide, by decide⟩ ⟨rfl, rfl⟩ 0 (by decide) rfl rfl (fun hI => cn_X6_readsFile X.2.1 Z ad hI s t g3  er10) rfl dX6_readsOrder_127 rfl (Nat.le_of_ble_eq_true rfl) ?_
          obtain ⟨b12, h⟩ := gguard h
          obtain ⟨rfl, rfl⟩ := gs2 h
          exact g_zret C e (g_b01 b12) dX6_readsOrder_130
        · replace h := gi_neg c9 h
          by_cases c13 : (g3 4) = 109
          · replace h := gi_pos c13 h
            refine g_lookup (tgt := 124) (off := 82) C dX6_readsOrder_42 (by decide) (by rw [c13] <;> decide) (by decide) ?_
            refine g_iconst (v := 1) C dX6_readsOrder_124 (by decide) ?_
            obtain ⟨rfl, rfl⟩ := gs2 h
            exact g_zret C e rfl dX6_readsOrder_125
          · replace h := gi_neg c13 h
            by_cases c14 : (g3 4) = 110
            · replace h := gi_pos c14 h
              refine g_lookup (tgt := 124) (off := 82) C dX6_readsOrder_42 (by decide) (by rw [c14] <;> decide) (by decide) ?_
              refine g_iconst (v := 1) C dX6_readsOrder_124 (by decide) ?_
              obtain ⟨rfl, rfl⟩ := gs2 h
              exact g_zret C e rfl dX6_readsOrder_125
            · replace h := gi_neg c14 h
              by_cases c15 : (g3 4) = 111
              · replace h := gi_pos c15 h
                refine g_lookup (tgt := 126) (off := 84) C dX6_readsOrder_42 (by decide) (by rw [c15] <;> decide) (by decide) ?_
                refine g_aload_n C dX6_readsOrder_126 0 rfl ?_
                obtain ⟨r16, g17, er16, h⟩ := gb2 h
                refine g_callWi (rest := []) C gX6_readsOrder_X6_readsFile rfl ok_X6_readsFile ⟨by decide, by decide⟩ ⟨rfl, rfl⟩ 0 (by decide) rfl rfl (fun hI => cn_X6_readsFile X.2.1 Z ad hI s t g3  er16) rfl dX6_readsOrder_127 rfl (Nat.le_of_ble_eq_true rfl) ?_
                obtain ⟨b18, h⟩ := gguard h
                obtain ⟨rfl, rfl⟩ := gs2 h
                exact g_zret C e (g_b01 b18) dX6_readsOrder_130
              · replace h := gi_neg c15 h
                by_cases c19 : (g3 4) = 115
                · replace h := gi_pos c19 h
                  refine g_lookup (tgt := 126) (off := 84) C dX6_readsOrder_42 (by decide) (by rw [c19] <;> decide) (by decide) ?_
                  refine g_aload_n C dX6_readsOrder_126 0 rfl ?_
                  obtain ⟨r20, g21, er20, h⟩ := gb2 h
                  refine g_callWi (rest := []) C gX6_readsOrder_X6_readsFile rfl ok_X6_readsFile ⟨by decide, by decide⟩ ⟨rfl, rfl⟩ 0 (by decide) rfl rfl (fun hI => cn_X6_readsFile X.2.1 Z ad hI s t g3  er20) rfl dX6_readsOrder_127 rfl (Nat.le_of_ble_eq_true rfl) ?_
                  obtain ⟨b22, h⟩ := gguard h
                  obtain ⟨rfl, rfl⟩ := gs2 h
                  exact g_zret C e (g_b01 b22) dX6_readsOrder_130
                · replace h := gi_neg c19 h
                  by_cases c23 : (g3 4) = 116
                  · replace h := gi_pos c23 h
                    refine g_lookup (tgt := 136) (off := 94) C dX6_readsOrder_42 (by decide) (by rw [c23] <;> decide) (by decide) ?_
                    refine g_aload_n C dX6_readsOrder_136 0 rfl ?_
                    obtain ⟨r24, g25, er24, h⟩ := gb2 h
                    refine g_callWi (rest := []) C gX6_readsOrder_X6_readsCut rfl ok_X6_readsCut ⟨by decide, by decide⟩ ⟨rfl, rfl⟩ 0 (by decide) rfl rfl (fun hI => cn_X6_readsCut X.2.1 Z ad hI s t g3  er24) rfl dX6_readsOrder_137 rfl (Nat.le_of_ble_eq_true rfl) ?_
                    obtain ⟨b26, h⟩ := gguard h
                    obtain ⟨rfl, rfl⟩ := gs2 h
                    exact g_zret C e (g_b01 b26) dX6_readsOrder_140
                  · replace h := gi_neg c23 h
                    by_cases c27 : (g3 4) = 120
                    · replace h := gi_pos c27 h
                      refine g_lookup (tgt := 126) (off := 84) C dX6_readsOrder_42 (by decide) (by rw [c27] <;> decide) (by decide) ?_
                      refine g_aload_n C dX6_readsOrder_126 0 rfl ?_
                      obtain ⟨r28, g29, er28, h⟩ := gb2 h
                      refine g_callWi (rest := []) C gX6_readsOrder_X6_readsFile rfl ok_X6_readsFile ⟨by decide, by decide⟩ ⟨rfl, rfl⟩ 0 (by decide) rfl rfl (fun hI => cn_X6_readsFile X.2.1 Z ad hI s t g3  er28) rfl dX6_readsOrder_127 rfl (Nat.le_of_ble_eq_true rfl) ?_
                      obtain ⟨b30, h⟩ := gguard h
                      obtain ⟨rfl, rfl⟩ := gs2 h
                      exact g_zret C e (g_b01 b30) dX6_readsOrder_130
                    · replace h := gi_neg c27 h
                      refine g_lookup (tgt := 141) (off := 99) C dX6_readsOrder_42 (by decide) (by show Op.lookupswitch.offset (List.cons _ _) _ _ = _; rw [lv_osw c4 (by decide), lv_osw c5 (by decide), lv_osw c9 (by decide), lv_osw c13 (by decide), lv_osw c14 (by decide), lv_osw c15 (by decide), lv_osw c19 (by decide), lv_osw c23 (by decide), lv_osw c27 (by decide)] <;> rfl) (by decide) ?_
                      refine g_aload_n C dX6_readsOrder_141 0 rfl ?_
                      refine g_dup C dX6_readsOrder_142 rfl ?_
                      refine g_getf (v := .int (g3 3)) C 0 (by decide) rfl rfl in_X6_readsOrder 5 (by decide) fl_X6_readsOrder_148 rfl dX6_readsOrder_143 ?_
                      refine g_iconst (v := 1) C dX6_readsOrder_146 (by decide) ?_
                      refine g_isub C dX6_readsOrder_147 ?_
                      obtain ⟨g31, eg31, h⟩ := gl h
                      refine g_putf C 0 (by decide) rfl rfl in_X6_readsOrder tyX6 tyX6_ok nmX6 5 (by decide) fl_X6_readsOrder_148 rfl rfl rfl (Nat.le_of_ble_eq_true rfl) dX6_readsOrder_148 (mdlE Z.2.1 ad s t g31) (by rw [eg31]; exact mdlE_g3) ?_
                      refine g_iconst (v := 0) C dX6_readsOrder_151 (by decide) ?_
                      obtain ⟨rfl, rfl⟩ := gs2 h
                      exact g_zret C e rfl dX6_readsOrder_152
  · replace h := gi_neg c1 h
    refine g_aload_n C dX6_readsOrder_12 0 rfl ?_
    refine g_getf (v := .ref (ad 2)) C 0 (by decide) rfl rfl in_X6_readsOrder 3 (by decide) fl_X6_readsOrder_13 rfl dX6_readsOrder_13 ?_
    refine g_aload_n C dX6_readsOrder_16 0 rfl ?_
    refine g_getf (v := .int (g 3)) C 0 (by decide) rfl rfl in_X6_readsOrder 5 (by decide) fl_X6_readsOrder_148 rfl dX6_readsOrder_17 ?_
    obtain ⟨b62, h⟩ := gguard h
    refine g_iald C 2 (by decide) rfl (g_in b62) dX6_readsOrder_20 ?_
    refine g_goto (tgt := 25) C dX6_readsOrder_21 (by decide) ?_
    obtain ⟨g32, eg32, h⟩ := gl h
    refine g_putf C 0 (by decide) rfl rfl in_X6_readsOrder tyX6 tyX6_ok nmX6 6 (by decide) fl_X6_readsOrder_173 rfl rfl rfl (Nat.le_of_ble_eq_true rfl) dX6_readsOrder_25 (mdlE Z.2.1 ad s t g32) (by rw [eg32]; exact mdlE_g4) ?_
    refine g_aload_n C dX6_readsOrder_28 0 rfl ?_
    refine g_dup C dX6_readsOrder_29 rfl ?_
    refine g_getf (v := .int (g32 3)) C 0 (by decide) rfl rfl in_X6_readsOrder 5 (by decide) fl_X6_readsOrder_148 rfl dX6_readsOrder_30 ?_
    refine g_iconst (v := 1) C dX6_readsOrder_33 (by decide) ?_
    refine g_iadd C dX6_readsOrder_34 ?_
    obtain ⟨g33, eg33, h⟩ := gl h
    refine g_putf C 0 (by decide) rfl rfl in_X6_readsOrder tyX6 tyX6_ok nmX6 5 (by decide) fl_X6_readsOrder_148 rfl rfl rfl (Nat.le_of_ble_eq_true rfl) dX6_readsOrder_35 (mdlE Z.2.1 ad s t g33) (by rw [eg33]; exact mdlE_g3) ?_
    refine g_aload_n C dX6_readsOrder_38 0 rfl ?_
    refine g_getf (v := .int (g33 4)) C 0 (by decide) rfl rfl in_X6_readsOrder 6 (by decide) fl_X6_readsOrder_173 rfl dX6_readsOrder_39 ?_
    by_cases c34 : (g33 4) = 33
    · replace h := gi_pos c34 h
      refine g_lookup (tgt := 124) (off := 82) C dX6_readsOrder_42 (by decide) (by rw [c34] <;> decide) (by decide) ?_
      refine g_iconst (v := 1) C dX6_readsOrder_124 (by decide) ?_
      obtain ⟨rfl, rfl⟩ := gs2 h
      exact g_zret C e rfl dX6_readsOrder_125
    · replace h := gi_neg c34 h
      by_cases c35 : (g33 4) = 97
      · replace h := gi_pos c35 h
        refine g_lookup (tgt := 131) (off := 89) C dX6_readsOrder_42 (by decide) (by rw [c35] <;> decide) (by decide) ?_
        refine g_aload_n C dX6_readsOrder_131 0 rfl ?_
        obtain ⟨r36, g37, er36, h⟩ := gb2 h
        refine g_callWi (rest := []) C gX6_readsOrder_X6_readsAppend rfl ok_X6_readsAppend ⟨by decide, by decide⟩ ⟨rfl, rfl⟩ 0 (by decide) rfl rfl (fun hI => cn_X6_readsAppend X.2.1 Z ad hI s t g33  er36) rfl dX6_readsOrder_132 rfl (Nat.le_of_ble_eq_true rfl) ?_
        obtain ⟨b38, h⟩ := gguard h
        obtain ⟨rfl, rfl⟩ := gs2 h
        exact g_zret C e (g_b01 b38) dX6_readsOrder_135
      · replace h := gi_neg c35 h
        by_cases c39 : (g33 4) = 100
        · replace h := gi_pos c39 h
          refine g_lookup (tgt := 126) (off := 84) C dX6_readsOrder_42 (by decide) (by rw [c39] <;> decide) (by decide) ?_
          refine g_aload_n C dX6_readsOrder_126 0 rfl ?_
          obtain ⟨r40, g41, er40, h⟩ := gb2 h
          refine g_callWi (rest := []) C gX6_readsOrder_X6_readsFile rfl ok_X6_readsFile ⟨by decide, by decide⟩ ⟨rfl, rfl⟩ 0 (by decide) rfl rfl (fun hI => cn_X6_readsFile X.2.1 Z ad hI s t g33  er40) rfl dX6_readsOrder_127 rfl (Nat.le_of_ble_eq_true rfl) ?_
          obtain ⟨b42, h⟩ := gguard h
          obtain ⟨rfl, rfl⟩ := gs2 h
          exact g_zret C e (g_b01 b42) dX6_readsOrder_130
        · replace h := gi_neg c39 h
          by_cases c43 : (g33 4) = 109
          · replace h := gi_pos c43 h
            refine g_lookup (tgt := 124) (off := 82) C dX6_readsOrder_42 (by decide) (by rw [c43] <;> decide) (by decide) ?_
            refine g_iconst (v := 1) C dX6_readsOrder_124 (by decide) ?_
            obtain ⟨rfl, rfl⟩ := gs2 h
            exact g_zret C e rfl dX6_readsOrder_125
          · replace h := gi_neg c43 h
            by_cases c44 : (g33 4) = 110
            · replace h := gi_pos c44 h
              refine g_lookup (tgt := 124) (off := 82) C dX6_readsOrder_42 (by decide) (by rw [c44] <;> decide) (by decide) ?_
              refine g_iconst (v := 1) C dX6_readsOrder_124 (by decide) ?_
              obtain ⟨rfl, rfl⟩ := gs2 h
              exact g_zret C e rfl dX6_readsOrder_125
            · replace h := gi_neg c44 h
              by_cases c45 : (g33 4) = 111
              · replace h := gi_pos c45 h
                refine g_lookup (tgt := 126) (off := 84) C dX6_readsOrder_42 (by decide) (by rw [c45] <;> decide) (by decide) ?_
                refine g_aload_n C dX6_readsOrder_126 0 rfl ?_
                obtain ⟨r46, g47, er46, h⟩ := gb2 h
                refine g_callWi (rest := []) C gX6_readsOrder_X6_readsFile rfl ok_X6_readsFile ⟨by decide, by decide⟩ ⟨rfl, rfl⟩ 0 (by decide) rfl rfl (fun hI => cn_X6_readsFile X.2.1 Z ad hI s t g33  er46) rfl dX6_readsOrder_127 rfl (Nat.le_of_ble_eq_true rfl) ?_
                obtain ⟨b48, h⟩ := gguard h
                obtain ⟨rfl, rfl⟩ := gs2 h
                exact g_zret C e (g_b01 b48) dX6_readsOrder_130
              · replace h := gi_neg c45 h
                by_cases c49 : (g33 4) = 115
                · replace h := gi_pos c49 h
                  refine g_lookup (tgt := 126) (off := 84) C dX6_readsOrder_42 (by decide) (by rw [c49] <;> decide) (by decide) ?_
                  refine g_aload_n C dX6_readsOrder_126 0 rfl ?_
                  obtain ⟨r50, g51, er50, h⟩ := gb2 h
                  refine g_callWi (rest := []) C gX6_readsOrder_X6_readsFile rfl ok_X6_readsFile ⟨by decide, by decide⟩ ⟨rfl, rfl⟩ 0 (by decide) rfl rfl (fun hI => cn_X6_readsFile X.2.1 Z ad hI s t g33  er50) rfl dX6_readsOrder_127 rfl (Nat.le_of_ble_eq_true rfl) ?_
                  obtain ⟨b52, h⟩ := gguard h
                  obtain ⟨rfl, rfl⟩ := gs2 h
                  exact g_zret C e (g_b01 b52) dX6_readsOrder_130
                · replace h := gi_neg c49 h
                  by_cases c53 : (g33 4) = 116
                  · replace h := gi_pos c53 h
                    refine g_lookup (tgt := 136) (off := 94) C dX6_readsOrder_42 (by decide) (by rw [c53] <;> decide) (by decide) ?_
                    refine g_aload_n C dX6_readsOrder_136 0 rfl ?_
                    obtain ⟨r54, g55, er54, h⟩ := gb2 h
                    refine g_callWi (rest := []) C gX6_readsOrder_X6_readsCut rfl ok_X6_readsCut ⟨by decide, by decide⟩ ⟨rfl, rfl⟩ 0 (by decide) rfl rfl (fun hI => cn_X6_readsCut X.2.1 Z ad hI s t g33  er54) rfl dX6_readsOrder_137 rfl (Nat.le_of_ble_eq_true rfl) ?_
                    obtain ⟨b56, h⟩ := gguard h
                    obtain ⟨rfl, rfl⟩ := gs2 h
                    exact g_zret C e (g_b01 b56) dX6_readsOrder_140
                  · replace h := gi_neg c53 h
                    by_cases c57 : (g33 4) = 120
                    · replace h := gi_pos c57 h
                      refine g_lookup (tgt := 126) (off := 84) C dX6_readsOrder_42 (by decide) (by rw [c57] <;> decide) (by decide) ?_
                      refine g_aload_n C dX6_readsOrder_126 0 rfl ?_
                      obtain ⟨r58, g59, er58, h⟩ := gb2 h
                      refine g_callWi (rest := []) C gX6_readsOrder_X6_readsFile rfl ok_X6_readsFile ⟨by decide, by decide⟩ ⟨rfl, rfl⟩ 0 (by decide) rfl rfl (fun hI => cn_X6_readsFile X.2.1 Z ad hI s t g33  er58) rfl dX6_readsOrder_127 rfl (Nat.le_of_ble_eq_true rfl) ?_
                      obtain ⟨b60, h⟩ := gguard h
                      obtain ⟨rfl, rfl⟩ := gs2 h
                      exact g_zret C e (g_b01 b60) dX6_readsOrder_130
                    · replace h := gi_neg c57 h
                      refine g_lookup (tgt := 141) (off := 99) C dX6_readsOrder_42 (by decide) (by show Op.lookupswitch.offset (List.cons _ _) _ _ = _; rw [lv_osw c34 (by decide), lv_osw c35 (by decide), lv_osw c39 (by decide), lv_osw c43 (by decide), lv_osw c44 (by decide), lv_osw c45 (by decide), lv_osw c49 (by decide), lv_osw c53 (by decide), lv_osw c57 (by decide)] <;> rfl) (by decide) ?_
                      refine g_aload_n C dX6_readsOrder_141 0 rfl ?_
                      refine g_dup C dX6_readsOrder_142 rfl ?_
                      refine g_getf (v := .int (g33 3)) C 0 (by decide) rfl rfl in_X6_readsOrder 5 (by decide) fl_X6_readsOrder_148 rfl dX6_readsOrder_143 ?_
                      refine g_iconst (v := 1) C dX6_readsOrder_146 (by decide) ?_
                      refine g_isub C dX6_readsOrder_147 ?_
                      obtain ⟨g61, eg61, h⟩ := gl h
                      refine g_putf C 0 (by decide) rfl rfl in_X6_readsOrder tyX6 tyX6_ok nmX6 5 (by decide) fl_X6_readsOrder_148 rfl rfl rfl (Nat.le_of_ble_eq_true rfl) dX6_readsOrder_148 (mdlE Z.2.1 ad s t g61) (by rw [eg61]; exact mdlE_g3) ?_
                      refine g_iconst (v := 0) C dX6_readsOrder_151 (by decide) ?_
                      obtain ⟨rfl, rfl⟩ := gs2 h
                      exact g_zret C e rfl dX6_readsOrder_152
abbrev rm_X6_fault : Room := ({ frames := 5, cells := 0, slots := 0, locals := 108 } : Room)
def f_X6_fault_L7 (s : Nat → Int32) (t : Nat → Int32) : Nat → Int32 → (Nat → Int32) → Option (Int32 × (Nat → Int32))
  | 0, _, _ => none
  | fu + 1, v1, g => if v1 = 0 then if (g 3) = (g 2) then some ((-5), g) else some ((g 3), g) else gbb2 (f_X6_readsOrder s t g) (fun r4 g5 => if r4 = 0 then some ((g5 3), g5) else gbb2 (f_X6_takes s t g5 59) (fun r7 g8 => f_X6_fault_L7 s t fu r7 g8))
def f_X6_fault (s : Nat → Int32) (t : Nat → Int32) (g : Nat → Int32) : Option (Int32 × (Nat → Int32)) := glet (upd g 3 0) (fun g1 => f_X6_fault_L7 s t gFu 1 g1)
set_option maxRecDepth 20000 in
theorem in_X6_fault : ∀ w ∈ wsX60, w ∈ wsX6_fault := by decide +kernel
set_option maxRecDepth 20000 in
theorem fl_X6_fault_148 : Cond.fieldLink RX6 148 (TX6 5).1 (TX6 5).2.1 (TX6 5).2.2.1 ∈ wsX6_fault := by decide +kernel
set_option maxRecDepth 20000 in
theorem fl_X6_fault_145 : Cond.fieldLink RX6 145 (TX6 4).1 (TX6 4).2.1 (TX6 4).2.2.1 ∈ wsX6_fault := by decide +kernel
set_option maxHeartbeats 4000000 in
set_option maxRecDepth 100000 in
theorem cl_X6_fault_L7 {X : gX} {Z : gZ} {ad : Nat → Nat} {s : Nat → Int32} {t : Nat → Int32} {r : Int32} {g' : Nat → Int32} (C : GC X Z cX6_fault 2 wsX6_fault RX6 rm_X6_fault 3 ad) (e : gEI X Z 3 ad .int r (mdlE Z.2.1 ad s t g'))  : ∀ (fu : Nat) (v1 : Int32) (g : Nat → Int32) (h : f_X6_fault_L7 s t fu v1 g = some (r, g')), GG X Z 2 3 ad (mdlE Z.2.1 ad s t g) 7 [(0, .ref (ad 0)), (1, .int v1)] [] := by
  intro fu
  induction fu with
  | zero => intro v1 g h; cases h
  | succ fu ih =>
    intro v1 g h
    rw [f_X6_fault_L7] at h
    refine g_iload_n C dX6_fault_7 1 rfl ?_
    refine g_if_eq (tgt := 33) C dX6_fault_8 (by decide) (fun c2 => ?_) (fun c2 => ?_)
    · replace h := gi_pos c2 h
      refine g_aload_n C dX6_fault_33 0 rfl ?_
      refine g_getf (v := .int (g 3)) C 0 (by decide) rfl rfl in_X6_fault 5 (by decide) fl_X6_fault_148 rfl dX6_fault_34 ?_
      refine g_aload_n C dX6_fault_37 0 rfl ?_
      refine g_getf (v := .int (g 2)) C 0 (by decide) rfl rfl in_X6_fault 4 (by decide) fl_X6_fault_145 rfl dX6_fault_38 ?_
      refine g_icmp_ne (tgt := 49) C dX6_fault_41 (by decide) (fun c3 => ?_) (fun c3 => ?_)
      · replace h := gi_neg c3 h
        refine g_aload_n C dX6_fault_49 0 rfl ?_
        refine g_getf (v := .int (g 3)) C 0 (by decide) rfl rfl in_X6_fault 5 (by decide) fl_X6_fault_148 rfl dX6_fault_50 ?_
        obtain ⟨rfl, rfl⟩ := gs2 h
        exact g_iret C e dX6_fault_53
      · replace h := gi_pos c3 h
        refine g_bipush (v := (-5)) C dX6_fault_44 (by decide) ?_
        refine g_goto (tgt := 53) C dX6_fault_46 (by decide) ?_
        obtain ⟨rfl, rfl⟩ := gs2 h
        exact g_iret C e dX6_fault_53
    · replace h := gi_neg c2 h
      refine g_aload_n C dX6_fault_11 0 rfl ?_
      obtain ⟨r4, g5, er4, h⟩ := gb2 h
      refine g_callWi (rest := []) C gX6_fault_X6_readsOrder rfl ok_X6_readsOrder ⟨by decide, by decide⟩ ⟨rfl, rfl⟩ 0 (by decide) rfl rfl (fun hI => cn_X6_readsOrder X.2.1 Z ad hI s t g  er4) rfl dX6_fault_12 rfl (Nat.le_of_ble_eq_true rfl) ?_
      refine g_if_ne (tgt := 23) C dX6_fault_15 (by decide) (fun c6 => ?_) (fun c6 => ?_)
      · replace h := gi_neg c6 h
        refine g_aload_n C dX6_fault_23 0 rfl ?_
        refine g_bipush (v := 59) C dX6_fault_24 (by decide) ?_
        obtain ⟨r7, g8, er7, h⟩ := gb2 h
        refine g_callWi (rest := []) C gX6_fault_X6_takes rfl ok_X6_takes ⟨by decide, by decide⟩ ⟨rfl, rfl⟩ 0 (by decide) rfl rfl (fun hI => cn_X6_takes X.2.1 Z ad hI s t g5 59 er7) rfl dX6_fault_26 rfl (Nat.le_of_ble_eq_true rfl) ?_
        refine g_istore_n C dX6_fault_29 (by decide) [(1, .int r7), (0, .ref (ad 0))] rfl ?_
        refine g_goto (tgt := 7) C dX6_fault_30 (by decide) ?_
        exact g_sub [1, 0] rfl (ih r7 g8 h)
      · replace h := gi_pos c6 h
        refine g_aload_n C dX6_fault_18 0 rfl ?_
        refine g_getf (v := .int (g5 3)) C 0 (by decide) rfl rfl in_X6_fault 5 (by decide) fl_X6_fault_148 rfl dX6_fault_19 ?_
        obtain ⟨rfl, rfl⟩ := gs2 h
        exact g_iret C e dX6_fault_22
set_option maxHeartbeats 4000000 in
set_option maxRecDepth 100000 in
theorem cn_X6_fault (l : Launch) (Z : gZ) (ad : Nat → Nat) (hI : gInj 3 ad) (s : Nat → Int32) (t : Nat → Int32) (g : Nat → Int32) {r : Int32} {g' : Nat → Int32} (h : f_X6_fault s t g = some (r, g')) : gI l yX6_fault wsX6_fault rm_X6_fault Z 3 ad [.ref (ad 0)] (mdlE Z.2.1 ad s t g) r (mdlE Z.2.1 ad s t g') := by
  refine g_entryI (cc := cX6_fault) (maxL := 2) (by decide +kernel) rfl hI (Nat.le_of_ble_eq_true rfl) (fun X C e => ?_)
  unfold f_X6_fault at h
  show GG X Z 2 3 ad (mdlE Z.2.1 ad s t g) 0 [(0, .ref (ad 0))] []
  refine g_aload_n C dX6_fault_0 0 rfl ?_
  refine g_iconst (v := 0) C dX6_fault_1 (by decide) ?_
  obtain ⟨g1, eg1, h⟩ := gl h
  refine g_putf C 0 (by decide) rfl rfl in_X6_fault tyX6 tyX6_ok nmX6 5 (by decide) fl_X6_fault_148 rfl rfl rfl (Nat.le_of_ble_eq_true rfl) dX6_fault_2 (mdlE Z.2.1 ad s t g1) (by rw [eg1]; exact mdlE_g3) ?_
  refine g_iconst (v := 1) C dX6_fault_5 (by decide) ?_
  refine g_istore_n C dX6_fault_6 (by decide) [(1, .int 1), (0, .ref (ad 0))] rfl ?_
  exact g_sub [1, 0] rfl (cl_X6_fault_L7 C e gFu 1 g1 h)
abbrev rm_X6_orderError : Room := ({ frames := 5, cells := 0, slots := 0, locals := 112 } : Room)
def f_X6_orderError (s : Nat → Int32) (t : Nat → Int32) (g : Nat → Int32) : Option Int32 := if (g 4) = 97 then gb (f_X6_appendError s t g (g 5) (g 6) (g 7)) (fun r2 => some r2) else if (g 4) = 100 then gb (f_X6_openError s t g (g 5)) (fun r4 => some r4) else if (g 4) = 110 then gb (f_X6_createError s t g) (fun r6 => some r6) else if (g 4) = 111 then gb (f_X6_openError s t g (g 5)) (fun r8 => some r8) else if (g 4) = 115 then gb (f_X6_closeError s t g (g 5)) (fun r10 => some r10) else if (g 4) = 116 then gb (f_X6_cutError s t g (g 5) (g 6)) (fun r12 => some r12) else if (g 4) = 120 then gb (f_X6_closeError s t g (g 5)) (fun r14 => some r14) else some 0
set_option maxRecDepth 20000 in
theorem in_X6_orderError : ∀ w ∈ wsX60, w ∈ wsX6_orderError := by decide +kernel
set_option maxRecDepth 20000 in
theorem fl_X6_orderError_170 : Cond.fieldLink RX6 170 (TX6 9).1 (TX6 9).2.1 (TX6 9).2.2.1 ∈ wsX6_orderError := by decide +kernel
set_option maxRecDepth 20000 in
theorem fl_X6_orderError_167 : Cond.fieldLink RX6 167 (TX6 8).1 (TX6 8).2.1 (TX6 8).2.2.1 ∈ wsX6_orderError := by decide +kernel
set_option maxRecDepth 20000 in
theorem fl_X6_orderError_154 : Cond.fieldLink RX6 154 (TX6 7).1 (TX6 7).2.1 (TX6 7).2.2.1 ∈ wsX6_orderError := by decide +kernel
set_option maxRecDepth 20000 in
theorem fl_X6_orderError_173 : Cond.fieldLink RX6 173 (TX6 6).1 (TX6 6).2.1 (TX6 6).2.2.1 ∈ wsX6_orderError := by decide +kernel
set_option maxHeartbeats 4000000 in
set_option maxRecDepth 100000 in
theorem cn_X6_orderError (l : Launch) (Z : gZ) (ad : Nat → Nat) (hI : gInj 3 ad) (s : Nat → Int32) (t : Nat → Int32) (g : Nat → Int32) {r : Int32} (h : f_X6_orderError s t g = some r) : gI l yX6_orderError wsX6_orderError rm_X6_orderError Z 3 ad [.ref (ad 0)] (mdlE Z.2.1 ad s t g) r (mdlE Z.2.1 ad s t g) := by
  refine g_entryI (cc := cX6_orderError) (maxL := 1) (by decide +kernel) rfl hI (Nat.le_of_ble_eq_true rfl) (fun X C e => ?_)
  unfold f_X6_orderError at h
  show GG X Z 1 3 ad (mdlE Z.2.1 ad s t g) 0 [(0, .ref (ad 0))] []
  refine g_aload_n C dX6_orderError_0 0 rfl ?_
  refine g_getf (v := .int (g 4)) C 0 (by decide) rfl rfl in_X6_orderError 6 (by decide) fl_X6_orderError_173 rfl dX6_orderError_1 ?_
  by_cases c1 : (g 4) = 97
  · replace h := gi_pos c1 h
    refine g_tableIn (tgt := 139) (off := 135) C 97 c1 dX6_orderError_4 (by decide) (by decide) (by decide) (by decide) ?_
    refine g_aload_n C dX6_orderError_139 0 rfl ?_
    refine g_aload_n C dX6_orderError_140 0 rfl ?_
    refine g_getf (v := .int (g 5)) C 0 (by decide) rfl rfl in_X6_orderError 7 (by decide) fl_X6_orderError_154 rfl dX6_orderError_141 ?_
    refine g_aload_n C dX6_orderError_144 0 rfl ?_
    refine g_getf (v := .int (g 6)) C 0 (by decide) rfl rfl in_X6_orderError 8 (by decide) fl_X6_orderError_167 rfl dX6_orderError_145 ?_
    refine g_aload_n C dX6_orderError_148 0 rfl ?_
    refine g_getf (v := .int (g 7)) C 0 (by decide) rfl rfl in_X6_orderError 9 (by decide) fl_X6_orderError_170 rfl dX6_orderError_149 ?_
    obtain ⟨r2, er2, h⟩ := gb1 h
    refine g_callWi (rest := []) C gX6_orderError_X6_appendError rfl ok_X6_appendError ⟨by decide, by decide⟩ ⟨rfl, rfl⟩ 0 (by decide) rfl rfl (fun hI => cn_X6_appendError X.2.1 Z ad hI s t g (g 5) (g 6) (g 7) er2) rfl dX6_orderError_152 rfl (Nat.le_of_ble_eq_true rfl) ?_
    obtain rfl := gs1 h
    exact g_iret C e dX6_orderError_155
  · replace h := gi_neg c1 h
    by_cases c3 : (g 4) = 100
    · replace h := gi_pos c3 h
      refine g_tableIn (tgt := 121) (off := 117) C 100 c3 dX6_orderError_4 (by decide) (by decide) (by decide) (by decide) ?_
      refine g_aload_n C dX6_orderError_121 0 rfl ?_
      refine g_aload_n C dX6_orderError_122 0 rfl ?_
      refine g_getf (v := .int (g 5)) C 0 (by decide) rfl rfl in_X6_orderError 7 (by decide) fl_X6_orderError_154 rfl dX6_orderError_123 ?_
      obtain ⟨r4, er4, h⟩ := gb1 h
      refine g_callWi (rest := []) C gX6_orderError_X6_openError rfl ok_X6_openError ⟨by decide, by decide⟩ ⟨rfl, rfl⟩ 0 (by decide) rfl rfl (fun hI => cn_X6_openError X.2.1 Z ad hI s t g (g 5) er4) rfl dX6_orderError_126 rfl (Nat.le_of_ble_eq_true rfl) ?_
      obtain rfl := gs1 h
      exact g_iret C e dX6_orderError_129
    · replace h := gi_neg c3 h
      by_cases c5 : (g 4) = 110
      · replace h := gi_pos c5 h
        refine g_tableIn (tgt := 116) (off := 112) C 110 c5 dX6_orderError_4 (by decide) (by decide) (by decide) (by decide) ?_
        refine g_aload_n C dX6_orderError_116 0 rfl ?_
        obtain ⟨r6, er6, h⟩ := gb1 h
        refine g_callWi (rest := []) C gX6_orderError_X6_createError rfl ok_X6_createError ⟨by decide, by decide⟩ ⟨rfl, rfl⟩ 0 (by decide) rfl rfl (fun hI => cn_X6_createError X.2.1 Z ad hI s t g  er6) rfl dX6_orderError_117 rfl (Nat.le_of_ble_eq_true rfl) ?_
        obtain rfl := gs1 h
        exact g_iret C e dX6_orderError_120
      · replace h := gi_neg c5 h
        by_cases c7 : (g 4) = 111
        · replace h := gi_pos c7 h
          refine g_tableIn (tgt := 121) (off := 117) C 111 c7 dX6_orderError_4 (by decide) (by decide) (by decide) (by decide) ?_
          refine g_aload_n C dX6_orderError_121 0 rfl ?_
          refine g_aload_n C dX6_orderError_122 0 rfl ?_
          refine g_getf (v := .int (g 5)) C 0 (by decide) rfl rfl in_X6_orderError 7 (by decide) fl_X6_orderError_154 rfl dX6_orderError_123 ?_
          obtain ⟨r8, er8, h⟩ := gb1 h
          refine g_callWi (rest := []) C gX6_orderError_X6_openError rfl ok_X6_openError ⟨by decide, by decide⟩ ⟨rfl, rfl⟩ 0 (by decide) rfl rfl (fun hI => cn_X6_openError X.2.1 Z ad hI s t g (g 5) er8) rfl dX6_orderError_126 rfl (Nat.le_of_ble_eq_true rfl) ?_
          obtain rfl := gs1 h
          exact g_iret C e dX6_orderError_129
        · replace h := gi_neg c7 h
          by_cases c9 : (g 4) = 115
          · replace h := gi_pos c9 h
            refine g_tableIn (tgt := 130) (off := 126) C 115 c9 dX6_orderError_4 (by decide) (by decide) (by decide) (by decide) ?_
            refine g_aload_n C dX6_orderError_130 0 rfl ?_
            refine g_aload_n C dX6_orderError_131 0 rfl ?_
            refine g_getf (v := .int (g 5)) C 0 (by decide) rfl rfl in_X6_orderError 7 (by decide) fl_X6_orderError_154 rfl dX6_orderError_132 ?_
            obtain ⟨r10, er10, h⟩ := gb1 h
            refine g_callWi (rest := []) C gX6_orderError_X6_closeError rfl ok_X6_closeError ⟨by decide, by decide⟩ ⟨rfl, rfl⟩ 0 (by decide) rfl rfl (fun hI => cn_X6_closeError X.2.1 Z ad hI s t g (g 5) er10) rfl dX6_orderError_135 rfl (Nat.le_of_ble_eq_true rfl) ?_
            obtain rfl := gs1 h
            exact g_iret C e dX6_orderError_138
          · replace h := gi_neg c9 h
            by_cases c11 : (g 4) = 116
            · replace h := gi_pos c11 h
              refine g_tableIn (tgt := 156) (off := 152) C 116 c11 dX6_orderError_4 (by decide) (by decide) (by decide) (by decide) ?_
              refine g_aload_n C dX6_orderError_156 0 rfl ?_
              refine g_aload_n C dX6_orderError_157 0 rfl ?_
              refine g_getf (v := .int (g 5)) C 0 (by decide) rfl rfl in_X6_orderError 7 (by decide) fl_X6_orderError_154 rfl dX6_orderError_158 ?_
              refine g_aload_n C dX6_orderError_161 0 rfl ?_
              refine g_getf (v := .int (g 6)) C 0 (by decide) rfl rfl in_X6_orderError 8 (by decide) fl_X6_orderError_167 rfl dX6_orderError_162 ?_
              obtain ⟨r12, er12, h⟩ := gb1 h
              refine g_callWi (rest := []) C gX6_orderError_X6_cutError rfl ok_X6_cutError ⟨by decide, by decide⟩ ⟨rfl, rfl⟩ 0 (by decide) rfl rfl (fun hI => cn_X6_cutError X.2.1 Z ad hI s t g (g 5) (g 6) er12) rfl dX6_orderError_165 rfl (Nat.le_of_ble_eq_true rfl) ?_
              obtain rfl := gs1 h
              exact g_iret C e dX6_orderError_168
            · replace h := gi_neg c11 h
              by_cases c13 : (g 4) = 120
              · replace h := gi_pos c13 h
                refine g_tableIn (tgt := 130) (off := 126) C 120 c13 dX6_orderError_4 (by decide) (by decide) (by decide) (by decide) ?_
                refine g_aload_n C dX6_orderError_130 0 rfl ?_
                refine g_aload_n C dX6_orderError_131 0 rfl ?_
                refine g_getf (v := .int (g 5)) C 0 (by decide) rfl rfl in_X6_orderError 7 (by decide) fl_X6_orderError_154 rfl dX6_orderError_132 ?_
                obtain ⟨r14, er14, h⟩ := gb1 h
                refine g_callWi (rest := []) C gX6_orderError_X6_closeError rfl ok_X6_closeError ⟨by decide, by decide⟩ ⟨rfl, rfl⟩ 0 (by decide) rfl rfl (fun hI => cn_X6_closeError X.2.1 Z ad hI s t g (g 5) er14) rfl dX6_orderError_135 rfl (Nat.le_of_ble_eq_true rfl) ?_
                obtain rfl := gs1 h
                exact g_iret C e dX6_orderError_138
              · replace h := gi_neg c13 h
                refine g_tableAny (tgt := 169) C dX6_orderError_4 (by
                  have nc1 := g_ne (a := 97) c1 (by decide); have nc3 := g_ne (a := 100) c3 (by decide); have nc5 := g_ne (a := 110) c5 (by decide); have nc7 := g_ne (a := 111) c7 (by decide); have nc9 := g_ne (a := 115) c9 (by decide); have nc11 := g_ne (a := 116) c11 (by decide); have nc13 := g_ne (a := 120) c13 (by decide);
                  by_cases ho : ((g 4)).toInt < 97 ∨ 120 < ((g 4)).toInt
                  · exact Or.inl ho
                  · refine Or.inr ⟨fun z => ho (Or.inl z), fun z => ho (Or.inr z), ?_⟩
                    rcases (show ((g 4)).toInt = 98 ∨ ((g 4)).toInt = 99 ∨ ((g 4)).toInt = 101 ∨ ((g 4)).toInt = 102 ∨ ((g 4)).toInt = 103 ∨ ((g 4)).toInt = 104 ∨ ((g 4)).toInt = 105 ∨ ((g 4)).toInt = 106 ∨ ((g 4)).toInt = 107 ∨ ((g 4)).toInt = 108 ∨ ((g 4)).toInt = 109 ∨ ((g 4)).toInt = 112 ∨ ((g 4)).toInt = 113 ∨ ((g 4)).toInt = 114 ∨ ((g 4)).toInt = 117 ∨ ((g 4)).toInt = 118 ∨ ((g 4)).toInt = 119 by omega) with z | z | z | z | z | z | z | z | z | z | z | z | z | z | z | z | z <;> (rw [z]; rfl)) (by decide) ?_
                refine g_iconst (v := 0) C dX6_orderError_169 (by decide) ?_
                obtain rfl := gs1 h
                exact g_iret C e dX6_orderError_170
abbrev rm_X6_does : Room := ({ frames := 5, cells := 0, slots := 0, locals := 125 } : Room)
def f_X6_does (s : Nat → Int32) (t : Nat → Int32) (g : Nat → Int32) : Option (Int32 × (Nat → Int32)) := if (g 4) = 33 then gbb2 (f_X6_crashes s t g) (fun r2 s3 => some (r2, s3)) else if (g 4) = 97 then gbb2 (f_X6_appends s t g 0 (g 5) (g 6) (g 7)) (fun r5 s6 => some (r5, s6)) else if (g 4) = 100 then gbb2 (f_X6_removes s t g (g 5)) (fun r8 s9 => some (r8, s9)) else if (g 4) = 110 then gbb2 (f_X6_creates s t g) (fun r11 s12 => some (r11, s12)) else if (g 4) = 111 then gbb2 (f_X6_opens s t g (g 5)) (fun r14 s15 => some (r14, s15)) else if (g 4) = 115 then gbb2 (f_X6_syncs s t g (g 5)) (fun r17 s18 => some (r17, s18)) else if (g 4) = 116 then gbb2 (f_X6_cuts s t g (g 5) (g 6)) (fun r20 s21 => some (r20, s21)) else if (g 4) = 120 then gbb2 (f_X6_closes s t g (g 5)) (fun r23 s24 => some (r23, s24)) else gbb2 (f_X6_mends s t g) (fun r25 s26 => some (r25, s26))
set_option maxRecDepth 20000 in
theorem in_X6_does : ∀ w ∈ wsX60, w ∈ wsX6_does := by decide +kernel
set_option maxRecDepth 20000 in
theorem fl_X6_does_170 : Cond.fieldLink RX6 170 (TX6 9).1 (TX6 9).2.1 (TX6 9).2.2.1 ∈ wsX6_does := by decide +kernel
set_option maxRecDepth 20000 in
theorem fl_X6_does_167 : Cond.fieldLink RX6 167 (TX6 8).1 (TX6 8).2.1 (TX6 8).2.2.1 ∈ wsX6_does := by decide +kernel
set_option maxRecDepth 20000 in
theorem fl_X6_does_154 : Cond.fieldLink RX6 154 (TX6 7).1 (TX6 7).2.1 (TX6 7).2.2.1 ∈ wsX6_does := by decide +kernel
set_option maxRecDepth 20000 in
theorem fl_X6_does_173 : Cond.fieldLink RX6 173 (TX6 6).1 (TX6 6).2.1 (TX6 6).2.2.1 ∈ wsX6_does := by decide +kernel
set_option maxHeartbeats 4000000 in
set_option maxRecDepth 100000 in
theorem cn_X6_does (l : Launch) (Z : gZ) (ad : Nat → Nat) (hI : gInj 3 ad) (s : Nat → Int32) (t : Nat → Int32) (g : Nat → Int32) {r : Int32} {s' : Nat → Int32} (h : f_X6_does s t g = some (r, s')) : gI l yX6_does wsX6_does rm_X6_does Z 3 ad [.ref (ad 0)] (mdlE Z.2.1 ad s t g) r (mdlE Z.2.1 ad s' t g) := by
  refine g_entryI (cc := cX6_does) (maxL := 1) (by decide +kernel) rfl hI (Nat.le_of_ble_eq_true rfl) (fun X C e => ?_)
  unfold f_X6_does at h
  show GG X Z 1 3 ad (mdlE Z.2.1 ad s t g) 0 [(0, .ref (ad 0))] []
  refine g_aload_n C dX6_does_0 0 rfl ?_
  refine g_getf (v := .int (g 4)) C 0 (by decide) rfl rfl in_X6_does 6 (by decide) fl_X6_does_173 rfl dX6_does_1 ?_
  by_cases c1 : (g 4) = 33
  · replace h := gi_pos c1 h
    refine g_lookup (tgt := 152) (off := 148) C dX6_does_4 (by decide) (by rw [c1] <;> decide) (by decide) ?_
    refine g_aload_n C dX6_does_152 0 rfl ?_
    obtain ⟨r2, s3, er2, h⟩ := gb2 h
    refine g_callWi (rest := []) C gX6_does_X6_crashes rfl ok_X6_crashes ⟨by decide, by decide⟩ ⟨rfl, rfl⟩ 0 (by decide) rfl rfl (fun hI => cn_X6_crashes X.2.1 Z ad hI s t g  er2) rfl dX6_does_153 rfl (Nat.le_of_ble_eq_true rfl) ?_
    obtain ⟨rfl, rfl⟩ := gs2 h
    exact g_iret C e dX6_does_156
  · replace h := gi_neg c1 h
    by_cases c4 : (g 4) = 97
    · replace h := gi_pos c4 h
      refine g_lookup (tgt := 121) (off := 117) C dX6_does_4 (by decide) (by rw [c4] <;> decide) (by decide) ?_
      refine g_aload_n C dX6_does_121 0 rfl ?_
      refine g_iconst (v := 0) C dX6_does_122 (by decide) ?_
      refine g_aload_n C dX6_does_123 0 rfl ?_
      refine g_getf (v := .int (g 5)) C 0 (by decide) rfl rfl in_X6_does 7 (by decide) fl_X6_does_154 rfl dX6_does_124 ?_
      refine g_aload_n C dX6_does_127 0 rfl ?_
      refine g_getf (v := .int (g 6)) C 0 (by decide) rfl rfl in_X6_does 8 (by decide) fl_X6_does_167 rfl dX6_does_128 ?_
      refine g_aload_n C dX6_does_131 0 rfl ?_
      refine g_getf (v := .int (g 7)) C 0 (by decide) rfl rfl in_X6_does 9 (by decide) fl_X6_does_170 rfl dX6_does_132 ?_
      obtain ⟨r5, s6, er5, h⟩ := gb2 h
      refine g_callWi (rest := []) C gX6_does_X6_appends rfl ok_X6_appends ⟨by decide, by decide⟩ ⟨rfl, rfl⟩ 0 (by decide) rfl rfl (fun hI => cn_X6_appends X.2.1 Z ad hI s t g 0 (g 5) (g 6) (g 7) er5) rfl dX6_does_135 rfl (Nat.le_of_ble_eq_true rfl) ?_
      obtain ⟨rfl, rfl⟩ := gs2 h
      exact g_iret C e dX6_does_138
    · replace h := gi_neg c4 h
      by_cases c7 : (g 4) = 100
      · replace h := gi_pos c7 h
        refine g_lookup (tgt := 103) (off := 99) C dX6_does_4 (by decide) (by rw [c7] <;> decide) (by decide) ?_
        refine g_aload_n C dX6_does_103 0 rfl ?_
        refine g_aload_n C dX6_does_104 0 rfl ?_
        refine g_getf (v := .int (g 5)) C 0 (by decide) rfl rfl in_X6_does 7 (by decide) fl_X6_does_154 rfl dX6_does_105 ?_
        obtain ⟨r8, s9, er8, h⟩ := gb2 h
        refine g_callWi (rest := []) C gX6_does_X6_removes rfl ok_X6_removes ⟨by decide, by decide⟩ ⟨rfl, rfl⟩ 0 (by decide) rfl rfl (fun hI => cn_X6_removes X.2.1 Z ad hI s t g (g 5) er8) rfl dX6_does_108 rfl (Nat.le_of_ble_eq_true rfl) ?_
        obtain ⟨rfl, rfl⟩ := gs2 h
        exact g_iret C e dX6_does_111
      · replace h := gi_neg c7 h
        by_cases c10 : (g 4) = 110
        · replace h := gi_pos c10 h
          refine g_lookup (tgt := 80) (off := 76) C dX6_does_4 (by decide) (by rw [c10] <;> decide) (by decide) ?_
          refine g_aload_n C dX6_does_80 0 rfl ?_
          obtain ⟨r11, s12, er11, h⟩ := gb2 h
          refine g_callWi (rest := []) C gX6_does_X6_creates rfl ok_X6_creates ⟨by decide, by decide⟩ ⟨rfl, rfl⟩ 0 (by decide) rfl rfl (fun hI => cn_X6_creates X.2.1 Z ad hI s t g  er11) rfl dX6_does_81 rfl (Nat.le_of_ble_eq_true rfl) ?_
          obtain ⟨rfl, rfl⟩ := gs2 h
          exact g_iret C e dX6_does_84
        · replace h := gi_neg c10 h
          by_cases c13 : (g 4) = 111
          · replace h := gi_pos c13 h
            refine g_lookup (tgt := 85) (off := 81) C dX6_does_4 (by decide) (by rw [c13] <;> decide) (by decide) ?_
            refine g_aload_n C dX6_does_85 0 rfl ?_
            refine g_aload_n C dX6_does_86 0 rfl ?_
            refine g_getf (v := .int (g 5)) C 0 (by decide) rfl rfl in_X6_does 7 (by decide) fl_X6_does_154 rfl dX6_does_87 ?_
            obtain ⟨r14, s15, er14, h⟩ := gb2 h
            refine g_callWi (rest := []) C gX6_does_X6_opens rfl ok_X6_opens ⟨by decide, by decide⟩ ⟨rfl, rfl⟩ 0 (by decide) rfl rfl (fun hI => cn_X6_opens X.2.1 Z ad hI s t g (g 5) er14) rfl dX6_does_90 rfl (Nat.le_of_ble_eq_true rfl) ?_
            obtain ⟨rfl, rfl⟩ := gs2 h
            exact g_iret C e dX6_does_93
          · replace h := gi_neg c13 h
            by_cases c16 : (g 4) = 115
            · replace h := gi_pos c16 h
              refine g_lookup (tgt := 112) (off := 108) C dX6_does_4 (by decide) (by rw [c16] <;> decide) (by decide) ?_
              refine g_aload_n C dX6_does_112 0 rfl ?_
              refine g_aload_n C dX6_does_113 0 rfl ?_
              refine g_getf (v := .int (g 5)) C 0 (by decide) rfl rfl in_X6_does 7 (by decide) fl_X6_does_154 rfl dX6_does_114 ?_
              obtain ⟨r17, s18, er17, h⟩ := gb2 h
              refine g_callWi (rest := []) C gX6_does_X6_syncs rfl ok_X6_syncs ⟨by decide, by decide⟩ ⟨rfl, rfl⟩ 0 (by decide) rfl rfl (fun hI => cn_X6_syncs X.2.1 Z ad hI s t g (g 5) er17) rfl dX6_does_117 rfl (Nat.le_of_ble_eq_true rfl) ?_
              obtain ⟨rfl, rfl⟩ := gs2 h
              exact g_iret C e dX6_does_120
            · replace h := gi_neg c16 h
              by_cases c19 : (g 4) = 116
              · replace h := gi_pos c19 h
                refine g_lookup (tgt := 139) (off := 135) C dX6_does_4 (by decide) (by rw [c19] <;> decide) (by decide) ?_
                refine g_aload_n C dX6_does_139 0 rfl ?_
                refine g_aload_n C dX6_does_140 0 rfl ?_
                refine g_getf (v := .int (g 5)) C 0 (by decide) rfl rfl in_X6_does 7 (by decide) fl_X6_does_154 rfl dX6_does_141 ?_
                refine g_aload_n C dX6_does_144 0 rfl ?_
                refine g_getf (v := .int (g 6)) C 0 (by decide) rfl rfl in_X6_does 8 (by decide) fl_X6_does_167 rfl dX6_does_145 ?_
                obtain ⟨r20, s21, er20, h⟩ := gb2 h
                refine g_callWi (rest := []) C gX6_does_X6_cuts rfl ok_X6_cuts ⟨by decide, by decide⟩ ⟨rfl, rfl⟩ 0 (by decide) rfl rfl (fun hI => cn_X6_cuts X.2.1 Z ad hI s t g (g 5) (g 6) er20) rfl dX6_does_148 rfl (Nat.le_of_ble_eq_true rfl) ?_
                obtain ⟨rfl, rfl⟩ := gs2 h
                exact g_iret C e dX6_does_151
              · replace h := gi_neg c19 h
                by_cases c22 : (g 4) = 120
                · replace h := gi_pos c22 h
                  refine g_lookup (tgt := 94) (off := 90) C dX6_does_4 (by decide) (by rw [c22] <;> decide) (by decide) ?_
                  refine g_aload_n C dX6_does_94 0 rfl ?_
                  refine g_aload_n C dX6_does_95 0 rfl ?_
                  refine g_getf (v := .int (g 5)) C 0 (by decide) rfl rfl in_X6_does 7 (by decide) fl_X6_does_154 rfl dX6_does_96 ?_
                  obtain ⟨r23, s24, er23, h⟩ := gb2 h
                  refine g_callWi (rest := []) C gX6_does_X6_closes rfl ok_X6_closes ⟨by decide, by decide⟩ ⟨rfl, rfl⟩ 0 (by decide) rfl rfl (fun hI => cn_X6_closes X.2.1 Z ad hI s t g (g 5) er23) rfl dX6_does_99 rfl (Nat.le_of_ble_eq_true rfl) ?_
                  obtain ⟨rfl, rfl⟩ := gs2 h
                  exact g_iret C e dX6_does_102
                · replace h := gi_neg c22 h
                  refine g_lookup (tgt := 157) (off := 153) C dX6_does_4 (by decide) (by show Op.lookupswitch.offset (List.cons _ _) _ _ = _; rw [lv_osw c1 (by decide), lv_osw c4 (by decide), lv_osw c7 (by decide), lv_osw c10 (by decide), lv_osw c13 (by decide), lv_osw c16 (by decide), lv_osw c19 (by decide), lv_osw c22 (by decide)] <;> rfl) (by decide) ?_
                  refine g_aload_n C dX6_does_157 0 rfl ?_
                  obtain ⟨r25, s26, er25, h⟩ := gb2 h
                  refine g_callWi (rest := []) C gX6_does_X6_mends rfl ok_X6_mends ⟨by decide, by decide⟩ ⟨rfl, rfl⟩ 0 (by decide) rfl rfl (fun hI => cn_X6_mends X.2.1 Z ad hI s t g  er25) rfl dX6_does_158 rfl (Nat.le_of_ble_eq_true rfl) ?_
                  obtain ⟨rfl, rfl⟩ := gs2 h
                  exact g_iret C e dX6_does_161
abbrev rm_X6_perform : Room := ({ frames := 6, cells := 0, slots := 0, locals := 145 } : Room)
def f_X6_perform_L29 (t : Nat → Int32) (v1 : Int32) : Nat → Int32 → Int32 → (Nat → Int32) → (Nat → Int32) → Option (Int32 × (Nat → Int32) × (Nat → Int32))
  | 0, _, _, _, _ => none
  | fu + 1, v2, v3, s, g => if v3 = 0 then some (v2, s, g) else gbb2 (f_X6_readsOrder s t g) (fun r8 g9 => if r8 = 0 then gb (f_X6_flag 0) (fun r11 => glet (v2 + r11) (fun x12 => f_X6_perform_L29 t v1 fu x12 0 s g9)) else gb (f_X6_orderError s t g9) (fun r13 => if r13 = 0 then gbb2 (f_X6_does s t g9) (fun r17 s18 => gb (f_X6_flag 1) (fun r19 => glet (v2 + r19) (fun x20 => gbb2 (f_X6_takes s18 t g9 59) (fun r21 g22 => if r21 = 0 then f_X6_perform_L29 t v1 fu x20 0 s18 g22 else f_X6_perform_L29 t v1 fu x20 1 s18 g22)))) else gb (f_X6_flag 0) (fun r15 => glet (v2 + r15) (fun x16 => f_X6_perform_L29 t v1 fu x16 0 s g9))))
def f_X6_perform (s : Nat → Int32) (t : Nat → Int32) (g : Nat → Int32) : Option (Int32 × (Nat → Int32) × (Nat → Int32)) := gbb2 (f_X6_fault s t g) (fun r1 g2 => if r1 = (-5) then gbb2 (f_X6_records s t g2) (fun s4 g5 => glet (upd g5 3 0) (fun g6 => f_X6_perform_L29 t r1 gFu 0 1 s4 g6)) else some (((-100) - r1), s, g2))
set_option maxRecDepth 20000 in
theorem in_X6_perform : ∀ w ∈ wsX60, w ∈ wsX6_perform := by decide +kernel
set_option maxRecDepth 20000 in
theorem fl_X6_perform_148 : Cond.fieldLink RX6 148 (TX6 5).1 (TX6 5).2.1 (TX6 5).2.2.1 ∈ wsX6_perform := by decide +kernel
set_option maxHeartbeats 4000000 in
set_option maxRecDepth 100000 in
theorem cl_X6_perform_L29 {X : gX} {Z : gZ} {ad : Nat → Nat} {t : Nat → Int32} {r : Int32} {s' : Nat → Int32} {g' : Nat → Int32} (C : GC X Z cX6_perform 6 wsX6_perform RX6 rm_X6_perform 3 ad) (e : gEI X Z 3 ad .int r (mdlE Z.2.1 ad s' t g')) (v1 : Int32) : ∀ (fu : Nat) (v2 : Int32) (v3 : Int32) (s : Nat → Int32) (g : Nat → Int32) (h : f_X6_perform_L29 t v1 fu v2 v3 s g = some (r, s', g')), GG X Z 6 3 ad (mdlE Z.2.1 ad s t g) 29 [(0, .ref (ad 0)), (1, .int v1), (2, .int v2), (3, .int v3)] [] := by
  intro fu
  induction fu with
  | zero => intro v2 v3 s g h; cases h
  | succ fu ih =>
    intro v2 v3 s g h
    rw [f_X6_perform_L29] at h
    refine g_iload_n C dX6_perform_29 3 rfl ?_
    refine g_if_eq (tgt := 101) C dX6_perform_30 (by decide) (fun c7 => ?_) (fun c7 => ?_)
    · replace h := gi_pos c7 h
      refine g_iload_n C dX6_perform_101 2 rfl ?_
      obtain ⟨rfl, rfl, rfl⟩ := gs3 h
      exact g_iret C e dX6_perform_102
    · replace h := gi_neg c7 h
      refine g_aload_n C dX6_perform_33 0 rfl ?_
      obtain ⟨r8, g9, er8, h⟩ := gb2 h
      refine g_callWi (rest := []) C gX6_perform_X6_readsOrder rfl ok_X6_readsOrder ⟨by decide, by decide⟩ ⟨rfl, rfl⟩ 0 (by decide) rfl rfl (fun hI => cn_X6_readsOrder X.2.1 Z ad hI s t g  er8) rfl dX6_perform_34 rfl (Nat.le_of_ble_eq_true rfl) ?_
      refine g_if_eq (tgt := 51) C dX6_perform_37 (by decide) (fun c10 => ?_) (fun c10 => ?_)
      · replace h := gi_pos c10 h
        refine g_iconst (v := 0) C dX6_perform_51 (by decide) ?_
        refine g_istore C dX6_perform_52 (by decide) [(4, .int 0), (0, .ref (ad 0)), (1, .int v1), (2, .int v2), (3, .int v3)] rfl ?_
        refine g_iload C dX6_perform_54 0 rfl ?_
        refine g_if_eq (tgt := 66) C dX6_perform_56 (by decide) (fun _ => ?_) (fun hc => absurd (by decide) hc)
        refine g_bipush (v := (-5)) C dX6_perform_66 (by decide) ?_
        refine g_istore C dX6_perform_68 (by decide) [(5, .int (-5)), (4, .int 0), (0, .ref (ad 0)), (1, .int v1), (2, .int v2), (3, .int v3)] rfl ?_
        refine g_iload_n C dX6_perform_70 4 rfl ?_
        refine g_iload C dX6_perform_71 1 rfl ?_
        obtain ⟨r11, er11, h⟩ := gb1 h
        refine g_callSi (rest := [.int v2]) C gX6_perform_X6_flag rfl ok_X6_flag ⟨by decide, by decide⟩ ⟨rfl, rfl⟩ (cn_X6_flag X.2.1 Z 0 er11) rfl dX6_perform_73 rfl (Nat.le_of_ble_eq_true rfl) ?_
        refine g_iadd C dX6_perform_76 ?_
        obtain ⟨x12, ex12, h⟩ := gl h
        refine g_istore_n C dX6_perform_77 (by decide) [(2, .int x12), (5, .int (-5)), (4, .int 0), (0, .ref (ad 0)), (1, .int v1), (3, .int v3)] (by rw [ex12]; rfl) ?_
        refine g_iload C dX6_perform_78 2 rfl ?_
        refine g_if_eq (tgt := 96) C dX6_perform_80 (by decide) (fun _ => ?_) (fun hc => absurd (by decide) hc)
        refine g_iconst (v := 0) C dX6_perform_96 (by decide) ?_
        refine g_istore_n C dX6_perform_97 (by decide) [(3, .int 0), (2, .int x12), (5, .int (-5)), (4, .int 0), (0, .ref (ad 0)), (1, .int v1)] rfl ?_
        refine g_goto (tgt := 29) C dX6_perform_98 (by decide) ?_
        exact g_sub [4, 5, 1, 0] rfl (ih x12 0 s g9 h)
      · replace h := gi_neg c10 h
        refine g_aload_n C dX6_perform_40 0 rfl ?_
        obtain ⟨r13, er13, h⟩ := gb1 h
        refine g_callWi (rest := []) C gX6_perform_X6_orderError rfl ok_X6_orderError ⟨by decide, by decide⟩ ⟨rfl, rfl⟩ 0 (by decide) rfl rfl (fun hI => cn_X6_orderError X.2.1 Z ad hI s t g9  er13) rfl dX6_perform_41 rfl (Nat.le_of_ble_eq_true rfl) ?_
        refine g_if_ne (tgt := 51) C dX6_perform_44 (by decide) (fun c14 => ?_) (fun c14 => ?_)
        · replace h := gi_neg c14 h
          refine g_iconst (v := 0) C dX6_perform_51 (by decide) ?_
          refine g_istore C dX6_perform_52 (by decide) [(4, .int 0), (0, .ref (ad 0)), (1, .int v1), (2, .int v2), (3, .int v3)] rfl ?_
          refine g_iload C dX6_perform_54 0 rfl ?_
          refine g_if_eq (tgt := 66) C dX6_perform_56 (by decide) (fun _ => ?_) (fun hc => absurd (by decide) hc)
          refine g_bipush (v := (-5)) C dX6_perform_66 (by decide) ?_
          refine g_istore C dX6_perform_68 (by decide) [(5, .int (-5)), (4, .int 0), (0, .ref (ad 0)), (1, .int v1), (2, .int v2), (3, .int v3)] rfl ?_
          refine g_iload_n C dX6_perform_70 4 rfl ?_
          refine g_iload C dX6_perform_71 1 rfl ?_
          obtain ⟨r15, er15, h⟩ := gb1 h
          refine g_callSi (rest := [.int v2]) C gX6_perform_X6_flag rfl ok_X6_flag ⟨by decide, by decide⟩ ⟨rfl, rfl⟩ (cn_X6_flag X.2.1 Z 0 er15) rfl dX6_perform_73 rfl (Nat.le_of_ble_eq_true rfl) ?_
          refine g_iadd C dX6_perform_76 ?_
          obtain ⟨x16, ex16, h⟩ := gl h
          refine g_istore_n C dX6_perform_77 (by decide) [(2, .int x16), (5, .int (-5)), (4, .int 0), (0, .ref (ad 0)), (1, .int v1), (3, .int v3)] (by rw [ex16]; rfl) ?_
          refine g_iload C dX6_perform_78 2 rfl ?_
          refine g_if_eq (tgt := 96) C dX6_perform_80 (by decide) (fun _ => ?_) (fun hc => absurd (by decide) hc)
          refine g_iconst (v := 0) C dX6_perform_96 (by decide) ?_
          refine g_istore_n C dX6_perform_97 (by decide) [(3, .int 0), (2, .int x16), (5, .int (-5)), (4, .int 0), (0, .ref (ad 0)), (1, .int v1)] rfl ?_
          refine g_goto (tgt := 29) C dX6_perform_98 (by decide) ?_
          exact g_sub [4, 5, 1, 0] rfl (ih x16 0 s g9 h)
        · replace h := gi_pos c14 h
          refine g_iconst (v := 1) C dX6_perform_47 (by decide) ?_
          refine g_goto (tgt := 52) C dX6_perform_48 (by decide) ?_
          refine g_istore C dX6_perform_52 (by decide) [(4, .int 1), (0, .ref (ad 0)), (1, .int v1), (2, .int v2), (3, .int v3)] rfl ?_
          refine g_iload C dX6_perform_54 0 rfl ?_
          refine g_if_eq (tgt := 66) C dX6_perform_56 (by decide) (fun hc => absurd hc (by decide)) (fun _ => ?_)
          refine g_aload_n C dX6_perform_59 1 rfl ?_
          obtain ⟨r17, s18, er17, h⟩ := gb2 h
          refine g_callWi (rest := []) C gX6_perform_X6_does rfl ok_X6_does ⟨by decide, by decide⟩ ⟨rfl, rfl⟩ 0 (by decide) rfl rfl (fun hI => cn_X6_does X.2.1 Z ad hI s t g9  er17) rfl dX6_perform_60 rfl (Nat.le_of_ble_eq_true rfl) ?_
          refine g_goto (tgt := 68) C dX6_perform_63 (by decide) ?_
          refine g_istore C dX6_perform_68 (by decide) [(5, .int r17), (4, .int 1), (0, .ref (ad 0)), (1, .int v1), (2, .int v2), (3, .int v3)] rfl ?_
          refine g_iload_n C dX6_perform_70 4 rfl ?_
          refine g_iload C dX6_perform_71 1 rfl ?_
          obtain ⟨r19, er19, h⟩ := gb1 h
          refine g_callSi (rest := [.int v2]) C gX6_perform_X6_flag rfl ok_X6_flag ⟨by decide, by decide⟩ ⟨rfl, rfl⟩ (cn_X6_flag X.2.1 Z 1 er19) rfl dX6_perform_73 rfl (Nat.le_of_ble_eq_true rfl) ?_
          refine g_iadd C dX6_perform_76 ?_
          obtain ⟨x20, ex20, h⟩ := gl h
          refine g_istore_n C dX6_perform_77 (by decide) [(2, .int x20), (5, .int r17), (4, .int 1), (0, .ref (ad 0)), (1, .int v1), (3, .int v3)] (by rw [ex20]; rfl) ?_
          refine g_iload C dX6_perform_78 2 rfl ?_
          refine g_if_eq (tgt := 96) C dX6_perform_80 (by decide) (fun hc => absurd hc (by decide)) (fun _ => ?_)
          refine g_aload_n C dX6_perform_83 3 rfl ?_
          refine g_bipush (v := 59) C dX6_perform_84 (by decide) ?_
          obtain ⟨r21, g22, er21, h⟩ := gb2 h
          refine g_callWi (rest := []) C gX6_perform_X6_takes rfl ok_X6_takes ⟨by decide, by decide⟩ ⟨rfl, rfl⟩ 0 (by decide) rfl rfl (fun hI => cn_X6_takes X.2.1 Z ad hI s18 t g9 59 er21) rfl dX6_perform_86 rfl (Nat.le_of_ble_eq_true rfl) ?_
          refine g_if_eq (tgt := 96) C dX6_perform_89 (by decide) (fun c23 => ?_) (fun c23 => ?_)
          · replace h := gi_pos c23 h
            refine g_iconst (v := 0) C dX6_perform_96 (by decide) ?_
            refine g_istore_n C dX6_perform_97 (by decide) [(3, .int 0), (2, .int x20), (5, .int r17), (4, .int 1), (0, .ref (ad 0)), (1, .int v1)] rfl ?_
            refine g_goto (tgt := 29) C dX6_perform_98 (by decide) ?_
            exact g_sub [4, 5, 1, 0] rfl (ih x20 0 s18 g22 h)
          · replace h := gi_neg c23 h
            refine g_iconst (v := 1) C dX6_perform_92 (by decide) ?_
            refine g_goto (tgt := 97) C dX6_perform_93 (by decide) ?_
            refine g_istore_n C dX6_perform_97 (by decide) [(3, .int 1), (2, .int x20), (5, .int r17), (4, .int 1), (0, .ref (ad 0)), (1, .int v1)] rfl ?_
            refine g_goto (tgt := 29) C dX6_perform_98 (by decide) ?_
            exact g_sub [4, 5, 1, 0] rfl (ih x20 1 s18 g22 h)
set_option maxHeartbeats 4000000 in
set_option maxRecDepth 100000 in
theorem cn_X6_perform (l : Launch) (Z : gZ) (ad : Nat → Nat) (hI : gInj 3 ad) (s : Nat → Int32) (t : Nat → Int32) (g : Nat → Int32) {r : Int32} {s' : Nat → Int32} {g' : Nat → Int32} (h : f_X6_perform s t g = some (r, s', g')) : gI l yX6_perform wsX6_perform rm_X6_perform Z 3 ad [.ref (ad 0)] (mdlE Z.2.1 ad s t g) r (mdlE Z.2.1 ad s' t g') := by
  refine g_entryI (cc := cX6_perform) (maxL := 6) (by decide +kernel) rfl hI (Nat.le_of_ble_eq_true rfl) (fun X C e => ?_)
  unfold f_X6_perform at h
  show GG X Z 6 3 ad (mdlE Z.2.1 ad s t g) 0 [(0, .ref (ad 0))] []
  refine g_aload_n C dX6_perform_0 0 rfl ?_
  obtain ⟨r1, g2, er1, h⟩ := gb2 h
  refine g_callWi (rest := []) C gX6_perform_X6_fault rfl ok_X6_fault ⟨by decide, by decide⟩ ⟨rfl, rfl⟩ 0 (by decide) rfl rfl (fun hI => cn_X6_fault X.2.1 Z ad hI s t g  er1) rfl dX6_perform_1 rfl (Nat.le_of_ble_eq_true rfl) ?_
  refine g_istore_n C dX6_perform_4 (by decide) [(1, .int r1), (0, .ref (ad 0))] rfl ?_
  refine g_iload_n C dX6_perform_5 0 rfl ?_
  refine g_bipush (v := (-5)) C dX6_perform_6 (by decide) ?_
  refine g_icmp_eq (tgt := 16) C dX6_perform_8 (by decide) (fun c3 => ?_) (fun c3 => ?_)
  · replace h := gi_pos c3 h
    refine g_aload_n C dX6_perform_16 1 rfl ?_
    obtain ⟨s4, g5, es4, h⟩ := gb2 h
    refine g_callWv (rest := []) C gX6_perform_X6_records rfl ok_X6_records ⟨by decide, by decide⟩ ⟨rfl, rfl⟩ 0 (by decide) rfl rfl (fun hI => cn_X6_records X.2.1 Z ad hI s t g2  es4) rfl dX6_perform_17 rfl (Nat.le_of_ble_eq_true rfl) ?_
    refine g_aload_n C dX6_perform_20 1 rfl ?_
    refine g_iconst (v := 0) C dX6_perform_21 (by decide) ?_
    obtain ⟨g6, eg6, h⟩ := gl h
    refine g_putf C 0 (by decide) rfl rfl in_X6_perform tyX6 tyX6_ok nmX6 5 (by decide) fl_X6_perform_148 rfl rfl rfl (Nat.le_of_ble_eq_true rfl) dX6_perform_22 (mdlE Z.2.1 ad s4 t g6) (by rw [eg6]; exact mdlE_g3) ?_
    refine g_iconst (v := 0) C dX6_perform_25 (by decide) ?_
    refine g_istore_n C dX6_perform_26 (by decide) [(2, .int 0), (1, .int r1), (0, .ref (ad 0))] rfl ?_
    refine g_iconst (v := 1) C dX6_perform_27 (by decide) ?_
    refine g_istore_n C dX6_perform_28 (by decide) [(3, .int 1), (2, .int 0), (1, .int r1), (0, .ref (ad 0))] rfl ?_
    exact g_sub [3, 2, 1, 0] rfl (cl_X6_perform_L29 C e r1 gFu 0 1 s4 g6 h)
  · replace h := gi_neg c3 h
    refine g_bipush (v := (-100)) C dX6_perform_11 (by decide) ?_
    refine g_iload_n C dX6_perform_13 0 rfl ?_
    refine g_isub C dX6_perform_14 ?_
    obtain ⟨rfl, rfl, rfl⟩ := gs3 h
    exact g_iret C e dX6_perform_15
abbrev rm_X6_undo : Room := ({ frames := 1, cells := 0, slots := 0, locals := 23 } : Room)
def f_X6_undo (s : Nat → Int32) (t : Nat → Int32) (g : Nat → Int32) : Option (Int32 × (Nat → Int32) × (Nat → Int32)) := if (g 0) = 0 then some ((-5), s, g) else gb (f_X6_copies s t g (g 0) 0) (fun s2 => glet (upd g 0 ((g 0) - 1)) (fun g3 => some ((g3 0), s2, g3)))
set_option maxRecDepth 20000 in
theorem in_X6_undo : ∀ w ∈ wsX60, w ∈ wsX6_undo := by decide +kernel
set_option maxRecDepth 20000 in
theorem fl_X6_undo_16 : Cond.fieldLink RX6 16 (TX6 1).1 (TX6 1).2.1 (TX6 1).2.2.1 ∈ wsX6_undo := by decide +kernel
set_option maxHeartbeats 4000000 in
set_option maxRecDepth 100000 in
theorem cn_X6_undo (l : Launch) (Z : gZ) (ad : Nat → Nat) (hI : gInj 3 ad) (s : Nat → Int32) (t : Nat → Int32) (g : Nat → Int32) {r : Int32} {s' : Nat → Int32} {g' : Nat → Int32} (h : f_X6_undo s t g = some (r, s', g')) : gI l yX6_undo wsX6_undo rm_X6_undo Z 3 ad [.ref (ad 0)] (mdlE Z.2.1 ad s t g) r (mdlE Z.2.1 ad s' t g') := by
  refine g_entryI (cc := cX6_undo) (maxL := 1) (by decide +kernel) rfl hI (Nat.le_of_ble_eq_true rfl) (fun X C e => ?_)
  unfold f_X6_undo at h
  show GG X Z 1 3 ad (mdlE Z.2.1 ad s t g) 0 [(0, .ref (ad 0))] []
  refine g_aload_n C dX6_undo_0 0 rfl ?_
  refine g_getf (v := .int (g 0)) C 0 (by decide) rfl rfl in_X6_undo 1 (by decide) fl_X6_undo_16 rfl dX6_undo_1 ?_
  refine g_if_ne (tgt := 10) C dX6_undo_4 (by decide) (fun c1 => ?_) (fun c1 => ?_)
  · replace h := gi_neg c1 h
    refine g_aload_n C dX6_undo_10 0 rfl ?_
    refine g_aload_n C dX6_undo_11 0 rfl ?_
    refine g_getf (v := .int (g 0)) C 0 (by decide) rfl rfl in_X6_undo 1 (by decide) fl_X6_undo_16 rfl dX6_undo_12 ?_
    refine g_iconst (v := 0) C dX6_undo_15 (by decide) ?_
    obtain ⟨s2, es2, h⟩ := gb1 h
    refine g_callWv (rest := []) C gX6_undo_X6_copies rfl ok_X6_copies ⟨by decide, by decide⟩ ⟨rfl, rfl⟩ 0 (by decide) rfl rfl (fun hI => cn_X6_copies X.2.1 Z ad hI s t g (g 0) 0 es2) rfl dX6_undo_16 rfl (Nat.le_of_ble_eq_true rfl) ?_
    refine g_aload_n C dX6_undo_19 0 rfl ?_
    refine g_dup C dX6_undo_20 rfl ?_
    refine g_getf (v := .int (g 0)) C 0 (by decide) rfl rfl in_X6_undo 1 (by decide) fl_X6_undo_16 rfl dX6_undo_21 ?_
    refine g_iconst (v := 1) C dX6_undo_24 (by decide) ?_
    refine g_isub C dX6_undo_25 ?_
    obtain ⟨g3, eg3, h⟩ := gl h
    refine g_putf C 0 (by decide) rfl rfl in_X6_undo tyX6 tyX6_ok nmX6 1 (by decide) fl_X6_undo_16 rfl rfl rfl (Nat.le_of_ble_eq_true rfl) dX6_undo_26 (mdlE Z.2.1 ad s2 t g3) (by rw [eg3]; exact mdlE_g0) ?_
    refine g_aload_n C dX6_undo_29 0 rfl ?_
    refine g_getf (v := .int (g3 0)) C 0 (by decide) rfl rfl in_X6_undo 1 (by decide) fl_X6_undo_16 rfl dX6_undo_30 ?_
    obtain ⟨rfl, rfl, rfl⟩ := gs3 h
    exact g_iret C e dX6_undo_33
  · replace h := gi_pos c1 h
    refine g_bipush (v := (-5)) C dX6_undo_7 (by decide) ?_
    obtain ⟨rfl, rfl, rfl⟩ := gs3 h
    exact g_iret C e dX6_undo_9
abbrev rm_X6_save : Room := ({ frames := 2, cells := 0, slots := 0, locals := 45 } : Room)
def f_X6_save (s : Nat → Int32) (t : Nat → Int32) (g : Nat → Int32) : Option (Int32 × (Nat → Int32) × (Nat → Int32)) := gb (f_X6_copies s t g 0 6) (fun s1 => glet (upd g 1 1) (fun g2 => gb (f_X6_free s1 t g2 0) (fun r3 => some (r3, s1, g2))))
set_option maxRecDepth 20000 in
theorem in_X6_save : ∀ w ∈ wsX60, w ∈ wsX6_save := by decide +kernel
set_option maxRecDepth 20000 in
theorem fl_X6_save_194 : Cond.fieldLink RX6 194 (TX6 2).1 (TX6 2).2.1 (TX6 2).2.2.1 ∈ wsX6_save := by decide +kernel
set_option maxHeartbeats 4000000 in
set_option maxRecDepth 100000 in
theorem cn_X6_save (l : Launch) (Z : gZ) (ad : Nat → Nat) (hI : gInj 3 ad) (s : Nat → Int32) (t : Nat → Int32) (g : Nat → Int32) {r : Int32} {s' : Nat → Int32} {g' : Nat → Int32} (h : f_X6_save s t g = some (r, s', g')) : gI l yX6_save wsX6_save rm_X6_save Z 3 ad [.ref (ad 0)] (mdlE Z.2.1 ad s t g) r (mdlE Z.2.1 ad s' t g') := by
  refine g_entryI (cc := cX6_save) (maxL := 1) (by decide +kernel) rfl hI (Nat.le_of_ble_eq_true rfl) (fun X C e => ?_)
  unfold f_X6_save at h
  show GG X Z 1 3 ad (mdlE Z.2.1 ad s t g) 0 [(0, .ref (ad 0))] []
  refine g_aload_n C dX6_save_0 0 rfl ?_
  refine g_iconst (v := 0) C dX6_save_1 (by decide) ?_
  refine g_bipush (v := 6) C dX6_save_2 (by decide) ?_
  obtain ⟨s1, es1, h⟩ := gb1 h
  refine g_callWv (rest := []) C gX6_save_X6_copies rfl ok_X6_copies ⟨by decide, by decide⟩ ⟨rfl, rfl⟩ 0 (by decide) rfl rfl (fun hI => cn_X6_copies X.2.1 Z ad hI s t g 0 6 es1) rfl dX6_save_4 rfl (Nat.le_of_ble_eq_true rfl) ?_
  refine g_aload_n C dX6_save_7 0 rfl ?_
  refine g_iconst (v := 1) C dX6_save_8 (by decide) ?_
  obtain ⟨g2, eg2, h⟩ := gl h
  refine g_putf C 0 (by decide) rfl rfl in_X6_save tyX6 tyX6_ok nmX6 2 (by decide) fl_X6_save_194 rfl rfl rfl (Nat.le_of_ble_eq_true rfl) dX6_save_9 (mdlE Z.2.1 ad s1 t g2) (by rw [eg2]; exact mdlE_g1) ?_
  refine g_aload_n C dX6_save_12 0 rfl ?_
  refine g_iconst (v := 0) C dX6_save_13 (by decide) ?_
  obtain ⟨r3, er3, h⟩ := gb1 h
  refine g_callWi (rest := []) C gX6_save_X6_free rfl ok_X6_free ⟨by decide, by decide⟩ ⟨rfl, rfl⟩ 0 (by decide) rfl rfl (fun hI => cn_X6_free X.2.1 Z ad hI s1 t g2 0 er3) rfl dX6_save_14 rfl (Nat.le_of_ble_eq_true rfl) ?_
  obtain ⟨rfl, rfl, rfl⟩ := gs3 h
  exact g_iret C e dX6_save_17
abbrev rm_X6_restore : Room := ({ frames := 2, cells := 0, slots := 0, locals := 45 } : Room)
def f_X6_restore (s : Nat → Int32) (t : Nat → Int32) (g : Nat → Int32) : Option (Int32 × (Nat → Int32) × (Nat → Int32)) := if (g 1) = 0 then some ((-4), s, g) else gbb2 (f_X6_records s t g) (fun s2 g3 => gb (f_X6_copies s2 t g3 6 0) (fun s4 => gb (f_X6_free s4 t g3 0) (fun r5 => some (r5, s4, g3))))
set_option maxRecDepth 20000 in
theorem in_X6_restore : ∀ w ∈ wsX60, w ∈ wsX6_restore := by decide +kernel
set_option maxRecDepth 20000 in
theorem fl_X6_restore_194 : Cond.fieldLink RX6 194 (TX6 2).1 (TX6 2).2.1 (TX6 2).2.2.1 ∈ wsX6_restore := by decide +kernel
set_option maxHeartbeats 4000000 in
set_option maxRecDepth 100000 in
theorem cn_X6_restore (l : Launch) (Z : gZ) (ad : Nat → Nat) (hI : gInj 3 ad) (s : Nat → Int32) (t : Nat → Int32) (g : Nat → Int32) {r : Int32} {s' : Nat → Int32} {g' : Nat → Int32} (h : f_X6_restore s t g = some (r, s', g')) : gI l yX6_restore wsX6_restore rm_X6_restore Z 3 ad [.ref (ad 0)] (mdlE Z.2.1 ad s t g) r (mdlE Z.2.1 ad s' t g') := by
  refine g_entryI (cc := cX6_restore) (maxL := 1) (by decide +kernel) rfl hI (Nat.le_of_ble_eq_true rfl) (fun X C e => ?_)
  unfold f_X6_restore at h
  show GG X Z 1 3 ad (mdlE Z.2.1 ad s t g) 0 [(0, .ref (ad 0))] []
  refine g_aload_n C dX6_restore_0 0 rfl ?_
  refine g_getf (v := .int (g 1)) C 0 (by decide) rfl rfl in_X6_restore 2 (by decide) fl_X6_restore_194 rfl dX6_restore_1 ?_
  refine g_if_ne (tgt := 10) C dX6_restore_4 (by decide) (fun c1 => ?_) (fun c1 => ?_)
  · replace h := gi_neg c1 h
    refine g_aload_n C dX6_restore_10 0 rfl ?_
    obtain ⟨s2, g3, es2, h⟩ := gb2 h
    refine g_callWv (rest := []) C gX6_restore_X6_records rfl ok_X6_records ⟨by decide, by decide⟩ ⟨rfl, rfl⟩ 0 (by decide) rfl rfl (fun hI => cn_X6_records X.2.1 Z ad hI s t g  es2) rfl dX6_restore_11 rfl (Nat.le_of_ble_eq_true rfl) ?_
    refine g_aload_n C dX6_restore_14 0 rfl ?_
    refine g_bipush (v := 6) C dX6_restore_15 (by decide) ?_
    refine g_iconst (v := 0) C dX6_restore_17 (by decide) ?_
    obtain ⟨s4, es4, h⟩ := gb1 h
    refine g_callWv (rest := []) C gX6_restore_X6_copies rfl ok_X6_copies ⟨by decide, by decide⟩ ⟨rfl, rfl⟩ 0 (by decide) rfl rfl (fun hI => cn_X6_copies X.2.1 Z ad hI s2 t g3 6 0 es4) rfl dX6_restore_18 rfl (Nat.le_of_ble_eq_true rfl) ?_
    refine g_aload_n C dX6_restore_21 0 rfl ?_
    refine g_iconst (v := 0) C dX6_restore_22 (by decide) ?_
    obtain ⟨r5, er5, h⟩ := gb1 h
    refine g_callWi (rest := []) C gX6_restore_X6_free rfl ok_X6_free ⟨by decide, by decide⟩ ⟨rfl, rfl⟩ 0 (by decide) rfl rfl (fun hI => cn_X6_free X.2.1 Z ad hI s4 t g3 0 er5) rfl dX6_restore_23 rfl (Nat.le_of_ble_eq_true rfl) ?_
    obtain ⟨rfl, rfl, rfl⟩ := gs3 h
    exact g_iret C e dX6_restore_26
  · replace h := gi_pos c1 h
    refine g_bipush (v := (-4)) C dX6_restore_7 (by decide) ?_
    obtain ⟨rfl, rfl, rfl⟩ := gs3 h
    exact g_iret C e dX6_restore_9
