theorem ok_X6_hasData : gOk yX6_hasData RX6 1 := by refine ⟨?_, ?_, ?_, ?_⟩ <;> decide +kernel
theorem ok_X6_block : gOk yX6_block RX6 2 := by refine ⟨?_, ?_, ?_, ?_⟩ <;> decide +kernel
theorem ok_X6_file : gOk yX6_file RX6 2 := by refine ⟨?_, ?_, ?_, ?_⟩ <;> decide +kernel
theorem ok_X6_extent : gOk yX6_extent RX6 3 := by refine ⟨?_, ?_, ?_, ?_⟩ <;> decide +kernel
theorem ok_X6_run : gOk yX6_run RX6 2 := by refine ⟨?_, ?_, ?_, ?_⟩ <;> decide +kernel
theorem ok_X6_read : gOk yX6_read RX6 4 := by refine ⟨?_, ?_, ?_, ?_⟩ <;> decide +kernel
theorem ok_X6_allExtents : gOk yX6_allExtents RX6 0 := by refine ⟨?_, ?_, ?_, ?_⟩ <;> decide +kernel
theorem ok_X6_lentOfClosed : gOk yX6_lentOfClosed RX6 0 := by refine ⟨?_, ?_, ?_, ?_⟩ <;> decide +kernel
theorem ok_X6_runs : gOk yX6_runs RX6 1 := by refine ⟨?_, ?_, ?_, ?_⟩ <;> decide +kernel
theorem ok_X6_count : gOk yX6_count RX6 1 := by refine ⟨?_, ?_, ?_, ?_⟩ <;> decide +kernel
theorem ok_X6_total : gOk yX6_total RX6 1 := by refine ⟨?_, ?_, ?_, ?_⟩ <;> decide +kernel
theorem ok_X6_ifAppended : gOk yX6_ifAppended RX6 3 := by refine ⟨?_, ?_, ?_, ?_⟩ <;> decide +kernel
theorem ok_X6_room : gOk yX6_room RX6 1 := by refine ⟨?_, ?_, ?_, ?_⟩ <;> decide +kernel
abbrev rm_X6_hasData : Room := ({ frames := 1, cells := 0, slots := 0, locals := 22 } : Room)
def f_X6_hasData (s : Nat → Int32) (t : Nat → Int32) (g : Nat → Int32) (v1 : Int32) : Option Int32 := gb (f_X6_isFree s t g 0 v1) (fun r1 => if r1 = 0 then if 0 ≤ (128 + v1) ∧ ((128 + v1)).toNatClampNeg < 1968 then if 0 ≤ (64 + v1) ∧ ((64 + v1)).toNatClampNeg < 1968 then gb (f_X6_at 0 (s ((64 + v1)).toNatClampNeg)) (fun r3 => if 0 ≤ (r3 + 2) ∧ ((r3 + 2)).toNatClampNeg < 1968 then if (s ((r3 + 2)).toNatClampNeg) ≤ (s ((128 + v1)).toNatClampNeg) then some 0 else some 1 else none) else none else none else some 0)
set_option maxRecDepth 20000 in
theorem in_X6_hasData : ∀ w ∈ wsX60, w ∈ wsX6_hasData := by decide +kernel
set_option maxRecDepth 20000 in
theorem fl_X6_hasData_7 : Cond.fieldLink RX6 7 (TX6 0).1 (TX6 0).2.1 (TX6 0).2.2.1 ∈ wsX6_hasData := by decide +kernel
set_option maxHeartbeats 4000000 in
set_option maxRecDepth 100000 in
theorem cn_X6_hasData (l : Launch) (Z : gZ) (ad : Nat → Nat) (hI : gInj 3 ad) (s : Nat → Int32) (t : Nat → Int32) (g : Nat → Int32) (v1 : Int32) {r : Int32} (h : f_X6_hasData s t g v1 = some r) : gI l yX6_hasData wsX6_hasData rm_X6_hasData Z 3 ad [.ref (ad 0), .int v1] (mdlE Z.2.1 ad s t g) r (mdlE Z.2.1 ad s t g) := by
  refine g_entryI (cc := cX6_hasData) (maxL := 2) (by decide +kernel) rfl hI (Nat.le_of_ble_eq_true rfl) (fun X C e => ?_)
  unfold f_X6_hasData at h
  show GG X Z 2 3 ad (mdlE Z.2.1 ad s t g) 0 [(0, .ref (ad 0)), (1, .int v1)] []
  refine g_aload_n C dX6_hasData_0 0 rfl ?_
  refine g_iconst (v := 0) C dX6_hasData_1 (by decide) ?_
  refine g_iload_n C dX6_hasData_2 1 rfl ?_
  obtain ⟨r1, er1, h⟩ := gb1 h
  refine g_callWi (rest := []) C gX6_hasData_X6_isFree rfl ok_X6_isFree ⟨by decide, by decide⟩ ⟨rfl, rfl⟩ 0 (by decide) rfl rfl (fun hI => cn_X6_isFree X.2.1 Z ad hI s t g 0 v1 er1) rfl dX6_hasData_3 rfl (Nat.le_of_ble_eq_true rfl) ?_
  refine g_if_ne (tgt := 46) C dX6_hasData_6 (by decide) (fun c2 => ?_) (fun c2 => ?_)
  · replace h := gi_neg c2 h
    refine g_iconst (v := 0) C dX6_hasData_46 (by decide) ?_
    obtain rfl := gs1 h
    exact g_zret C e rfl dX6_hasData_47
  · replace h := gi_pos c2 h
    refine g_aload_n C dX6_hasData_9 0 rfl ?_
    refine g_getf (v := .ref (ad 1)) C 0 (by decide) rfl rfl in_X6_hasData 0 (by decide) fl_X6_hasData_7 rfl dX6_hasData_10 ?_
    refine g_sipush (v := 128) C dX6_hasData_13 (by decide) ?_
    refine g_iload_n C dX6_hasData_16 1 rfl ?_
    refine g_iadd C dX6_hasData_17 ?_
    obtain ⟨b7, h⟩ := gguard h
    refine g_iald C 1 (by decide) rfl (g_in b7) dX6_hasData_18 ?_
    refine g_aload_n C dX6_hasData_19 0 rfl ?_
    refine g_getf (v := .ref (ad 1)) C 0 (by decide) rfl rfl in_X6_hasData 0 (by decide) fl_X6_hasData_7 rfl dX6_hasData_20 ?_
    refine g_iconst (v := 0) C dX6_hasData_23 (by decide) ?_
    refine g_aload_n C dX6_hasData_24 0 rfl ?_
    refine g_getf (v := .ref (ad 1)) C 0 (by decide) rfl rfl in_X6_hasData 0 (by decide) fl_X6_hasData_7 rfl dX6_hasData_25 ?_
    refine g_bipush (v := 64) C dX6_hasData_28 (by decide) ?_
    refine g_iload_n C dX6_hasData_30 1 rfl ?_
    refine g_iadd C dX6_hasData_31 ?_
    obtain ⟨b6, h⟩ := gguard h
    refine g_iald C 1 (by decide) rfl (g_in b6) dX6_hasData_32 ?_
    obtain ⟨r3, er3, h⟩ := gb1 h
    refine g_callSi (rest := [.ref (ad 1), .int (s ((128 + v1)).toNatClampNeg)]) C gX6_hasData_X6_at rfl ok_X6_at ⟨by decide, by decide⟩ ⟨rfl, rfl⟩ (cn_X6_at X.2.1 Z 0 (s ((64 + v1)).toNatClampNeg) er3) rfl dX6_hasData_33 rfl (Nat.le_of_ble_eq_true rfl) ?_
    refine g_iconst (v := 2) C dX6_hasData_36 (by decide) ?_
    refine g_iadd C dX6_hasData_37 ?_
    obtain ⟨b5, h⟩ := gguard h
    refine g_iald C 1 (by decide) rfl (g_in b5) dX6_hasData_38 ?_
    refine g_icmp_ge (tgt := 46) C dX6_hasData_39 (by decide) (fun c4 => ?_) (fun c4 => ?_)
    · replace h := gi_pos c4 h
      refine g_iconst (v := 0) C dX6_hasData_46 (by decide) ?_
      obtain rfl := gs1 h
      exact g_zret C e rfl dX6_hasData_47
    · replace h := gi_neg c4 h
      refine g_iconst (v := 1) C dX6_hasData_42 (by decide) ?_
      refine g_goto (tgt := 47) C dX6_hasData_43 (by decide) ?_
      obtain rfl := gs1 h
      exact g_zret C e rfl dX6_hasData_47
abbrev rm_X6_block : Room := ({ frames := 2, cells := 0, slots := 0, locals := 43 } : Room)
def f_X6_block (s : Nat → Int32) (t : Nat → Int32) (g : Nat → Int32) (v1 : Int32) (v2 : Int32) : Option Int32 := gb (f_X6_in v1 0 63) (fun r1 => if r1 = 0 then some (-1) else if v2 = 0 then if 0 ≤ (64 + v1) ∧ ((64 + v1)).toNatClampNeg < 1968 then some (s ((64 + v1)).toNatClampNeg) else none else if v2 = 1 then gb (f_X6_isFree s t g 0 v1) (fun r6 => if r6 = 0 then gb (f_X6_hasData s t g v1) (fun r8 => if r8 = 0 then some 2 else some 1) else some 0) else if v2 = 2 then gb (f_X6_isFree s t g 0 v1) (fun r11 => if r11 = 0 then if 0 ≤ (128 + v1) ∧ ((128 + v1)).toNatClampNeg < 1968 then some (s ((128 + v1)).toNatClampNeg) else none else some (-5)) else if v2 = 3 then if 0 ≤ v1 ∧ (v1).toNatClampNeg < 1968 then some (s (v1).toNatClampNeg) else none else some (-2))
set_option maxRecDepth 20000 in
theorem in_X6_block : ∀ w ∈ wsX60, w ∈ wsX6_block := by decide +kernel
set_option maxRecDepth 20000 in
theorem fl_X6_block_7 : Cond.fieldLink RX6 7 (TX6 0).1 (TX6 0).2.1 (TX6 0).2.2.1 ∈ wsX6_block := by decide +kernel
set_option maxHeartbeats 4000000 in
set_option maxRecDepth 100000 in
theorem cn_X6_block (l : Launch) (Z : gZ) (ad : Nat → Nat) (hI : gInj 3 ad) (s : Nat → Int32) (t : Nat → Int32) (g : Nat → Int32) (v1 : Int32) (v2 : Int32) {r : Int32} (h : f_X6_block s t g v1 v2 = some r) : gI l yX6_block wsX6_block rm_X6_block Z 3 ad [.ref (ad 0), .int v1, .int v2] (mdlE Z.2.1 ad s t g) r (mdlE Z.2.1 ad s t g) := by
  refine g_entryI (cc := cX6_block) (maxL := 3) (by decide +kernel) rfl hI (Nat.le_of_ble_eq_true rfl) (fun X C e => ?_)
  unfold f_X6_block at h
  show GG X Z 3 3 ad (mdlE Z.2.1 ad s t g) 0 [(0, .ref (ad 0)), (1, .int v1), (2, .int v2)] []
  refine g_iload_n C dX6_block_0 1 rfl ?_
  refine g_iconst (v := 0) C dX6_block_1 (by decide) ?_
  refine g_bipush (v := 63) C dX6_block_2 (by decide) ?_
  obtain ⟨r1, er1, h⟩ := gb1 h
  refine g_callSi (rest := []) C gX6_block_X6_in rfl ok_X6_in ⟨by decide, by decide⟩ ⟨rfl, rfl⟩ (cn_X6_in X.2.1 Z v1 0 63 er1) rfl dX6_block_4 rfl (Nat.le_of_ble_eq_true rfl) ?_
  refine g_if_ne (tgt := 12) C dX6_block_7 (by decide) (fun c2 => ?_) (fun c2 => ?_)
  · replace h := gi_neg c2 h
    refine g_iload_n C dX6_block_12 2 rfl ?_
    by_cases c3 : v2 = 0
    · replace h := gi_pos c3 h
      refine g_tableIn (tgt := 44) (off := 31) C 0 c3 dX6_block_13 (by decide) (by decide) (by decide) (by decide) ?_
      refine g_aload_n C dX6_block_44 0 rfl ?_
      refine g_getf (v := .ref (ad 1)) C 0 (by decide) rfl rfl in_X6_block 0 (by decide) fl_X6_block_7 rfl dX6_block_45 ?_
      refine g_bipush (v := 64) C dX6_block_48 (by decide) ?_
      refine g_iload_n C dX6_block_50 1 rfl ?_
      refine g_iadd C dX6_block_51 ?_
      obtain ⟨b4, h⟩ := gguard h
      refine g_iald C 1 (by decide) rfl (g_in b4) dX6_block_52 ?_
      obtain rfl := gs1 h
      exact g_iret C e dX6_block_53
    · replace h := gi_neg c3 h
      by_cases c5 : v2 = 1
      · replace h := gi_pos c5 h
        refine g_tableIn (tgt := 54) (off := 41) C 1 c5 dX6_block_13 (by decide) (by decide) (by decide) (by decide) ?_
        refine g_aload_n C dX6_block_54 0 rfl ?_
        refine g_iconst (v := 0) C dX6_block_55 (by decide) ?_
        refine g_iload_n C dX6_block_56 1 rfl ?_
        obtain ⟨r6, er6, h⟩ := gb1 h
        refine g_callWi (rest := []) C gX6_block_X6_isFree rfl ok_X6_isFree ⟨by decide, by decide⟩ ⟨rfl, rfl⟩ 0 (by decide) rfl rfl (fun hI => cn_X6_isFree X.2.1 Z ad hI s t g 0 v1 er6) rfl dX6_block_57 rfl (Nat.le_of_ble_eq_true rfl) ?_
        refine g_if_eq (tgt := 67) C dX6_block_60 (by decide) (fun c7 => ?_) (fun c7 => ?_)
        · replace h := gi_pos c7 h
          refine g_aload_n C dX6_block_67 0 rfl ?_
          refine g_iload_n C dX6_block_68 1 rfl ?_
          obtain ⟨r8, er8, h⟩ := gb1 h
          refine g_callWi (rest := []) C gX6_block_X6_hasData rfl ok_X6_hasData ⟨by decide, by decide⟩ ⟨rfl, rfl⟩ 0 (by decide) rfl rfl (fun hI => cn_X6_hasData X.2.1 Z ad hI s t g v1 er8) rfl dX6_block_69 rfl (Nat.le_of_ble_eq_true rfl) ?_
          refine g_if_eq (tgt := 79) C dX6_block_72 (by decide) (fun c9 => ?_) (fun c9 => ?_)
          · replace h := gi_pos c9 h
            refine g_iconst (v := 2) C dX6_block_79 (by decide) ?_
            obtain rfl := gs1 h
            exact g_iret C e dX6_block_80
          · replace h := gi_neg c9 h
            refine g_iconst (v := 1) C dX6_block_75 (by decide) ?_
            refine g_goto (tgt := 80) C dX6_block_76 (by decide) ?_
            obtain rfl := gs1 h
            exact g_iret C e dX6_block_80
        · replace h := gi_neg c7 h
          refine g_iconst (v := 0) C dX6_block_63 (by decide) ?_
          refine g_goto (tgt := 80) C dX6_block_64 (by decide) ?_
          obtain rfl := gs1 h
          exact g_iret C e dX6_block_80
      · replace h := gi_neg c5 h
        by_cases c10 : v2 = 2
        · replace h := gi_pos c10 h
          refine g_tableIn (tgt := 81) (off := 68) C 2 c10 dX6_block_13 (by decide) (by decide) (by decide) (by decide) ?_
          refine g_aload_n C dX6_block_81 0 rfl ?_
          refine g_iconst (v := 0) C dX6_block_82 (by decide) ?_
          refine g_iload_n C dX6_block_83 1 rfl ?_
          obtain ⟨r11, er11, h⟩ := gb1 h
          refine g_callWi (rest := []) C gX6_block_X6_isFree rfl ok_X6_isFree ⟨by decide, by decide⟩ ⟨rfl, rfl⟩ 0 (by decide) rfl rfl (fun hI => cn_X6_isFree X.2.1 Z ad hI s t g 0 v1 er11) rfl dX6_block_84 rfl (Nat.le_of_ble_eq_true rfl) ?_
          refine g_if_eq (tgt := 95) C dX6_block_87 (by decide) (fun c12 => ?_) (fun c12 => ?_)
          · replace h := gi_pos c12 h
            refine g_aload_n C dX6_block_95 0 rfl ?_
            refine g_getf (v := .ref (ad 1)) C 0 (by decide) rfl rfl in_X6_block 0 (by decide) fl_X6_block_7 rfl dX6_block_96 ?_
            refine g_sipush (v := 128) C dX6_block_99 (by decide) ?_
            refine g_iload_n C dX6_block_102 1 rfl ?_
            refine g_iadd C dX6_block_103 ?_
            obtain ⟨b13, h⟩ := gguard h
            refine g_iald C 1 (by decide) rfl (g_in b13) dX6_block_104 ?_
            obtain rfl := gs1 h
            exact g_iret C e dX6_block_105
          · replace h := gi_neg c12 h
            refine g_bipush (v := (-5)) C dX6_block_90 (by decide) ?_
            refine g_goto (tgt := 105) C dX6_block_92 (by decide) ?_
            obtain rfl := gs1 h
            exact g_iret C e dX6_block_105
        · replace h := gi_neg c10 h
          by_cases c14 : v2 = 3
          · replace h := gi_pos c14 h
            refine g_tableIn (tgt := 106) (off := 93) C 3 c14 dX6_block_13 (by decide) (by decide) (by decide) (by decide) ?_
            refine g_aload_n C dX6_block_106 0 rfl ?_
            refine g_getf (v := .ref (ad 1)) C 0 (by decide) rfl rfl in_X6_block 0 (by decide) fl_X6_block_7 rfl dX6_block_107 ?_
            refine g_iload_n C dX6_block_110 1 rfl ?_
            obtain ⟨b15, h⟩ := gguard h
            refine g_iald C 1 (by decide) rfl (g_in b15) dX6_block_111 ?_
            obtain rfl := gs1 h
            exact g_iret C e dX6_block_112
          · replace h := gi_neg c14 h
            refine g_tableOut (tgt := 113) C dX6_block_13 (by have nc3 := g_ne (a := 0) c3 (by decide); have nc5 := g_ne (a := 1) c5 (by decide); have nc10 := g_ne (a := 2) c10 (by decide); have nc14 := g_ne (a := 3) c14 (by decide); omega) (by decide) ?_
            refine g_bipush (v := (-2)) C dX6_block_113 (by decide) ?_
            obtain rfl := gs1 h
            exact g_iret C e dX6_block_115
  · replace h := gi_pos c2 h
    refine g_iconst (v := (-1)) C dX6_block_10 (by decide) ?_
    obtain rfl := gs1 h
    exact g_iret C e dX6_block_11
abbrev rm_X6_file : Room := ({ frames := 2, cells := 0, slots := 0, locals := 51 } : Room)
def f_X6_file (s : Nat → Int32) (t : Nat → Int32) (g : Nat → Int32) (v1 : Int32) (v2 : Int32) : Option Int32 := gb (f_X6_isThere s t g v1) (fun r1 => if r1 = 0 then some (-1) else if v2 = 0 then gb (f_X6_at 0 v1) (fun r4 => if 0 ≤ (r4 + 2) ∧ ((r4 + 2)).toNatClampNeg < 1968 then some (s ((r4 + 2)).toNatClampNeg) else none) else if v2 = 1 then gb (f_X6_lent s t g 0 v1) (fun r7 => some r7) else if v2 = 2 then gb (f_X6_at 0 v1) (fun r9 => if 0 ≤ (r9 + 3) ∧ ((r9 + 3)).toNatClampNeg < 1968 then some (s ((r9 + 3)).toNatClampNeg) else none) else if v2 = 3 then gb (f_X6_at 0 v1) (fun r12 => if 0 ≤ (r12 + 4) ∧ ((r12 + 4)).toNatClampNeg < 1968 then some (s ((r12 + 4)).toNatClampNeg) else none) else if v2 = 4 then gb (f_X6_extents s t g 0 v1) (fun r15 => some r15) else if v2 = 5 then gb (f_X6_at 0 v1) (fun r17 => if 0 ≤ (r17 + 5) ∧ ((r17 + 5)).toNatClampNeg < 1968 then some (s ((r17 + 5)).toNatClampNeg) else none) else some (-2))
set_option maxRecDepth 20000 in
theorem in_X6_file : ∀ w ∈ wsX60, w ∈ wsX6_file := by decide +kernel
set_option maxRecDepth 20000 in
theorem fl_X6_file_7 : Cond.fieldLink RX6 7 (TX6 0).1 (TX6 0).2.1 (TX6 0).2.2.1 ∈ wsX6_file := by decide +kernel
set_option maxHeartbeats 4000000 in
set_option maxRecDepth 100000 in
theorem cn_X6_file (l : Launch) (Z : gZ) (ad : Nat → Nat) (hI : gInj 3 ad) (s : Nat → Int32) (t : Nat → Int32) (g : Nat → Int32) (v1 : Int32) (v2 : Int32) {r : Int32} (h : f_X6_file s t g v1 v2 = some r) : gI l yX6_file wsX6_file rm_X6_file Z 3 ad [.ref (ad 0), .int v1, .int v2] (mdlE Z.2.1 ad s t g) r (mdlE Z.2.1 ad s t g) := by
  refine g_entryI (cc := cX6_file) (maxL := 3) (by decide +kernel) rfl hI (Nat.le_of_ble_eq_true rfl) (fun X C e => ?_)
  unfold f_X6_file at h
  show GG X Z 3 3 ad (mdlE Z.2.1 ad s t g) 0 [(0, .ref (ad 0)), (1, .int v1), (2, .int v2)] []
  refine g_aload_n C dX6_file_0 0 rfl ?_
  refine g_iload_n C dX6_file_1 1 rfl ?_
  obtain ⟨r1, er1, h⟩ := gb1 h
  refine g_callWi (rest := []) C gX6_file_X6_isThere rfl ok_X6_isThere ⟨by decide, by decide⟩ ⟨rfl, rfl⟩ 0 (by decide) rfl rfl (fun hI => cn_X6_isThere X.2.1 Z ad hI s t g v1 er1) rfl dX6_file_2 rfl (Nat.le_of_ble_eq_true rfl) ?_
  refine g_if_ne (tgt := 10) C dX6_file_5 (by decide) (fun c2 => ?_) (fun c2 => ?_)
  · replace h := gi_neg c2 h
    refine g_iload_n C dX6_file_10 2 rfl ?_
    by_cases c3 : v2 = 0
    · replace h := gi_pos c3 h
      refine g_tableIn (tgt := 48) (off := 37) C 0 c3 dX6_file_11 (by decide) (by decide) (by decide) (by decide) ?_
      refine g_aload_n C dX6_file_48 0 rfl ?_
      refine g_getf (v := .ref (ad 1)) C 0 (by decide) rfl rfl in_X6_file 0 (by decide) fl_X6_file_7 rfl dX6_file_49 ?_
      refine g_iconst (v := 0) C dX6_file_52 (by decide) ?_
      refine g_iload_n C dX6_file_53 1 rfl ?_
      obtain ⟨r4, er4, h⟩ := gb1 h
      refine g_callSi (rest := [.ref (ad 1)]) C gX6_file_X6_at rfl ok_X6_at ⟨by decide, by decide⟩ ⟨rfl, rfl⟩ (cn_X6_at X.2.1 Z 0 v1 er4) rfl dX6_file_54 rfl (Nat.le_of_ble_eq_true rfl) ?_
      refine g_iconst (v := 2) C dX6_file_57 (by decide) ?_
      refine g_iadd C dX6_file_58 ?_
      obtain ⟨b5, h⟩ := gguard h
      refine g_iald C 1 (by decide) rfl (g_in b5) dX6_file_59 ?_
      obtain rfl := gs1 h
      exact g_iret C e dX6_file_60
    · replace h := gi_neg c3 h
      by_cases c6 : v2 = 1
      · replace h := gi_pos c6 h
        refine g_tableIn (tgt := 61) (off := 50) C 1 c6 dX6_file_11 (by decide) (by decide) (by decide) (by decide) ?_
        refine g_aload_n C dX6_file_61 0 rfl ?_
        refine g_iconst (v := 0) C dX6_file_62 (by decide) ?_
        refine g_iload_n C dX6_file_63 1 rfl ?_
        obtain ⟨r7, er7, h⟩ := gb1 h
        refine g_callWi (rest := []) C gX6_file_X6_lent rfl ok_X6_lent ⟨by decide, by decide⟩ ⟨rfl, rfl⟩ 0 (by decide) rfl rfl (fun hI => cn_X6_lent X.2.1 Z ad hI s t g 0 v1 er7) rfl dX6_file_64 rfl (Nat.le_of_ble_eq_true rfl) ?_
        obtain rfl := gs1 h
        exact g_iret C e dX6_file_67
      · replace h := gi_neg c6 h
        by_cases c8 : v2 = 2
        · replace h := gi_pos c8 h
          refine g_tableIn (tgt := 68) (off := 57) C 2 c8 dX6_file_11 (by decide) (by decide) (by decide) (by decide) ?_
          refine g_aload_n C dX6_file_68 0 rfl ?_
          refine g_getf (v := .ref (ad 1)) C 0 (by decide) rfl rfl in_X6_file 0 (by decide) fl_X6_file_7 rfl dX6_file_69 ?_
          refine g_iconst (v := 0) C dX6_file_72 (by decide) ?_
          refine g_iload_n C dX6_file_73 1 rfl ?_
          obtain ⟨r9, er9, h⟩ := gb1 h
          refine g_callSi (rest := [.ref (ad 1)]) C gX6_file_X6_at rfl ok_X6_at ⟨by decide, by decide⟩ ⟨rfl, rfl⟩ (cn_X6_at X.2.1 Z 0 v1 er9) rfl dX6_file_74 rfl (Nat.le_of_ble_eq_true rfl) ?_
          refine g_iconst (v := 3) C dX6_file_77 (by decide) ?_
          refine g_iadd C dX6_file_78 ?_
          obtain ⟨b10, h⟩ := gguard h
          refine g_iald C 1 (by decide) rfl (g_in b10) dX6_file_79 ?_
          obtain rfl := gs1 h
          exact g_iret C e dX6_file_80
        · replace h := gi_neg c8 h
          by_cases c11 : v2 = 3
          · replace h := gi_pos c11 h
            refine g_tableIn (tgt := 81) (off := 70) C 3 c11 dX6_file_11 (by decide) (by decide) (by decide) (by decide) ?_
            refine g_aload_n C dX6_file_81 0 rfl ?_
            refine g_getf (v := .ref (ad 1)) C 0 (by decide) rfl rfl in_X6_file 0 (by decide) fl_X6_file_7 rfl dX6_file_82 ?_
            refine g_iconst (v := 0) C dX6_file_85 (by decide) ?_
            refine g_iload_n C dX6_file_86 1 rfl ?_
            obtain ⟨r12, er12, h⟩ := gb1 h
            refine g_callSi (rest := [.ref (ad 1)]) C gX6_file_X6_at rfl ok_X6_at ⟨by decide, by decide⟩ ⟨rfl, rfl⟩ (cn_X6_at X.2.1 Z 0 v1 er12) rfl dX6_file_87 rfl (Nat.le_of_ble_eq_true rfl) ?_
            refine g_iconst (v := 4) C dX6_file_90 (by decide) ?_
            refine g_iadd C dX6_file_91 ?_
            obtain ⟨b13, h⟩ := gguard h
            refine g_iald C 1 (by decide) rfl (g_in b13) dX6_file_92 ?_
            obtain rfl := gs1 h
            exact g_iret C e dX6_file_93
          · replace h := gi_neg c11 h
            by_cases c14 : v2 = 4
            · replace h := gi_pos c14 h
              refine g_tableIn (tgt := 94) (off := 83) C 4 c14 dX6_file_11 (by decide) (by decide) (by decide) (by decide) ?_
              refine g_aload_n C dX6_file_94 0 rfl ?_
              refine g_iconst (v := 0) C dX6_file_95 (by decide) ?_
              refine g_iload_n C dX6_file_96 1 rfl ?_
              obtain ⟨r15, er15, h⟩ := gb1 h
              refine g_callWi (rest := []) C gX6_file_X6_extents rfl ok_X6_extents ⟨by decide, by decide⟩ ⟨rfl, rfl⟩ 0 (by decide) rfl rfl (fun hI => cn_X6_extents X.2.1 Z ad hI s t g 0 v1 er15) rfl dX6_file_97 rfl (Nat.le_of_ble_eq_true rfl) ?_
              obtain rfl := gs1 h
              exact g_iret C e dX6_file_100
            · replace h := gi_neg c14 h
              by_cases c16 : v2 = 5
              · replace h := gi_pos c16 h
                refine g_tableIn (tgt := 101) (off := 90) C 5 c16 dX6_file_11 (by decide) (by decide) (by decide) (by decide) ?_
                refine g_aload_n C dX6_file_101 0 rfl ?_
                refine g_getf (v := .ref (ad 1)) C 0 (by decide) rfl rfl in_X6_file 0 (by decide) fl_X6_file_7 rfl dX6_file_102 ?_
                refine g_iconst (v := 0) C dX6_file_105 (by decide) ?_
                refine g_iload_n C dX6_file_106 1 rfl ?_
                obtain ⟨r17, er17, h⟩ := gb1 h
                refine g_callSi (rest := [.ref (ad 1)]) C gX6_file_X6_at rfl ok_X6_at ⟨by decide, by decide⟩ ⟨rfl, rfl⟩ (cn_X6_at X.2.1 Z 0 v1 er17) rfl dX6_file_107 rfl (Nat.le_of_ble_eq_true rfl) ?_
                refine g_iconst (v := 5) C dX6_file_110 (by decide) ?_
                refine g_iadd C dX6_file_111 ?_
                obtain ⟨b18, h⟩ := gguard h
                refine g_iald C 1 (by decide) rfl (g_in b18) dX6_file_112 ?_
                obtain rfl := gs1 h
                exact g_iret C e dX6_file_113
              · replace h := gi_neg c16 h
                refine g_tableOut (tgt := 114) C dX6_file_11 (by have nc3 := g_ne (a := 0) c3 (by decide); have nc6 := g_ne (a := 1) c6 (by decide); have nc8 := g_ne (a := 2) c8 (by decide); have nc11 := g_ne (a := 3) c11 (by decide); have nc14 := g_ne (a := 4) c14 (by decide); have nc16 := g_ne (a := 5) c16 (by decide); omega) (by decide) ?_
                refine g_bipush (v := (-2)) C dX6_file_114 (by decide) ?_
                obtain rfl := gs1 h
                exact g_iret C e dX6_file_116
  · replace h := gi_pos c2 h
    refine g_iconst (v := (-1)) C dX6_file_8 (by decide) ?_
    obtain rfl := gs1 h
    exact g_iret C e dX6_file_9
abbrev rm_X6_extent : Room := ({ frames := 2, cells := 0, slots := 0, locals := 43 } : Room)
def f_X6_extent_L43 (s : Nat → Int32) (t : Nat → Int32) (g : Nat → Int32) (v1 : Int32) (v2 : Int32) (v3 : Int32) : Nat → Int32 → Int32 → Int32 → Int32 → Int32 → Option Int32
  | 0, _, _, _, _, _ => none
  | fu + 1, v4, v5, v6, v7, v8 => gb (f_X6_at 0 v1) (fun r6 => if 0 ≤ (r6 + 1) ∧ ((r6 + 1)).toNatClampNeg < 1968 then if (s ((r6 + 1)).toNatClampNeg) ≤ v8 then if v5 = (-5) then some (-5) else if v3 = 0 then some v5 else some v6 else gb (f_X6_blockOf s t g 0 v1 v8) (fun r10 => if v8 = 0 then gb (f_X6_flag 1) (fun r12 => glet (v4 + r12) (fun x13 => if x13 = v2 then gb (f_X6_flag 1) (fun r18 => glet (v6 + r18) (fun x19 => glet (v8 + 1) (fun x20 => f_X6_extent_L43 s t g v1 v2 v3 fu x13 r10 x19 r10 x20))) else gb (f_X6_flag 0) (fun r15 => glet (v6 + r15) (fun x16 => glet (v8 + 1) (fun x17 => f_X6_extent_L43 s t g v1 v2 v3 fu x13 v5 x16 r10 x17))))) else if r10 = (v7 + 1) then gb (f_X6_flag 0) (fun r22 => glet (v4 + r22) (fun x23 => if x23 = v2 then gb (f_X6_flag 1) (fun r28 => glet (v6 + r28) (fun x29 => glet (v8 + 1) (fun x30 => f_X6_extent_L43 s t g v1 v2 v3 fu x23 v5 x29 r10 x30))) else gb (f_X6_flag 0) (fun r25 => glet (v6 + r25) (fun x26 => glet (v8 + 1) (fun x27 => f_X6_extent_L43 s t g v1 v2 v3 fu x23 v5 x26 r10 x27))))) else gb (f_X6_flag 1) (fun r31 => glet (v4 + r31) (fun x32 => if x32 = v2 then gb (f_X6_flag 1) (fun r37 => glet (v6 + r37) (fun x38 => glet (v8 + 1) (fun x39 => f_X6_extent_L43 s t g v1 v2 v3 fu x32 r10 x38 r10 x39))) else gb (f_X6_flag 0) (fun r34 => glet (v6 + r34) (fun x35 => glet (v8 + 1) (fun x36 => f_X6_extent_L43 s t g v1 v2 v3 fu x32 v5 x35 r10 x36)))))) else none)
def f_X6_extent (s : Nat → Int32) (t : Nat → Int32) (g : Nat → Int32) (v1 : Int32) (v2 : Int32) (v3 : Int32) : Option Int32 := gb (f_X6_isThere s t g v1) (fun r1 => if r1 = 0 then some (-1) else if v2 < 0 then some (-2) else gb (f_X6_in v3 0 1) (fun r4 => if r4 = 0 then some (-2) else f_X6_extent_L43 s t g v1 v2 v3 gFu (-1) (-5) 0 (-5) 0))
set_option maxRecDepth 20000 in
theorem in_X6_extent : ∀ w ∈ wsX60, w ∈ wsX6_extent := by decide +kernel
set_option maxRecDepth 20000 in
theorem fl_X6_extent_7 : Cond.fieldLink RX6 7 (TX6 0).1 (TX6 0).2.1 (TX6 0).2.2.1 ∈ wsX6_extent := by decide +kernel
set_option maxHeartbeats 4000000 in
set_option maxRecDepth 100000 in
theorem cl_X6_extent_L43 {X : gX} {Z : gZ} {ad : Nat → Nat} {s : Nat → Int32} {t : Nat → Int32} {g : Nat → Int32} {r : Int32} (C : GC X Z cX6_extent 11 wsX6_extent RX6 rm_X6_extent 3 ad) (e : gEI X Z 3 ad .int r (mdlE Z.2.1 ad s t g)) (v1 : Int32) (v2 : Int32) (v3 : Int32) : ∀ (fu : Nat) (v4 : Int32) (v5 : Int32) (v6 : Int32) (v7 : Int32) (v8 : Int32) (h : f_X6_extent_L43 s t g v1 v2 v3 fu v4 v5 v6 v7 v8 = some r), GG X Z 11 3 ad (mdlE Z.2.1 ad s t g) 43 [(0, .ref (ad 0)), (1, .int v1), (2, .int v2), (3, .int v3), (4, .int v4), (5, .int v5), (6, .int v6), (7, .int v7), (8, .int v8)] [] := by
  intro fu
  induction fu with
  | zero => intro v4 v5 v6 v7 v8 h; cases h
  | succ fu ih =>
    intro v4 v5 v6 v7 v8 h
    rw [f_X6_extent_L43] at h
    refine g_iload C dX6_extent_43 8 rfl ?_
    refine g_aload_n C dX6_extent_45 0 rfl ?_
    refine g_getf (v := .ref (ad 1)) C 0 (by decide) rfl rfl in_X6_extent 0 (by decide) fl_X6_extent_7 rfl dX6_extent_46 ?_
    refine g_iconst (v := 0) C dX6_extent_49 (by decide) ?_
    refine g_iload_n C dX6_extent_50 1 rfl ?_
    obtain ⟨r6, er6, h⟩ := gb1 h
    refine g_callSi (rest := [.ref (ad 1), .int v8]) C gX6_extent_X6_at rfl ok_X6_at ⟨by decide, by decide⟩ ⟨rfl, rfl⟩ (cn_X6_at X.2.1 Z 0 v1 er6) rfl dX6_extent_51 rfl (Nat.le_of_ble_eq_true rfl) ?_
    refine g_iconst (v := 1) C dX6_extent_54 (by decide) ?_
    refine g_iadd C dX6_extent_55 ?_
    obtain ⟨b40, h⟩ := gguard h
    refine g_iald C 1 (by decide) rfl (g_in b40) dX6_extent_56 ?_
    refine g_icmp_ge (tgt := 150) C dX6_extent_57 (by decide) (fun c7 => ?_) (fun c7 => ?_)
    · replace h := gi_pos c7 h
      refine g_iload C dX6_extent_150 5 rfl ?_
      refine g_bipush (v := (-5)) C dX6_extent_152 (by decide) ?_
      refine g_icmp_ne (tgt := 162) C dX6_extent_154 (by decide) (fun c8 => ?_) (fun c8 => ?_)
      · replace h := gi_neg c8 h
        refine g_iload_n C dX6_extent_162 3 rfl ?_
        refine g_if_ne (tgt := 171) C dX6_extent_163 (by decide) (fun c9 => ?_) (fun c9 => ?_)
        · replace h := gi_neg c9 h
          refine g_iload C dX6_extent_171 6 rfl ?_
          obtain rfl := gs1 h
          exact g_iret C e dX6_extent_173
        · replace h := gi_pos c9 h
          refine g_iload C dX6_extent_166 5 rfl ?_
          refine g_goto (tgt := 173) C dX6_extent_168 (by decide) ?_
          obtain rfl := gs1 h
          exact g_iret C e dX6_extent_173
      · replace h := gi_pos c8 h
        refine g_bipush (v := (-5)) C dX6_extent_157 (by decide) ?_
        refine g_goto (tgt := 173) C dX6_extent_159 (by decide) ?_
        obtain rfl := gs1 h
        exact g_iret C e dX6_extent_173
    · replace h := gi_neg c7 h
      refine g_aload_n C dX6_extent_60 0 rfl ?_
      refine g_iconst (v := 0) C dX6_extent_61 (by decide) ?_
      refine g_iload_n C dX6_extent_62 1 rfl ?_
      refine g_iload C dX6_extent_63 8 rfl ?_
      obtain ⟨r10, er10, h⟩ := gb1 h
      refine g_callWi (rest := []) C gX6_extent_X6_blockOf rfl ok_X6_blockOf ⟨by decide, by decide⟩ ⟨rfl, rfl⟩ 0 (by decide) rfl rfl (fun hI => cn_X6_blockOf X.2.1 Z ad hI s t g 0 v1 v8 er10) rfl dX6_extent_65 rfl (Nat.le_of_ble_eq_true rfl) ?_
      refine g_istore C dX6_extent_68 (by decide) [(9, .int r10), (0, .ref (ad 0)), (1, .int v1), (2, .int v2), (3, .int v3), (4, .int v4), (5, .int v5), (6, .int v6), (7, .int v7), (8, .int v8)] rfl ?_
      refine g_iload C dX6_extent_70 9 rfl ?_
      refine g_if_eq (tgt := 84) C dX6_extent_72 (by decide) (fun c11 => ?_) (fun c11 => ?_)
      · replace h := gi_pos c11 h
        refine g_iconst (v := 1) C dX6_extent_84 (by decide) ?_
        refine g_goto (tgt := 89) C dX6_extent_85 (by decide) ?_
        refine g_istore C dX6_extent_89 (by decide) [(10, .int 1), (9, .int r10), (0, .ref (ad 0)), (1, .int v1), (2, .int v2), (3, .int v3), (4, .int v4), (5, .int v5), (6, .int v6), (7, .int v7), (8, .int v8)] rfl ?_
        refine g_iload C dX6_extent_91 6 rfl ?_
        refine g_iload C dX6_extent_93 0 rfl ?_
        obtain ⟨r12, er12, h⟩ := gb1 h
        refine g_callSi (rest := [.int v4]) C gX6_extent_X6_flag rfl ok_X6_flag ⟨by decide, by decide⟩ ⟨rfl, rfl⟩ (cn_X6_flag X.2.1 Z 1 er12) rfl dX6_extent_95 rfl (Nat.le_of_ble_eq_true rfl) ?_
        refine g_iadd C dX6_extent_98 ?_
        obtain ⟨x13, ex13, h⟩ := gl h
        refine g_istore C dX6_extent_99 (by decide) [(4, .int x13), (10, .int 1), (9, .int r10), (0, .ref (ad 0)), (1, .int v1), (2, .int v2), (3, .int v3), (5, .int v5), (6, .int v6), (7, .int v7), (8, .int v8)] (by rw [ex13]; rfl) ?_
        refine g_iload C dX6_extent_101 1 rfl ?_
        refine g_if_eq (tgt := 117) C dX6_extent_103 (by decide) (fun hc => absurd hc (by decide)) (fun _ => ?_)
        refine g_iload C dX6_extent_106 0 rfl ?_
        refine g_iload_n C dX6_extent_108 5 rfl ?_
        refine g_icmp_ne (tgt := 117) C dX6_extent_109 (by decide) (fun c14 => ?_) (fun c14 => ?_)
        · replace h := gi_neg c14 h
          refine g_iload C dX6_extent_117 7 rfl ?_
          refine g_istore C dX6_extent_119 (by decide) [(5, .int v5), (4, .int x13), (10, .int 1), (9, .int r10), (0, .ref (ad 0)), (1, .int v1), (2, .int v2), (3, .int v3), (6, .int v6), (7, .int v7), (8, .int v8)] rfl ?_
          refine g_iload C dX6_extent_121 8 rfl ?_
          refine g_iload C dX6_extent_123 1 rfl ?_
          refine g_iload_n C dX6_extent_125 6 rfl ?_
          refine g_icmp_ne (tgt := 133) C dX6_extent_126 (by decide) (fun _ => ?_) (fun hc => absurd hc c14)
          refine g_iconst (v := 0) C dX6_extent_133 (by decide) ?_
          obtain ⟨r15, er15, h⟩ := gb1 h
          refine g_callSi (rest := [.int v6]) C gX6_extent_X6_flag rfl ok_X6_flag ⟨by decide, by decide⟩ ⟨rfl, rfl⟩ (cn_X6_flag X.2.1 Z 0 er15) rfl dX6_extent_134 rfl (Nat.le_of_ble_eq_true rfl) ?_
          refine g_iadd C dX6_extent_137 ?_
          obtain ⟨x16, ex16, h⟩ := gl h
          refine g_istore C dX6_extent_138 (by decide) [(6, .int x16), (5, .int v5), (4, .int x13), (10, .int 1), (9, .int r10), (0, .ref (ad 0)), (1, .int v1), (2, .int v2), (3, .int v3), (7, .int v7), (8, .int v8)] (by rw [ex16]; rfl) ?_
          refine g_iload C dX6_extent_140 4 rfl ?_
          refine g_istore C dX6_extent_142 (by decide) [(7, .int r10), (6, .int x16), (5, .int v5), (4, .int x13), (10, .int 1), (9, .int r10), (0, .ref (ad 0)), (1, .int v1), (2, .int v2), (3, .int v3), (8, .int v8)] rfl ?_
          obtain ⟨x17, ex17, h⟩ := gl h
          refine g_iinc (v := x17) C dX6_extent_144 10 rfl (by rw [ex17]; rfl) (by decide) [(8, .int x17), (7, .int r10), (6, .int x16), (5, .int v5), (4, .int x13), (10, .int 1), (9, .int r10), (0, .ref (ad 0)), (1, .int v1), (2, .int v2), (3, .int v3)] rfl ?_
          refine g_goto (tgt := 43) C dX6_extent_147 (by decide) ?_
          exact g_sub [7, 8, 9, 10, 4, 3, 2, 1, 0] rfl (ih x13 v5 x16 r10 x17 h)
        · replace h := gi_pos c14 h
          refine g_iload C dX6_extent_112 2 rfl ?_
          refine g_goto (tgt := 119) C dX6_extent_114 (by decide) ?_
          refine g_istore C dX6_extent_119 (by decide) [(5, .int r10), (4, .int x13), (10, .int 1), (9, .int r10), (0, .ref (ad 0)), (1, .int v1), (2, .int v2), (3, .int v3), (6, .int v6), (7, .int v7), (8, .int v8)] rfl ?_
          refine g_iload C dX6_extent_121 8 rfl ?_
          refine g_iload C dX6_extent_123 1 rfl ?_
          refine g_iload_n C dX6_extent_125 6 rfl ?_
          refine g_icmp_ne (tgt := 133) C dX6_extent_126 (by decide) (fun hc => absurd c14 hc) (fun _ => ?_)
          refine g_iconst (v := 1) C dX6_extent_129 (by decide) ?_
          refine g_goto (tgt := 134) C dX6_extent_130 (by decide) ?_
          obtain ⟨r18, er18, h⟩ := gb1 h
          refine g_callSi (rest := [.int v6]) C gX6_extent_X6_flag rfl ok_X6_flag ⟨by decide, by decide⟩ ⟨rfl, rfl⟩ (cn_X6_flag X.2.1 Z 1 er18) rfl dX6_extent_134 rfl (Nat.le_of_ble_eq_true rfl) ?_
          refine g_iadd C dX6_extent_137 ?_
          obtain ⟨x19, ex19, h⟩ := gl h
          refine g_istore C dX6_extent_138 (by decide) [(6, .int x19), (5, .int r10), (4, .int x13), (10, .int 1), (9, .int r10), (0, .ref (ad 0)), (1, .int v1), (2, .int v2), (3, .int v3), (7, .int v7), (8, .int v8)] (by rw [ex19]; rfl) ?_
          refine g_iload C dX6_extent_140 4 rfl ?_
          refine g_istore C dX6_extent_142 (by decide) [(7, .int r10), (6, .int x19), (5, .int r10), (4, .int x13), (10, .int 1), (9, .int r10), (0, .ref (ad 0)), (1, .int v1), (2, .int v2), (3, .int v3), (8, .int v8)] rfl ?_
          obtain ⟨x20, ex20, h⟩ := gl h
          refine g_iinc (v := x20) C dX6_extent_144 10 rfl (by rw [ex20]; rfl) (by decide) [(8, .int x20), (7, .int r10), (6, .int x19), (5, .int r10), (4, .int x13), (10, .int 1), (9, .int r10), (0, .ref (ad 0)), (1, .int v1), (2, .int v2), (3, .int v3)] rfl ?_
          refine g_goto (tgt := 43) C dX6_extent_147 (by decide) ?_
          exact g_sub [7, 8, 9, 10, 4, 3, 2, 1, 0] rfl (ih x13 r10 x19 r10 x20 h)
      · replace h := gi_neg c11 h
        refine g_iload C dX6_extent_75 0 rfl ?_
        refine g_iload C dX6_extent_77 8 rfl ?_
        refine g_iconst (v := 1) C dX6_extent_79 (by decide) ?_
        refine g_iadd C dX6_extent_80 ?_
        refine g_icmp_eq (tgt := 88) C dX6_extent_81 (by decide) (fun c21 => ?_) (fun c21 => ?_)
        · replace h := gi_pos c21 h
          refine g_iconst (v := 0) C dX6_extent_88 (by decide) ?_
          refine g_istore C dX6_extent_89 (by decide) [(10, .int 0), (9, .int r10), (0, .ref (ad 0)), (1, .int v1), (2, .int v2), (3, .int v3), (4, .int v4), (5, .int v5), (6, .int v6), (7, .int v7), (8, .int v8)] rfl ?_
          refine g_iload C dX6_extent_91 6 rfl ?_
          refine g_iload C dX6_extent_93 0 rfl ?_
          obtain ⟨r22, er22, h⟩ := gb1 h
          refine g_callSi (rest := [.int v4]) C gX6_extent_X6_flag rfl ok_X6_flag ⟨by decide, by decide⟩ ⟨rfl, rfl⟩ (cn_X6_flag X.2.1 Z 0 er22) rfl dX6_extent_95 rfl (Nat.le_of_ble_eq_true rfl) ?_
          refine g_iadd C dX6_extent_98 ?_
          obtain ⟨x23, ex23, h⟩ := gl h
          refine g_istore C dX6_extent_99 (by decide) [(4, .int x23), (10, .int 0), (9, .int r10), (0, .ref (ad 0)), (1, .int v1), (2, .int v2), (3, .int v3), (5, .int v5), (6, .int v6), (7, .int v7), (8, .int v8)] (by rw [ex23]; rfl) ?_
          refine g_iload C dX6_extent_101 1 rfl ?_
          refine g_if_eq (tgt := 117) C dX6_extent_103 (by decide) (fun _ => ?_) (fun hc => absurd (by decide) hc)
          refine g_iload C dX6_extent_117 7 rfl ?_
          refine g_istore C dX6_extent_119 (by decide) [(5, .int v5), (4, .int x23), (10, .int 0), (9, .int r10), (0, .ref (ad 0)), (1, .int v1), (2, .int v2), (3, .int v3), (6, .int v6), (7, .int v7), (8, .int v8)] rfl ?_
          refine g_iload C dX6_extent_121 8 rfl ?_
          refine g_iload C dX6_extent_123 1 rfl ?_
          refine g_iload_n C dX6_extent_125 6 rfl ?_
          refine g_icmp_ne (tgt := 133) C dX6_extent_126 (by decide) (fun c24 => ?_) (fun c24 => ?_)
          · replace h := gi_neg c24 h
            refine g_iconst (v := 0) C dX6_extent_133 (by decide) ?_
            obtain ⟨r25, er25, h⟩ := gb1 h
            refine g_callSi (rest := [.int v6]) C gX6_extent_X6_flag rfl ok_X6_flag ⟨by decide, by decide⟩ ⟨rfl, rfl⟩ (cn_X6_flag X.2.1 Z 0 er25) rfl dX6_extent_134 rfl (Nat.le_of_ble_eq_true rfl) ?_
            refine g_iadd C dX6_extent_137 ?_
            obtain ⟨x26, ex26, h⟩ := gl h
            refine g_istore C dX6_extent_138 (by decide) [(6, .int x26), (5, .int v5), (4, .int x23), (10, .int 0), (9, .int r10), (0, .ref (ad 0)), (1, .int v1), (2, .int v2), (3, .int v3), (7, .int v7), (8, .int v8)] (by rw [ex26]; rfl) ?_
            refine g_iload C dX6_extent_140 4 rfl ?_
            refine g_istore C dX6_extent_142 (by decide) [(7, .int r10), (6, .int x26), (5, .int v5), (4, .int x23), (10, .int 0), (9, .int r10), (0, .ref (ad 0)), (1, .int v1), (2, .int v2), (3, .int v3), (8, .int v8)] rfl ?_
            obtain ⟨x27, ex27, h⟩ := gl h
            refine g_iinc (v := x27) C dX6_extent_144 10 rfl (by rw [ex27]; rfl) (by decide) [(8, .int x27), (7, .int r10), (6, .int x26), (5, .int v5), (4, .int x23), (10, .int 0), (9, .int r10), (0, .ref (ad 0)), (1, .int v1), (2, .int v2), (3, .int v3)] rfl ?_
            refine g_goto (tgt := 43) C dX6_extent_147 (by decide) ?_
            exact g_sub [7, 8, 9, 10, 4, 3, 2, 1, 0] rfl (ih x23 v5 x26 r10 x27 h)
          · replace h := gi_pos c24 h
            refine g_iconst (v := 1) C dX6_extent_129 (by decide) ?_
            refine g_goto (tgt := 134) C dX6_extent_130 (by decide) ?_
            obtain ⟨r28, er28, h⟩ := gb1 h
            refine g_callSi (rest := [.int v6]) C gX6_extent_X6_flag rfl ok_X6_flag ⟨by decide, by decide⟩ ⟨rfl, rfl⟩ (cn_X6_flag X.2.1 Z 1 er28) rfl dX6_extent_134 rfl (Nat.le_of_ble_eq_true rfl) ?_
            refine g_iadd C dX6_extent_137 ?_
            obtain ⟨x29, ex29, h⟩ := gl h
            refine g_istore C dX6_extent_138 (by decide) [(6, .int x29), (5, .int v5), (4, .int x23), (10, .int 0), (9, .int r10), (0, .ref (ad 0)), (1, .int v1), (2, .int v2), (3, .int v3), (7, .int v7), (8, .int v8)] (by rw [ex29]; rfl) ?_
            refine g_iload C dX6_extent_140 4 rfl ?_
            refine g_istore C dX6_extent_142 (by decide) [(7, .int r10), (6, .int x29), (5, .int v5), (4, .int x23), (10, .int 0), (9, .int r10), (0, .ref (ad 0)), (1, .int v1), (2, .int v2), (3, .int v3), (8, .int v8)] rfl ?_
            obtain ⟨x30, ex30, h⟩ := gl h
            refine g_iinc (v := x30) C dX6_extent_144 10 rfl (by rw [ex30]; rfl) (by decide) [(8, .int x30), (7, .int r10), (6, .int x29), (5, .int v5), (4, .int x23), (10, .int 0), (9, .int r10), (0, .ref (ad 0)), (1, .int v1), (2, .int v2), (3, .int v3)] rfl ?_
            refine g_goto (tgt := 43) C dX6_extent_147 (by decide) ?_
            exact g_sub [7, 8, 9, 10, 4, 3, 2, 1, 0] rfl (ih x23 v5 x29 r10 x30 h)
        · replace h := gi_neg c21 h
          refine g_iconst (v := 1) C dX6_extent_84 (by decide) ?_
          refine g_goto (tgt := 89) C dX6_extent_85 (by decide) ?_
          refine g_istore C dX6_extent_89 (by decide) [(10, .int 1), (9, .int r10), (0, .ref (ad 0)), (1, .int v1), (2, .int v2), (3, .int v3), (4, .int v4), (5, .int v5), (6, .int v6), (7, .int v7), (8, .int v8)] rfl ?_
          refine g_iload C dX6_extent_91 6 rfl ?_
          refine g_iload C dX6_extent_93 0 rfl ?_
          obtain ⟨r31, er31, h⟩ := gb1 h
          refine g_callSi (rest := [.int v4]) C gX6_extent_X6_flag rfl ok_X6_flag ⟨by decide, by decide⟩ ⟨rfl, rfl⟩ (cn_X6_flag X.2.1 Z 1 er31) rfl dX6_extent_95 rfl (Nat.le_of_ble_eq_true rfl) ?_
          refine g_iadd C dX6_extent_98 ?_
          obtain ⟨x32, ex32, h⟩ := gl h
          refine g_istore C dX6_extent_99 (by decide) [(4, .int x32), (10, .int 1), (9, .int r10), (0, .ref (ad 0)), (1, .int v1), (2, .int v2), (3, .int v3), (5, .int v5), (6, .int v6), (7, .int v7), (8, .int v8)] (by rw [ex32]; rfl) ?_
          refine g_iload C dX6_extent_101 1 rfl ?_
          refine g_if_eq (tgt := 117) C dX6_extent_103 (by decide) (fun hc => absurd hc (by decide)) (fun _ => ?_)
          refine g_iload C dX6_extent_106 0 rfl ?_
          refine g_iload_n C dX6_extent_108 5 rfl ?_
          refine g_icmp_ne (tgt := 117) C dX6_extent_109 (by decide) (fun c33 => ?_) (fun c33 => ?_)
          · replace h := gi_neg c33 h
            refine g_iload C dX6_extent_117 7 rfl ?_
            refine g_istore C dX6_extent_119 (by decide) [(5, .int v5), (4, .int x32), (10, .int 1), (9, .int r10), (0, .ref (ad 0)), (1, .int v1), (2, .int v2), (3, .int v3), (6, .int v6), (7, .int v7), (8, .int v8)] rfl ?_
            refine g_iload C dX6_extent_121 8 rfl ?_
            refine g_iload C dX6_extent_123 1 rfl ?_
            refine g_iload_n C dX6_extent_125 6 rfl ?_
            refine g_icmp_ne (tgt := 133) C dX6_extent_126 (by decide) (fun _ => ?_) (fun hc => absurd hc c33)
            refine g_iconst (v := 0) C dX6_extent_133 (by decide) ?_
            obtain ⟨r34, er34, h⟩ := gb1 h
            refine g_callSi (rest := [.int v6]) C gX6_extent_X6_flag rfl ok_X6_flag ⟨by decide, by decide⟩ ⟨rfl, rfl⟩ (cn_X6_flag X.2.1 Z 0 er34) rfl dX6_extent_134 rfl (Nat.le_of_ble_eq_true rfl) ?_
            refine g_iadd C dX6_extent_137 ?_
            obtain ⟨x35, ex35, h⟩ := gl h
            refine g_istore C dX6_extent_138 (by decide) [(6, .int x35), (5, .int v5), (4, .int x32), (10, .int 1), (9, .int r10), (0, .ref (ad 0)), (1, .int v1), (2, .int v2), (3, .int v3), (7, .int v7), (8, .int v8)] (by rw [ex35]; rfl) ?_
            refine g_iload C dX6_extent_140 4 rfl ?_
            refine g_istore C dX6_extent_142 (by decide) [(7, .int r10), (6, .int x35), (5, .int v5), (4, .int x32), (10, .int 1), (9, .int r10), (0, .ref (ad 0)), (1, .int v1), (2, .int v2), (3, .int v3), (8, .int v8)] rfl ?_
            obtain ⟨x36, ex36, h⟩ := gl h
            refine g_iinc (v := x36) C dX6_extent_144 10 rfl (by rw [ex36]; rfl) (by decide) [(8, .int x36), (7, .int r10), (6, .int x35), (5, .int v5), (4, .int x32), (10, .int 1), (9, .int r10), (0, .ref (ad 0)), (1, .int v1), (2, .int v2), (3, .int v3)] rfl ?_
            refine g_goto (tgt := 43) C dX6_extent_147 (by decide) ?_
            exact g_sub [7, 8, 9, 10, 4, 3, 2, 1, 0] rfl (ih x32 v5 x35 r10 x36 h)
          · replace h := gi_pos c33 h
            refine g_iload C dX6_extent_112 2 rfl ?_
            refine g_goto (tgt := 119) C dX6_extent_114 (by decide) ?_
            refine g_istore C dX6_extent_119 (by decide) [(5, .int r10), (4, .int x32), (10, .int 1), (9, .int r10), (0, .ref (ad 0)), (1, .int v1), (2, .int v2), (3, .int v3), (6, .int v6), (7, .int v7), (8, .int v8)] rfl ?_
            refine g_iload C dX6_extent_121 8 rfl ?_
            refine g_iload C dX6_extent_123 1 rfl ?_
            refine g_iload_n C dX6_extent_125 6 rfl ?_
            refine g_icmp_ne (tgt := 133) C dX6_extent_126 (by decide) (fun hc => absurd c33 hc) (fun _ => ?_)
            refine g_iconst (v := 1) C dX6_extent_129 (by decide) ?_
            refine g_goto (tgt := 134) C dX6_extent_130 (by decide) ?_
            obtain ⟨r37, er37, h⟩ := gb1 h
            refine g_callSi (rest := [.int v6]) C gX6_extent_X6_flag rfl ok_X6_flag ⟨by decide, by decide⟩ ⟨rfl, rfl⟩ (cn_X6_flag X.2.1 Z 1 er37) rfl dX6_extent_134 rfl (Nat.le_of_ble_eq_true rfl) ?_
            refine g_iadd C dX6_extent_137 ?_
            obtain ⟨x38, ex38, h⟩ := gl h
            refine g_istore C dX6_extent_138 (by decide) [(6, .int x38), (5, .int r10), (4, .int x32), (10, .int 1), (9, .int r10), (0, .ref (ad 0)), (1, .int v1), (2, .int v2), (3, .int v3), (7, .int v7), (8, .int v8)] (by rw [ex38]; rfl) ?_
            refine g_iload C dX6_extent_140 4 rfl ?_
            refine g_istore C dX6_extent_142 (by decide) [(7, .int r10), (6, .int x38), (5, .int r10), (4, .int x32), (10, .int 1), (9, .int r10), (0, .ref (ad 0)), (1, .int v1), (2, .int v2), (3, .int v3), (8, .int v8)] rfl ?_
            obtain ⟨x39, ex39, h⟩ := gl h
            refine g_iinc (v := x39) C dX6_extent_144 10 rfl (by rw [ex39]; rfl) (by decide) [(8, .int x39), (7, .int r10), (6, .int x38), (5, .int r10), (4, .int x32), (10, .int 1), (9, .int r10), (0, .ref (ad 0)), (1, .int v1), (2, .int v2), (3, .int v3)] rfl ?_
            refine g_goto (tgt := 43) C dX6_extent_147 (by decide) ?_
            exact g_sub [7, 8, 9, 10, 4, 3, 2, 1, 0] rfl (ih x32 r10 x38 r10 x39 h)
set_option maxHeartbeats 4000000 in
set_option maxRecDepth 100000 in
theorem cn_X6_extent (l : Launch) (Z : gZ) (ad : Nat → Nat) (hI : gInj 3 ad) (s : Nat → Int32) (t : Nat → Int32) (g : Nat → Int32) (v1 : Int32) (v2 : Int32) (v3 : Int32) {r : Int32} (h : f_X6_extent s t g v1 v2 v3 = some r) : gI l yX6_extent wsX6_extent rm_X6_extent Z 3 ad [.ref (ad 0), .int v1, .int v2, .int v3] (mdlE Z.2.1 ad s t g) r (mdlE Z.2.1 ad s t g) := by
  refine g_entryI (cc := cX6_extent) (maxL := 11) (by decide +kernel) rfl hI (Nat.le_of_ble_eq_true rfl) (fun X C e => ?_)
  unfold f_X6_extent at h
  show GG X Z 11 3 ad (mdlE Z.2.1 ad s t g) 0 [(0, .ref (ad 0)), (1, .int v1), (2, .int v2), (3, .int v3)] []
  refine g_aload_n C dX6_extent_0 0 rfl ?_
  refine g_iload_n C dX6_extent_1 1 rfl ?_
  obtain ⟨r1, er1, h⟩ := gb1 h
  refine g_callWi (rest := []) C gX6_extent_X6_isThere rfl ok_X6_isThere ⟨by decide, by decide⟩ ⟨rfl, rfl⟩ 0 (by decide) rfl rfl (fun hI => cn_X6_isThere X.2.1 Z ad hI s t g v1 er1) rfl dX6_extent_2 rfl (Nat.le_of_ble_eq_true rfl) ?_
  refine g_if_ne (tgt := 10) C dX6_extent_5 (by decide) (fun c2 => ?_) (fun c2 => ?_)
  · replace h := gi_neg c2 h
    refine g_iload_n C dX6_extent_10 2 rfl ?_
    refine g_if_lt (tgt := 23) C dX6_extent_11 (by decide) (fun c3 => ?_) (fun c3 => ?_)
    · replace h := gi_pos c3 h
      refine g_bipush (v := (-2)) C dX6_extent_23 (by decide) ?_
      obtain rfl := gs1 h
      exact g_iret C e dX6_extent_25
    · replace h := gi_neg c3 h
      refine g_iload_n C dX6_extent_14 3 rfl ?_
      refine g_iconst (v := 0) C dX6_extent_15 (by decide) ?_
      refine g_iconst (v := 1) C dX6_extent_16 (by decide) ?_
      obtain ⟨r4, er4, h⟩ := gb1 h
      refine g_callSi (rest := []) C gX6_extent_X6_in rfl ok_X6_in ⟨by decide, by decide⟩ ⟨rfl, rfl⟩ (cn_X6_in X.2.1 Z v3 0 1 er4) rfl dX6_extent_17 rfl (Nat.le_of_ble_eq_true rfl) ?_
      refine g_if_ne (tgt := 26) C dX6_extent_20 (by decide) (fun c5 => ?_) (fun c5 => ?_)
      · replace h := gi_neg c5 h
        refine g_iconst (v := (-1)) C dX6_extent_26 (by decide) ?_
        refine g_istore C dX6_extent_27 (by decide) [(4, .int (-1)), (0, .ref (ad 0)), (1, .int v1), (2, .int v2), (3, .int v3)] rfl ?_
        refine g_bipush (v := (-5)) C dX6_extent_29 (by decide) ?_
        refine g_istore C dX6_extent_31 (by decide) [(5, .int (-5)), (4, .int (-1)), (0, .ref (ad 0)), (1, .int v1), (2, .int v2), (3, .int v3)] rfl ?_
        refine g_iconst (v := 0) C dX6_extent_33 (by decide) ?_
        refine g_istore C dX6_extent_34 (by decide) [(6, .int 0), (5, .int (-5)), (4, .int (-1)), (0, .ref (ad 0)), (1, .int v1), (2, .int v2), (3, .int v3)] rfl ?_
        refine g_bipush (v := (-5)) C dX6_extent_36 (by decide) ?_
        refine g_istore C dX6_extent_38 (by decide) [(7, .int (-5)), (6, .int 0), (5, .int (-5)), (4, .int (-1)), (0, .ref (ad 0)), (1, .int v1), (2, .int v2), (3, .int v3)] rfl ?_
        refine g_iconst (v := 0) C dX6_extent_40 (by decide) ?_
        refine g_istore C dX6_extent_41 (by decide) [(8, .int 0), (7, .int (-5)), (6, .int 0), (5, .int (-5)), (4, .int (-1)), (0, .ref (ad 0)), (1, .int v1), (2, .int v2), (3, .int v3)] rfl ?_
        exact g_sub [5, 6, 7, 8, 4, 3, 2, 1, 0] rfl (cl_X6_extent_L43 C e v1 v2 v3 gFu (-1) (-5) 0 (-5) 0 h)
      · replace h := gi_pos c5 h
        refine g_bipush (v := (-2)) C dX6_extent_23 (by decide) ?_
        obtain rfl := gs1 h
        exact g_iret C e dX6_extent_25
  · replace h := gi_pos c2 h
    refine g_iconst (v := (-1)) C dX6_extent_8 (by decide) ?_
    obtain rfl := gs1 h
    exact g_iret C e dX6_extent_9
abbrev rm_X6_run : Room := ({ frames := 2, cells := 0, slots := 0, locals := 45 } : Room)
def f_X6_run_L21 (s : Nat → Int32) (t : Nat → Int32) (g : Nat → Int32) (v1 : Int32) (v2 : Int32) : Nat → Int32 → Int32 → Option Int32
  | 0, _, _ => none
  | fu + 1, v3, v4 => if 64 ≤ v4 then some (-5) else gb (f_X6_isRunStart s t g 0 v4) (fun r5 => if r5 = 0 then glet (v4 + 1) (fun x7 => f_X6_run_L21 s t g v1 v2 fu v3 x7) else if v3 = 0 then if v2 = 0 then some v4 else gb (f_X6_runLength s t g 0 v4) (fun r12 => some r12) else glet (v3 + (-1)) (fun x9 => glet (v4 + 1) (fun x10 => f_X6_run_L21 s t g v1 v2 fu x9 x10)))
def f_X6_run (s : Nat → Int32) (t : Nat → Int32) (g : Nat → Int32) (v1 : Int32) (v2 : Int32) : Option Int32 := if v1 < 0 then some (-2) else gb (f_X6_in v2 0 1) (fun r2 => if r2 = 0 then some (-2) else f_X6_run_L21 s t g v1 v2 gFu v1 0)
set_option maxHeartbeats 4000000 in
set_option maxRecDepth 100000 in
theorem cl_X6_run_L21 {X : gX} {Z : gZ} {ad : Nat → Nat} {s : Nat → Int32} {t : Nat → Int32} {g : Nat → Int32} {r : Int32} (C : GC X Z cX6_run 5 wsX6_run RX6 rm_X6_run 3 ad) (e : gEI X Z 3 ad .int r (mdlE Z.2.1 ad s t g)) (v1 : Int32) (v2 : Int32) : ∀ (fu : Nat) (v3 : Int32) (v4 : Int32) (h : f_X6_run_L21 s t g v1 v2 fu v3 v4 = some r), GG X Z 5 3 ad (mdlE Z.2.1 ad s t g) 21 [(0, .ref (ad 0)), (1, .int v1), (2, .int v2), (3, .int v3), (4, .int v4)] [] := by
  intro fu
  induction fu with
  | zero => intro v3 v4 h; cases h
  | succ fu ih =>
    intro v3 v4 h
    rw [f_X6_run_L21] at h
    refine g_iload C dX6_run_21 4 rfl ?_
    refine g_bipush (v := 64) C dX6_run_23 (by decide) ?_
    refine g_icmp_ge (tgt := 68) C dX6_run_25 (by decide) (fun c4 => ?_) (fun c4 => ?_)
    · replace h := gi_pos c4 h
      refine g_bipush (v := (-5)) C dX6_run_68 (by decide) ?_
      obtain rfl := gs1 h
      exact g_iret C e dX6_run_70
    · replace h := gi_neg c4 h
      refine g_aload_n C dX6_run_28 0 rfl ?_
      refine g_iconst (v := 0) C dX6_run_29 (by decide) ?_
      refine g_iload C dX6_run_30 4 rfl ?_
      obtain ⟨r5, er5, h⟩ := gb1 h
      refine g_callWi (rest := []) C gX6_run_X6_isRunStart rfl ok_X6_isRunStart ⟨by decide, by decide⟩ ⟨rfl, rfl⟩ 0 (by decide) rfl rfl (fun hI => cn_X6_isRunStart X.2.1 Z ad hI s t g 0 v4 er5) rfl dX6_run_32 rfl (Nat.le_of_ble_eq_true rfl) ?_
      refine g_if_eq (tgt := 62) C dX6_run_35 (by decide) (fun c6 => ?_) (fun c6 => ?_)
      · replace h := gi_pos c6 h
        obtain ⟨x7, ex7, h⟩ := gl h
        refine g_iinc (v := x7) C dX6_run_62 4 rfl (by rw [ex7]; rfl) (by decide) [(4, .int x7), (0, .ref (ad 0)), (1, .int v1), (2, .int v2), (3, .int v3)] rfl ?_
        refine g_goto (tgt := 21) C dX6_run_65 (by decide) ?_
        exact g_sub [1, 2, 3, 4, 0] rfl (ih v3 x7 h)
      · replace h := gi_neg c6 h
        refine g_iload_n C dX6_run_38 3 rfl ?_
        refine g_if_ne (tgt := 59) C dX6_run_39 (by decide) (fun c8 => ?_) (fun c8 => ?_)
        · replace h := gi_neg c8 h
          obtain ⟨x9, ex9, h⟩ := gl h
          refine g_iinc (v := x9) C dX6_run_59 3 rfl (by rw [ex9]; rfl) (by decide) [(3, .int x9), (0, .ref (ad 0)), (1, .int v1), (2, .int v2), (4, .int v4)] rfl ?_
          obtain ⟨x10, ex10, h⟩ := gl h
          refine g_iinc (v := x10) C dX6_run_62 4 rfl (by rw [ex10]; rfl) (by decide) [(4, .int x10), (3, .int x9), (0, .ref (ad 0)), (1, .int v1), (2, .int v2)] rfl ?_
          refine g_goto (tgt := 21) C dX6_run_65 (by decide) ?_
          exact g_sub [2, 3, 4, 1, 0] rfl (ih x9 x10 h)
        · replace h := gi_pos c8 h
          refine g_iload_n C dX6_run_42 2 rfl ?_
          refine g_if_ne (tgt := 51) C dX6_run_43 (by decide) (fun c11 => ?_) (fun c11 => ?_)
          · replace h := gi_neg c11 h
            refine g_aload_n C dX6_run_51 0 rfl ?_
            refine g_iconst (v := 0) C dX6_run_52 (by decide) ?_
            refine g_iload C dX6_run_53 4 rfl ?_
            obtain ⟨r12, er12, h⟩ := gb1 h
            refine g_callWi (rest := []) C gX6_run_X6_runLength rfl ok_X6_runLength ⟨by decide, by decide⟩ ⟨rfl, rfl⟩ 0 (by decide) rfl rfl (fun hI => cn_X6_runLength X.2.1 Z ad hI s t g 0 v4 er12) rfl dX6_run_55 rfl (Nat.le_of_ble_eq_true rfl) ?_
            obtain rfl := gs1 h
            exact g_iret C e dX6_run_58
          · replace h := gi_pos c11 h
            refine g_iload C dX6_run_46 4 rfl ?_
            refine g_goto (tgt := 58) C dX6_run_48 (by decide) ?_
            obtain rfl := gs1 h
            exact g_iret C e dX6_run_58
set_option maxHeartbeats 4000000 in
set_option maxRecDepth 100000 in
theorem cn_X6_run (l : Launch) (Z : gZ) (ad : Nat → Nat) (hI : gInj 3 ad) (s : Nat → Int32) (t : Nat → Int32) (g : Nat → Int32) (v1 : Int32) (v2 : Int32) {r : Int32} (h : f_X6_run s t g v1 v2 = some r) : gI l yX6_run wsX6_run rm_X6_run Z 3 ad [.ref (ad 0), .int v1, .int v2] (mdlE Z.2.1 ad s t g) r (mdlE Z.2.1 ad s t g) := by
  refine g_entryI (cc := cX6_run) (maxL := 5) (by decide +kernel) rfl hI (Nat.le_of_ble_eq_true rfl) (fun X C e => ?_)
  unfold f_X6_run at h
  show GG X Z 5 3 ad (mdlE Z.2.1 ad s t g) 0 [(0, .ref (ad 0)), (1, .int v1), (2, .int v2)] []
  refine g_iload_n C dX6_run_0 1 rfl ?_
  refine g_if_lt (tgt := 13) C dX6_run_1 (by decide) (fun c1 => ?_) (fun c1 => ?_)
  · replace h := gi_pos c1 h
    refine g_bipush (v := (-2)) C dX6_run_13 (by decide) ?_
    obtain rfl := gs1 h
    exact g_iret C e dX6_run_15
  · replace h := gi_neg c1 h
    refine g_iload_n C dX6_run_4 2 rfl ?_
    refine g_iconst (v := 0) C dX6_run_5 (by decide) ?_
    refine g_iconst (v := 1) C dX6_run_6 (by decide) ?_
    obtain ⟨r2, er2, h⟩ := gb1 h
    refine g_callSi (rest := []) C gX6_run_X6_in rfl ok_X6_in ⟨by decide, by decide⟩ ⟨rfl, rfl⟩ (cn_X6_in X.2.1 Z v2 0 1 er2) rfl dX6_run_7 rfl (Nat.le_of_ble_eq_true rfl) ?_
    refine g_if_ne (tgt := 16) C dX6_run_10 (by decide) (fun c3 => ?_) (fun c3 => ?_)
    · replace h := gi_neg c3 h
      refine g_iload_n C dX6_run_16 1 rfl ?_
      refine g_istore_n C dX6_run_17 (by decide) [(3, .int v1), (0, .ref (ad 0)), (1, .int v1), (2, .int v2)] rfl ?_
      refine g_iconst (v := 0) C dX6_run_18 (by decide) ?_
      refine g_istore C dX6_run_19 (by decide) [(4, .int 0), (3, .int v1), (0, .ref (ad 0)), (1, .int v1), (2, .int v2)] rfl ?_
      exact g_sub [2, 3, 4, 1, 0] rfl (cl_X6_run_L21 C e v1 v2 gFu v1 0 h)
    · replace h := gi_pos c3 h
      refine g_bipush (v := (-2)) C dX6_run_13 (by decide) ?_
      obtain rfl := gs1 h
      exact g_iret C e dX6_run_15
abbrev rm_X6_read : Room := ({ frames := 2, cells := 0, slots := 0, locals := 43 } : Room)
def f_X6_read_L75 (s : Nat → Int32) (t : Nat → Int32) (g : Nat → Int32) (v1 : Int32) (v2 : Int32) (v3 : Int32) (v4 : Int32) (v5 : Int32) : Nat → Int32 → Int32 → Int32 → Option Int32
  | 0, _, _, _ => none
  | fu + 1, v6, v7, v8 => if v5 ≤ v8 then if v4 = 0 then some v7 else some v6 else if v3 ≤ v6 then if v4 = 0 then some v7 else some v6 else gb (f_X6_blockOf s t g 0 v1 v8) (fun r16 => if 0 ≤ r16 ∧ (r16).toNatClampNeg < 1968 then glet (v7 + (s (r16).toNatClampNeg)) (fun x17 => glet (v6 + 1) (fun x18 => glet (v8 + 1) (fun x19 => f_X6_read_L75 s t g v1 v2 v3 v4 v5 fu x18 x17 x19))) else none)
def f_X6_read (s : Nat → Int32) (t : Nat → Int32) (g : Nat → Int32) (v1 : Int32) (v2 : Int32) (v3 : Int32) (v4 : Int32) : Option Int32 := gb (f_X6_isThere s t g v1) (fun r1 => if r1 = 0 then some (-1) else gb (f_X6_in v2 0 63) (fun r3 => if r3 = 0 then some (-2) else gb (f_X6_in v3 1 64) (fun r5 => if r5 = 0 then some (-2) else gb (f_X6_in v4 0 1) (fun r7 => if r7 = 0 then some (-2) else gb (f_X6_at 0 v1) (fun r9 => if 0 ≤ (r9 + 2) ∧ ((r9 + 2)).toNatClampNeg < 1968 then glet (s ((r9 + 2)).toNatClampNeg) (fun x10 => if v2 < x10 then f_X6_read_L75 s t g v1 v2 v3 v4 x10 gFu 0 0 v2 else some (-5)) else none)))))
set_option maxRecDepth 20000 in
theorem in_X6_read : ∀ w ∈ wsX60, w ∈ wsX6_read := by decide +kernel
set_option maxRecDepth 20000 in
theorem fl_X6_read_7 : Cond.fieldLink RX6 7 (TX6 0).1 (TX6 0).2.1 (TX6 0).2.2.1 ∈ wsX6_read := by decide +kernel
set_option maxHeartbeats 4000000 in
set_option maxRecDepth 100000 in
theorem cl_X6_read_L75 {X : gX} {Z : gZ} {ad : Nat → Nat} {s : Nat → Int32} {t : Nat → Int32} {g : Nat → Int32} {r : Int32} (C : GC X Z cX6_read 9 wsX6_read RX6 rm_X6_read 3 ad) (e : gEI X Z 3 ad .int r (mdlE Z.2.1 ad s t g)) (v1 : Int32) (v2 : Int32) (v3 : Int32) (v4 : Int32) (v5 : Int32) : ∀ (fu : Nat) (v6 : Int32) (v7 : Int32) (v8 : Int32) (h : f_X6_read_L75 s t g v1 v2 v3 v4 v5 fu v6 v7 v8 = some r), GG X Z 9 3 ad (mdlE Z.2.1 ad s t g) 75 [(0, .ref (ad 0)), (1, .int v1), (2, .int v2), (3, .int v3), (4, .int v4), (5, .int v5), (6, .int v6), (7, .int v7), (8, .int v8)] [] := by
  intro fu
  induction fu with
  | zero => intro v6 v7 v8 h; cases h
  | succ fu ih =>
    intro v6 v7 v8 h
    rw [f_X6_read_L75] at h
    refine g_iload C dX6_read_75 8 rfl ?_
    refine g_iload C dX6_read_77 5 rfl ?_
    refine g_icmp_ge (tgt := 115) C dX6_read_79 (by decide) (fun c12 => ?_) (fun c12 => ?_)
    · replace h := gi_pos c12 h
      refine g_iload C dX6_read_115 4 rfl ?_
      refine g_if_ne (tgt := 125) C dX6_read_117 (by decide) (fun c13 => ?_) (fun c13 => ?_)
      · replace h := gi_neg c13 h
        refine g_iload C dX6_read_125 6 rfl ?_
        obtain rfl := gs1 h
        exact g_iret C e dX6_read_127
      · replace h := gi_pos c13 h
        refine g_iload C dX6_read_120 7 rfl ?_
        refine g_goto (tgt := 127) C dX6_read_122 (by decide) ?_
        obtain rfl := gs1 h
        exact g_iret C e dX6_read_127
    · replace h := gi_neg c12 h
      refine g_iload C dX6_read_82 6 rfl ?_
      refine g_iload_n C dX6_read_84 3 rfl ?_
      refine g_icmp_ge (tgt := 115) C dX6_read_85 (by decide) (fun c14 => ?_) (fun c14 => ?_)
      · replace h := gi_pos c14 h
        refine g_iload C dX6_read_115 4 rfl ?_
        refine g_if_ne (tgt := 125) C dX6_read_117 (by decide) (fun c15 => ?_) (fun c15 => ?_)
        · replace h := gi_neg c15 h
          refine g_iload C dX6_read_125 6 rfl ?_
          obtain rfl := gs1 h
          exact g_iret C e dX6_read_127
        · replace h := gi_pos c15 h
          refine g_iload C dX6_read_120 7 rfl ?_
          refine g_goto (tgt := 127) C dX6_read_122 (by decide) ?_
          obtain rfl := gs1 h
          exact g_iret C e dX6_read_127
      · replace h := gi_neg c14 h
        refine g_iload C dX6_read_88 7 rfl ?_
        refine g_aload_n C dX6_read_90 0 rfl ?_
        refine g_getf (v := .ref (ad 1)) C 0 (by decide) rfl rfl in_X6_read 0 (by decide) fl_X6_read_7 rfl dX6_read_91 ?_
        refine g_aload_n C dX6_read_94 0 rfl ?_
        refine g_iconst (v := 0) C dX6_read_95 (by decide) ?_
        refine g_iload_n C dX6_read_96 1 rfl ?_
        refine g_iload C dX6_read_97 8 rfl ?_
        obtain ⟨r16, er16, h⟩ := gb1 h
        refine g_callWi (rest := [.ref (ad 1), .int v7]) C gX6_read_X6_blockOf rfl ok_X6_blockOf ⟨by decide, by decide⟩ ⟨rfl, rfl⟩ 0 (by decide) rfl rfl (fun hI => cn_X6_blockOf X.2.1 Z ad hI s t g 0 v1 v8 er16) rfl dX6_read_99 rfl (Nat.le_of_ble_eq_true rfl) ?_
        obtain ⟨b20, h⟩ := gguard h
        refine g_iald C 1 (by decide) rfl (g_in b20) dX6_read_102 ?_
        refine g_iadd C dX6_read_103 ?_
        obtain ⟨x17, ex17, h⟩ := gl h
        refine g_istore C dX6_read_104 (by decide) [(7, .int x17), (0, .ref (ad 0)), (1, .int v1), (2, .int v2), (3, .int v3), (4, .int v4), (5, .int v5), (6, .int v6), (8, .int v8)] (by rw [ex17]; rfl) ?_
        obtain ⟨x18, ex18, h⟩ := gl h
        refine g_iinc (v := x18) C dX6_read_106 7 rfl (by rw [ex18]; rfl) (by decide) [(6, .int x18), (7, .int x17), (0, .ref (ad 0)), (1, .int v1), (2, .int v2), (3, .int v3), (4, .int v4), (5, .int v5), (8, .int v8)] rfl ?_
        obtain ⟨x19, ex19, h⟩ := gl h
        refine g_iinc (v := x19) C dX6_read_109 8 rfl (by rw [ex19]; rfl) (by decide) [(8, .int x19), (6, .int x18), (7, .int x17), (0, .ref (ad 0)), (1, .int v1), (2, .int v2), (3, .int v3), (4, .int v4), (5, .int v5)] rfl ?_
        refine g_goto (tgt := 75) C dX6_read_112 (by decide) ?_
        exact g_sub [3, 4, 5, 6, 7, 8, 1, 2, 0] rfl (ih x18 x17 x19 h)
set_option maxHeartbeats 4000000 in
set_option maxRecDepth 100000 in
theorem cn_X6_read (l : Launch) (Z : gZ) (ad : Nat → Nat) (hI : gInj 3 ad) (s : Nat → Int32) (t : Nat → Int32) (g : Nat → Int32) (v1 : Int32) (v2 : Int32) (v3 : Int32) (v4 : Int32) {r : Int32} (h : f_X6_read s t g v1 v2 v3 v4 = some r) : gI l yX6_read wsX6_read rm_X6_read Z 3 ad [.ref (ad 0), .int v1, .int v2, .int v3, .int v4] (mdlE Z.2.1 ad s t g) r (mdlE Z.2.1 ad s t g) := by
  refine g_entryI (cc := cX6_read) (maxL := 9) (by decide +kernel) rfl hI (Nat.le_of_ble_eq_true rfl) (fun X C e => ?_)
  unfold f_X6_read at h
  show GG X Z 9 3 ad (mdlE Z.2.1 ad s t g) 0 [(0, .ref (ad 0)), (1, .int v1), (2, .int v2), (3, .int v3), (4, .int v4)] []
  refine g_aload_n C dX6_read_0 0 rfl ?_
  refine g_iload_n C dX6_read_1 1 rfl ?_
  obtain ⟨r1, er1, h⟩ := gb1 h
  refine g_callWi (rest := []) C gX6_read_X6_isThere rfl ok_X6_isThere ⟨by decide, by decide⟩ ⟨rfl, rfl⟩ 0 (by decide) rfl rfl (fun hI => cn_X6_isThere X.2.1 Z ad hI s t g v1 er1) rfl dX6_read_2 rfl (Nat.le_of_ble_eq_true rfl) ?_
  refine g_if_ne (tgt := 10) C dX6_read_5 (by decide) (fun c2 => ?_) (fun c2 => ?_)
  · replace h := gi_neg c2 h
    refine g_iload_n C dX6_read_10 2 rfl ?_
    refine g_iconst (v := 0) C dX6_read_11 (by decide) ?_
    refine g_bipush (v := 63) C dX6_read_12 (by decide) ?_
    obtain ⟨r3, er3, h⟩ := gb1 h
    refine g_callSi (rest := []) C gX6_read_X6_in rfl ok_X6_in ⟨by decide, by decide⟩ ⟨rfl, rfl⟩ (cn_X6_in X.2.1 Z v2 0 63 er3) rfl dX6_read_14 rfl (Nat.le_of_ble_eq_true rfl) ?_
    refine g_if_eq (tgt := 40) C dX6_read_17 (by decide) (fun c4 => ?_) (fun c4 => ?_)
    · replace h := gi_pos c4 h
      refine g_bipush (v := (-2)) C dX6_read_40 (by decide) ?_
      obtain rfl := gs1 h
      exact g_iret C e dX6_read_42
    · replace h := gi_neg c4 h
      refine g_iload_n C dX6_read_20 3 rfl ?_
      refine g_iconst (v := 1) C dX6_read_21 (by decide) ?_
      refine g_bipush (v := 64) C dX6_read_22 (by decide) ?_
      obtain ⟨r5, er5, h⟩ := gb1 h
      refine g_callSi (rest := []) C gX6_read_X6_in rfl ok_X6_in ⟨by decide, by decide⟩ ⟨rfl, rfl⟩ (cn_X6_in X.2.1 Z v3 1 64 er5) rfl dX6_read_24 rfl (Nat.le_of_ble_eq_true rfl) ?_
      refine g_if_eq (tgt := 40) C dX6_read_27 (by decide) (fun c6 => ?_) (fun c6 => ?_)
      · replace h := gi_pos c6 h
        refine g_bipush (v := (-2)) C dX6_read_40 (by decide) ?_
        obtain rfl := gs1 h
        exact g_iret C e dX6_read_42
      · replace h := gi_neg c6 h
        refine g_iload C dX6_read_30 4 rfl ?_
        refine g_iconst (v := 0) C dX6_read_32 (by decide) ?_
        refine g_iconst (v := 1) C dX6_read_33 (by decide) ?_
        obtain ⟨r7, er7, h⟩ := gb1 h
        refine g_callSi (rest := []) C gX6_read_X6_in rfl ok_X6_in ⟨by decide, by decide⟩ ⟨rfl, rfl⟩ (cn_X6_in X.2.1 Z v4 0 1 er7) rfl dX6_read_34 rfl (Nat.le_of_ble_eq_true rfl) ?_
        refine g_if_ne (tgt := 43) C dX6_read_37 (by decide) (fun c8 => ?_) (fun c8 => ?_)
        · replace h := gi_neg c8 h
          refine g_aload_n C dX6_read_43 0 rfl ?_
          refine g_getf (v := .ref (ad 1)) C 0 (by decide) rfl rfl in_X6_read 0 (by decide) fl_X6_read_7 rfl dX6_read_44 ?_
          refine g_iconst (v := 0) C dX6_read_47 (by decide) ?_
          refine g_iload_n C dX6_read_48 1 rfl ?_
          obtain ⟨r9, er9, h⟩ := gb1 h
          refine g_callSi (rest := [.ref (ad 1)]) C gX6_read_X6_at rfl ok_X6_at ⟨by decide, by decide⟩ ⟨rfl, rfl⟩ (cn_X6_at X.2.1 Z 0 v1 er9) rfl dX6_read_49 rfl (Nat.le_of_ble_eq_true rfl) ?_
          refine g_iconst (v := 2) C dX6_read_52 (by decide) ?_
          refine g_iadd C dX6_read_53 ?_
          obtain ⟨b21, h⟩ := gguard h
          refine g_iald C 1 (by decide) rfl (g_in b21) dX6_read_54 ?_
          obtain ⟨x10, ex10, h⟩ := gl h
          refine g_istore C dX6_read_55 (by decide) [(5, .int x10), (0, .ref (ad 0)), (1, .int v1), (2, .int v2), (3, .int v3), (4, .int v4)] (by rw [ex10]; rfl) ?_
          refine g_iload_n C dX6_read_57 3 rfl ?_
          refine g_iload C dX6_read_58 0 rfl ?_
          refine g_icmp_lt (tgt := 66) C dX6_read_60 (by decide) (fun c11 => ?_) (fun c11 => ?_)
          · replace h := gi_pos c11 h
            refine g_iconst (v := 0) C dX6_read_66 (by decide) ?_
            refine g_istore C dX6_read_67 (by decide) [(6, .int 0), (5, .int x10), (0, .ref (ad 0)), (1, .int v1), (2, .int v2), (3, .int v3), (4, .int v4)] rfl ?_
            refine g_iconst (v := 0) C dX6_read_69 (by decide) ?_
            refine g_istore C dX6_read_70 (by decide) [(7, .int 0), (6, .int 0), (5, .int x10), (0, .ref (ad 0)), (1, .int v1), (2, .int v2), (3, .int v3), (4, .int v4)] rfl ?_
            refine g_iload_n C dX6_read_72 5 rfl ?_
            refine g_istore C dX6_read_73 (by decide) [(8, .int v2), (7, .int 0), (6, .int 0), (5, .int x10), (0, .ref (ad 0)), (1, .int v1), (2, .int v2), (3, .int v3), (4, .int v4)] rfl ?_
            exact g_sub [4, 5, 6, 7, 8, 3, 2, 1, 0] rfl (cl_X6_read_L75 C e v1 v2 v3 v4 x10 gFu 0 0 v2 h)
          · replace h := gi_neg c11 h
            refine g_bipush (v := (-5)) C dX6_read_63 (by decide) ?_
            obtain rfl := gs1 h
            exact g_iret C e dX6_read_65
        · replace h := gi_pos c8 h
          refine g_bipush (v := (-2)) C dX6_read_40 (by decide) ?_
          obtain rfl := gs1 h
          exact g_iret C e dX6_read_42
  · replace h := gi_pos c2 h
    refine g_iconst (v := (-1)) C dX6_read_8 (by decide) ?_
    obtain rfl := gs1 h
    exact g_iret C e dX6_read_9
abbrev rm_X6_allExtents : Room := ({ frames := 2, cells := 0, slots := 0, locals := 51 } : Room)
def f_X6_allExtents_L4 (s : Nat → Int32) (t : Nat → Int32) (g : Nat → Int32) : Nat → Int32 → Int32 → Option Int32
  | 0, _, _ => none
  | fu + 1, v1, v2 => if 8 ≤ v2 then some v1 else gb (f_X6_isThere s t g v2) (fun r2 => if r2 = 0 then glet (v1 + 0) (fun x4 => glet (v2 + 1) (fun x5 => f_X6_allExtents_L4 s t g fu x4 x5)) else gb (f_X6_extents s t g 0 v2) (fun r6 => glet (v1 + r6) (fun x7 => glet (v2 + 1) (fun x8 => f_X6_allExtents_L4 s t g fu x7 x8))))
def f_X6_allExtents (s : Nat → Int32) (t : Nat → Int32) (g : Nat → Int32) : Option Int32 := f_X6_allExtents_L4 s t g gFu 0 0
set_option maxHeartbeats 4000000 in
set_option maxRecDepth 100000 in
theorem cl_X6_allExtents_L4 {X : gX} {Z : gZ} {ad : Nat → Nat} {s : Nat → Int32} {t : Nat → Int32} {g : Nat → Int32} {r : Int32} (C : GC X Z cX6_allExtents 3 wsX6_allExtents RX6 rm_X6_allExtents 3 ad) (e : gEI X Z 3 ad .int r (mdlE Z.2.1 ad s t g))  : ∀ (fu : Nat) (v1 : Int32) (v2 : Int32) (h : f_X6_allExtents_L4 s t g fu v1 v2 = some r), GG X Z 3 3 ad (mdlE Z.2.1 ad s t g) 4 [(0, .ref (ad 0)), (1, .int v1), (2, .int v2)] [] := by
  intro fu
  induction fu with
  | zero => intro v1 v2 h; cases h
  | succ fu ih =>
    intro v1 v2 h
    rw [f_X6_allExtents_L4] at h
    refine g_iload_n C dX6_allExtents_4 2 rfl ?_
    refine g_bipush (v := 8) C dX6_allExtents_5 (by decide) ?_
    refine g_icmp_ge (tgt := 37) C dX6_allExtents_7 (by decide) (fun c1 => ?_) (fun c1 => ?_)
    · replace h := gi_pos c1 h
      refine g_iload_n C dX6_allExtents_37 1 rfl ?_
      obtain rfl := gs1 h
      exact g_iret C e dX6_allExtents_38
    · replace h := gi_neg c1 h
      refine g_iload_n C dX6_allExtents_10 1 rfl ?_
      refine g_aload_n C dX6_allExtents_11 0 rfl ?_
      refine g_iload_n C dX6_allExtents_12 2 rfl ?_
      obtain ⟨r2, er2, h⟩ := gb1 h
      refine g_callWi (rest := [.int v1]) C gX6_allExtents_X6_isThere rfl ok_X6_isThere ⟨by decide, by decide⟩ ⟨rfl, rfl⟩ 0 (by decide) rfl rfl (fun hI => cn_X6_isThere X.2.1 Z ad hI s t g v2 er2) rfl dX6_allExtents_13 rfl (Nat.le_of_ble_eq_true rfl) ?_
      refine g_if_eq (tgt := 28) C dX6_allExtents_16 (by decide) (fun c3 => ?_) (fun c3 => ?_)
      · replace h := gi_pos c3 h
        refine g_iconst (v := 0) C dX6_allExtents_28 (by decide) ?_
        refine g_iadd C dX6_allExtents_29 ?_
        obtain ⟨x4, ex4, h⟩ := gl h
        refine g_istore_n C dX6_allExtents_30 (by decide) [(1, .int x4), (0, .ref (ad 0)), (2, .int v2)] (by rw [ex4]; rfl) ?_
        obtain ⟨x5, ex5, h⟩ := gl h
        refine g_iinc (v := x5) C dX6_allExtents_31 2 rfl (by rw [ex5]; rfl) (by decide) [(2, .int x5), (1, .int x4), (0, .ref (ad 0))] rfl ?_
        refine g_goto (tgt := 4) C dX6_allExtents_34 (by decide) ?_
        exact g_sub [2, 1, 0] rfl (ih x4 x5 h)
      · replace h := gi_neg c3 h
        refine g_aload_n C dX6_allExtents_19 0 rfl ?_
        refine g_iconst (v := 0) C dX6_allExtents_20 (by decide) ?_
        refine g_iload_n C dX6_allExtents_21 2 rfl ?_
        obtain ⟨r6, er6, h⟩ := gb1 h
        refine g_callWi (rest := [.int v1]) C gX6_allExtents_X6_extents rfl ok_X6_extents ⟨by decide, by decide⟩ ⟨rfl, rfl⟩ 0 (by decide) rfl rfl (fun hI => cn_X6_extents X.2.1 Z ad hI s t g 0 v2 er6) rfl dX6_allExtents_22 rfl (Nat.le_of_ble_eq_true rfl) ?_
        refine g_goto (tgt := 29) C dX6_allExtents_25 (by decide) ?_
        refine g_iadd C dX6_allExtents_29 ?_
        obtain ⟨x7, ex7, h⟩ := gl h
        refine g_istore_n C dX6_allExtents_30 (by decide) [(1, .int x7), (0, .ref (ad 0)), (2, .int v2)] (by rw [ex7]; rfl) ?_
        obtain ⟨x8, ex8, h⟩ := gl h
        refine g_iinc (v := x8) C dX6_allExtents_31 2 rfl (by rw [ex8]; rfl) (by decide) [(2, .int x8), (1, .int x7), (0, .ref (ad 0))] rfl ?_
        refine g_goto (tgt := 4) C dX6_allExtents_34 (by decide) ?_
        exact g_sub [2, 1, 0] rfl (ih x7 x8 h)
set_option maxHeartbeats 4000000 in
set_option maxRecDepth 100000 in
theorem cn_X6_allExtents (l : Launch) (Z : gZ) (ad : Nat → Nat) (hI : gInj 3 ad) (s : Nat → Int32) (t : Nat → Int32) (g : Nat → Int32) {r : Int32} (h : f_X6_allExtents s t g = some r) : gI l yX6_allExtents wsX6_allExtents rm_X6_allExtents Z 3 ad [.ref (ad 0)] (mdlE Z.2.1 ad s t g) r (mdlE Z.2.1 ad s t g) := by
  refine g_entryI (cc := cX6_allExtents) (maxL := 3) (by decide +kernel) rfl hI (Nat.le_of_ble_eq_true rfl) (fun X C e => ?_)
  unfold f_X6_allExtents at h
  show GG X Z 3 3 ad (mdlE Z.2.1 ad s t g) 0 [(0, .ref (ad 0))] []
  refine g_iconst (v := 0) C dX6_allExtents_0 (by decide) ?_
  refine g_istore_n C dX6_allExtents_1 (by decide) [(1, .int 0), (0, .ref (ad 0))] rfl ?_
  refine g_iconst (v := 0) C dX6_allExtents_2 (by decide) ?_
  refine g_istore_n C dX6_allExtents_3 (by decide) [(2, .int 0), (1, .int 0), (0, .ref (ad 0))] rfl ?_
  exact g_sub [2, 1, 0] rfl (cl_X6_allExtents_L4 C e gFu 0 0 h)
abbrev rm_X6_lentOfClosed : Room := ({ frames := 2, cells := 0, slots := 0, locals := 44 } : Room)
def f_X6_lentOfClosed_L4 (s : Nat → Int32) (t : Nat → Int32) (g : Nat → Int32) : Nat → Int32 → Int32 → Option Int32
  | 0, _, _ => none
  | fu + 1, v1, v2 => if 8 ≤ v2 then some v1 else gb (f_X6_isThere s t g v2) (fun r2 => if r2 = 0 then glet (v1 + 0) (fun x4 => glet (v2 + 1) (fun x5 => f_X6_lentOfClosed_L4 s t g fu x4 x5)) else gb (f_X6_isOpen s t g v2) (fun r6 => if r6 = 0 then gb (f_X6_lent s t g 0 v2) (fun r10 => glet (v1 + r10) (fun x11 => glet (v2 + 1) (fun x12 => f_X6_lentOfClosed_L4 s t g fu x11 x12))) else glet (v1 + 0) (fun x8 => glet (v2 + 1) (fun x9 => f_X6_lentOfClosed_L4 s t g fu x8 x9))))
def f_X6_lentOfClosed (s : Nat → Int32) (t : Nat → Int32) (g : Nat → Int32) : Option Int32 := f_X6_lentOfClosed_L4 s t g gFu 0 0
set_option maxHeartbeats 4000000 in
set_option maxRecDepth 100000 in
theorem cl_X6_lentOfClosed_L4 {X : gX} {Z : gZ} {ad : Nat → Nat} {s : Nat → Int32} {t : Nat → Int32} {g : Nat → Int32} {r : Int32} (C : GC X Z cX6_lentOfClosed 3 wsX6_lentOfClosed RX6 rm_X6_lentOfClosed 3 ad) (e : gEI X Z 3 ad .int r (mdlE Z.2.1 ad s t g))  : ∀ (fu : Nat) (v1 : Int32) (v2 : Int32) (h : f_X6_lentOfClosed_L4 s t g fu v1 v2 = some r), GG X Z 3 3 ad (mdlE Z.2.1 ad s t g) 4 [(0, .ref (ad 0)), (1, .int v1), (2, .int v2)] [] := by
  intro fu
  induction fu with
  | zero => intro v1 v2 h; cases h
  | succ fu ih =>
    intro v1 v2 h
    rw [f_X6_lentOfClosed_L4] at h
    refine g_iload_n C dX6_lentOfClosed_4 2 rfl ?_
    refine g_bipush (v := 8) C dX6_lentOfClosed_5 (by decide) ?_
    refine g_icmp_ge (tgt := 45) C dX6_lentOfClosed_7 (by decide) (fun c1 => ?_) (fun c1 => ?_)
    · replace h := gi_pos c1 h
      refine g_iload_n C dX6_lentOfClosed_45 1 rfl ?_
      obtain rfl := gs1 h
      exact g_iret C e dX6_lentOfClosed_46
    · replace h := gi_neg c1 h
      refine g_iload_n C dX6_lentOfClosed_10 1 rfl ?_
      refine g_aload_n C dX6_lentOfClosed_11 0 rfl ?_
      refine g_iload_n C dX6_lentOfClosed_12 2 rfl ?_
      obtain ⟨r2, er2, h⟩ := gb1 h
      refine g_callWi (rest := [.int v1]) C gX6_lentOfClosed_X6_isThere rfl ok_X6_isThere ⟨by decide, by decide⟩ ⟨rfl, rfl⟩ 0 (by decide) rfl rfl (fun hI => cn_X6_isThere X.2.1 Z ad hI s t g v2 er2) rfl dX6_lentOfClosed_13 rfl (Nat.le_of_ble_eq_true rfl) ?_
      refine g_if_eq (tgt := 36) C dX6_lentOfClosed_16 (by decide) (fun c3 => ?_) (fun c3 => ?_)
      · replace h := gi_pos c3 h
        refine g_iconst (v := 0) C dX6_lentOfClosed_36 (by decide) ?_
        refine g_iadd C dX6_lentOfClosed_37 ?_
        obtain ⟨x4, ex4, h⟩ := gl h
        refine g_istore_n C dX6_lentOfClosed_38 (by decide) [(1, .int x4), (0, .ref (ad 0)), (2, .int v2)] (by rw [ex4]; rfl) ?_
        obtain ⟨x5, ex5, h⟩ := gl h
        refine g_iinc (v := x5) C dX6_lentOfClosed_39 2 rfl (by rw [ex5]; rfl) (by decide) [(2, .int x5), (1, .int x4), (0, .ref (ad 0))] rfl ?_
        refine g_goto (tgt := 4) C dX6_lentOfClosed_42 (by decide) ?_
        exact g_sub [2, 1, 0] rfl (ih x4 x5 h)
      · replace h := gi_neg c3 h
        refine g_aload_n C dX6_lentOfClosed_19 0 rfl ?_
        refine g_iload_n C dX6_lentOfClosed_20 2 rfl ?_
        obtain ⟨r6, er6, h⟩ := gb1 h
        refine g_callWi (rest := [.int v1]) C gX6_lentOfClosed_X6_isOpen rfl ok_X6_isOpen ⟨by decide, by decide⟩ ⟨rfl, rfl⟩ 0 (by decide) rfl rfl (fun hI => cn_X6_isOpen X.2.1 Z ad hI s t g v2 er6) rfl dX6_lentOfClosed_21 rfl (Nat.le_of_ble_eq_true rfl) ?_
        refine g_if_ne (tgt := 36) C dX6_lentOfClosed_24 (by decide) (fun c7 => ?_) (fun c7 => ?_)
        · replace h := gi_neg c7 h
          refine g_iconst (v := 0) C dX6_lentOfClosed_36 (by decide) ?_
          refine g_iadd C dX6_lentOfClosed_37 ?_
          obtain ⟨x8, ex8, h⟩ := gl h
          refine g_istore_n C dX6_lentOfClosed_38 (by decide) [(1, .int x8), (0, .ref (ad 0)), (2, .int v2)] (by rw [ex8]; rfl) ?_
          obtain ⟨x9, ex9, h⟩ := gl h
          refine g_iinc (v := x9) C dX6_lentOfClosed_39 2 rfl (by rw [ex9]; rfl) (by decide) [(2, .int x9), (1, .int x8), (0, .ref (ad 0))] rfl ?_
          refine g_goto (tgt := 4) C dX6_lentOfClosed_42 (by decide) ?_
          exact g_sub [2, 1, 0] rfl (ih x8 x9 h)
        · replace h := gi_pos c7 h
          refine g_aload_n C dX6_lentOfClosed_27 0 rfl ?_
          refine g_iconst (v := 0) C dX6_lentOfClosed_28 (by decide) ?_
          refine g_iload_n C dX6_lentOfClosed_29 2 rfl ?_
          obtain ⟨r10, er10, h⟩ := gb1 h
          refine g_callWi (rest := [.int v1]) C gX6_lentOfClosed_X6_lent rfl ok_X6_lent ⟨by decide, by decide⟩ ⟨rfl, rfl⟩ 0 (by decide) rfl rfl (fun hI => cn_X6_lent X.2.1 Z ad hI s t g 0 v2 er10) rfl dX6_lentOfClosed_30 rfl (Nat.le_of_ble_eq_true rfl) ?_
          refine g_goto (tgt := 37) C dX6_lentOfClosed_33 (by decide) ?_
          refine g_iadd C dX6_lentOfClosed_37 ?_
          obtain ⟨x11, ex11, h⟩ := gl h
          refine g_istore_n C dX6_lentOfClosed_38 (by decide) [(1, .int x11), (0, .ref (ad 0)), (2, .int v2)] (by rw [ex11]; rfl) ?_
          obtain ⟨x12, ex12, h⟩ := gl h
          refine g_iinc (v := x12) C dX6_lentOfClosed_39 2 rfl (by rw [ex12]; rfl) (by decide) [(2, .int x12), (1, .int x11), (0, .ref (ad 0))] rfl ?_
          refine g_goto (tgt := 4) C dX6_lentOfClosed_42 (by decide) ?_
          exact g_sub [2, 1, 0] rfl (ih x11 x12 h)
set_option maxHeartbeats 4000000 in
set_option maxRecDepth 100000 in
theorem cn_X6_lentOfClosed (l : Launch) (Z : gZ) (ad : Nat → Nat) (hI : gInj 3 ad) (s : Nat → Int32) (t : Nat → Int32) (g : Nat → Int32) {r : Int32} (h : f_X6_lentOfClosed s t g = some r) : gI l yX6_lentOfClosed wsX6_lentOfClosed rm_X6_lentOfClosed Z 3 ad [.ref (ad 0)] (mdlE Z.2.1 ad s t g) r (mdlE Z.2.1 ad s t g) := by
  refine g_entryI (cc := cX6_lentOfClosed) (maxL := 3) (by decide +kernel) rfl hI (Nat.le_of_ble_eq_true rfl) (fun X C e => ?_)
  unfold f_X6_lentOfClosed at h
  show GG X Z 3 3 ad (mdlE Z.2.1 ad s t g) 0 [(0, .ref (ad 0))] []
  refine g_iconst (v := 0) C dX6_lentOfClosed_0 (by decide) ?_
  refine g_istore_n C dX6_lentOfClosed_1 (by decide) [(1, .int 0), (0, .ref (ad 0))] rfl ?_
  refine g_iconst (v := 0) C dX6_lentOfClosed_2 (by decide) ?_
  refine g_istore_n C dX6_lentOfClosed_3 (by decide) [(2, .int 0), (1, .int 0), (0, .ref (ad 0))] rfl ?_
  exact g_sub [2, 1, 0] rfl (cl_X6_lentOfClosed_L4 C e gFu 0 0 h)
abbrev rm_X6_runs : Room := ({ frames := 2, cells := 0, slots := 0, locals := 45 } : Room)
def f_X6_runs_L7 (s : Nat → Int32) (t : Nat → Int32) (g : Nat → Int32) (v1 : Int32) : Nat → Int32 → Int32 → Int32 → Option Int32
  | 0, _, _, _ => none
  | fu + 1, v2, v3, v4 => if 64 ≤ v4 then if v1 = 0 then some v2 else some v3 else gb (f_X6_isRunStart s t g 0 v4) (fun r3 => if r3 = 0 then glet (v4 + 1) (fun x5 => f_X6_runs_L7 s t g v1 fu v2 v3 x5) else glet (v2 + 1) (fun x6 => gb (f_X6_runLength s t g 0 v4) (fun r7 => if r7 ≤ v3 then glet (v4 + 1) (fun x9 => f_X6_runs_L7 s t g v1 fu x6 v3 x9) else gb (f_X6_runLength s t g 0 v4) (fun r10 => glet (v4 + 1) (fun x11 => f_X6_runs_L7 s t g v1 fu x6 r10 x11)))))
def f_X6_runs (s : Nat → Int32) (t : Nat → Int32) (g : Nat → Int32) (v1 : Int32) : Option Int32 := f_X6_runs_L7 s t g v1 gFu 0 0 0
set_option maxHeartbeats 4000000 in
set_option maxRecDepth 100000 in
theorem cl_X6_runs_L7 {X : gX} {Z : gZ} {ad : Nat → Nat} {s : Nat → Int32} {t : Nat → Int32} {g : Nat → Int32} {r : Int32} (C : GC X Z cX6_runs 5 wsX6_runs RX6 rm_X6_runs 3 ad) (e : gEI X Z 3 ad .int r (mdlE Z.2.1 ad s t g)) (v1 : Int32) : ∀ (fu : Nat) (v2 : Int32) (v3 : Int32) (v4 : Int32) (h : f_X6_runs_L7 s t g v1 fu v2 v3 v4 = some r), GG X Z 5 3 ad (mdlE Z.2.1 ad s t g) 7 [(0, .ref (ad 0)), (1, .int v1), (2, .int v2), (3, .int v3), (4, .int v4)] [] := by
  intro fu
  induction fu with
  | zero => intro v2 v3 v4 h; cases h
  | succ fu ih =>
    intro v2 v3 v4 h
    rw [f_X6_runs_L7] at h
    refine g_iload C dX6_runs_7 4 rfl ?_
    refine g_bipush (v := 64) C dX6_runs_9 (by decide) ?_
    refine g_icmp_ge (tgt := 56) C dX6_runs_11 (by decide) (fun c1 => ?_) (fun c1 => ?_)
    · replace h := gi_pos c1 h
      refine g_iload_n C dX6_runs_56 1 rfl ?_
      refine g_if_eq (tgt := 64) C dX6_runs_57 (by decide) (fun c2 => ?_) (fun c2 => ?_)
      · replace h := gi_pos c2 h
        refine g_iload_n C dX6_runs_64 2 rfl ?_
        obtain rfl := gs1 h
        exact g_iret C e dX6_runs_65
      · replace h := gi_neg c2 h
        refine g_iload_n C dX6_runs_60 3 rfl ?_
        refine g_goto (tgt := 65) C dX6_runs_61 (by decide) ?_
        obtain rfl := gs1 h
        exact g_iret C e dX6_runs_65
    · replace h := gi_neg c1 h
      refine g_aload_n C dX6_runs_14 0 rfl ?_
      refine g_iconst (v := 0) C dX6_runs_15 (by decide) ?_
      refine g_iload C dX6_runs_16 4 rfl ?_
      obtain ⟨r3, er3, h⟩ := gb1 h
      refine g_callWi (rest := []) C gX6_runs_X6_isRunStart rfl ok_X6_isRunStart ⟨by decide, by decide⟩ ⟨rfl, rfl⟩ 0 (by decide) rfl rfl (fun hI => cn_X6_isRunStart X.2.1 Z ad hI s t g 0 v4 er3) rfl dX6_runs_18 rfl (Nat.le_of_ble_eq_true rfl) ?_
      refine g_if_eq (tgt := 50) C dX6_runs_21 (by decide) (fun c4 => ?_) (fun c4 => ?_)
      · replace h := gi_pos c4 h
        obtain ⟨x5, ex5, h⟩ := gl h
        refine g_iinc (v := x5) C dX6_runs_50 4 rfl (by rw [ex5]; rfl) (by decide) [(4, .int x5), (0, .ref (ad 0)), (1, .int v1), (2, .int v2), (3, .int v3)] rfl ?_
        refine g_goto (tgt := 7) C dX6_runs_53 (by decide) ?_
        exact g_sub [1, 2, 3, 4, 0] rfl (ih v2 v3 x5 h)
      · replace h := gi_neg c4 h
        obtain ⟨x6, ex6, h⟩ := gl h
        refine g_iinc (v := x6) C dX6_runs_24 2 rfl (by rw [ex6]; rfl) (by decide) [(2, .int x6), (0, .ref (ad 0)), (1, .int v1), (3, .int v3), (4, .int v4)] rfl ?_
        refine g_aload_n C dX6_runs_27 1 rfl ?_
        refine g_iconst (v := 0) C dX6_runs_28 (by decide) ?_
        refine g_iload C dX6_runs_29 4 rfl ?_
        obtain ⟨r7, er7, h⟩ := gb1 h
        refine g_callWi (rest := []) C gX6_runs_X6_runLength rfl ok_X6_runLength ⟨by decide, by decide⟩ ⟨rfl, rfl⟩ 0 (by decide) rfl rfl (fun hI => cn_X6_runLength X.2.1 Z ad hI s t g 0 v4 er7) rfl dX6_runs_31 rfl (Nat.le_of_ble_eq_true rfl) ?_
        refine g_iload_n C dX6_runs_34 3 rfl ?_
        refine g_icmp_le (tgt := 48) C dX6_runs_35 (by decide) (fun c8 => ?_) (fun c8 => ?_)
        · replace h := gi_pos c8 h
          refine g_iload_n C dX6_runs_48 3 rfl ?_
          refine g_istore_n C dX6_runs_49 (by decide) [(3, .int v3), (2, .int x6), (0, .ref (ad 0)), (1, .int v1), (4, .int v4)] rfl ?_
          obtain ⟨x9, ex9, h⟩ := gl h
          refine g_iinc (v := x9) C dX6_runs_50 4 rfl (by rw [ex9]; rfl) (by decide) [(4, .int x9), (3, .int v3), (2, .int x6), (0, .ref (ad 0)), (1, .int v1)] rfl ?_
          refine g_goto (tgt := 7) C dX6_runs_53 (by decide) ?_
          exact g_sub [3, 4, 2, 1, 0] rfl (ih x6 v3 x9 h)
        · replace h := gi_neg c8 h
          refine g_aload_n C dX6_runs_38 1 rfl ?_
          refine g_iconst (v := 0) C dX6_runs_39 (by decide) ?_
          refine g_iload C dX6_runs_40 4 rfl ?_
          obtain ⟨r10, er10, h⟩ := gb1 h
          refine g_callWi (rest := []) C gX6_runs_X6_runLength rfl ok_X6_runLength ⟨by decide, by decide⟩ ⟨rfl, rfl⟩ 0 (by decide) rfl rfl (fun hI => cn_X6_runLength X.2.1 Z ad hI s t g 0 v4 er10) rfl dX6_runs_42 rfl (Nat.le_of_ble_eq_true rfl) ?_
          refine g_goto (tgt := 49) C dX6_runs_45 (by decide) ?_
          refine g_istore_n C dX6_runs_49 (by decide) [(3, .int r10), (2, .int x6), (0, .ref (ad 0)), (1, .int v1), (4, .int v4)] rfl ?_
          obtain ⟨x11, ex11, h⟩ := gl h
          refine g_iinc (v := x11) C dX6_runs_50 4 rfl (by rw [ex11]; rfl) (by decide) [(4, .int x11), (3, .int r10), (2, .int x6), (0, .ref (ad 0)), (1, .int v1)] rfl ?_
          refine g_goto (tgt := 7) C dX6_runs_53 (by decide) ?_
          exact g_sub [3, 4, 2, 1, 0] rfl (ih x6 r10 x11 h)
set_option maxHeartbeats 4000000 in
set_option maxRecDepth 100000 in
theorem cn_X6_runs (l : Launch) (Z : gZ) (ad : Nat → Nat) (hI : gInj 3 ad) (s : Nat → Int32) (t : Nat → Int32) (g : Nat → Int32) (v1 : Int32) {r : Int32} (h : f_X6_runs s t g v1 = some r) : gI l yX6_runs wsX6_runs rm_X6_runs Z 3 ad [.ref (ad 0), .int v1] (mdlE Z.2.1 ad s t g) r (mdlE Z.2.1 ad s t g) := by
  refine g_entryI (cc := cX6_runs) (maxL := 5) (by decide +kernel) rfl hI (Nat.le_of_ble_eq_true rfl) (fun X C e => ?_)
  unfold f_X6_runs at h
  show GG X Z 5 3 ad (mdlE Z.2.1 ad s t g) 0 [(0, .ref (ad 0)), (1, .int v1)] []
  refine g_iconst (v := 0) C dX6_runs_0 (by decide) ?_
  refine g_istore_n C dX6_runs_1 (by decide) [(2, .int 0), (0, .ref (ad 0)), (1, .int v1)] rfl ?_
  refine g_iconst (v := 0) C dX6_runs_2 (by decide) ?_
  refine g_istore_n C dX6_runs_3 (by decide) [(3, .int 0), (2, .int 0), (0, .ref (ad 0)), (1, .int v1)] rfl ?_
  refine g_iconst (v := 0) C dX6_runs_4 (by decide) ?_
  refine g_istore C dX6_runs_5 (by decide) [(4, .int 0), (3, .int 0), (2, .int 0), (0, .ref (ad 0)), (1, .int v1)] rfl ?_
  exact g_sub [3, 4, 2, 1, 0] rfl (cl_X6_runs_L7 C e v1 gFu 0 0 0 h)
abbrev rm_X6_count : Room := ({ frames := 3, cells := 0, slots := 0, locals := 73 } : Room)
def f_X6_count (s : Nat → Int32) (t : Nat → Int32) (g : Nat → Int32) (v1 : Int32) : Option Int32 := if v1 = 0 then gb (f_X6_many s t g) (fun r2 => some r2) else if v1 = 1 then gb (f_X6_opened s t g) (fun r4 => some r4) else if v1 = 2 then gb (f_X6_free s t g 0) (fun r6 => some r6) else if v1 = 3 then gb (f_X6_free s t g 0) (fun r8 => gb (f_X6_sumOfLent s t g 0) (fun r9 => some ((64 - r8) - r9))) else if v1 = 4 then gb (f_X6_sumOfLent s t g 0) (fun r11 => some r11) else if v1 = 5 then gb (f_X6_lentOfClosed s t g) (fun r13 => some r13) else if v1 = 6 then gb (f_X6_runs s t g 0) (fun r15 => some r15) else if v1 = 7 then gb (f_X6_runs s t g 1) (fun r17 => some r17) else if v1 = 8 then gb (f_X6_allExtents s t g) (fun r19 => some r19) else if v1 = 9 then some (g 0) else if v1 = 10 then some (g 2) else some (-2)
set_option maxRecDepth 20000 in
theorem in_X6_count : ∀ w ∈ wsX60, w ∈ wsX6_count := by decide +kernel
set_option maxRecDepth 20000 in
theorem fl_X6_count_16 : Cond.fieldLink RX6 16 (TX6 1).1 (TX6 1).2.1 (TX6 1).2.2.1 ∈ wsX6_count := by decide +kernel
set_option maxRecDepth 20000 in
theorem fl_X6_count_145 : Cond.fieldLink RX6 145 (TX6 4).1 (TX6 4).2.1 (TX6 4).2.2.1 ∈ wsX6_count := by decide +kernel
set_option maxHeartbeats 4000000 in
set_option maxRecDepth 100000 in
theorem cn_X6_count (l : Launch) (Z : gZ) (ad : Nat → Nat) (hI : gInj 3 ad) (s : Nat → Int32) (t : Nat → Int32) (g : Nat → Int32) (v1 : Int32) {r : Int32} (h : f_X6_count s t g v1 = some r) : gI l yX6_count wsX6_count rm_X6_count Z 3 ad [.ref (ad 0), .int v1] (mdlE Z.2.1 ad s t g) r (mdlE Z.2.1 ad s t g) := by
  refine g_entryI (cc := cX6_count) (maxL := 2) (by decide +kernel) rfl hI (Nat.le_of_ble_eq_true rfl) (fun X C e => ?_)
  unfold f_X6_count at h
  show GG X Z 2 3 ad (mdlE Z.2.1 ad s t g) 0 [(0, .ref (ad 0)), (1, .int v1)] []
  refine g_iload_n C dX6_count_0 1 rfl ?_
  by_cases c1 : v1 = 0
  · replace h := gi_pos c1 h
    refine g_tableIn (tgt := 60) (off := 59) C 0 c1 dX6_count_1 (by decide) (by decide) (by decide) (by decide) ?_
    refine g_aload_n C dX6_count_60 0 rfl ?_
    obtain ⟨r2, er2, h⟩ := gb1 h
    refine g_callWi (rest := []) C gX6_count_X6_many rfl ok_X6_many ⟨by decide, by decide⟩ ⟨rfl, rfl⟩ 0 (by decide) rfl rfl (fun hI => cn_X6_many X.2.1 Z ad hI s t g  er2) rfl dX6_count_61 rfl (Nat.le_of_ble_eq_true rfl) ?_
    obtain rfl := gs1 h
    exact g_iret C e dX6_count_64
  · replace h := gi_neg c1 h
    by_cases c3 : v1 = 1
    · replace h := gi_pos c3 h
      refine g_tableIn (tgt := 65) (off := 64) C 1 c3 dX6_count_1 (by decide) (by decide) (by decide) (by decide) ?_
      refine g_aload_n C dX6_count_65 0 rfl ?_
      obtain ⟨r4, er4, h⟩ := gb1 h
      refine g_callWi (rest := []) C gX6_count_X6_opened rfl ok_X6_opened ⟨by decide, by decide⟩ ⟨rfl, rfl⟩ 0 (by decide) rfl rfl (fun hI => cn_X6_opened X.2.1 Z ad hI s t g  er4) rfl dX6_count_66 rfl (Nat.le_of_ble_eq_true rfl) ?_
      obtain rfl := gs1 h
      exact g_iret C e dX6_count_69
    · replace h := gi_neg c3 h
      by_cases c5 : v1 = 2
      · replace h := gi_pos c5 h
        refine g_tableIn (tgt := 70) (off := 69) C 2 c5 dX6_count_1 (by decide) (by decide) (by decide) (by decide) ?_
        refine g_aload_n C dX6_count_70 0 rfl ?_
        refine g_iconst (v := 0) C dX6_count_71 (by decide) ?_
        obtain ⟨r6, er6, h⟩ := gb1 h
        refine g_callWi (rest := []) C gX6_count_X6_free rfl ok_X6_free ⟨by decide, by decide⟩ ⟨rfl, rfl⟩ 0 (by decide) rfl rfl (fun hI => cn_X6_free X.2.1 Z ad hI s t g 0 er6) rfl dX6_count_72 rfl (Nat.le_of_ble_eq_true rfl) ?_
        obtain rfl := gs1 h
        exact g_iret C e dX6_count_75
      · replace h := gi_neg c5 h
        by_cases c7 : v1 = 3
        · replace h := gi_pos c7 h
          refine g_tableIn (tgt := 76) (off := 75) C 3 c7 dX6_count_1 (by decide) (by decide) (by decide) (by decide) ?_
          refine g_bipush (v := 64) C dX6_count_76 (by decide) ?_
          refine g_aload_n C dX6_count_78 0 rfl ?_
          refine g_iconst (v := 0) C dX6_count_79 (by decide) ?_
          obtain ⟨r8, er8, h⟩ := gb1 h
          refine g_callWi (rest := [.int 64]) C gX6_count_X6_free rfl ok_X6_free ⟨by decide, by decide⟩ ⟨rfl, rfl⟩ 0 (by decide) rfl rfl (fun hI => cn_X6_free X.2.1 Z ad hI s t g 0 er8) rfl dX6_count_80 rfl (Nat.le_of_ble_eq_true rfl) ?_
          refine g_isub C dX6_count_83 ?_
          refine g_aload_n C dX6_count_84 0 rfl ?_
          refine g_iconst (v := 0) C dX6_count_85 (by decide) ?_
          obtain ⟨r9, er9, h⟩ := gb1 h
          refine g_callWi (rest := [.int (64 - r8)]) C gX6_count_X6_sumOfLent rfl ok_X6_sumOfLent ⟨by decide, by decide⟩ ⟨rfl, rfl⟩ 0 (by decide) rfl rfl (fun hI => cn_X6_sumOfLent X.2.1 Z ad hI s t g 0 er9) rfl dX6_count_86 rfl (Nat.le_of_ble_eq_true rfl) ?_
          refine g_isub C dX6_count_89 ?_
          obtain rfl := gs1 h
          exact g_iret C e dX6_count_90
        · replace h := gi_neg c7 h
          by_cases c10 : v1 = 4
          · replace h := gi_pos c10 h
            refine g_tableIn (tgt := 91) (off := 90) C 4 c10 dX6_count_1 (by decide) (by decide) (by decide) (by decide) ?_
            refine g_aload_n C dX6_count_91 0 rfl ?_
            refine g_iconst (v := 0) C dX6_count_92 (by decide) ?_
            obtain ⟨r11, er11, h⟩ := gb1 h
            refine g_callWi (rest := []) C gX6_count_X6_sumOfLent rfl ok_X6_sumOfLent ⟨by decide, by decide⟩ ⟨rfl, rfl⟩ 0 (by decide) rfl rfl (fun hI => cn_X6_sumOfLent X.2.1 Z ad hI s t g 0 er11) rfl dX6_count_93 rfl (Nat.le_of_ble_eq_true rfl) ?_
            obtain rfl := gs1 h
            exact g_iret C e dX6_count_96
          · replace h := gi_neg c10 h
            by_cases c12 : v1 = 5
            · replace h := gi_pos c12 h
              refine g_tableIn (tgt := 97) (off := 96) C 5 c12 dX6_count_1 (by decide) (by decide) (by decide) (by decide) ?_
              refine g_aload_n C dX6_count_97 0 rfl ?_
              obtain ⟨r13, er13, h⟩ := gb1 h
              refine g_callWi (rest := []) C gX6_count_X6_lentOfClosed rfl ok_X6_lentOfClosed ⟨by decide, by decide⟩ ⟨rfl, rfl⟩ 0 (by decide) rfl rfl (fun hI => cn_X6_lentOfClosed X.2.1 Z ad hI s t g  er13) rfl dX6_count_98 rfl (Nat.le_of_ble_eq_true rfl) ?_
              obtain rfl := gs1 h
              exact g_iret C e dX6_count_101
            · replace h := gi_neg c12 h
              by_cases c14 : v1 = 6
              · replace h := gi_pos c14 h
                refine g_tableIn (tgt := 102) (off := 101) C 6 c14 dX6_count_1 (by decide) (by decide) (by decide) (by decide) ?_
                refine g_aload_n C dX6_count_102 0 rfl ?_
                refine g_iconst (v := 0) C dX6_count_103 (by decide) ?_
                obtain ⟨r15, er15, h⟩ := gb1 h
                refine g_callWi (rest := []) C gX6_count_X6_runs rfl ok_X6_runs ⟨by decide, by decide⟩ ⟨rfl, rfl⟩ 0 (by decide) rfl rfl (fun hI => cn_X6_runs X.2.1 Z ad hI s t g 0 er15) rfl dX6_count_104 rfl (Nat.le_of_ble_eq_true rfl) ?_
                obtain rfl := gs1 h
                exact g_iret C e dX6_count_107
              · replace h := gi_neg c14 h
                by_cases c16 : v1 = 7
                · replace h := gi_pos c16 h
                  refine g_tableIn (tgt := 108) (off := 107) C 7 c16 dX6_count_1 (by decide) (by decide) (by decide) (by decide) ?_
                  refine g_aload_n C dX6_count_108 0 rfl ?_
                  refine g_iconst (v := 1) C dX6_count_109 (by decide) ?_
                  obtain ⟨r17, er17, h⟩ := gb1 h
                  refine g_callWi (rest := []) C gX6_count_X6_runs rfl ok_X6_runs ⟨by decide, by decide⟩ ⟨rfl, rfl⟩ 0 (by decide) rfl rfl (fun hI => cn_X6_runs X.2.1 Z ad hI s t g 1 er17) rfl dX6_count_110 rfl (Nat.le_of_ble_eq_true rfl) ?_
                  obtain rfl := gs1 h
                  exact g_iret C e dX6_count_113
                · replace h := gi_neg c16 h
                  by_cases c18 : v1 = 8
                  · replace h := gi_pos c18 h
                    refine g_tableIn (tgt := 114) (off := 113) C 8 c18 dX6_count_1 (by decide) (by decide) (by decide) (by decide) ?_
                    refine g_aload_n C dX6_count_114 0 rfl ?_
                    obtain ⟨r19, er19, h⟩ := gb1 h
                    refine g_callWi (rest := []) C gX6_count_X6_allExtents rfl ok_X6_allExtents ⟨by decide, by decide⟩ ⟨rfl, rfl⟩ 0 (by decide) rfl rfl (fun hI => cn_X6_allExtents X.2.1 Z ad hI s t g  er19) rfl dX6_count_115 rfl (Nat.le_of_ble_eq_true rfl) ?_
                    obtain rfl := gs1 h
                    exact g_iret C e dX6_count_118
                  · replace h := gi_neg c18 h
                    by_cases c20 : v1 = 9
                    · replace h := gi_pos c20 h
                      refine g_tableIn (tgt := 119) (off := 118) C 9 c20 dX6_count_1 (by decide) (by decide) (by decide) (by decide) ?_
                      refine g_aload_n C dX6_count_119 0 rfl ?_
                      refine g_getf (v := .int (g 0)) C 0 (by decide) rfl rfl in_X6_count 1 (by decide) fl_X6_count_16 rfl dX6_count_120 ?_
                      obtain rfl := gs1 h
                      exact g_iret C e dX6_count_123
                    · replace h := gi_neg c20 h
                      by_cases c21 : v1 = 10
                      · replace h := gi_pos c21 h
                        refine g_tableIn (tgt := 124) (off := 123) C 10 c21 dX6_count_1 (by decide) (by decide) (by decide) (by decide) ?_
                        refine g_aload_n C dX6_count_124 0 rfl ?_
                        refine g_getf (v := .int (g 2)) C 0 (by decide) rfl rfl in_X6_count 4 (by decide) fl_X6_count_145 rfl dX6_count_125 ?_
                        obtain rfl := gs1 h
                        exact g_iret C e dX6_count_128
                      · replace h := gi_neg c21 h
                        refine g_tableOut (tgt := 129) C dX6_count_1 (by have nc1 := g_ne (a := 0) c1 (by decide); have nc3 := g_ne (a := 1) c3 (by decide); have nc5 := g_ne (a := 2) c5 (by decide); have nc7 := g_ne (a := 3) c7 (by decide); have nc10 := g_ne (a := 4) c10 (by decide); have nc12 := g_ne (a := 5) c12 (by decide); have nc14 := g_ne (a := 6) c14 (by decide); have nc16 := g_ne (a := 7) c16 (by decide); have nc18 := g_ne (a := 8) c18 (by decide); have nc20 := g_ne (a := 9) c20 (by decide); have nc21 := g_ne (a := 10) c21 (by decide); omega) (by decide) ?_
                        refine g_bipush (v := (-2)) C dX6_count_129 (by decide) ?_
                        obtain rfl := gs1 h
                        exact g_iret C e dX6_count_131
abbrev rm_X6_total : Room := ({ frames := 1, cells := 0, slots := 0, locals := 22 } : Room)
def f_X6_total (s : Nat → Int32) (t : Nat → Int32) (g : Nat → Int32) (v1 : Int32) : Option Int32 := gb (f_X6_in v1 0 3) (fun r1 => if r1 = 0 then some (-2) else if 0 ≤ (242 + v1) ∧ ((242 + v1)).toNatClampNeg < 1968 then some (s ((242 + v1)).toNatClampNeg) else none)
set_option maxRecDepth 20000 in
theorem in_X6_total : ∀ w ∈ wsX60, w ∈ wsX6_total := by decide +kernel
set_option maxRecDepth 20000 in
theorem fl_X6_total_7 : Cond.fieldLink RX6 7 (TX6 0).1 (TX6 0).2.1 (TX6 0).2.2.1 ∈ wsX6_total := by decide +kernel
set_option maxHeartbeats 4000000 in
set_option maxRecDepth 100000 in
theorem cn_X6_total (l : Launch) (Z : gZ) (ad : Nat → Nat) (hI : gInj 3 ad) (s : Nat → Int32) (t : Nat → Int32) (g : Nat → Int32) (v1 : Int32) {r : Int32} (h : f_X6_total s t g v1 = some r) : gI l yX6_total wsX6_total rm_X6_total Z 3 ad [.ref (ad 0), .int v1] (mdlE Z.2.1 ad s t g) r (mdlE Z.2.1 ad s t g) := by
  refine g_entryI (cc := cX6_total) (maxL := 2) (by decide +kernel) rfl hI (Nat.le_of_ble_eq_true rfl) (fun X C e => ?_)
  unfold f_X6_total at h
  show GG X Z 2 3 ad (mdlE Z.2.1 ad s t g) 0 [(0, .ref (ad 0)), (1, .int v1)] []
  refine g_iload_n C dX6_total_0 1 rfl ?_
  refine g_iconst (v := 0) C dX6_total_1 (by decide) ?_
  refine g_iconst (v := 3) C dX6_total_2 (by decide) ?_
  obtain ⟨r1, er1, h⟩ := gb1 h
  refine g_callSi (rest := []) C gX6_total_X6_in rfl ok_X6_in ⟨by decide, by decide⟩ ⟨rfl, rfl⟩ (cn_X6_in X.2.1 Z v1 0 3 er1) rfl dX6_total_3 rfl (Nat.le_of_ble_eq_true rfl) ?_
  refine g_if_eq (tgt := 22) C dX6_total_6 (by decide) (fun c2 => ?_) (fun c2 => ?_)
  · replace h := gi_pos c2 h
    refine g_bipush (v := (-2)) C dX6_total_22 (by decide) ?_
    obtain rfl := gs1 h
    exact g_iret C e dX6_total_24
  · replace h := gi_neg c2 h
    refine g_aload_n C dX6_total_9 0 rfl ?_
    refine g_getf (v := .ref (ad 1)) C 0 (by decide) rfl rfl in_X6_total 0 (by decide) fl_X6_total_7 rfl dX6_total_10 ?_
    refine g_sipush (v := 242) C dX6_total_13 (by decide) ?_
    refine g_iload_n C dX6_total_16 1 rfl ?_
    refine g_iadd C dX6_total_17 ?_
    obtain ⟨b3, h⟩ := gguard h
    refine g_iald C 1 (by decide) rfl (g_in b3) dX6_total_18 ?_
    refine g_goto (tgt := 24) C dX6_total_19 (by decide) ?_
    obtain rfl := gs1 h
    exact g_iret C e dX6_total_24
abbrev rm_X6_ifAppended : Room := ({ frames := 5, cells := 0, slots := 0, locals := 125 } : Room)
def f_X6_ifAppended (s : Nat → Int32) (t : Nat → Int32) (g : Nat → Int32) (v1 : Int32) (v2 : Int32) (v3 : Int32) : Option (Int32 × (Nat → Int32)) := gb (f_X6_isThere s t g v1) (fun r1 => if r1 = 0 then some ((-1), s) else gb (f_X6_in v2 1 64) (fun r3 => if r3 = 0 then some ((-2), s) else gb (f_X6_in v3 0 2) (fun r5 => if r5 = 0 then some ((-2), s) else gb (f_X6_isOpen s t g v1) (fun r7 => if r7 = 0 then some ((-4), s) else gb (f_X6_canAppend s t g v1 v2) (fun r9 => if r9 = 0 then some ((-4), s) else gb (f_X6_copies s t g 0 7) (fun s11 => gbb2 (f_X6_appends s11 t g 1722 v1 v2 0) (fun r12 s13 => if v3 = 0 then some (r12, s13) else if v3 = 1 then gb (f_X6_lent s13 t g 1722 v1) (fun r17 => some (r17, s13)) else gb (f_X6_free s13 t g 1722) (fun r16 => some (r16, s13)))))))))
set_option maxHeartbeats 4000000 in
set_option maxRecDepth 100000 in
theorem cn_X6_ifAppended (l : Launch) (Z : gZ) (ad : Nat → Nat) (hI : gInj 3 ad) (s : Nat → Int32) (t : Nat → Int32) (g : Nat → Int32) (v1 : Int32) (v2 : Int32) (v3 : Int32) {r : Int32} {s' : Nat → Int32} (h : f_X6_ifAppended s t g v1 v2 v3 = some (r, s')) : gI l yX6_ifAppended wsX6_ifAppended rm_X6_ifAppended Z 3 ad [.ref (ad 0), .int v1, .int v2, .int v3] (mdlE Z.2.1 ad s t g) r (mdlE Z.2.1 ad s' t g) := by
  refine g_entryI (cc := cX6_ifAppended) (maxL := 6) (by decide +kernel) rfl hI (Nat.le_of_ble_eq_true rfl) (fun X C e => ?_)
  unfold f_X6_ifAppended at h
  show GG X Z 6 3 ad (mdlE Z.2.1 ad s t g) 0 [(0, .ref (ad 0)), (1, .int v1), (2, .int v2), (3, .int v3)] []
  refine g_aload_n C dX6_ifAppended_0 0 rfl ?_
  refine g_iload_n C dX6_ifAppended_1 1 rfl ?_
  obtain ⟨r1, er1, h⟩ := gb1 h
  refine g_callWi (rest := []) C gX6_ifAppended_X6_isThere rfl ok_X6_isThere ⟨by decide, by decide⟩ ⟨rfl, rfl⟩ 0 (by decide) rfl rfl (fun hI => cn_X6_isThere X.2.1 Z ad hI s t g v1 er1) rfl dX6_ifAppended_2 rfl (Nat.le_of_ble_eq_true rfl) ?_
  refine g_if_ne (tgt := 10) C dX6_ifAppended_5 (by decide) (fun c2 => ?_) (fun c2 => ?_)
  · replace h := gi_neg c2 h
    refine g_iload_n C dX6_ifAppended_10 2 rfl ?_
    refine g_iconst (v := 1) C dX6_ifAppended_11 (by decide) ?_
    refine g_bipush (v := 64) C dX6_ifAppended_12 (by decide) ?_
    obtain ⟨r3, er3, h⟩ := gb1 h
    refine g_callSi (rest := []) C gX6_ifAppended_X6_in rfl ok_X6_in ⟨by decide, by decide⟩ ⟨rfl, rfl⟩ (cn_X6_in X.2.1 Z v2 1 64 er3) rfl dX6_ifAppended_14 rfl (Nat.le_of_ble_eq_true rfl) ?_
    refine g_if_eq (tgt := 29) C dX6_ifAppended_17 (by decide) (fun c4 => ?_) (fun c4 => ?_)
    · replace h := gi_pos c4 h
      refine g_bipush (v := (-2)) C dX6_ifAppended_29 (by decide) ?_
      obtain ⟨rfl, rfl⟩ := gs2 h
      exact g_iret C e dX6_ifAppended_31
    · replace h := gi_neg c4 h
      refine g_iload_n C dX6_ifAppended_20 3 rfl ?_
      refine g_iconst (v := 0) C dX6_ifAppended_21 (by decide) ?_
      refine g_iconst (v := 2) C dX6_ifAppended_22 (by decide) ?_
      obtain ⟨r5, er5, h⟩ := gb1 h
      refine g_callSi (rest := []) C gX6_ifAppended_X6_in rfl ok_X6_in ⟨by decide, by decide⟩ ⟨rfl, rfl⟩ (cn_X6_in X.2.1 Z v3 0 2 er5) rfl dX6_ifAppended_23 rfl (Nat.le_of_ble_eq_true rfl) ?_
      refine g_if_ne (tgt := 32) C dX6_ifAppended_26 (by decide) (fun c6 => ?_) (fun c6 => ?_)
      · replace h := gi_neg c6 h
        refine g_aload_n C dX6_ifAppended_32 0 rfl ?_
        refine g_iload_n C dX6_ifAppended_33 1 rfl ?_
        obtain ⟨r7, er7, h⟩ := gb1 h
        refine g_callWi (rest := []) C gX6_ifAppended_X6_isOpen rfl ok_X6_isOpen ⟨by decide, by decide⟩ ⟨rfl, rfl⟩ 0 (by decide) rfl rfl (fun hI => cn_X6_isOpen X.2.1 Z ad hI s t g v1 er7) rfl dX6_ifAppended_34 rfl (Nat.le_of_ble_eq_true rfl) ?_
        refine g_if_eq (tgt := 49) C dX6_ifAppended_37 (by decide) (fun c8 => ?_) (fun c8 => ?_)
        · replace h := gi_pos c8 h
          refine g_bipush (v := (-4)) C dX6_ifAppended_49 (by decide) ?_
          obtain ⟨rfl, rfl⟩ := gs2 h
          exact g_iret C e dX6_ifAppended_51
        · replace h := gi_neg c8 h
          refine g_aload_n C dX6_ifAppended_40 0 rfl ?_
          refine g_iload_n C dX6_ifAppended_41 1 rfl ?_
          refine g_iload_n C dX6_ifAppended_42 2 rfl ?_
          obtain ⟨r9, er9, h⟩ := gb1 h
          refine g_callWi (rest := []) C gX6_ifAppended_X6_canAppend rfl ok_X6_canAppend ⟨by decide, by decide⟩ ⟨rfl, rfl⟩ 0 (by decide) rfl rfl (fun hI => cn_X6_canAppend X.2.1 Z ad hI s t g v1 v2 er9) rfl dX6_ifAppended_43 rfl (Nat.le_of_ble_eq_true rfl) ?_
          refine g_if_ne (tgt := 52) C dX6_ifAppended_46 (by decide) (fun c10 => ?_) (fun c10 => ?_)
          · replace h := gi_neg c10 h
            refine g_aload_n C dX6_ifAppended_52 0 rfl ?_
            refine g_iconst (v := 0) C dX6_ifAppended_53 (by decide) ?_
            refine g_bipush (v := 7) C dX6_ifAppended_54 (by decide) ?_
            obtain ⟨s11, es11, h⟩ := gb1 h
            refine g_callWv (rest := []) C gX6_ifAppended_X6_copies rfl ok_X6_copies ⟨by decide, by decide⟩ ⟨rfl, rfl⟩ 0 (by decide) rfl rfl (fun hI => cn_X6_copies X.2.1 Z ad hI s t g 0 7 es11) rfl dX6_ifAppended_56 rfl (Nat.le_of_ble_eq_true rfl) ?_
            refine g_sipush (v := 1722) C dX6_ifAppended_59 (by decide) ?_
            refine g_istore C dX6_ifAppended_62 (by decide) [(4, .int 1722), (0, .ref (ad 0)), (1, .int v1), (2, .int v2), (3, .int v3)] rfl ?_
            refine g_aload_n C dX6_ifAppended_64 1 rfl ?_
            refine g_iload C dX6_ifAppended_65 0 rfl ?_
            refine g_iload_n C dX6_ifAppended_67 2 rfl ?_
            refine g_iload_n C dX6_ifAppended_68 3 rfl ?_
            refine g_iconst (v := 0) C dX6_ifAppended_69 (by decide) ?_
            obtain ⟨r12, s13, er12, h⟩ := gb2 h
            refine g_callWi (rest := []) C gX6_ifAppended_X6_appends rfl ok_X6_appends ⟨by decide, by decide⟩ ⟨rfl, rfl⟩ 0 (by decide) rfl rfl (fun hI => cn_X6_appends X.2.1 Z ad hI s11 t g 1722 v1 v2 0 er12) rfl dX6_ifAppended_70 rfl (Nat.le_of_ble_eq_true rfl) ?_
            refine g_istore C dX6_ifAppended_73 (by decide) [(5, .int r12), (4, .int 1722), (0, .ref (ad 0)), (1, .int v1), (2, .int v2), (3, .int v3)] rfl ?_
            refine g_iload_n C dX6_ifAppended_75 5 rfl ?_
            refine g_if_ne (tgt := 84) C dX6_ifAppended_76 (by decide) (fun c14 => ?_) (fun c14 => ?_)
            · replace h := gi_neg c14 h
              refine g_iload_n C dX6_ifAppended_84 5 rfl ?_
              refine g_iconst (v := 1) C dX6_ifAppended_85 (by decide) ?_
              refine g_icmp_ne (tgt := 99) C dX6_ifAppended_86 (by decide) (fun c15 => ?_) (fun c15 => ?_)
              · replace h := gi_neg c15 h
                refine g_aload_n C dX6_ifAppended_99 2 rfl ?_
                refine g_iload C dX6_ifAppended_100 1 rfl ?_
                obtain ⟨r16, er16, h⟩ := gb1 h
                refine g_callWi (rest := []) C gX6_ifAppended_X6_free rfl ok_X6_free ⟨by decide, by decide⟩ ⟨rfl, rfl⟩ 0 (by decide) rfl rfl (fun hI => cn_X6_free X.2.1 Z ad hI s13 t g 1722 er16) rfl dX6_ifAppended_102 rfl (Nat.le_of_ble_eq_true rfl) ?_
                obtain ⟨rfl, rfl⟩ := gs2 h
                exact g_iret C e dX6_ifAppended_105
              · replace h := gi_pos c15 h
                refine g_aload_n C dX6_ifAppended_89 2 rfl ?_
                refine g_iload C dX6_ifAppended_90 1 rfl ?_
                refine g_iload_n C dX6_ifAppended_92 3 rfl ?_
                obtain ⟨r17, er17, h⟩ := gb1 h
                refine g_callWi (rest := []) C gX6_ifAppended_X6_lent rfl ok_X6_lent ⟨by decide, by decide⟩ ⟨rfl, rfl⟩ 0 (by decide) rfl rfl (fun hI => cn_X6_lent X.2.1 Z ad hI s13 t g 1722 v1 er17) rfl dX6_ifAppended_93 rfl (Nat.le_of_ble_eq_true rfl) ?_
                refine g_goto (tgt := 105) C dX6_ifAppended_96 (by decide) ?_
                obtain ⟨rfl, rfl⟩ := gs2 h
                exact g_iret C e dX6_ifAppended_105
            · replace h := gi_pos c14 h
              refine g_iload C dX6_ifAppended_79 0 rfl ?_
              refine g_goto (tgt := 105) C dX6_ifAppended_81 (by decide) ?_
              obtain ⟨rfl, rfl⟩ := gs2 h
              exact g_iret C e dX6_ifAppended_105
          · replace h := gi_pos c10 h
            refine g_bipush (v := (-4)) C dX6_ifAppended_49 (by decide) ?_
            obtain ⟨rfl, rfl⟩ := gs2 h
            exact g_iret C e dX6_ifAppended_51
      · replace h := gi_pos c6 h
        refine g_bipush (v := (-2)) C dX6_ifAppended_29 (by decide) ?_
        obtain ⟨rfl, rfl⟩ := gs2 h
        exact g_iret C e dX6_ifAppended_31
  · replace h := gi_pos c2 h
    refine g_iconst (v := (-1)) C dX6_ifAppended_8 (by decide) ?_
    obtain ⟨rfl, rfl⟩ := gs2 h
    exact g_iret C e dX6_ifAppended_9
abbrev rm_X6_room : Room := ({ frames := 3, cells := 0, slots := 0, locals := 67 } : Room)
def f_X6_room (s : Nat → Int32) (t : Nat → Int32) (g : Nat → Int32) (v1 : Int32) : Option Int32 := gb (f_X6_isThere s t g v1) (fun r1 => if r1 = 0 then some (-1) else gb (f_X6_isOpen s t g v1) (fun r3 => if r3 = 0 then some (-4) else gb (f_X6_sumOfLent s t g 0) (fun r5 => gb (f_X6_free s t g 0) (fun r6 => some (r5 + r6)))))
set_option maxHeartbeats 4000000 in
set_option maxRecDepth 100000 in
theorem cn_X6_room (l : Launch) (Z : gZ) (ad : Nat → Nat) (hI : gInj 3 ad) (s : Nat → Int32) (t : Nat → Int32) (g : Nat → Int32) (v1 : Int32) {r : Int32} (h : f_X6_room s t g v1 = some r) : gI l yX6_room wsX6_room rm_X6_room Z 3 ad [.ref (ad 0), .int v1] (mdlE Z.2.1 ad s t g) r (mdlE Z.2.1 ad s t g) := by
  refine g_entryI (cc := cX6_room) (maxL := 2) (by decide +kernel) rfl hI (Nat.le_of_ble_eq_true rfl) (fun X C e => ?_)
  unfold f_X6_room at h
  show GG X Z 2 3 ad (mdlE Z.2.1 ad s t g) 0 [(0, .ref (ad 0)), (1, .int v1)] []
  refine g_aload_n C dX6_room_0 0 rfl ?_
  refine g_iload_n C dX6_room_1 1 rfl ?_
  obtain ⟨r1, er1, h⟩ := gb1 h
  refine g_callWi (rest := []) C gX6_room_X6_isThere rfl ok_X6_isThere ⟨by decide, by decide⟩ ⟨rfl, rfl⟩ 0 (by decide) rfl rfl (fun hI => cn_X6_isThere X.2.1 Z ad hI s t g v1 er1) rfl dX6_room_2 rfl (Nat.le_of_ble_eq_true rfl) ?_
  refine g_if_ne (tgt := 12) C dX6_room_5 (by decide) (fun c2 => ?_) (fun c2 => ?_)
  · replace h := gi_neg c2 h
    refine g_aload_n C dX6_room_12 0 rfl ?_
    refine g_iload_n C dX6_room_13 1 rfl ?_
    obtain ⟨r3, er3, h⟩ := gb1 h
    refine g_callWi (rest := []) C gX6_room_X6_isOpen rfl ok_X6_isOpen ⟨by decide, by decide⟩ ⟨rfl, rfl⟩ 0 (by decide) rfl rfl (fun hI => cn_X6_isOpen X.2.1 Z ad hI s t g v1 er3) rfl dX6_room_14 rfl (Nat.le_of_ble_eq_true rfl) ?_
    refine g_if_ne (tgt := 25) C dX6_room_17 (by decide) (fun c4 => ?_) (fun c4 => ?_)
    · replace h := gi_neg c4 h
      refine g_aload_n C dX6_room_25 0 rfl ?_
      refine g_iconst (v := 0) C dX6_room_26 (by decide) ?_
      obtain ⟨r5, er5, h⟩ := gb1 h
      refine g_callWi (rest := []) C gX6_room_X6_sumOfLent rfl ok_X6_sumOfLent ⟨by decide, by decide⟩ ⟨rfl, rfl⟩ 0 (by decide) rfl rfl (fun hI => cn_X6_sumOfLent X.2.1 Z ad hI s t g 0 er5) rfl dX6_room_27 rfl (Nat.le_of_ble_eq_true rfl) ?_
      refine g_aload_n C dX6_room_30 0 rfl ?_
      refine g_iconst (v := 0) C dX6_room_31 (by decide) ?_
      obtain ⟨r6, er6, h⟩ := gb1 h
      refine g_callWi (rest := [.int r5]) C gX6_room_X6_free rfl ok_X6_free ⟨by decide, by decide⟩ ⟨rfl, rfl⟩ 0 (by decide) rfl rfl (fun hI => cn_X6_free X.2.1 Z ad hI s t g 0 er6) rfl dX6_room_32 rfl (Nat.le_of_ble_eq_true rfl) ?_
      refine g_iadd C dX6_room_35 ?_
      obtain rfl := gs1 h
      exact g_iret C e dX6_room_36
    · replace h := gi_pos c4 h
      refine g_bipush (v := (-4)) C dX6_room_20 (by decide) ?_
      refine g_goto (tgt := 36) C dX6_room_22 (by decide) ?_
      obtain rfl := gs1 h
      exact g_iret C e dX6_room_36
  · replace h := gi_pos c2 h
    refine g_iconst (v := (-1)) C dX6_room_8 (by decide) ?_
    refine g_goto (tgt := 36) C dX6_room_9 (by decide) ?_
    obtain rfl := gs1 h
    exact g_iret C e dX6_room_36
