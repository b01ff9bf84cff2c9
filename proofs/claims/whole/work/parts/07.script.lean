set_option maxRecDepth 20000 in
theorem ggX4_init_X3_init : GoodIn wsX4_init wsX3_init := goodIn_r _ [11, 12, 2, 3, 13, 14, 15, 16, 17, 18, 19] (by decide +kernel) (by decide +kernel)
set_option maxRecDepth 20000 in
theorem gX4_init_X3_init : GoodIn wsX4_init (wsX3_init) := ggX4_init_X3_init
theorem dX4_init_0 : decode cX4_init 0 = .ok (.aload_n 0, 1) := by decide +kernel
theorem dX4_init_1 : decode cX4_init 1 = .ok (.invokespecial 3, 3) := by decide +kernel
theorem dX4_init_4 : decode cX4_init 4 = .ok (.aload_n 0, 1) := by decide +kernel
theorem dX4_init_5 : decode cX4_init 5 = .ok (.new 9, 3) := by decide +kernel
theorem dX4_init_8 : decode cX4_init 8 = .ok (.dup, 1) := by decide +kernel
theorem dX4_init_9 : decode cX4_init 9 = .ok (.bipush 80, 2) := by decide +kernel
theorem dX4_init_11 : decode cX4_init 11 = .ok (.iconst 0, 1) := by decide +kernel
theorem dX4_init_12 : decode cX4_init 12 = .ok (.invokespecial 11, 3) := by decide +kernel
theorem dX4_init_15 : decode cX4_init 15 = .ok (.putfield 14, 3) := by decide +kernel
theorem dX4_init_18 : decode cX4_init 18 = .ok (.aload_n 0, 1) := by decide +kernel
theorem dX4_init_19 : decode cX4_init 19 = .ok (.iconst 0, 1) := by decide +kernel
theorem dX4_init_20 : decode cX4_init 20 = .ok (.putfield 20, 3) := by decide +kernel
theorem dX4_init_23 : decode cX4_init 23 = .ok (.return_, 1) := by decide +kernel
theorem dX4_length_0 : decode cX4_length 0 = .ok (.aload_n 0, 1) := by decide +kernel
theorem dX4_length_1 : decode cX4_length 1 = .ok (.getfield 20, 3) := by decide +kernel
theorem dX4_length_4 : decode cX4_length 4 = .ok (.ireturn, 1) := by decide +kernel
set_option maxRecDepth 20000 in
theorem ggX4_characterAt_X3_at : GoodIn wsX4_characterAt wsX3_at := goodIn_r _ [6, 7, 10] (by decide +kernel) (by decide +kernel)
set_option maxRecDepth 20000 in
theorem gX4_characterAt_X3_at : GoodIn wsX4_characterAt (wsV RX4 24 RX3 yX3_at wsX3_at) := goodIn_app (goodIn_of _ (by decide +kernel)) ggX4_characterAt_X3_at
theorem dX4_characterAt_0 : decode cX4_characterAt 0 = .ok (.aload_n 0, 1) := by decide +kernel
theorem dX4_characterAt_1 : decode cX4_characterAt 1 = .ok (.getfield 14, 3) := by decide +kernel
theorem dX4_characterAt_4 : decode cX4_characterAt 4 = .ok (.iload_n 1, 1) := by decide +kernel
theorem dX4_characterAt_5 : decode cX4_characterAt 5 = .ok (.invokevirtual 24, 3) := by decide +kernel
theorem dX4_characterAt_8 : decode cX4_characterAt 8 = .ok (.ireturn, 1) := by decide +kernel
set_option maxRecDepth 20000 in
theorem ggX4_addCharacter_X3_put : GoodIn wsX4_addCharacter wsX3_put := goodIn_r _ [7, 8, 11] (by decide +kernel) (by decide +kernel)
set_option maxRecDepth 20000 in
theorem gX4_addCharacter_X3_put : GoodIn wsX4_addCharacter (wsV RX4 28 RX3 yX3_put wsX3_put) := goodIn_app (goodIn_of _ (by decide +kernel)) ggX4_addCharacter_X3_put
theorem dX4_addCharacter_0 : decode cX4_addCharacter 0 = .ok (.aload_n 0, 1) := by decide +kernel
theorem dX4_addCharacter_1 : decode cX4_addCharacter 1 = .ok (.getfield 20, 3) := by decide +kernel
theorem dX4_addCharacter_4 : decode cX4_addCharacter 4 = .ok (.bipush 80, 2) := by decide +kernel
theorem dX4_addCharacter_6 : decode cX4_addCharacter 6 = .ok (.if_icmp .lt 5, 3) := by decide +kernel
theorem dX4_addCharacter_9 : decode cX4_addCharacter 9 = .ok (.iconst 0, 1) := by decide +kernel
theorem dX4_addCharacter_10 : decode cX4_addCharacter 10 = .ok (.ireturn, 1) := by decide +kernel
theorem dX4_addCharacter_11 : decode cX4_addCharacter 11 = .ok (.aload_n 0, 1) := by decide +kernel
theorem dX4_addCharacter_12 : decode cX4_addCharacter 12 = .ok (.getfield 14, 3) := by decide +kernel
theorem dX4_addCharacter_15 : decode cX4_addCharacter 15 = .ok (.aload_n 0, 1) := by decide +kernel
theorem dX4_addCharacter_16 : decode cX4_addCharacter 16 = .ok (.getfield 20, 3) := by decide +kernel
theorem dX4_addCharacter_19 : decode cX4_addCharacter 19 = .ok (.iload_n 1, 1) := by decide +kernel
theorem dX4_addCharacter_20 : decode cX4_addCharacter 20 = .ok (.invokevirtual 28, 3) := by decide +kernel
theorem dX4_addCharacter_23 : decode cX4_addCharacter 23 = .ok (.aload_n 0, 1) := by decide +kernel
theorem dX4_addCharacter_24 : decode cX4_addCharacter 24 = .ok (.dup, 1) := by decide +kernel
theorem dX4_addCharacter_25 : decode cX4_addCharacter 25 = .ok (.getfield 20, 3) := by decide +kernel
theorem dX4_addCharacter_28 : decode cX4_addCharacter 28 = .ok (.iconst 1, 1) := by decide +kernel
theorem dX4_addCharacter_29 : decode cX4_addCharacter 29 = .ok (.iadd, 1) := by decide +kernel
theorem dX4_addCharacter_30 : decode cX4_addCharacter 30 = .ok (.putfield 20, 3) := by decide +kernel
theorem dX4_addCharacter_33 : decode cX4_addCharacter 33 = .ok (.iconst 1, 1) := by decide +kernel
theorem dX4_addCharacter_34 : decode cX4_addCharacter 34 = .ok (.ireturn, 1) := by decide +kernel
theorem dX4_empty_0 : decode cX4_empty 0 = .ok (.aload_n 0, 1) := by decide +kernel
theorem dX4_empty_1 : decode cX4_empty 1 = .ok (.iconst 0, 1) := by decide +kernel
theorem dX4_empty_2 : decode cX4_empty 2 = .ok (.putfield 20, 3) := by decide +kernel
theorem dX4_empty_5 : decode cX4_empty 5 = .ok (.return_, 1) := by decide +kernel
set_option maxRecDepth 20000 in
theorem ggX4_firstFault_X2_begin : GoodIn wsX4_firstFault wsX2_begin := goodIn_r _ [7, 8, 61, 62, 63, 64, 65] (by decide +kernel) (by decide +kernel)
set_option maxRecDepth 20000 in
theorem gX4_firstFault_X2_begin : GoodIn wsX4_firstFault (wsV RX4 31 RX2 yX2_begin wsX2_begin) := goodIn_app (goodIn_of _ (by decide +kernel)) ggX4_firstFault_X2_begin
set_option maxRecDepth 20000 in
theorem ggX4_firstFault_X3_at : GoodIn wsX4_firstFault wsX3_at := goodIn_r _ [13, 14, 66] (by decide +kernel) (by decide +kernel)
set_option maxRecDepth 20000 in
theorem gX4_firstFault_X3_at : GoodIn wsX4_firstFault (wsV RX4 24 RX3 yX3_at wsX3_at) := goodIn_app (goodIn_of _ (by decide +kernel)) ggX4_firstFault_X3_at
set_option maxRecDepth 20000 in
theorem ggX4_firstFault_X2_takes : GoodIn wsX4_firstFault wsX2_takes := goodIn_r _ [18, 8, 19, 20, 21, 6, 22, 23, 24, 25, 26, 27, 28, 29, 30, 31, 32, 33, 34, 35, 36, 37, 38, 39, 40, 41, 42, 43, 44, 45, 46, 47, 48, 49, 50, 51, 52, 53, 54, 55, 56, 57, 61, 62, 63, 64, 65] (by decide +kernel) (by decide +kernel)
set_option maxRecDepth 20000 in
theorem gX4_firstFault_X2_takes : GoodIn wsX4_firstFault (wsV RX4 36 RX2 yX2_takes wsX2_takes) := goodIn_app (goodIn_of _ (by decide +kernel)) ggX4_firstFault_X2_takes
set_option maxRecDepth 20000 in
theorem ggX4_firstFault_X2_isWhole : GoodIn wsX4_firstFault wsX2_isWhole := goodIn_r _ [22, 8, 23, 61, 62, 63, 64, 65] (by decide +kernel) (by decide +kernel)
set_option maxRecDepth 20000 in
theorem gX4_firstFault_X2_isWhole : GoodIn wsX4_firstFault (wsV RX4 40 RX2 yX2_isWhole wsX2_isWhole) := goodIn_app (goodIn_of _ (by decide +kernel)) ggX4_firstFault_X2_isWhole
theorem dX4_firstFault_0 : decode cX4_firstFault 0 = .ok (.aload_n 1, 1) := by decide +kernel
theorem dX4_firstFault_1 : decode cX4_firstFault 1 = .ok (.invokevirtual 31, 3) := by decide +kernel
theorem dX4_firstFault_4 : decode cX4_firstFault 4 = .ok (.iconst 0, 1) := by decide +kernel
theorem dX4_firstFault_5 : decode cX4_firstFault 5 = .ok (.istore_n 2, 1) := by decide +kernel
theorem dX4_firstFault_6 : decode cX4_firstFault 6 = .ok (.iload_n 2, 1) := by decide +kernel
theorem dX4_firstFault_7 : decode cX4_firstFault 7 = .ok (.aload_n 0, 1) := by decide +kernel
theorem dX4_firstFault_8 : decode cX4_firstFault 8 = .ok (.getfield 20, 3) := by decide +kernel
theorem dX4_firstFault_11 : decode cX4_firstFault 11 = .ok (.if_icmp .ge 26, 3) := by decide +kernel
theorem dX4_firstFault_14 : decode cX4_firstFault 14 = .ok (.aload_n 1, 1) := by decide +kernel
theorem dX4_firstFault_15 : decode cX4_firstFault 15 = .ok (.aload_n 0, 1) := by decide +kernel
theorem dX4_firstFault_16 : decode cX4_firstFault 16 = .ok (.getfield 14, 3) := by decide +kernel
theorem dX4_firstFault_19 : decode cX4_firstFault 19 = .ok (.iload_n 2, 1) := by decide +kernel
theorem dX4_firstFault_20 : decode cX4_firstFault 20 = .ok (.invokevirtual 24, 3) := by decide +kernel
theorem dX4_firstFault_23 : decode cX4_firstFault 23 = .ok (.invokevirtual 36, 3) := by decide +kernel
theorem dX4_firstFault_26 : decode cX4_firstFault 26 = .ok (.ifCond .ne 5, 3) := by decide +kernel
theorem dX4_firstFault_29 : decode cX4_firstFault 29 = .ok (.iload_n 2, 1) := by decide +kernel
theorem dX4_firstFault_30 : decode cX4_firstFault 30 = .ok (.ireturn, 1) := by decide +kernel
theorem dX4_firstFault_31 : decode cX4_firstFault 31 = .ok (.iinc 2 1, 3) := by decide +kernel
theorem dX4_firstFault_34 : decode cX4_firstFault 34 = .ok (.goto (-28), 3) := by decide +kernel
theorem dX4_firstFault_37 : decode cX4_firstFault 37 = .ok (.aload_n 1, 1) := by decide +kernel
theorem dX4_firstFault_38 : decode cX4_firstFault 38 = .ok (.invokevirtual 40, 3) := by decide +kernel
theorem dX4_firstFault_41 : decode cX4_firstFault 41 = .ok (.ifCond .eq 8, 3) := by decide +kernel
theorem dX4_firstFault_44 : decode cX4_firstFault 44 = .ok (.bipush (-5), 2) := by decide +kernel
theorem dX4_firstFault_46 : decode cX4_firstFault 46 = .ok (.goto 7, 3) := by decide +kernel
theorem dX4_firstFault_49 : decode cX4_firstFault 49 = .ok (.aload_n 0, 1) := by decide +kernel
theorem dX4_firstFault_50 : decode cX4_firstFault 50 = .ok (.getfield 20, 3) := by decide +kernel
theorem dX4_firstFault_53 : decode cX4_firstFault 53 = .ok (.ireturn, 1) := by decide +kernel
theorem ok_X4_length : gOk yX4_length RX4 0 := by refine ⟨?_, ?_, ?_, ?_⟩ <;> decide +kernel
theorem ok_X4_characterAt : gOk yX4_characterAt RX4 1 := by refine ⟨?_, ?_, ?_, ?_⟩ <;> decide +kernel
theorem ok_X4_addCharacter : gOk yX4_addCharacter RX4 1 := by refine ⟨?_, ?_, ?_, ?_⟩ <;> decide +kernel
theorem ok_X4_empty : gOk yX4_empty RX4 0 := by refine ⟨?_, ?_, ?_, ?_⟩ <;> decide +kernel
theorem ok_X4_firstFault : gOk yX4_firstFault RX4 1 := by refine ⟨?_, ?_, ?_, ?_⟩ <;> decide +kernel
abbrev rm_X4_length : Room := ({ frames := 0, cells := 0, slots := 0, locals := 0 } : Room)
def f_X4_length (cs : Nat → Int32) (len : Int32) (g : Nat → Int32) : Option Int32 := some len
set_option maxRecDepth 20000 in
theorem in_X4_length : ∀ w ∈ wsX40, w ∈ wsX4_length := by decide +kernel
set_option maxRecDepth 20000 in
theorem fl_X4_length_20 : Cond.fieldLink RX4 20 (TX4 1).1 (TX4 1).2.1 (TX4 1).2.2.1 ∈ wsX4_length := by decide +kernel
set_option maxHeartbeats 4000000 in
set_option maxRecDepth 100000 in
theorem cn_X4_length (l : Launch) (Z : gZ) (ad : Nat → Nat) (hI : gInj 4 ad) (cs : Nat → Int32) (len : Int32) (g : Nat → Int32) {r : Int32} (h : f_X4_length cs len g = some r) : gI l yX4_length wsX4_length rm_X4_length Z 4 ad [.ref (ad 0)] (scrE Z.2.1 ad cs len g) r (scrE Z.2.1 ad cs len g) := by
  refine g_entryI (cc := cX4_length) (maxL := 1) (by decide +kernel) rfl hI (Nat.le_of_ble_eq_true rfl) (fun X C e => ?_)
  unfold f_X4_length at h
  show GG X Z 1 4 ad (scrE Z.2.1 ad cs len g) 0 [(0, .ref (ad 0))] []
  refine g_aload_n C dX4_length_0 0 rfl ?_
  refine g_getf (v := .int len) C 0 (by decide) rfl rfl in_X4_length 1 (by decide) fl_X4_length_20 rfl dX4_length_1 ?_
  obtain rfl := gs1 h
  exact g_iret C e dX4_length_4
abbrev rm_X4_characterAt : Room := ({ frames := 1, cells := 0, slots := 0, locals := 21 } : Room)
def f_X4_characterAt (cs : Nat → Int32) (len : Int32) (g : Nat → Int32) (v1 : Int32) : Option Int32 := gb (f_X3_at 80 cs v1) (fun r1 => some r1)
set_option maxRecDepth 20000 in
theorem in_X4_characterAt : ∀ w ∈ wsX40, w ∈ wsX4_characterAt := by decide +kernel
set_option maxRecDepth 20000 in
theorem fl_X4_characterAt_14 : Cond.fieldLink RX4 14 (TX4 0).1 (TX4 0).2.1 (TX4 0).2.2.1 ∈ wsX4_characterAt := by decide +kernel
set_option maxHeartbeats 4000000 in
set_option maxRecDepth 100000 in
theorem cn_X4_characterAt (l : Launch) (Z : gZ) (ad : Nat → Nat) (hI : gInj 4 ad) (cs : Nat → Int32) (len : Int32) (g : Nat → Int32) (v1 : Int32) {r : Int32} (h : f_X4_characterAt cs len g v1 = some r) : gI l yX4_characterAt wsX4_characterAt rm_X4_characterAt Z 4 ad [.ref (ad 0), .int v1] (scrE Z.2.1 ad cs len g) r (scrE Z.2.1 ad cs len g) := by
  refine g_entryI (cc := cX4_characterAt) (maxL := 2) (by decide +kernel) rfl hI (Nat.le_of_ble_eq_true rfl) (fun X C e => ?_)
  unfold f_X4_characterAt at h
  show GG X Z 2 4 ad (scrE Z.2.1 ad cs len g) 0 [(0, .ref (ad 0)), (1, .int v1)] []
  refine g_aload_n C dX4_characterAt_0 0 rfl ?_
  refine g_getf (v := .ref (ad 1)) C 0 (by decide) rfl rfl in_X4_characterAt 0 (by decide) fl_X4_characterAt_14 rfl dX4_characterAt_1 ?_
  refine g_iload_n C dX4_characterAt_4 1 rfl ?_
  obtain ⟨r1, er1, h⟩ := gb1 h
  refine g_callVi (rest := []) C gX4_characterAt_X3_at rfl ok_X3_at ⟨by decide, by decide⟩ ⟨rfl, rfl⟩ 1 2 (by decide) (adc := fun i => ad (1 + i)) (fun _ _ => rfl) scrE_row 0 (by decide) rfl rfl (fun hI => cn_X3_at X.2.1 Z (fun i => ad (1 + i)) hI 80 cs v1 er1) rfl dX4_characterAt_5 rfl (Nat.le_of_ble_eq_true rfl) (scrE Z.2.1 ad cs len g) scrE_id ?_
  obtain rfl := gs1 h
  exact g_iret C e dX4_characterAt_8
abbrev rm_X4_addCharacter : Room := ({ frames := 1, cells := 0, slots := 0, locals := 22 } : Room)
def f_X4_addCharacter (cs : Nat → Int32) (len : Int32) (g : Nat → Int32) (v1 : Int32) : Option (Int32 × (Nat → Int32) × Int32) := if len < 80 then gb (f_X3_put 80 cs len v1) (fun w2 => glet (len + 1) (fun len3 => some (1, w2, len3))) else some (0, cs, len)
set_option maxRecDepth 20000 in
theorem in_X4_addCharacter : ∀ w ∈ wsX40, w ∈ wsX4_addCharacter := by decide +kernel
set_option maxRecDepth 20000 in
theorem fl_X4_addCharacter_20 : Cond.fieldLink RX4 20 (TX4 1).1 (TX4 1).2.1 (TX4 1).2.2.1 ∈ wsX4_addCharacter := by decide +kernel
set_option maxRecDepth 20000 in
theorem fl_X4_addCharacter_14 : Cond.fieldLink RX4 14 (TX4 0).1 (TX4 0).2.1 (TX4 0).2.2.1 ∈ wsX4_addCharacter := by decide +kernel
set_option maxHeartbeats 4000000 in
set_option maxRecDepth 100000 in
theorem cn_X4_addCharacter (l : Launch) (Z : gZ) (ad : Nat → Nat) (hI : gInj 4 ad) (cs : Nat → Int32) (len : Int32) (g : Nat → Int32) (v1 : Int32) {r : Int32} {cs' : Nat → Int32} {len' : Int32} (h : f_X4_addCharacter cs len g v1 = some (r, cs', len')) : gI l yX4_addCharacter wsX4_addCharacter rm_X4_addCharacter Z 4 ad [.ref (ad 0), .int v1] (scrE Z.2.1 ad cs len g) r (scrE Z.2.1 ad cs' len' g) := by
  refine g_entryI (cc := cX4_addCharacter) (maxL := 2) (by decide +kernel) rfl hI (Nat.le_of_ble_eq_true rfl) (fun X C e => ?_)
  unfold f_X4_addCharacter at h
  show GG X Z 2 4 ad (scrE Z.2.1 ad cs len g) 0 [(0, .ref (ad 0)), (1, .int v1)] []
  refine g_aload_n C dX4_addCharacter_0 0 rfl ?_
  refine g_getf (v := .int len) C 0 (by decide) rfl rfl in_X4_addCharacter 1 (by decide) fl_X4_addCharacter_20 rfl dX4_addCharacter_1 ?_
  refine g_bipush (v := 80) C dX4_addCharacter_4 (by decide) ?_
  refine g_icmp_lt (tgt := 11) C dX4_addCharacter_6 (by decide) (fun c1 => ?_) (fun c1 => ?_)
  · replace h := gi_pos c1 h
    refine g_aload_n C dX4_addCharacter_11 0 rfl ?_
    refine g_getf (v := .ref (ad 1)) C 0 (by decide) rfl rfl in_X4_addCharacter 0 (by decide) fl_X4_addCharacter_14 rfl dX4_addCharacter_12 ?_
    refine g_aload_n C dX4_addCharacter_15 0 rfl ?_
    refine g_getf (v := .int len) C 0 (by decide) rfl rfl in_X4_addCharacter 1 (by decide) fl_X4_addCharacter_20 rfl dX4_addCharacter_16 ?_
    refine g_iload_n C dX4_addCharacter_19 1 rfl ?_
    obtain ⟨w2, ew2, h⟩ := gb1 h
    refine g_callVv (rest := []) C gX4_addCharacter_X3_put rfl ok_X3_put ⟨by decide, by decide⟩ ⟨rfl, rfl⟩ 1 2 (by decide) (adc := fun i => ad (1 + i)) (fun _ _ => rfl) scrE_row 0 (by decide) rfl rfl (fun hI => cn_X3_put X.2.1 Z (fun i => ad (1 + i)) hI 80 cs len v1 ew2) rfl dX4_addCharacter_20 rfl (Nat.le_of_ble_eq_true rfl) (scrE Z.2.1 ad w2 len g) scrE_up ?_
    refine g_aload_n C dX4_addCharacter_23 0 rfl ?_
    refine g_dup C dX4_addCharacter_24 rfl ?_
    refine g_getf (v := .int len) C 0 (by decide) rfl rfl in_X4_addCharacter 1 (by decide) fl_X4_addCharacter_20 rfl dX4_addCharacter_25 ?_
    refine g_iconst (v := 1) C dX4_addCharacter_28 (by decide) ?_
    refine g_iadd C dX4_addCharacter_29 ?_
    obtain ⟨len3, elen3, h⟩ := gl h
    refine g_putf C 0 (by decide) rfl rfl in_X4_addCharacter tyX4 tyX4_ok nmX4 1 (by decide) fl_X4_addCharacter_20 rfl rfl rfl (Nat.le_of_ble_eq_true rfl) dX4_addCharacter_30 (scrE Z.2.1 ad w2 len3 g) (by rw [elen3]; exact scrE_len) ?_
    refine g_iconst (v := 1) C dX4_addCharacter_33 (by decide) ?_
    obtain ⟨rfl, rfl, rfl⟩ := gs3 h
    exact g_zret C e rfl dX4_addCharacter_34
  · replace h := gi_neg c1 h
    refine g_iconst (v := 0) C dX4_addCharacter_9 (by decide) ?_
    obtain ⟨rfl, rfl, rfl⟩ := gs3 h
    exact g_zret C e rfl dX4_addCharacter_10
abbrev rm_X4_empty : Room := ({ frames := 0, cells := 0, slots := 0, locals := 0 } : Room)
def f_X4_empty (cs : Nat → Int32) (len : Int32) (g : Nat → Int32) : Option Int32 := glet 0 (fun len1 => some len1)
set_option maxRecDepth 20000 in
theorem in_X4_empty : ∀ w ∈ wsX40, w ∈ wsX4_empty := by decide +kernel
set_option maxRecDepth 20000 in
theorem fl_X4_empty_20 : Cond.fieldLink RX4 20 (TX4 1).1 (TX4 1).2.1 (TX4 1).2.2.1 ∈ wsX4_empty := by decide +kernel
set_option maxHeartbeats 4000000 in
set_option maxRecDepth 100000 in
theorem cn_X4_empty (l : Launch) (Z : gZ) (ad : Nat → Nat) (hI : gInj 4 ad) (cs : Nat → Int32) (len : Int32) (g : Nat → Int32) {len' : Int32} (h : f_X4_empty cs len g = some len') : gV l yX4_empty wsX4_empty rm_X4_empty Z 4 ad [.ref (ad 0)] (scrE Z.2.1 ad cs len g) (scrE Z.2.1 ad cs len' g) := by
  refine g_entryV (cc := cX4_empty) (maxL := 1) (by decide +kernel) rfl hI (Nat.le_of_ble_eq_true rfl) (fun X C e => ?_)
  unfold f_X4_empty at h
  show GG X Z 1 4 ad (scrE Z.2.1 ad cs len g) 0 [(0, .ref (ad 0))] []
  refine g_aload_n C dX4_empty_0 0 rfl ?_
  refine g_iconst (v := 0) C dX4_empty_1 (by decide) ?_
  obtain ⟨len1, elen1, h⟩ := gl h
  refine g_putf C 0 (by decide) rfl rfl in_X4_empty tyX4 tyX4_ok nmX4 1 (by decide) fl_X4_empty_20 rfl rfl rfl (Nat.le_of_ble_eq_true rfl) dX4_empty_2 (scrE Z.2.1 ad cs len1 g) (by rw [elen1]; exact scrE_len) ?_
  obtain rfl := gs1 h
  exact g_vret C e dX4_empty_5
abbrev rm_X4_firstFault : Room := ({ frames := 3, cells := 0, slots := 0, locals := 67 } : Room)
def f_X4_firstFault_L6 (cs : Nat → Int32) (len : Int32) : Nat → Int32 → (Nat → Int32) → Option (Int32 × (Nat → Int32))
  | 0, _, _ => none
  | fu + 1, v2, g => if len ≤ v2 then gb (f_X2_isWhole g) (fun r3 => if r3 = 0 then some (len, g) else some ((-5), g)) else gb (f_X3_at 80 cs v2) (fun r5 => gbb2 (f_X2_takes g r5) (fun r6 g7 => if r6 = 0 then some (v2, g7) else glet (v2 + 1) (fun x9 => f_X4_firstFault_L6 cs len fu x9 g7)))
def f_X4_firstFault (cs : Nat → Int32) (len : Int32) (g : Nat → Int32) : Option (Int32 × (Nat → Int32)) := gb (f_X2_begin g) (fun g1 => f_X4_firstFault_L6 cs len gFu 0 g1)
set_option maxRecDepth 20000 in
theorem in_X4_firstFault : ∀ w ∈ wsX40, w ∈ wsX4_firstFault := by decide +kernel
set_option maxRecDepth 20000 in
theorem fl_X4_firstFault_20 : Cond.fieldLink RX4 20 (TX4 1).1 (TX4 1).2.1 (TX4 1).2.2.1 ∈ wsX4_firstFault := by decide +kernel
set_option maxRecDepth 20000 in
theorem fl_X4_firstFault_14 : Cond.fieldLink RX4 14 (TX4 0).1 (TX4 0).2.1 (TX4 0).2.2.1 ∈ wsX4_firstFault := by decide +kernel
set_option maxHeartbeats 4000000 in
set_option maxRecDepth 100000 in
theorem cl_X4_firstFault_L6 {X : gX} {Z : gZ} {ad : Nat → Nat} {cs : Nat → Int32} {len : Int32} {r : Int32} {g' : Nat → Int32} (C : GC X Z cX4_firstFault 3 wsX4_firstFault RX4 rm_X4_firstFault 4 ad) (e : gEI X Z 4 ad .int r (scrE Z.2.1 ad cs len g'))  : ∀ (fu : Nat) (v2 : Int32) (g : Nat → Int32) (h : f_X4_firstFault_L6 cs len fu v2 g = some (r, g')), GG X Z 3 4 ad (scrE Z.2.1 ad cs len g) 6 [(0, .ref (ad 0)), (1, .ref (ad 3)), (2, .int v2)] [] := by
  intro fu
  induction fu with
  | zero => intro v2 g h; cases h
  | succ fu ih =>
    intro v2 g h
    rw [f_X4_firstFault_L6] at h
    refine g_iload_n C dX4_firstFault_6 2 rfl ?_
    refine g_aload_n C dX4_firstFault_7 0 rfl ?_
    refine g_getf (v := .int len) C 0 (by decide) rfl rfl in_X4_firstFault 1 (by decide) fl_X4_firstFault_20 rfl dX4_firstFault_8 ?_
    refine g_icmp_ge (tgt := 37) C dX4_firstFault_11 (by decide) (fun c2 => ?_) (fun c2 => ?_)
    · replace h := gi_pos c2 h
      refine g_aload_n C dX4_firstFault_37 1 rfl ?_
      obtain ⟨r3, er3, h⟩ := gb1 h
      refine g_callVi (rest := []) C gX4_firstFault_X2_isWhole rfl ok_X2_isWhole ⟨by decide, by decide⟩ ⟨rfl, rfl⟩ 3 1 (by decide) (adc := fun i => ad (3 + i)) (fun _ _ => rfl) scrE_ord 0 (by decide) rfl rfl (fun hI => cn_X2_isWhole X.2.1 Z (fun i => ad (3 + i)) hI g  er3) rfl dX4_firstFault_38 rfl (Nat.le_of_ble_eq_true rfl) (scrE Z.2.1 ad cs len g) scrE_gid ?_
      refine g_if_eq (tgt := 49) C dX4_firstFault_41 (by decide) (fun c4 => ?_) (fun c4 => ?_)
      · replace h := gi_pos c4 h
        refine g_aload_n C dX4_firstFault_49 0 rfl ?_
        refine g_getf (v := .int len) C 0 (by decide) rfl rfl in_X4_firstFault 1 (by decide) fl_X4_firstFault_20 rfl dX4_firstFault_50 ?_
        obtain ⟨rfl, rfl⟩ := gs2 h
        exact g_iret C e dX4_firstFault_53
      · replace h := gi_neg c4 h
        refine g_bipush (v := (-5)) C dX4_firstFault_44 (by decide) ?_
        refine g_goto (tgt := 53) C dX4_firstFault_46 (by decide) ?_
        obtain ⟨rfl, rfl⟩ := gs2 h
        exact g_iret C e dX4_firstFault_53
    · replace h := gi_neg c2 h
      refine g_aload_n C dX4_firstFault_14 1 rfl ?_
      refine g_aload_n C dX4_firstFault_15 0 rfl ?_
      refine g_getf (v := .ref (ad 1)) C 0 (by decide) rfl rfl in_X4_firstFault 0 (by decide) fl_X4_firstFault_14 rfl dX4_firstFault_16 ?_
      refine g_iload_n C dX4_firstFault_19 2 rfl ?_
      obtain ⟨r5, er5, h⟩ := gb1 h
      refine g_callVi (rest := [.ref (ad 3)]) C gX4_firstFault_X3_at rfl ok_X3_at ⟨by decide, by decide⟩ ⟨rfl, rfl⟩ 1 2 (by decide) (adc := fun i => ad (1 + i)) (fun _ _ => rfl) scrE_row 0 (by decide) rfl rfl (fun hI => cn_X3_at X.2.1 Z (fun i => ad (1 + i)) hI 80 cs v2 er5) rfl dX4_firstFault_20 rfl (Nat.le_of_ble_eq_true rfl) (scrE Z.2.1 ad cs len g) scrE_id ?_
      obtain ⟨r6, g7, er6, h⟩ := gb2 h
      refine g_callVi (rest := []) C gX4_firstFault_X2_takes rfl ok_X2_takes ⟨by decide, by decide⟩ ⟨rfl, rfl⟩ 3 1 (by decide) (adc := fun i => ad (3 + i)) (fun _ _ => rfl) scrE_ord 0 (by decide) rfl rfl (fun hI => cn_X2_takes X.2.1 Z (fun i => ad (3 + i)) hI g r5 er6) rfl dX4_firstFault_23 rfl (Nat.le_of_ble_eq_true rfl) (scrE Z.2.1 ad cs len g7) scrE_gup ?_
      refine g_if_ne (tgt := 31) C dX4_firstFault_26 (by decide) (fun c8 => ?_) (fun c8 => ?_)
      · replace h := gi_neg c8 h
        obtain ⟨x9, ex9, h⟩ := gl h
        refine g_iinc (v := x9) C dX4_firstFault_31 2 rfl (by rw [ex9]; rfl) (by decide) [(2, .int x9), (0, .ref (ad 0)), (1, .ref (ad 3))] rfl ?_
        refine g_goto (tgt := 6) C dX4_firstFault_34 (by decide) ?_
        exact g_sub [1, 2, 0] rfl (ih x9 g7 h)
      · replace h := gi_pos c8 h
        refine g_iload_n C dX4_firstFault_29 2 rfl ?_
        obtain ⟨rfl, rfl⟩ := gs2 h
        exact g_iret C e dX4_firstFault_30
set_option maxHeartbeats 4000000 in
set_option maxRecDepth 100000 in
theorem cn_X4_firstFault (l : Launch) (Z : gZ) (ad : Nat → Nat) (hI : gInj 4 ad) (cs : Nat → Int32) (len : Int32) (g : Nat → Int32) {r : Int32} {g' : Nat → Int32} (h : f_X4_firstFault cs len g = some (r, g')) : gI l yX4_firstFault wsX4_firstFault rm_X4_firstFault Z 4 ad [.ref (ad 0), .ref (ad 3)] (scrE Z.2.1 ad cs len g) r (scrE Z.2.1 ad cs len g') := by
  refine g_entryI (cc := cX4_firstFault) (maxL := 3) (by decide +kernel) rfl hI (Nat.le_of_ble_eq_true rfl) (fun X C e => ?_)
  unfold f_X4_firstFault at h
  show GG X Z 3 4 ad (scrE Z.2.1 ad cs len g) 0 [(0, .ref (ad 0)), (1, .ref (ad 3))] []
  refine g_aload_n C dX4_firstFault_0 1 rfl ?_
  obtain ⟨g1, eg1, h⟩ := gb1 h
  refine g_callVv (rest := []) C gX4_firstFault_X2_begin rfl ok_X2_begin ⟨by decide, by decide⟩ ⟨rfl, rfl⟩ 3 1 (by decide) (adc := fun i => ad (3 + i)) (fun _ _ => rfl) scrE_ord 0 (by decide) rfl rfl (fun hI => cn_X2_begin X.2.1 Z (fun i => ad (3 + i)) hI g  eg1) rfl dX4_firstFault_1 rfl (Nat.le_of_ble_eq_true rfl) (scrE Z.2.1 ad cs len g1) scrE_gup ?_
  refine g_iconst (v := 0) C dX4_firstFault_4 (by decide) ?_
  refine g_istore_n C dX4_firstFault_5 (by decide) [(2, .int 0), (0, .ref (ad 0)), (1, .ref (ad 3))] rfl ?_
  exact g_sub [1, 2, 0] rfl (cl_X4_firstFault_L6 C e gFu 0 g1 h)
