set_option maxRecDepth 20000 in
theorem ggX4_init_X3_init : GoodIn wsX4_init wsX3_init := goodIn_r _ [11, 12, 2, 3, 13, 14, 15, 16, 17, 18, 19] (by decide +kernel) (by decide +kernel)
set_option maxRecDepth 20000 in
theorem gX4_init_X3_init : GoodIn wsX4_init (wsX3_init) := ggX4_init_X3_init
theorem dX4_init_0 : decode cX4_init 0 = .ok (.aload_n 0, 1) := by decide +kernel
theorem dX4_init_1 : decode cX4_init 1 = .ok (.invokespecial 3, 3) := by decide +kernel
theorem dX4_init_4 : decode cX4_init 4 = .ok (.aload_n 0, 1) := by decide +kernel
theorem dX4_init_5 : decode cX4_init 5 = .ok (.new 9, 3) := by decide +kernel
theorem dX4_init_8 : decode cX4_init 8 = .ok (.dup, 1) := by decide +kernel
theorem dX4_init_9 : decode cX4_init 9 = .ok (.bipush 80, 2) := by decide +kernel
theorem dX4_init_11 : decode cX4_init 11 = .ok (.iconst 0, 1) := by decide +kernel
theorem dX4_init_12 : decode cX4_init 12 = .ok (.invokespecial 11, 3) := by decide +kernel
theorem dX4_init_15 : decode cX4_init 15 = .ok (.putfield 14, 3) := by decide +kernel
theorem dX4_init_18 : decode cX4_init 18 = .ok (.aload_n 0, 1) := by decide +kernel
theorem dX4_init_19 : decode cX4_init 19 = .ok (.iconst 0, 1) := by decide +kernel
theorem dX4_init_20 : decode cX4_init 20 = .ok (.putfield 20, 3) := by decide +kernel
theorem dX4_init_23 : decode cX4_init 23 = .ok (.return_, 1) := by decide +kernel
theorem dX4_length_0 : decode cX4_length 0 = .ok (.aload_n 0, 1) := by decide +kernel
theorem dX4_length_1 : decode cX4_length 1 = .ok (.getfield 20, 3) := by decide +kernel
theorem dX4_length_4 : decode cX4_length 4 = .ok (.ireturn, 1) := by decide +kernel
theorem ok_X4_length : gOk yX4_length RX4 0 := by refine ⟨?_, ?_, ?_, ?_⟩ <;> decide +kernel
abbrev rm_X4_length : Room := ({ frames := 0, cells := 0, slots := 0, locals := 0 } : Room)
def f_X4_length (cs : Nat → Int32) (len : Int32) (g : Nat → Int32) : Option Int32 := some len
set_option maxRecDepth 20000 in
theorem in_X4_length : ∀ w ∈ wsX40, w ∈ wsX4_length := by decide +kernel
set_option maxRecDepth 20000 in
theorem fl_X4_length_20 : Cond.fieldLink RX4 20 (TX4 1).1 (TX4 1).2.1 (TX4 1).2.2.1 ∈ wsX4_length := by decide +kernel
set_option maxHeartbeats 4000000 in
set_option maxRecDepth 100000 in
theorem cn_X4_length (l : Launch) (Z : gZ) (ad : Nat → Nat) (hI : gInj 4 ad) (cs : Nat → Int32) (len : Int32) (g : Nat → Int32) {r : Int32} (h : f_X4_length cs len g = some r) : gI l yX4_length wsX4_length rm_X4_length Z 4 ad [.ref (ad 0)] (scrE Z.2.1 ad cs len g) r (scrE Z.2.1 ad cs len g) := by
  refine g_entryI (cc := cX4_length) (maxL := 1) (by decide +kernel) rfl hI (Nat.le_of_ble_eq_true rfl) (fun X C e => ?_)
  unfold f_X4_length at h
  show GG X Z 1 4 ad (scrE Z.2.1 ad cs len g) 0 [(0, .ref (ad 0))] []
  refine g_aload_n C dX4_length_0 0 rfl ?_
  refine g_getf (v := .int len) C 0 (by decide) rfl rfl in_X4_length 1 (by decide) fl_X4_length_20 rfl dX4_length_1 ?_
  obtain rfl := gs1 h
  exact g_iret C e dX4_length_4
