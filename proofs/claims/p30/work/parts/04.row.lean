theorem dX3_init_0 : decode cX3_init 0 = .ok (.aload_n 0, 1) := by decide +kernel
theorem dX3_init_1 : decode cX3_init 1 = .ok (.invokespecial 1, 3) := by decide +kernel
theorem dX3_init_4 : decode cX3_init 4 = .ok (.aload_n 0, 1) := by decide +kernel
theorem dX3_init_5 : decode cX3_init 5 = .ok (.iload_n 1, 1) := by decide +kernel
theorem dX3_init_6 : decode cX3_init 6 = .ok (.iconst 0, 1) := by decide +kernel
theorem dX3_init_7 : decode cX3_init 7 = .ok (.invokestatic 7, 3) := by decide +kernel
theorem dX3_init_10 : decode cX3_init 10 = .ok (.newarray .int, 2) := by decide +kernel
theorem dX3_init_12 : decode cX3_init 12 = .ok (.putfield 13, 3) := by decide +kernel
theorem dX3_init_15 : decode cX3_init 15 = .ok (.iconst 0, 1) := by decide +kernel
theorem dX3_init_16 : decode cX3_init 16 = .ok (.istore_n 3, 1) := by decide +kernel
theorem dX3_init_17 : decode cX3_init 17 = .ok (.iload_n 3, 1) := by decide +kernel
theorem dX3_init_18 : decode cX3_init 18 = .ok (.aload_n 0, 1) := by decide +kernel
theorem dX3_init_19 : decode cX3_init 19 = .ok (.getfield 13, 3) := by decide +kernel
theorem dX3_init_22 : decode cX3_init 22 = .ok (.arraylength, 1) := by decide +kernel
theorem dX3_init_23 : decode cX3_init 23 = .ok (.if_icmp .ge 16, 3) := by decide +kernel
theorem dX3_init_26 : decode cX3_init 26 = .ok (.aload_n 0, 1) := by decide +kernel
theorem dX3_init_27 : decode cX3_init 27 = .ok (.getfield 13, 3) := by decide +kernel
theorem dX3_init_30 : decode cX3_init 30 = .ok (.iload_n 3, 1) := by decide +kernel
theorem dX3_init_31 : decode cX3_init 31 = .ok (.iload_n 2, 1) := by decide +kernel
theorem dX3_init_32 : decode cX3_init 32 = .ok (.iastore, 1) := by decide +kernel
theorem dX3_init_33 : decode cX3_init 33 = .ok (.iinc 3 1, 3) := by decide +kernel
theorem dX3_init_36 : decode cX3_init 36 = .ok (.goto (-19), 3) := by decide +kernel
theorem dX3_init_39 : decode cX3_init 39 = .ok (.return_, 1) := by decide +kernel
theorem dX3_at_0 : decode cX3_at 0 = .ok (.iload_n 1, 1) := by decide +kernel
theorem dX3_at_1 : decode cX3_at 1 = .ok (.ifCond .lt 21, 3) := by decide +kernel
theorem dX3_at_4 : decode cX3_at 4 = .ok (.iload_n 1, 1) := by decide +kernel
theorem dX3_at_5 : decode cX3_at 5 = .ok (.aload_n 0, 1) := by decide +kernel
theorem dX3_at_6 : decode cX3_at 6 = .ok (.getfield 13, 3) := by decide +kernel
theorem dX3_at_9 : decode cX3_at 9 = .ok (.arraylength, 1) := by decide +kernel
theorem dX3_at_10 : decode cX3_at 10 = .ok (.if_icmp .ge 12, 3) := by decide +kernel
theorem dX3_at_13 : decode cX3_at 13 = .ok (.aload_n 0, 1) := by decide +kernel
theorem dX3_at_14 : decode cX3_at 14 = .ok (.getfield 13, 3) := by decide +kernel
theorem dX3_at_17 : decode cX3_at 17 = .ok (.iload_n 1, 1) := by decide +kernel
theorem dX3_at_18 : decode cX3_at 18 = .ok (.iaload, 1) := by decide +kernel
theorem dX3_at_19 : decode cX3_at 19 = .ok (.goto 4, 3) := by decide +kernel
theorem dX3_at_22 : decode cX3_at 22 = .ok (.iconst 0, 1) := by decide +kernel
theorem dX3_at_23 : decode cX3_at 23 = .ok (.ireturn, 1) := by decide +kernel
theorem dX3_holds_0 : decode cX3_holds 0 = .ok (.iload_n 1, 1) := by decide +kernel
theorem dX3_holds_1 : decode cX3_holds 1 = .ok (.ifCond .lt 26, 3) := by decide +kernel
theorem dX3_holds_4 : decode cX3_holds 4 = .ok (.iload_n 1, 1) := by decide +kernel
theorem dX3_holds_5 : decode cX3_holds 5 = .ok (.aload_n 0, 1) := by decide +kernel
theorem dX3_holds_6 : decode cX3_holds 6 = .ok (.getfield 13, 3) := by decide +kernel
theorem dX3_holds_9 : decode cX3_holds 9 = .ok (.arraylength, 1) := by decide +kernel
theorem dX3_holds_10 : decode cX3_holds 10 = .ok (.if_icmp .ge 17, 3) := by decide +kernel
theorem dX3_holds_13 : decode cX3_holds 13 = .ok (.aload_n 0, 1) := by decide +kernel
theorem dX3_holds_14 : decode cX3_holds 14 = .ok (.getfield 13, 3) := by decide +kernel
theorem dX3_holds_17 : decode cX3_holds 17 = .ok (.iload_n 1, 1) := by decide +kernel
theorem dX3_holds_18 : decode cX3_holds 18 = .ok (.iaload, 1) := by decide +kernel
theorem dX3_holds_19 : decode cX3_holds 19 = .ok (.iload_n 2, 1) := by decide +kernel
theorem dX3_holds_20 : decode cX3_holds 20 = .ok (.if_icmp .ne 7, 3) := by decide +kernel
theorem dX3_holds_23 : decode cX3_holds 23 = .ok (.iconst 1, 1) := by decide +kernel
theorem dX3_holds_24 : decode cX3_holds 24 = .ok (.goto 4, 3) := by decide +kernel
theorem dX3_holds_27 : decode cX3_holds 27 = .ok (.iconst 0, 1) := by decide +kernel
theorem dX3_holds_28 : decode cX3_holds 28 = .ok (.ireturn, 1) := by decide +kernel
theorem dX3_put_0 : decode cX3_put 0 = .ok (.iload_n 1, 1) := by decide +kernel
theorem dX3_put_1 : decode cX3_put 1 = .ok (.ifCond .lt 19, 3) := by decide +kernel
theorem dX3_put_4 : decode cX3_put 4 = .ok (.iload_n 1, 1) := by decide +kernel
theorem dX3_put_5 : decode cX3_put 5 = .ok (.aload_n 0, 1) := by decide +kernel
theorem dX3_put_6 : decode cX3_put 6 = .ok (.getfield 13, 3) := by decide +kernel
theorem dX3_put_9 : decode cX3_put 9 = .ok (.arraylength, 1) := by decide +kernel
theorem dX3_put_10 : decode cX3_put 10 = .ok (.if_icmp .ge 10, 3) := by decide +kernel
theorem dX3_put_13 : decode cX3_put 13 = .ok (.aload_n 0, 1) := by decide +kernel
theorem dX3_put_14 : decode cX3_put 14 = .ok (.getfield 13, 3) := by decide +kernel
theorem dX3_put_17 : decode cX3_put 17 = .ok (.iload_n 1, 1) := by decide +kernel
theorem dX3_put_18 : decode cX3_put 18 = .ok (.iload_n 2, 1) := by decide +kernel
theorem dX3_put_19 : decode cX3_put 19 = .ok (.iastore, 1) := by decide +kernel
theorem dX3_put_20 : decode cX3_put 20 = .ok (.return_, 1) := by decide +kernel
theorem dX3_grow_0 : decode cX3_grow 0 = .ok (.iload_n 1, 1) := by decide +kernel
theorem dX3_grow_1 : decode cX3_grow 1 = .ok (.ifCond .lt 22, 3) := by decide +kernel
theorem dX3_grow_4 : decode cX3_grow 4 = .ok (.iload_n 1, 1) := by decide +kernel
theorem dX3_grow_5 : decode cX3_grow 5 = .ok (.aload_n 0, 1) := by decide +kernel
theorem dX3_grow_6 : decode cX3_grow 6 = .ok (.getfield 13, 3) := by decide +kernel
theorem dX3_grow_9 : decode cX3_grow 9 = .ok (.arraylength, 1) := by decide +kernel
theorem dX3_grow_10 : decode cX3_grow 10 = .ok (.if_icmp .ge 13, 3) := by decide +kernel
theorem dX3_grow_13 : decode cX3_grow 13 = .ok (.aload_n 0, 1) := by decide +kernel
theorem dX3_grow_14 : decode cX3_grow 14 = .ok (.getfield 13, 3) := by decide +kernel
theorem dX3_grow_17 : decode cX3_grow 17 = .ok (.iload_n 1, 1) := by decide +kernel
theorem dX3_grow_18 : decode cX3_grow 18 = .ok (.dup2, 1) := by decide +kernel
theorem dX3_grow_19 : decode cX3_grow 19 = .ok (.iaload, 1) := by decide +kernel
theorem dX3_grow_20 : decode cX3_grow 20 = .ok (.iload_n 2, 1) := by decide +kernel
theorem dX3_grow_21 : decode cX3_grow 21 = .ok (.iadd, 1) := by decide +kernel
theorem dX3_grow_22 : decode cX3_grow 22 = .ok (.iastore, 1) := by decide +kernel
theorem dX3_grow_23 : decode cX3_grow 23 = .ok (.return_, 1) := by decide +kernel
set_option maxRecDepth 20000 in
theorem ggX3_copyFrom_X3_at : GoodIn wsX3_copyFrom wsX3_at := goodIn_r _ [6, 1, 7] (by decide +kernel) (by decide +kernel)
set_option maxRecDepth 20000 in
theorem gX3_copyFrom_X3_at : GoodIn wsX3_copyFrom (wsV RX3 19 RX3 yX3_at wsX3_at) := goodIn_app (goodIn_of _ (by decide +kernel)) ggX3_copyFrom_X3_at
theorem dX3_copyFrom_0 : decode cX3_copyFrom 0 = .ok (.iconst 0, 1) := by decide +kernel
theorem dX3_copyFrom_1 : decode cX3_copyFrom 1 = .ok (.istore_n 2, 1) := by decide +kernel
theorem dX3_copyFrom_2 : decode cX3_copyFrom 2 = .ok (.iload_n 2, 1) := by decide +kernel
theorem dX3_copyFrom_3 : decode cX3_copyFrom 3 = .ok (.aload_n 0, 1) := by decide +kernel
theorem dX3_copyFrom_4 : decode cX3_copyFrom 4 = .ok (.getfield 13, 3) := by decide +kernel
theorem dX3_copyFrom_7 : decode cX3_copyFrom 7 = .ok (.arraylength, 1) := by decide +kernel
theorem dX3_copyFrom_8 : decode cX3_copyFrom 8 = .ok (.if_icmp .ge 20, 3) := by decide +kernel
theorem dX3_copyFrom_11 : decode cX3_copyFrom 11 = .ok (.aload_n 0, 1) := by decide +kernel
theorem dX3_copyFrom_12 : decode cX3_copyFrom 12 = .ok (.getfield 13, 3) := by decide +kernel
theorem dX3_copyFrom_15 : decode cX3_copyFrom 15 = .ok (.iload_n 2, 1) := by decide +kernel
theorem dX3_copyFrom_16 : decode cX3_copyFrom 16 = .ok (.aload_n 1, 1) := by decide +kernel
theorem dX3_copyFrom_17 : decode cX3_copyFrom 17 = .ok (.iload_n 2, 1) := by decide +kernel
theorem dX3_copyFrom_18 : decode cX3_copyFrom 18 = .ok (.invokevirtual 19, 3) := by decide +kernel
theorem dX3_copyFrom_21 : decode cX3_copyFrom 21 = .ok (.iastore, 1) := by decide +kernel
theorem dX3_copyFrom_22 : decode cX3_copyFrom 22 = .ok (.iinc 2 1, 3) := by decide +kernel
theorem dX3_copyFrom_25 : decode cX3_copyFrom 25 = .ok (.goto (-23), 3) := by decide +kernel
theorem dX3_copyFrom_28 : decode cX3_copyFrom 28 = .ok (.return_, 1) := by decide +kernel
theorem ok_X3_at : gOk yX3_at RX3 1 := by refine ⟨?_, ?_, ?_, ?_⟩ <;> decide +kernel
theorem ok_X3_holds : gOk yX3_holds RX3 2 := by refine ⟨?_, ?_, ?_, ?_⟩ <;> decide +kernel
theorem ok_X3_put : gOk yX3_put RX3 2 := by refine ⟨?_, ?_, ?_, ?_⟩ <;> decide +kernel
theorem ok_X3_grow : gOk yX3_grow RX3 2 := by refine ⟨?_, ?_, ?_, ?_⟩ <;> decide +kernel
abbrev rm_X3_at : Room := ({ frames := 0, cells := 0, slots := 0, locals := 0 } : Room)
def f_X3_at (n : Nat) (f : Nat → Int32) (v1 : Int32) : Option Int32 := if v1 < 0 then some 0 else if (nI n) ≤ v1 then some 0 else if 0 ≤ v1 ∧ (v1).toNatClampNeg < n then some (f (v1).toNatClampNeg) else none
set_option maxRecDepth 20000 in
theorem in_X3_at : ∀ w ∈ wsX30, w ∈ wsX3_at := by decide +kernel
set_option maxRecDepth 20000 in
theorem fl_X3_at_13 : Cond.fieldLink RX3 13 (TX3 0).1 (TX3 0).2.1 (TX3 0).2.2.1 ∈ wsX3_at := by decide +kernel
set_option maxHeartbeats 4000000 in
set_option maxRecDepth 100000 in
theorem cn_X3_at (l : Launch) (Z : gZ) (ad : Nat → Nat) (hI : gInj 2 ad) (n : Nat) (f : Nat → Int32) (v1 : Int32) {r : Int32} (h : f_X3_at n f v1 = some r) : gI l yX3_at wsX3_at rm_X3_at Z 2 ad [.ref (ad 0), .int v1] (rowE Z.2.1 ad n f) r (rowE Z.2.1 ad n f) := by
  refine g_entryI (cc := cX3_at) (maxL := 2) (by decide +kernel) rfl hI (Nat.le_of_ble_eq_true rfl) (fun X C e => ?_)
  unfold f_X3_at at h
  show GG X Z 2 2 ad (rowE Z.2.1 ad n f) 0 [(0, .ref (ad 0)), (1, .int v1)] []
  refine g_iload_n C dX3_at_0 1 rfl ?_
  refine g_if_lt (tgt := 22) C dX3_at_1 (by decide) (fun c1 => ?_) (fun c1 => ?_)
  · replace h := gi_pos c1 h
    refine g_iconst (v := 0) C dX3_at_22 (by decide) ?_
    obtain rfl := gs1 h
    exact g_iret C e dX3_at_23
  · replace h := gi_neg c1 h
    refine g_iload_n C dX3_at_4 1 rfl ?_
    refine g_aload_n C dX3_at_5 0 rfl ?_
    refine g_getf (v := .ref (ad 1)) C 0 (by decide) rfl rfl in_X3_at 0 (by decide) fl_X3_at_13 rfl dX3_at_6 ?_
    refine g_alen C 1 (by decide) rfl dX3_at_9 ?_
    refine g_icmp_ge (tgt := 22) C dX3_at_10 (by decide) (fun c2 => ?_) (fun c2 => ?_)
    · replace h := gi_pos c2 h
      refine g_iconst (v := 0) C dX3_at_22 (by decide) ?_
      obtain rfl := gs1 h
      exact g_iret C e dX3_at_23
    · replace h := gi_neg c2 h
      refine g_aload_n C dX3_at_13 0 rfl ?_
      refine g_getf (v := .ref (ad 1)) C 0 (by decide) rfl rfl in_X3_at 0 (by decide) fl_X3_at_13 rfl dX3_at_14 ?_
      refine g_iload_n C dX3_at_17 1 rfl ?_
      obtain ⟨b3, h⟩ := gguard h
      refine g_iald C 1 (by decide) rfl (g_in b3) dX3_at_18 ?_
      refine g_goto (tgt := 23) C dX3_at_19 (by decide) ?_
      obtain rfl := gs1 h
      exact g_iret C e dX3_at_23
abbrev rm_X3_holds : Room := ({ frames := 0, cells := 0, slots := 0, locals := 0 } : Room)
def f_X3_holds (n : Nat) (f : Nat → Int32) (v1 : Int32) (v2 : Int32) : Option Int32 := if v1 < 0 then some 0 else if (nI n) ≤ v1 then some 0 else if 0 ≤ v1 ∧ (v1).toNatClampNeg < n then if (f (v1).toNatClampNeg) = v2 then some 1 else some 0 else none
set_option maxRecDepth 20000 in
theorem in_X3_holds : ∀ w ∈ wsX30, w ∈ wsX3_holds := by decide +kernel
set_option maxRecDepth 20000 in
theorem fl_X3_holds_13 : Cond.fieldLink RX3 13 (TX3 0).1 (TX3 0).2.1 (TX3 0).2.2.1 ∈ wsX3_holds := by decide +kernel
set_option maxHeartbeats 4000000 in
set_option maxRecDepth 100000 in
theorem cn_X3_holds (l : Launch) (Z : gZ) (ad : Nat → Nat) (hI : gInj 2 ad) (n : Nat) (f : Nat → Int32) (v1 : Int32) (v2 : Int32) {r : Int32} (h : f_X3_holds n f v1 v2 = some r) : gI l yX3_holds wsX3_holds rm_X3_holds Z 2 ad [.ref (ad 0), .int v1, .int v2] (rowE Z.2.1 ad n f) r (rowE Z.2.1 ad n f) := by
  refine g_entryI (cc := cX3_holds) (maxL := 3) (by decide +kernel) rfl hI (Nat.le_of_ble_eq_true rfl) (fun X C e => ?_)
  unfold f_X3_holds at h
  show GG X Z 3 2 ad (rowE Z.2.1 ad n f) 0 [(0, .ref (ad 0)), (1, .int v1), (2, .int v2)] []
  refine g_iload_n C dX3_holds_0 1 rfl ?_
  refine g_if_lt (tgt := 27) C dX3_holds_1 (by decide) (fun c1 => ?_) (fun c1 => ?_)
  · replace h := gi_pos c1 h
    refine g_iconst (v := 0) C dX3_holds_27 (by decide) ?_
    obtain rfl := gs1 h
    exact g_zret C e rfl dX3_holds_28
  · replace h := gi_neg c1 h
    refine g_iload_n C dX3_holds_4 1 rfl ?_
    refine g_aload_n C dX3_holds_5 0 rfl ?_
    refine g_getf (v := .ref (ad 1)) C 0 (by decide) rfl rfl in_X3_holds 0 (by decide) fl_X3_holds_13 rfl dX3_holds_6 ?_
    refine g_alen C 1 (by decide) rfl dX3_holds_9 ?_
    refine g_icmp_ge (tgt := 27) C dX3_holds_10 (by decide) (fun c2 => ?_) (fun c2 => ?_)
    · replace h := gi_pos c2 h
      refine g_iconst (v := 0) C dX3_holds_27 (by decide) ?_
      obtain rfl := gs1 h
      exact g_zret C e rfl dX3_holds_28
    · replace h := gi_neg c2 h
      refine g_aload_n C dX3_holds_13 0 rfl ?_
      refine g_getf (v := .ref (ad 1)) C 0 (by decide) rfl rfl in_X3_holds 0 (by decide) fl_X3_holds_13 rfl dX3_holds_14 ?_
      refine g_iload_n C dX3_holds_17 1 rfl ?_
      obtain ⟨b4, h⟩ := gguard h
      refine g_iald C 1 (by decide) rfl (g_in b4) dX3_holds_18 ?_
      refine g_iload_n C dX3_holds_19 2 rfl ?_
      refine g_icmp_ne (tgt := 27) C dX3_holds_20 (by decide) (fun c3 => ?_) (fun c3 => ?_)
      · replace h := gi_neg c3 h
        refine g_iconst (v := 0) C dX3_holds_27 (by decide) ?_
        obtain rfl := gs1 h
        exact g_zret C e rfl dX3_holds_28
      · replace h := gi_pos c3 h
        refine g_iconst (v := 1) C dX3_holds_23 (by decide) ?_
        refine g_goto (tgt := 28) C dX3_holds_24 (by decide) ?_
        obtain rfl := gs1 h
        exact g_zret C e rfl dX3_holds_28
abbrev rm_X3_put : Room := ({ frames := 0, cells := 0, slots := 0, locals := 0 } : Room)
def f_X3_put (n : Nat) (f : Nat → Int32) (v1 : Int32) (v2 : Int32) : Option ((Nat → Int32)) := if v1 < 0 then some f else if (nI n) ≤ v1 then some f else if 0 ≤ v1 ∧ (v1).toNatClampNeg < n then glet (upd f (v1).toNatClampNeg v2) (fun f4 => some f4) else none
set_option maxRecDepth 20000 in
theorem in_X3_put : ∀ w ∈ wsX30, w ∈ wsX3_put := by decide +kernel
set_option maxRecDepth 20000 in
theorem fl_X3_put_13 : Cond.fieldLink RX3 13 (TX3 0).1 (TX3 0).2.1 (TX3 0).2.2.1 ∈ wsX3_put := by decide +kernel
set_option maxHeartbeats 4000000 in
set_option maxRecDepth 100000 in
theorem cn_X3_put (l : Launch) (Z : gZ) (ad : Nat → Nat) (hI : gInj 2 ad) (n : Nat) (f : Nat → Int32) (v1 : Int32) (v2 : Int32) {f' : Nat → Int32} (h : f_X3_put n f v1 v2 = some f') : gV l yX3_put wsX3_put rm_X3_put Z 2 ad [.ref (ad 0), .int v1, .int v2] (rowE Z.2.1 ad n f) (rowE Z.2.1 ad n f') := by
  refine g_entryV (cc := cX3_put) (maxL := 3) (by decide +kernel) rfl hI (Nat.le_of_ble_eq_true rfl) (fun X C e => ?_)
  unfold f_X3_put at h
  show GG X Z 3 2 ad (rowE Z.2.1 ad n f) 0 [(0, .ref (ad 0)), (1, .int v1), (2, .int v2)] []
  refine g_iload_n C dX3_put_0 1 rfl ?_
  refine g_if_lt (tgt := 20) C dX3_put_1 (by decide) (fun c1 => ?_) (fun c1 => ?_)
  · replace h := gi_pos c1 h
    obtain rfl := gs1 h
    exact g_vret C e dX3_put_20
  · replace h := gi_neg c1 h
    refine g_iload_n C dX3_put_4 1 rfl ?_
    refine g_aload_n C dX3_put_5 0 rfl ?_
    refine g_getf (v := .ref (ad 1)) C 0 (by decide) rfl rfl in_X3_put 0 (by decide) fl_X3_put_13 rfl dX3_put_6 ?_
    refine g_alen C 1 (by decide) rfl dX3_put_9 ?_
    refine g_icmp_ge (tgt := 20) C dX3_put_10 (by decide) (fun c2 => ?_) (fun c2 => ?_)
    · replace h := gi_pos c2 h
      obtain rfl := gs1 h
      exact g_vret C e dX3_put_20
    · replace h := gi_neg c2 h
      refine g_aload_n C dX3_put_13 0 rfl ?_
      refine g_getf (v := .ref (ad 1)) C 0 (by decide) rfl rfl in_X3_put 0 (by decide) fl_X3_put_13 rfl dX3_put_14 ?_
      refine g_iload_n C dX3_put_17 1 rfl ?_
      refine g_iload_n C dX3_put_18 2 rfl ?_
      obtain ⟨b3, h⟩ := gguard h
      obtain ⟨f4, ef4, h⟩ := gl h
      refine g_iast C 1 (by decide) rfl (g_in b3) dX3_put_19 (rowE Z.2.1 ad n f4) (by rw [ef4]; exact rowE_st) ?_
      obtain rfl := gs1 h
      exact g_vret C e dX3_put_20
abbrev rm_X3_grow : Room := ({ frames := 0, cells := 0, slots := 0, locals := 0 } : Room)
def f_X3_grow (n : Nat) (f : Nat → Int32) (v1 : Int32) (v2 : Int32) : Option ((Nat → Int32)) := if v1 < 0 then some f else if (nI n) ≤ v1 then some f else if 0 ≤ v1 ∧ (v1).toNatClampNeg < n then if 0 ≤ v1 ∧ (v1).toNatClampNeg < n then glet (upd f (v1).toNatClampNeg ((f (v1).toNatClampNeg) + v2)) (fun f4 => some f4) else none else none
set_option maxRecDepth 20000 in
theorem in_X3_grow : ∀ w ∈ wsX30, w ∈ wsX3_grow := by decide +kernel
set_option maxRecDepth 20000 in
theorem fl_X3_grow_13 : Cond.fieldLink RX3 13 (TX3 0).1 (TX3 0).2.1 (TX3 0).2.2.1 ∈ wsX3_grow := by decide +kernel
set_option maxHeartbeats 4000000 in
set_option maxRecDepth 100000 in
theorem cn_X3_grow (l : Launch) (Z : gZ) (ad : Nat → Nat) (hI : gInj 2 ad) (n : Nat) (f : Nat → Int32) (v1 : Int32) (v2 : Int32) {f' : Nat → Int32} (h : f_X3_grow n f v1 v2 = some f') : gV l yX3_grow wsX3_grow rm_X3_grow Z 2 ad [.ref (ad 0), .int v1, .int v2] (rowE Z.2.1 ad n f) (rowE Z.2.1 ad n f') := by
  refine g_entryV (cc := cX3_grow) (maxL := 3) (by decide +kernel) rfl hI (Nat.le_of_ble_eq_true rfl) (fun X C e => ?_)
  unfold f_X3_grow at h
  show GG X Z 3 2 ad (rowE Z.2.1 ad n f) 0 [(0, .ref (ad 0)), (1, .int v1), (2, .int v2)] []
  refine g_iload_n C dX3_grow_0 1 rfl ?_
  refine g_if_lt (tgt := 23) C dX3_grow_1 (by decide) (fun c1 => ?_) (fun c1 => ?_)
  · replace h := gi_pos c1 h
    obtain rfl := gs1 h
    exact g_vret C e dX3_grow_23
  · replace h := gi_neg c1 h
    refine g_iload_n C dX3_grow_4 1 rfl ?_
    refine g_aload_n C dX3_grow_5 0 rfl ?_
    refine g_getf (v := .ref (ad 1)) C 0 (by decide) rfl rfl in_X3_grow 0 (by decide) fl_X3_grow_13 rfl dX3_grow_6 ?_
    refine g_alen C 1 (by decide) rfl dX3_grow_9 ?_
    refine g_icmp_ge (tgt := 23) C dX3_grow_10 (by decide) (fun c2 => ?_) (fun c2 => ?_)
    · replace h := gi_pos c2 h
      obtain rfl := gs1 h
      exact g_vret C e dX3_grow_23
    · replace h := gi_neg c2 h
      refine g_aload_n C dX3_grow_13 0 rfl ?_
      refine g_getf (v := .ref (ad 1)) C 0 (by decide) rfl rfl in_X3_grow 0 (by decide) fl_X3_grow_13 rfl dX3_grow_14 ?_
      refine g_iload_n C dX3_grow_17 1 rfl ?_
      refine g_dup2 C dX3_grow_18 rfl rfl ?_
      obtain ⟨b5, h⟩ := gguard h
      refine g_iald C 1 (by decide) rfl (g_in b5) dX3_grow_19 ?_
      refine g_iload_n C dX3_grow_20 2 rfl ?_
      refine g_iadd C dX3_grow_21 ?_
      obtain ⟨b3, h⟩ := gguard h
      obtain ⟨f4, ef4, h⟩ := gl h
      refine g_iast C 1 (by decide) rfl (g_in b3) dX3_grow_22 (rowE Z.2.1 ad n f4) (by rw [ef4]; exact rowE_st) ?_
      obtain rfl := gs1 h
      exact g_vret C e dX3_grow_23
