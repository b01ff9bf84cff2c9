theorem ok_X6_in : gOk yX6_in RX6 3 := by refine ⟨?_, ?_, ?_, ?_⟩ <;> decide +kernel
theorem ok_X6_flag : gOk yX6_flag RX6 1 := by refine ⟨?_, ?_, ?_, ?_⟩ <;> decide +kernel
theorem ok_X6_copies : gOk yX6_copies RX6 2 := by refine ⟨?_, ?_, ?_, ?_⟩ <;> decide +kernel
theorem ok_X6_records : gOk yX6_records RX6 0 := by refine ⟨?_, ?_, ?_, ?_⟩ <;> decide +kernel
theorem ok_X6_at : gOk yX6_at RX6 2 := by refine ⟨?_, ?_, ?_, ?_⟩ <;> decide +kernel
theorem ok_X6_isThere : gOk yX6_isThere RX6 1 := by refine ⟨?_, ?_, ?_, ?_⟩ <;> decide +kernel
theorem ok_X6_isOpen : gOk yX6_isOpen RX6 1 := by refine ⟨?_, ?_, ?_, ?_⟩ <;> decide +kernel
theorem ok_X6_lent : gOk yX6_lent RX6 2 := by refine ⟨?_, ?_, ?_, ?_⟩ <;> decide +kernel
theorem ok_X6_isFree : gOk yX6_isFree RX6 2 := by refine ⟨?_, ?_, ?_, ?_⟩ <;> decide +kernel
theorem ok_X6_free : gOk yX6_free RX6 1 := by refine ⟨?_, ?_, ?_, ?_⟩ <;> decide +kernel
theorem ok_X6_blockOf : gOk yX6_blockOf RX6 3 := by refine ⟨?_, ?_, ?_, ?_⟩ <;> decide +kernel
theorem ok_X6_extents : gOk yX6_extents RX6 2 := by refine ⟨?_, ?_, ?_, ?_⟩ <;> decide +kernel
theorem ok_X6_frees : gOk yX6_frees RX6 3 := by refine ⟨?_, ?_, ?_, ?_⟩ <;> decide +kernel
theorem ok_X6_givesBack : gOk yX6_givesBack RX6 2 := by refine ⟨?_, ?_, ?_, ?_⟩ <;> decide +kernel
theorem ok_X6_sumOfLent : gOk yX6_sumOfLent RX6 1 := by refine ⟨?_, ?_, ?_, ?_⟩ <;> decide +kernel
theorem ok_X6_giver : gOk yX6_giver RX6 2 := by refine ⟨?_, ?_, ?_, ?_⟩ <;> decide +kernel
theorem ok_X6_runLength : gOk yX6_runLength RX6 2 := by refine ⟨?_, ?_, ?_, ?_⟩ <;> decide +kernel
theorem ok_X6_isRunStart : gOk yX6_isRunStart RX6 2 := by refine ⟨?_, ?_, ?_, ?_⟩ <;> decide +kernel
theorem ok_X6_chooses : gOk yX6_chooses RX6 2 := by refine ⟨?_, ?_, ?_, ?_⟩ <;> decide +kernel
theorem ok_X6_adds : gOk yX6_adds RX6 4 := by refine ⟨?_, ?_, ?_, ?_⟩ <;> decide +kernel
abbrev rm_X6_in : Room := ({ frames := 0, cells := 0, slots := 0, locals := 0 } : Room)
def f_X6_in (v0 : Int32) (v1 : Int32) (v2 : Int32) : Option Int32 := if v0 < v1 then some 0 else if v2 < v0 then some 0 else some 1
set_option maxHeartbeats 4000000 in
set_option maxRecDepth 100000 in
theorem cn_X6_in (l : Launch) (Z : gZ) (v0 : Int32) (v1 : Int32) (v2 : Int32) {r : Int32} (h : f_X6_in v0 v1 v2 = some r) : gI l yX6_in wsX6_in rm_X6_in Z 0 id [.int v0, .int v1, .int v2] g0E r g0E := by
  refine g_entryI (cc := cX6_in) (maxL := 3) (by decide +kernel) rfl (fun i j hi => by omega) (Nat.le_of_ble_eq_true rfl) (fun X C e => ?_)
  unfold f_X6_in at h
  show GG X Z 3 0 id g0E 0 [(0, .int v0), (1, .int v1), (2, .int v2)] []
  refine g_iload_n C dX6_in_0 0 rfl ?_
  refine g_iload_n C dX6_in_1 1 rfl ?_
  refine g_icmp_lt (tgt := 14) C dX6_in_2 (by decide) (fun c1 => ?_) (fun c1 => ?_)
  · replace h := gi_pos c1 h
    refine g_iconst (v := 0) C dX6_in_14 (by decide) ?_
    obtain rfl := gs1 h
    exact g_zret C e rfl dX6_in_15
  · replace h := gi_neg c1 h
    refine g_iload_n C dX6_in_5 0 rfl ?_
    refine g_iload_n C dX6_in_6 2 rfl ?_
    refine g_icmp_gt (tgt := 14) C dX6_in_7 (by decide) (fun c2 => ?_) (fun c2 => ?_)
    · replace h := gi_pos c2 h
      refine g_iconst (v := 0) C dX6_in_14 (by decide) ?_
      obtain rfl := gs1 h
      exact g_zret C e rfl dX6_in_15
    · replace h := gi_neg c2 h
      refine g_iconst (v := 1) C dX6_in_10 (by decide) ?_
      refine g_goto (tgt := 15) C dX6_in_11 (by decide) ?_
      obtain rfl := gs1 h
      exact g_zret C e rfl dX6_in_15
abbrev rm_X6_flag : Room := ({ frames := 0, cells := 0, slots := 0, locals := 0 } : Room)
def f_X6_flag (v0 : Int32) : Option Int32 := if v0 = 0 then some 0 else some 1
set_option maxHeartbeats 4000000 in
set_option maxRecDepth 100000 in
theorem cn_X6_flag (l : Launch) (Z : gZ) (v0 : Int32) {r : Int32} (h : f_X6_flag v0 = some r) : gI l yX6_flag wsX6_flag rm_X6_flag Z 0 id [.int v0] g0E r g0E := by
  refine g_entryI (cc := cX6_flag) (maxL := 1) (by decide +kernel) rfl (fun i j hi => by omega) (Nat.le_of_ble_eq_true rfl) (fun X C e => ?_)
  unfold f_X6_flag at h
  show GG X Z 1 0 id g0E 0 [(0, .int v0)] []
  refine g_iload_n C dX6_flag_0 0 rfl ?_
  refine g_if_eq (tgt := 8) C dX6_flag_1 (by decide) (fun c1 => ?_) (fun c1 => ?_)
  · replace h := gi_pos c1 h
    refine g_iconst (v := 0) C dX6_flag_8 (by decide) ?_
    obtain rfl := gs1 h
    exact g_iret C e dX6_flag_9
  · replace h := gi_neg c1 h
    refine g_iconst (v := 1) C dX6_flag_4 (by decide) ?_
    refine g_goto (tgt := 9) C dX6_flag_5 (by decide) ?_
    obtain rfl := gs1 h
    exact g_iret C e dX6_flag_9
abbrev rm_X6_copies : Room := ({ frames := 0, cells := 0, slots := 0, locals := 0 } : Room)
def f_X6_copies_L2 (t : Nat → Int32) (g : Nat → Int32) (v1 : Int32) (v2 : Int32) : Nat → Int32 → (Nat → Int32) → Option ((Nat → Int32))
  | 0, _, _ => none
  | fu + 1, v3, s => if 246 ≤ v3 then some s else if 0 ≤ ((246 * v1) + v3) ∧ (((246 * v1) + v3)).toNatClampNeg < 1968 then if 0 ≤ ((246 * v2) + v3) ∧ (((246 * v2) + v3)).toNatClampNeg < 1968 then glet (upd s (((246 * v2) + v3)).toNatClampNeg (s (((246 * v1) + v3)).toNatClampNeg)) (fun s3 => glet (v3 + 1) (fun x4 => f_X6_copies_L2 t g v1 v2 fu x4 s3)) else none else none
def f_X6_copies (s : Nat → Int32) (t : Nat → Int32) (g : Nat → Int32) (v1 : Int32) (v2 : Int32) : Option ((Nat → Int32)) := f_X6_copies_L2 t g v1 v2 gFu 0 s
set_option maxRecDepth 20000 in
theorem in_X6_copies : ∀ w ∈ wsX60, w ∈ wsX6_copies := by decide +kernel
set_option maxRecDepth 20000 in
theorem fl_X6_copies_7 : Cond.fieldLink RX6 7 (TX6 0).1 (TX6 0).2.1 (TX6 0).2.2.1 ∈ wsX6_copies := by decide +kernel
set_option maxHeartbeats 4000000 in
set_option maxRecDepth 100000 in
theorem cl_X6_copies_L2 {X : gX} {Z : gZ} {ad : Nat → Nat} {t : Nat → Int32} {g : Nat → Int32} {s' : Nat → Int32} (C : GC X Z cX6_copies 4 wsX6_copies RX6 rm_X6_copies 3 ad) (e : gEV X Z 3 ad (mdlE Z.2.1 ad s' t g)) (v1 : Int32) (v2 : Int32) : ∀ (fu : Nat) (v3 : Int32) (s : Nat → Int32) (h : f_X6_copies_L2 t g v1 v2 fu v3 s = some s'), GG X Z 4 3 ad (mdlE Z.2.1 ad s t g) 2 [(0, .ref (ad 0)), (1, .int v1), (2, .int v2), (3, .int v3)] [] := by
  intro fu
  induction fu with
  | zero => intro v3 s h; cases h
  | succ fu ih =>
    intro v3 s h
    rw [f_X6_copies_L2] at h
    refine g_iload_n C dX6_copies_2 3 rfl ?_
    refine g_sipush (v := 246) C dX6_copies_3 (by decide) ?_
    refine g_icmp_ge (tgt := 39) C dX6_copies_6 (by decide) (fun c1 => ?_) (fun c1 => ?_)
    · replace h := gi_pos c1 h
      obtain rfl := gs1 h
      exact g_vret C e dX6_copies_39
    · replace h := gi_neg c1 h
      refine g_aload_n C dX6_copies_9 0 rfl ?_
      refine g_getf (v := .ref (ad 1)) C 0 (by decide) rfl rfl in_X6_copies 0 (by decide) fl_X6_copies_7 rfl dX6_copies_10 ?_
      refine g_sipush (v := 246) C dX6_copies_13 (by decide) ?_
      refine g_iload_n C dX6_copies_16 2 rfl ?_
      refine g_imul C dX6_copies_17 ?_
      refine g_iload_n C dX6_copies_18 3 rfl ?_
      refine g_iadd C dX6_copies_19 ?_
      refine g_aload_n C dX6_copies_20 0 rfl ?_
      refine g_getf (v := .ref (ad 1)) C 0 (by decide) rfl rfl in_X6_copies 0 (by decide) fl_X6_copies_7 rfl dX6_copies_21 ?_
      refine g_sipush (v := 246) C dX6_copies_24 (by decide) ?_
      refine g_iload_n C dX6_copies_27 1 rfl ?_
      refine g_imul C dX6_copies_28 ?_
      refine g_iload_n C dX6_copies_29 3 rfl ?_
      refine g_iadd C dX6_copies_30 ?_
      obtain ⟨b5, h⟩ := gguard h
      refine g_iald C 1 (by decide) rfl (g_in b5) dX6_copies_31 ?_
      obtain ⟨b2, h⟩ := gguard h
      obtain ⟨s3, es3, h⟩ := gl h
      refine g_iast C 1 (by decide) rfl (g_in b2) dX6_copies_32 (mdlE Z.2.1 ad s3 t g) (by rw [es3]; exact mdlE_s) ?_
      obtain ⟨x4, ex4, h⟩ := gl h
      refine g_iinc (v := x4) C dX6_copies_33 3 rfl (by rw [ex4]; rfl) (by decide) [(3, .int x4), (0, .ref (ad 0)), (1, .int v1), (2, .int v2)] rfl ?_
      refine g_goto (tgt := 2) C dX6_copies_36 (by decide) ?_
      exact g_sub [1, 2, 3, 0] rfl (ih x4 s3 h)
set_option maxHeartbeats 4000000 in
set_option maxRecDepth 100000 in
theorem cn_X6_copies (l : Launch) (Z : gZ) (ad : Nat → Nat) (hI : gInj 3 ad) (s : Nat → Int32) (t : Nat → Int32) (g : Nat → Int32) (v1 : Int32) (v2 : Int32) {s' : Nat → Int32} (h : f_X6_copies s t g v1 v2 = some s') : gV l yX6_copies wsX6_copies rm_X6_copies Z 3 ad [.ref (ad 0), .int v1, .int v2] (mdlE Z.2.1 ad s t g) (mdlE Z.2.1 ad s' t g) := by
  refine g_entryV (cc := cX6_copies) (maxL := 4) (by decide +kernel) rfl hI (Nat.le_of_ble_eq_true rfl) (fun X C e => ?_)
  unfold f_X6_copies at h
  show GG X Z 4 3 ad (mdlE Z.2.1 ad s t g) 0 [(0, .ref (ad 0)), (1, .int v1), (2, .int v2)] []
  refine g_iconst (v := 0) C dX6_copies_0 (by decide) ?_
  refine g_istore_n C dX6_copies_1 (by decide) [(3, .int 0), (0, .ref (ad 0)), (1, .int v1), (2, .int v2)] rfl ?_
  exact g_sub [1, 2, 3, 0] rfl (cl_X6_copies_L2 C e v1 v2 gFu 0 s h)
abbrev rm_X6_records : Room := ({ frames := 1, cells := 0, slots := 0, locals := 23 } : Room)
def f_X6_records_L10 (t : Nat → Int32) : Nat → Int32 → (Nat → Int32) → (Nat → Int32) → Option ((Nat → Int32) × (Nat → Int32))
  | 0, _, _, _ => none
  | fu + 1, v1, s, g => if 5 ≤ v1 then glet (upd g 0 ((g 0) - 1)) (fun g5 => glet (upd g5 0 ((g5 0) + 1)) (fun g6 => gb (f_X6_copies s t g6 0 (g6 0)) (fun s7 => some (s7, g6)))) else gb (f_X6_copies s t g (v1 + 1) v1) (fun s8 => glet (v1 + 1) (fun x9 => f_X6_records_L10 t fu x9 s8 g))
def f_X6_records (s : Nat → Int32) (t : Nat → Int32) (g : Nat → Int32) : Option ((Nat → Int32) × (Nat → Int32)) := if (g 0) = 5 then f_X6_records_L10 t gFu 1 s g else glet (upd g 0 ((g 0) + 1)) (fun g2 => gb (f_X6_copies s t g2 0 (g2 0)) (fun s3 => some (s3, g2)))
set_option maxRecDepth 20000 in
theorem in_X6_records : ∀ w ∈ wsX60, w ∈ wsX6_records := by decide +kernel
set_option maxRecDepth 20000 in
theorem fl_X6_records_16 : Cond.fieldLink RX6 16 (TX6 1).1 (TX6 1).2.1 (TX6 1).2.2.1 ∈ wsX6_records := by decide +kernel
set_option maxHeartbeats 4000000 in
set_option maxRecDepth 100000 in
theorem cl_X6_records_L10 {X : gX} {Z : gZ} {ad : Nat → Nat} {t : Nat → Int32} {s' : Nat → Int32} {g' : Nat → Int32} (C : GC X Z cX6_records 2 wsX6_records RX6 rm_X6_records 3 ad) (e : gEV X Z 3 ad (mdlE Z.2.1 ad s' t g'))  : ∀ (fu : Nat) (v1 : Int32) (s : Nat → Int32) (g : Nat → Int32) (h : f_X6_records_L10 t fu v1 s g = some (s', g')), GG X Z 2 3 ad (mdlE Z.2.1 ad s t g) 10 [(0, .ref (ad 0)), (1, .int v1)] [] := by
  intro fu
  induction fu with
  | zero => intro v1 s g h; cases h
  | succ fu ih =>
    intro v1 s g h
    rw [f_X6_records_L10] at h
    refine g_iload_n C dX6_records_10 1 rfl ?_
    refine g_iconst (v := 5) C dX6_records_11 (by decide) ?_
    refine g_icmp_ge (tgt := 29) C dX6_records_12 (by decide) (fun c4 => ?_) (fun c4 => ?_)
    · replace h := gi_pos c4 h
      refine g_aload_n C dX6_records_29 0 rfl ?_
      refine g_dup C dX6_records_30 rfl ?_
      refine g_getf (v := .int (g 0)) C 0 (by decide) rfl rfl in_X6_records 1 (by decide) fl_X6_records_16 rfl dX6_records_31 ?_
      refine g_iconst (v := 1) C dX6_records_34 (by decide) ?_
      refine g_isub C dX6_records_35 ?_
      obtain ⟨g5, eg5, h⟩ := gl h
      refine g_putf C 0 (by decide) rfl rfl in_X6_records tyX6 tyX6_ok nmX6 1 (by decide) fl_X6_records_16 rfl rfl rfl (Nat.le_of_ble_eq_true rfl) dX6_records_36 (mdlE Z.2.1 ad s t g5) (by rw [eg5]; exact mdlE_g0) ?_
      refine g_aload_n C dX6_records_39 0 rfl ?_
      refine g_dup C dX6_records_40 rfl ?_
      refine g_getf (v := .int (g5 0)) C 0 (by decide) rfl rfl in_X6_records 1 (by decide) fl_X6_records_16 rfl dX6_records_41 ?_
      refine g_iconst (v := 1) C dX6_records_44 (by decide) ?_
      refine g_iadd C dX6_records_45 ?_
      obtain ⟨g6, eg6, h⟩ := gl h
      refine g_putf C 0 (by decide) rfl rfl in_X6_records tyX6 tyX6_ok nmX6 1 (by decide) fl_X6_records_16 rfl rfl rfl (Nat.le_of_ble_eq_true rfl) dX6_records_46 (mdlE Z.2.1 ad s t g6) (by rw [eg6]; exact mdlE_g0) ?_
      refine g_aload_n C dX6_records_49 0 rfl ?_
      refine g_iconst (v := 0) C dX6_records_50 (by decide) ?_
      refine g_aload_n C dX6_records_51 0 rfl ?_
      refine g_getf (v := .int (g6 0)) C 0 (by decide) rfl rfl in_X6_records 1 (by decide) fl_X6_records_16 rfl dX6_records_52 ?_
      obtain ⟨s7, es7, h⟩ := gb1 h
      refine g_callWv (rest := []) C gX6_records_X6_copies rfl ok_X6_copies ⟨by decide, by decide⟩ ⟨rfl, rfl⟩ 0 (by decide) rfl rfl (fun hI => cn_X6_copies X.2.1 Z ad hI s t g6 0 (g6 0) es7) rfl dX6_records_55 rfl (Nat.le_of_ble_eq_true rfl) ?_
      obtain ⟨rfl, rfl⟩ := gs2 h
      exact g_vret C e dX6_records_58
    · replace h := gi_neg c4 h
      refine g_aload_n C dX6_records_15 0 rfl ?_
      refine g_iload_n C dX6_records_16 1 rfl ?_
      refine g_iconst (v := 1) C dX6_records_17 (by decide) ?_
      refine g_iadd C dX6_records_18 ?_
      refine g_iload_n C dX6_records_19 1 rfl ?_
      obtain ⟨s8, es8, h⟩ := gb1 h
      refine g_callWv (rest := []) C gX6_records_X6_copies rfl ok_X6_copies ⟨by decide, by decide⟩ ⟨rfl, rfl⟩ 0 (by decide) rfl rfl (fun hI => cn_X6_copies X.2.1 Z ad hI s t g (v1 + 1) v1 es8) rfl dX6_records_20 rfl (Nat.le_of_ble_eq_true rfl) ?_
      obtain ⟨x9, ex9, h⟩ := gl h
      refine g_iinc (v := x9) C dX6_records_23 1 rfl (by rw [ex9]; rfl) (by decide) [(1, .int x9), (0, .ref (ad 0))] rfl ?_
      refine g_goto (tgt := 10) C dX6_records_26 (by decide) ?_
      exact g_sub [1, 0] rfl (ih x9 s8 g h)
set_option maxHeartbeats 4000000 in
set_option maxRecDepth 100000 in
theorem cn_X6_records (l : Launch) (Z : gZ) (ad : Nat → Nat) (hI : gInj 3 ad) (s : Nat → Int32) (t : Nat → Int32) (g : Nat → Int32) {s' : Nat → Int32} {g' : Nat → Int32} (h : f_X6_records s t g = some (s', g')) : gV l yX6_records wsX6_records rm_X6_records Z 3 ad [.ref (ad 0)] (mdlE Z.2.1 ad s t g) (mdlE Z.2.1 ad s' t g') := by
  refine g_entryV (cc := cX6_records) (maxL := 2) (by decide +kernel) rfl hI (Nat.le_of_ble_eq_true rfl) (fun X C e => ?_)
  unfold f_X6_records at h
  show GG X Z 2 3 ad (mdlE Z.2.1 ad s t g) 0 [(0, .ref (ad 0))] []
  refine g_aload_n C dX6_records_0 0 rfl ?_
  refine g_getf (v := .int (g 0)) C 0 (by decide) rfl rfl in_X6_records 1 (by decide) fl_X6_records_16 rfl dX6_records_1 ?_
  refine g_iconst (v := 5) C dX6_records_4 (by decide) ?_
  refine g_icmp_ne (tgt := 39) C dX6_records_5 (by decide) (fun c1 => ?_) (fun c1 => ?_)
  · replace h := gi_neg c1 h
    refine g_aload_n C dX6_records_39 0 rfl ?_
    refine g_dup C dX6_records_40 rfl ?_
    refine g_getf (v := .int (g 0)) C 0 (by decide) rfl rfl in_X6_records 1 (by decide) fl_X6_records_16 rfl dX6_records_41 ?_
    refine g_iconst (v := 1) C dX6_records_44 (by decide) ?_
    refine g_iadd C dX6_records_45 ?_
    obtain ⟨g2, eg2, h⟩ := gl h
    refine g_putf C 0 (by decide) rfl rfl in_X6_records tyX6 tyX6_ok nmX6 1 (by decide) fl_X6_records_16 rfl rfl rfl (Nat.le_of_ble_eq_true rfl) dX6_records_46 (mdlE Z.2.1 ad s t g2) (by rw [eg2]; exact mdlE_g0) ?_
    refine g_aload_n C dX6_records_49 0 rfl ?_
    refine g_iconst (v := 0) C dX6_records_50 (by decide) ?_
    refine g_aload_n C dX6_records_51 0 rfl ?_
    refine g_getf (v := .int (g2 0)) C 0 (by decide) rfl rfl in_X6_records 1 (by decide) fl_X6_records_16 rfl dX6_records_52 ?_
    obtain ⟨s3, es3, h⟩ := gb1 h
    refine g_callWv (rest := []) C gX6_records_X6_copies rfl ok_X6_copies ⟨by decide, by decide⟩ ⟨rfl, rfl⟩ 0 (by decide) rfl rfl (fun hI => cn_X6_copies X.2.1 Z ad hI s t g2 0 (g2 0) es3) rfl dX6_records_55 rfl (Nat.le_of_ble_eq_true rfl) ?_
    obtain ⟨rfl, rfl⟩ := gs2 h
    exact g_vret C e dX6_records_58
  · replace h := gi_pos c1 h
    refine g_iconst (v := 1) C dX6_records_8 (by decide) ?_
    refine g_istore_n C dX6_records_9 (by decide) [(1, .int 1), (0, .ref (ad 0))] rfl ?_
    exact g_sub [1, 0] rfl (cl_X6_records_L10 C e gFu 1 s g h)
abbrev rm_X6_at : Room := ({ frames := 0, cells := 0, slots := 0, locals := 0 } : Room)
def f_X6_at (v0 : Int32) (v1 : Int32) : Option Int32 := some ((v0 + 192) + (6 * v1))
set_option maxHeartbeats 4000000 in
set_option maxRecDepth 100000 in
theorem cn_X6_at (l : Launch) (Z : gZ) (v0 : Int32) (v1 : Int32) {r : Int32} (h : f_X6_at v0 v1 = some r) : gI l yX6_at wsX6_at rm_X6_at Z 0 id [.int v0, .int v1] g0E r g0E := by
  refine g_entryI (cc := cX6_at) (maxL := 2) (by decide +kernel) rfl (fun i j hi => by omega) (Nat.le_of_ble_eq_true rfl) (fun X C e => ?_)
  unfold f_X6_at at h
  show GG X Z 2 0 id g0E 0 [(0, .int v0), (1, .int v1)] []
  refine g_iload_n C dX6_at_0 0 rfl ?_
  refine g_sipush (v := 192) C dX6_at_1 (by decide) ?_
  refine g_iadd C dX6_at_4 ?_
  refine g_bipush (v := 6) C dX6_at_5 (by decide) ?_
  refine g_iload_n C dX6_at_7 1 rfl ?_
  refine g_imul C dX6_at_8 ?_
  refine g_iadd C dX6_at_9 ?_
  obtain rfl := gs1 h
  exact g_iret C e dX6_at_10
abbrev rm_X6_isThere : Room := ({ frames := 1, cells := 0, slots := 0, locals := 22 } : Room)
def f_X6_isThere (s : Nat → Int32) (t : Nat → Int32) (g : Nat → Int32) (v1 : Int32) : Option Int32 := gb (f_X6_in v1 0 7) (fun r1 => if r1 = 0 then some 0 else gb (f_X6_at 0 v1) (fun r3 => if 0 ≤ r3 ∧ (r3).toNatClampNeg < 1968 then if (s (r3).toNatClampNeg) = 1 then some 1 else some 0 else none))
set_option maxRecDepth 20000 in
theorem in_X6_isThere : ∀ w ∈ wsX60, w ∈ wsX6_isThere := by decide +kernel
set_option maxRecDepth 20000 in
theorem fl_X6_isThere_7 : Cond.fieldLink RX6 7 (TX6 0).1 (TX6 0).2.1 (TX6 0).2.2.1 ∈ wsX6_isThere := by decide +kernel
set_option maxHeartbeats 4000000 in
set_option maxRecDepth 100000 in
theorem cn_X6_isThere (l : Launch) (Z : gZ) (ad : Nat → Nat) (hI : gInj 3 ad) (s : Nat → Int32) (t : Nat → Int32) (g : Nat → Int32) (v1 : Int32) {r : Int32} (h : f_X6_isThere s t g v1 = some r) : gI l yX6_isThere wsX6_isThere rm_X6_isThere Z 3 ad [.ref (ad 0), .int v1] (mdlE Z.2.1 ad s t g) r (mdlE Z.2.1 ad s t g) := by
  refine g_entryI (cc := cX6_isThere) (maxL := 2) (by decide +kernel) rfl hI (Nat.le_of_ble_eq_true rfl) (fun X C e => ?_)
  unfold f_X6_isThere at h
  show GG X Z 2 3 ad (mdlE Z.2.1 ad s t g) 0 [(0, .ref (ad 0)), (1, .int v1)] []
  refine g_iload_n C dX6_isThere_0 1 rfl ?_
  refine g_iconst (v := 0) C dX6_isThere_1 (by decide) ?_
  refine g_bipush (v := 7) C dX6_isThere_2 (by decide) ?_
  obtain ⟨r1, er1, h⟩ := gb1 h
  refine g_callSi (rest := []) C gX6_isThere_X6_in rfl ok_X6_in ⟨by decide, by decide⟩ ⟨rfl, rfl⟩ (cn_X6_in X.2.1 Z v1 0 7 er1) rfl dX6_isThere_4 rfl (Nat.le_of_ble_eq_true rfl) ?_
  refine g_if_eq (tgt := 28) C dX6_isThere_7 (by decide) (fun c2 => ?_) (fun c2 => ?_)
  · replace h := gi_pos c2 h
    refine g_iconst (v := 0) C dX6_isThere_28 (by decide) ?_
    obtain rfl := gs1 h
    exact g_zret C e rfl dX6_isThere_29
  · replace h := gi_neg c2 h
    refine g_aload_n C dX6_isThere_10 0 rfl ?_
    refine g_getf (v := .ref (ad 1)) C 0 (by decide) rfl rfl in_X6_isThere 0 (by decide) fl_X6_isThere_7 rfl dX6_isThere_11 ?_
    refine g_iconst (v := 0) C dX6_isThere_14 (by decide) ?_
    refine g_iload_n C dX6_isThere_15 1 rfl ?_
    obtain ⟨r3, er3, h⟩ := gb1 h
    refine g_callSi (rest := [.ref (ad 1)]) C gX6_isThere_X6_at rfl ok_X6_at ⟨by decide, by decide⟩ ⟨rfl, rfl⟩ (cn_X6_at X.2.1 Z 0 v1 er3) rfl dX6_isThere_16 rfl (Nat.le_of_ble_eq_true rfl) ?_
    obtain ⟨b5, h⟩ := gguard h
    refine g_iald C 1 (by decide) rfl (g_in b5) dX6_isThere_19 ?_
    refine g_iconst (v := 1) C dX6_isThere_20 (by decide) ?_
    refine g_icmp_ne (tgt := 28) C dX6_isThere_21 (by decide) (fun c4 => ?_) (fun c4 => ?_)
    · replace h := gi_neg c4 h
      refine g_iconst (v := 0) C dX6_isThere_28 (by decide) ?_
      obtain rfl := gs1 h
      exact g_zret C e rfl dX6_isThere_29
    · replace h := gi_pos c4 h
      refine g_iconst (v := 1) C dX6_isThere_24 (by decide) ?_
      refine g_goto (tgt := 29) C dX6_isThere_25 (by decide) ?_
      obtain rfl := gs1 h
      exact g_zret C e rfl dX6_isThere_29
abbrev rm_X6_isOpen : Room := ({ frames := 1, cells := 0, slots := 0, locals := 21 } : Room)
def f_X6_isOpen (s : Nat → Int32) (t : Nat → Int32) (g : Nat → Int32) (v1 : Int32) : Option Int32 := gb (f_X6_at 0 v1) (fun r1 => if 0 ≤ (r1 + 4) ∧ ((r1 + 4)).toNatClampNeg < 1968 then if (s ((r1 + 4)).toNatClampNeg) = 1 then some 1 else some 0 else none)
set_option maxRecDepth 20000 in
theorem in_X6_isOpen : ∀ w ∈ wsX60, w ∈ wsX6_isOpen := by decide +kernel
set_option maxRecDepth 20000 in
theorem fl_X6_isOpen_7 : Cond.fieldLink RX6 7 (TX6 0).1 (TX6 0).2.1 (TX6 0).2.2.1 ∈ wsX6_isOpen := by decide +kernel
set_option maxHeartbeats 4000000 in
set_option maxRecDepth 100000 in
theorem cn_X6_isOpen (l : Launch) (Z : gZ) (ad : Nat → Nat) (hI : gInj 3 ad) (s : Nat → Int32) (t : Nat → Int32) (g : Nat → Int32) (v1 : Int32) {r : Int32} (h : f_X6_isOpen s t g v1 = some r) : gI l yX6_isOpen wsX6_isOpen rm_X6_isOpen Z 3 ad [.ref (ad 0), .int v1] (mdlE Z.2.1 ad s t g) r (mdlE Z.2.1 ad s t g) := by
  refine g_entryI (cc := cX6_isOpen) (maxL := 2) (by decide +kernel) rfl hI (Nat.le_of_ble_eq_true rfl) (fun X C e => ?_)
  unfold f_X6_isOpen at h
  show GG X Z 2 3 ad (mdlE Z.2.1 ad s t g) 0 [(0, .ref (ad 0)), (1, .int v1)] []
  refine g_aload_n C dX6_isOpen_0 0 rfl ?_
  refine g_getf (v := .ref (ad 1)) C 0 (by decide) rfl rfl in_X6_isOpen 0 (by decide) fl_X6_isOpen_7 rfl dX6_isOpen_1 ?_
  refine g_iconst (v := 0) C dX6_isOpen_4 (by decide) ?_
  refine g_iload_n C dX6_isOpen_5 1 rfl ?_
  obtain ⟨r1, er1, h⟩ := gb1 h
  refine g_callSi (rest := [.ref (ad 1)]) C gX6_isOpen_X6_at rfl ok_X6_at ⟨by decide, by decide⟩ ⟨rfl, rfl⟩ (cn_X6_at X.2.1 Z 0 v1 er1) rfl dX6_isOpen_6 rfl (Nat.le_of_ble_eq_true rfl) ?_
  refine g_iconst (v := 4) C dX6_isOpen_9 (by decide) ?_
  refine g_iadd C dX6_isOpen_10 ?_
  obtain ⟨b3, h⟩ := gguard h
  refine g_iald C 1 (by decide) rfl (g_in b3) dX6_isOpen_11 ?_
  refine g_iconst (v := 1) C dX6_isOpen_12 (by decide) ?_
  refine g_icmp_ne (tgt := 20) C dX6_isOpen_13 (by decide) (fun c2 => ?_) (fun c2 => ?_)
  · replace h := gi_neg c2 h
    refine g_iconst (v := 0) C dX6_isOpen_20 (by decide) ?_
    obtain rfl := gs1 h
    exact g_zret C e rfl dX6_isOpen_21
  · replace h := gi_pos c2 h
    refine g_iconst (v := 1) C dX6_isOpen_16 (by decide) ?_
    refine g_goto (tgt := 21) C dX6_isOpen_17 (by decide) ?_
    obtain rfl := gs1 h
    exact g_zret C e rfl dX6_isOpen_21
abbrev rm_X6_lent : Room := ({ frames := 1, cells := 0, slots := 0, locals := 21 } : Room)
def f_X6_lent (s : Nat → Int32) (t : Nat → Int32) (g : Nat → Int32) (v1 : Int32) (v2 : Int32) : Option Int32 := gb (f_X6_at v1 v2) (fun r1 => if 0 ≤ r1 ∧ (r1).toNatClampNeg < 1968 then if (s (r1).toNatClampNeg) = 1 then if 0 ≤ (r1 + 1) ∧ ((r1 + 1)).toNatClampNeg < 1968 then if 0 ≤ (r1 + 2) ∧ ((r1 + 2)).toNatClampNeg < 1968 then some ((s ((r1 + 1)).toNatClampNeg) - (s ((r1 + 2)).toNatClampNeg)) else none else none else some 0 else none)
set_option maxRecDepth 20000 in
theorem in_X6_lent : ∀ w ∈ wsX60, w ∈ wsX6_lent := by decide +kernel
set_option maxRecDepth 20000 in
theorem fl_X6_lent_7 : Cond.fieldLink RX6 7 (TX6 0).1 (TX6 0).2.1 (TX6 0).2.2.1 ∈ wsX6_lent := by decide +kernel
set_option maxHeartbeats 4000000 in
set_option maxRecDepth 100000 in
theorem cn_X6_lent (l : Launch) (Z : gZ) (ad : Nat → Nat) (hI : gInj 3 ad) (s : Nat → Int32) (t : Nat → Int32) (g : Nat → Int32) (v1 : Int32) (v2 : Int32) {r : Int32} (h : f_X6_lent s t g v1 v2 = some r) : gI l yX6_lent wsX6_lent rm_X6_lent Z 3 ad [.ref (ad 0), .int v1, .int v2] (mdlE Z.2.1 ad s t g) r (mdlE Z.2.1 ad s t g) := by
  refine g_entryI (cc := cX6_lent) (maxL := 4) (by decide +kernel) rfl hI (Nat.le_of_ble_eq_true rfl) (fun X C e => ?_)
  unfold f_X6_lent at h
  show GG X Z 4 3 ad (mdlE Z.2.1 ad s t g) 0 [(0, .ref (ad 0)), (1, .int v1), (2, .int v2)] []
  refine g_iload_n C dX6_lent_0 1 rfl ?_
  refine g_iload_n C dX6_lent_1 2 rfl ?_
  obtain ⟨r1, er1, h⟩ := gb1 h
  refine g_callSi (rest := []) C gX6_lent_X6_at rfl ok_X6_at ⟨by decide, by decide⟩ ⟨rfl, rfl⟩ (cn_X6_at X.2.1 Z v1 v2 er1) rfl dX6_lent_2 rfl (Nat.le_of_ble_eq_true rfl) ?_
  refine g_istore_n C dX6_lent_5 (by decide) [(3, .int r1), (0, .ref (ad 0)), (1, .int v1), (2, .int v2)] rfl ?_
  refine g_aload_n C dX6_lent_6 1 rfl ?_
  refine g_getf (v := .ref (ad 1)) C 0 (by decide) rfl rfl in_X6_lent 0 (by decide) fl_X6_lent_7 rfl dX6_lent_7 ?_
  refine g_iload_n C dX6_lent_10 0 rfl ?_
  obtain ⟨b5, h⟩ := gguard h
  refine g_iald C 1 (by decide) rfl (g_in b5) dX6_lent_11 ?_
  refine g_iconst (v := 1) C dX6_lent_12 (by decide) ?_
  refine g_icmp_ne (tgt := 36) C dX6_lent_13 (by decide) (fun c2 => ?_) (fun c2 => ?_)
  · replace h := gi_neg c2 h
    refine g_iconst (v := 0) C dX6_lent_36 (by decide) ?_
    obtain rfl := gs1 h
    exact g_iret C e dX6_lent_37
  · replace h := gi_pos c2 h
    refine g_aload_n C dX6_lent_16 1 rfl ?_
    refine g_getf (v := .ref (ad 1)) C 0 (by decide) rfl rfl in_X6_lent 0 (by decide) fl_X6_lent_7 rfl dX6_lent_17 ?_
    refine g_iload_n C dX6_lent_20 0 rfl ?_
    refine g_iconst (v := 1) C dX6_lent_21 (by decide) ?_
    refine g_iadd C dX6_lent_22 ?_
    obtain ⟨b4, h⟩ := gguard h
    refine g_iald C 1 (by decide) rfl (g_in b4) dX6_lent_23 ?_
    refine g_aload_n C dX6_lent_24 1 rfl ?_
    refine g_getf (v := .ref (ad 1)) C 0 (by decide) rfl rfl in_X6_lent 0 (by decide) fl_X6_lent_7 rfl dX6_lent_25 ?_
    refine g_iload_n C dX6_lent_28 0 rfl ?_
    refine g_iconst (v := 2) C dX6_lent_29 (by decide) ?_
    refine g_iadd C dX6_lent_30 ?_
    obtain ⟨b3, h⟩ := gguard h
    refine g_iald C 1 (by decide) rfl (g_in b3) dX6_lent_31 ?_
    refine g_isub C dX6_lent_32 ?_
    refine g_goto (tgt := 37) C dX6_lent_33 (by decide) ?_
    obtain rfl := gs1 h
    exact g_iret C e dX6_lent_37
abbrev rm_X6_isFree : Room := ({ frames := 0, cells := 0, slots := 0, locals := 0 } : Room)
def f_X6_isFree (s : Nat → Int32) (t : Nat → Int32) (g : Nat → Int32) (v1 : Int32) (v2 : Int32) : Option Int32 := if 64 ≤ v2 then some 0 else if 0 ≤ ((v1 + 64) + v2) ∧ (((v1 + 64) + v2)).toNatClampNeg < 1968 then if (s (((v1 + 64) + v2)).toNatClampNeg) = (-5) then some 1 else some 0 else none
set_option maxRecDepth 20000 in
theorem in_X6_isFree : ∀ w ∈ wsX60, w ∈ wsX6_isFree := by decide +kernel
set_option maxRecDepth 20000 in
theorem fl_X6_isFree_7 : Cond.fieldLink RX6 7 (TX6 0).1 (TX6 0).2.1 (TX6 0).2.2.1 ∈ wsX6_isFree := by decide +kernel
set_option maxHeartbeats 4000000 in
set_option maxRecDepth 100000 in
theorem cn_X6_isFree (l : Launch) (Z : gZ) (ad : Nat → Nat) (hI : gInj 3 ad) (s : Nat → Int32) (t : Nat → Int32) (g : Nat → Int32) (v1 : Int32) (v2 : Int32) {r : Int32} (h : f_X6_isFree s t g v1 v2 = some r) : gI l yX6_isFree wsX6_isFree rm_X6_isFree Z 3 ad [.ref (ad 0), .int v1, .int v2] (mdlE Z.2.1 ad s t g) r (mdlE Z.2.1 ad s t g) := by
  refine g_entryI (cc := cX6_isFree) (maxL := 3) (by decide +kernel) rfl hI (Nat.le_of_ble_eq_true rfl) (fun X C e => ?_)
  unfold f_X6_isFree at h
  show GG X Z 3 3 ad (mdlE Z.2.1 ad s t g) 0 [(0, .ref (ad 0)), (1, .int v1), (2, .int v2)] []
  refine g_iload_n C dX6_isFree_0 2 rfl ?_
  refine g_bipush (v := 64) C dX6_isFree_1 (by decide) ?_
  refine g_icmp_ge (tgt := 26) C dX6_isFree_3 (by decide) (fun c1 => ?_) (fun c1 => ?_)
  · replace h := gi_pos c1 h
    refine g_iconst (v := 0) C dX6_isFree_26 (by decide) ?_
    obtain rfl := gs1 h
    exact g_zret C e rfl dX6_isFree_27
  · replace h := gi_neg c1 h
    refine g_aload_n C dX6_isFree_6 0 rfl ?_
    refine g_getf (v := .ref (ad 1)) C 0 (by decide) rfl rfl in_X6_isFree 0 (by decide) fl_X6_isFree_7 rfl dX6_isFree_7 ?_
    refine g_iload_n C dX6_isFree_10 1 rfl ?_
    refine g_bipush (v := 64) C dX6_isFree_11 (by decide) ?_
    refine g_iadd C dX6_isFree_13 ?_
    refine g_iload_n C dX6_isFree_14 2 rfl ?_
    refine g_iadd C dX6_isFree_15 ?_
    obtain ⟨b3, h⟩ := gguard h
    refine g_iald C 1 (by decide) rfl (g_in b3) dX6_isFree_16 ?_
    refine g_bipush (v := (-5)) C dX6_isFree_17 (by decide) ?_
    refine g_icmp_ne (tgt := 26) C dX6_isFree_19 (by decide) (fun c2 => ?_) (fun c2 => ?_)
    · replace h := gi_neg c2 h
      refine g_iconst (v := 0) C dX6_isFree_26 (by decide) ?_
      obtain rfl := gs1 h
      exact g_zret C e rfl dX6_isFree_27
    · replace h := gi_pos c2 h
      refine g_iconst (v := 1) C dX6_isFree_22 (by decide) ?_
      refine g_goto (tgt := 27) C dX6_isFree_23 (by decide) ?_
      obtain rfl := gs1 h
      exact g_zret C e rfl dX6_isFree_27
abbrev rm_X6_free : Room := ({ frames := 1, cells := 0, slots := 0, locals := 22 } : Room)
def f_X6_free_L4 (s : Nat → Int32) (t : Nat → Int32) (g : Nat → Int32) (v1 : Int32) : Nat → Int32 → Int32 → Option Int32
  | 0, _, _ => none
  | fu + 1, v2, v3 => if 64 ≤ v3 then some v2 else gb (f_X6_isFree s t g v1 v3) (fun r2 => gb (f_X6_flag r2) (fun r3 => glet (v2 + r3) (fun x4 => glet (v3 + 1) (fun x5 => f_X6_free_L4 s t g v1 fu x4 x5))))
def f_X6_free (s : Nat → Int32) (t : Nat → Int32) (g : Nat → Int32) (v1 : Int32) : Option Int32 := f_X6_free_L4 s t g v1 gFu 0 0
set_option maxHeartbeats 4000000 in
set_option maxRecDepth 100000 in
theorem cl_X6_free_L4 {X : gX} {Z : gZ} {ad : Nat → Nat} {s : Nat → Int32} {t : Nat → Int32} {g : Nat → Int32} {r : Int32} (C : GC X Z cX6_free 4 wsX6_free RX6 rm_X6_free 3 ad) (e : gEI X Z 3 ad .int r (mdlE Z.2.1 ad s t g)) (v1 : Int32) : ∀ (fu : Nat) (v2 : Int32) (v3 : Int32) (h : f_X6_free_L4 s t g v1 fu v2 v3 = some r), GG X Z 4 3 ad (mdlE Z.2.1 ad s t g) 4 [(0, .ref (ad 0)), (1, .int v1), (2, .int v2), (3, .int v3)] [] := by
  intro fu
  induction fu with
  | zero => intro v2 v3 h; cases h
  | succ fu ih =>
    intro v2 v3 h
    rw [f_X6_free_L4] at h
    refine g_iload_n C dX6_free_4 3 rfl ?_
    refine g_bipush (v := 64) C dX6_free_5 (by decide) ?_
    refine g_icmp_ge (tgt := 28) C dX6_free_7 (by decide) (fun c1 => ?_) (fun c1 => ?_)
    · replace h := gi_pos c1 h
      refine g_iload_n C dX6_free_28 2 rfl ?_
      obtain rfl := gs1 h
      exact g_iret C e dX6_free_29
    · replace h := gi_neg c1 h
      refine g_iload_n C dX6_free_10 2 rfl ?_
      refine g_aload_n C dX6_free_11 0 rfl ?_
      refine g_iload_n C dX6_free_12 1 rfl ?_
      refine g_iload_n C dX6_free_13 3 rfl ?_
      obtain ⟨r2, er2, h⟩ := gb1 h
      refine g_callWi (rest := [.int v2]) C gX6_free_X6_isFree rfl ok_X6_isFree ⟨by decide, by decide⟩ ⟨rfl, rfl⟩ 0 (by decide) rfl rfl (fun hI => cn_X6_isFree X.2.1 Z ad hI s t g v1 v3 er2) rfl dX6_free_14 rfl (Nat.le_of_ble_eq_true rfl) ?_
      obtain ⟨r3, er3, h⟩ := gb1 h
      refine g_callSi (rest := [.int v2]) C gX6_free_X6_flag rfl ok_X6_flag ⟨by decide, by decide⟩ ⟨rfl, rfl⟩ (cn_X6_flag X.2.1 Z r2 er3) rfl dX6_free_17 rfl (Nat.le_of_ble_eq_true rfl) ?_
      refine g_iadd C dX6_free_20 ?_
      obtain ⟨x4, ex4, h⟩ := gl h
      refine g_istore_n C dX6_free_21 (by decide) [(2, .int x4), (0, .ref (ad 0)), (1, .int v1), (3, .int v3)] (by rw [ex4]; rfl) ?_
      obtain ⟨x5, ex5, h⟩ := gl h
      refine g_iinc (v := x5) C dX6_free_22 3 rfl (by rw [ex5]; rfl) (by decide) [(3, .int x5), (2, .int x4), (0, .ref (ad 0)), (1, .int v1)] rfl ?_
      refine g_goto (tgt := 4) C dX6_free_25 (by decide) ?_
      exact g_sub [2, 3, 1, 0] rfl (ih x4 x5 h)
set_option maxHeartbeats 4000000 in
set_option maxRecDepth 100000 in
theorem cn_X6_free (l : Launch) (Z : gZ) (ad : Nat → Nat) (hI : gInj 3 ad) (s : Nat → Int32) (t : Nat → Int32) (g : Nat → Int32) (v1 : Int32) {r : Int32} (h : f_X6_free s t g v1 = some r) : gI l yX6_free wsX6_free rm_X6_free Z 3 ad [.ref (ad 0), .int v1] (mdlE Z.2.1 ad s t g) r (mdlE Z.2.1 ad s t g) := by
  refine g_entryI (cc := cX6_free) (maxL := 4) (by decide +kernel) rfl hI (Nat.le_of_ble_eq_true rfl) (fun X C e => ?_)
  unfold f_X6_free at h
  show GG X Z 4 3 ad (mdlE Z.2.1 ad s t g) 0 [(0, .ref (ad 0)), (1, .int v1)] []
  refine g_iconst (v := 0) C dX6_free_0 (by decide) ?_
  refine g_istore_n C dX6_free_1 (by decide) [(2, .int 0), (0, .ref (ad 0)), (1, .int v1)] rfl ?_
  refine g_iconst (v := 0) C dX6_free_2 (by decide) ?_
  refine g_istore_n C dX6_free_3 (by decide) [(3, .int 0), (2, .int 0), (0, .ref (ad 0)), (1, .int v1)] rfl ?_
  exact g_sub [2, 3, 1, 0] rfl (cl_X6_free_L4 C e v1 gFu 0 0 h)
abbrev rm_X6_blockOf : Room := ({ frames := 0, cells := 0, slots := 0, locals := 0 } : Room)
def f_X6_blockOf_L7 (s : Nat → Int32) (t : Nat → Int32) (g : Nat → Int32) (v1 : Int32) (v2 : Int32) (v3 : Int32) : Nat → Int32 → Int32 → Option Int32
  | 0, _, _ => none
  | fu + 1, v4, v5 => if 64 ≤ v5 then some v4 else if 0 ≤ ((v1 + 64) + v5) ∧ (((v1 + 64) + v5)).toNatClampNeg < 1968 then if (s (((v1 + 64) + v5)).toNatClampNeg) = v2 then if 0 ≤ ((v1 + 128) + v5) ∧ (((v1 + 128) + v5)).toNatClampNeg < 1968 then if (s (((v1 + 128) + v5)).toNatClampNeg) = v3 then glet (v5 + 1) (fun x6 => f_X6_blockOf_L7 s t g v1 v2 v3 fu v5 x6) else glet (v5 + 1) (fun x5 => f_X6_blockOf_L7 s t g v1 v2 v3 fu v4 x5) else none else glet (v5 + 1) (fun x3 => f_X6_blockOf_L7 s t g v1 v2 v3 fu v4 x3) else none
def f_X6_blockOf (s : Nat → Int32) (t : Nat → Int32) (g : Nat → Int32) (v1 : Int32) (v2 : Int32) (v3 : Int32) : Option Int32 := f_X6_blockOf_L7 s t g v1 v2 v3 gFu (-5) 0
set_option maxRecDepth 20000 in
theorem in_X6_blockOf : ∀ w ∈ wsX60, w ∈ wsX6_blockOf := by decide +kernel
set_option maxRecDepth 20000 in
theorem fl_X6_blockOf_7 : Cond.fieldLink RX6 7 (TX6 0).1 (TX6 0).2.1 (TX6 0).2.2.1 ∈ wsX6_blockOf := by decide +kernel
set_option maxHeartbeats 4000000 in
set_option maxRecDepth 100000 in
theorem cl_X6_blockOf_L7 {X : gX} {Z : gZ} {ad : Nat → Nat} {s : Nat → Int32} {t : Nat → Int32} {g : Nat → Int32} {r : Int32} (C : GC X Z cX6_blockOf 6 wsX6_blockOf RX6 rm_X6_blockOf 3 ad) (e : gEI X Z 3 ad .int r (mdlE Z.2.1 ad s t g)) (v1 : Int32) (v2 : Int32) (v3 : Int32) : ∀ (fu : Nat) (v4 : Int32) (v5 : Int32) (h : f_X6_blockOf_L7 s t g v1 v2 v3 fu v4 v5 = some r), GG X Z 6 3 ad (mdlE Z.2.1 ad s t g) 7 [(0, .ref (ad 0)), (1, .int v1), (2, .int v2), (3, .int v3), (4, .int v4), (5, .int v5)] [] := by
  intro fu
  induction fu with
  | zero => intro v4 v5 h; cases h
  | succ fu ih =>
    intro v4 v5 h
    rw [f_X6_blockOf_L7] at h
    refine g_iload C dX6_blockOf_7 5 rfl ?_
    refine g_bipush (v := 64) C dX6_blockOf_9 (by decide) ?_
    refine g_icmp_ge (tgt := 62) C dX6_blockOf_11 (by decide) (fun c1 => ?_) (fun c1 => ?_)
    · replace h := gi_pos c1 h
      refine g_iload C dX6_blockOf_62 4 rfl ?_
      obtain rfl := gs1 h
      exact g_iret C e dX6_blockOf_64
    · replace h := gi_neg c1 h
      refine g_aload_n C dX6_blockOf_14 0 rfl ?_
      refine g_getf (v := .ref (ad 1)) C 0 (by decide) rfl rfl in_X6_blockOf 0 (by decide) fl_X6_blockOf_7 rfl dX6_blockOf_15 ?_
      refine g_iload_n C dX6_blockOf_18 1 rfl ?_
      refine g_bipush (v := 64) C dX6_blockOf_19 (by decide) ?_
      refine g_iadd C dX6_blockOf_21 ?_
      refine g_iload C dX6_blockOf_22 5 rfl ?_
      refine g_iadd C dX6_blockOf_24 ?_
      obtain ⟨b8, h⟩ := gguard h
      refine g_iald C 1 (by decide) rfl (g_in b8) dX6_blockOf_25 ?_
      refine g_iload_n C dX6_blockOf_26 2 rfl ?_
      refine g_icmp_ne (tgt := 52) C dX6_blockOf_27 (by decide) (fun c2 => ?_) (fun c2 => ?_)
      · replace h := gi_neg c2 h
        refine g_iload C dX6_blockOf_52 4 rfl ?_
        refine g_istore C dX6_blockOf_54 (by decide) [(4, .int v4), (0, .ref (ad 0)), (1, .int v1), (2, .int v2), (3, .int v3), (5, .int v5)] rfl ?_
        obtain ⟨x3, ex3, h⟩ := gl h
        refine g_iinc (v := x3) C dX6_blockOf_56 5 rfl (by rw [ex3]; rfl) (by decide) [(5, .int x3), (4, .int v4), (0, .ref (ad 0)), (1, .int v1), (2, .int v2), (3, .int v3)] rfl ?_
        refine g_goto (tgt := 7) C dX6_blockOf_59 (by decide) ?_
        exact g_sub [2, 3, 4, 5, 1, 0] rfl (ih v4 x3 h)
      · replace h := gi_pos c2 h
        refine g_aload_n C dX6_blockOf_30 0 rfl ?_
        refine g_getf (v := .ref (ad 1)) C 0 (by decide) rfl rfl in_X6_blockOf 0 (by decide) fl_X6_blockOf_7 rfl dX6_blockOf_31 ?_
        refine g_iload_n C dX6_blockOf_34 1 rfl ?_
        refine g_sipush (v := 128) C dX6_blockOf_35 (by decide) ?_
        refine g_iadd C dX6_blockOf_38 ?_
        refine g_iload C dX6_blockOf_39 5 rfl ?_
        refine g_iadd C dX6_blockOf_41 ?_
        obtain ⟨b7, h⟩ := gguard h
        refine g_iald C 1 (by decide) rfl (g_in b7) dX6_blockOf_42 ?_
        refine g_iload_n C dX6_blockOf_43 3 rfl ?_
        refine g_icmp_ne (tgt := 52) C dX6_blockOf_44 (by decide) (fun c4 => ?_) (fun c4 => ?_)
        · replace h := gi_neg c4 h
          refine g_iload C dX6_blockOf_52 4 rfl ?_
          refine g_istore C dX6_blockOf_54 (by decide) [(4, .int v4), (0, .ref (ad 0)), (1, .int v1), (2, .int v2), (3, .int v3), (5, .int v5)] rfl ?_
          obtain ⟨x5, ex5, h⟩ := gl h
          refine g_iinc (v := x5) C dX6_blockOf_56 5 rfl (by rw [ex5]; rfl) (by decide) [(5, .int x5), (4, .int v4), (0, .ref (ad 0)), (1, .int v1), (2, .int v2), (3, .int v3)] rfl ?_
          refine g_goto (tgt := 7) C dX6_blockOf_59 (by decide) ?_
          exact g_sub [2, 3, 4, 5, 1, 0] rfl (ih v4 x5 h)
        · replace h := gi_pos c4 h
          refine g_iload C dX6_blockOf_47 5 rfl ?_
          refine g_goto (tgt := 54) C dX6_blockOf_49 (by decide) ?_
          refine g_istore C dX6_blockOf_54 (by decide) [(4, .int v5), (0, .ref (ad 0)), (1, .int v1), (2, .int v2), (3, .int v3), (5, .int v5)] rfl ?_
          obtain ⟨x6, ex6, h⟩ := gl h
          refine g_iinc (v := x6) C dX6_blockOf_56 5 rfl (by rw [ex6]; rfl) (by decide) [(5, .int x6), (4, .int v5), (0, .ref (ad 0)), (1, .int v1), (2, .int v2), (3, .int v3)] rfl ?_
          refine g_goto (tgt := 7) C dX6_blockOf_59 (by decide) ?_
          exact g_sub [2, 3, 4, 5, 1, 0] rfl (ih v5 x6 h)
set_option maxHeartbeats 4000000 in
set_option maxRecDepth 100000 in
theorem cn_X6_blockOf (l : Launch) (Z : gZ) (ad : Nat → Nat) (hI : gInj 3 ad) (s : Nat → Int32) (t : Nat → Int32) (g : Nat → Int32) (v1 : Int32) (v2 : Int32) (v3 : Int32) {r : Int32} (h : f_X6_blockOf s t g v1 v2 v3 = some r) : gI l yX6_blockOf wsX6_blockOf rm_X6_blockOf Z 3 ad [.ref (ad 0), .int v1, .int v2, .int v3] (mdlE Z.2.1 ad s t g) r (mdlE Z.2.1 ad s t g) := by
  refine g_entryI (cc := cX6_blockOf) (maxL := 6) (by decide +kernel) rfl hI (Nat.le_of_ble_eq_true rfl) (fun X C e => ?_)
  unfold f_X6_blockOf at h
  show GG X Z 6 3 ad (mdlE Z.2.1 ad s t g) 0 [(0, .ref (ad 0)), (1, .int v1), (2, .int v2), (3, .int v3)] []
  refine g_bipush (v := (-5)) C dX6_blockOf_0 (by decide) ?_
  refine g_istore C dX6_blockOf_2 (by decide) [(4, .int (-5)), (0, .ref (ad 0)), (1, .int v1), (2, .int v2), (3, .int v3)] rfl ?_
  refine g_iconst (v := 0) C dX6_blockOf_4 (by decide) ?_
  refine g_istore C dX6_blockOf_5 (by decide) [(5, .int 0), (4, .int (-5)), (0, .ref (ad 0)), (1, .int v1), (2, .int v2), (3, .int v3)] rfl ?_
  exact g_sub [2, 3, 4, 5, 1, 0] rfl (cl_X6_blockOf_L7 C e v1 v2 v3 gFu (-5) 0 h)
abbrev rm_X6_extents : Room := ({ frames := 1, cells := 0, slots := 0, locals := 25 } : Room)
def f_X6_extents_L9 (s : Nat → Int32) (t : Nat → Int32) (g : Nat → Int32) (v1 : Int32) (v2 : Int32) : Nat → Int32 → Int32 → Int32 → Option Int32
  | 0, _, _, _ => none
  | fu + 1, v3, v4, v5 => gb (f_X6_at v1 v2) (fun r1 => if 0 ≤ (r1 + 1) ∧ ((r1 + 1)).toNatClampNeg < 1968 then if (s ((r1 + 1)).toNatClampNeg) ≤ v5 then some v3 else gb (f_X6_blockOf s t g v1 v2 v5) (fun r3 => if v5 = 0 then gb (f_X6_flag 1) (fun r5 => glet (v3 + r5) (fun x6 => glet (v5 + 1) (fun x7 => f_X6_extents_L9 s t g v1 v2 fu x6 r3 x7))) else if r3 = (v4 + 1) then gb (f_X6_flag 0) (fun r9 => glet (v3 + r9) (fun x10 => glet (v5 + 1) (fun x11 => f_X6_extents_L9 s t g v1 v2 fu x10 r3 x11))) else gb (f_X6_flag 1) (fun r12 => glet (v3 + r12) (fun x13 => glet (v5 + 1) (fun x14 => f_X6_extents_L9 s t g v1 v2 fu x13 r3 x14)))) else none)
def f_X6_extents (s : Nat → Int32) (t : Nat → Int32) (g : Nat → Int32) (v1 : Int32) (v2 : Int32) : Option Int32 := f_X6_extents_L9 s t g v1 v2 gFu 0 (-5) 0
set_option maxRecDepth 20000 in
theorem in_X6_extents : ∀ w ∈ wsX60, w ∈ wsX6_extents := by decide +kernel
set_option maxRecDepth 20000 in
theorem fl_X6_extents_7 : Cond.fieldLink RX6 7 (TX6 0).1 (TX6 0).2.1 (TX6 0).2.2.1 ∈ wsX6_extents := by decide +kernel
set_option maxHeartbeats 4000000 in
set_option maxRecDepth 100000 in
theorem cl_X6_extents_L9 {X : gX} {Z : gZ} {ad : Nat → Nat} {s : Nat → Int32} {t : Nat → Int32} {g : Nat → Int32} {r : Int32} (C : GC X Z cX6_extents 7 wsX6_extents RX6 rm_X6_extents 3 ad) (e : gEI X Z 3 ad .int r (mdlE Z.2.1 ad s t g)) (v1 : Int32) (v2 : Int32) : ∀ (fu : Nat) (v3 : Int32) (v4 : Int32) (v5 : Int32) (h : f_X6_extents_L9 s t g v1 v2 fu v3 v4 v5 = some r), GG X Z 7 3 ad (mdlE Z.2.1 ad s t g) 9 [(0, .ref (ad 0)), (1, .int v1), (2, .int v2), (3, .int v3), (4, .int v4), (5, .int v5)] [] := by
  intro fu
  induction fu with
  | zero => intro v3 v4 v5 h; cases h
  | succ fu ih =>
    intro v3 v4 v5 h
    rw [f_X6_extents_L9] at h
    refine g_iload C dX6_extents_9 5 rfl ?_
    refine g_aload_n C dX6_extents_11 0 rfl ?_
    refine g_getf (v := .ref (ad 1)) C 0 (by decide) rfl rfl in_X6_extents 0 (by decide) fl_X6_extents_7 rfl dX6_extents_12 ?_
    refine g_iload_n C dX6_extents_15 1 rfl ?_
    refine g_iload_n C dX6_extents_16 2 rfl ?_
    obtain ⟨r1, er1, h⟩ := gb1 h
    refine g_callSi (rest := [.ref (ad 1), .int v5]) C gX6_extents_X6_at rfl ok_X6_at ⟨by decide, by decide⟩ ⟨rfl, rfl⟩ (cn_X6_at X.2.1 Z v1 v2 er1) rfl dX6_extents_17 rfl (Nat.le_of_ble_eq_true rfl) ?_
    refine g_iconst (v := 1) C dX6_extents_20 (by decide) ?_
    refine g_iadd C dX6_extents_21 ?_
    obtain ⟨b15, h⟩ := gguard h
    refine g_iald C 1 (by decide) rfl (g_in b15) dX6_extents_22 ?_
    refine g_icmp_ge (tgt := 71) C dX6_extents_23 (by decide) (fun c2 => ?_) (fun c2 => ?_)
    · replace h := gi_pos c2 h
      refine g_iload_n C dX6_extents_71 3 rfl ?_
      obtain rfl := gs1 h
      exact g_iret C e dX6_extents_72
    · replace h := gi_neg c2 h
      refine g_aload_n C dX6_extents_26 0 rfl ?_
      refine g_iload_n C dX6_extents_27 1 rfl ?_
      refine g_iload_n C dX6_extents_28 2 rfl ?_
      refine g_iload C dX6_extents_29 5 rfl ?_
      obtain ⟨r3, er3, h⟩ := gb1 h
      refine g_callWi (rest := []) C gX6_extents_X6_blockOf rfl ok_X6_blockOf ⟨by decide, by decide⟩ ⟨rfl, rfl⟩ 0 (by decide) rfl rfl (fun hI => cn_X6_blockOf X.2.1 Z ad hI s t g v1 v2 v5 er3) rfl dX6_extents_31 rfl (Nat.le_of_ble_eq_true rfl) ?_
      refine g_istore C dX6_extents_34 (by decide) [(6, .int r3), (0, .ref (ad 0)), (1, .int v1), (2, .int v2), (3, .int v3), (4, .int v4), (5, .int v5)] rfl ?_
      refine g_iload_n C dX6_extents_36 4 rfl ?_
      refine g_iload C dX6_extents_37 6 rfl ?_
      refine g_if_eq (tgt := 51) C dX6_extents_39 (by decide) (fun c4 => ?_) (fun c4 => ?_)
      · replace h := gi_pos c4 h
        refine g_iconst (v := 1) C dX6_extents_51 (by decide) ?_
        refine g_goto (tgt := 56) C dX6_extents_52 (by decide) ?_
        obtain ⟨r5, er5, h⟩ := gb1 h
        refine g_callSi (rest := [.int v3]) C gX6_extents_X6_flag rfl ok_X6_flag ⟨by decide, by decide⟩ ⟨rfl, rfl⟩ (cn_X6_flag X.2.1 Z 1 er5) rfl dX6_extents_56 rfl (Nat.le_of_ble_eq_true rfl) ?_
        refine g_iadd C dX6_extents_59 ?_
        obtain ⟨x6, ex6, h⟩ := gl h
        refine g_istore_n C dX6_extents_60 (by decide) [(3, .int x6), (6, .int r3), (0, .ref (ad 0)), (1, .int v1), (2, .int v2), (4, .int v4), (5, .int v5)] (by rw [ex6]; rfl) ?_
        refine g_iload C dX6_extents_61 1 rfl ?_
        refine g_istore C dX6_extents_63 (by decide) [(4, .int r3), (3, .int x6), (6, .int r3), (0, .ref (ad 0)), (1, .int v1), (2, .int v2), (5, .int v5)] rfl ?_
        obtain ⟨x7, ex7, h⟩ := gl h
        refine g_iinc (v := x7) C dX6_extents_65 6 rfl (by rw [ex7]; rfl) (by decide) [(5, .int x7), (4, .int r3), (3, .int x6), (6, .int r3), (0, .ref (ad 0)), (1, .int v1), (2, .int v2)] rfl ?_
        refine g_goto (tgt := 9) C dX6_extents_68 (by decide) ?_
        exact g_sub [4, 5, 6, 2, 1, 0] rfl (ih x6 r3 x7 h)
      · replace h := gi_neg c4 h
        refine g_iload C dX6_extents_42 0 rfl ?_
        refine g_iload C dX6_extents_44 5 rfl ?_
        refine g_iconst (v := 1) C dX6_extents_46 (by decide) ?_
        refine g_iadd C dX6_extents_47 ?_
        refine g_icmp_eq (tgt := 55) C dX6_extents_48 (by decide) (fun c8 => ?_) (fun c8 => ?_)
        · replace h := gi_pos c8 h
          refine g_iconst (v := 0) C dX6_extents_55 (by decide) ?_
          obtain ⟨r9, er9, h⟩ := gb1 h
          refine g_callSi (rest := [.int v3]) C gX6_extents_X6_flag rfl ok_X6_flag ⟨by decide, by decide⟩ ⟨rfl, rfl⟩ (cn_X6_flag X.2.1 Z 0 er9) rfl dX6_extents_56 rfl (Nat.le_of_ble_eq_true rfl) ?_
          refine g_iadd C dX6_extents_59 ?_
          obtain ⟨x10, ex10, h⟩ := gl h
          refine g_istore_n C dX6_extents_60 (by decide) [(3, .int x10), (6, .int r3), (0, .ref (ad 0)), (1, .int v1), (2, .int v2), (4, .int v4), (5, .int v5)] (by rw [ex10]; rfl) ?_
          refine g_iload C dX6_extents_61 1 rfl ?_
          refine g_istore C dX6_extents_63 (by decide) [(4, .int r3), (3, .int x10), (6, .int r3), (0, .ref (ad 0)), (1, .int v1), (2, .int v2), (5, .int v5)] rfl ?_
          obtain ⟨x11, ex11, h⟩ := gl h
          refine g_iinc (v := x11) C dX6_extents_65 6 rfl (by rw [ex11]; rfl) (by decide) [(5, .int x11), (4, .int r3), (3, .int x10), (6, .int r3), (0, .ref (ad 0)), (1, .int v1), (2, .int v2)] rfl ?_
          refine g_goto (tgt := 9) C dX6_extents_68 (by decide) ?_
          exact g_sub [4, 5, 6, 2, 1, 0] rfl (ih x10 r3 x11 h)
        · replace h := gi_neg c8 h
          refine g_iconst (v := 1) C dX6_extents_51 (by decide) ?_
          refine g_goto (tgt := 56) C dX6_extents_52 (by decide) ?_
          obtain ⟨r12, er12, h⟩ := gb1 h
          refine g_callSi (rest := [.int v3]) C gX6_extents_X6_flag rfl ok_X6_flag ⟨by decide, by decide⟩ ⟨rfl, rfl⟩ (cn_X6_flag X.2.1 Z 1 er12) rfl dX6_extents_56 rfl (Nat.le_of_ble_eq_true rfl) ?_
          refine g_iadd C dX6_extents_59 ?_
          obtain ⟨x13, ex13, h⟩ := gl h
          refine g_istore_n C dX6_extents_60 (by decide) [(3, .int x13), (6, .int r3), (0, .ref (ad 0)), (1, .int v1), (2, .int v2), (4, .int v4), (5, .int v5)] (by rw [ex13]; rfl) ?_
          refine g_iload C dX6_extents_61 1 rfl ?_
          refine g_istore C dX6_extents_63 (by decide) [(4, .int r3), (3, .int x13), (6, .int r3), (0, .ref (ad 0)), (1, .int v1), (2, .int v2), (5, .int v5)] rfl ?_
          obtain ⟨x14, ex14, h⟩ := gl h
          refine g_iinc (v := x14) C dX6_extents_65 6 rfl (by rw [ex14]; rfl) (by decide) [(5, .int x14), (4, .int r3), (3, .int x13), (6, .int r3), (0, .ref (ad 0)), (1, .int v1), (2, .int v2)] rfl ?_
          refine g_goto (tgt := 9) C dX6_extents_68 (by decide) ?_
          exact g_sub [4, 5, 6, 2, 1, 0] rfl (ih x13 r3 x14 h)
set_option maxHeartbeats 4000000 in
set_option maxRecDepth 100000 in
theorem cn_X6_extents (l : Launch) (Z : gZ) (ad : Nat → Nat) (hI : gInj 3 ad) (s : Nat → Int32) (t : Nat → Int32) (g : Nat → Int32) (v1 : Int32) (v2 : Int32) {r : Int32} (h : f_X6_extents s t g v1 v2 = some r) : gI l yX6_extents wsX6_extents rm_X6_extents Z 3 ad [.ref (ad 0), .int v1, .int v2] (mdlE Z.2.1 ad s t g) r (mdlE Z.2.1 ad s t g) := by
  refine g_entryI (cc := cX6_extents) (maxL := 7) (by decide +kernel) rfl hI (Nat.le_of_ble_eq_true rfl) (fun X C e => ?_)
  unfold f_X6_extents at h
  show GG X Z 7 3 ad (mdlE Z.2.1 ad s t g) 0 [(0, .ref (ad 0)), (1, .int v1), (2, .int v2)] []
  refine g_iconst (v := 0) C dX6_extents_0 (by decide) ?_
  refine g_istore_n C dX6_extents_1 (by decide) [(3, .int 0), (0, .ref (ad 0)), (1, .int v1), (2, .int v2)] rfl ?_
  refine g_bipush (v := (-5)) C dX6_extents_2 (by decide) ?_
  refine g_istore C dX6_extents_4 (by decide) [(4, .int (-5)), (3, .int 0), (0, .ref (ad 0)), (1, .int v1), (2, .int v2)] rfl ?_
  refine g_iconst (v := 0) C dX6_extents_6 (by decide) ?_
  refine g_istore C dX6_extents_7 (by decide) [(5, .int 0), (4, .int (-5)), (3, .int 0), (0, .ref (ad 0)), (1, .int v1), (2, .int v2)] rfl ?_
  exact g_sub [3, 4, 5, 2, 1, 0] rfl (cl_X6_extents_L9 C e v1 v2 gFu 0 (-5) 0 h)
abbrev rm_X6_frees : Room := ({ frames := 1, cells := 0, slots := 0, locals := 21 } : Room)
def f_X6_frees_L6 (t : Nat → Int32) (g : Nat → Int32) (v1 : Int32) (v2 : Int32) (v3 : Int32) : Nat → Int32 → Int32 → (Nat → Int32) → Option (Int32 × (Nat → Int32))
  | 0, _, _, _ => none
  | fu + 1, v4, v5, s => if 64 ≤ v5 then gb (f_X6_at v1 v2) (fun r2 => if 0 ≤ (r2 + 1) ∧ ((r2 + 1)).toNatClampNeg < 1968 then if 0 ≤ (r2 + 1) ∧ ((r2 + 1)).toNatClampNeg < 1968 then glet (upd s ((r2 + 1)).toNatClampNeg ((s ((r2 + 1)).toNatClampNeg) - v4)) (fun s4 => some (v4, s4)) else none else none) else if 0 ≤ ((v1 + 64) + v5) ∧ (((v1 + 64) + v5)).toNatClampNeg < 1968 then if (s (((v1 + 64) + v5)).toNatClampNeg) = v2 then if 0 ≤ ((v1 + 128) + v5) ∧ (((v1 + 128) + v5)).toNatClampNeg < 1968 then if (s (((v1 + 128) + v5)).toNatClampNeg) < v3 then glet (v5 + 1) (fun x9 => f_X6_frees_L6 t g v1 v2 v3 fu v4 x9 s) else if 0 ≤ ((v1 + 64) + v5) ∧ (((v1 + 64) + v5)).toNatClampNeg < 1968 then glet (upd s (((v1 + 64) + v5)).toNatClampNeg (-5)) (fun s11 => glet (v4 + 1) (fun x12 => glet (v5 + 1) (fun x13 => f_X6_frees_L6 t g v1 v2 v3 fu x12 x13 s11))) else none else none else glet (v5 + 1) (fun x7 => f_X6_frees_L6 t g v1 v2 v3 fu v4 x7 s) else none
def f_X6_frees (s : Nat → Int32) (t : Nat → Int32) (g : Nat → Int32) (v1 : Int32) (v2 : Int32) (v3 : Int32) : Option (Int32 × (Nat → Int32)) := f_X6_frees_L6 t g v1 v2 v3 gFu 0 0 s
set_option maxRecDepth 20000 in
theorem in_X6_frees : ∀ w ∈ wsX60, w ∈ wsX6_frees := by decide +kernel
set_option maxRecDepth 20000 in
theorem fl_X6_frees_7 : Cond.fieldLink RX6 7 (TX6 0).1 (TX6 0).2.1 (TX6 0).2.2.1 ∈ wsX6_frees := by decide +kernel
set_option maxHeartbeats 4000000 in
set_option maxRecDepth 100000 in
theorem cl_X6_frees_L6 {X : gX} {Z : gZ} {ad : Nat → Nat} {t : Nat → Int32} {g : Nat → Int32} {r : Int32} {s' : Nat → Int32} (C : GC X Z cX6_frees 6 wsX6_frees RX6 rm_X6_frees 3 ad) (e : gEI X Z 3 ad .int r (mdlE Z.2.1 ad s' t g)) (v1 : Int32) (v2 : Int32) (v3 : Int32) : ∀ (fu : Nat) (v4 : Int32) (v5 : Int32) (s : Nat → Int32) (h : f_X6_frees_L6 t g v1 v2 v3 fu v4 v5 s = some (r, s')), GG X Z 6 3 ad (mdlE Z.2.1 ad s t g) 6 [(0, .ref (ad 0)), (1, .int v1), (2, .int v2), (3, .int v3), (4, .int v4), (5, .int v5)] [] := by
  intro fu
  induction fu with
  | zero => intro v4 v5 s h; cases h
  | succ fu ih =>
    intro v4 v5 s h
    rw [f_X6_frees_L6] at h
    refine g_iload C dX6_frees_6 5 rfl ?_
    refine g_bipush (v := 64) C dX6_frees_8 (by decide) ?_
    refine g_icmp_ge (tgt := 69) C dX6_frees_10 (by decide) (fun c1 => ?_) (fun c1 => ?_)
    · replace h := gi_pos c1 h
      refine g_aload_n C dX6_frees_69 0 rfl ?_
      refine g_getf (v := .ref (ad 1)) C 0 (by decide) rfl rfl in_X6_frees 0 (by decide) fl_X6_frees_7 rfl dX6_frees_70 ?_
      refine g_iload_n C dX6_frees_73 1 rfl ?_
      refine g_iload_n C dX6_frees_74 2 rfl ?_
      obtain ⟨r2, er2, h⟩ := gb1 h
      refine g_callSi (rest := [.ref (ad 1)]) C gX6_frees_X6_at rfl ok_X6_at ⟨by decide, by decide⟩ ⟨rfl, rfl⟩ (cn_X6_at X.2.1 Z v1 v2 er2) rfl dX6_frees_75 rfl (Nat.le_of_ble_eq_true rfl) ?_
      refine g_iconst (v := 1) C dX6_frees_78 (by decide) ?_
      refine g_iadd C dX6_frees_79 ?_
      refine g_dup2 C dX6_frees_80 rfl rfl ?_
      obtain ⟨b5, h⟩ := gguard h
      refine g_iald C 1 (by decide) rfl (g_in b5) dX6_frees_81 ?_
      refine g_iload C dX6_frees_82 4 rfl ?_
      refine g_isub C dX6_frees_84 ?_
      obtain ⟨b3, h⟩ := gguard h
      obtain ⟨s4, es4, h⟩ := gl h
      refine g_iast C 1 (by decide) rfl (g_in b3) dX6_frees_85 (mdlE Z.2.1 ad s4 t g) (by rw [es4]; exact mdlE_s) ?_
      refine g_iload C dX6_frees_86 4 rfl ?_
      obtain ⟨rfl, rfl⟩ := gs2 h
      exact g_iret C e dX6_frees_88
    · replace h := gi_neg c1 h
      refine g_aload_n C dX6_frees_13 0 rfl ?_
      refine g_getf (v := .ref (ad 1)) C 0 (by decide) rfl rfl in_X6_frees 0 (by decide) fl_X6_frees_7 rfl dX6_frees_14 ?_
      refine g_iload_n C dX6_frees_17 1 rfl ?_
      refine g_bipush (v := 64) C dX6_frees_18 (by decide) ?_
      refine g_iadd C dX6_frees_20 ?_
      refine g_iload C dX6_frees_21 5 rfl ?_
      refine g_iadd C dX6_frees_23 ?_
      obtain ⟨b15, h⟩ := gguard h
      refine g_iald C 1 (by decide) rfl (g_in b15) dX6_frees_24 ?_
      refine g_iload_n C dX6_frees_25 2 rfl ?_
      refine g_icmp_ne (tgt := 63) C dX6_frees_26 (by decide) (fun c6 => ?_) (fun c6 => ?_)
      · replace h := gi_neg c6 h
        obtain ⟨x7, ex7, h⟩ := gl h
        refine g_iinc (v := x7) C dX6_frees_63 5 rfl (by rw [ex7]; rfl) (by decide) [(5, .int x7), (0, .ref (ad 0)), (1, .int v1), (2, .int v2), (3, .int v3), (4, .int v4)] rfl ?_
        refine g_goto (tgt := 6) C dX6_frees_66 (by decide) ?_
        exact g_sub [1, 2, 3, 4, 5, 0] rfl (ih v4 x7 s h)
      · replace h := gi_pos c6 h
        refine g_aload_n C dX6_frees_29 0 rfl ?_
        refine g_getf (v := .ref (ad 1)) C 0 (by decide) rfl rfl in_X6_frees 0 (by decide) fl_X6_frees_7 rfl dX6_frees_30 ?_
        refine g_iload_n C dX6_frees_33 1 rfl ?_
        refine g_sipush (v := 128) C dX6_frees_34 (by decide) ?_
        refine g_iadd C dX6_frees_37 ?_
        refine g_iload C dX6_frees_38 5 rfl ?_
        refine g_iadd C dX6_frees_40 ?_
        obtain ⟨b14, h⟩ := gguard h
        refine g_iald C 1 (by decide) rfl (g_in b14) dX6_frees_41 ?_
        refine g_iload_n C dX6_frees_42 3 rfl ?_
        refine g_icmp_lt (tgt := 63) C dX6_frees_43 (by decide) (fun c8 => ?_) (fun c8 => ?_)
        · replace h := gi_pos c8 h
          obtain ⟨x9, ex9, h⟩ := gl h
          refine g_iinc (v := x9) C dX6_frees_63 5 rfl (by rw [ex9]; rfl) (by decide) [(5, .int x9), (0, .ref (ad 0)), (1, .int v1), (2, .int v2), (3, .int v3), (4, .int v4)] rfl ?_
          refine g_goto (tgt := 6) C dX6_frees_66 (by decide) ?_
          exact g_sub [1, 2, 3, 4, 5, 0] rfl (ih v4 x9 s h)
        · replace h := gi_neg c8 h
          refine g_aload_n C dX6_frees_46 0 rfl ?_
          refine g_getf (v := .ref (ad 1)) C 0 (by decide) rfl rfl in_X6_frees 0 (by decide) fl_X6_frees_7 rfl dX6_frees_47 ?_
          refine g_iload_n C dX6_frees_50 1 rfl ?_
          refine g_bipush (v := 64) C dX6_frees_51 (by decide) ?_
          refine g_iadd C dX6_frees_53 ?_
          refine g_iload C dX6_frees_54 5 rfl ?_
          refine g_iadd C dX6_frees_56 ?_
          refine g_bipush (v := (-5)) C dX6_frees_57 (by decide) ?_
          obtain ⟨b10, h⟩ := gguard h
          obtain ⟨s11, es11, h⟩ := gl h
          refine g_iast C 1 (by decide) rfl (g_in b10) dX6_frees_59 (mdlE Z.2.1 ad s11 t g) (by rw [es11]; exact mdlE_s) ?_
          obtain ⟨x12, ex12, h⟩ := gl h
          refine g_iinc (v := x12) C dX6_frees_60 4 rfl (by rw [ex12]; rfl) (by decide) [(4, .int x12), (0, .ref (ad 0)), (1, .int v1), (2, .int v2), (3, .int v3), (5, .int v5)] rfl ?_
          obtain ⟨x13, ex13, h⟩ := gl h
          refine g_iinc (v := x13) C dX6_frees_63 5 rfl (by rw [ex13]; rfl) (by decide) [(5, .int x13), (4, .int x12), (0, .ref (ad 0)), (1, .int v1), (2, .int v2), (3, .int v3)] rfl ?_
          refine g_goto (tgt := 6) C dX6_frees_66 (by decide) ?_
          exact g_sub [2, 3, 4, 5, 1, 0] rfl (ih x12 x13 s11 h)
set_option maxHeartbeats 4000000 in
set_option maxRecDepth 100000 in
theorem cn_X6_frees (l : Launch) (Z : gZ) (ad : Nat → Nat) (hI : gInj 3 ad) (s : Nat → Int32) (t : Nat → Int32) (g : Nat → Int32) (v1 : Int32) (v2 : Int32) (v3 : Int32) {r : Int32} {s' : Nat → Int32} (h : f_X6_frees s t g v1 v2 v3 = some (r, s')) : gI l yX6_frees wsX6_frees rm_X6_frees Z 3 ad [.ref (ad 0), .int v1, .int v2, .int v3] (mdlE Z.2.1 ad s t g) r (mdlE Z.2.1 ad s' t g) := by
  refine g_entryI (cc := cX6_frees) (maxL := 6) (by decide +kernel) rfl hI (Nat.le_of_ble_eq_true rfl) (fun X C e => ?_)
  unfold f_X6_frees at h
  show GG X Z 6 3 ad (mdlE Z.2.1 ad s t g) 0 [(0, .ref (ad 0)), (1, .int v1), (2, .int v2), (3, .int v3)] []
  refine g_iconst (v := 0) C dX6_frees_0 (by decide) ?_
  refine g_istore C dX6_frees_1 (by decide) [(4, .int 0), (0, .ref (ad 0)), (1, .int v1), (2, .int v2), (3, .int v3)] rfl ?_
  refine g_iconst (v := 0) C dX6_frees_3 (by decide) ?_
  refine g_istore C dX6_frees_4 (by decide) [(5, .int 0), (4, .int 0), (0, .ref (ad 0)), (1, .int v1), (2, .int v2), (3, .int v3)] rfl ?_
  exact g_sub [2, 3, 4, 5, 1, 0] rfl (cl_X6_frees_L6 C e v1 v2 v3 gFu 0 0 s h)
abbrev rm_X6_givesBack : Room := ({ frames := 2, cells := 0, slots := 0, locals := 46 } : Room)
def f_X6_givesBack (s : Nat → Int32) (t : Nat → Int32) (g : Nat → Int32) (v1 : Int32) (v2 : Int32) : Option (Int32 × (Nat → Int32)) := gb (f_X6_at v1 v2) (fun r1 => if 0 ≤ (r1 + 2) ∧ ((r1 + 2)).toNatClampNeg < 1968 then gbb2 (f_X6_frees s t g v1 v2 (s ((r1 + 2)).toNatClampNeg)) (fun r2 s3 => gb (f_X6_at v1 v2) (fun r4 => if 0 ≤ (r4 + 5) ∧ ((r4 + 5)).toNatClampNeg < 1968 then glet (upd s3 ((r4 + 5)).toNatClampNeg 1) (fun s6 => if 0 ≤ (v1 + 243) ∧ ((v1 + 243)).toNatClampNeg < 1968 then if 0 ≤ (v1 + 243) ∧ ((v1 + 243)).toNatClampNeg < 1968 then glet (upd s6 ((v1 + 243)).toNatClampNeg ((s6 ((v1 + 243)).toNatClampNeg) + r2)) (fun s8 => some (r2, s8)) else none else none) else none)) else none)
set_option maxRecDepth 20000 in
theorem in_X6_givesBack : ∀ w ∈ wsX60, w ∈ wsX6_givesBack := by decide +kernel
set_option maxRecDepth 20000 in
theorem fl_X6_givesBack_7 : Cond.fieldLink RX6 7 (TX6 0).1 (TX6 0).2.1 (TX6 0).2.2.1 ∈ wsX6_givesBack := by decide +kernel
set_option maxHeartbeats 4000000 in
set_option maxRecDepth 100000 in
theorem cn_X6_givesBack (l : Launch) (Z : gZ) (ad : Nat → Nat) (hI : gInj 3 ad) (s : Nat → Int32) (t : Nat → Int32) (g : Nat → Int32) (v1 : Int32) (v2 : Int32) {r : Int32} {s' : Nat → Int32} (h : f_X6_givesBack s t g v1 v2 = some (r, s')) : gI l yX6_givesBack wsX6_givesBack rm_X6_givesBack Z 3 ad [.ref (ad 0), .int v1, .int v2] (mdlE Z.2.1 ad s t g) r (mdlE Z.2.1 ad s' t g) := by
  refine g_entryI (cc := cX6_givesBack) (maxL := 4) (by decide +kernel) rfl hI (Nat.le_of_ble_eq_true rfl) (fun X C e => ?_)
  unfold f_X6_givesBack at h
  show GG X Z 4 3 ad (mdlE Z.2.1 ad s t g) 0 [(0, .ref (ad 0)), (1, .int v1), (2, .int v2)] []
  refine g_aload_n C dX6_givesBack_0 0 rfl ?_
  refine g_iload_n C dX6_givesBack_1 1 rfl ?_
  refine g_iload_n C dX6_givesBack_2 2 rfl ?_
  refine g_aload_n C dX6_givesBack_3 0 rfl ?_
  refine g_getf (v := .ref (ad 1)) C 0 (by decide) rfl rfl in_X6_givesBack 0 (by decide) fl_X6_givesBack_7 rfl dX6_givesBack_4 ?_
  refine g_iload_n C dX6_givesBack_7 1 rfl ?_
  refine g_iload_n C dX6_givesBack_8 2 rfl ?_
  obtain ⟨r1, er1, h⟩ := gb1 h
  refine g_callSi (rest := [.ref (ad 1), .int v2, .int v1, .ref (ad 0)]) C gX6_givesBack_X6_at rfl ok_X6_at ⟨by decide, by decide⟩ ⟨rfl, rfl⟩ (cn_X6_at X.2.1 Z v1 v2 er1) rfl dX6_givesBack_9 rfl (Nat.le_of_ble_eq_true rfl) ?_
  refine g_iconst (v := 2) C dX6_givesBack_12 (by decide) ?_
  refine g_iadd C dX6_givesBack_13 ?_
  obtain ⟨b10, h⟩ := gguard h
  refine g_iald C 1 (by decide) rfl (g_in b10) dX6_givesBack_14 ?_
  obtain ⟨r2, s3, er2, h⟩ := gb2 h
  refine g_callWi (rest := []) C gX6_givesBack_X6_frees rfl ok_X6_frees ⟨by decide, by decide⟩ ⟨rfl, rfl⟩ 0 (by decide) rfl rfl (fun hI => cn_X6_frees X.2.1 Z ad hI s t g v1 v2 (s ((r1 + 2)).toNatClampNeg) er2) rfl dX6_givesBack_15 rfl (Nat.le_of_ble_eq_true rfl) ?_
  refine g_istore_n C dX6_givesBack_18 (by decide) [(3, .int r2), (0, .ref (ad 0)), (1, .int v1), (2, .int v2)] rfl ?_
  refine g_aload_n C dX6_givesBack_19 1 rfl ?_
  refine g_getf (v := .ref (ad 1)) C 0 (by decide) rfl rfl in_X6_givesBack 0 (by decide) fl_X6_givesBack_7 rfl dX6_givesBack_20 ?_
  refine g_iload_n C dX6_givesBack_23 2 rfl ?_
  refine g_iload_n C dX6_givesBack_24 3 rfl ?_
  obtain ⟨r4, er4, h⟩ := gb1 h
  refine g_callSi (rest := [.ref (ad 1)]) C gX6_givesBack_X6_at rfl ok_X6_at ⟨by decide, by decide⟩ ⟨rfl, rfl⟩ (cn_X6_at X.2.1 Z v1 v2 er4) rfl dX6_givesBack_25 rfl (Nat.le_of_ble_eq_true rfl) ?_
  refine g_iconst (v := 5) C dX6_givesBack_28 (by decide) ?_
  refine g_iadd C dX6_givesBack_29 ?_
  refine g_iconst (v := 1) C dX6_givesBack_30 (by decide) ?_
  obtain ⟨b5, h⟩ := gguard h
  obtain ⟨s6, es6, h⟩ := gl h
  refine g_iast C 1 (by decide) rfl (g_in b5) dX6_givesBack_31 (mdlE Z.2.1 ad s6 t g) (by rw [es6]; exact mdlE_s) ?_
  refine g_aload_n C dX6_givesBack_32 1 rfl ?_
  refine g_getf (v := .ref (ad 1)) C 0 (by decide) rfl rfl in_X6_givesBack 0 (by decide) fl_X6_givesBack_7 rfl dX6_givesBack_33 ?_
  refine g_iload_n C dX6_givesBack_36 2 rfl ?_
  refine g_sipush (v := 243) C dX6_givesBack_37 (by decide) ?_
  refine g_iadd C dX6_givesBack_40 ?_
  refine g_dup2 C dX6_givesBack_41 rfl rfl ?_
  obtain ⟨b9, h⟩ := gguard h
  refine g_iald C 1 (by decide) rfl (g_in b9) dX6_givesBack_42 ?_
  refine g_iload_n C dX6_givesBack_43 0 rfl ?_
  refine g_iadd C dX6_givesBack_44 ?_
  obtain ⟨b7, h⟩ := gguard h
  obtain ⟨s8, es8, h⟩ := gl h
  refine g_iast C 1 (by decide) rfl (g_in b7) dX6_givesBack_45 (mdlE Z.2.1 ad s8 t g) (by rw [es8]; exact mdlE_s) ?_
  refine g_iload_n C dX6_givesBack_46 0 rfl ?_
  obtain ⟨rfl, rfl⟩ := gs2 h
  exact g_iret C e dX6_givesBack_47
abbrev rm_X6_sumOfLent : Room := ({ frames := 2, cells := 0, slots := 0, locals := 44 } : Room)
def f_X6_sumOfLent_L4 (s : Nat → Int32) (t : Nat → Int32) (g : Nat → Int32) (v1 : Int32) : Nat → Int32 → Int32 → Option Int32
  | 0, _, _ => none
  | fu + 1, v2, v3 => if 8 ≤ v3 then some v2 else gb (f_X6_lent s t g v1 v3) (fun r2 => glet (v2 + r2) (fun x3 => glet (v3 + 1) (fun x4 => f_X6_sumOfLent_L4 s t g v1 fu x3 x4)))
def f_X6_sumOfLent (s : Nat → Int32) (t : Nat → Int32) (g : Nat → Int32) (v1 : Int32) : Option Int32 := f_X6_sumOfLent_L4 s t g v1 gFu 0 0
set_option maxHeartbeats 4000000 in
set_option maxRecDepth 100000 in
theorem cl_X6_sumOfLent_L4 {X : gX} {Z : gZ} {ad : Nat → Nat} {s : Nat → Int32} {t : Nat → Int32} {g : Nat → Int32} {r : Int32} (C : GC X Z cX6_sumOfLent 4 wsX6_sumOfLent RX6 rm_X6_sumOfLent 3 ad) (e : gEI X Z 3 ad .int r (mdlE Z.2.1 ad s t g)) (v1 : Int32) : ∀ (fu : Nat) (v2 : Int32) (v3 : Int32) (h : f_X6_sumOfLent_L4 s t g v1 fu v2 v3 = some r), GG X Z 4 3 ad (mdlE Z.2.1 ad s t g) 4 [(0, .ref (ad 0)), (1, .int v1), (2, .int v2), (3, .int v3)] [] := by
  intro fu
  induction fu with
  | zero => intro v2 v3 h; cases h
  | succ fu ih =>
    intro v2 v3 h
    rw [f_X6_sumOfLent_L4] at h
    refine g_iload_n C dX6_sumOfLent_4 3 rfl ?_
    refine g_bipush (v := 8) C dX6_sumOfLent_5 (by decide) ?_
    refine g_icmp_ge (tgt := 25) C dX6_sumOfLent_7 (by decide) (fun c1 => ?_) (fun c1 => ?_)
    · replace h := gi_pos c1 h
      refine g_iload_n C dX6_sumOfLent_25 2 rfl ?_
      obtain rfl := gs1 h
      exact g_iret C e dX6_sumOfLent_26
    · replace h := gi_neg c1 h
      refine g_iload_n C dX6_sumOfLent_10 2 rfl ?_
      refine g_aload_n C dX6_sumOfLent_11 0 rfl ?_
      refine g_iload_n C dX6_sumOfLent_12 1 rfl ?_
      refine g_iload_n C dX6_sumOfLent_13 3 rfl ?_
      obtain ⟨r2, er2, h⟩ := gb1 h
      refine g_callWi (rest := [.int v2]) C gX6_sumOfLent_X6_lent rfl ok_X6_lent ⟨by decide, by decide⟩ ⟨rfl, rfl⟩ 0 (by decide) rfl rfl (fun hI => cn_X6_lent X.2.1 Z ad hI s t g v1 v3 er2) rfl dX6_sumOfLent_14 rfl (Nat.le_of_ble_eq_true rfl) ?_
      refine g_iadd C dX6_sumOfLent_17 ?_
      obtain ⟨x3, ex3, h⟩ := gl h
      refine g_istore_n C dX6_sumOfLent_18 (by decide) [(2, .int x3), (0, .ref (ad 0)), (1, .int v1), (3, .int v3)] (by rw [ex3]; rfl) ?_
      obtain ⟨x4, ex4, h⟩ := gl h
      refine g_iinc (v := x4) C dX6_sumOfLent_19 3 rfl (by rw [ex4]; rfl) (by decide) [(3, .int x4), (2, .int x3), (0, .ref (ad 0)), (1, .int v1)] rfl ?_
      refine g_goto (tgt := 4) C dX6_sumOfLent_22 (by decide) ?_
      exact g_sub [2, 3, 1, 0] rfl (ih x3 x4 h)
set_option maxHeartbeats 4000000 in
set_option maxRecDepth 100000 in
theorem cn_X6_sumOfLent (l : Launch) (Z : gZ) (ad : Nat → Nat) (hI : gInj 3 ad) (s : Nat → Int32) (t : Nat → Int32) (g : Nat → Int32) (v1 : Int32) {r : Int32} (h : f_X6_sumOfLent s t g v1 = some r) : gI l yX6_sumOfLent wsX6_sumOfLent rm_X6_sumOfLent Z 3 ad [.ref (ad 0), .int v1] (mdlE Z.2.1 ad s t g) r (mdlE Z.2.1 ad s t g) := by
  refine g_entryI (cc := cX6_sumOfLent) (maxL := 4) (by decide +kernel) rfl hI (Nat.le_of_ble_eq_true rfl) (fun X C e => ?_)
  unfold f_X6_sumOfLent at h
  show GG X Z 4 3 ad (mdlE Z.2.1 ad s t g) 0 [(0, .ref (ad 0)), (1, .int v1)] []
  refine g_iconst (v := 0) C dX6_sumOfLent_0 (by decide) ?_
  refine g_istore_n C dX6_sumOfLent_1 (by decide) [(2, .int 0), (0, .ref (ad 0)), (1, .int v1)] rfl ?_
  refine g_iconst (v := 0) C dX6_sumOfLent_2 (by decide) ?_
  refine g_istore_n C dX6_sumOfLent_3 (by decide) [(3, .int 0), (2, .int 0), (0, .ref (ad 0)), (1, .int v1)] rfl ?_
  exact g_sub [2, 3, 1, 0] rfl (cl_X6_sumOfLent_L4 C e v1 gFu 0 0 h)
abbrev rm_X6_giver : Room := ({ frames := 2, cells := 0, slots := 0, locals := 44 } : Room)
def f_X6_giver_L9 (s : Nat → Int32) (t : Nat → Int32) (g : Nat → Int32) (v1 : Int32) (v2 : Int32) : Nat → Int32 → Int32 → Int32 → Option Int32
  | 0, _, _, _ => none
  | fu + 1, v3, v4, v5 => if 8 ≤ v5 then some v3 else if v5 = v2 then glet (v5 + 1) (fun x3 => f_X6_giver_L9 s t g v1 v2 fu v3 v4 x3) else gb (f_X6_lent s t g v1 v5) (fun r4 => if r4 ≤ v4 then glet (v5 + 1) (fun x6 => f_X6_giver_L9 s t g v1 v2 fu v3 v4 x6) else gb (f_X6_lent s t g v1 v5) (fun r7 => glet (v5 + 1) (fun x8 => f_X6_giver_L9 s t g v1 v2 fu v5 r7 x8)))
def f_X6_giver (s : Nat → Int32) (t : Nat → Int32) (g : Nat → Int32) (v1 : Int32) (v2 : Int32) : Option Int32 := f_X6_giver_L9 s t g v1 v2 gFu (-5) 0 0
set_option maxHeartbeats 4000000 in
set_option maxRecDepth 100000 in
theorem cl_X6_giver_L9 {X : gX} {Z : gZ} {ad : Nat → Nat} {s : Nat → Int32} {t : Nat → Int32} {g : Nat → Int32} {r : Int32} (C : GC X Z cX6_giver 7 wsX6_giver RX6 rm_X6_giver 3 ad) (e : gEI X Z 3 ad .int r (mdlE Z.2.1 ad s t g)) (v1 : Int32) (v2 : Int32) : ∀ (fu : Nat) (v3 : Int32) (v4 : Int32) (v5 : Int32) (h : f_X6_giver_L9 s t g v1 v2 fu v3 v4 v5 = some r), GG X Z 7 3 ad (mdlE Z.2.1 ad s t g) 9 [(0, .ref (ad 0)), (1, .int v1), (2, .int v2), (3, .int v3), (4, .int v4), (5, .int v5)] [] := by
  intro fu
  induction fu with
  | zero => intro v3 v4 v5 h; cases h
  | succ fu ih =>
    intro v3 v4 v5 h
    rw [f_X6_giver_L9] at h
    refine g_iload C dX6_giver_9 5 rfl ?_
    refine g_bipush (v := 8) C dX6_giver_11 (by decide) ?_
    refine g_icmp_ge (tgt := 78) C dX6_giver_13 (by decide) (fun c1 => ?_) (fun c1 => ?_)
    · replace h := gi_pos c1 h
      refine g_iload_n C dX6_giver_78 3 rfl ?_
      obtain rfl := gs1 h
      exact g_iret C e dX6_giver_79
    · replace h := gi_neg c1 h
      refine g_iload C dX6_giver_16 5 rfl ?_
      refine g_iload_n C dX6_giver_18 2 rfl ?_
      refine g_icmp_eq (tgt := 38) C dX6_giver_19 (by decide) (fun c2 => ?_) (fun c2 => ?_)
      · replace h := gi_pos c2 h
        refine g_iconst (v := 0) C dX6_giver_38 (by decide) ?_
        refine g_istore C dX6_giver_39 (by decide) [(6, .int 0), (0, .ref (ad 0)), (1, .int v1), (2, .int v2), (3, .int v3), (4, .int v4), (5, .int v5)] rfl ?_
        refine g_iload C dX6_giver_41 0 rfl ?_
        refine g_if_eq (tgt := 51) C dX6_giver_43 (by decide) (fun _ => ?_) (fun hc => absurd (by decide) hc)
        refine g_iload_n C dX6_giver_51 4 rfl ?_
        refine g_istore_n C dX6_giver_52 (by decide) [(3, .int v3), (6, .int 0), (0, .ref (ad 0)), (1, .int v1), (2, .int v2), (4, .int v4), (5, .int v5)] rfl ?_
        refine g_iload C dX6_giver_53 1 rfl ?_
        refine g_if_eq (tgt := 68) C dX6_giver_55 (by decide) (fun _ => ?_) (fun hc => absurd (by decide) hc)
        refine g_iload C dX6_giver_68 5 rfl ?_
        refine g_istore C dX6_giver_70 (by decide) [(4, .int v4), (3, .int v3), (6, .int 0), (0, .ref (ad 0)), (1, .int v1), (2, .int v2), (5, .int v5)] rfl ?_
        obtain ⟨x3, ex3, h⟩ := gl h
        refine g_iinc (v := x3) C dX6_giver_72 6 rfl (by rw [ex3]; rfl) (by decide) [(5, .int x3), (4, .int v4), (3, .int v3), (6, .int 0), (0, .ref (ad 0)), (1, .int v1), (2, .int v2)] rfl ?_
        refine g_goto (tgt := 9) C dX6_giver_75 (by decide) ?_
        exact g_sub [4, 5, 6, 2, 1, 0] rfl (ih v3 v4 x3 h)
      · replace h := gi_neg c2 h
        refine g_aload_n C dX6_giver_22 0 rfl ?_
        refine g_iload_n C dX6_giver_23 1 rfl ?_
        refine g_iload C dX6_giver_24 5 rfl ?_
        obtain ⟨r4, er4, h⟩ := gb1 h
        refine g_callWi (rest := []) C gX6_giver_X6_lent rfl ok_X6_lent ⟨by decide, by decide⟩ ⟨rfl, rfl⟩ 0 (by decide) rfl rfl (fun hI => cn_X6_lent X.2.1 Z ad hI s t g v1 v5 er4) rfl dX6_giver_26 rfl (Nat.le_of_ble_eq_true rfl) ?_
        refine g_iload C dX6_giver_29 4 rfl ?_
        refine g_icmp_le (tgt := 38) C dX6_giver_31 (by decide) (fun c5 => ?_) (fun c5 => ?_)
        · replace h := gi_pos c5 h
          refine g_iconst (v := 0) C dX6_giver_38 (by decide) ?_
          refine g_istore C dX6_giver_39 (by decide) [(6, .int 0), (0, .ref (ad 0)), (1, .int v1), (2, .int v2), (3, .int v3), (4, .int v4), (5, .int v5)] rfl ?_
          refine g_iload C dX6_giver_41 0 rfl ?_
          refine g_if_eq (tgt := 51) C dX6_giver_43 (by decide) (fun _ => ?_) (fun hc => absurd (by decide) hc)
          refine g_iload_n C dX6_giver_51 4 rfl ?_
          refine g_istore_n C dX6_giver_52 (by decide) [(3, .int v3), (6, .int 0), (0, .ref (ad 0)), (1, .int v1), (2, .int v2), (4, .int v4), (5, .int v5)] rfl ?_
          refine g_iload C dX6_giver_53 1 rfl ?_
          refine g_if_eq (tgt := 68) C dX6_giver_55 (by decide) (fun _ => ?_) (fun hc => absurd (by decide) hc)
          refine g_iload C dX6_giver_68 5 rfl ?_
          refine g_istore C dX6_giver_70 (by decide) [(4, .int v4), (3, .int v3), (6, .int 0), (0, .ref (ad 0)), (1, .int v1), (2, .int v2), (5, .int v5)] rfl ?_
          obtain ⟨x6, ex6, h⟩ := gl h
          refine g_iinc (v := x6) C dX6_giver_72 6 rfl (by rw [ex6]; rfl) (by decide) [(5, .int x6), (4, .int v4), (3, .int v3), (6, .int 0), (0, .ref (ad 0)), (1, .int v1), (2, .int v2)] rfl ?_
          refine g_goto (tgt := 9) C dX6_giver_75 (by decide) ?_
          exact g_sub [4, 5, 6, 2, 1, 0] rfl (ih v3 v4 x6 h)
        · replace h := gi_neg c5 h
          refine g_iconst (v := 1) C dX6_giver_34 (by decide) ?_
          refine g_goto (tgt := 39) C dX6_giver_35 (by decide) ?_
          refine g_istore C dX6_giver_39 (by decide) [(6, .int 1), (0, .ref (ad 0)), (1, .int v1), (2, .int v2), (3, .int v3), (4, .int v4), (5, .int v5)] rfl ?_
          refine g_iload C dX6_giver_41 0 rfl ?_
          refine g_if_eq (tgt := 51) C dX6_giver_43 (by decide) (fun hc => absurd hc (by decide)) (fun _ => ?_)
          refine g_iload C dX6_giver_46 6 rfl ?_
          refine g_goto (tgt := 52) C dX6_giver_48 (by decide) ?_
          refine g_istore_n C dX6_giver_52 (by decide) [(3, .int v5), (6, .int 1), (0, .ref (ad 0)), (1, .int v1), (2, .int v2), (4, .int v4), (5, .int v5)] rfl ?_
          refine g_iload C dX6_giver_53 1 rfl ?_
          refine g_if_eq (tgt := 68) C dX6_giver_55 (by decide) (fun hc => absurd hc (by decide)) (fun _ => ?_)
          refine g_aload_n C dX6_giver_58 2 rfl ?_
          refine g_iload_n C dX6_giver_59 3 rfl ?_
          refine g_iload C dX6_giver_60 6 rfl ?_
          obtain ⟨r7, er7, h⟩ := gb1 h
          refine g_callWi (rest := []) C gX6_giver_X6_lent rfl ok_X6_lent ⟨by decide, by decide⟩ ⟨rfl, rfl⟩ 0 (by decide) rfl rfl (fun hI => cn_X6_lent X.2.1 Z ad hI s t g v1 v5 er7) rfl dX6_giver_62 rfl (Nat.le_of_ble_eq_true rfl) ?_
          refine g_goto (tgt := 70) C dX6_giver_65 (by decide) ?_
          refine g_istore C dX6_giver_70 (by decide) [(4, .int r7), (3, .int v5), (6, .int 1), (0, .ref (ad 0)), (1, .int v1), (2, .int v2), (5, .int v5)] rfl ?_
          obtain ⟨x8, ex8, h⟩ := gl h
          refine g_iinc (v := x8) C dX6_giver_72 6 rfl (by rw [ex8]; rfl) (by decide) [(5, .int x8), (4, .int r7), (3, .int v5), (6, .int 1), (0, .ref (ad 0)), (1, .int v1), (2, .int v2)] rfl ?_
          refine g_goto (tgt := 9) C dX6_giver_75 (by decide) ?_
          exact g_sub [4, 5, 6, 2, 1, 0] rfl (ih v5 r7 x8 h)
set_option maxHeartbeats 4000000 in
set_option maxRecDepth 100000 in
theorem cn_X6_giver (l : Launch) (Z : gZ) (ad : Nat → Nat) (hI : gInj 3 ad) (s : Nat → Int32) (t : Nat → Int32) (g : Nat → Int32) (v1 : Int32) (v2 : Int32) {r : Int32} (h : f_X6_giver s t g v1 v2 = some r) : gI l yX6_giver wsX6_giver rm_X6_giver Z 3 ad [.ref (ad 0), .int v1, .int v2] (mdlE Z.2.1 ad s t g) r (mdlE Z.2.1 ad s t g) := by
  refine g_entryI (cc := cX6_giver) (maxL := 7) (by decide +kernel) rfl hI (Nat.le_of_ble_eq_true rfl) (fun X C e => ?_)
  unfold f_X6_giver at h
  show GG X Z 7 3 ad (mdlE Z.2.1 ad s t g) 0 [(0, .ref (ad 0)), (1, .int v1), (2, .int v2)] []
  refine g_bipush (v := (-5)) C dX6_giver_0 (by decide) ?_
  refine g_istore_n C dX6_giver_2 (by decide) [(3, .int (-5)), (0, .ref (ad 0)), (1, .int v1), (2, .int v2)] rfl ?_
  refine g_iconst (v := 0) C dX6_giver_3 (by decide) ?_
  refine g_istore C dX6_giver_4 (by decide) [(4, .int 0), (3, .int (-5)), (0, .ref (ad 0)), (1, .int v1), (2, .int v2)] rfl ?_
  refine g_iconst (v := 0) C dX6_giver_6 (by decide) ?_
  refine g_istore C dX6_giver_7 (by decide) [(5, .int 0), (4, .int 0), (3, .int (-5)), (0, .ref (ad 0)), (1, .int v1), (2, .int v2)] rfl ?_
  exact g_sub [3, 4, 5, 2, 1, 0] rfl (cl_X6_giver_L9 C e v1 v2 gFu (-5) 0 0 h)
abbrev rm_X6_runLength : Room := ({ frames := 1, cells := 0, slots := 0, locals := 22 } : Room)
def f_X6_runLength_L2 (s : Nat → Int32) (t : Nat → Int32) (g : Nat → Int32) (v1 : Int32) (v2 : Int32) : Nat → Int32 → Option Int32
  | 0, _ => none
  | fu + 1, v3 => gb (f_X6_isFree s t g v1 (v2 + v3)) (fun r1 => if r1 = 0 then some v3 else glet (v3 + 1) (fun x3 => f_X6_runLength_L2 s t g v1 v2 fu x3))
def f_X6_runLength (s : Nat → Int32) (t : Nat → Int32) (g : Nat → Int32) (v1 : Int32) (v2 : Int32) : Option Int32 := f_X6_runLength_L2 s t g v1 v2 gFu 0
set_option maxHeartbeats 4000000 in
set_option maxRecDepth 100000 in
theorem cl_X6_runLength_L2 {X : gX} {Z : gZ} {ad : Nat → Nat} {s : Nat → Int32} {t : Nat → Int32} {g : Nat → Int32} {r : Int32} (C : GC X Z cX6_runLength 4 wsX6_runLength RX6 rm_X6_runLength 3 ad) (e : gEI X Z 3 ad .int r (mdlE Z.2.1 ad s t g)) (v1 : Int32) (v2 : Int32) : ∀ (fu : Nat) (v3 : Int32) (h : f_X6_runLength_L2 s t g v1 v2 fu v3 = some r), GG X Z 4 3 ad (mdlE Z.2.1 ad s t g) 2 [(0, .ref (ad 0)), (1, .int v1), (2, .int v2), (3, .int v3)] [] := by
  intro fu
  induction fu with
  | zero => intro v3 h; cases h
  | succ fu ih =>
    intro v3 h
    rw [f_X6_runLength_L2] at h
    refine g_aload_n C dX6_runLength_2 0 rfl ?_
    refine g_iload_n C dX6_runLength_3 1 rfl ?_
    refine g_iload_n C dX6_runLength_4 2 rfl ?_
    refine g_iload_n C dX6_runLength_5 3 rfl ?_
    refine g_iadd C dX6_runLength_6 ?_
    obtain ⟨r1, er1, h⟩ := gb1 h
    refine g_callWi (rest := []) C gX6_runLength_X6_isFree rfl ok_X6_isFree ⟨by decide, by decide⟩ ⟨rfl, rfl⟩ 0 (by decide) rfl rfl (fun hI => cn_X6_isFree X.2.1 Z ad hI s t g v1 (v2 + v3) er1) rfl dX6_runLength_7 rfl (Nat.le_of_ble_eq_true rfl) ?_
    refine g_if_eq (tgt := 19) C dX6_runLength_10 (by decide) (fun c2 => ?_) (fun c2 => ?_)
    · replace h := gi_pos c2 h
      refine g_iload_n C dX6_runLength_19 3 rfl ?_
      obtain rfl := gs1 h
      exact g_iret C e dX6_runLength_20
    · replace h := gi_neg c2 h
      obtain ⟨x3, ex3, h⟩ := gl h
      refine g_iinc (v := x3) C dX6_runLength_13 3 rfl (by rw [ex3]; rfl) (by decide) [(3, .int x3), (0, .ref (ad 0)), (1, .int v1), (2, .int v2)] rfl ?_
      refine g_goto (tgt := 2) C dX6_runLength_16 (by decide) ?_
      exact g_sub [1, 2, 3, 0] rfl (ih x3 h)
set_option maxHeartbeats 4000000 in
set_option maxRecDepth 100000 in
theorem cn_X6_runLength (l : Launch) (Z : gZ) (ad : Nat → Nat) (hI : gInj 3 ad) (s : Nat → Int32) (t : Nat → Int32) (g : Nat → Int32) (v1 : Int32) (v2 : Int32) {r : Int32} (h : f_X6_runLength s t g v1 v2 = some r) : gI l yX6_runLength wsX6_runLength rm_X6_runLength Z 3 ad [.ref (ad 0), .int v1, .int v2] (mdlE Z.2.1 ad s t g) r (mdlE Z.2.1 ad s t g) := by
  refine g_entryI (cc := cX6_runLength) (maxL := 4) (by decide +kernel) rfl hI (Nat.le_of_ble_eq_true rfl) (fun X C e => ?_)
  unfold f_X6_runLength at h
  show GG X Z 4 3 ad (mdlE Z.2.1 ad s t g) 0 [(0, .ref (ad 0)), (1, .int v1), (2, .int v2)] []
  refine g_iconst (v := 0) C dX6_runLength_0 (by decide) ?_
  refine g_istore_n C dX6_runLength_1 (by decide) [(3, .int 0), (0, .ref (ad 0)), (1, .int v1), (2, .int v2)] rfl ?_
  exact g_sub [1, 2, 3, 0] rfl (cl_X6_runLength_L2 C e v1 v2 gFu 0 h)
abbrev rm_X6_isRunStart : Room := ({ frames := 1, cells := 0, slots := 0, locals := 22 } : Room)
def f_X6_isRunStart (s : Nat → Int32) (t : Nat → Int32) (g : Nat → Int32) (v1 : Int32) (v2 : Int32) : Option Int32 := gb (f_X6_isFree s t g v1 v2) (fun r1 => if r1 = 0 then some 0 else if v2 = 0 then some 1 else gb (f_X6_isFree s t g v1 (v2 - 1)) (fun r4 => if r4 = 0 then some 1 else some 0))
set_option maxHeartbeats 4000000 in
set_option maxRecDepth 100000 in
theorem cn_X6_isRunStart (l : Launch) (Z : gZ) (ad : Nat → Nat) (hI : gInj 3 ad) (s : Nat → Int32) (t : Nat → Int32) (g : Nat → Int32) (v1 : Int32) (v2 : Int32) {r : Int32} (h : f_X6_isRunStart s t g v1 v2 = some r) : gI l yX6_isRunStart wsX6_isRunStart rm_X6_isRunStart Z 3 ad [.ref (ad 0), .int v1, .int v2] (mdlE Z.2.1 ad s t g) r (mdlE Z.2.1 ad s t g) := by
  refine g_entryI (cc := cX6_isRunStart) (maxL := 3) (by decide +kernel) rfl hI (Nat.le_of_ble_eq_true rfl) (fun X C e => ?_)
  unfold f_X6_isRunStart at h
  show GG X Z 3 3 ad (mdlE Z.2.1 ad s t g) 0 [(0, .ref (ad 0)), (1, .int v1), (2, .int v2)] []
  refine g_aload_n C dX6_isRunStart_0 0 rfl ?_
  refine g_iload_n C dX6_isRunStart_1 1 rfl ?_
  refine g_iload_n C dX6_isRunStart_2 2 rfl ?_
  obtain ⟨r1, er1, h⟩ := gb1 h
  refine g_callWi (rest := []) C gX6_isRunStart_X6_isFree rfl ok_X6_isFree ⟨by decide, by decide⟩ ⟨rfl, rfl⟩ 0 (by decide) rfl rfl (fun hI => cn_X6_isFree X.2.1 Z ad hI s t g v1 v2 er1) rfl dX6_isRunStart_3 rfl (Nat.le_of_ble_eq_true rfl) ?_
  refine g_if_eq (tgt := 28) C dX6_isRunStart_6 (by decide) (fun c2 => ?_) (fun c2 => ?_)
  · replace h := gi_pos c2 h
    refine g_iconst (v := 0) C dX6_isRunStart_28 (by decide) ?_
    obtain rfl := gs1 h
    exact g_zret C e rfl dX6_isRunStart_29
  · replace h := gi_neg c2 h
    refine g_iload_n C dX6_isRunStart_9 2 rfl ?_
    refine g_if_eq (tgt := 24) C dX6_isRunStart_10 (by decide) (fun c3 => ?_) (fun c3 => ?_)
    · replace h := gi_pos c3 h
      refine g_iconst (v := 1) C dX6_isRunStart_24 (by decide) ?_
      refine g_goto (tgt := 29) C dX6_isRunStart_25 (by decide) ?_
      obtain rfl := gs1 h
      exact g_zret C e rfl dX6_isRunStart_29
    · replace h := gi_neg c3 h
      refine g_aload_n C dX6_isRunStart_13 0 rfl ?_
      refine g_iload_n C dX6_isRunStart_14 1 rfl ?_
      refine g_iload_n C dX6_isRunStart_15 2 rfl ?_
      refine g_iconst (v := 1) C dX6_isRunStart_16 (by decide) ?_
      refine g_isub C dX6_isRunStart_17 ?_
      obtain ⟨r4, er4, h⟩ := gb1 h
      refine g_callWi (rest := []) C gX6_isRunStart_X6_isFree rfl ok_X6_isFree ⟨by decide, by decide⟩ ⟨rfl, rfl⟩ 0 (by decide) rfl rfl (fun hI => cn_X6_isFree X.2.1 Z ad hI s t g v1 (v2 - 1) er4) rfl dX6_isRunStart_18 rfl (Nat.le_of_ble_eq_true rfl) ?_
      refine g_if_ne (tgt := 28) C dX6_isRunStart_21 (by decide) (fun c5 => ?_) (fun c5 => ?_)
      · replace h := gi_neg c5 h
        refine g_iconst (v := 0) C dX6_isRunStart_28 (by decide) ?_
        obtain rfl := gs1 h
        exact g_zret C e rfl dX6_isRunStart_29
      · replace h := gi_pos c5 h
        refine g_iconst (v := 1) C dX6_isRunStart_24 (by decide) ?_
        refine g_goto (tgt := 29) C dX6_isRunStart_25 (by decide) ?_
        obtain rfl := gs1 h
        exact g_zret C e rfl dX6_isRunStart_29
abbrev rm_X6_chooses : Room := ({ frames := 2, cells := 0, slots := 0, locals := 45 } : Room)
def f_X6_chooses_L10 (s : Nat → Int32) (t : Nat → Int32) (g : Nat → Int32) (v1 : Int32) (v2 : Int32) : Nat → Int32 → Int32 → Int32 → Option Int32
  | 0, _, _, _ => none
  | fu + 1, v3, v4, v5 => if 64 ≤ v5 then if v3 = (-5) then some v4 else some v3 else gb (f_X6_isRunStart s t g v1 v5) (fun r3 => if r3 = 0 then glet (v5 + 1) (fun x5 => f_X6_chooses_L10 s t g v1 v2 fu v3 v4 x5) else gb (f_X6_runLength s t g v1 v5) (fun r6 => if v3 = (-5) then if r6 < v2 then if v4 = (-5) then glet (v5 + 1) (fun x10 => f_X6_chooses_L10 s t g v1 v2 fu v3 v5 x10) else gb (f_X6_runLength s t g v1 v4) (fun r11 => if r6 ≤ r11 then glet (v5 + 1) (fun x13 => f_X6_chooses_L10 s t g v1 v2 fu v3 v4 x13) else glet (v5 + 1) (fun x14 => f_X6_chooses_L10 s t g v1 v2 fu v3 v5 x14)) else if v4 = (-5) then glet (v5 + 1) (fun x16 => f_X6_chooses_L10 s t g v1 v2 fu v5 v5 x16) else gb (f_X6_runLength s t g v1 v4) (fun r17 => if r6 ≤ r17 then glet (v5 + 1) (fun x19 => f_X6_chooses_L10 s t g v1 v2 fu v5 v4 x19) else glet (v5 + 1) (fun x20 => f_X6_chooses_L10 s t g v1 v2 fu v5 v5 x20)) else if 0 ≤ ((v1 + 240) + 1) ∧ (((v1 + 240) + 1)).toNatClampNeg < 1968 then if (s (((v1 + 240) + 1)).toNatClampNeg) = 0 then gb (f_X6_runLength s t g v1 v3) (fun r35 => if r35 ≤ r6 then if r6 < v2 then if v4 = (-5) then glet (v5 + 1) (fun x39 => f_X6_chooses_L10 s t g v1 v2 fu v3 v5 x39) else gb (f_X6_runLength s t g v1 v4) (fun r40 => if r6 ≤ r40 then glet (v5 + 1) (fun x42 => f_X6_chooses_L10 s t g v1 v2 fu v3 v4 x42) else glet (v5 + 1) (fun x43 => f_X6_chooses_L10 s t g v1 v2 fu v3 v5 x43)) else if v4 = (-5) then glet (v5 + 1) (fun x45 => f_X6_chooses_L10 s t g v1 v2 fu v3 v5 x45) else gb (f_X6_runLength s t g v1 v4) (fun r46 => if r6 ≤ r46 then glet (v5 + 1) (fun x48 => f_X6_chooses_L10 s t g v1 v2 fu v3 v4 x48) else glet (v5 + 1) (fun x49 => f_X6_chooses_L10 s t g v1 v2 fu v3 v5 x49)) else if r6 < v2 then if v4 = (-5) then glet (v5 + 1) (fun x52 => f_X6_chooses_L10 s t g v1 v2 fu v3 v5 x52) else gb (f_X6_runLength s t g v1 v4) (fun r53 => if r6 ≤ r53 then glet (v5 + 1) (fun x55 => f_X6_chooses_L10 s t g v1 v2 fu v3 v4 x55) else glet (v5 + 1) (fun x56 => f_X6_chooses_L10 s t g v1 v2 fu v3 v5 x56)) else if v4 = (-5) then glet (v5 + 1) (fun x58 => f_X6_chooses_L10 s t g v1 v2 fu v5 v5 x58) else gb (f_X6_runLength s t g v1 v4) (fun r59 => if r6 ≤ r59 then glet (v5 + 1) (fun x61 => f_X6_chooses_L10 s t g v1 v2 fu v5 v4 x61) else glet (v5 + 1) (fun x62 => f_X6_chooses_L10 s t g v1 v2 fu v5 v5 x62))) else if r6 < v2 then if v4 = (-5) then glet (v5 + 1) (fun x24 => f_X6_chooses_L10 s t g v1 v2 fu v3 v5 x24) else gb (f_X6_runLength s t g v1 v4) (fun r25 => if r6 ≤ r25 then glet (v5 + 1) (fun x27 => f_X6_chooses_L10 s t g v1 v2 fu v3 v4 x27) else glet (v5 + 1) (fun x28 => f_X6_chooses_L10 s t g v1 v2 fu v3 v5 x28)) else if v4 = (-5) then glet (v5 + 1) (fun x30 => f_X6_chooses_L10 s t g v1 v2 fu v3 v5 x30) else gb (f_X6_runLength s t g v1 v4) (fun r31 => if r6 ≤ r31 then glet (v5 + 1) (fun x33 => f_X6_chooses_L10 s t g v1 v2 fu v3 v4 x33) else glet (v5 + 1) (fun x34 => f_X6_chooses_L10 s t g v1 v2 fu v3 v5 x34)) else none))
def f_X6_chooses (s : Nat → Int32) (t : Nat → Int32) (g : Nat → Int32) (v1 : Int32) (v2 : Int32) : Option Int32 := f_X6_chooses_L10 s t g v1 v2 gFu (-5) (-5) 0
set_option maxRecDepth 20000 in
theorem in_X6_chooses : ∀ w ∈ wsX60, w ∈ wsX6_chooses := by decide +kernel
set_option maxRecDepth 20000 in
theorem fl_X6_chooses_7 : Cond.fieldLink RX6 7 (TX6 0).1 (TX6 0).2.1 (TX6 0).2.2.1 ∈ wsX6_chooses := by decide +kernel
set_option maxHeartbeats 4000000 in
set_option maxRecDepth 100000 in
theorem cl_X6_chooses_L10 {X : gX} {Z : gZ} {ad : Nat → Nat} {s : Nat → Int32} {t : Nat → Int32} {g : Nat → Int32} {r : Int32} (C : GC X Z cX6_chooses 8 wsX6_chooses RX6 rm_X6_chooses 3 ad) (e : gEI X Z 3 ad .int r (mdlE Z.2.1 ad s t g)) (v1 : Int32) (v2 : Int32) : ∀ (fu : Nat) (v3 : Int32) (v4 : Int32) (v5 : Int32) (h : f_X6_chooses_L10 s t g v1 v2 fu v3 v4 v5 = some r), GG X Z 8 3 ad (mdlE Z.2.1 ad s t g) 10 [(0, .ref (ad 0)), (1, .int v1), (2, .int v2), (3, .int v3), (4, .int v4), (5, .int v5)] [] := by
  intro fu
  induction fu with
  | zero => intro v3 v4 v5 h; cases h
  | succ fu ih =>
    intro v3 v4 v5 h
    rw [f_X6_chooses_L10] at h
    refine g_iload C dX6_chooses_10 5 rfl ?_
    refine g_bipush (v := 64) C dX6_chooses_12 (by decide) ?_
    refine g_icmp_ge (tgt := 127) C dX6_chooses_14 (by decide) (fun c1 => ?_) (fun c1 => ?_)
    · replace h := gi_pos c1 h
      refine g_iload_n C dX6_chooses_127 3 rfl ?_
      refine g_bipush (v := (-5)) C dX6_chooses_128 (by decide) ?_
      refine g_icmp_ne (tgt := 138) C dX6_chooses_130 (by decide) (fun c2 => ?_) (fun c2 => ?_)
      · replace h := gi_neg c2 h
        refine g_iload_n C dX6_chooses_138 3 rfl ?_
        obtain rfl := gs1 h
        exact g_iret C e dX6_chooses_139
      · replace h := gi_pos c2 h
        refine g_iload C dX6_chooses_133 4 rfl ?_
        refine g_goto (tgt := 139) C dX6_chooses_135 (by decide) ?_
        obtain rfl := gs1 h
        exact g_iret C e dX6_chooses_139
    · replace h := gi_neg c1 h
      refine g_aload_n C dX6_chooses_17 0 rfl ?_
      refine g_iload_n C dX6_chooses_18 1 rfl ?_
      refine g_iload C dX6_chooses_19 5 rfl ?_
      obtain ⟨r3, er3, h⟩ := gb1 h
      refine g_callWi (rest := []) C gX6_chooses_X6_isRunStart rfl ok_X6_isRunStart ⟨by decide, by decide⟩ ⟨rfl, rfl⟩ 0 (by decide) rfl rfl (fun hI => cn_X6_isRunStart X.2.1 Z ad hI s t g v1 v5 er3) rfl dX6_chooses_21 rfl (Nat.le_of_ble_eq_true rfl) ?_
      refine g_if_eq (tgt := 121) C dX6_chooses_24 (by decide) (fun c4 => ?_) (fun c4 => ?_)
      · replace h := gi_pos c4 h
        obtain ⟨x5, ex5, h⟩ := gl h
        refine g_iinc (v := x5) C dX6_chooses_121 5 rfl (by rw [ex5]; rfl) (by decide) [(5, .int x5), (0, .ref (ad 0)), (1, .int v1), (2, .int v2), (3, .int v3), (4, .int v4)] rfl ?_
        refine g_goto (tgt := 10) C dX6_chooses_124 (by decide) ?_
        exact g_sub [1, 2, 3, 4, 5, 0] rfl (ih v3 v4 x5 h)
      · replace h := gi_neg c4 h
        refine g_aload_n C dX6_chooses_27 0 rfl ?_
        refine g_iload_n C dX6_chooses_28 1 rfl ?_
        refine g_iload C dX6_chooses_29 5 rfl ?_
        obtain ⟨r6, er6, h⟩ := gb1 h
        refine g_callWi (rest := []) C gX6_chooses_X6_runLength rfl ok_X6_runLength ⟨by decide, by decide⟩ ⟨rfl, rfl⟩ 0 (by decide) rfl rfl (fun hI => cn_X6_runLength X.2.1 Z ad hI s t g v1 v5 er6) rfl dX6_chooses_31 rfl (Nat.le_of_ble_eq_true rfl) ?_
        refine g_istore C dX6_chooses_34 (by decide) [(6, .int r6), (0, .ref (ad 0)), (1, .int v1), (2, .int v2), (3, .int v3), (4, .int v4), (5, .int v5)] rfl ?_
        refine g_iload_n C dX6_chooses_36 4 rfl ?_
        refine g_bipush (v := (-5)) C dX6_chooses_37 (by decide) ?_
        refine g_icmp_eq (tgt := 68) C dX6_chooses_39 (by decide) (fun c7 => ?_) (fun c7 => ?_)
        · replace h := gi_pos c7 h
          refine g_iconst (v := 1) C dX6_chooses_68 (by decide) ?_
          refine g_goto (tgt := 73) C dX6_chooses_69 (by decide) ?_
          refine g_istore C dX6_chooses_73 (by decide) [(7, .int 1), (6, .int r6), (0, .ref (ad 0)), (1, .int v1), (2, .int v2), (3, .int v3), (4, .int v4), (5, .int v5)] rfl ?_
          refine g_iload C dX6_chooses_75 1 rfl ?_
          refine g_iload_n C dX6_chooses_77 4 rfl ?_
          refine g_icmp_lt (tgt := 91) C dX6_chooses_78 (by decide) (fun c8 => ?_) (fun c8 => ?_)
          · replace h := gi_pos c8 h
            refine g_iload_n C dX6_chooses_91 5 rfl ?_
            refine g_istore_n C dX6_chooses_92 (by decide) [(3, .int v3), (7, .int 1), (6, .int r6), (0, .ref (ad 0)), (1, .int v1), (2, .int v2), (4, .int v4), (5, .int v5)] rfl ?_
            refine g_iload C dX6_chooses_93 6 rfl ?_
            refine g_bipush (v := (-5)) C dX6_chooses_95 (by decide) ?_
            refine g_icmp_eq (tgt := 112) C dX6_chooses_97 (by decide) (fun c9 => ?_) (fun c9 => ?_)
            · replace h := gi_pos c9 h
              refine g_iload C dX6_chooses_112 7 rfl ?_
              refine g_goto (tgt := 119) C dX6_chooses_114 (by decide) ?_
              refine g_istore C dX6_chooses_119 (by decide) [(4, .int v5), (3, .int v3), (7, .int 1), (6, .int r6), (0, .ref (ad 0)), (1, .int v1), (2, .int v2), (5, .int v5)] rfl ?_
              obtain ⟨x10, ex10, h⟩ := gl h
              refine g_iinc (v := x10) C dX6_chooses_121 7 rfl (by rw [ex10]; rfl) (by decide) [(5, .int x10), (4, .int v5), (3, .int v3), (7, .int 1), (6, .int r6), (0, .ref (ad 0)), (1, .int v1), (2, .int v2)] rfl ?_
              refine g_goto (tgt := 10) C dX6_chooses_124 (by decide) ?_
              exact g_sub [5, 6, 7, 2, 1, 0] rfl (ih v3 v5 x10 h)
            · replace h := gi_neg c9 h
              refine g_iload C dX6_chooses_100 2 rfl ?_
              refine g_aload_n C dX6_chooses_102 3 rfl ?_
              refine g_iload_n C dX6_chooses_103 4 rfl ?_
              refine g_iload C dX6_chooses_104 6 rfl ?_
              obtain ⟨r11, er11, h⟩ := gb1 h
              refine g_callWi (rest := [.int r6]) C gX6_chooses_X6_runLength rfl ok_X6_runLength ⟨by decide, by decide⟩ ⟨rfl, rfl⟩ 0 (by decide) rfl rfl (fun hI => cn_X6_runLength X.2.1 Z ad hI s t g v1 v4 er11) rfl dX6_chooses_106 rfl (Nat.le_of_ble_eq_true rfl) ?_
              refine g_icmp_le (tgt := 117) C dX6_chooses_109 (by decide) (fun c12 => ?_) (fun c12 => ?_)
              · replace h := gi_pos c12 h
                refine g_iload C dX6_chooses_117 6 rfl ?_
                refine g_istore C dX6_chooses_119 (by decide) [(4, .int v4), (3, .int v3), (7, .int 1), (6, .int r6), (0, .ref (ad 0)), (1, .int v1), (2, .int v2), (5, .int v5)] rfl ?_
                obtain ⟨x13, ex13, h⟩ := gl h
                refine g_iinc (v := x13) C dX6_chooses_121 7 rfl (by rw [ex13]; rfl) (by decide) [(5, .int x13), (4, .int v4), (3, .int v3), (7, .int 1), (6, .int r6), (0, .ref (ad 0)), (1, .int v1), (2, .int v2)] rfl ?_
                refine g_goto (tgt := 10) C dX6_chooses_124 (by decide) ?_
                exact g_sub [5, 6, 7, 2, 1, 0] rfl (ih v3 v4 x13 h)
              · replace h := gi_neg c12 h
                refine g_iload C dX6_chooses_112 7 rfl ?_
                refine g_goto (tgt := 119) C dX6_chooses_114 (by decide) ?_
                refine g_istore C dX6_chooses_119 (by decide) [(4, .int v5), (3, .int v3), (7, .int 1), (6, .int r6), (0, .ref (ad 0)), (1, .int v1), (2, .int v2), (5, .int v5)] rfl ?_
                obtain ⟨x14, ex14, h⟩ := gl h
                refine g_iinc (v := x14) C dX6_chooses_121 7 rfl (by rw [ex14]; rfl) (by decide) [(5, .int x14), (4, .int v5), (3, .int v3), (7, .int 1), (6, .int r6), (0, .ref (ad 0)), (1, .int v1), (2, .int v2)] rfl ?_
                refine g_goto (tgt := 10) C dX6_chooses_124 (by decide) ?_
                exact g_sub [5, 6, 7, 2, 1, 0] rfl (ih v3 v5 x14 h)
          · replace h := gi_neg c8 h
            refine g_iload C dX6_chooses_81 0 rfl ?_
            refine g_if_eq (tgt := 91) C dX6_chooses_83 (by decide) (fun hc => absurd hc (by decide)) (fun _ => ?_)
            refine g_iload C dX6_chooses_86 7 rfl ?_
            refine g_goto (tgt := 92) C dX6_chooses_88 (by decide) ?_
            refine g_istore_n C dX6_chooses_92 (by decide) [(3, .int v5), (7, .int 1), (6, .int r6), (0, .ref (ad 0)), (1, .int v1), (2, .int v2), (4, .int v4), (5, .int v5)] rfl ?_
            refine g_iload C dX6_chooses_93 6 rfl ?_
            refine g_bipush (v := (-5)) C dX6_chooses_95 (by decide) ?_
            refine g_icmp_eq (tgt := 112) C dX6_chooses_97 (by decide) (fun c15 => ?_) (fun c15 => ?_)
            · replace h := gi_pos c15 h
              refine g_iload C dX6_chooses_112 7 rfl ?_
              refine g_goto (tgt := 119) C dX6_chooses_114 (by decide) ?_
              refine g_istore C dX6_chooses_119 (by decide) [(4, .int v5), (3, .int v5), (7, .int 1), (6, .int r6), (0, .ref (ad 0)), (1, .int v1), (2, .int v2), (5, .int v5)] rfl ?_
              obtain ⟨x16, ex16, h⟩ := gl h
              refine g_iinc (v := x16) C dX6_chooses_121 7 rfl (by rw [ex16]; rfl) (by decide) [(5, .int x16), (4, .int v5), (3, .int v5), (7, .int 1), (6, .int r6), (0, .ref (ad 0)), (1, .int v1), (2, .int v2)] rfl ?_
              refine g_goto (tgt := 10) C dX6_chooses_124 (by decide) ?_
              exact g_sub [5, 6, 7, 2, 1, 0] rfl (ih v5 v5 x16 h)
            · replace h := gi_neg c15 h
              refine g_iload C dX6_chooses_100 2 rfl ?_
              refine g_aload_n C dX6_chooses_102 3 rfl ?_
              refine g_iload_n C dX6_chooses_103 4 rfl ?_
              refine g_iload C dX6_chooses_104 6 rfl ?_
              obtain ⟨r17, er17, h⟩ := gb1 h
              refine g_callWi (rest := [.int r6]) C gX6_chooses_X6_runLength rfl ok_X6_runLength ⟨by decide, by decide⟩ ⟨rfl, rfl⟩ 0 (by decide) rfl rfl (fun hI => cn_X6_runLength X.2.1 Z ad hI s t g v1 v4 er17) rfl dX6_chooses_106 rfl (Nat.le_of_ble_eq_true rfl) ?_
              refine g_icmp_le (tgt := 117) C dX6_chooses_109 (by decide) (fun c18 => ?_) (fun c18 => ?_)
              · replace h := gi_pos c18 h
                refine g_iload C dX6_chooses_117 6 rfl ?_
                refine g_istore C dX6_chooses_119 (by decide) [(4, .int v4), (3, .int v5), (7, .int 1), (6, .int r6), (0, .ref (ad 0)), (1, .int v1), (2, .int v2), (5, .int v5)] rfl ?_
                obtain ⟨x19, ex19, h⟩ := gl h
                refine g_iinc (v := x19) C dX6_chooses_121 7 rfl (by rw [ex19]; rfl) (by decide) [(5, .int x19), (4, .int v4), (3, .int v5), (7, .int 1), (6, .int r6), (0, .ref (ad 0)), (1, .int v1), (2, .int v2)] rfl ?_
                refine g_goto (tgt := 10) C dX6_chooses_124 (by decide) ?_
                exact g_sub [5, 6, 7, 2, 1, 0] rfl (ih v5 v4 x19 h)
              · replace h := gi_neg c18 h
                refine g_iload C dX6_chooses_112 7 rfl ?_
                refine g_goto (tgt := 119) C dX6_chooses_114 (by decide) ?_
                refine g_istore C dX6_chooses_119 (by decide) [(4, .int v5), (3, .int v5), (7, .int 1), (6, .int r6), (0, .ref (ad 0)), (1, .int v1), (2, .int v2), (5, .int v5)] rfl ?_
                obtain ⟨x20, ex20, h⟩ := gl h
                refine g_iinc (v := x20) C dX6_chooses_121 7 rfl (by rw [ex20]; rfl) (by decide) [(5, .int x20), (4, .int v5), (3, .int v5), (7, .int 1), (6, .int r6), (0, .ref (ad 0)), (1, .int v1), (2, .int v2)] rfl ?_
                refine g_goto (tgt := 10) C dX6_chooses_124 (by decide) ?_
                exact g_sub [5, 6, 7, 2, 1, 0] rfl (ih v5 v5 x20 h)
        · replace h := gi_neg c7 h
          refine g_aload_n C dX6_chooses_42 1 rfl ?_
          refine g_getf (v := .ref (ad 1)) C 0 (by decide) rfl rfl in_X6_chooses 0 (by decide) fl_X6_chooses_7 rfl dX6_chooses_43 ?_
          refine g_iload_n C dX6_chooses_46 2 rfl ?_
          refine g_sipush (v := 240) C dX6_chooses_47 (by decide) ?_
          refine g_iadd C dX6_chooses_50 ?_
          refine g_iconst (v := 1) C dX6_chooses_51 (by decide) ?_
          refine g_iadd C dX6_chooses_52 ?_
          obtain ⟨b63, h⟩ := gguard h
          refine g_iald C 1 (by decide) rfl (g_in b63) dX6_chooses_53 ?_
          refine g_if_ne (tgt := 72) C dX6_chooses_54 (by decide) (fun c21 => ?_) (fun c21 => ?_)
          · replace h := gi_neg c21 h
            refine g_iconst (v := 0) C dX6_chooses_72 (by decide) ?_
            refine g_istore C dX6_chooses_73 (by decide) [(7, .int 0), (6, .int r6), (0, .ref (ad 0)), (1, .int v1), (2, .int v2), (3, .int v3), (4, .int v4), (5, .int v5)] rfl ?_
            refine g_iload C dX6_chooses_75 1 rfl ?_
            refine g_iload_n C dX6_chooses_77 4 rfl ?_
            refine g_icmp_lt (tgt := 91) C dX6_chooses_78 (by decide) (fun c22 => ?_) (fun c22 => ?_)
            · replace h := gi_pos c22 h
              refine g_iload_n C dX6_chooses_91 5 rfl ?_
              refine g_istore_n C dX6_chooses_92 (by decide) [(3, .int v3), (7, .int 0), (6, .int r6), (0, .ref (ad 0)), (1, .int v1), (2, .int v2), (4, .int v4), (5, .int v5)] rfl ?_
              refine g_iload C dX6_chooses_93 6 rfl ?_
              refine g_bipush (v := (-5)) C dX6_chooses_95 (by decide) ?_
              refine g_icmp_eq (tgt := 112) C dX6_chooses_97 (by decide) (fun c23 => ?_) (fun c23 => ?_)
              · replace h := gi_pos c23 h
                refine g_iload C dX6_chooses_112 7 rfl ?_
                refine g_goto (tgt := 119) C dX6_chooses_114 (by decide) ?_
                refine g_istore C dX6_chooses_119 (by decide) [(4, .int v5), (3, .int v3), (7, .int 0), (6, .int r6), (0, .ref (ad 0)), (1, .int v1), (2, .int v2), (5, .int v5)] rfl ?_
                obtain ⟨x24, ex24, h⟩ := gl h
                refine g_iinc (v := x24) C dX6_chooses_121 7 rfl (by rw [ex24]; rfl) (by decide) [(5, .int x24), (4, .int v5), (3, .int v3), (7, .int 0), (6, .int r6), (0, .ref (ad 0)), (1, .int v1), (2, .int v2)] rfl ?_
                refine g_goto (tgt := 10) C dX6_chooses_124 (by decide) ?_
                exact g_sub [5, 6, 7, 2, 1, 0] rfl (ih v3 v5 x24 h)
              · replace h := gi_neg c23 h
                refine g_iload C dX6_chooses_100 2 rfl ?_
                refine g_aload_n C dX6_chooses_102 3 rfl ?_
                refine g_iload_n C dX6_chooses_103 4 rfl ?_
                refine g_iload C dX6_chooses_104 6 rfl ?_
                obtain ⟨r25, er25, h⟩ := gb1 h
                refine g_callWi (rest := [.int r6]) C gX6_chooses_X6_runLength rfl ok_X6_runLength ⟨by decide, by decide⟩ ⟨rfl, rfl⟩ 0 (by decide) rfl rfl (fun hI => cn_X6_runLength X.2.1 Z ad hI s t g v1 v4 er25) rfl dX6_chooses_106 rfl (Nat.le_of_ble_eq_true rfl) ?_
                refine g_icmp_le (tgt := 117) C dX6_chooses_109 (by decide) (fun c26 => ?_) (fun c26 => ?_)
                · replace h := gi_pos c26 h
                  refine g_iload C dX6_chooses_117 6 rfl ?_
                  refine g_istore C dX6_chooses_119 (by decide) [(4, .int v4), (3, .int v3), (7, .int 0), (6, .int r6), (0, .ref (ad 0)), (1, .int v1), (2, .int v2), (5, .int v5)] rfl ?_
                  obtain ⟨x27, ex27, h⟩ := gl h
                  refine g_iinc (v := x27) C dX6_chooses_121 7 rfl (by rw [ex27]; rfl) (by decide) [(5, .int x27), (4, .int v4), (3, .int v3), (7, .int 0), (6, .int r6), (0, .ref (ad 0)), (1, .int v1), (2, .int v2)] rfl ?_
                  refine g_goto (tgt := 10) C dX6_chooses_124 (by decide) ?_
                  exact g_sub [5, 6, 7, 2, 1, 0] rfl (ih v3 v4 x27 h)
                · replace h := gi_neg c26 h
                  refine g_iload C dX6_chooses_112 7 rfl ?_
                  refine g_goto (tgt := 119) C dX6_chooses_114 (by decide) ?_
                  refine g_istore C dX6_chooses_119 (by decide) [(4, .int v5), (3, .int v3), (7, .int 0), (6, .int r6), (0, .ref (ad 0)), (1, .int v1), (2, .int v2), (5, .int v5)] rfl ?_
                  obtain ⟨x28, ex28, h⟩ := gl h
                  refine g_iinc (v := x28) C dX6_chooses_121 7 rfl (by rw [ex28]; rfl) (by decide) [(5, .int x28), (4, .int v5), (3, .int v3), (7, .int 0), (6, .int r6), (0, .ref (ad 0)), (1, .int v1), (2, .int v2)] rfl ?_
                  refine g_goto (tgt := 10) C dX6_chooses_124 (by decide) ?_
                  exact g_sub [5, 6, 7, 2, 1, 0] rfl (ih v3 v5 x28 h)
            · replace h := gi_neg c22 h
              refine g_iload C dX6_chooses_81 0 rfl ?_
              refine g_if_eq (tgt := 91) C dX6_chooses_83 (by decide) (fun _ => ?_) (fun hc => absurd (by decide) hc)
              refine g_iload_n C dX6_chooses_91 5 rfl ?_
              refine g_istore_n C dX6_chooses_92 (by decide) [(3, .int v3), (7, .int 0), (6, .int r6), (0, .ref (ad 0)), (1, .int v1), (2, .int v2), (4, .int v4), (5, .int v5)] rfl ?_
              refine g_iload C dX6_chooses_93 6 rfl ?_
              refine g_bipush (v := (-5)) C dX6_chooses_95 (by decide) ?_
              refine g_icmp_eq (tgt := 112) C dX6_chooses_97 (by decide) (fun c29 => ?_) (fun c29 => ?_)
              · replace h := gi_pos c29 h
                refine g_iload C dX6_chooses_112 7 rfl ?_
                refine g_goto (tgt := 119) C dX6_chooses_114 (by decide) ?_
                refine g_istore C dX6_chooses_119 (by decide) [(4, .int v5), (3, .int v3), (7, .int 0), (6, .int r6), (0, .ref (ad 0)), (1, .int v1), (2, .int v2), (5, .int v5)] rfl ?_
                obtain ⟨x30, ex30, h⟩ := gl h
                refine g_iinc (v := x30) C dX6_chooses_121 7 rfl (by rw [ex30]; rfl) (by decide) [(5, .int x30), (4, .int v5), (3, .int v3), (7, .int 0), (6, .int r6), (0, .ref (ad 0)), (1, .int v1), (2, .int v2)] rfl ?_
                refine g_goto (tgt := 10) C dX6_chooses_124 (by decide) ?_
                exact g_sub [5, 6, 7, 2, 1, 0] rfl (ih v3 v5 x30 h)
              · replace h := gi_neg c29 h
                refine g_iload C dX6_chooses_100 2 rfl ?_
                refine g_aload_n C dX6_chooses_102 3 rfl ?_
                refine g_iload_n C dX6_chooses_103 4 rfl ?_
                refine g_iload C dX6_chooses_104 6 rfl ?_
                obtain ⟨r31, er31, h⟩ := gb1 h
                refine g_callWi (rest := [.int r6]) C gX6_chooses_X6_runLength rfl ok_X6_runLength ⟨by decide, by decide⟩ ⟨rfl, rfl⟩ 0 (by decide) rfl rfl (fun hI => cn_X6_runLength X.2.1 Z ad hI s t g v1 v4 er31) rfl dX6_chooses_106 rfl (Nat.le_of_ble_eq_true rfl) ?_
                refine g_icmp_le (tgt := 117) C dX6_chooses_109 (by decide) (fun c32 => ?_) (fun c32 => ?_)
                · replace h := gi_pos c32 h
                  refine g_iload C dX6_chooses_117 6 rfl ?_
                  refine g_istore C dX6_chooses_119 (by decide) [(4, .int v4), (3, .int v3), (7, .int 0), (6, .int r6), (0, .ref (ad 0)), (1, .int v1), (2, .int v2), (5, .int v5)] rfl ?_
                  obtain ⟨x33, ex33, h⟩ := gl h
                  refine g_iinc (v := x33) C dX6_chooses_121 7 rfl (by rw [ex33]; rfl) (by decide) [(5, .int x33), (4, .int v4), (3, .int v3), (7, .int 0), (6, .int r6), (0, .ref (ad 0)), (1, .int v1), (2, .int v2)] rfl ?_
                  refine g_goto (tgt := 10) C dX6_chooses_124 (by decide) ?_
                  exact g_sub [5, 6, 7, 2, 1, 0] rfl (ih v3 v4 x33 h)
                · replace h := gi_neg c32 h
                  refine g_iload C dX6_chooses_112 7 rfl ?_
                  refine g_goto (tgt := 119) C dX6_chooses_114 (by decide) ?_
                  refine g_istore C dX6_chooses_119 (by decide) [(4, .int v5), (3, .int v3), (7, .int 0), (6, .int r6), (0, .ref (ad 0)), (1, .int v1), (2, .int v2), (5, .int v5)] rfl ?_
                  obtain ⟨x34, ex34, h⟩ := gl h
                  refine g_iinc (v := x34) C dX6_chooses_121 7 rfl (by rw [ex34]; rfl) (by decide) [(5, .int x34), (4, .int v5), (3, .int v3), (7, .int 0), (6, .int r6), (0, .ref (ad 0)), (1, .int v1), (2, .int v2)] rfl ?_
                  refine g_goto (tgt := 10) C dX6_chooses_124 (by decide) ?_
                  exact g_sub [5, 6, 7, 2, 1, 0] rfl (ih v3 v5 x34 h)
          · replace h := gi_pos c21 h
            refine g_iload C dX6_chooses_57 0 rfl ?_
            refine g_aload_n C dX6_chooses_59 1 rfl ?_
            refine g_iload_n C dX6_chooses_60 2 rfl ?_
            refine g_iload_n C dX6_chooses_61 4 rfl ?_
            obtain ⟨r35, er35, h⟩ := gb1 h
            refine g_callWi (rest := [.int r6]) C gX6_chooses_X6_runLength rfl ok_X6_runLength ⟨by decide, by decide⟩ ⟨rfl, rfl⟩ 0 (by decide) rfl rfl (fun hI => cn_X6_runLength X.2.1 Z ad hI s t g v1 v3 er35) rfl dX6_chooses_62 rfl (Nat.le_of_ble_eq_true rfl) ?_
            refine g_icmp_ge (tgt := 72) C dX6_chooses_65 (by decide) (fun c36 => ?_) (fun c36 => ?_)
            · replace h := gi_pos c36 h
              refine g_iconst (v := 0) C dX6_chooses_72 (by decide) ?_
              refine g_istore C dX6_chooses_73 (by decide) [(7, .int 0), (6, .int r6), (0, .ref (ad 0)), (1, .int v1), (2, .int v2), (3, .int v3), (4, .int v4), (5, .int v5)] rfl ?_
              refine g_iload C dX6_chooses_75 1 rfl ?_
              refine g_iload_n C dX6_chooses_77 4 rfl ?_
              refine g_icmp_lt (tgt := 91) C dX6_chooses_78 (by decide) (fun c37 => ?_) (fun c37 => ?_)
              · replace h := gi_pos c37 h
                refine g_iload_n C dX6_chooses_91 5 rfl ?_
                refine g_istore_n C dX6_chooses_92 (by decide) [(3, .int v3), (7, .int 0), (6, .int r6), (0, .ref (ad 0)), (1, .int v1), (2, .int v2), (4, .int v4), (5, .int v5)] rfl ?_
                refine g_iload C dX6_chooses_93 6 rfl ?_
                refine g_bipush (v := (-5)) C dX6_chooses_95 (by decide) ?_
                refine g_icmp_eq (tgt := 112) C dX6_chooses_97 (by decide) (fun c38 => ?_) (fun c38 => ?_)
                · replace h := gi_pos c38 h
                  refine g_iload C dX6_chooses_112 7 rfl ?_
                  refine g_goto (tgt := 119) C dX6_chooses_114 (by decide) ?_
                  refine g_istore C dX6_chooses_119 (by decide) [(4, .int v5), (3, .int v3), (7, .int 0), (6, .int r6), (0, .ref (ad 0)), (1, .int v1), (2, .int v2), (5, .int v5)] rfl ?_
                  obtain ⟨x39, ex39, h⟩ := gl h
                  refine g_iinc (v := x39) C dX6_chooses_121 7 rfl (by rw [ex39]; rfl) (by decide) [(5, .int x39), (4, .int v5), (3, .int v3), (7, .int 0), (6, .int r6), (0, .ref (ad 0)), (1, .int v1), (2, .int v2)] rfl ?_
                  refine g_goto (tgt := 10) C dX6_chooses_124 (by decide) ?_
                  exact g_sub [5, 6, 7, 2, 1, 0] rfl (ih v3 v5 x39 h)
                · replace h := gi_neg c38 h
                  refine g_iload C dX6_chooses_100 2 rfl ?_
                  refine g_aload_n C dX6_chooses_102 3 rfl ?_
                  refine g_iload_n C dX6_chooses_103 4 rfl ?_
                  refine g_iload C dX6_chooses_104 6 rfl ?_
                  obtain ⟨r40, er40, h⟩ := gb1 h
                  refine g_callWi (rest := [.int r6]) C gX6_chooses_X6_runLength rfl ok_X6_runLength ⟨by decide, by decide⟩ ⟨rfl, rfl⟩ 0 (by decide) rfl rfl (fun hI => cn_X6_runLength X.2.1 Z ad hI s t g v1 v4 er40) rfl dX6_chooses_106 rfl (Nat.le_of_ble_eq_true rfl) ?_
                  refine g_icmp_le (tgt := 117) C dX6_chooses_109 (by decide) (fun c41 => ?_) (fun c41 => ?_)
                  · replace h := gi_pos c41 h
                    refine g_iload C dX6_chooses_117 6 rfl ?_
                    refine g_istore C dX6_chooses_119 (by decide) [(4, .int v4), (3, .int v3), (7, .int 0), (6, .int r6), (0, .ref (ad 0)), (1, .int v1), (2, .int v2), (5, .int v5)] rfl ?_
                    obtain ⟨x42, ex42, h⟩ := gl h
                    refine g_iinc (v := x42) C dX6_chooses_121 7 rfl (by rw [ex42]; rfl) (by decide) [(5, .int x42), (4, .int v4), (3, .int v3), (7, .int 0), (6, .int r6), (0, .ref (ad 0)), (1, .int v1), (2, .int v2)] rfl ?_
                    refine g_goto (tgt := 10) C dX6_chooses_124 (by decide) ?_
                    exact g_sub [5, 6, 7, 2, 1, 0] rfl (ih v3 v4 x42 h)
                  · replace h := gi_neg c41 h
                    refine g_iload C dX6_chooses_112 7 rfl ?_
                    refine g_goto (tgt := 119) C dX6_chooses_114 (by decide) ?_
                    refine g_istore C dX6_chooses_119 (by decide) [(4, .int v5), (3, .int v3), (7, .int 0), (6, .int r6), (0, .ref (ad 0)), (1, .int v1), (2, .int v2), (5, .int v5)] rfl ?_
                    obtain ⟨x43, ex43, h⟩ := gl h
                    refine g_iinc (v := x43) C dX6_chooses_121 7 rfl (by rw [ex43]; rfl) (by decide) [(5, .int x43), (4, .int v5), (3, .int v3), (7, .int 0), (6, .int r6), (0, .ref (ad 0)), (1, .int v1), (2, .int v2)] rfl ?_
                    refine g_goto (tgt := 10) C dX6_chooses_124 (by decide) ?_
                    exact g_sub [5, 6, 7, 2, 1, 0] rfl (ih v3 v5 x43 h)
              · replace h := gi_neg c37 h
                refine g_iload C dX6_chooses_81 0 rfl ?_
                refine g_if_eq (tgt := 91) C dX6_chooses_83 (by decide) (fun _ => ?_) (fun hc => absurd (by decide) hc)
                refine g_iload_n C dX6_chooses_91 5 rfl ?_
                refine g_istore_n C dX6_chooses_92 (by decide) [(3, .int v3), (7, .int 0), (6, .int r6), (0, .ref (ad 0)), (1, .int v1), (2, .int v2), (4, .int v4), (5, .int v5)] rfl ?_
                refine g_iload C dX6_chooses_93 6 rfl ?_
                refine g_bipush (v := (-5)) C dX6_chooses_95 (by decide) ?_
                refine g_icmp_eq (tgt := 112) C dX6_chooses_97 (by decide) (fun c44 => ?_) (fun c44 => ?_)
                · replace h := gi_pos c44 h
                  refine g_iload C dX6_chooses_112 7 rfl ?_
                  refine g_goto (tgt := 119) C dX6_chooses_114 (by decide) ?_
                  refine g_istore C dX6_chooses_119 (by decide) [(4, .int v5), (3, .int v3), (7, .int 0), (6, .int r6), (0, .ref (ad 0)), (1, .int v1), (2, .int v2), (5, .int v5)] rfl ?_
                  obtain ⟨x45, ex45, h⟩ := gl h
                  refine g_iinc (v := x45) C dX6_chooses_121 7 rfl (by rw [ex45]; rfl) (by decide) [(5, .int x45), (4, .int v5), (3, .int v3), (7, .int 0), (6, .int r6), (0, .ref (ad 0)), (1, .int v1), (2, .int v2)] rfl ?_
                  refine g_goto (tgt := 10) C dX6_chooses_124 (by decide) ?_
                  exact g_sub [5, 6, 7, 2, 1, 0] rfl (ih v3 v5 x45 h)
                · replace h := gi_neg c44 h
                  refine g_iload C dX6_chooses_100 2 rfl ?_
                  refine g_aload_n C dX6_chooses_102 3 rfl ?_
                  refine g_iload_n C dX6_chooses_103 4 rfl ?_
                  refine g_iload C dX6_chooses_104 6 rfl ?_
                  obtain ⟨r46, er46, h⟩ := gb1 h
                  refine g_callWi (rest := [.int r6]) C gX6_chooses_X6_runLength rfl ok_X6_runLength ⟨by decide, by decide⟩ ⟨rfl, rfl⟩ 0 (by decide) rfl rfl (fun hI => cn_X6_runLength X.2.1 Z ad hI s t g v1 v4 er46) rfl dX6_chooses_106 rfl (Nat.le_of_ble_eq_true rfl) ?_
                  refine g_icmp_le (tgt := 117) C dX6_chooses_109 (by decide) (fun c47 => ?_) (fun c47 => ?_)
                  · replace h := gi_pos c47 h
                    refine g_iload C dX6_chooses_117 6 rfl ?_
                    refine g_istore C dX6_chooses_119 (by decide) [(4, .int v4), (3, .int v3), (7, .int 0), (6, .int r6), (0, .ref (ad 0)), (1, .int v1), (2, .int v2), (5, .int v5)] rfl ?_
                    obtain ⟨x48, ex48, h⟩ := gl h
                    refine g_iinc (v := x48) C dX6_chooses_121 7 rfl (by rw [ex48]; rfl) (by decide) [(5, .int x48), (4, .int v4), (3, .int v3), (7, .int 0), (6, .int r6), (0, .ref (ad 0)), (1, .int v1), (2, .int v2)] rfl ?_
                    refine g_goto (tgt := 10) C dX6_chooses_124 (by decide) ?_
                    exact g_sub [5, 6, 7, 2, 1, 0] rfl (ih v3 v4 x48 h)
                  · replace h := gi_neg c47 h
                    refine g_iload C dX6_chooses_112 7 rfl ?_
                    refine g_goto (tgt := 119) C dX6_chooses_114 (by decide) ?_
                    refine g_istore C dX6_chooses_119 (by decide) [(4, .int v5), (3, .int v3), (7, .int 0), (6, .int r6), (0, .ref (ad 0)), (1, .int v1), (2, .int v2), (5, .int v5)] rfl ?_
                    obtain ⟨x49, ex49, h⟩ := gl h
                    refine g_iinc (v := x49) C dX6_chooses_121 7 rfl (by rw [ex49]; rfl) (by decide) [(5, .int x49), (4, .int v5), (3, .int v3), (7, .int 0), (6, .int r6), (0, .ref (ad 0)), (1, .int v1), (2, .int v2)] rfl ?_
                    refine g_goto (tgt := 10) C dX6_chooses_124 (by decide) ?_
                    exact g_sub [5, 6, 7, 2, 1, 0] rfl (ih v3 v5 x49 h)
            · replace h := gi_neg c36 h
              refine g_iconst (v := 1) C dX6_chooses_68 (by decide) ?_
              refine g_goto (tgt := 73) C dX6_chooses_69 (by decide) ?_
              refine g_istore C dX6_chooses_73 (by decide) [(7, .int 1), (6, .int r6), (0, .ref (ad 0)), (1, .int v1), (2, .int v2), (3, .int v3), (4, .int v4), (5, .int v5)] rfl ?_
              refine g_iload C dX6_chooses_75 1 rfl ?_
              refine g_iload_n C dX6_chooses_77 4 rfl ?_
              refine g_icmp_lt (tgt := 91) C dX6_chooses_78 (by decide) (fun c50 => ?_) (fun c50 => ?_)
              · replace h := gi_pos c50 h
                refine g_iload_n C dX6_chooses_91 5 rfl ?_
                refine g_istore_n C dX6_chooses_92 (by decide) [(3, .int v3), (7, .int 1), (6, .int r6), (0, .ref (ad 0)), (1, .int v1), (2, .int v2), (4, .int v4), (5, .int v5)] rfl ?_
                refine g_iload C dX6_chooses_93 6 rfl ?_
                refine g_bipush (v := (-5)) C dX6_chooses_95 (by decide) ?_
                refine g_icmp_eq (tgt := 112) C dX6_chooses_97 (by decide) (fun c51 => ?_) (fun c51 => ?_)
                · replace h := gi_pos c51 h
                  refine g_iload C dX6_chooses_112 7 rfl ?_
                  refine g_goto (tgt := 119) C dX6_chooses_114 (by decide) ?_
                  refine g_istore C dX6_chooses_119 (by decide) [(4, .int v5), (3, .int v3), (7, .int 1), (6, .int r6), (0, .ref (ad 0)), (1, .int v1), (2, .int v2), (5, .int v5)] rfl ?_
                  obtain ⟨x52, ex52, h⟩ := gl h
                  refine g_iinc (v := x52) C dX6_chooses_121 7 rfl (by rw [ex52]; rfl) (by decide) [(5, .int x52), (4, .int v5), (3, .int v3), (7, .int 1), (6, .int r6), (0, .ref (ad 0)), (1, .int v1), (2, .int v2)] rfl ?_
                  refine g_goto (tgt := 10) C dX6_chooses_124 (by decide) ?_
                  exact g_sub [5, 6, 7, 2, 1, 0] rfl (ih v3 v5 x52 h)
                · replace h := gi_neg c51 h
                  refine g_iload C dX6_chooses_100 2 rfl ?_
                  refine g_aload_n C dX6_chooses_102 3 rfl ?_
                  refine g_iload_n C dX6_chooses_103 4 rfl ?_
                  refine g_iload C dX6_chooses_104 6 rfl ?_
                  obtain ⟨r53, er53, h⟩ := gb1 h
                  refine g_callWi (rest := [.int r6]) C gX6_chooses_X6_runLength rfl ok_X6_runLength ⟨by decide, by decide⟩ ⟨rfl, rfl⟩ 0 (by decide) rfl rfl (fun hI => cn_X6_runLength X.2.1 Z ad hI s t g v1 v4 er53) rfl dX6_chooses_106 rfl (Nat.le_of_ble_eq_true rfl) ?_
                  refine g_icmp_le (tgt := 117) C dX6_chooses_109 (by decide) (fun c54 => ?_) (fun c54 => ?_)
                  · replace h := gi_pos c54 h
                    refine g_iload C dX6_chooses_117 6 rfl ?_
                    refine g_istore C dX6_chooses_119 (by decide) [(4, .int v4), (3, .int v3), (7, .int 1), (6, .int r6), (0, .ref (ad 0)), (1, .int v1), (2, .int v2), (5, .int v5)] rfl ?_
                    obtain ⟨x55, ex55, h⟩ := gl h
                    refine g_iinc (v := x55) C dX6_chooses_121 7 rfl (by rw [ex55]; rfl) (by decide) [(5, .int x55), (4, .int v4), (3, .int v3), (7, .int 1), (6, .int r6), (0, .ref (ad 0)), (1, .int v1), (2, .int v2)] rfl ?_
                    refine g_goto (tgt := 10) C dX6_chooses_124 (by decide) ?_
                    exact g_sub [5, 6, 7, 2, 1, 0] rfl (ih v3 v4 x55 h)
                  · replace h := gi_neg c54 h
                    refine g_iload C dX6_chooses_112 7 rfl ?_
                    refine g_goto (tgt := 119) C dX6_chooses_114 (by decide) ?_
                    refine g_istore C dX6_chooses_119 (by decide) [(4, .int v5), (3, .int v3), (7, .int 1), (6, .int r6), (0, .ref (ad 0)), (1, .int v1), (2, .int v2), (5, .int v5)] rfl ?_
                    obtain ⟨x56, ex56, h⟩ := gl h
                    refine g_iinc (v := x56) C dX6_chooses_121 7 rfl (by rw [ex56]; rfl) (by decide) [(5, .int x56), (4, .int v5), (3, .int v3), (7, .int 1), (6, .int r6), (0, .ref (ad 0)), (1, .int v1), (2, .int v2)] rfl ?_
                    refine g_goto (tgt := 10) C dX6_chooses_124 (by decide) ?_
                    exact g_sub [5, 6, 7, 2, 1, 0] rfl (ih v3 v5 x56 h)
              · replace h := gi_neg c50 h
                refine g_iload C dX6_chooses_81 0 rfl ?_
                refine g_if_eq (tgt := 91) C dX6_chooses_83 (by decide) (fun hc => absurd hc (by decide)) (fun _ => ?_)
                refine g_iload C dX6_chooses_86 7 rfl ?_
                refine g_goto (tgt := 92) C dX6_chooses_88 (by decide) ?_
                refine g_istore_n C dX6_chooses_92 (by decide) [(3, .int v5), (7, .int 1), (6, .int r6), (0, .ref (ad 0)), (1, .int v1), (2, .int v2), (4, .int v4), (5, .int v5)] rfl ?_
                refine g_iload C dX6_chooses_93 6 rfl ?_
                refine g_bipush (v := (-5)) C dX6_chooses_95 (by decide) ?_
                refine g_icmp_eq (tgt := 112) C dX6_chooses_97 (by decide) (fun c57 => ?_) (fun c57 => ?_)
                · replace h := gi_pos c57 h
                  refine g_iload C dX6_chooses_112 7 rfl ?_
                  refine g_goto (tgt := 119) C dX6_chooses_114 (by decide) ?_
                  refine g_istore C dX6_chooses_119 (by decide) [(4, .int v5), (3, .int v5), (7, .int 1), (6, .int r6), (0, .ref (ad 0)), (1, .int v1), (2, .int v2), (5, .int v5)] rfl ?_
                  obtain ⟨x58, ex58, h⟩ := gl h
                  refine g_iinc (v := x58) C dX6_chooses_121 7 rfl (by rw [ex58]; rfl) (by decide) [(5, .int x58), (4, .int v5), (3, .int v5), (7, .int 1), (6, .int r6), (0, .ref (ad 0)), (1, .int v1), (2, .int v2)] rfl ?_
                  refine g_goto (tgt := 10) C dX6_chooses_124 (by decide) ?_
                  exact g_sub [5, 6, 7, 2, 1, 0] rfl (ih v5 v5 x58 h)
                · replace h := gi_neg c57 h
                  refine g_iload C dX6_chooses_100 2 rfl ?_
                  refine g_aload_n C dX6_chooses_102 3 rfl ?_
                  refine g_iload_n C dX6_chooses_103 4 rfl ?_
                  refine g_iload C dX6_chooses_104 6 rfl ?_
                  obtain ⟨r59, er59, h⟩ := gb1 h
                  refine g_callWi (rest := [.int r6]) C gX6_chooses_X6_runLength rfl ok_X6_runLength ⟨by decide, by decide⟩ ⟨rfl, rfl⟩ 0 (by decide) rfl rfl (fun hI => cn_X6_runLength X.2.1 Z ad hI s t g v1 v4 er59) rfl dX6_chooses_106 rfl (Nat.le_of_ble_eq_true rfl) ?_
                  refine g_icmp_le (tgt := 117) C dX6_chooses_109 (by decide) (fun c60 => ?_) (fun c60 => ?_)
                  · replace h := gi_pos c60 h
                    refine g_iload C dX6_chooses_117 6 rfl ?_
                    refine g_istore C dX6_chooses_119 (by decide) [(4, .int v4), (3, .int v5), (7, .int 1), (6, .int r6), (0, .ref (ad 0)), (1, .int v1), (2, .int v2), (5, .int v5)] rfl ?_
                    obtain ⟨x61, ex61, h⟩ := gl h
                    refine g_iinc (v := x61) C dX6_chooses_121 7 rfl (by rw [ex61]; rfl) (by decide) [(5, .int x61), (4, .int v4), (3, .int v5), (7, .int 1), (6, .int r6), (0, .ref (ad 0)), (1, .int v1), (2, .int v2)] rfl ?_
                    refine g_goto (tgt := 10) C dX6_chooses_124 (by decide) ?_
                    exact g_sub [5, 6, 7, 2, 1, 0] rfl (ih v5 v4 x61 h)
                  · replace h := gi_neg c60 h
                    refine g_iload C dX6_chooses_112 7 rfl ?_
                    refine g_goto (tgt := 119) C dX6_chooses_114 (by decide) ?_
                    refine g_istore C dX6_chooses_119 (by decide) [(4, .int v5), (3, .int v5), (7, .int 1), (6, .int r6), (0, .ref (ad 0)), (1, .int v1), (2, .int v2), (5, .int v5)] rfl ?_
                    obtain ⟨x62, ex62, h⟩ := gl h
                    refine g_iinc (v := x62) C dX6_chooses_121 7 rfl (by rw [ex62]; rfl) (by decide) [(5, .int x62), (4, .int v5), (3, .int v5), (7, .int 1), (6, .int r6), (0, .ref (ad 0)), (1, .int v1), (2, .int v2)] rfl ?_
                    refine g_goto (tgt := 10) C dX6_chooses_124 (by decide) ?_
                    exact g_sub [5, 6, 7, 2, 1, 0] rfl (ih v5 v5 x62 h)
set_option maxHeartbeats 4000000 in
set_option maxRecDepth 100000 in
theorem cn_X6_chooses (l : Launch) (Z : gZ) (ad : Nat → Nat) (hI : gInj 3 ad) (s : Nat → Int32) (t : Nat → Int32) (g : Nat → Int32) (v1 : Int32) (v2 : Int32) {r : Int32} (h : f_X6_chooses s t g v1 v2 = some r) : gI l yX6_chooses wsX6_chooses rm_X6_chooses Z 3 ad [.ref (ad 0), .int v1, .int v2] (mdlE Z.2.1 ad s t g) r (mdlE Z.2.1 ad s t g) := by
  refine g_entryI (cc := cX6_chooses) (maxL := 8) (by decide +kernel) rfl hI (Nat.le_of_ble_eq_true rfl) (fun X C e => ?_)
  unfold f_X6_chooses at h
  show GG X Z 8 3 ad (mdlE Z.2.1 ad s t g) 0 [(0, .ref (ad 0)), (1, .int v1), (2, .int v2)] []
  refine g_bipush (v := (-5)) C dX6_chooses_0 (by decide) ?_
  refine g_istore_n C dX6_chooses_2 (by decide) [(3, .int (-5)), (0, .ref (ad 0)), (1, .int v1), (2, .int v2)] rfl ?_
  refine g_bipush (v := (-5)) C dX6_chooses_3 (by decide) ?_
  refine g_istore C dX6_chooses_5 (by decide) [(4, .int (-5)), (3, .int (-5)), (0, .ref (ad 0)), (1, .int v1), (2, .int v2)] rfl ?_
  refine g_iconst (v := 0) C dX6_chooses_7 (by decide) ?_
  refine g_istore C dX6_chooses_8 (by decide) [(5, .int 0), (4, .int (-5)), (3, .int (-5)), (0, .ref (ad 0)), (1, .int v1), (2, .int v2)] rfl ?_
  exact g_sub [3, 4, 5, 2, 1, 0] rfl (cl_X6_chooses_L10 C e v1 v2 gFu (-5) (-5) 0 h)
abbrev rm_X6_adds : Room := ({ frames := 1, cells := 0, slots := 0, locals := 22 } : Room)
def f_X6_adds_L3 (t : Nat → Int32) (g : Nat → Int32) (v1 : Int32) (v2 : Int32) (v3 : Int32) (v4 : Int32) : Nat → Int32 → (Nat → Int32) → Option (Int32 × (Nat → Int32))
  | 0, _, _ => none
  | fu + 1, v5, s => if v4 ≤ v5 then some (v5, s) else gb (f_X6_isFree s t g v1 (v3 + v5)) (fun r2 => if r2 = 0 then some (v5, s) else if 0 ≤ (((v1 + 64) + v3) + v5) ∧ ((((v1 + 64) + v3) + v5)).toNatClampNeg < 1968 then glet (upd s ((((v1 + 64) + v3) + v5)).toNatClampNeg v2) (fun s5 => gb (f_X6_at v1 v2) (fun r6 => if 0 ≤ (r6 + 1) ∧ ((r6 + 1)).toNatClampNeg < 1968 then if 0 ≤ (((v1 + 128) + v3) + v5) ∧ ((((v1 + 128) + v3) + v5)).toNatClampNeg < 1968 then glet (upd s5 ((((v1 + 128) + v3) + v5)).toNatClampNeg (s5 ((r6 + 1)).toNatClampNeg)) (fun s8 => gb (f_X6_at v1 v2) (fun r9 => if 0 ≤ (r9 + 1) ∧ ((r9 + 1)).toNatClampNeg < 1968 then if 0 ≤ (r9 + 1) ∧ ((r9 + 1)).toNatClampNeg < 1968 then glet (upd s8 ((r9 + 1)).toNatClampNeg ((s8 ((r9 + 1)).toNatClampNeg) + 1)) (fun s11 => glet (v5 + 1) (fun x12 => f_X6_adds_L3 t g v1 v2 v3 v4 fu x12 s11)) else none else none)) else none else none)) else none)
def f_X6_adds (s : Nat → Int32) (t : Nat → Int32) (g : Nat → Int32) (v1 : Int32) (v2 : Int32) (v3 : Int32) (v4 : Int32) : Option (Int32 × (Nat → Int32)) := f_X6_adds_L3 t g v1 v2 v3 v4 gFu 0 s
set_option maxRecDepth 20000 in
theorem in_X6_adds : ∀ w ∈ wsX60, w ∈ wsX6_adds := by decide +kernel
set_option maxRecDepth 20000 in
theorem fl_X6_adds_7 : Cond.fieldLink RX6 7 (TX6 0).1 (TX6 0).2.1 (TX6 0).2.2.1 ∈ wsX6_adds := by decide +kernel
set_option maxHeartbeats 4000000 in
set_option maxRecDepth 100000 in
theorem cl_X6_adds_L3 {X : gX} {Z : gZ} {ad : Nat → Nat} {t : Nat → Int32} {g : Nat → Int32} {r : Int32} {s' : Nat → Int32} (C : GC X Z cX6_adds 6 wsX6_adds RX6 rm_X6_adds 3 ad) (e : gEI X Z 3 ad .int r (mdlE Z.2.1 ad s' t g)) (v1 : Int32) (v2 : Int32) (v3 : Int32) (v4 : Int32) : ∀ (fu : Nat) (v5 : Int32) (s : Nat → Int32) (h : f_X6_adds_L3 t g v1 v2 v3 v4 fu v5 s = some (r, s')), GG X Z 6 3 ad (mdlE Z.2.1 ad s t g) 3 [(0, .ref (ad 0)), (1, .int v1), (2, .int v2), (3, .int v3), (4, .int v4), (5, .int v5)] [] := by
  intro fu
  induction fu with
  | zero => intro v5 s h; cases h
  | succ fu ih =>
    intro v5 s h
    rw [f_X6_adds_L3] at h
    refine g_iload C dX6_adds_3 5 rfl ?_
    refine g_iload C dX6_adds_5 4 rfl ?_
    refine g_icmp_ge (tgt := 86) C dX6_adds_7 (by decide) (fun c1 => ?_) (fun c1 => ?_)
    · replace h := gi_pos c1 h
      refine g_iload C dX6_adds_86 5 rfl ?_
      obtain ⟨rfl, rfl⟩ := gs2 h
      exact g_iret C e dX6_adds_88
    · replace h := gi_neg c1 h
      refine g_aload_n C dX6_adds_10 0 rfl ?_
      refine g_iload_n C dX6_adds_11 1 rfl ?_
      refine g_iload_n C dX6_adds_12 3 rfl ?_
      refine g_iload C dX6_adds_13 5 rfl ?_
      refine g_iadd C dX6_adds_15 ?_
      obtain ⟨r2, er2, h⟩ := gb1 h
      refine g_callWi (rest := []) C gX6_adds_X6_isFree rfl ok_X6_isFree ⟨by decide, by decide⟩ ⟨rfl, rfl⟩ 0 (by decide) rfl rfl (fun hI => cn_X6_isFree X.2.1 Z ad hI s t g v1 (v3 + v5) er2) rfl dX6_adds_16 rfl (Nat.le_of_ble_eq_true rfl) ?_
      refine g_if_eq (tgt := 86) C dX6_adds_19 (by decide) (fun c3 => ?_) (fun c3 => ?_)
      · replace h := gi_pos c3 h
        refine g_iload C dX6_adds_86 5 rfl ?_
        obtain ⟨rfl, rfl⟩ := gs2 h
        exact g_iret C e dX6_adds_88
      · replace h := gi_neg c3 h
        refine g_aload_n C dX6_adds_22 0 rfl ?_
        refine g_getf (v := .ref (ad 1)) C 0 (by decide) rfl rfl in_X6_adds 0 (by decide) fl_X6_adds_7 rfl dX6_adds_23 ?_
        refine g_iload_n C dX6_adds_26 1 rfl ?_
        refine g_bipush (v := 64) C dX6_adds_27 (by decide) ?_
        refine g_iadd C dX6_adds_29 ?_
        refine g_iload_n C dX6_adds_30 3 rfl ?_
        refine g_iadd C dX6_adds_31 ?_
        refine g_iload C dX6_adds_32 5 rfl ?_
        refine g_iadd C dX6_adds_34 ?_
        refine g_iload_n C dX6_adds_35 2 rfl ?_
        obtain ⟨b4, h⟩ := gguard h
        obtain ⟨s5, es5, h⟩ := gl h
        refine g_iast C 1 (by decide) rfl (g_in b4) dX6_adds_36 (mdlE Z.2.1 ad s5 t g) (by rw [es5]; exact mdlE_s) ?_
        refine g_aload_n C dX6_adds_37 0 rfl ?_
        refine g_getf (v := .ref (ad 1)) C 0 (by decide) rfl rfl in_X6_adds 0 (by decide) fl_X6_adds_7 rfl dX6_adds_38 ?_
        refine g_iload_n C dX6_adds_41 1 rfl ?_
        refine g_sipush (v := 128) C dX6_adds_42 (by decide) ?_
        refine g_iadd C dX6_adds_45 ?_
        refine g_iload_n C dX6_adds_46 3 rfl ?_
        refine g_iadd C dX6_adds_47 ?_
        refine g_iload C dX6_adds_48 5 rfl ?_
        refine g_iadd C dX6_adds_50 ?_
        refine g_aload_n C dX6_adds_51 0 rfl ?_
        refine g_getf (v := .ref (ad 1)) C 0 (by decide) rfl rfl in_X6_adds 0 (by decide) fl_X6_adds_7 rfl dX6_adds_52 ?_
        refine g_iload_n C dX6_adds_55 1 rfl ?_
        refine g_iload_n C dX6_adds_56 2 rfl ?_
        obtain ⟨r6, er6, h⟩ := gb1 h
        refine g_callSi (rest := [.ref (ad 1), .int (((v1 + 128) + v3) + v5), .ref (ad 1)]) C gX6_adds_X6_at rfl ok_X6_at ⟨by decide, by decide⟩ ⟨rfl, rfl⟩ (cn_X6_at X.2.1 Z v1 v2 er6) rfl dX6_adds_57 rfl (Nat.le_of_ble_eq_true rfl) ?_
        refine g_iconst (v := 1) C dX6_adds_60 (by decide) ?_
        refine g_iadd C dX6_adds_61 ?_
        obtain ⟨b14, h⟩ := gguard h
        refine g_iald C 1 (by decide) rfl (g_in b14) dX6_adds_62 ?_
        obtain ⟨b7, h⟩ := gguard h
        obtain ⟨s8, es8, h⟩ := gl h
        refine g_iast C 1 (by decide) rfl (g_in b7) dX6_adds_63 (mdlE Z.2.1 ad s8 t g) (by rw [es8]; exact mdlE_s) ?_
        refine g_aload_n C dX6_adds_64 0 rfl ?_
        refine g_getf (v := .ref (ad 1)) C 0 (by decide) rfl rfl in_X6_adds 0 (by decide) fl_X6_adds_7 rfl dX6_adds_65 ?_
        refine g_iload_n C dX6_adds_68 1 rfl ?_
        refine g_iload_n C dX6_adds_69 2 rfl ?_
        obtain ⟨r9, er9, h⟩ := gb1 h
        refine g_callSi (rest := [.ref (ad 1)]) C gX6_adds_X6_at rfl ok_X6_at ⟨by decide, by decide⟩ ⟨rfl, rfl⟩ (cn_X6_at X.2.1 Z v1 v2 er9) rfl dX6_adds_70 rfl (Nat.le_of_ble_eq_true rfl) ?_
        refine g_iconst (v := 1) C dX6_adds_73 (by decide) ?_
        refine g_iadd C dX6_adds_74 ?_
        refine g_dup2 C dX6_adds_75 rfl rfl ?_
        obtain ⟨b13, h⟩ := gguard h
        refine g_iald C 1 (by decide) rfl (g_in b13) dX6_adds_76 ?_
        refine g_iconst (v := 1) C dX6_adds_77 (by decide) ?_
        refine g_iadd C dX6_adds_78 ?_
        obtain ⟨b10, h⟩ := gguard h
        obtain ⟨s11, es11, h⟩ := gl h
        refine g_iast C 1 (by decide) rfl (g_in b10) dX6_adds_79 (mdlE Z.2.1 ad s11 t g) (by rw [es11]; exact mdlE_s) ?_
        obtain ⟨x12, ex12, h⟩ := gl h
        refine g_iinc (v := x12) C dX6_adds_80 5 rfl (by rw [ex12]; rfl) (by decide) [(5, .int x12), (0, .ref (ad 0)), (1, .int v1), (2, .int v2), (3, .int v3), (4, .int v4)] rfl ?_
        refine g_goto (tgt := 3) C dX6_adds_83 (by decide) ?_
        exact g_sub [1, 2, 3, 4, 5, 0] rfl (ih x12 s11 h)
set_option maxHeartbeats 4000000 in
set_option maxRecDepth 100000 in
theorem cn_X6_adds (l : Launch) (Z : gZ) (ad : Nat → Nat) (hI : gInj 3 ad) (s : Nat → Int32) (t : Nat → Int32) (g : Nat → Int32) (v1 : Int32) (v2 : Int32) (v3 : Int32) (v4 : Int32) {r : Int32} {s' : Nat → Int32} (h : f_X6_adds s t g v1 v2 v3 v4 = some (r, s')) : gI l yX6_adds wsX6_adds rm_X6_adds Z 3 ad [.ref (ad 0), .int v1, .int v2, .int v3, .int v4] (mdlE Z.2.1 ad s t g) r (mdlE Z.2.1 ad s' t g) := by
  refine g_entryI (cc := cX6_adds) (maxL := 6) (by decide +kernel) rfl hI (Nat.le_of_ble_eq_true rfl) (fun X C e => ?_)
  unfold f_X6_adds at h
  show GG X Z 6 3 ad (mdlE Z.2.1 ad s t g) 0 [(0, .ref (ad 0)), (1, .int v1), (2, .int v2), (3, .int v3), (4, .int v4)] []
  refine g_iconst (v := 0) C dX6_adds_0 (by decide) ?_
  refine g_istore C dX6_adds_1 (by decide) [(5, .int 0), (0, .ref (ad 0)), (1, .int v1), (2, .int v2), (3, .int v3), (4, .int v4)] rfl ?_
  exact g_sub [1, 2, 3, 4, 5, 0] rfl (cl_X6_adds_L3 C e v1 v2 v3 v4 gFu 0 s h)
