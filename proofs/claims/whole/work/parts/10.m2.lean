theorem ok_X6_grows : gOk yX6_grows RX6 3 := by refine ⟨?_, ?_, ?_, ?_⟩ <;> decide +kernel
theorem ok_X6_canAppend : gOk yX6_canAppend RX6 2 := by refine ⟨?_, ?_, ?_, ?_⟩ <;> decide +kernel
theorem ok_X6_appends : gOk yX6_appends RX6 4 := by refine ⟨?_, ?_, ?_, ?_⟩ <;> decide +kernel
theorem ok_X6_openError : gOk yX6_openError RX6 1 := by refine ⟨?_, ?_, ?_, ?_⟩ <;> decide +kernel
theorem ok_X6_closeError : gOk yX6_closeError RX6 1 := by refine ⟨?_, ?_, ?_, ?_⟩ <;> decide +kernel
theorem ok_X6_appendError : gOk yX6_appendError RX6 3 := by refine ⟨?_, ?_, ?_, ?_⟩ <;> decide +kernel
theorem ok_X6_cutError : gOk yX6_cutError RX6 2 := by refine ⟨?_, ?_, ?_, ?_⟩ <;> decide +kernel
theorem ok_X6_many : gOk yX6_many RX6 0 := by refine ⟨?_, ?_, ?_, ?_⟩ <;> decide +kernel
theorem ok_X6_createError : gOk yX6_createError RX6 0 := by refine ⟨?_, ?_, ?_, ?_⟩ <;> decide +kernel
theorem ok_X6_opened : gOk yX6_opened RX6 0 := by refine ⟨?_, ?_, ?_, ?_⟩ <;> decide +kernel
theorem ok_X6_creates : gOk yX6_creates RX6 0 := by refine ⟨?_, ?_, ?_, ?_⟩ <;> decide +kernel
theorem ok_X6_opens : gOk yX6_opens RX6 1 := by refine ⟨?_, ?_, ?_, ?_⟩ <;> decide +kernel
theorem ok_X6_closes : gOk yX6_closes RX6 1 := by refine ⟨?_, ?_, ?_, ?_⟩ <;> decide +kernel
theorem ok_X6_removes : gOk yX6_removes RX6 1 := by refine ⟨?_, ?_, ?_, ?_⟩ <;> decide +kernel
theorem ok_X6_syncs : gOk yX6_syncs RX6 1 := by refine ⟨?_, ?_, ?_, ?_⟩ <;> decide +kernel
theorem ok_X6_cuts : gOk yX6_cuts RX6 2 := by refine ⟨?_, ?_, ?_, ?_⟩ <;> decide +kernel
theorem ok_X6_crashes : gOk yX6_crashes RX6 0 := by refine ⟨?_, ?_, ?_, ?_⟩ <;> decide +kernel
theorem ok_X6_mends : gOk yX6_mends RX6 0 := by refine ⟨?_, ?_, ?_, ?_⟩ <;> decide +kernel
theorem ok_X6_create : gOk yX6_create RX6 0 := by refine ⟨?_, ?_, ?_, ?_⟩ <;> decide +kernel
theorem ok_X6_open : gOk yX6_open RX6 1 := by refine ⟨?_, ?_, ?_, ?_⟩ <;> decide +kernel
theorem ok_X6_close : gOk yX6_close RX6 1 := by refine ⟨?_, ?_, ?_, ?_⟩ <;> decide +kernel
theorem ok_X6_remove : gOk yX6_remove RX6 1 := by refine ⟨?_, ?_, ?_, ?_⟩ <;> decide +kernel
theorem ok_X6_sync : gOk yX6_sync RX6 1 := by refine ⟨?_, ?_, ?_, ?_⟩ <;> decide +kernel
theorem ok_X6_append : gOk yX6_append RX6 3 := by refine ⟨?_, ?_, ?_, ?_⟩ <;> decide +kernel
theorem ok_X6_cut : gOk yX6_cut RX6 2 := by refine ⟨?_, ?_, ?_, ?_⟩ <;> decide +kernel
theorem ok_X6_crash : gOk yX6_crash RX6 0 := by refine ⟨?_, ?_, ?_, ?_⟩ <;> decide +kernel
theorem ok_X6_mend : gOk yX6_mend RX6 0 := by refine ⟨?_, ?_, ?_, ?_⟩ <;> decide +kernel
theorem ok_X6_set : gOk yX6_set RX6 2 := by refine ⟨?_, ?_, ?_, ?_⟩ <;> decide +kernel
theorem ok_X6_type : gOk yX6_type RX6 1 := by refine ⟨?_, ?_, ?_, ?_⟩ <;> decide +kernel
theorem ok_X6_clearText : gOk yX6_clearText RX6 0 := by refine ⟨?_, ?_, ?_, ?_⟩ <;> decide +kernel
abbrev rm_X6_grows : Room := ({ frames := 3, cells := 0, slots := 0, locals := 72 } : Room)
def f_X6_grows_L166 (t : Nat → Int32) (g : Nat → Int32) (v1 : Int32) (v2 : Int32) (v3 : Int32) (v4 : Int32) (v5 : Int32) (v6 : Int32) : Nat → Int32 → (Nat → Int32) → Option ((Nat → Int32))
  | 0, _, _ => none
  | fu + 1, v7, s => if v6 ≤ v7 then if v6 ≤ v3 then some s else if 0 ≤ (v4 + 5) ∧ ((v4 + 5)).toNatClampNeg < 1968 then if (2 * (s ((v4 + 5)).toNatClampNeg)) ≤ 16 then if 0 ≤ (v4 + 5) ∧ ((v4 + 5)).toNatClampNeg < 1968 then if 0 ≤ (v4 + 5) ∧ ((v4 + 5)).toNatClampNeg < 1968 then glet (upd s ((v4 + 5)).toNatClampNeg (2 * (s ((v4 + 5)).toNatClampNeg))) (fun s14 => some s14) else none else none else if 0 ≤ (v4 + 5) ∧ ((v4 + 5)).toNatClampNeg < 1968 then glet (upd s ((v4 + 5)).toNatClampNeg 16) (fun s17 => some s17) else none else none else gb (f_X6_chooses s t g v1 (v6 - v7)) (fun r19 => gbb2 (f_X6_adds s t g v1 v2 r19 (v6 - v7)) (fun r20 s21 => glet (v7 + r20) (fun x22 => f_X6_grows_L166 t g v1 v2 v3 v4 v5 v6 fu x22 s21)))
def f_X6_grows_L7 (t : Nat → Int32) (g : Nat → Int32) (v1 : Int32) (v2 : Int32) (v3 : Int32) (v4 : Int32) : Nat → (Nat → Int32) → Option ((Nat → Int32))
  | 0, _ => none
  | fu + 1, s => gb (f_X6_free s t g v1) (fun r2 => if v3 ≤ r2 then if 0 ≤ (v4 + 5) ∧ ((v4 + 5)).toNatClampNeg < 1968 then if 0 ≤ ((v1 + 240) + 0) ∧ (((v1 + 240) + 0)).toNatClampNeg < 1968 then if (s (((v1 + 240) + 0)).toNatClampNeg) ≤ (s ((v4 + 5)).toNatClampNeg) then if 0 ≤ ((v1 + 240) + 0) ∧ (((v1 + 240) + 0)).toNatClampNeg < 1968 then glet (s (((v1 + 240) + 0)).toNatClampNeg) (fun x5 => gb (f_X6_free s t g v1) (fun r6 => if r6 ≤ (v3 + x5) then gb (f_X6_free s t g v1) (fun r8 => if 0 ≤ (v4 + 1) ∧ ((v4 + 1)).toNatClampNeg < 1968 then if (s ((v4 + 1)).toNatClampNeg) ≤ 0 then f_X6_grows_L166 t g v1 v2 v3 v4 x5 r8 gFu 0 s else if 0 ≤ (v4 + 1) ∧ ((v4 + 1)).toNatClampNeg < 1968 then gb (f_X6_blockOf s t g v1 v2 ((s ((v4 + 1)).toNatClampNeg) - 1)) (fun r23 => gbb2 (f_X6_adds s t g v1 v2 (r23 + 1) r8) (fun r24 s25 => f_X6_grows_L166 t g v1 v2 v3 v4 x5 r8 gFu r24 s25)) else none else none) else glet (v3 + x5) (fun x28 => if 0 ≤ (v4 + 1) ∧ ((v4 + 1)).toNatClampNeg < 1968 then if (s ((v4 + 1)).toNatClampNeg) ≤ 0 then f_X6_grows_L166 t g v1 v2 v3 v4 x5 x28 gFu 0 s else if 0 ≤ (v4 + 1) ∧ ((v4 + 1)).toNatClampNeg < 1968 then gb (f_X6_blockOf s t g v1 v2 ((s ((v4 + 1)).toNatClampNeg) - 1)) (fun r30 => gbb2 (f_X6_adds s t g v1 v2 (r30 + 1) x28) (fun r31 s32 => f_X6_grows_L166 t g v1 v2 v3 v4 x5 x28 gFu r31 s32)) else none else none))) else none else if 0 ≤ (v4 + 5) ∧ ((v4 + 5)).toNatClampNeg < 1968 then glet (s ((v4 + 5)).toNatClampNeg) (fun x36 => gb (f_X6_free s t g v1) (fun r37 => if r37 ≤ (v3 + x36) then gb (f_X6_free s t g v1) (fun r39 => if 0 ≤ (v4 + 1) ∧ ((v4 + 1)).toNatClampNeg < 1968 then if (s ((v4 + 1)).toNatClampNeg) ≤ 0 then f_X6_grows_L166 t g v1 v2 v3 v4 x36 r39 gFu 0 s else if 0 ≤ (v4 + 1) ∧ ((v4 + 1)).toNatClampNeg < 1968 then gb (f_X6_blockOf s t g v1 v2 ((s ((v4 + 1)).toNatClampNeg) - 1)) (fun r41 => gbb2 (f_X6_adds s t g v1 v2 (r41 + 1) r39) (fun r42 s43 => f_X6_grows_L166 t g v1 v2 v3 v4 x36 r39 gFu r42 s43)) else none else none) else glet (v3 + x36) (fun x46 => if 0 ≤ (v4 + 1) ∧ ((v4 + 1)).toNatClampNeg < 1968 then if (s ((v4 + 1)).toNatClampNeg) ≤ 0 then f_X6_grows_L166 t g v1 v2 v3 v4 x36 x46 gFu 0 s else if 0 ≤ (v4 + 1) ∧ ((v4 + 1)).toNatClampNeg < 1968 then gb (f_X6_blockOf s t g v1 v2 ((s ((v4 + 1)).toNatClampNeg) - 1)) (fun r48 => gbb2 (f_X6_adds s t g v1 v2 (r48 + 1) x46) (fun r49 s50 => f_X6_grows_L166 t g v1 v2 v3 v4 x36 x46 gFu r49 s50)) else none else none))) else none else none else none else gb (f_X6_giver s t g v1 v2) (fun r56 => gbb2 (f_X6_givesBack s t g v1 r56) (fun r57 s58 => if 0 ≤ (v1 + 244) ∧ ((v1 + 244)).toNatClampNeg < 1968 then if 0 ≤ (v1 + 244) ∧ ((v1 + 244)).toNatClampNeg < 1968 then glet (upd s58 ((v1 + 244)).toNatClampNeg ((s58 ((v1 + 244)).toNatClampNeg) + 1)) (fun s60 => f_X6_grows_L7 t g v1 v2 v3 v4 fu s60) else none else none)))
def f_X6_grows (s : Nat → Int32) (t : Nat → Int32) (g : Nat → Int32) (v1 : Int32) (v2 : Int32) (v3 : Int32) : Option ((Nat → Int32)) := gb (f_X6_at v1 v2) (fun r1 => f_X6_grows_L7 t g v1 v2 v3 r1 gFu s)
set_option maxRecDepth 20000 in
theorem in_X6_grows : ∀ w ∈ wsX60, w ∈ wsX6_grows := by decide +kernel
set_option maxRecDepth 20000 in
theorem fl_X6_grows_7 : Cond.fieldLink RX6 7 (TX6 0).1 (TX6 0).2.1 (TX6 0).2.2.1 ∈ wsX6_grows := by decide +kernel
set_option maxHeartbeats 4000000 in
set_option maxRecDepth 100000 in
theorem cl_X6_grows_L166 {X : gX} {Z : gZ} {ad : Nat → Nat} {t : Nat → Int32} {g : Nat → Int32} {s' : Nat → Int32} (C : GC X Z cX6_grows 8 wsX6_grows RX6 rm_X6_grows 3 ad) (e : gEV X Z 3 ad (mdlE Z.2.1 ad s' t g)) (v1 : Int32) (v2 : Int32) (v3 : Int32) (v4 : Int32) (v5 : Int32) (v6 : Int32) : ∀ (fu : Nat) (v7 : Int32) (s : Nat → Int32) (h : f_X6_grows_L166 t g v1 v2 v3 v4 v5 v6 fu v7 s = some s'), GG X Z 8 3 ad (mdlE Z.2.1 ad s t g) 166 [(0, .ref (ad 0)), (1, .int v1), (2, .int v2), (3, .int v3), (4, .int v4), (5, .int v5), (6, .int v6), (7, .int v7)] [] := by
  intro fu
  induction fu with
  | zero => intro v7 s h; cases h
  | succ fu ih =>
    intro v7 s h
    rw [f_X6_grows_L166] at h
    refine g_iload C dX6_grows_166 7 rfl ?_
    refine g_iload C dX6_grows_168 6 rfl ?_
    refine g_icmp_ge (tgt := 202) C dX6_grows_170 (by decide) (fun c10 => ?_) (fun c10 => ?_)
    · replace h := gi_pos c10 h
      refine g_iload C dX6_grows_202 6 rfl ?_
      refine g_iload_n C dX6_grows_204 3 rfl ?_
      refine g_icmp_le (tgt := 249) C dX6_grows_205 (by decide) (fun c11 => ?_) (fun c11 => ?_)
      · replace h := gi_pos c11 h
        obtain rfl := gs1 h
        exact g_vret C e dX6_grows_249
      · replace h := gi_neg c11 h
        refine g_aload_n C dX6_grows_208 0 rfl ?_
        refine g_getf (v := .ref (ad 1)) C 0 (by decide) rfl rfl in_X6_grows 0 (by decide) fl_X6_grows_7 rfl dX6_grows_209 ?_
        refine g_iload C dX6_grows_212 4 rfl ?_
        refine g_iconst (v := 5) C dX6_grows_214 (by decide) ?_
        refine g_iadd C dX6_grows_215 ?_
        refine g_iconst (v := 2) C dX6_grows_216 (by decide) ?_
        refine g_aload_n C dX6_grows_217 0 rfl ?_
        refine g_getf (v := .ref (ad 1)) C 0 (by decide) rfl rfl in_X6_grows 0 (by decide) fl_X6_grows_7 rfl dX6_grows_218 ?_
        refine g_iload C dX6_grows_221 4 rfl ?_
        refine g_iconst (v := 5) C dX6_grows_223 (by decide) ?_
        refine g_iadd C dX6_grows_224 ?_
        obtain ⟨b18, h⟩ := gguard h
        refine g_iald C 1 (by decide) rfl (g_in b18) dX6_grows_225 ?_
        refine g_imul C dX6_grows_226 ?_
        refine g_bipush (v := 16) C dX6_grows_227 (by decide) ?_
        refine g_icmp_le (tgt := 237) C dX6_grows_229 (by decide) (fun c12 => ?_) (fun c12 => ?_)
        · replace h := gi_pos c12 h
          refine g_iconst (v := 2) C dX6_grows_237 (by decide) ?_
          refine g_aload_n C dX6_grows_238 0 rfl ?_
          refine g_getf (v := .ref (ad 1)) C 0 (by decide) rfl rfl in_X6_grows 0 (by decide) fl_X6_grows_7 rfl dX6_grows_239 ?_
          refine g_iload C dX6_grows_242 4 rfl ?_
          refine g_iconst (v := 5) C dX6_grows_244 (by decide) ?_
          refine g_iadd C dX6_grows_245 ?_
          obtain ⟨b15, h⟩ := gguard h
          refine g_iald C 1 (by decide) rfl (g_in b15) dX6_grows_246 ?_
          refine g_imul C dX6_grows_247 ?_
          obtain ⟨b13, h⟩ := gguard h
          obtain ⟨s14, es14, h⟩ := gl h
          refine g_iast C 1 (by decide) rfl (g_in b13) dX6_grows_248 (mdlE Z.2.1 ad s14 t g) (by rw [es14]; exact mdlE_s) ?_
          obtain rfl := gs1 h
          exact g_vret C e dX6_grows_249
        · replace h := gi_neg c12 h
          refine g_bipush (v := 16) C dX6_grows_232 (by decide) ?_
          refine g_goto (tgt := 248) C dX6_grows_234 (by decide) ?_
          obtain ⟨b16, h⟩ := gguard h
          obtain ⟨s17, es17, h⟩ := gl h
          refine g_iast C 1 (by decide) rfl (g_in b16) dX6_grows_248 (mdlE Z.2.1 ad s17 t g) (by rw [es17]; exact mdlE_s) ?_
          obtain rfl := gs1 h
          exact g_vret C e dX6_grows_249
    · replace h := gi_neg c10 h
      refine g_iload C dX6_grows_173 7 rfl ?_
      refine g_aload_n C dX6_grows_175 0 rfl ?_
      refine g_iload_n C dX6_grows_176 1 rfl ?_
      refine g_iload_n C dX6_grows_177 2 rfl ?_
      refine g_aload_n C dX6_grows_178 0 rfl ?_
      refine g_iload_n C dX6_grows_179 1 rfl ?_
      refine g_iload C dX6_grows_180 6 rfl ?_
      refine g_iload C dX6_grows_182 7 rfl ?_
      refine g_isub C dX6_grows_184 ?_
      obtain ⟨r19, er19, h⟩ := gb1 h
      refine g_callWi (rest := [.int v2, .int v1, .ref (ad 0), .int v7]) C gX6_grows_X6_chooses rfl ok_X6_chooses ⟨by decide, by decide⟩ ⟨rfl, rfl⟩ 0 (by decide) rfl rfl (fun hI => cn_X6_chooses X.2.1 Z ad hI s t g v1 (v6 - v7) er19) rfl dX6_grows_185 rfl (Nat.le_of_ble_eq_true rfl) ?_
      refine g_iload C dX6_grows_188 6 rfl ?_
      refine g_iload C dX6_grows_190 7 rfl ?_
      refine g_isub C dX6_grows_192 ?_
      obtain ⟨r20, s21, er20, h⟩ := gb2 h
      refine g_callWi (rest := [.int v7]) C gX6_grows_X6_adds rfl ok_X6_adds ⟨by decide, by decide⟩ ⟨rfl, rfl⟩ 0 (by decide) rfl rfl (fun hI => cn_X6_adds X.2.1 Z ad hI s t g v1 v2 r19 (v6 - v7) er20) rfl dX6_grows_193 rfl (Nat.le_of_ble_eq_true rfl) ?_
      refine g_iadd C dX6_grows_196 ?_
      obtain ⟨x22, ex22, h⟩ := gl h
      refine g_istore C dX6_grows_197 (by decide) [(7, .int x22), (0, .ref (ad 0)), (1, .int v1), (2, .int v2), (3, .int v3), (4, .int v4), (5, .int v5), (6, .int v6)] (by rw [ex22]; rfl) ?_
      refine g_goto (tgt := 166) C dX6_grows_199 (by decide) ?_
      exact g_sub [1, 2, 3, 4, 5, 6, 7, 0] rfl (ih x22 s21 h)
set_option maxHeartbeats 4000000 in
set_option maxRecDepth 100000 in
theorem cl_X6_grows_L7 {X : gX} {Z : gZ} {ad : Nat → Nat} {t : Nat → Int32} {g : Nat → Int32} {s' : Nat → Int32} (C : GC X Z cX6_grows 8 wsX6_grows RX6 rm_X6_grows 3 ad) (e : gEV X Z 3 ad (mdlE Z.2.1 ad s' t g)) (v1 : Int32) (v2 : Int32) (v3 : Int32) (v4 : Int32) : ∀ (fu : Nat) (s : Nat → Int32) (h : f_X6_grows_L7 t g v1 v2 v3 v4 fu s = some s'), GG X Z 8 3 ad (mdlE Z.2.1 ad s t g) 7 [(0, .ref (ad 0)), (1, .int v1), (2, .int v2), (3, .int v3), (4, .int v4)] [] := by
  intro fu
  induction fu with
  | zero => intro s h; cases h
  | succ fu ih =>
    intro s h
    rw [f_X6_grows_L7] at h
    refine g_aload_n C dX6_grows_7 0 rfl ?_
    refine g_iload_n C dX6_grows_8 1 rfl ?_
    obtain ⟨r2, er2, h⟩ := gb1 h
    refine g_callWi (rest := []) C gX6_grows_X6_free rfl ok_X6_free ⟨by decide, by decide⟩ ⟨rfl, rfl⟩ 0 (by decide) rfl rfl (fun hI => cn_X6_free X.2.1 Z ad hI s t g v1 er2) rfl dX6_grows_9 rfl (Nat.le_of_ble_eq_true rfl) ?_
    refine g_iload_n C dX6_grows_12 3 rfl ?_
    refine g_icmp_ge (tgt := 46) C dX6_grows_13 (by decide) (fun c3 => ?_) (fun c3 => ?_)
    · replace h := gi_pos c3 h
      refine g_aload_n C dX6_grows_46 0 rfl ?_
      refine g_getf (v := .ref (ad 1)) C 0 (by decide) rfl rfl in_X6_grows 0 (by decide) fl_X6_grows_7 rfl dX6_grows_47 ?_
      refine g_iload C dX6_grows_50 4 rfl ?_
      refine g_iconst (v := 5) C dX6_grows_52 (by decide) ?_
      refine g_iadd C dX6_grows_53 ?_
      obtain ⟨b55, h⟩ := gguard h
      refine g_iald C 1 (by decide) rfl (g_in b55) dX6_grows_54 ?_
      refine g_aload_n C dX6_grows_55 0 rfl ?_
      refine g_getf (v := .ref (ad 1)) C 0 (by decide) rfl rfl in_X6_grows 0 (by decide) fl_X6_grows_7 rfl dX6_grows_56 ?_
      refine g_iload_n C dX6_grows_59 1 rfl ?_
      refine g_sipush (v := 240) C dX6_grows_60 (by decide) ?_
      refine g_iadd C dX6_grows_63 ?_
      refine g_iconst (v := 0) C dX6_grows_64 (by decide) ?_
      refine g_iadd C dX6_grows_65 ?_
      obtain ⟨b54, h⟩ := gguard h
      refine g_iald C 1 (by decide) rfl (g_in b54) dX6_grows_66 ?_
      refine g_icmp_ge (tgt := 82) C dX6_grows_67 (by decide) (fun c4 => ?_) (fun c4 => ?_)
      · replace h := gi_pos c4 h
        refine g_aload_n C dX6_grows_82 0 rfl ?_
        refine g_getf (v := .ref (ad 1)) C 0 (by decide) rfl rfl in_X6_grows 0 (by decide) fl_X6_grows_7 rfl dX6_grows_83 ?_
        refine g_iload_n C dX6_grows_86 1 rfl ?_
        refine g_sipush (v := 240) C dX6_grows_87 (by decide) ?_
        refine g_iadd C dX6_grows_90 ?_
        refine g_iconst (v := 0) C dX6_grows_91 (by decide) ?_
        refine g_iadd C dX6_grows_92 ?_
        obtain ⟨b35, h⟩ := gguard h
        refine g_iald C 1 (by decide) rfl (g_in b35) dX6_grows_93 ?_
        obtain ⟨x5, ex5, h⟩ := gl h
        refine g_istore C dX6_grows_94 (by decide) [(5, .int x5), (0, .ref (ad 0)), (1, .int v1), (2, .int v2), (3, .int v3), (4, .int v4)] (by rw [ex5]; rfl) ?_
        refine g_iload_n C dX6_grows_96 4 rfl ?_
        refine g_iload C dX6_grows_97 0 rfl ?_
        refine g_iadd C dX6_grows_99 ?_
        refine g_aload_n C dX6_grows_100 1 rfl ?_
        refine g_iload_n C dX6_grows_101 2 rfl ?_
        obtain ⟨r6, er6, h⟩ := gb1 h
        refine g_callWi (rest := [.int (v3 + x5)]) C gX6_grows_X6_free rfl ok_X6_free ⟨by decide, by decide⟩ ⟨rfl, rfl⟩ 0 (by decide) rfl rfl (fun hI => cn_X6_free X.2.1 Z ad hI s t g v1 er6) rfl dX6_grows_102 rfl (Nat.le_of_ble_eq_true rfl) ?_
        refine g_icmp_ge (tgt := 115) C dX6_grows_105 (by decide) (fun c7 => ?_) (fun c7 => ?_)
        · replace h := gi_pos c7 h
          refine g_aload_n C dX6_grows_115 1 rfl ?_
          refine g_iload_n C dX6_grows_116 2 rfl ?_
          obtain ⟨r8, er8, h⟩ := gb1 h
          refine g_callWi (rest := []) C gX6_grows_X6_free rfl ok_X6_free ⟨by decide, by decide⟩ ⟨rfl, rfl⟩ 0 (by decide) rfl rfl (fun hI => cn_X6_free X.2.1 Z ad hI s t g v1 er8) rfl dX6_grows_117 rfl (Nat.le_of_ble_eq_true rfl) ?_
          refine g_istore C dX6_grows_120 (by decide) [(6, .int r8), (5, .int x5), (0, .ref (ad 0)), (1, .int v1), (2, .int v2), (3, .int v3), (4, .int v4)] rfl ?_
          refine g_iconst (v := 0) C dX6_grows_122 (by decide) ?_
          refine g_istore C dX6_grows_123 (by decide) [(7, .int 0), (6, .int r8), (5, .int x5), (0, .ref (ad 0)), (1, .int v1), (2, .int v2), (3, .int v3), (4, .int v4)] rfl ?_
          refine g_aload_n C dX6_grows_125 3 rfl ?_
          refine g_getf (v := .ref (ad 1)) C 0 (by decide) rfl rfl in_X6_grows 0 (by decide) fl_X6_grows_7 rfl dX6_grows_126 ?_
          refine g_iload C dX6_grows_129 7 rfl ?_
          refine g_iconst (v := 1) C dX6_grows_131 (by decide) ?_
          refine g_iadd C dX6_grows_132 ?_
          obtain ⟨b27, h⟩ := gguard h
          refine g_iald C 1 (by decide) rfl (g_in b27) dX6_grows_133 ?_
          refine g_if_le (tgt := 166) C dX6_grows_134 (by decide) (fun c9 => ?_) (fun c9 => ?_)
          · replace h := gi_pos c9 h
            exact g_sub [3, 4, 5, 6, 7, 2, 1, 0] rfl (cl_X6_grows_L166 C e v1 v2 v3 v4 x5 r8 gFu 0 s h)
          · replace h := gi_neg c9 h
            refine g_aload_n C dX6_grows_137 3 rfl ?_
            refine g_iload_n C dX6_grows_138 4 rfl ?_
            refine g_iload_n C dX6_grows_139 5 rfl ?_
            refine g_aload_n C dX6_grows_140 3 rfl ?_
            refine g_iload_n C dX6_grows_141 4 rfl ?_
            refine g_iload_n C dX6_grows_142 5 rfl ?_
            refine g_aload_n C dX6_grows_143 3 rfl ?_
            refine g_getf (v := .ref (ad 1)) C 0 (by decide) rfl rfl in_X6_grows 0 (by decide) fl_X6_grows_7 rfl dX6_grows_144 ?_
            refine g_iload C dX6_grows_147 7 rfl ?_
            refine g_iconst (v := 1) C dX6_grows_149 (by decide) ?_
            refine g_iadd C dX6_grows_150 ?_
            obtain ⟨b26, h⟩ := gguard h
            refine g_iald C 1 (by decide) rfl (g_in b26) dX6_grows_151 ?_
            refine g_iconst (v := 1) C dX6_grows_152 (by decide) ?_
            refine g_isub C dX6_grows_153 ?_
            obtain ⟨r23, er23, h⟩ := gb1 h
            refine g_callWi (rest := [.int v2, .int v1, .ref (ad 0)]) C gX6_grows_X6_blockOf rfl ok_X6_blockOf ⟨by decide, by decide⟩ ⟨rfl, rfl⟩ 0 (by decide) rfl rfl (fun hI => cn_X6_blockOf X.2.1 Z ad hI s t g v1 v2 ((s ((v4 + 1)).toNatClampNeg) - 1) er23) rfl dX6_grows_154 rfl (Nat.le_of_ble_eq_true rfl) ?_
            refine g_iconst (v := 1) C dX6_grows_157 (by decide) ?_
            refine g_iadd C dX6_grows_158 ?_
            refine g_iload C dX6_grows_159 1 rfl ?_
            obtain ⟨r24, s25, er24, h⟩ := gb2 h
            refine g_callWi (rest := []) C gX6_grows_X6_adds rfl ok_X6_adds ⟨by decide, by decide⟩ ⟨rfl, rfl⟩ 0 (by decide) rfl rfl (fun hI => cn_X6_adds X.2.1 Z ad hI s t g v1 v2 (r23 + 1) r8 er24) rfl dX6_grows_161 rfl (Nat.le_of_ble_eq_true rfl) ?_
            refine g_istore C dX6_grows_164 (by decide) [(7, .int r24), (6, .int r8), (5, .int x5), (0, .ref (ad 0)), (1, .int v1), (2, .int v2), (3, .int v3), (4, .int v4)] rfl ?_
            exact g_sub [3, 4, 5, 6, 7, 2, 1, 0] rfl (cl_X6_grows_L166 C e v1 v2 v3 v4 x5 r8 gFu r24 s25 h)
        · replace h := gi_neg c7 h
          refine g_iload_n C dX6_grows_108 4 rfl ?_
          refine g_iload C dX6_grows_109 0 rfl ?_
          refine g_iadd C dX6_grows_111 ?_
          refine g_goto (tgt := 120) C dX6_grows_112 (by decide) ?_
          obtain ⟨x28, ex28, h⟩ := gl h
          refine g_istore C dX6_grows_120 (by decide) [(6, .int x28), (5, .int x5), (0, .ref (ad 0)), (1, .int v1), (2, .int v2), (3, .int v3), (4, .int v4)] (by rw [ex28]; rfl) ?_
          refine g_iconst (v := 0) C dX6_grows_122 (by decide) ?_
          refine g_istore C dX6_grows_123 (by decide) [(7, .int 0), (6, .int x28), (5, .int x5), (0, .ref (ad 0)), (1, .int v1), (2, .int v2), (3, .int v3), (4, .int v4)] rfl ?_
          refine g_aload_n C dX6_grows_125 3 rfl ?_
          refine g_getf (v := .ref (ad 1)) C 0 (by decide) rfl rfl in_X6_grows 0 (by decide) fl_X6_grows_7 rfl dX6_grows_126 ?_
          refine g_iload C dX6_grows_129 7 rfl ?_
          refine g_iconst (v := 1) C dX6_grows_131 (by decide) ?_
          refine g_iadd C dX6_grows_132 ?_
          obtain ⟨b34, h⟩ := gguard h
          refine g_iald C 1 (by decide) rfl (g_in b34) dX6_grows_133 ?_
          refine g_if_le (tgt := 166) C dX6_grows_134 (by decide) (fun c29 => ?_) (fun c29 => ?_)
          · replace h := gi_pos c29 h
            exact g_sub [3, 4, 5, 6, 7, 2, 1, 0] rfl (cl_X6_grows_L166 C e v1 v2 v3 v4 x5 x28 gFu 0 s h)
          · replace h := gi_neg c29 h
            refine g_aload_n C dX6_grows_137 3 rfl ?_
            refine g_iload_n C dX6_grows_138 4 rfl ?_
            refine g_iload_n C dX6_grows_139 5 rfl ?_
            refine g_aload_n C dX6_grows_140 3 rfl ?_
            refine g_iload_n C dX6_grows_141 4 rfl ?_
            refine g_iload_n C dX6_grows_142 5 rfl ?_
            refine g_aload_n C dX6_grows_143 3 rfl ?_
            refine g_getf (v := .ref (ad 1)) C 0 (by decide) rfl rfl in_X6_grows 0 (by decide) fl_X6_grows_7 rfl dX6_grows_144 ?_
            refine g_iload C dX6_grows_147 7 rfl ?_
            refine g_iconst (v := 1) C dX6_grows_149 (by decide) ?_
            refine g_iadd C dX6_grows_150 ?_
            obtain ⟨b33, h⟩ := gguard h
            refine g_iald C 1 (by decide) rfl (g_in b33) dX6_grows_151 ?_
            refine g_iconst (v := 1) C dX6_grows_152 (by decide) ?_
            refine g_isub C dX6_grows_153 ?_
            obtain ⟨r30, er30, h⟩ := gb1 h
            refine g_callWi (rest := [.int v2, .int v1, .ref (ad 0)]) C gX6_grows_X6_blockOf rfl ok_X6_blockOf ⟨by decide, by decide⟩ ⟨rfl, rfl⟩ 0 (by decide) rfl rfl (fun hI => cn_X6_blockOf X.2.1 Z ad hI s t g v1 v2 ((s ((v4 + 1)).toNatClampNeg) - 1) er30) rfl dX6_grows_154 rfl (Nat.le_of_ble_eq_true rfl) ?_
            refine g_iconst (v := 1) C dX6_grows_157 (by decide) ?_
            refine g_iadd C dX6_grows_158 ?_
            refine g_iload C dX6_grows_159 1 rfl ?_
            obtain ⟨r31, s32, er31, h⟩ := gb2 h
            refine g_callWi (rest := []) C gX6_grows_X6_adds rfl ok_X6_adds ⟨by decide, by decide⟩ ⟨rfl, rfl⟩ 0 (by decide) rfl rfl (fun hI => cn_X6_adds X.2.1 Z ad hI s t g v1 v2 (r30 + 1) x28 er31) rfl dX6_grows_161 rfl (Nat.le_of_ble_eq_true rfl) ?_
            refine g_istore C dX6_grows_164 (by decide) [(7, .int r31), (6, .int x28), (5, .int x5), (0, .ref (ad 0)), (1, .int v1), (2, .int v2), (3, .int v3), (4, .int v4)] rfl ?_
            exact g_sub [3, 4, 5, 6, 7, 2, 1, 0] rfl (cl_X6_grows_L166 C e v1 v2 v3 v4 x5 x28 gFu r31 s32 h)
      · replace h := gi_neg c4 h
        refine g_aload_n C dX6_grows_70 0 rfl ?_
        refine g_getf (v := .ref (ad 1)) C 0 (by decide) rfl rfl in_X6_grows 0 (by decide) fl_X6_grows_7 rfl dX6_grows_71 ?_
        refine g_iload C dX6_grows_74 4 rfl ?_
        refine g_iconst (v := 5) C dX6_grows_76 (by decide) ?_
        refine g_iadd C dX6_grows_77 ?_
        obtain ⟨b53, h⟩ := gguard h
        refine g_iald C 1 (by decide) rfl (g_in b53) dX6_grows_78 ?_
        refine g_goto (tgt := 94) C dX6_grows_79 (by decide) ?_
        obtain ⟨x36, ex36, h⟩ := gl h
        refine g_istore C dX6_grows_94 (by decide) [(5, .int x36), (0, .ref (ad 0)), (1, .int v1), (2, .int v2), (3, .int v3), (4, .int v4)] (by rw [ex36]; rfl) ?_
        refine g_iload_n C dX6_grows_96 4 rfl ?_
        refine g_iload C dX6_grows_97 0 rfl ?_
        refine g_iadd C dX6_grows_99 ?_
        refine g_aload_n C dX6_grows_100 1 rfl ?_
        refine g_iload_n C dX6_grows_101 2 rfl ?_
        obtain ⟨r37, er37, h⟩ := gb1 h
        refine g_callWi (rest := [.int (v3 + x36)]) C gX6_grows_X6_free rfl ok_X6_free ⟨by decide, by decide⟩ ⟨rfl, rfl⟩ 0 (by decide) rfl rfl (fun hI => cn_X6_free X.2.1 Z ad hI s t g v1 er37) rfl dX6_grows_102 rfl (Nat.le_of_ble_eq_true rfl) ?_
        refine g_icmp_ge (tgt := 115) C dX6_grows_105 (by decide) (fun c38 => ?_) (fun c38 => ?_)
        · replace h := gi_pos c38 h
          refine g_aload_n C dX6_grows_115 1 rfl ?_
          refine g_iload_n C dX6_grows_116 2 rfl ?_
          obtain ⟨r39, er39, h⟩ := gb1 h
          refine g_callWi (rest := []) C gX6_grows_X6_free rfl ok_X6_free ⟨by decide, by decide⟩ ⟨rfl, rfl⟩ 0 (by decide) rfl rfl (fun hI => cn_X6_free X.2.1 Z ad hI s t g v1 er39) rfl dX6_grows_117 rfl (Nat.le_of_ble_eq_true rfl) ?_
          refine g_istore C dX6_grows_120 (by decide) [(6, .int r39), (5, .int x36), (0, .ref (ad 0)), (1, .int v1), (2, .int v2), (3, .int v3), (4, .int v4)] rfl ?_
          refine g_iconst (v := 0) C dX6_grows_122 (by decide) ?_
          refine g_istore C dX6_grows_123 (by decide) [(7, .int 0), (6, .int r39), (5, .int x36), (0, .ref (ad 0)), (1, .int v1), (2, .int v2), (3, .int v3), (4, .int v4)] rfl ?_
          refine g_aload_n C dX6_grows_125 3 rfl ?_
          refine g_getf (v := .ref (ad 1)) C 0 (by decide) rfl rfl in_X6_grows 0 (by decide) fl_X6_grows_7 rfl dX6_grows_126 ?_
          refine g_iload C dX6_grows_129 7 rfl ?_
          refine g_iconst (v := 1) C dX6_grows_131 (by decide) ?_
          refine g_iadd C dX6_grows_132 ?_
          obtain ⟨b45, h⟩ := gguard h
          refine g_iald C 1 (by decide) rfl (g_in b45) dX6_grows_133 ?_
          refine g_if_le (tgt := 166) C dX6_grows_134 (by decide) (fun c40 => ?_) (fun c40 => ?_)
          · replace h := gi_pos c40 h
            exact g_sub [3, 4, 5, 6, 7, 2, 1, 0] rfl (cl_X6_grows_L166 C e v1 v2 v3 v4 x36 r39 gFu 0 s h)
          · replace h := gi_neg c40 h
            refine g_aload_n C dX6_grows_137 3 rfl ?_
            refine g_iload_n C dX6_grows_138 4 rfl ?_
            refine g_iload_n C dX6_grows_139 5 rfl ?_
            refine g_aload_n C dX6_grows_140 3 rfl ?_
            refine g_iload_n C dX6_grows_141 4 rfl ?_
            refine g_iload_n C dX6_grows_142 5 rfl ?_
            refine g_aload_n C dX6_grows_143 3 rfl ?_
            refine g_getf (v := .ref (ad 1)) C 0 (by decide) rfl rfl in_X6_grows 0 (by decide) fl_X6_grows_7 rfl dX6_grows_144 ?_
            refine g_iload C dX6_grows_147 7 rfl ?_
            refine g_iconst (v := 1) C dX6_grows_149 (by decide) ?_
            refine g_iadd C dX6_grows_150 ?_
            obtain ⟨b44, h⟩ := gguard h
            refine g_iald C 1 (by decide) rfl (g_in b44) dX6_grows_151 ?_
            refine g_iconst (v := 1) C dX6_grows_152 (by decide) ?_
            refine g_isub C dX6_grows_153 ?_
            obtain ⟨r41, er41, h⟩ := gb1 h
            refine g_callWi (rest := [.int v2, .int v1, .ref (ad 0)]) C gX6_grows_X6_blockOf rfl ok_X6_blockOf ⟨by decide, by decide⟩ ⟨rfl, rfl⟩ 0 (by decide) rfl rfl (fun hI => cn_X6_blockOf X.2.1 Z ad hI s t g v1 v2 ((s ((v4 + 1)).toNatClampNeg) - 1) er41) rfl dX6_grows_154 rfl (Nat.le_of_ble_eq_true rfl) ?_
            refine g_iconst (v := 1) C dX6_grows_157 (by decide) ?_
            refine g_iadd C dX6_grows_158 ?_
            refine g_iload C dX6_grows_159 1 rfl ?_
            obtain ⟨r42, s43, er42, h⟩ := gb2 h
            refine g_callWi (rest := []) C gX6_grows_X6_adds rfl ok_X6_adds ⟨by decide, by decide⟩ ⟨rfl, rfl⟩ 0 (by decide) rfl rfl (fun hI => cn_X6_adds X.2.1 Z ad hI s t g v1 v2 (r41 + 1) r39 er42) rfl dX6_grows_161 rfl (Nat.le_of_ble_eq_true rfl) ?_
            refine g_istore C dX6_grows_164 (by decide) [(7, .int r42), (6, .int r39), (5, .int x36), (0, .ref (ad 0)), (1, .int v1), (2, .int v2), (3, .int v3), (4, .int v4)] rfl ?_
            exact g_sub [3, 4, 5, 6, 7, 2, 1, 0] rfl (cl_X6_grows_L166 C e v1 v2 v3 v4 x36 r39 gFu r42 s43 h)
        · replace h := gi_neg c38 h
          refine g_iload_n C dX6_grows_108 4 rfl ?_
          refine g_iload C dX6_grows_109 0 rfl ?_
          refine g_iadd C dX6_grows_111 ?_
          refine g_goto (tgt := 120) C dX6_grows_112 (by decide) ?_
          obtain ⟨x46, ex46, h⟩ := gl h
          refine g_istore C dX6_grows_120 (by decide) [(6, .int x46), (5, .int x36), (0, .ref (ad 0)), (1, .int v1), (2, .int v2), (3, .int v3), (4, .int v4)] (by rw [ex46]; rfl) ?_
          refine g_iconst (v := 0) C dX6_grows_122 (by decide) ?_
          refine g_istore C dX6_grows_123 (by decide) [(7, .int 0), (6, .int x46), (5, .int x36), (0, .ref (ad 0)), (1, .int v1), (2, .int v2), (3, .int v3), (4, .int v4)] rfl ?_
          refine g_aload_n C dX6_grows_125 3 rfl ?_
          refine g_getf (v := .ref (ad 1)) C 0 (by decide) rfl rfl in_X6_grows 0 (by decide) fl_X6_grows_7 rfl dX6_grows_126 ?_
          refine g_iload C dX6_grows_129 7 rfl ?_
          refine g_iconst (v := 1) C dX6_grows_131 (by decide) ?_
          refine g_iadd C dX6_grows_132 ?_
          obtain ⟨b52, h⟩ := gguard h
          refine g_iald C 1 (by decide) rfl (g_in b52) dX6_grows_133 ?_
          refine g_if_le (tgt := 166) C dX6_grows_134 (by decide) (fun c47 => ?_) (fun c47 => ?_)
          · replace h := gi_pos c47 h
            exact g_sub [3, 4, 5, 6, 7, 2, 1, 0] rfl (cl_X6_grows_L166 C e v1 v2 v3 v4 x36 x46 gFu 0 s h)
          · replace h := gi_neg c47 h
            refine g_aload_n C dX6_grows_137 3 rfl ?_
            refine g_iload_n C dX6_grows_138 4 rfl ?_
            refine g_iload_n C dX6_grows_139 5 rfl ?_
            refine g_aload_n C dX6_grows_140 3 rfl ?_
            refine g_iload_n C dX6_grows_141 4 rfl ?_
            refine g_iload_n C dX6_grows_142 5 rfl ?_
            refine g_aload_n C dX6_grows_143 3 rfl ?_
            refine g_getf (v := .ref (ad 1)) C 0 (by decide) rfl rfl in_X6_grows 0 (by decide) fl_X6_grows_7 rfl dX6_grows_144 ?_
            refine g_iload C dX6_grows_147 7 rfl ?_
            refine g_iconst (v := 1) C dX6_grows_149 (by decide) ?_
            refine g_iadd C dX6_grows_150 ?_
            obtain ⟨b51, h⟩ := gguard h
            refine g_iald C 1 (by decide) rfl (g_in b51) dX6_grows_151 ?_
            refine g_iconst (v := 1) C dX6_grows_152 (by decide) ?_
            refine g_isub C dX6_grows_153 ?_
            obtain ⟨r48, er48, h⟩ := gb1 h
            refine g_callWi (rest := [.int v2, .int v1, .ref (ad 0)]) C gX6_grows_X6_blockOf rfl ok_X6_blockOf ⟨by decide, by decide⟩ ⟨rfl, rfl⟩ 0 (by decide) rfl rfl (fun hI => cn_X6_blockOf X.2.1 Z ad hI s t g v1 v2 ((s ((v4 + 1)).toNatClampNeg) - 1) er48) rfl dX6_grows_154 rfl (Nat.le_of_ble_eq_true rfl) ?_
            refine g_iconst (v := 1) C dX6_grows_157 (by decide) ?_
            refine g_iadd C dX6_grows_158 ?_
            refine g_iload C dX6_grows_159 1 rfl ?_
            obtain ⟨r49, s50, er49, h⟩ := gb2 h
            refine g_callWi (rest := []) C gX6_grows_X6_adds rfl ok_X6_adds ⟨by decide, by decide⟩ ⟨rfl, rfl⟩ 0 (by decide) rfl rfl (fun hI => cn_X6_adds X.2.1 Z ad hI s t g v1 v2 (r48 + 1) x46 er49) rfl dX6_grows_161 rfl (Nat.le_of_ble_eq_true rfl) ?_
            refine g_istore C dX6_grows_164 (by decide) [(7, .int r49), (6, .int x46), (5, .int x36), (0, .ref (ad 0)), (1, .int v1), (2, .int v2), (3, .int v3), (4, .int v4)] rfl ?_
            exact g_sub [3, 4, 5, 6, 7, 2, 1, 0] rfl (cl_X6_grows_L166 C e v1 v2 v3 v4 x36 x46 gFu r49 s50 h)
    · replace h := gi_neg c3 h
      refine g_aload_n C dX6_grows_16 0 rfl ?_
      refine g_iload_n C dX6_grows_17 1 rfl ?_
      refine g_aload_n C dX6_grows_18 0 rfl ?_
      refine g_iload_n C dX6_grows_19 1 rfl ?_
      refine g_iload_n C dX6_grows_20 2 rfl ?_
      obtain ⟨r56, er56, h⟩ := gb1 h
      refine g_callWi (rest := [.int v1, .ref (ad 0)]) C gX6_grows_X6_giver rfl ok_X6_giver ⟨by decide, by decide⟩ ⟨rfl, rfl⟩ 0 (by decide) rfl rfl (fun hI => cn_X6_giver X.2.1 Z ad hI s t g v1 v2 er56) rfl dX6_grows_21 rfl (Nat.le_of_ble_eq_true rfl) ?_
      obtain ⟨r57, s58, er57, h⟩ := gb2 h
      refine g_callWi (rest := []) C gX6_grows_X6_givesBack rfl ok_X6_givesBack ⟨by decide, by decide⟩ ⟨rfl, rfl⟩ 0 (by decide) rfl rfl (fun hI => cn_X6_givesBack X.2.1 Z ad hI s t g v1 r56 er57) rfl dX6_grows_24 rfl (Nat.le_of_ble_eq_true rfl) ?_
      refine g_istore C dX6_grows_27 (by decide) [(5, .int r57), (0, .ref (ad 0)), (1, .int v1), (2, .int v2), (3, .int v3), (4, .int v4)] rfl ?_
      refine g_aload_n C dX6_grows_29 1 rfl ?_
      refine g_getf (v := .ref (ad 1)) C 0 (by decide) rfl rfl in_X6_grows 0 (by decide) fl_X6_grows_7 rfl dX6_grows_30 ?_
      refine g_iload_n C dX6_grows_33 2 rfl ?_
      refine g_sipush (v := 244) C dX6_grows_34 (by decide) ?_
      refine g_iadd C dX6_grows_37 ?_
      refine g_dup2 C dX6_grows_38 rfl rfl ?_
      obtain ⟨b61, h⟩ := gguard h
      refine g_iald C 1 (by decide) rfl (g_in b61) dX6_grows_39 ?_
      refine g_iconst (v := 1) C dX6_grows_40 (by decide) ?_
      refine g_iadd C dX6_grows_41 ?_
      obtain ⟨b59, h⟩ := gguard h
      obtain ⟨s60, es60, h⟩ := gl h
      refine g_iast C 1 (by decide) rfl (g_in b59) dX6_grows_42 (mdlE Z.2.1 ad s60 t g) (by rw [es60]; exact mdlE_s) ?_
      refine g_goto (tgt := 7) C dX6_grows_43 (by decide) ?_
      exact g_sub [1, 2, 3, 4, 5] rfl (ih s60 h)
set_option maxHeartbeats 4000000 in
set_option maxRecDepth 100000 in
theorem cn_X6_grows (l : Launch) (Z : gZ) (ad : Nat → Nat) (hI : gInj 3 ad) (s : Nat → Int32) (t : Nat → Int32) (g : Nat → Int32) (v1 : Int32) (v2 : Int32) (v3 : Int32) {s' : Nat → Int32} (h : f_X6_grows s t g v1 v2 v3 = some s') : gV l yX6_grows wsX6_grows rm_X6_grows Z 3 ad [.ref (ad 0), .int v1, .int v2, .int v3] (mdlE Z.2.1 ad s t g) (mdlE Z.2.1 ad s' t g) := by
  refine g_entryV (cc := cX6_grows) (maxL := 8) (by decide +kernel) rfl hI (Nat.le_of_ble_eq_true rfl) (fun X C e => ?_)
  unfold f_X6_grows at h
  show GG X Z 8 3 ad (mdlE Z.2.1 ad s t g) 0 [(0, .ref (ad 0)), (1, .int v1), (2, .int v2), (3, .int v3)] []
  refine g_iload_n C dX6_grows_0 1 rfl ?_
  refine g_iload_n C dX6_grows_1 2 rfl ?_
  obtain ⟨r1, er1, h⟩ := gb1 h
  refine g_callSi (rest := []) C gX6_grows_X6_at rfl ok_X6_at ⟨by decide, by decide⟩ ⟨rfl, rfl⟩ (cn_X6_at X.2.1 Z v1 v2 er1) rfl dX6_grows_2 rfl (Nat.le_of_ble_eq_true rfl) ?_
  refine g_istore C dX6_grows_5 (by decide) [(4, .int r1), (0, .ref (ad 0)), (1, .int v1), (2, .int v2), (3, .int v3)] rfl ?_
  exact g_sub [1, 2, 3, 4, 0] rfl (cl_X6_grows_L7 C e v1 v2 v3 r1 gFu s h)
abbrev rm_X6_canAppend : Room := ({ frames := 3, cells := 0, slots := 0, locals := 67 } : Room)
def f_X6_canAppend (s : Nat → Int32) (t : Nat → Int32) (g : Nat → Int32) (v1 : Int32) (v2 : Int32) : Option Int32 := gb (f_X6_sumOfLent s t g 0) (fun r1 => gb (f_X6_free s t g 0) (fun r2 => if (r1 + r2) < v2 then some 0 else some 1))
set_option maxHeartbeats 4000000 in
set_option maxRecDepth 100000 in
theorem cn_X6_canAppend (l : Launch) (Z : gZ) (ad : Nat → Nat) (hI : gInj 3 ad) (s : Nat → Int32) (t : Nat → Int32) (g : Nat → Int32) (v1 : Int32) (v2 : Int32) {r : Int32} (h : f_X6_canAppend s t g v1 v2 = some r) : gI l yX6_canAppend wsX6_canAppend rm_X6_canAppend Z 3 ad [.ref (ad 0), .int v1, .int v2] (mdlE Z.2.1 ad s t g) r (mdlE Z.2.1 ad s t g) := by
  refine g_entryI (cc := cX6_canAppend) (maxL := 3) (by decide +kernel) rfl hI (Nat.le_of_ble_eq_true rfl) (fun X C e => ?_)
  unfold f_X6_canAppend at h
  show GG X Z 3 3 ad (mdlE Z.2.1 ad s t g) 0 [(0, .ref (ad 0)), (1, .int v1), (2, .int v2)] []
  refine g_iload_n C dX6_canAppend_0 2 rfl ?_
  refine g_aload_n C dX6_canAppend_1 0 rfl ?_
  refine g_iconst (v := 0) C dX6_canAppend_2 (by decide) ?_
  obtain ⟨r1, er1, h⟩ := gb1 h
  refine g_callWi (rest := [.int v2]) C gX6_canAppend_X6_sumOfLent rfl ok_X6_sumOfLent ⟨by decide, by decide⟩ ⟨rfl, rfl⟩ 0 (by decide) rfl rfl (fun hI => cn_X6_sumOfLent X.2.1 Z ad hI s t g 0 er1) rfl dX6_canAppend_3 rfl (Nat.le_of_ble_eq_true rfl) ?_
  refine g_aload_n C dX6_canAppend_6 0 rfl ?_
  refine g_iconst (v := 0) C dX6_canAppend_7 (by decide) ?_
  obtain ⟨r2, er2, h⟩ := gb1 h
  refine g_callWi (rest := [.int r1, .int v2]) C gX6_canAppend_X6_free rfl ok_X6_free ⟨by decide, by decide⟩ ⟨rfl, rfl⟩ 0 (by decide) rfl rfl (fun hI => cn_X6_free X.2.1 Z ad hI s t g 0 er2) rfl dX6_canAppend_8 rfl (Nat.le_of_ble_eq_true rfl) ?_
  refine g_iadd C dX6_canAppend_11 ?_
  refine g_icmp_gt (tgt := 19) C dX6_canAppend_12 (by decide) (fun c3 => ?_) (fun c3 => ?_)
  · replace h := gi_pos c3 h
    refine g_iconst (v := 0) C dX6_canAppend_19 (by decide) ?_
    obtain rfl := gs1 h
    exact g_zret C e rfl dX6_canAppend_20
  · replace h := gi_neg c3 h
    refine g_iconst (v := 1) C dX6_canAppend_15 (by decide) ?_
    refine g_goto (tgt := 20) C dX6_canAppend_16 (by decide) ?_
    obtain rfl := gs1 h
    exact g_zret C e rfl dX6_canAppend_20
abbrev rm_X6_appends : Room := ({ frames := 4, cells := 0, slots := 0, locals := 99 } : Room)
def f_X6_appends_L34 (t : Nat → Int32) (g : Nat → Int32) (v1 : Int32) (v2 : Int32) (v3 : Int32) (v4 : Int32) (v5 : Int32) : Nat → Int32 → (Nat → Int32) → Option (Int32 × (Nat → Int32))
  | 0, _, _ => none
  | fu + 1, v6, s => if v3 ≤ v6 then if 0 ≤ (v1 + 242) ∧ ((v1 + 242)).toNatClampNeg < 1968 then if 0 ≤ (v1 + 242) ∧ ((v1 + 242)).toNatClampNeg < 1968 then glet (upd s ((v1 + 242)).toNatClampNeg ((s ((v1 + 242)).toNatClampNeg) + v3)) (fun s6 => gb (f_X6_extents s6 t g v1 v2) (fun r7 => some (r7, s6))) else none else none else if 0 ≤ (v5 + 2) ∧ ((v5 + 2)).toNatClampNeg < 1968 then gb (f_X6_blockOf s t g v1 v2 (s ((v5 + 2)).toNatClampNeg)) (fun r9 => if 0 ≤ (v1 + r9) ∧ ((v1 + r9)).toNatClampNeg < 1968 then glet (upd s ((v1 + r9)).toNatClampNeg v4) (fun s11 => if 0 ≤ (v5 + 2) ∧ ((v5 + 2)).toNatClampNeg < 1968 then if 0 ≤ (v5 + 2) ∧ ((v5 + 2)).toNatClampNeg < 1968 then glet (upd s11 ((v5 + 2)).toNatClampNeg ((s11 ((v5 + 2)).toNatClampNeg) + 1)) (fun s13 => glet (v6 + 1) (fun x14 => f_X6_appends_L34 t g v1 v2 v3 v4 v5 fu x14 s13)) else none else none) else none) else none
def f_X6_appends (s : Nat → Int32) (t : Nat → Int32) (g : Nat → Int32) (v1 : Int32) (v2 : Int32) (v3 : Int32) (v4 : Int32) : Option (Int32 × (Nat → Int32)) := gb (f_X6_at v1 v2) (fun r1 => gb (f_X6_lent s t g v1 v2) (fun r2 => if v3 ≤ r2 then f_X6_appends_L34 t g v1 v2 v3 v4 r1 gFu 0 s else gb (f_X6_lent s t g v1 v2) (fun r17 => gb (f_X6_grows s t g v1 v2 (v3 - r17)) (fun s18 => f_X6_appends_L34 t g v1 v2 v3 v4 r1 gFu 0 s18))))
set_option maxRecDepth 20000 in
theorem in_X6_appends : ∀ w ∈ wsX60, w ∈ wsX6_appends := by decide +kernel
set_option maxRecDepth 20000 in
theorem fl_X6_appends_7 : Cond.fieldLink RX6 7 (TX6 0).1 (TX6 0).2.1 (TX6 0).2.2.1 ∈ wsX6_appends := by decide +kernel
set_option maxHeartbeats 4000000 in
set_option maxRecDepth 100000 in
theorem cl_X6_appends_L34 {X : gX} {Z : gZ} {ad : Nat → Nat} {t : Nat → Int32} {g : Nat → Int32} {r : Int32} {s' : Nat → Int32} (C : GC X Z cX6_appends 7 wsX6_appends RX6 rm_X6_appends 3 ad) (e : gEI X Z 3 ad .int r (mdlE Z.2.1 ad s' t g)) (v1 : Int32) (v2 : Int32) (v3 : Int32) (v4 : Int32) (v5 : Int32) : ∀ (fu : Nat) (v6 : Int32) (s : Nat → Int32) (h : f_X6_appends_L34 t g v1 v2 v3 v4 v5 fu v6 s = some (r, s')), GG X Z 7 3 ad (mdlE Z.2.1 ad s t g) 34 [(0, .ref (ad 0)), (1, .int v1), (2, .int v2), (3, .int v3), (4, .int v4), (5, .int v5), (6, .int v6)] [] := by
  intro fu
  induction fu with
  | zero => intro v6 s h; cases h
  | succ fu ih =>
    intro v6 s h
    rw [f_X6_appends_L34] at h
    refine g_iload C dX6_appends_34 6 rfl ?_
    refine g_iload_n C dX6_appends_36 3 rfl ?_
    refine g_icmp_ge (tgt := 83) C dX6_appends_37 (by decide) (fun c4 => ?_) (fun c4 => ?_)
    · replace h := gi_pos c4 h
      refine g_aload_n C dX6_appends_83 0 rfl ?_
      refine g_getf (v := .ref (ad 1)) C 0 (by decide) rfl rfl in_X6_appends 0 (by decide) fl_X6_appends_7 rfl dX6_appends_84 ?_
      refine g_iload_n C dX6_appends_87 1 rfl ?_
      refine g_sipush (v := 242) C dX6_appends_88 (by decide) ?_
      refine g_iadd C dX6_appends_91 ?_
      refine g_dup2 C dX6_appends_92 rfl rfl ?_
      obtain ⟨b8, h⟩ := gguard h
      refine g_iald C 1 (by decide) rfl (g_in b8) dX6_appends_93 ?_
      refine g_iload_n C dX6_appends_94 3 rfl ?_
      refine g_iadd C dX6_appends_95 ?_
      obtain ⟨b5, h⟩ := gguard h
      obtain ⟨s6, es6, h⟩ := gl h
      refine g_iast C 1 (by decide) rfl (g_in b5) dX6_appends_96 (mdlE Z.2.1 ad s6 t g) (by rw [es6]; exact mdlE_s) ?_
      refine g_aload_n C dX6_appends_97 0 rfl ?_
      refine g_iload_n C dX6_appends_98 1 rfl ?_
      refine g_iload_n C dX6_appends_99 2 rfl ?_
      obtain ⟨r7, er7, h⟩ := gb1 h
      refine g_callWi (rest := []) C gX6_appends_X6_extents rfl ok_X6_extents ⟨by decide, by decide⟩ ⟨rfl, rfl⟩ 0 (by decide) rfl rfl (fun hI => cn_X6_extents X.2.1 Z ad hI s6 t g v1 v2 er7) rfl dX6_appends_100 rfl (Nat.le_of_ble_eq_true rfl) ?_
      obtain ⟨rfl, rfl⟩ := gs2 h
      exact g_iret C e dX6_appends_103
    · replace h := gi_neg c4 h
      refine g_aload_n C dX6_appends_40 0 rfl ?_
      refine g_getf (v := .ref (ad 1)) C 0 (by decide) rfl rfl in_X6_appends 0 (by decide) fl_X6_appends_7 rfl dX6_appends_41 ?_
      refine g_iload_n C dX6_appends_44 1 rfl ?_
      refine g_aload_n C dX6_appends_45 0 rfl ?_
      refine g_iload_n C dX6_appends_46 1 rfl ?_
      refine g_iload_n C dX6_appends_47 2 rfl ?_
      refine g_aload_n C dX6_appends_48 0 rfl ?_
      refine g_getf (v := .ref (ad 1)) C 0 (by decide) rfl rfl in_X6_appends 0 (by decide) fl_X6_appends_7 rfl dX6_appends_49 ?_
      refine g_iload C dX6_appends_52 5 rfl ?_
      refine g_iconst (v := 2) C dX6_appends_54 (by decide) ?_
      refine g_iadd C dX6_appends_55 ?_
      obtain ⟨b16, h⟩ := gguard h
      refine g_iald C 1 (by decide) rfl (g_in b16) dX6_appends_56 ?_
      obtain ⟨r9, er9, h⟩ := gb1 h
      refine g_callWi (rest := [.int v1, .ref (ad 1)]) C gX6_appends_X6_blockOf rfl ok_X6_blockOf ⟨by decide, by decide⟩ ⟨rfl, rfl⟩ 0 (by decide) rfl rfl (fun hI => cn_X6_blockOf X.2.1 Z ad hI s t g v1 v2 (s ((v5 + 2)).toNatClampNeg) er9) rfl dX6_appends_57 rfl (Nat.le_of_ble_eq_true rfl) ?_
      refine g_iadd C dX6_appends_60 ?_
      refine g_iload C dX6_appends_61 4 rfl ?_
      obtain ⟨b10, h⟩ := gguard h
      obtain ⟨s11, es11, h⟩ := gl h
      refine g_iast C 1 (by decide) rfl (g_in b10) dX6_appends_63 (mdlE Z.2.1 ad s11 t g) (by rw [es11]; exact mdlE_s) ?_
      refine g_aload_n C dX6_appends_64 0 rfl ?_
      refine g_getf (v := .ref (ad 1)) C 0 (by decide) rfl rfl in_X6_appends 0 (by decide) fl_X6_appends_7 rfl dX6_appends_65 ?_
      refine g_iload C dX6_appends_68 5 rfl ?_
      refine g_iconst (v := 2) C dX6_appends_70 (by decide) ?_
      refine g_iadd C dX6_appends_71 ?_
      refine g_dup2 C dX6_appends_72 rfl rfl ?_
      obtain ⟨b15, h⟩ := gguard h
      refine g_iald C 1 (by decide) rfl (g_in b15) dX6_appends_73 ?_
      refine g_iconst (v := 1) C dX6_appends_74 (by decide) ?_
      refine g_iadd C dX6_appends_75 ?_
      obtain ⟨b12, h⟩ := gguard h
      obtain ⟨s13, es13, h⟩ := gl h
      refine g_iast C 1 (by decide) rfl (g_in b12) dX6_appends_76 (mdlE Z.2.1 ad s13 t g) (by rw [es13]; exact mdlE_s) ?_
      obtain ⟨x14, ex14, h⟩ := gl h
      refine g_iinc (v := x14) C dX6_appends_77 6 rfl (by rw [ex14]; rfl) (by decide) [(6, .int x14), (0, .ref (ad 0)), (1, .int v1), (2, .int v2), (3, .int v3), (4, .int v4), (5, .int v5)] rfl ?_
      refine g_goto (tgt := 34) C dX6_appends_80 (by decide) ?_
      exact g_sub [1, 2, 3, 4, 5, 6, 0] rfl (ih x14 s13 h)
set_option maxHeartbeats 4000000 in
set_option maxRecDepth 100000 in
theorem cn_X6_appends (l : Launch) (Z : gZ) (ad : Nat → Nat) (hI : gInj 3 ad) (s : Nat → Int32) (t : Nat → Int32) (g : Nat → Int32) (v1 : Int32) (v2 : Int32) (v3 : Int32) (v4 : Int32) {r : Int32} {s' : Nat → Int32} (h : f_X6_appends s t g v1 v2 v3 v4 = some (r, s')) : gI l yX6_appends wsX6_appends rm_X6_appends Z 3 ad [.ref (ad 0), .int v1, .int v2, .int v3, .int v4] (mdlE Z.2.1 ad s t g) r (mdlE Z.2.1 ad s' t g) := by
  refine g_entryI (cc := cX6_appends) (maxL := 7) (by decide +kernel) rfl hI (Nat.le_of_ble_eq_true rfl) (fun X C e => ?_)
  unfold f_X6_appends at h
  show GG X Z 7 3 ad (mdlE Z.2.1 ad s t g) 0 [(0, .ref (ad 0)), (1, .int v1), (2, .int v2), (3, .int v3), (4, .int v4)] []
  refine g_iload_n C dX6_appends_0 1 rfl ?_
  refine g_iload_n C dX6_appends_1 2 rfl ?_
  obtain ⟨r1, er1, h⟩ := gb1 h
  refine g_callSi (rest := []) C gX6_appends_X6_at rfl ok_X6_at ⟨by decide, by decide⟩ ⟨rfl, rfl⟩ (cn_X6_at X.2.1 Z v1 v2 er1) rfl dX6_appends_2 rfl (Nat.le_of_ble_eq_true rfl) ?_
  refine g_istore C dX6_appends_5 (by decide) [(5, .int r1), (0, .ref (ad 0)), (1, .int v1), (2, .int v2), (3, .int v3), (4, .int v4)] rfl ?_
  refine g_iload_n C dX6_appends_7 4 rfl ?_
  refine g_aload_n C dX6_appends_8 1 rfl ?_
  refine g_iload_n C dX6_appends_9 2 rfl ?_
  refine g_iload_n C dX6_appends_10 3 rfl ?_
  obtain ⟨r2, er2, h⟩ := gb1 h
  refine g_callWi (rest := [.int v3]) C gX6_appends_X6_lent rfl ok_X6_lent ⟨by decide, by decide⟩ ⟨rfl, rfl⟩ 0 (by decide) rfl rfl (fun hI => cn_X6_lent X.2.1 Z ad hI s t g v1 v2 er2) rfl dX6_appends_11 rfl (Nat.le_of_ble_eq_true rfl) ?_
  refine g_icmp_le (tgt := 31) C dX6_appends_14 (by decide) (fun c3 => ?_) (fun c3 => ?_)
  · replace h := gi_pos c3 h
    refine g_iconst (v := 0) C dX6_appends_31 (by decide) ?_
    refine g_istore C dX6_appends_32 (by decide) [(6, .int 0), (5, .int r1), (0, .ref (ad 0)), (1, .int v1), (2, .int v2), (3, .int v3), (4, .int v4)] rfl ?_
    exact g_sub [2, 3, 4, 5, 6, 1, 0] rfl (cl_X6_appends_L34 C e v1 v2 v3 v4 r1 gFu 0 s h)
  · replace h := gi_neg c3 h
    refine g_aload_n C dX6_appends_17 1 rfl ?_
    refine g_iload_n C dX6_appends_18 2 rfl ?_
    refine g_iload_n C dX6_appends_19 3 rfl ?_
    refine g_iload_n C dX6_appends_20 4 rfl ?_
    refine g_aload_n C dX6_appends_21 1 rfl ?_
    refine g_iload_n C dX6_appends_22 2 rfl ?_
    refine g_iload_n C dX6_appends_23 3 rfl ?_
    obtain ⟨r17, er17, h⟩ := gb1 h
    refine g_callWi (rest := [.int v3, .int v2, .int v1, .ref (ad 0)]) C gX6_appends_X6_lent rfl ok_X6_lent ⟨by decide, by decide⟩ ⟨rfl, rfl⟩ 0 (by decide) rfl rfl (fun hI => cn_X6_lent X.2.1 Z ad hI s t g v1 v2 er17) rfl dX6_appends_24 rfl (Nat.le_of_ble_eq_true rfl) ?_
    refine g_isub C dX6_appends_27 ?_
    obtain ⟨s18, es18, h⟩ := gb1 h
    refine g_callWv (rest := []) C gX6_appends_X6_grows rfl ok_X6_grows ⟨by decide, by decide⟩ ⟨rfl, rfl⟩ 0 (by decide) rfl rfl (fun hI => cn_X6_grows X.2.1 Z ad hI s t g v1 v2 (v3 - r17) es18) rfl dX6_appends_28 rfl (Nat.le_of_ble_eq_true rfl) ?_
    refine g_iconst (v := 0) C dX6_appends_31 (by decide) ?_
    refine g_istore C dX6_appends_32 (by decide) [(6, .int 0), (5, .int r1), (0, .ref (ad 0)), (1, .int v1), (2, .int v2), (3, .int v3), (4, .int v4)] rfl ?_
    exact g_sub [2, 3, 4, 5, 6, 1, 0] rfl (cl_X6_appends_L34 C e v1 v2 v3 v4 r1 gFu 0 s18 h)
abbrev rm_X6_openError : Room := ({ frames := 2, cells := 0, slots := 0, locals := 43 } : Room)
def f_X6_openError (s : Nat → Int32) (t : Nat → Int32) (g : Nat → Int32) (v1 : Int32) : Option Int32 := gb (f_X6_isThere s t g v1) (fun r1 => if r1 = 0 then some (-1) else gb (f_X6_isOpen s t g v1) (fun r3 => if r3 = 0 then some 0 else some (-4)))
set_option maxHeartbeats 4000000 in
set_option maxRecDepth 100000 in
theorem cn_X6_openError (l : Launch) (Z : gZ) (ad : Nat → Nat) (hI : gInj 3 ad) (s : Nat → Int32) (t : Nat → Int32) (g : Nat → Int32) (v1 : Int32) {r : Int32} (h : f_X6_openError s t g v1 = some r) : gI l yX6_openError wsX6_openError rm_X6_openError Z 3 ad [.ref (ad 0), .int v1] (mdlE Z.2.1 ad s t g) r (mdlE Z.2.1 ad s t g) := by
  refine g_entryI (cc := cX6_openError) (maxL := 2) (by decide +kernel) rfl hI (Nat.le_of_ble_eq_true rfl) (fun X C e => ?_)
  unfold f_X6_openError at h
  show GG X Z 2 3 ad (mdlE Z.2.1 ad s t g) 0 [(0, .ref (ad 0)), (1, .int v1)] []
  refine g_aload_n C dX6_openError_0 0 rfl ?_
  refine g_iload_n C dX6_openError_1 1 rfl ?_
  obtain ⟨r1, er1, h⟩ := gb1 h
  refine g_callWi (rest := []) C gX6_openError_X6_isThere rfl ok_X6_isThere ⟨by decide, by decide⟩ ⟨rfl, rfl⟩ 0 (by decide) rfl rfl (fun hI => cn_X6_isThere X.2.1 Z ad hI s t g v1 er1) rfl dX6_openError_2 rfl (Nat.le_of_ble_eq_true rfl) ?_
  refine g_if_ne (tgt := 12) C dX6_openError_5 (by decide) (fun c2 => ?_) (fun c2 => ?_)
  · replace h := gi_neg c2 h
    refine g_aload_n C dX6_openError_12 0 rfl ?_
    refine g_iload_n C dX6_openError_13 1 rfl ?_
    obtain ⟨r3, er3, h⟩ := gb1 h
    refine g_callWi (rest := []) C gX6_openError_X6_isOpen rfl ok_X6_isOpen ⟨by decide, by decide⟩ ⟨rfl, rfl⟩ 0 (by decide) rfl rfl (fun hI => cn_X6_isOpen X.2.1 Z ad hI s t g v1 er3) rfl dX6_openError_14 rfl (Nat.le_of_ble_eq_true rfl) ?_
    refine g_if_eq (tgt := 25) C dX6_openError_17 (by decide) (fun c4 => ?_) (fun c4 => ?_)
    · replace h := gi_pos c4 h
      refine g_iconst (v := 0) C dX6_openError_25 (by decide) ?_
      obtain rfl := gs1 h
      exact g_iret C e dX6_openError_26
    · replace h := gi_neg c4 h
      refine g_bipush (v := (-4)) C dX6_openError_20 (by decide) ?_
      refine g_goto (tgt := 26) C dX6_openError_22 (by decide) ?_
      obtain rfl := gs1 h
      exact g_iret C e dX6_openError_26
  · replace h := gi_pos c2 h
    refine g_iconst (v := (-1)) C dX6_openError_8 (by decide) ?_
    refine g_goto (tgt := 26) C dX6_openError_9 (by decide) ?_
    obtain rfl := gs1 h
    exact g_iret C e dX6_openError_26
abbrev rm_X6_closeError : Room := ({ frames := 2, cells := 0, slots := 0, locals := 43 } : Room)
def f_X6_closeError (s : Nat → Int32) (t : Nat → Int32) (g : Nat → Int32) (v1 : Int32) : Option Int32 := gb (f_X6_isThere s t g v1) (fun r1 => if r1 = 0 then some (-1) else gb (f_X6_isOpen s t g v1) (fun r3 => if r3 = 0 then some (-4) else some 0))
set_option maxHeartbeats 4000000 in
set_option maxRecDepth 100000 in
theorem cn_X6_closeError (l : Launch) (Z : gZ) (ad : Nat → Nat) (hI : gInj 3 ad) (s : Nat → Int32) (t : Nat → Int32) (g : Nat → Int32) (v1 : Int32) {r : Int32} (h : f_X6_closeError s t g v1 = some r) : gI l yX6_closeError wsX6_closeError rm_X6_closeError Z 3 ad [.ref (ad 0), .int v1] (mdlE Z.2.1 ad s t g) r (mdlE Z.2.1 ad s t g) := by
  refine g_entryI (cc := cX6_closeError) (maxL := 2) (by decide +kernel) rfl hI (Nat.le_of_ble_eq_true rfl) (fun X C e => ?_)
  unfold f_X6_closeError at h
  show GG X Z 2 3 ad (mdlE Z.2.1 ad s t g) 0 [(0, .ref (ad 0)), (1, .int v1)] []
  refine g_aload_n C dX6_closeError_0 0 rfl ?_
  refine g_iload_n C dX6_closeError_1 1 rfl ?_
  obtain ⟨r1, er1, h⟩ := gb1 h
  refine g_callWi (rest := []) C gX6_closeError_X6_isThere rfl ok_X6_isThere ⟨by decide, by decide⟩ ⟨rfl, rfl⟩ 0 (by decide) rfl rfl (fun hI => cn_X6_isThere X.2.1 Z ad hI s t g v1 er1) rfl dX6_closeError_2 rfl (Nat.le_of_ble_eq_true rfl) ?_
  refine g_if_ne (tgt := 12) C dX6_closeError_5 (by decide) (fun c2 => ?_) (fun c2 => ?_)
  · replace h := gi_neg c2 h
    refine g_aload_n C dX6_closeError_12 0 rfl ?_
    refine g_iload_n C dX6_closeError_13 1 rfl ?_
    obtain ⟨r3, er3, h⟩ := gb1 h
    refine g_callWi (rest := []) C gX6_closeError_X6_isOpen rfl ok_X6_isOpen ⟨by decide, by decide⟩ ⟨rfl, rfl⟩ 0 (by decide) rfl rfl (fun hI => cn_X6_isOpen X.2.1 Z ad hI s t g v1 er3) rfl dX6_closeError_14 rfl (Nat.le_of_ble_eq_true rfl) ?_
    refine g_if_ne (tgt := 25) C dX6_closeError_17 (by decide) (fun c4 => ?_) (fun c4 => ?_)
    · replace h := gi_neg c4 h
      refine g_iconst (v := 0) C dX6_closeError_25 (by decide) ?_
      obtain rfl := gs1 h
      exact g_iret C e dX6_closeError_26
    · replace h := gi_pos c4 h
      refine g_bipush (v := (-4)) C dX6_closeError_20 (by decide) ?_
      refine g_goto (tgt := 26) C dX6_closeError_22 (by decide) ?_
      obtain rfl := gs1 h
      exact g_iret C e dX6_closeError_26
  · replace h := gi_pos c2 h
    refine g_iconst (v := (-1)) C dX6_closeError_8 (by decide) ?_
    refine g_goto (tgt := 26) C dX6_closeError_9 (by decide) ?_
    obtain rfl := gs1 h
    exact g_iret C e dX6_closeError_26
abbrev rm_X6_appendError : Room := ({ frames := 4, cells := 0, slots := 0, locals := 89 } : Room)
def f_X6_appendError (s : Nat → Int32) (t : Nat → Int32) (g : Nat → Int32) (v1 : Int32) (v2 : Int32) (v3 : Int32) : Option Int32 := gb (f_X6_isThere s t g v1) (fun r1 => if r1 = 0 then some (-1) else gb (f_X6_in v2 1 64) (fun r3 => if r3 = 0 then some (-2) else gb (f_X6_in v3 0 99) (fun r5 => if r5 = 0 then some (-2) else gb (f_X6_isOpen s t g v1) (fun r7 => if r7 = 0 then some (-4) else gb (f_X6_canAppend s t g v1 v2) (fun r9 => if r9 = 0 then some (-4) else some 0)))))
set_option maxHeartbeats 4000000 in
set_option maxRecDepth 100000 in
theorem cn_X6_appendError (l : Launch) (Z : gZ) (ad : Nat → Nat) (hI : gInj 3 ad) (s : Nat → Int32) (t : Nat → Int32) (g : Nat → Int32) (v1 : Int32) (v2 : Int32) (v3 : Int32) {r : Int32} (h : f_X6_appendError s t g v1 v2 v3 = some r) : gI l yX6_appendError wsX6_appendError rm_X6_appendError Z 3 ad [.ref (ad 0), .int v1, .int v2, .int v3] (mdlE Z.2.1 ad s t g) r (mdlE Z.2.1 ad s t g) := by
  refine g_entryI (cc := cX6_appendError) (maxL := 4) (by decide +kernel) rfl hI (Nat.le_of_ble_eq_true rfl) (fun X C e => ?_)
  unfold f_X6_appendError at h
  show GG X Z 4 3 ad (mdlE Z.2.1 ad s t g) 0 [(0, .ref (ad 0)), (1, .int v1), (2, .int v2), (3, .int v3)] []
  refine g_aload_n C dX6_appendError_0 0 rfl ?_
  refine g_iload_n C dX6_appendError_1 1 rfl ?_
  obtain ⟨r1, er1, h⟩ := gb1 h
  refine g_callWi (rest := []) C gX6_appendError_X6_isThere rfl ok_X6_isThere ⟨by decide, by decide⟩ ⟨rfl, rfl⟩ 0 (by decide) rfl rfl (fun hI => cn_X6_isThere X.2.1 Z ad hI s t g v1 er1) rfl dX6_appendError_2 rfl (Nat.le_of_ble_eq_true rfl) ?_
  refine g_if_ne (tgt := 10) C dX6_appendError_5 (by decide) (fun c2 => ?_) (fun c2 => ?_)
  · replace h := gi_neg c2 h
    refine g_iload_n C dX6_appendError_10 2 rfl ?_
    refine g_iconst (v := 1) C dX6_appendError_11 (by decide) ?_
    refine g_bipush (v := 64) C dX6_appendError_12 (by decide) ?_
    obtain ⟨r3, er3, h⟩ := gb1 h
    refine g_callSi (rest := []) C gX6_appendError_X6_in rfl ok_X6_in ⟨by decide, by decide⟩ ⟨rfl, rfl⟩ (cn_X6_in X.2.1 Z v2 1 64 er3) rfl dX6_appendError_14 rfl (Nat.le_of_ble_eq_true rfl) ?_
    refine g_if_eq (tgt := 30) C dX6_appendError_17 (by decide) (fun c4 => ?_) (fun c4 => ?_)
    · replace h := gi_pos c4 h
      refine g_bipush (v := (-2)) C dX6_appendError_30 (by decide) ?_
      obtain rfl := gs1 h
      exact g_iret C e dX6_appendError_32
    · replace h := gi_neg c4 h
      refine g_iload_n C dX6_appendError_20 3 rfl ?_
      refine g_iconst (v := 0) C dX6_appendError_21 (by decide) ?_
      refine g_bipush (v := 99) C dX6_appendError_22 (by decide) ?_
      obtain ⟨r5, er5, h⟩ := gb1 h
      refine g_callSi (rest := []) C gX6_appendError_X6_in rfl ok_X6_in ⟨by decide, by decide⟩ ⟨rfl, rfl⟩ (cn_X6_in X.2.1 Z v3 0 99 er5) rfl dX6_appendError_24 rfl (Nat.le_of_ble_eq_true rfl) ?_
      refine g_if_ne (tgt := 33) C dX6_appendError_27 (by decide) (fun c6 => ?_) (fun c6 => ?_)
      · replace h := gi_neg c6 h
        refine g_aload_n C dX6_appendError_33 0 rfl ?_
        refine g_iload_n C dX6_appendError_34 1 rfl ?_
        obtain ⟨r7, er7, h⟩ := gb1 h
        refine g_callWi (rest := []) C gX6_appendError_X6_isOpen rfl ok_X6_isOpen ⟨by decide, by decide⟩ ⟨rfl, rfl⟩ 0 (by decide) rfl rfl (fun hI => cn_X6_isOpen X.2.1 Z ad hI s t g v1 er7) rfl dX6_appendError_35 rfl (Nat.le_of_ble_eq_true rfl) ?_
        refine g_if_eq (tgt := 54) C dX6_appendError_38 (by decide) (fun c8 => ?_) (fun c8 => ?_)
        · replace h := gi_pos c8 h
          refine g_bipush (v := (-4)) C dX6_appendError_54 (by decide) ?_
          obtain rfl := gs1 h
          exact g_iret C e dX6_appendError_56
        · replace h := gi_neg c8 h
          refine g_aload_n C dX6_appendError_41 0 rfl ?_
          refine g_iload_n C dX6_appendError_42 1 rfl ?_
          refine g_iload_n C dX6_appendError_43 2 rfl ?_
          obtain ⟨r9, er9, h⟩ := gb1 h
          refine g_callWi (rest := []) C gX6_appendError_X6_canAppend rfl ok_X6_canAppend ⟨by decide, by decide⟩ ⟨rfl, rfl⟩ 0 (by decide) rfl rfl (fun hI => cn_X6_canAppend X.2.1 Z ad hI s t g v1 v2 er9) rfl dX6_appendError_44 rfl (Nat.le_of_ble_eq_true rfl) ?_
          refine g_if_eq (tgt := 54) C dX6_appendError_47 (by decide) (fun c10 => ?_) (fun c10 => ?_)
          · replace h := gi_pos c10 h
            refine g_bipush (v := (-4)) C dX6_appendError_54 (by decide) ?_
            obtain rfl := gs1 h
            exact g_iret C e dX6_appendError_56
          · replace h := gi_neg c10 h
            refine g_iconst (v := 0) C dX6_appendError_50 (by decide) ?_
            refine g_goto (tgt := 56) C dX6_appendError_51 (by decide) ?_
            obtain rfl := gs1 h
            exact g_iret C e dX6_appendError_56
      · replace h := gi_pos c6 h
        refine g_bipush (v := (-2)) C dX6_appendError_30 (by decide) ?_
        obtain rfl := gs1 h
        exact g_iret C e dX6_appendError_32
  · replace h := gi_pos c2 h
    refine g_iconst (v := (-1)) C dX6_appendError_8 (by decide) ?_
    obtain rfl := gs1 h
    exact g_iret C e dX6_appendError_9
abbrev rm_X6_cutError : Room := ({ frames := 2, cells := 0, slots := 0, locals := 43 } : Room)
def f_X6_cutError (s : Nat → Int32) (t : Nat → Int32) (g : Nat → Int32) (v1 : Int32) (v2 : Int32) : Option Int32 := gb (f_X6_isThere s t g v1) (fun r1 => if r1 = 0 then some (-1) else gb (f_X6_in v2 0 64) (fun r3 => if r3 = 0 then some (-2) else gb (f_X6_isOpen s t g v1) (fun r5 => if r5 = 0 then some (-4) else gb (f_X6_at 0 v1) (fun r7 => if 0 ≤ (r7 + 2) ∧ ((r7 + 2)).toNatClampNeg < 1968 then if (s ((r7 + 2)).toNatClampNeg) < v2 then some (-4) else some 0 else none))))
set_option maxRecDepth 20000 in
theorem in_X6_cutError : ∀ w ∈ wsX60, w ∈ wsX6_cutError := by decide +kernel
set_option maxRecDepth 20000 in
theorem fl_X6_cutError_7 : Cond.fieldLink RX6 7 (TX6 0).1 (TX6 0).2.1 (TX6 0).2.2.1 ∈ wsX6_cutError := by decide +kernel
set_option maxHeartbeats 4000000 in
set_option maxRecDepth 100000 in
theorem cn_X6_cutError (l : Launch) (Z : gZ) (ad : Nat → Nat) (hI : gInj 3 ad) (s : Nat → Int32) (t : Nat → Int32) (g : Nat → Int32) (v1 : Int32) (v2 : Int32) {r : Int32} (h : f_X6_cutError s t g v1 v2 = some r) : gI l yX6_cutError wsX6_cutError rm_X6_cutError Z 3 ad [.ref (ad 0), .int v1, .int v2] (mdlE Z.2.1 ad s t g) r (mdlE Z.2.1 ad s t g) := by
  refine g_entryI (cc := cX6_cutError) (maxL := 3) (by decide +kernel) rfl hI (Nat.le_of_ble_eq_true rfl) (fun X C e => ?_)
  unfold f_X6_cutError at h
  show GG X Z 3 3 ad (mdlE Z.2.1 ad s t g) 0 [(0, .ref (ad 0)), (1, .int v1), (2, .int v2)] []
  refine g_aload_n C dX6_cutError_0 0 rfl ?_
  refine g_iload_n C dX6_cutError_1 1 rfl ?_
  obtain ⟨r1, er1, h⟩ := gb1 h
  refine g_callWi (rest := []) C gX6_cutError_X6_isThere rfl ok_X6_isThere ⟨by decide, by decide⟩ ⟨rfl, rfl⟩ 0 (by decide) rfl rfl (fun hI => cn_X6_isThere X.2.1 Z ad hI s t g v1 er1) rfl dX6_cutError_2 rfl (Nat.le_of_ble_eq_true rfl) ?_
  refine g_if_ne (tgt := 10) C dX6_cutError_5 (by decide) (fun c2 => ?_) (fun c2 => ?_)
  · replace h := gi_neg c2 h
    refine g_iload_n C dX6_cutError_10 2 rfl ?_
    refine g_iconst (v := 0) C dX6_cutError_11 (by decide) ?_
    refine g_bipush (v := 64) C dX6_cutError_12 (by decide) ?_
    obtain ⟨r3, er3, h⟩ := gb1 h
    refine g_callSi (rest := []) C gX6_cutError_X6_in rfl ok_X6_in ⟨by decide, by decide⟩ ⟨rfl, rfl⟩ (cn_X6_in X.2.1 Z v2 0 64 er3) rfl dX6_cutError_14 rfl (Nat.le_of_ble_eq_true rfl) ?_
    refine g_if_ne (tgt := 23) C dX6_cutError_17 (by decide) (fun c4 => ?_) (fun c4 => ?_)
    · replace h := gi_neg c4 h
      refine g_aload_n C dX6_cutError_23 0 rfl ?_
      refine g_iload_n C dX6_cutError_24 1 rfl ?_
      obtain ⟨r5, er5, h⟩ := gb1 h
      refine g_callWi (rest := []) C gX6_cutError_X6_isOpen rfl ok_X6_isOpen ⟨by decide, by decide⟩ ⟨rfl, rfl⟩ 0 (by decide) rfl rfl (fun hI => cn_X6_isOpen X.2.1 Z ad hI s t g v1 er5) rfl dX6_cutError_25 rfl (Nat.le_of_ble_eq_true rfl) ?_
      refine g_if_eq (tgt := 51) C dX6_cutError_28 (by decide) (fun c6 => ?_) (fun c6 => ?_)
      · replace h := gi_pos c6 h
        refine g_bipush (v := (-4)) C dX6_cutError_51 (by decide) ?_
        obtain rfl := gs1 h
        exact g_iret C e dX6_cutError_53
      · replace h := gi_neg c6 h
        refine g_iload_n C dX6_cutError_31 2 rfl ?_
        refine g_aload_n C dX6_cutError_32 0 rfl ?_
        refine g_getf (v := .ref (ad 1)) C 0 (by decide) rfl rfl in_X6_cutError 0 (by decide) fl_X6_cutError_7 rfl dX6_cutError_33 ?_
        refine g_iconst (v := 0) C dX6_cutError_36 (by decide) ?_
        refine g_iload_n C dX6_cutError_37 1 rfl ?_
        obtain ⟨r7, er7, h⟩ := gb1 h
        refine g_callSi (rest := [.ref (ad 1), .int v2]) C gX6_cutError_X6_at rfl ok_X6_at ⟨by decide, by decide⟩ ⟨rfl, rfl⟩ (cn_X6_at X.2.1 Z 0 v1 er7) rfl dX6_cutError_38 rfl (Nat.le_of_ble_eq_true rfl) ?_
        refine g_iconst (v := 2) C dX6_cutError_41 (by decide) ?_
        refine g_iadd C dX6_cutError_42 ?_
        obtain ⟨b9, h⟩ := gguard h
        refine g_iald C 1 (by decide) rfl (g_in b9) dX6_cutError_43 ?_
        refine g_icmp_gt (tgt := 51) C dX6_cutError_44 (by decide) (fun c8 => ?_) (fun c8 => ?_)
        · replace h := gi_pos c8 h
          refine g_bipush (v := (-4)) C dX6_cutError_51 (by decide) ?_
          obtain rfl := gs1 h
          exact g_iret C e dX6_cutError_53
        · replace h := gi_neg c8 h
          refine g_iconst (v := 0) C dX6_cutError_47 (by decide) ?_
          refine g_goto (tgt := 53) C dX6_cutError_48 (by decide) ?_
          obtain rfl := gs1 h
          exact g_iret C e dX6_cutError_53
    · replace h := gi_pos c4 h
      refine g_bipush (v := (-2)) C dX6_cutError_20 (by decide) ?_
      obtain rfl := gs1 h
      exact g_iret C e dX6_cutError_22
  · replace h := gi_pos c2 h
    refine g_iconst (v := (-1)) C dX6_cutError_8 (by decide) ?_
    obtain rfl := gs1 h
    exact g_iret C e dX6_cutError_9
abbrev rm_X6_many : Room := ({ frames := 1, cells := 0, slots := 0, locals := 21 } : Room)
def f_X6_many_L4 (s : Nat → Int32) (t : Nat → Int32) (g : Nat → Int32) : Nat → Int32 → Int32 → Option Int32
  | 0, _, _ => none
  | fu + 1, v1, v2 => if 8 ≤ v2 then some v1 else gb (f_X6_at 0 v2) (fun r2 => if 0 ≤ r2 ∧ (r2).toNatClampNeg < 1968 then glet (v1 + (s (r2).toNatClampNeg)) (fun x3 => glet (v2 + 1) (fun x4 => f_X6_many_L4 s t g fu x3 x4)) else none)
def f_X6_many (s : Nat → Int32) (t : Nat → Int32) (g : Nat → Int32) : Option Int32 := f_X6_many_L4 s t g gFu 0 0
set_option maxRecDepth 20000 in
theorem in_X6_many : ∀ w ∈ wsX60, w ∈ wsX6_many := by decide +kernel
set_option maxRecDepth 20000 in
theorem fl_X6_many_7 : Cond.fieldLink RX6 7 (TX6 0).1 (TX6 0).2.1 (TX6 0).2.2.1 ∈ wsX6_many := by decide +kernel
set_option maxHeartbeats 4000000 in
set_option maxRecDepth 100000 in
theorem cl_X6_many_L4 {X : gX} {Z : gZ} {ad : Nat → Nat} {s : Nat → Int32} {t : Nat → Int32} {g : Nat → Int32} {r : Int32} (C : GC X Z cX6_many 3 wsX6_many RX6 rm_X6_many 3 ad) (e : gEI X Z 3 ad .int r (mdlE Z.2.1 ad s t g))  : ∀ (fu : Nat) (v1 : Int32) (v2 : Int32) (h : f_X6_many_L4 s t g fu v1 v2 = some r), GG X Z 3 3 ad (mdlE Z.2.1 ad s t g) 4 [(0, .ref (ad 0)), (1, .int v1), (2, .int v2)] [] := by
  intro fu
  induction fu with
  | zero => intro v1 v2 h; cases h
  | succ fu ih =>
    intro v1 v2 h
    rw [f_X6_many_L4] at h
    refine g_iload_n C dX6_many_4 2 rfl ?_
    refine g_bipush (v := 8) C dX6_many_5 (by decide) ?_
    refine g_icmp_ge (tgt := 29) C dX6_many_7 (by decide) (fun c1 => ?_) (fun c1 => ?_)
    · replace h := gi_pos c1 h
      refine g_iload_n C dX6_many_29 1 rfl ?_
      obtain rfl := gs1 h
      exact g_iret C e dX6_many_30
    · replace h := gi_neg c1 h
      refine g_iload_n C dX6_many_10 1 rfl ?_
      refine g_aload_n C dX6_many_11 0 rfl ?_
      refine g_getf (v := .ref (ad 1)) C 0 (by decide) rfl rfl in_X6_many 0 (by decide) fl_X6_many_7 rfl dX6_many_12 ?_
      refine g_iconst (v := 0) C dX6_many_15 (by decide) ?_
      refine g_iload_n C dX6_many_16 2 rfl ?_
      obtain ⟨r2, er2, h⟩ := gb1 h
      refine g_callSi (rest := [.ref (ad 1), .int v1]) C gX6_many_X6_at rfl ok_X6_at ⟨by decide, by decide⟩ ⟨rfl, rfl⟩ (cn_X6_at X.2.1 Z 0 v2 er2) rfl dX6_many_17 rfl (Nat.le_of_ble_eq_true rfl) ?_
      obtain ⟨b5, h⟩ := gguard h
      refine g_iald C 1 (by decide) rfl (g_in b5) dX6_many_20 ?_
      refine g_iadd C dX6_many_21 ?_
      obtain ⟨x3, ex3, h⟩ := gl h
      refine g_istore_n C dX6_many_22 (by decide) [(1, .int x3), (0, .ref (ad 0)), (2, .int v2)] (by rw [ex3]; rfl) ?_
      obtain ⟨x4, ex4, h⟩ := gl h
      refine g_iinc (v := x4) C dX6_many_23 2 rfl (by rw [ex4]; rfl) (by decide) [(2, .int x4), (1, .int x3), (0, .ref (ad 0))] rfl ?_
      refine g_goto (tgt := 4) C dX6_many_26 (by decide) ?_
      exact g_sub [2, 1, 0] rfl (ih x3 x4 h)
set_option maxHeartbeats 4000000 in
set_option maxRecDepth 100000 in
theorem cn_X6_many (l : Launch) (Z : gZ) (ad : Nat → Nat) (hI : gInj 3 ad) (s : Nat → Int32) (t : Nat → Int32) (g : Nat → Int32) {r : Int32} (h : f_X6_many s t g = some r) : gI l yX6_many wsX6_many rm_X6_many Z 3 ad [.ref (ad 0)] (mdlE Z.2.1 ad s t g) r (mdlE Z.2.1 ad s t g) := by
  refine g_entryI (cc := cX6_many) (maxL := 3) (by decide +kernel) rfl hI (Nat.le_of_ble_eq_true rfl) (fun X C e => ?_)
  unfold f_X6_many at h
  show GG X Z 3 3 ad (mdlE Z.2.1 ad s t g) 0 [(0, .ref (ad 0))] []
  refine g_iconst (v := 0) C dX6_many_0 (by decide) ?_
  refine g_istore_n C dX6_many_1 (by decide) [(1, .int 0), (0, .ref (ad 0))] rfl ?_
  refine g_iconst (v := 0) C dX6_many_2 (by decide) ?_
  refine g_istore_n C dX6_many_3 (by decide) [(2, .int 0), (1, .int 0), (0, .ref (ad 0))] rfl ?_
  exact g_sub [2, 1, 0] rfl (cl_X6_many_L4 C e gFu 0 0 h)
abbrev rm_X6_createError : Room := ({ frames := 2, cells := 0, slots := 0, locals := 43 } : Room)
def f_X6_createError (s : Nat → Int32) (t : Nat → Int32) (g : Nat → Int32) : Option Int32 := gb (f_X6_many s t g) (fun r1 => if r1 = 8 then some (-3) else some 0)
set_option maxHeartbeats 4000000 in
set_option maxRecDepth 100000 in
theorem cn_X6_createError (l : Launch) (Z : gZ) (ad : Nat → Nat) (hI : gInj 3 ad) (s : Nat → Int32) (t : Nat → Int32) (g : Nat → Int32) {r : Int32} (h : f_X6_createError s t g = some r) : gI l yX6_createError wsX6_createError rm_X6_createError Z 3 ad [.ref (ad 0)] (mdlE Z.2.1 ad s t g) r (mdlE Z.2.1 ad s t g) := by
  refine g_entryI (cc := cX6_createError) (maxL := 1) (by decide +kernel) rfl hI (Nat.le_of_ble_eq_true rfl) (fun X C e => ?_)
  unfold f_X6_createError at h
  show GG X Z 1 3 ad (mdlE Z.2.1 ad s t g) 0 [(0, .ref (ad 0))] []
  refine g_aload_n C dX6_createError_0 0 rfl ?_
  obtain ⟨r1, er1, h⟩ := gb1 h
  refine g_callWi (rest := []) C gX6_createError_X6_many rfl ok_X6_many ⟨by decide, by decide⟩ ⟨rfl, rfl⟩ 0 (by decide) rfl rfl (fun hI => cn_X6_many X.2.1 Z ad hI s t g  er1) rfl dX6_createError_1 rfl (Nat.le_of_ble_eq_true rfl) ?_
  refine g_bipush (v := 8) C dX6_createError_4 (by decide) ?_
  refine g_icmp_ne (tgt := 14) C dX6_createError_6 (by decide) (fun c2 => ?_) (fun c2 => ?_)
  · replace h := gi_neg c2 h
    refine g_iconst (v := 0) C dX6_createError_14 (by decide) ?_
    obtain rfl := gs1 h
    exact g_iret C e dX6_createError_15
  · replace h := gi_pos c2 h
    refine g_bipush (v := (-3)) C dX6_createError_9 (by decide) ?_
    refine g_goto (tgt := 15) C dX6_createError_11 (by decide) ?_
    obtain rfl := gs1 h
    exact g_iret C e dX6_createError_15
abbrev rm_X6_opened : Room := ({ frames := 2, cells := 0, slots := 0, locals := 43 } : Room)
def f_X6_opened_L4 (s : Nat → Int32) (t : Nat → Int32) (g : Nat → Int32) : Nat → Int32 → Int32 → Option Int32
  | 0, _, _ => none
  | fu + 1, v1, v2 => if 8 ≤ v2 then some v1 else gb (f_X6_isThere s t g v2) (fun r2 => if r2 = 0 then gb (f_X6_flag 0) (fun r4 => glet (v1 + r4) (fun x5 => glet (v2 + 1) (fun x6 => f_X6_opened_L4 s t g fu x5 x6))) else gb (f_X6_isOpen s t g v2) (fun r7 => if r7 = 0 then gb (f_X6_flag 0) (fun r9 => glet (v1 + r9) (fun x10 => glet (v2 + 1) (fun x11 => f_X6_opened_L4 s t g fu x10 x11))) else gb (f_X6_flag 1) (fun r12 => glet (v1 + r12) (fun x13 => glet (v2 + 1) (fun x14 => f_X6_opened_L4 s t g fu x13 x14)))))
def f_X6_opened (s : Nat → Int32) (t : Nat → Int32) (g : Nat → Int32) : Option Int32 := f_X6_opened_L4 s t g gFu 0 0
set_option maxHeartbeats 4000000 in
set_option maxRecDepth 100000 in
theorem cl_X6_opened_L4 {X : gX} {Z : gZ} {ad : Nat → Nat} {s : Nat → Int32} {t : Nat → Int32} {g : Nat → Int32} {r : Int32} (C : GC X Z cX6_opened 3 wsX6_opened RX6 rm_X6_opened 3 ad) (e : gEI X Z 3 ad .int r (mdlE Z.2.1 ad s t g))  : ∀ (fu : Nat) (v1 : Int32) (v2 : Int32) (h : f_X6_opened_L4 s t g fu v1 v2 = some r), GG X Z 3 3 ad (mdlE Z.2.1 ad s t g) 4 [(0, .ref (ad 0)), (1, .int v1), (2, .int v2)] [] := by
  intro fu
  induction fu with
  | zero => intro v1 v2 h; cases h
  | succ fu ih =>
    intro v1 v2 h
    rw [f_X6_opened_L4] at h
    refine g_iload_n C dX6_opened_4 2 rfl ?_
    refine g_bipush (v := 8) C dX6_opened_5 (by decide) ?_
    refine g_icmp_ge (tgt := 43) C dX6_opened_7 (by decide) (fun c1 => ?_) (fun c1 => ?_)
    · replace h := gi_pos c1 h
      refine g_iload_n C dX6_opened_43 1 rfl ?_
      obtain rfl := gs1 h
      exact g_iret C e dX6_opened_44
    · replace h := gi_neg c1 h
      refine g_iload_n C dX6_opened_10 1 rfl ?_
      refine g_aload_n C dX6_opened_11 0 rfl ?_
      refine g_iload_n C dX6_opened_12 2 rfl ?_
      obtain ⟨r2, er2, h⟩ := gb1 h
      refine g_callWi (rest := [.int v1]) C gX6_opened_X6_isThere rfl ok_X6_isThere ⟨by decide, by decide⟩ ⟨rfl, rfl⟩ 0 (by decide) rfl rfl (fun hI => cn_X6_isThere X.2.1 Z ad hI s t g v2 er2) rfl dX6_opened_13 rfl (Nat.le_of_ble_eq_true rfl) ?_
      refine g_if_eq (tgt := 31) C dX6_opened_16 (by decide) (fun c3 => ?_) (fun c3 => ?_)
      · replace h := gi_pos c3 h
        refine g_iconst (v := 0) C dX6_opened_31 (by decide) ?_
        obtain ⟨r4, er4, h⟩ := gb1 h
        refine g_callSi (rest := [.int v1]) C gX6_opened_X6_flag rfl ok_X6_flag ⟨by decide, by decide⟩ ⟨rfl, rfl⟩ (cn_X6_flag X.2.1 Z 0 er4) rfl dX6_opened_32 rfl (Nat.le_of_ble_eq_true rfl) ?_
        refine g_iadd C dX6_opened_35 ?_
        obtain ⟨x5, ex5, h⟩ := gl h
        refine g_istore_n C dX6_opened_36 (by decide) [(1, .int x5), (0, .ref (ad 0)), (2, .int v2)] (by rw [ex5]; rfl) ?_
        obtain ⟨x6, ex6, h⟩ := gl h
        refine g_iinc (v := x6) C dX6_opened_37 2 rfl (by rw [ex6]; rfl) (by decide) [(2, .int x6), (1, .int x5), (0, .ref (ad 0))] rfl ?_
        refine g_goto (tgt := 4) C dX6_opened_40 (by decide) ?_
        exact g_sub [2, 1, 0] rfl (ih x5 x6 h)
      · replace h := gi_neg c3 h
        refine g_aload_n C dX6_opened_19 0 rfl ?_
        refine g_iload_n C dX6_opened_20 2 rfl ?_
        obtain ⟨r7, er7, h⟩ := gb1 h
        refine g_callWi (rest := [.int v1]) C gX6_opened_X6_isOpen rfl ok_X6_isOpen ⟨by decide, by decide⟩ ⟨rfl, rfl⟩ 0 (by decide) rfl rfl (fun hI => cn_X6_isOpen X.2.1 Z ad hI s t g v2 er7) rfl dX6_opened_21 rfl (Nat.le_of_ble_eq_true rfl) ?_
        refine g_if_eq (tgt := 31) C dX6_opened_24 (by decide) (fun c8 => ?_) (fun c8 => ?_)
        · replace h := gi_pos c8 h
          refine g_iconst (v := 0) C dX6_opened_31 (by decide) ?_
          obtain ⟨r9, er9, h⟩ := gb1 h
          refine g_callSi (rest := [.int v1]) C gX6_opened_X6_flag rfl ok_X6_flag ⟨by decide, by decide⟩ ⟨rfl, rfl⟩ (cn_X6_flag X.2.1 Z 0 er9) rfl dX6_opened_32 rfl (Nat.le_of_ble_eq_true rfl) ?_
          refine g_iadd C dX6_opened_35 ?_
          obtain ⟨x10, ex10, h⟩ := gl h
          refine g_istore_n C dX6_opened_36 (by decide) [(1, .int x10), (0, .ref (ad 0)), (2, .int v2)] (by rw [ex10]; rfl) ?_
          obtain ⟨x11, ex11, h⟩ := gl h
          refine g_iinc (v := x11) C dX6_opened_37 2 rfl (by rw [ex11]; rfl) (by decide) [(2, .int x11), (1, .int x10), (0, .ref (ad 0))] rfl ?_
          refine g_goto (tgt := 4) C dX6_opened_40 (by decide) ?_
          exact g_sub [2, 1, 0] rfl (ih x10 x11 h)
        · replace h := gi_neg c8 h
          refine g_iconst (v := 1) C dX6_opened_27 (by decide) ?_
          refine g_goto (tgt := 32) C dX6_opened_28 (by decide) ?_
          obtain ⟨r12, er12, h⟩ := gb1 h
          refine g_callSi (rest := [.int v1]) C gX6_opened_X6_flag rfl ok_X6_flag ⟨by decide, by decide⟩ ⟨rfl, rfl⟩ (cn_X6_flag X.2.1 Z 1 er12) rfl dX6_opened_32 rfl (Nat.le_of_ble_eq_true rfl) ?_
          refine g_iadd C dX6_opened_35 ?_
          obtain ⟨x13, ex13, h⟩ := gl h
          refine g_istore_n C dX6_opened_36 (by decide) [(1, .int x13), (0, .ref (ad 0)), (2, .int v2)] (by rw [ex13]; rfl) ?_
          obtain ⟨x14, ex14, h⟩ := gl h
          refine g_iinc (v := x14) C dX6_opened_37 2 rfl (by rw [ex14]; rfl) (by decide) [(2, .int x14), (1, .int x13), (0, .ref (ad 0))] rfl ?_
          refine g_goto (tgt := 4) C dX6_opened_40 (by decide) ?_
          exact g_sub [2, 1, 0] rfl (ih x13 x14 h)
set_option maxHeartbeats 4000000 in
set_option maxRecDepth 100000 in
theorem cn_X6_opened (l : Launch) (Z : gZ) (ad : Nat → Nat) (hI : gInj 3 ad) (s : Nat → Int32) (t : Nat → Int32) (g : Nat → Int32) {r : Int32} (h : f_X6_opened s t g = some r) : gI l yX6_opened wsX6_opened rm_X6_opened Z 3 ad [.ref (ad 0)] (mdlE Z.2.1 ad s t g) r (mdlE Z.2.1 ad s t g) := by
  refine g_entryI (cc := cX6_opened) (maxL := 3) (by decide +kernel) rfl hI (Nat.le_of_ble_eq_true rfl) (fun X C e => ?_)
  unfold f_X6_opened at h
  show GG X Z 3 3 ad (mdlE Z.2.1 ad s t g) 0 [(0, .ref (ad 0))] []
  refine g_iconst (v := 0) C dX6_opened_0 (by decide) ?_
  refine g_istore_n C dX6_opened_1 (by decide) [(1, .int 0), (0, .ref (ad 0))] rfl ?_
  refine g_iconst (v := 0) C dX6_opened_2 (by decide) ?_
  refine g_istore_n C dX6_opened_3 (by decide) [(2, .int 0), (1, .int 0), (0, .ref (ad 0))] rfl ?_
  exact g_sub [2, 1, 0] rfl (cl_X6_opened_L4 C e gFu 0 0 h)
abbrev rm_X6_creates : Room := ({ frames := 2, cells := 0, slots := 0, locals := 43 } : Room)
def f_X6_creates_L18 (t : Nat → Int32) (g : Nat → Int32) (v1 : Int32) : Nat → Int32 → (Nat → Int32) → Option (Int32 × (Nat → Int32))
  | 0, _, _ => none
  | fu + 1, v2, s => if 6 ≤ v2 then some (v1, s) else gb (f_X6_at 0 v1) (fun r4 => if v2 = 0 then if 0 ≤ (r4 + v2) ∧ ((r4 + v2)).toNatClampNeg < 1968 then glet (upd s ((r4 + v2)).toNatClampNeg 1) (fun s7 => glet (v2 + 1) (fun x8 => f_X6_creates_L18 t g v1 fu x8 s7)) else none else if v2 = 5 then if 0 ≤ (r4 + v2) ∧ ((r4 + v2)).toNatClampNeg < 1968 then glet (upd s ((r4 + v2)).toNatClampNeg 1) (fun s14 => glet (v2 + 1) (fun x15 => f_X6_creates_L18 t g v1 fu x15 s14)) else none else if 0 ≤ (r4 + v2) ∧ ((r4 + v2)).toNatClampNeg < 1968 then glet (upd s ((r4 + v2)).toNatClampNeg 0) (fun s11 => glet (v2 + 1) (fun x12 => f_X6_creates_L18 t g v1 fu x12 s11)) else none)
def f_X6_creates_L2 (t : Nat → Int32) (g : Nat → Int32) : Nat → Int32 → (Nat → Int32) → Option (Int32 × (Nat → Int32))
  | 0, _, _ => none
  | fu + 1, v1, s => gb (f_X6_isThere s t g v1) (fun r1 => if r1 = 0 then f_X6_creates_L18 t g v1 gFu 0 s else glet (v1 + 1) (fun x16 => f_X6_creates_L2 t g fu x16 s))
def f_X6_creates (s : Nat → Int32) (t : Nat → Int32) (g : Nat → Int32) : Option (Int32 × (Nat → Int32)) := f_X6_creates_L2 t g gFu 0 s
set_option maxRecDepth 20000 in
theorem in_X6_creates : ∀ w ∈ wsX60, w ∈ wsX6_creates := by decide +kernel
set_option maxRecDepth 20000 in
theorem fl_X6_creates_7 : Cond.fieldLink RX6 7 (TX6 0).1 (TX6 0).2.1 (TX6 0).2.2.1 ∈ wsX6_creates := by decide +kernel
set_option maxHeartbeats 4000000 in
set_option maxRecDepth 100000 in
theorem cl_X6_creates_L18 {X : gX} {Z : gZ} {ad : Nat → Nat} {t : Nat → Int32} {g : Nat → Int32} {r : Int32} {s' : Nat → Int32} (C : GC X Z cX6_creates 3 wsX6_creates RX6 rm_X6_creates 3 ad) (e : gEI X Z 3 ad .int r (mdlE Z.2.1 ad s' t g)) (v1 : Int32) : ∀ (fu : Nat) (v2 : Int32) (s : Nat → Int32) (h : f_X6_creates_L18 t g v1 fu v2 s = some (r, s')), GG X Z 3 3 ad (mdlE Z.2.1 ad s t g) 18 [(0, .ref (ad 0)), (1, .int v1), (2, .int v2)] [] := by
  intro fu
  induction fu with
  | zero => intro v2 s h; cases h
  | succ fu ih =>
    intro v2 s h
    rw [f_X6_creates_L18] at h
    refine g_iload_n C dX6_creates_18 2 rfl ?_
    refine g_bipush (v := 6) C dX6_creates_19 (by decide) ?_
    refine g_icmp_ge (tgt := 56) C dX6_creates_21 (by decide) (fun c3 => ?_) (fun c3 => ?_)
    · replace h := gi_pos c3 h
      refine g_iload_n C dX6_creates_56 1 rfl ?_
      obtain ⟨rfl, rfl⟩ := gs2 h
      exact g_iret C e dX6_creates_57
    · replace h := gi_neg c3 h
      refine g_aload_n C dX6_creates_24 0 rfl ?_
      refine g_getf (v := .ref (ad 1)) C 0 (by decide) rfl rfl in_X6_creates 0 (by decide) fl_X6_creates_7 rfl dX6_creates_25 ?_
      refine g_iconst (v := 0) C dX6_creates_28 (by decide) ?_
      refine g_iload_n C dX6_creates_29 1 rfl ?_
      obtain ⟨r4, er4, h⟩ := gb1 h
      refine g_callSi (rest := [.ref (ad 1)]) C gX6_creates_X6_at rfl ok_X6_at ⟨by decide, by decide⟩ ⟨rfl, rfl⟩ (cn_X6_at X.2.1 Z 0 v1 er4) rfl dX6_creates_30 rfl (Nat.le_of_ble_eq_true rfl) ?_
      refine g_iload_n C dX6_creates_33 2 rfl ?_
      refine g_iadd C dX6_creates_34 ?_
      refine g_iload_n C dX6_creates_35 2 rfl ?_
      refine g_if_eq (tgt := 44) C dX6_creates_36 (by decide) (fun c5 => ?_) (fun c5 => ?_)
      · replace h := gi_pos c5 h
        refine g_iconst (v := 1) C dX6_creates_44 (by decide) ?_
        refine g_goto (tgt := 49) C dX6_creates_45 (by decide) ?_
        obtain ⟨b6, h⟩ := gguard h
        obtain ⟨s7, es7, h⟩ := gl h
        refine g_iast C 1 (by decide) rfl (g_in b6) dX6_creates_49 (mdlE Z.2.1 ad s7 t g) (by rw [es7]; exact mdlE_s) ?_
        obtain ⟨x8, ex8, h⟩ := gl h
        refine g_iinc (v := x8) C dX6_creates_50 2 rfl (by rw [ex8]; rfl) (by decide) [(2, .int x8), (0, .ref (ad 0)), (1, .int v1)] rfl ?_
        refine g_goto (tgt := 18) C dX6_creates_53 (by decide) ?_
        exact g_sub [1, 2, 0] rfl (ih x8 s7 h)
      · replace h := gi_neg c5 h
        refine g_iload_n C dX6_creates_39 2 rfl ?_
        refine g_iconst (v := 5) C dX6_creates_40 (by decide) ?_
        refine g_icmp_ne (tgt := 48) C dX6_creates_41 (by decide) (fun c9 => ?_) (fun c9 => ?_)
        · replace h := gi_neg c9 h
          refine g_iconst (v := 0) C dX6_creates_48 (by decide) ?_
          obtain ⟨b10, h⟩ := gguard h
          obtain ⟨s11, es11, h⟩ := gl h
          refine g_iast C 1 (by decide) rfl (g_in b10) dX6_creates_49 (mdlE Z.2.1 ad s11 t g) (by rw [es11]; exact mdlE_s) ?_
          obtain ⟨x12, ex12, h⟩ := gl h
          refine g_iinc (v := x12) C dX6_creates_50 2 rfl (by rw [ex12]; rfl) (by decide) [(2, .int x12), (0, .ref (ad 0)), (1, .int v1)] rfl ?_
          refine g_goto (tgt := 18) C dX6_creates_53 (by decide) ?_
          exact g_sub [1, 2, 0] rfl (ih x12 s11 h)
        · replace h := gi_pos c9 h
          refine g_iconst (v := 1) C dX6_creates_44 (by decide) ?_
          refine g_goto (tgt := 49) C dX6_creates_45 (by decide) ?_
          obtain ⟨b13, h⟩ := gguard h
          obtain ⟨s14, es14, h⟩ := gl h
          refine g_iast C 1 (by decide) rfl (g_in b13) dX6_creates_49 (mdlE Z.2.1 ad s14 t g) (by rw [es14]; exact mdlE_s) ?_
          obtain ⟨x15, ex15, h⟩ := gl h
          refine g_iinc (v := x15) C dX6_creates_50 2 rfl (by rw [ex15]; rfl) (by decide) [(2, .int x15), (0, .ref (ad 0)), (1, .int v1)] rfl ?_
          refine g_goto (tgt := 18) C dX6_creates_53 (by decide) ?_
          exact g_sub [1, 2, 0] rfl (ih x15 s14 h)
set_option maxHeartbeats 4000000 in
set_option maxRecDepth 100000 in
theorem cl_X6_creates_L2 {X : gX} {Z : gZ} {ad : Nat → Nat} {t : Nat → Int32} {g : Nat → Int32} {r : Int32} {s' : Nat → Int32} (C : GC X Z cX6_creates 3 wsX6_creates RX6 rm_X6_creates 3 ad) (e : gEI X Z 3 ad .int r (mdlE Z.2.1 ad s' t g))  : ∀ (fu : Nat) (v1 : Int32) (s : Nat → Int32) (h : f_X6_creates_L2 t g fu v1 s = some (r, s')), GG X Z 3 3 ad (mdlE Z.2.1 ad s t g) 2 [(0, .ref (ad 0)), (1, .int v1)] [] := by
  intro fu
  induction fu with
  | zero => intro v1 s h; cases h
  | succ fu ih =>
    intro v1 s h
    rw [f_X6_creates_L2] at h
    refine g_aload_n C dX6_creates_2 0 rfl ?_
    refine g_iload_n C dX6_creates_3 1 rfl ?_
    obtain ⟨r1, er1, h⟩ := gb1 h
    refine g_callWi (rest := []) C gX6_creates_X6_isThere rfl ok_X6_isThere ⟨by decide, by decide⟩ ⟨rfl, rfl⟩ 0 (by decide) rfl rfl (fun hI => cn_X6_isThere X.2.1 Z ad hI s t g v1 er1) rfl dX6_creates_4 rfl (Nat.le_of_ble_eq_true rfl) ?_
    refine g_if_eq (tgt := 16) C dX6_creates_7 (by decide) (fun c2 => ?_) (fun c2 => ?_)
    · replace h := gi_pos c2 h
      refine g_iconst (v := 0) C dX6_creates_16 (by decide) ?_
      refine g_istore_n C dX6_creates_17 (by decide) [(2, .int 0), (0, .ref (ad 0)), (1, .int v1)] rfl ?_
      exact g_sub [1, 2, 0] rfl (cl_X6_creates_L18 C e v1 gFu 0 s h)
    · replace h := gi_neg c2 h
      obtain ⟨x16, ex16, h⟩ := gl h
      refine g_iinc (v := x16) C dX6_creates_10 1 rfl (by rw [ex16]; rfl) (by decide) [(1, .int x16), (0, .ref (ad 0))] rfl ?_
      refine g_goto (tgt := 2) C dX6_creates_13 (by decide) ?_
      exact g_sub [1, 0] rfl (ih x16 s h)
set_option maxHeartbeats 4000000 in
set_option maxRecDepth 100000 in
theorem cn_X6_creates (l : Launch) (Z : gZ) (ad : Nat → Nat) (hI : gInj 3 ad) (s : Nat → Int32) (t : Nat → Int32) (g : Nat → Int32) {r : Int32} {s' : Nat → Int32} (h : f_X6_creates s t g = some (r, s')) : gI l yX6_creates wsX6_creates rm_X6_creates Z 3 ad [.ref (ad 0)] (mdlE Z.2.1 ad s t g) r (mdlE Z.2.1 ad s' t g) := by
  refine g_entryI (cc := cX6_creates) (maxL := 3) (by decide +kernel) rfl hI (Nat.le_of_ble_eq_true rfl) (fun X C e => ?_)
  unfold f_X6_creates at h
  show GG X Z 3 3 ad (mdlE Z.2.1 ad s t g) 0 [(0, .ref (ad 0))] []
  refine g_iconst (v := 0) C dX6_creates_0 (by decide) ?_
  refine g_istore_n C dX6_creates_1 (by decide) [(1, .int 0), (0, .ref (ad 0))] rfl ?_
  exact g_sub [1, 0] rfl (cl_X6_creates_L2 C e gFu 0 s h)
abbrev rm_X6_opens : Room := ({ frames := 3, cells := 0, slots := 0, locals := 65 } : Room)
def f_X6_opens (s : Nat → Int32) (t : Nat → Int32) (g : Nat → Int32) (v1 : Int32) : Option (Int32 × (Nat → Int32)) := gb (f_X6_at 0 v1) (fun r1 => if 0 ≤ (r1 + 4) ∧ ((r1 + 4)).toNatClampNeg < 1968 then glet (upd s ((r1 + 4)).toNatClampNeg 1) (fun s3 => gb (f_X6_opened s3 t g) (fun r4 => some (r4, s3))) else none)
set_option maxRecDepth 20000 in
theorem in_X6_opens : ∀ w ∈ wsX60, w ∈ wsX6_opens := by decide +kernel
set_option maxRecDepth 20000 in
theorem fl_X6_opens_7 : Cond.fieldLink RX6 7 (TX6 0).1 (TX6 0).2.1 (TX6 0).2.2.1 ∈ wsX6_opens := by decide +kernel
set_option maxHeartbeats 4000000 in
set_option maxRecDepth 100000 in
theorem cn_X6_opens (l : Launch) (Z : gZ) (ad : Nat → Nat) (hI : gInj 3 ad) (s : Nat → Int32) (t : Nat → Int32) (g : Nat → Int32) (v1 : Int32) {r : Int32} {s' : Nat → Int32} (h : f_X6_opens s t g v1 = some (r, s')) : gI l yX6_opens wsX6_opens rm_X6_opens Z 3 ad [.ref (ad 0), .int v1] (mdlE Z.2.1 ad s t g) r (mdlE Z.2.1 ad s' t g) := by
  refine g_entryI (cc := cX6_opens) (maxL := 2) (by decide +kernel) rfl hI (Nat.le_of_ble_eq_true rfl) (fun X C e => ?_)
  unfold f_X6_opens at h
  show GG X Z 2 3 ad (mdlE Z.2.1 ad s t g) 0 [(0, .ref (ad 0)), (1, .int v1)] []
  refine g_aload_n C dX6_opens_0 0 rfl ?_
  refine g_getf (v := .ref (ad 1)) C 0 (by decide) rfl rfl in_X6_opens 0 (by decide) fl_X6_opens_7 rfl dX6_opens_1 ?_
  refine g_iconst (v := 0) C dX6_opens_4 (by decide) ?_
  refine g_iload_n C dX6_opens_5 1 rfl ?_
  obtain ⟨r1, er1, h⟩ := gb1 h
  refine g_callSi (rest := [.ref (ad 1)]) C gX6_opens_X6_at rfl ok_X6_at ⟨by decide, by decide⟩ ⟨rfl, rfl⟩ (cn_X6_at X.2.1 Z 0 v1 er1) rfl dX6_opens_6 rfl (Nat.le_of_ble_eq_true rfl) ?_
  refine g_iconst (v := 4) C dX6_opens_9 (by decide) ?_
  refine g_iadd C dX6_opens_10 ?_
  refine g_iconst (v := 1) C dX6_opens_11 (by decide) ?_
  obtain ⟨b2, h⟩ := gguard h
  obtain ⟨s3, es3, h⟩ := gl h
  refine g_iast C 1 (by decide) rfl (g_in b2) dX6_opens_12 (mdlE Z.2.1 ad s3 t g) (by rw [es3]; exact mdlE_s) ?_
  refine g_aload_n C dX6_opens_13 0 rfl ?_
  obtain ⟨r4, er4, h⟩ := gb1 h
  refine g_callWi (rest := []) C gX6_opens_X6_opened rfl ok_X6_opened ⟨by decide, by decide⟩ ⟨rfl, rfl⟩ 0 (by decide) rfl rfl (fun hI => cn_X6_opened X.2.1 Z ad hI s3 t g  er4) rfl dX6_opens_14 rfl (Nat.le_of_ble_eq_true rfl) ?_
  obtain ⟨rfl, rfl⟩ := gs2 h
  exact g_iret C e dX6_opens_17
abbrev rm_X6_closes : Room := ({ frames := 3, cells := 0, slots := 0, locals := 69 } : Room)
def f_X6_closes (s : Nat → Int32) (t : Nat → Int32) (g : Nat → Int32) (v1 : Int32) : Option (Int32 × (Nat → Int32)) := gbb2 (f_X6_givesBack s t g 0 v1) (fun r1 s2 => gb (f_X6_at 0 v1) (fun r3 => gb (f_X6_at 0 v1) (fun r4 => if 0 ≤ (r4 + 2) ∧ ((r4 + 2)).toNatClampNeg < 1968 then if 0 ≤ (r3 + 3) ∧ ((r3 + 3)).toNatClampNeg < 1968 then glet (upd s2 ((r3 + 3)).toNatClampNeg (s2 ((r4 + 2)).toNatClampNeg)) (fun s6 => gb (f_X6_at 0 v1) (fun r7 => if 0 ≤ (r7 + 4) ∧ ((r7 + 4)).toNatClampNeg < 1968 then glet (upd s6 ((r7 + 4)).toNatClampNeg 0) (fun s9 => some (r1, s9)) else none)) else none else none)))
set_option maxRecDepth 20000 in
theorem in_X6_closes : ∀ w ∈ wsX60, w ∈ wsX6_closes := by decide +kernel
set_option maxRecDepth 20000 in
theorem fl_X6_closes_7 : Cond.fieldLink RX6 7 (TX6 0).1 (TX6 0).2.1 (TX6 0).2.2.1 ∈ wsX6_closes := by decide +kernel
set_option maxHeartbeats 4000000 in
set_option maxRecDepth 100000 in
theorem cn_X6_closes (l : Launch) (Z : gZ) (ad : Nat → Nat) (hI : gInj 3 ad) (s : Nat → Int32) (t : Nat → Int32) (g : Nat → Int32) (v1 : Int32) {r : Int32} {s' : Nat → Int32} (h : f_X6_closes s t g v1 = some (r, s')) : gI l yX6_closes wsX6_closes rm_X6_closes Z 3 ad [.ref (ad 0), .int v1] (mdlE Z.2.1 ad s t g) r (mdlE Z.2.1 ad s' t g) := by
  refine g_entryI (cc := cX6_closes) (maxL := 3) (by decide +kernel) rfl hI (Nat.le_of_ble_eq_true rfl) (fun X C e => ?_)
  unfold f_X6_closes at h
  show GG X Z 3 3 ad (mdlE Z.2.1 ad s t g) 0 [(0, .ref (ad 0)), (1, .int v1)] []
  refine g_aload_n C dX6_closes_0 0 rfl ?_
  refine g_iconst (v := 0) C dX6_closes_1 (by decide) ?_
  refine g_iload_n C dX6_closes_2 1 rfl ?_
  obtain ⟨r1, s2, er1, h⟩ := gb2 h
  refine g_callWi (rest := []) C gX6_closes_X6_givesBack rfl ok_X6_givesBack ⟨by decide, by decide⟩ ⟨rfl, rfl⟩ 0 (by decide) rfl rfl (fun hI => cn_X6_givesBack X.2.1 Z ad hI s t g 0 v1 er1) rfl dX6_closes_3 rfl (Nat.le_of_ble_eq_true rfl) ?_
  refine g_istore_n C dX6_closes_6 (by decide) [(2, .int r1), (0, .ref (ad 0)), (1, .int v1)] rfl ?_
  refine g_aload_n C dX6_closes_7 1 rfl ?_
  refine g_getf (v := .ref (ad 1)) C 0 (by decide) rfl rfl in_X6_closes 0 (by decide) fl_X6_closes_7 rfl dX6_closes_8 ?_
  refine g_iconst (v := 0) C dX6_closes_11 (by decide) ?_
  refine g_iload_n C dX6_closes_12 2 rfl ?_
  obtain ⟨r3, er3, h⟩ := gb1 h
  refine g_callSi (rest := [.ref (ad 1)]) C gX6_closes_X6_at rfl ok_X6_at ⟨by decide, by decide⟩ ⟨rfl, rfl⟩ (cn_X6_at X.2.1 Z 0 v1 er3) rfl dX6_closes_13 rfl (Nat.le_of_ble_eq_true rfl) ?_
  refine g_iconst (v := 3) C dX6_closes_16 (by decide) ?_
  refine g_iadd C dX6_closes_17 ?_
  refine g_aload_n C dX6_closes_18 1 rfl ?_
  refine g_getf (v := .ref (ad 1)) C 0 (by decide) rfl rfl in_X6_closes 0 (by decide) fl_X6_closes_7 rfl dX6_closes_19 ?_
  refine g_iconst (v := 0) C dX6_closes_22 (by decide) ?_
  refine g_iload_n C dX6_closes_23 2 rfl ?_
  obtain ⟨r4, er4, h⟩ := gb1 h
  refine g_callSi (rest := [.ref (ad 1), .int (r3 + 3), .ref (ad 1)]) C gX6_closes_X6_at rfl ok_X6_at ⟨by decide, by decide⟩ ⟨rfl, rfl⟩ (cn_X6_at X.2.1 Z 0 v1 er4) rfl dX6_closes_24 rfl (Nat.le_of_ble_eq_true rfl) ?_
  refine g_iconst (v := 2) C dX6_closes_27 (by decide) ?_
  refine g_iadd C dX6_closes_28 ?_
  obtain ⟨b10, h⟩ := gguard h
  refine g_iald C 1 (by decide) rfl (g_in b10) dX6_closes_29 ?_
  obtain ⟨b5, h⟩ := gguard h
  obtain ⟨s6, es6, h⟩ := gl h
  refine g_iast C 1 (by decide) rfl (g_in b5) dX6_closes_30 (mdlE Z.2.1 ad s6 t g) (by rw [es6]; exact mdlE_s) ?_
  refine g_aload_n C dX6_closes_31 1 rfl ?_
  refine g_getf (v := .ref (ad 1)) C 0 (by decide) rfl rfl in_X6_closes 0 (by decide) fl_X6_closes_7 rfl dX6_closes_32 ?_
  refine g_iconst (v := 0) C dX6_closes_35 (by decide) ?_
  refine g_iload_n C dX6_closes_36 2 rfl ?_
  obtain ⟨r7, er7, h⟩ := gb1 h
  refine g_callSi (rest := [.ref (ad 1)]) C gX6_closes_X6_at rfl ok_X6_at ⟨by decide, by decide⟩ ⟨rfl, rfl⟩ (cn_X6_at X.2.1 Z 0 v1 er7) rfl dX6_closes_37 rfl (Nat.le_of_ble_eq_true rfl) ?_
  refine g_iconst (v := 4) C dX6_closes_40 (by decide) ?_
  refine g_iadd C dX6_closes_41 ?_
  refine g_iconst (v := 0) C dX6_closes_42 (by decide) ?_
  obtain ⟨b8, h⟩ := gguard h
  obtain ⟨s9, es9, h⟩ := gl h
  refine g_iast C 1 (by decide) rfl (g_in b8) dX6_closes_43 (mdlE Z.2.1 ad s9 t g) (by rw [es9]; exact mdlE_s) ?_
  refine g_iload_n C dX6_closes_44 0 rfl ?_
  obtain ⟨rfl, rfl⟩ := gs2 h
  exact g_iret C e dX6_closes_45
abbrev rm_X6_removes : Room := ({ frames := 2, cells := 0, slots := 0, locals := 46 } : Room)
def f_X6_removes (s : Nat → Int32) (t : Nat → Int32) (g : Nat → Int32) (v1 : Int32) : Option (Int32 × (Nat → Int32)) := gbb2 (f_X6_frees s t g 0 v1 0) (fun r1 s2 => gb (f_X6_at 0 v1) (fun r3 => if 0 ≤ r3 ∧ (r3).toNatClampNeg < 1968 then glet (upd s2 (r3).toNatClampNeg 0) (fun s5 => some (r1, s5)) else none))
set_option maxRecDepth 20000 in
theorem in_X6_removes : ∀ w ∈ wsX60, w ∈ wsX6_removes := by decide +kernel
set_option maxRecDepth 20000 in
theorem fl_X6_removes_7 : Cond.fieldLink RX6 7 (TX6 0).1 (TX6 0).2.1 (TX6 0).2.2.1 ∈ wsX6_removes := by decide +kernel
set_option maxHeartbeats 4000000 in
set_option maxRecDepth 100000 in
theorem cn_X6_removes (l : Launch) (Z : gZ) (ad : Nat → Nat) (hI : gInj 3 ad) (s : Nat → Int32) (t : Nat → Int32) (g : Nat → Int32) (v1 : Int32) {r : Int32} {s' : Nat → Int32} (h : f_X6_removes s t g v1 = some (r, s')) : gI l yX6_removes wsX6_removes rm_X6_removes Z 3 ad [.ref (ad 0), .int v1] (mdlE Z.2.1 ad s t g) r (mdlE Z.2.1 ad s' t g) := by
  refine g_entryI (cc := cX6_removes) (maxL := 3) (by decide +kernel) rfl hI (Nat.le_of_ble_eq_true rfl) (fun X C e => ?_)
  unfold f_X6_removes at h
  show GG X Z 3 3 ad (mdlE Z.2.1 ad s t g) 0 [(0, .ref (ad 0)), (1, .int v1)] []
  refine g_aload_n C dX6_removes_0 0 rfl ?_
  refine g_iconst (v := 0) C dX6_removes_1 (by decide) ?_
  refine g_iload_n C dX6_removes_2 1 rfl ?_
  refine g_iconst (v := 0) C dX6_removes_3 (by decide) ?_
  obtain ⟨r1, s2, er1, h⟩ := gb2 h
  refine g_callWi (rest := []) C gX6_removes_X6_frees rfl ok_X6_frees ⟨by decide, by decide⟩ ⟨rfl, rfl⟩ 0 (by decide) rfl rfl (fun hI => cn_X6_frees X.2.1 Z ad hI s t g 0 v1 0 er1) rfl dX6_removes_4 rfl (Nat.le_of_ble_eq_true rfl) ?_
  refine g_istore_n C dX6_removes_7 (by decide) [(2, .int r1), (0, .ref (ad 0)), (1, .int v1)] rfl ?_
  refine g_aload_n C dX6_removes_8 1 rfl ?_
  refine g_getf (v := .ref (ad 1)) C 0 (by decide) rfl rfl in_X6_removes 0 (by decide) fl_X6_removes_7 rfl dX6_removes_9 ?_
  refine g_iconst (v := 0) C dX6_removes_12 (by decide) ?_
  refine g_iload_n C dX6_removes_13 2 rfl ?_
  obtain ⟨r3, er3, h⟩ := gb1 h
  refine g_callSi (rest := [.ref (ad 1)]) C gX6_removes_X6_at rfl ok_X6_at ⟨by decide, by decide⟩ ⟨rfl, rfl⟩ (cn_X6_at X.2.1 Z 0 v1 er3) rfl dX6_removes_14 rfl (Nat.le_of_ble_eq_true rfl) ?_
  refine g_iconst (v := 0) C dX6_removes_17 (by decide) ?_
  obtain ⟨b4, h⟩ := gguard h
  obtain ⟨s5, es5, h⟩ := gl h
  refine g_iast C 1 (by decide) rfl (g_in b4) dX6_removes_18 (mdlE Z.2.1 ad s5 t g) (by rw [es5]; exact mdlE_s) ?_
  refine g_iload_n C dX6_removes_19 0 rfl ?_
  obtain ⟨rfl, rfl⟩ := gs2 h
  exact g_iret C e dX6_removes_20
abbrev rm_X6_syncs : Room := ({ frames := 1, cells := 0, slots := 0, locals := 21 } : Room)
def f_X6_syncs (s : Nat → Int32) (t : Nat → Int32) (g : Nat → Int32) (v1 : Int32) : Option (Int32 × (Nat → Int32)) := gb (f_X6_at 0 v1) (fun r1 => if 0 ≤ (r1 + 2) ∧ ((r1 + 2)).toNatClampNeg < 1968 then if 0 ≤ (r1 + 3) ∧ ((r1 + 3)).toNatClampNeg < 1968 then glet ((s ((r1 + 2)).toNatClampNeg) - (s ((r1 + 3)).toNatClampNeg)) (fun x2 => if 0 ≤ (r1 + 2) ∧ ((r1 + 2)).toNatClampNeg < 1968 then if 0 ≤ (r1 + 3) ∧ ((r1 + 3)).toNatClampNeg < 1968 then glet (upd s ((r1 + 3)).toNatClampNeg (s ((r1 + 2)).toNatClampNeg)) (fun s4 => some (x2, s4)) else none else none) else none else none)
set_option maxRecDepth 20000 in
theorem in_X6_syncs : ∀ w ∈ wsX60, w ∈ wsX6_syncs := by decide +kernel
set_option maxRecDepth 20000 in
theorem fl_X6_syncs_7 : Cond.fieldLink RX6 7 (TX6 0).1 (TX6 0).2.1 (TX6 0).2.2.1 ∈ wsX6_syncs := by decide +kernel
set_option maxHeartbeats 4000000 in
set_option maxRecDepth 100000 in
theorem cn_X6_syncs (l : Launch) (Z : gZ) (ad : Nat → Nat) (hI : gInj 3 ad) (s : Nat → Int32) (t : Nat → Int32) (g : Nat → Int32) (v1 : Int32) {r : Int32} {s' : Nat → Int32} (h : f_X6_syncs s t g v1 = some (r, s')) : gI l yX6_syncs wsX6_syncs rm_X6_syncs Z 3 ad [.ref (ad 0), .int v1] (mdlE Z.2.1 ad s t g) r (mdlE Z.2.1 ad s' t g) := by
  refine g_entryI (cc := cX6_syncs) (maxL := 4) (by decide +kernel) rfl hI (Nat.le_of_ble_eq_true rfl) (fun X C e => ?_)
  unfold f_X6_syncs at h
  show GG X Z 4 3 ad (mdlE Z.2.1 ad s t g) 0 [(0, .ref (ad 0)), (1, .int v1)] []
  refine g_iconst (v := 0) C dX6_syncs_0 (by decide) ?_
  refine g_iload_n C dX6_syncs_1 1 rfl ?_
  obtain ⟨r1, er1, h⟩ := gb1 h
  refine g_callSi (rest := []) C gX6_syncs_X6_at rfl ok_X6_at ⟨by decide, by decide⟩ ⟨rfl, rfl⟩ (cn_X6_at X.2.1 Z 0 v1 er1) rfl dX6_syncs_2 rfl (Nat.le_of_ble_eq_true rfl) ?_
  refine g_istore_n C dX6_syncs_5 (by decide) [(2, .int r1), (0, .ref (ad 0)), (1, .int v1)] rfl ?_
  refine g_aload_n C dX6_syncs_6 1 rfl ?_
  refine g_getf (v := .ref (ad 1)) C 0 (by decide) rfl rfl in_X6_syncs 0 (by decide) fl_X6_syncs_7 rfl dX6_syncs_7 ?_
  refine g_iload_n C dX6_syncs_10 0 rfl ?_
  refine g_iconst (v := 2) C dX6_syncs_11 (by decide) ?_
  refine g_iadd C dX6_syncs_12 ?_
  obtain ⟨b7, h⟩ := gguard h
  refine g_iald C 1 (by decide) rfl (g_in b7) dX6_syncs_13 ?_
  refine g_aload_n C dX6_syncs_14 1 rfl ?_
  refine g_getf (v := .ref (ad 1)) C 0 (by decide) rfl rfl in_X6_syncs 0 (by decide) fl_X6_syncs_7 rfl dX6_syncs_15 ?_
  refine g_iload_n C dX6_syncs_18 0 rfl ?_
  refine g_iconst (v := 3) C dX6_syncs_19 (by decide) ?_
  refine g_iadd C dX6_syncs_20 ?_
  obtain ⟨b6, h⟩ := gguard h
  refine g_iald C 1 (by decide) rfl (g_in b6) dX6_syncs_21 ?_
  refine g_isub C dX6_syncs_22 ?_
  obtain ⟨x2, ex2, h⟩ := gl h
  refine g_istore_n C dX6_syncs_23 (by decide) [(3, .int x2), (2, .int r1), (0, .ref (ad 0)), (1, .int v1)] (by rw [ex2]; rfl) ?_
  refine g_aload_n C dX6_syncs_24 2 rfl ?_
  refine g_getf (v := .ref (ad 1)) C 0 (by decide) rfl rfl in_X6_syncs 0 (by decide) fl_X6_syncs_7 rfl dX6_syncs_25 ?_
  refine g_iload_n C dX6_syncs_28 1 rfl ?_
  refine g_iconst (v := 3) C dX6_syncs_29 (by decide) ?_
  refine g_iadd C dX6_syncs_30 ?_
  refine g_aload_n C dX6_syncs_31 2 rfl ?_
  refine g_getf (v := .ref (ad 1)) C 0 (by decide) rfl rfl in_X6_syncs 0 (by decide) fl_X6_syncs_7 rfl dX6_syncs_32 ?_
  refine g_iload_n C dX6_syncs_35 1 rfl ?_
  refine g_iconst (v := 2) C dX6_syncs_36 (by decide) ?_
  refine g_iadd C dX6_syncs_37 ?_
  obtain ⟨b5, h⟩ := gguard h
  refine g_iald C 1 (by decide) rfl (g_in b5) dX6_syncs_38 ?_
  obtain ⟨b3, h⟩ := gguard h
  obtain ⟨s4, es4, h⟩ := gl h
  refine g_iast C 1 (by decide) rfl (g_in b3) dX6_syncs_39 (mdlE Z.2.1 ad s4 t g) (by rw [es4]; exact mdlE_s) ?_
  refine g_iload_n C dX6_syncs_40 0 rfl ?_
  obtain ⟨rfl, rfl⟩ := gs2 h
  exact g_iret C e dX6_syncs_41
abbrev rm_X6_cuts : Room := ({ frames := 3, cells := 0, slots := 0, locals := 69 } : Room)
def f_X6_cuts (s : Nat → Int32) (t : Nat → Int32) (g : Nat → Int32) (v1 : Int32) (v2 : Int32) : Option (Int32 × (Nat → Int32)) := gb (f_X6_at 0 v1) (fun r1 => gbb2 (f_X6_givesBack s t g 0 v1) (fun r2 s3 => gbb2 (f_X6_frees s3 t g 0 v1 v2) (fun r4 s5 => glet (r2 + r4) (fun x6 => if 0 ≤ (r1 + 2) ∧ ((r1 + 2)).toNatClampNeg < 1968 then glet (upd s5 ((r1 + 2)).toNatClampNeg v2) (fun s8 => if 0 ≤ (r1 + 3) ∧ ((r1 + 3)).toNatClampNeg < 1968 then if v2 ≤ (s8 ((r1 + 3)).toNatClampNeg) then if 0 ≤ (r1 + 3) ∧ ((r1 + 3)).toNatClampNeg < 1968 then glet (upd s8 ((r1 + 3)).toNatClampNeg v2) (fun s11 => some (x6, s11)) else none else if 0 ≤ (r1 + 3) ∧ ((r1 + 3)).toNatClampNeg < 1968 then if 0 ≤ (r1 + 3) ∧ ((r1 + 3)).toNatClampNeg < 1968 then glet (upd s8 ((r1 + 3)).toNatClampNeg (s8 ((r1 + 3)).toNatClampNeg)) (fun s13 => some (x6, s13)) else none else none else none) else none))))
set_option maxRecDepth 20000 in
theorem in_X6_cuts : ∀ w ∈ wsX60, w ∈ wsX6_cuts := by decide +kernel
set_option maxRecDepth 20000 in
theorem fl_X6_cuts_7 : Cond.fieldLink RX6 7 (TX6 0).1 (TX6 0).2.1 (TX6 0).2.2.1 ∈ wsX6_cuts := by decide +kernel
set_option maxHeartbeats 4000000 in
set_option maxRecDepth 100000 in
theorem cn_X6_cuts (l : Launch) (Z : gZ) (ad : Nat → Nat) (hI : gInj 3 ad) (s : Nat → Int32) (t : Nat → Int32) (g : Nat → Int32) (v1 : Int32) (v2 : Int32) {r : Int32} {s' : Nat → Int32} (h : f_X6_cuts s t g v1 v2 = some (r, s')) : gI l yX6_cuts wsX6_cuts rm_X6_cuts Z 3 ad [.ref (ad 0), .int v1, .int v2] (mdlE Z.2.1 ad s t g) r (mdlE Z.2.1 ad s' t g) := by
  refine g_entryI (cc := cX6_cuts) (maxL := 5) (by decide +kernel) rfl hI (Nat.le_of_ble_eq_true rfl) (fun X C e => ?_)
  unfold f_X6_cuts at h
  show GG X Z 5 3 ad (mdlE Z.2.1 ad s t g) 0 [(0, .ref (ad 0)), (1, .int v1), (2, .int v2)] []
  refine g_iconst (v := 0) C dX6_cuts_0 (by decide) ?_
  refine g_iload_n C dX6_cuts_1 1 rfl ?_
  obtain ⟨r1, er1, h⟩ := gb1 h
  refine g_callSi (rest := []) C gX6_cuts_X6_at rfl ok_X6_at ⟨by decide, by decide⟩ ⟨rfl, rfl⟩ (cn_X6_at X.2.1 Z 0 v1 er1) rfl dX6_cuts_2 rfl (Nat.le_of_ble_eq_true rfl) ?_
  refine g_istore_n C dX6_cuts_5 (by decide) [(3, .int r1), (0, .ref (ad 0)), (1, .int v1), (2, .int v2)] rfl ?_
  refine g_aload_n C dX6_cuts_6 1 rfl ?_
  refine g_iconst (v := 0) C dX6_cuts_7 (by decide) ?_
  refine g_iload_n C dX6_cuts_8 2 rfl ?_
  obtain ⟨r2, s3, er2, h⟩ := gb2 h
  refine g_callWi (rest := []) C gX6_cuts_X6_givesBack rfl ok_X6_givesBack ⟨by decide, by decide⟩ ⟨rfl, rfl⟩ 0 (by decide) rfl rfl (fun hI => cn_X6_givesBack X.2.1 Z ad hI s t g 0 v1 er2) rfl dX6_cuts_9 rfl (Nat.le_of_ble_eq_true rfl) ?_
  refine g_aload_n C dX6_cuts_12 1 rfl ?_
  refine g_iconst (v := 0) C dX6_cuts_13 (by decide) ?_
  refine g_iload_n C dX6_cuts_14 2 rfl ?_
  refine g_iload_n C dX6_cuts_15 3 rfl ?_
  obtain ⟨r4, s5, er4, h⟩ := gb2 h
  refine g_callWi (rest := [.int r2]) C gX6_cuts_X6_frees rfl ok_X6_frees ⟨by decide, by decide⟩ ⟨rfl, rfl⟩ 0 (by decide) rfl rfl (fun hI => cn_X6_frees X.2.1 Z ad hI s3 t g 0 v1 v2 er4) rfl dX6_cuts_16 rfl (Nat.le_of_ble_eq_true rfl) ?_
  refine g_iadd C dX6_cuts_19 ?_
  obtain ⟨x6, ex6, h⟩ := gl h
  refine g_istore C dX6_cuts_20 (by decide) [(4, .int x6), (3, .int r1), (0, .ref (ad 0)), (1, .int v1), (2, .int v2)] (by rw [ex6]; rfl) ?_
  refine g_aload_n C dX6_cuts_22 2 rfl ?_
  refine g_getf (v := .ref (ad 1)) C 0 (by decide) rfl rfl in_X6_cuts 0 (by decide) fl_X6_cuts_7 rfl dX6_cuts_23 ?_
  refine g_iload_n C dX6_cuts_26 1 rfl ?_
  refine g_iconst (v := 2) C dX6_cuts_27 (by decide) ?_
  refine g_iadd C dX6_cuts_28 ?_
  refine g_iload_n C dX6_cuts_29 4 rfl ?_
  obtain ⟨b7, h⟩ := gguard h
  obtain ⟨s8, es8, h⟩ := gl h
  refine g_iast C 1 (by decide) rfl (g_in b7) dX6_cuts_30 (mdlE Z.2.1 ad s8 t g) (by rw [es8]; exact mdlE_s) ?_
  refine g_aload_n C dX6_cuts_31 2 rfl ?_
  refine g_getf (v := .ref (ad 1)) C 0 (by decide) rfl rfl in_X6_cuts 0 (by decide) fl_X6_cuts_7 rfl dX6_cuts_32 ?_
  refine g_iload_n C dX6_cuts_35 1 rfl ?_
  refine g_iconst (v := 3) C dX6_cuts_36 (by decide) ?_
  refine g_iadd C dX6_cuts_37 ?_
  refine g_aload_n C dX6_cuts_38 2 rfl ?_
  refine g_getf (v := .ref (ad 1)) C 0 (by decide) rfl rfl in_X6_cuts 0 (by decide) fl_X6_cuts_7 rfl dX6_cuts_39 ?_
  refine g_iload_n C dX6_cuts_42 1 rfl ?_
  refine g_iconst (v := 3) C dX6_cuts_43 (by decide) ?_
  refine g_iadd C dX6_cuts_44 ?_
  obtain ⟨b15, h⟩ := gguard h
  refine g_iald C 1 (by decide) rfl (g_in b15) dX6_cuts_45 ?_
  refine g_iload_n C dX6_cuts_46 4 rfl ?_
  refine g_icmp_ge (tgt := 61) C dX6_cuts_47 (by decide) (fun c9 => ?_) (fun c9 => ?_)
  · replace h := gi_pos c9 h
    refine g_iload_n C dX6_cuts_61 4 rfl ?_
    obtain ⟨b10, h⟩ := gguard h
    obtain ⟨s11, es11, h⟩ := gl h
    refine g_iast C 1 (by decide) rfl (g_in b10) dX6_cuts_62 (mdlE Z.2.1 ad s11 t g) (by rw [es11]; exact mdlE_s) ?_
    refine g_iload C dX6_cuts_63 0 rfl ?_
    obtain ⟨rfl, rfl⟩ := gs2 h
    exact g_iret C e dX6_cuts_65
  · replace h := gi_neg c9 h
    refine g_aload_n C dX6_cuts_50 2 rfl ?_
    refine g_getf (v := .ref (ad 1)) C 0 (by decide) rfl rfl in_X6_cuts 0 (by decide) fl_X6_cuts_7 rfl dX6_cuts_51 ?_
    refine g_iload_n C dX6_cuts_54 1 rfl ?_
    refine g_iconst (v := 3) C dX6_cuts_55 (by decide) ?_
    refine g_iadd C dX6_cuts_56 ?_
    obtain ⟨b14, h⟩ := gguard h
    refine g_iald C 1 (by decide) rfl (g_in b14) dX6_cuts_57 ?_
    refine g_goto (tgt := 62) C dX6_cuts_58 (by decide) ?_
    obtain ⟨b12, h⟩ := gguard h
    obtain ⟨s13, es13, h⟩ := gl h
    refine g_iast C 1 (by decide) rfl (g_in b12) dX6_cuts_62 (mdlE Z.2.1 ad s13 t g) (by rw [es13]; exact mdlE_s) ?_
    refine g_iload C dX6_cuts_63 0 rfl ?_
    obtain ⟨rfl, rfl⟩ := gs2 h
    exact g_iret C e dX6_cuts_65
abbrev rm_X6_crashes : Room := ({ frames := 2, cells := 0, slots := 0, locals := 43 } : Room)
def f_X6_crashes_L4 (t : Nat → Int32) (g : Nat → Int32) : Nat → Int32 → Int32 → (Nat → Int32) → Option (Int32 × (Nat → Int32))
  | 0, _, _, _ => none
  | fu + 1, v1, v2, s => if 8 ≤ v2 then if 0 ≤ (245 : Int32) ∧ ((245 : Int32)).toNatClampNeg < 1968 then if 0 ≤ (245 : Int32) ∧ ((245 : Int32)).toNatClampNeg < 1968 then glet (upd s ((245 : Int32)).toNatClampNeg ((s ((245 : Int32)).toNatClampNeg) + v1)) (fun s3 => some (v1, s3)) else none else none else gb (f_X6_at 0 v2) (fun r5 => gb (f_X6_isThere s t g v2) (fun r6 => if r6 = 0 then glet (v2 + 1) (fun x8 => f_X6_crashes_L4 t g fu v1 x8 s) else if 0 ≤ (r5 + 2) ∧ ((r5 + 2)).toNatClampNeg < 1968 then if 0 ≤ (r5 + 3) ∧ ((r5 + 3)).toNatClampNeg < 1968 then glet (v1 + ((s ((r5 + 2)).toNatClampNeg) - (s ((r5 + 3)).toNatClampNeg))) (fun x9 => if 0 ≤ (r5 + 3) ∧ ((r5 + 3)).toNatClampNeg < 1968 then if 0 ≤ (r5 + 2) ∧ ((r5 + 2)).toNatClampNeg < 1968 then glet (upd s ((r5 + 2)).toNatClampNeg (s ((r5 + 3)).toNatClampNeg)) (fun s11 => if 0 ≤ (r5 + 5) ∧ ((r5 + 5)).toNatClampNeg < 1968 then glet (upd s11 ((r5 + 5)).toNatClampNeg 1) (fun s13 => if 0 ≤ (r5 + 4) ∧ ((r5 + 4)).toNatClampNeg < 1968 then glet (upd s13 ((r5 + 4)).toNatClampNeg 0) (fun s15 => glet (v2 + 1) (fun x16 => f_X6_crashes_L4 t g fu x9 x16 s15)) else none) else none) else none else none) else none else none))
def f_X6_crashes (s : Nat → Int32) (t : Nat → Int32) (g : Nat → Int32) : Option (Int32 × (Nat → Int32)) := f_X6_crashes_L4 t g gFu 0 0 s
set_option maxRecDepth 20000 in
theorem in_X6_crashes : ∀ w ∈ wsX60, w ∈ wsX6_crashes := by decide +kernel
set_option maxRecDepth 20000 in
theorem fl_X6_crashes_7 : Cond.fieldLink RX6 7 (TX6 0).1 (TX6 0).2.1 (TX6 0).2.2.1 ∈ wsX6_crashes := by decide +kernel
set_option maxHeartbeats 4000000 in
set_option maxRecDepth 100000 in
theorem cl_X6_crashes_L4 {X : gX} {Z : gZ} {ad : Nat → Nat} {t : Nat → Int32} {g : Nat → Int32} {r : Int32} {s' : Nat → Int32} (C : GC X Z cX6_crashes 4 wsX6_crashes RX6 rm_X6_crashes 3 ad) (e : gEI X Z 3 ad .int r (mdlE Z.2.1 ad s' t g))  : ∀ (fu : Nat) (v1 : Int32) (v2 : Int32) (s : Nat → Int32) (h : f_X6_crashes_L4 t g fu v1 v2 s = some (r, s')), GG X Z 4 3 ad (mdlE Z.2.1 ad s t g) 4 [(0, .ref (ad 0)), (1, .int v1), (2, .int v2)] [] := by
  intro fu
  induction fu with
  | zero => intro v1 v2 s h; cases h
  | succ fu ih =>
    intro v1 v2 s h
    rw [f_X6_crashes_L4] at h
    refine g_iload_n C dX6_crashes_4 2 rfl ?_
    refine g_bipush (v := 8) C dX6_crashes_5 (by decide) ?_
    refine g_icmp_ge (tgt := 84) C dX6_crashes_7 (by decide) (fun c1 => ?_) (fun c1 => ?_)
    · replace h := gi_pos c1 h
      refine g_aload_n C dX6_crashes_84 0 rfl ?_
      refine g_getf (v := .ref (ad 1)) C 0 (by decide) rfl rfl in_X6_crashes 0 (by decide) fl_X6_crashes_7 rfl dX6_crashes_85 ?_
      refine g_sipush (v := 245) C dX6_crashes_88 (by decide) ?_
      refine g_dup2 C dX6_crashes_91 rfl rfl ?_
      obtain ⟨b4, h⟩ := gguard h
      refine g_iald C 1 (by decide) rfl (g_in b4) dX6_crashes_92 ?_
      refine g_iload_n C dX6_crashes_93 1 rfl ?_
      refine g_iadd C dX6_crashes_94 ?_
      obtain ⟨b2, h⟩ := gguard h
      obtain ⟨s3, es3, h⟩ := gl h
      refine g_iast C 1 (by decide) rfl (g_in b2) dX6_crashes_95 (mdlE Z.2.1 ad s3 t g) (by rw [es3]; exact mdlE_s) ?_
      refine g_iload_n C dX6_crashes_96 1 rfl ?_
      obtain ⟨rfl, rfl⟩ := gs2 h
      exact g_iret C e dX6_crashes_97
    · replace h := gi_neg c1 h
      refine g_iconst (v := 0) C dX6_crashes_10 (by decide) ?_
      refine g_iload_n C dX6_crashes_11 2 rfl ?_
      obtain ⟨r5, er5, h⟩ := gb1 h
      refine g_callSi (rest := []) C gX6_crashes_X6_at rfl ok_X6_at ⟨by decide, by decide⟩ ⟨rfl, rfl⟩ (cn_X6_at X.2.1 Z 0 v2 er5) rfl dX6_crashes_12 rfl (Nat.le_of_ble_eq_true rfl) ?_
      refine g_istore_n C dX6_crashes_15 (by decide) [(3, .int r5), (0, .ref (ad 0)), (1, .int v1), (2, .int v2)] rfl ?_
      refine g_aload_n C dX6_crashes_16 1 rfl ?_
      refine g_iload_n C dX6_crashes_17 3 rfl ?_
      obtain ⟨r6, er6, h⟩ := gb1 h
      refine g_callWi (rest := []) C gX6_crashes_X6_isThere rfl ok_X6_isThere ⟨by decide, by decide⟩ ⟨rfl, rfl⟩ 0 (by decide) rfl rfl (fun hI => cn_X6_isThere X.2.1 Z ad hI s t g v2 er6) rfl dX6_crashes_18 rfl (Nat.le_of_ble_eq_true rfl) ?_
      refine g_if_eq (tgt := 78) C dX6_crashes_21 (by decide) (fun c7 => ?_) (fun c7 => ?_)
      · replace h := gi_pos c7 h
        obtain ⟨x8, ex8, h⟩ := gl h
        refine g_iinc (v := x8) C dX6_crashes_78 3 rfl (by rw [ex8]; rfl) (by decide) [(2, .int x8), (3, .int r5), (0, .ref (ad 0)), (1, .int v1)] rfl ?_
        refine g_goto (tgt := 4) C dX6_crashes_81 (by decide) ?_
        exact g_sub [2, 3, 0] rfl (ih v1 x8 s h)
      · replace h := gi_neg c7 h
        refine g_iload_n C dX6_crashes_24 2 rfl ?_
        refine g_aload_n C dX6_crashes_25 1 rfl ?_
        refine g_getf (v := .ref (ad 1)) C 0 (by decide) rfl rfl in_X6_crashes 0 (by decide) fl_X6_crashes_7 rfl dX6_crashes_26 ?_
        refine g_iload_n C dX6_crashes_29 0 rfl ?_
        refine g_iconst (v := 2) C dX6_crashes_30 (by decide) ?_
        refine g_iadd C dX6_crashes_31 ?_
        obtain ⟨b19, h⟩ := gguard h
        refine g_iald C 1 (by decide) rfl (g_in b19) dX6_crashes_32 ?_
        refine g_aload_n C dX6_crashes_33 1 rfl ?_
        refine g_getf (v := .ref (ad 1)) C 0 (by decide) rfl rfl in_X6_crashes 0 (by decide) fl_X6_crashes_7 rfl dX6_crashes_34 ?_
        refine g_iload_n C dX6_crashes_37 0 rfl ?_
        refine g_iconst (v := 3) C dX6_crashes_38 (by decide) ?_
        refine g_iadd C dX6_crashes_39 ?_
        obtain ⟨b18, h⟩ := gguard h
        refine g_iald C 1 (by decide) rfl (g_in b18) dX6_crashes_40 ?_
        refine g_isub C dX6_crashes_41 ?_
        refine g_iadd C dX6_crashes_42 ?_
        obtain ⟨x9, ex9, h⟩ := gl h
        refine g_istore_n C dX6_crashes_43 (by decide) [(1, .int x9), (3, .int r5), (0, .ref (ad 0)), (2, .int v2)] (by rw [ex9]; rfl) ?_
        refine g_aload_n C dX6_crashes_44 2 rfl ?_
        refine g_getf (v := .ref (ad 1)) C 0 (by decide) rfl rfl in_X6_crashes 0 (by decide) fl_X6_crashes_7 rfl dX6_crashes_45 ?_
        refine g_iload_n C dX6_crashes_48 1 rfl ?_
        refine g_iconst (v := 2) C dX6_crashes_49 (by decide) ?_
        refine g_iadd C dX6_crashes_50 ?_
        refine g_aload_n C dX6_crashes_51 2 rfl ?_
        refine g_getf (v := .ref (ad 1)) C 0 (by decide) rfl rfl in_X6_crashes 0 (by decide) fl_X6_crashes_7 rfl dX6_crashes_52 ?_
        refine g_iload_n C dX6_crashes_55 1 rfl ?_
        refine g_iconst (v := 3) C dX6_crashes_56 (by decide) ?_
        refine g_iadd C dX6_crashes_57 ?_
        obtain ⟨b17, h⟩ := gguard h
        refine g_iald C 1 (by decide) rfl (g_in b17) dX6_crashes_58 ?_
        obtain ⟨b10, h⟩ := gguard h
        obtain ⟨s11, es11, h⟩ := gl h
        refine g_iast C 1 (by decide) rfl (g_in b10) dX6_crashes_59 (mdlE Z.2.1 ad s11 t g) (by rw [es11]; exact mdlE_s) ?_
        refine g_aload_n C dX6_crashes_60 2 rfl ?_
        refine g_getf (v := .ref (ad 1)) C 0 (by decide) rfl rfl in_X6_crashes 0 (by decide) fl_X6_crashes_7 rfl dX6_crashes_61 ?_
        refine g_iload_n C dX6_crashes_64 1 rfl ?_
        refine g_iconst (v := 5) C dX6_crashes_65 (by decide) ?_
        refine g_iadd C dX6_crashes_66 ?_
        refine g_iconst (v := 1) C dX6_crashes_67 (by decide) ?_
        obtain ⟨b12, h⟩ := gguard h
        obtain ⟨s13, es13, h⟩ := gl h
        refine g_iast C 1 (by decide) rfl (g_in b12) dX6_crashes_68 (mdlE Z.2.1 ad s13 t g) (by rw [es13]; exact mdlE_s) ?_
        refine g_aload_n C dX6_crashes_69 2 rfl ?_
        refine g_getf (v := .ref (ad 1)) C 0 (by decide) rfl rfl in_X6_crashes 0 (by decide) fl_X6_crashes_7 rfl dX6_crashes_70 ?_
        refine g_iload_n C dX6_crashes_73 1 rfl ?_
        refine g_iconst (v := 4) C dX6_crashes_74 (by decide) ?_
        refine g_iadd C dX6_crashes_75 ?_
        refine g_iconst (v := 0) C dX6_crashes_76 (by decide) ?_
        obtain ⟨b14, h⟩ := gguard h
        obtain ⟨s15, es15, h⟩ := gl h
        refine g_iast C 1 (by decide) rfl (g_in b14) dX6_crashes_77 (mdlE Z.2.1 ad s15 t g) (by rw [es15]; exact mdlE_s) ?_
        obtain ⟨x16, ex16, h⟩ := gl h
        refine g_iinc (v := x16) C dX6_crashes_78 3 rfl (by rw [ex16]; rfl) (by decide) [(2, .int x16), (1, .int x9), (3, .int r5), (0, .ref (ad 0))] rfl ?_
        refine g_goto (tgt := 4) C dX6_crashes_81 (by decide) ?_
        exact g_sub [3, 1, 0] rfl (ih x9 x16 s15 h)
set_option maxHeartbeats 4000000 in
set_option maxRecDepth 100000 in
theorem cn_X6_crashes (l : Launch) (Z : gZ) (ad : Nat → Nat) (hI : gInj 3 ad) (s : Nat → Int32) (t : Nat → Int32) (g : Nat → Int32) {r : Int32} {s' : Nat → Int32} (h : f_X6_crashes s t g = some (r, s')) : gI l yX6_crashes wsX6_crashes rm_X6_crashes Z 3 ad [.ref (ad 0)] (mdlE Z.2.1 ad s t g) r (mdlE Z.2.1 ad s' t g) := by
  refine g_entryI (cc := cX6_crashes) (maxL := 4) (by decide +kernel) rfl hI (Nat.le_of_ble_eq_true rfl) (fun X C e => ?_)
  unfold f_X6_crashes at h
  show GG X Z 4 3 ad (mdlE Z.2.1 ad s t g) 0 [(0, .ref (ad 0))] []
  refine g_iconst (v := 0) C dX6_crashes_0 (by decide) ?_
  refine g_istore_n C dX6_crashes_1 (by decide) [(1, .int 0), (0, .ref (ad 0))] rfl ?_
  refine g_iconst (v := 0) C dX6_crashes_2 (by decide) ?_
  refine g_istore_n C dX6_crashes_3 (by decide) [(2, .int 0), (1, .int 0), (0, .ref (ad 0))] rfl ?_
  exact g_sub [2, 1, 0] rfl (cl_X6_crashes_L4 C e gFu 0 0 s h)
abbrev rm_X6_mends : Room := ({ frames := 3, cells := 0, slots := 0, locals := 69 } : Room)
def f_X6_mends_L4 (t : Nat → Int32) (g : Nat → Int32) : Nat → Int32 → Int32 → (Nat → Int32) → Option (Int32 × (Nat → Int32))
  | 0, _, _, _ => none
  | fu + 1, v1, v2, s => if 8 ≤ v2 then some (v1, s) else gb (f_X6_isThere s t g v2) (fun r2 => if r2 = 0 then glet (v1 + 0) (fun x4 => glet (v2 + 1) (fun x5 => f_X6_mends_L4 t g fu x4 x5 s)) else gb (f_X6_isOpen s t g v2) (fun r6 => if r6 = 0 then gbb2 (f_X6_givesBack s t g 0 v2) (fun r10 s11 => glet (v1 + r10) (fun x12 => glet (v2 + 1) (fun x13 => f_X6_mends_L4 t g fu x12 x13 s11))) else glet (v1 + 0) (fun x8 => glet (v2 + 1) (fun x9 => f_X6_mends_L4 t g fu x8 x9 s))))
def f_X6_mends (s : Nat → Int32) (t : Nat → Int32) (g : Nat → Int32) : Option (Int32 × (Nat → Int32)) := f_X6_mends_L4 t g gFu 0 0 s
set_option maxHeartbeats 4000000 in
set_option maxRecDepth 100000 in
theorem cl_X6_mends_L4 {X : gX} {Z : gZ} {ad : Nat → Nat} {t : Nat → Int32} {g : Nat → Int32} {r : Int32} {s' : Nat → Int32} (C : GC X Z cX6_mends 3 wsX6_mends RX6 rm_X6_mends 3 ad) (e : gEI X Z 3 ad .int r (mdlE Z.2.1 ad s' t g))  : ∀ (fu : Nat) (v1 : Int32) (v2 : Int32) (s : Nat → Int32) (h : f_X6_mends_L4 t g fu v1 v2 s = some (r, s')), GG X Z 3 3 ad (mdlE Z.2.1 ad s t g) 4 [(0, .ref (ad 0)), (1, .int v1), (2, .int v2)] [] := by
  intro fu
  induction fu with
  | zero => intro v1 v2 s h; cases h
  | succ fu ih =>
    intro v1 v2 s h
    rw [f_X6_mends_L4] at h
    refine g_iload_n C dX6_mends_4 2 rfl ?_
    refine g_bipush (v := 8) C dX6_mends_5 (by decide) ?_
    refine g_icmp_ge (tgt := 45) C dX6_mends_7 (by decide) (fun c1 => ?_) (fun c1 => ?_)
    · replace h := gi_pos c1 h
      refine g_iload_n C dX6_mends_45 1 rfl ?_
      obtain ⟨rfl, rfl⟩ := gs2 h
      exact g_iret C e dX6_mends_46
    · replace h := gi_neg c1 h
      refine g_iload_n C dX6_mends_10 1 rfl ?_
      refine g_aload_n C dX6_mends_11 0 rfl ?_
      refine g_iload_n C dX6_mends_12 2 rfl ?_
      obtain ⟨r2, er2, h⟩ := gb1 h
      refine g_callWi (rest := [.int v1]) C gX6_mends_X6_isThere rfl ok_X6_isThere ⟨by decide, by decide⟩ ⟨rfl, rfl⟩ 0 (by decide) rfl rfl (fun hI => cn_X6_isThere X.2.1 Z ad hI s t g v2 er2) rfl dX6_mends_13 rfl (Nat.le_of_ble_eq_true rfl) ?_
      refine g_if_eq (tgt := 36) C dX6_mends_16 (by decide) (fun c3 => ?_) (fun c3 => ?_)
      · replace h := gi_pos c3 h
        refine g_iconst (v := 0) C dX6_mends_36 (by decide) ?_
        refine g_iadd C dX6_mends_37 ?_
        obtain ⟨x4, ex4, h⟩ := gl h
        refine g_istore_n C dX6_mends_38 (by decide) [(1, .int x4), (0, .ref (ad 0)), (2, .int v2)] (by rw [ex4]; rfl) ?_
        obtain ⟨x5, ex5, h⟩ := gl h
        refine g_iinc (v := x5) C dX6_mends_39 2 rfl (by rw [ex5]; rfl) (by decide) [(2, .int x5), (1, .int x4), (0, .ref (ad 0))] rfl ?_
        refine g_goto (tgt := 4) C dX6_mends_42 (by decide) ?_
        exact g_sub [2, 1, 0] rfl (ih x4 x5 s h)
      · replace h := gi_neg c3 h
        refine g_aload_n C dX6_mends_19 0 rfl ?_
        refine g_iload_n C dX6_mends_20 2 rfl ?_
        obtain ⟨r6, er6, h⟩ := gb1 h
        refine g_callWi (rest := [.int v1]) C gX6_mends_X6_isOpen rfl ok_X6_isOpen ⟨by decide, by decide⟩ ⟨rfl, rfl⟩ 0 (by decide) rfl rfl (fun hI => cn_X6_isOpen X.2.1 Z ad hI s t g v2 er6) rfl dX6_mends_21 rfl (Nat.le_of_ble_eq_true rfl) ?_
        refine g_if_ne (tgt := 36) C dX6_mends_24 (by decide) (fun c7 => ?_) (fun c7 => ?_)
        · replace h := gi_neg c7 h
          refine g_iconst (v := 0) C dX6_mends_36 (by decide) ?_
          refine g_iadd C dX6_mends_37 ?_
          obtain ⟨x8, ex8, h⟩ := gl h
          refine g_istore_n C dX6_mends_38 (by decide) [(1, .int x8), (0, .ref (ad 0)), (2, .int v2)] (by rw [ex8]; rfl) ?_
          obtain ⟨x9, ex9, h⟩ := gl h
          refine g_iinc (v := x9) C dX6_mends_39 2 rfl (by rw [ex9]; rfl) (by decide) [(2, .int x9), (1, .int x8), (0, .ref (ad 0))] rfl ?_
          refine g_goto (tgt := 4) C dX6_mends_42 (by decide) ?_
          exact g_sub [2, 1, 0] rfl (ih x8 x9 s h)
        · replace h := gi_pos c7 h
          refine g_aload_n C dX6_mends_27 0 rfl ?_
          refine g_iconst (v := 0) C dX6_mends_28 (by decide) ?_
          refine g_iload_n C dX6_mends_29 2 rfl ?_
          obtain ⟨r10, s11, er10, h⟩ := gb2 h
          refine g_callWi (rest := [.int v1]) C gX6_mends_X6_givesBack rfl ok_X6_givesBack ⟨by decide, by decide⟩ ⟨rfl, rfl⟩ 0 (by decide) rfl rfl (fun hI => cn_X6_givesBack X.2.1 Z ad hI s t g 0 v2 er10) rfl dX6_mends_30 rfl (Nat.le_of_ble_eq_true rfl) ?_
          refine g_goto (tgt := 37) C dX6_mends_33 (by decide) ?_
          refine g_iadd C dX6_mends_37 ?_
          obtain ⟨x12, ex12, h⟩ := gl h
          refine g_istore_n C dX6_mends_38 (by decide) [(1, .int x12), (0, .ref (ad 0)), (2, .int v2)] (by rw [ex12]; rfl) ?_
          obtain ⟨x13, ex13, h⟩ := gl h
          refine g_iinc (v := x13) C dX6_mends_39 2 rfl (by rw [ex13]; rfl) (by decide) [(2, .int x13), (1, .int x12), (0, .ref (ad 0))] rfl ?_
          refine g_goto (tgt := 4) C dX6_mends_42 (by decide) ?_
          exact g_sub [2, 1, 0] rfl (ih x12 x13 s11 h)
set_option maxHeartbeats 4000000 in
set_option maxRecDepth 100000 in
theorem cn_X6_mends (l : Launch) (Z : gZ) (ad : Nat → Nat) (hI : gInj 3 ad) (s : Nat → Int32) (t : Nat → Int32) (g : Nat → Int32) {r : Int32} {s' : Nat → Int32} (h : f_X6_mends s t g = some (r, s')) : gI l yX6_mends wsX6_mends rm_X6_mends Z 3 ad [.ref (ad 0)] (mdlE Z.2.1 ad s t g) r (mdlE Z.2.1 ad s' t g) := by
  refine g_entryI (cc := cX6_mends) (maxL := 3) (by decide +kernel) rfl hI (Nat.le_of_ble_eq_true rfl) (fun X C e => ?_)
  unfold f_X6_mends at h
  show GG X Z 3 3 ad (mdlE Z.2.1 ad s t g) 0 [(0, .ref (ad 0))] []
  refine g_iconst (v := 0) C dX6_mends_0 (by decide) ?_
  refine g_istore_n C dX6_mends_1 (by decide) [(1, .int 0), (0, .ref (ad 0))] rfl ?_
  refine g_iconst (v := 0) C dX6_mends_2 (by decide) ?_
  refine g_istore_n C dX6_mends_3 (by decide) [(2, .int 0), (1, .int 0), (0, .ref (ad 0))] rfl ?_
  exact g_sub [2, 1, 0] rfl (cl_X6_mends_L4 C e gFu 0 0 s h)
abbrev rm_X6_create : Room := ({ frames := 3, cells := 0, slots := 0, locals := 65 } : Room)
def f_X6_create (s : Nat → Int32) (t : Nat → Int32) (g : Nat → Int32) : Option (Int32 × (Nat → Int32) × (Nat → Int32)) := gb (f_X6_createError s t g) (fun r1 => if r1 = 0 then gbb2 (f_X6_records s t g) (fun s3 g4 => gbb2 (f_X6_creates s3 t g4) (fun r5 s6 => some (r5, s6, g4))) else some (r1, s, g))
set_option maxHeartbeats 4000000 in
set_option maxRecDepth 100000 in
theorem cn_X6_create (l : Launch) (Z : gZ) (ad : Nat → Nat) (hI : gInj 3 ad) (s : Nat → Int32) (t : Nat → Int32) (g : Nat → Int32) {r : Int32} {s' : Nat → Int32} {g' : Nat → Int32} (h : f_X6_create s t g = some (r, s', g')) : gI l yX6_create wsX6_create rm_X6_create Z 3 ad [.ref (ad 0)] (mdlE Z.2.1 ad s t g) r (mdlE Z.2.1 ad s' t g') := by
  refine g_entryI (cc := cX6_create) (maxL := 2) (by decide +kernel) rfl hI (Nat.le_of_ble_eq_true rfl) (fun X C e => ?_)
  unfold f_X6_create at h
  show GG X Z 2 3 ad (mdlE Z.2.1 ad s t g) 0 [(0, .ref (ad 0))] []
  refine g_aload_n C dX6_create_0 0 rfl ?_
  obtain ⟨r1, er1, h⟩ := gb1 h
  refine g_callWi (rest := []) C gX6_create_X6_createError rfl ok_X6_createError ⟨by decide, by decide⟩ ⟨rfl, rfl⟩ 0 (by decide) rfl rfl (fun hI => cn_X6_createError X.2.1 Z ad hI s t g  er1) rfl dX6_create_1 rfl (Nat.le_of_ble_eq_true rfl) ?_
  refine g_istore_n C dX6_create_4 (by decide) [(1, .int r1), (0, .ref (ad 0))] rfl ?_
  refine g_iload_n C dX6_create_5 0 rfl ?_
  refine g_if_eq (tgt := 11) C dX6_create_6 (by decide) (fun c2 => ?_) (fun c2 => ?_)
  · replace h := gi_pos c2 h
    refine g_aload_n C dX6_create_11 1 rfl ?_
    obtain ⟨s3, g4, es3, h⟩ := gb2 h
    refine g_callWv (rest := []) C gX6_create_X6_records rfl ok_X6_records ⟨by decide, by decide⟩ ⟨rfl, rfl⟩ 0 (by decide) rfl rfl (fun hI => cn_X6_records X.2.1 Z ad hI s t g  es3) rfl dX6_create_12 rfl (Nat.le_of_ble_eq_true rfl) ?_
    refine g_aload_n C dX6_create_15 1 rfl ?_
    obtain ⟨r5, s6, er5, h⟩ := gb2 h
    refine g_callWi (rest := []) C gX6_create_X6_creates rfl ok_X6_creates ⟨by decide, by decide⟩ ⟨rfl, rfl⟩ 0 (by decide) rfl rfl (fun hI => cn_X6_creates X.2.1 Z ad hI s3 t g4  er5) rfl dX6_create_16 rfl (Nat.le_of_ble_eq_true rfl) ?_
    obtain ⟨rfl, rfl, rfl⟩ := gs3 h
    exact g_iret C e dX6_create_19
  · replace h := gi_neg c2 h
    refine g_iload_n C dX6_create_9 0 rfl ?_
    obtain ⟨rfl, rfl, rfl⟩ := gs3 h
    exact g_iret C e dX6_create_10
abbrev rm_X6_open : Room := ({ frames := 4, cells := 0, slots := 0, locals := 86 } : Room)
def f_X6_open (s : Nat → Int32) (t : Nat → Int32) (g : Nat → Int32) (v1 : Int32) : Option (Int32 × (Nat → Int32) × (Nat → Int32)) := gb (f_X6_openError s t g v1) (fun r1 => if r1 = 0 then gbb2 (f_X6_records s t g) (fun s3 g4 => gbb2 (f_X6_opens s3 t g4 v1) (fun r5 s6 => some (r5, s6, g4))) else some (r1, s, g))
set_option maxHeartbeats 4000000 in
set_option maxRecDepth 100000 in
theorem cn_X6_open (l : Launch) (Z : gZ) (ad : Nat → Nat) (hI : gInj 3 ad) (s : Nat → Int32) (t : Nat → Int32) (g : Nat → Int32) (v1 : Int32) {r : Int32} {s' : Nat → Int32} {g' : Nat → Int32} (h : f_X6_open s t g v1 = some (r, s', g')) : gI l yX6_open wsX6_open rm_X6_open Z 3 ad [.ref (ad 0), .int v1] (mdlE Z.2.1 ad s t g) r (mdlE Z.2.1 ad s' t g') := by
  refine g_entryI (cc := cX6_open) (maxL := 3) (by decide +kernel) rfl hI (Nat.le_of_ble_eq_true rfl) (fun X C e => ?_)
  unfold f_X6_open at h
  show GG X Z 3 3 ad (mdlE Z.2.1 ad s t g) 0 [(0, .ref (ad 0)), (1, .int v1)] []
  refine g_aload_n C dX6_open_0 0 rfl ?_
  refine g_iload_n C dX6_open_1 1 rfl ?_
  obtain ⟨r1, er1, h⟩ := gb1 h
  refine g_callWi (rest := []) C gX6_open_X6_openError rfl ok_X6_openError ⟨by decide, by decide⟩ ⟨rfl, rfl⟩ 0 (by decide) rfl rfl (fun hI => cn_X6_openError X.2.1 Z ad hI s t g v1 er1) rfl dX6_open_2 rfl (Nat.le_of_ble_eq_true rfl) ?_
  refine g_istore_n C dX6_open_5 (by decide) [(2, .int r1), (0, .ref (ad 0)), (1, .int v1)] rfl ?_
  refine g_iload_n C dX6_open_6 0 rfl ?_
  refine g_if_eq (tgt := 12) C dX6_open_7 (by decide) (fun c2 => ?_) (fun c2 => ?_)
  · replace h := gi_pos c2 h
    refine g_aload_n C dX6_open_12 1 rfl ?_
    obtain ⟨s3, g4, es3, h⟩ := gb2 h
    refine g_callWv (rest := []) C gX6_open_X6_records rfl ok_X6_records ⟨by decide, by decide⟩ ⟨rfl, rfl⟩ 0 (by decide) rfl rfl (fun hI => cn_X6_records X.2.1 Z ad hI s t g  es3) rfl dX6_open_13 rfl (Nat.le_of_ble_eq_true rfl) ?_
    refine g_aload_n C dX6_open_16 1 rfl ?_
    refine g_iload_n C dX6_open_17 2 rfl ?_
    obtain ⟨r5, s6, er5, h⟩ := gb2 h
    refine g_callWi (rest := []) C gX6_open_X6_opens rfl ok_X6_opens ⟨by decide, by decide⟩ ⟨rfl, rfl⟩ 0 (by decide) rfl rfl (fun hI => cn_X6_opens X.2.1 Z ad hI s3 t g4 v1 er5) rfl dX6_open_18 rfl (Nat.le_of_ble_eq_true rfl) ?_
    obtain ⟨rfl, rfl, rfl⟩ := gs3 h
    exact g_iret C e dX6_open_21
  · replace h := gi_neg c2 h
    refine g_iload_n C dX6_open_10 0 rfl ?_
    obtain ⟨rfl, rfl, rfl⟩ := gs3 h
    exact g_iret C e dX6_open_11
abbrev rm_X6_close : Room := ({ frames := 4, cells := 0, slots := 0, locals := 91 } : Room)
def f_X6_close (s : Nat → Int32) (t : Nat → Int32) (g : Nat → Int32) (v1 : Int32) : Option (Int32 × (Nat → Int32) × (Nat → Int32)) := gb (f_X6_closeError s t g v1) (fun r1 => if r1 = 0 then gbb2 (f_X6_records s t g) (fun s3 g4 => gbb2 (f_X6_closes s3 t g4 v1) (fun r5 s6 => some (r5, s6, g4))) else some (r1, s, g))
set_option maxHeartbeats 4000000 in
set_option maxRecDepth 100000 in
theorem cn_X6_close (l : Launch) (Z : gZ) (ad : Nat → Nat) (hI : gInj 3 ad) (s : Nat → Int32) (t : Nat → Int32) (g : Nat → Int32) (v1 : Int32) {r : Int32} {s' : Nat → Int32} {g' : Nat → Int32} (h : f_X6_close s t g v1 = some (r, s', g')) : gI l yX6_close wsX6_close rm_X6_close Z 3 ad [.ref (ad 0), .int v1] (mdlE Z.2.1 ad s t g) r (mdlE Z.2.1 ad s' t g') := by
  refine g_entryI (cc := cX6_close) (maxL := 3) (by decide +kernel) rfl hI (Nat.le_of_ble_eq_true rfl) (fun X C e => ?_)
  unfold f_X6_close at h
  show GG X Z 3 3 ad (mdlE Z.2.1 ad s t g) 0 [(0, .ref (ad 0)), (1, .int v1)] []
  refine g_aload_n C dX6_close_0 0 rfl ?_
  refine g_iload_n C dX6_close_1 1 rfl ?_
  obtain ⟨r1, er1, h⟩ := gb1 h
  refine g_callWi (rest := []) C gX6_close_X6_closeError rfl ok_X6_closeError ⟨by decide, by decide⟩ ⟨rfl, rfl⟩ 0 (by decide) rfl rfl (fun hI => cn_X6_closeError X.2.1 Z ad hI s t g v1 er1) rfl dX6_close_2 rfl (Nat.le_of_ble_eq_true rfl) ?_
  refine g_istore_n C dX6_close_5 (by decide) [(2, .int r1), (0, .ref (ad 0)), (1, .int v1)] rfl ?_
  refine g_iload_n C dX6_close_6 0 rfl ?_
  refine g_if_eq (tgt := 12) C dX6_close_7 (by decide) (fun c2 => ?_) (fun c2 => ?_)
  · replace h := gi_pos c2 h
    refine g_aload_n C dX6_close_12 1 rfl ?_
    obtain ⟨s3, g4, es3, h⟩ := gb2 h
    refine g_callWv (rest := []) C gX6_close_X6_records rfl ok_X6_records ⟨by decide, by decide⟩ ⟨rfl, rfl⟩ 0 (by decide) rfl rfl (fun hI => cn_X6_records X.2.1 Z ad hI s t g  es3) rfl dX6_close_13 rfl (Nat.le_of_ble_eq_true rfl) ?_
    refine g_aload_n C dX6_close_16 1 rfl ?_
    refine g_iload_n C dX6_close_17 2 rfl ?_
    obtain ⟨r5, s6, er5, h⟩ := gb2 h
    refine g_callWi (rest := []) C gX6_close_X6_closes rfl ok_X6_closes ⟨by decide, by decide⟩ ⟨rfl, rfl⟩ 0 (by decide) rfl rfl (fun hI => cn_X6_closes X.2.1 Z ad hI s3 t g4 v1 er5) rfl dX6_close_18 rfl (Nat.le_of_ble_eq_true rfl) ?_
    obtain ⟨rfl, rfl, rfl⟩ := gs3 h
    exact g_iret C e dX6_close_21
  · replace h := gi_neg c2 h
    refine g_iload_n C dX6_close_10 0 rfl ?_
    obtain ⟨rfl, rfl, rfl⟩ := gs3 h
    exact g_iret C e dX6_close_11
abbrev rm_X6_remove : Room := ({ frames := 3, cells := 0, slots := 0, locals := 68 } : Room)
def f_X6_remove (s : Nat → Int32) (t : Nat → Int32) (g : Nat → Int32) (v1 : Int32) : Option (Int32 × (Nat → Int32) × (Nat → Int32)) := gb (f_X6_openError s t g v1) (fun r1 => if r1 = 0 then gbb2 (f_X6_records s t g) (fun s3 g4 => gbb2 (f_X6_removes s3 t g4 v1) (fun r5 s6 => some (r5, s6, g4))) else some (r1, s, g))
set_option maxHeartbeats 4000000 in
set_option maxRecDepth 100000 in
theorem cn_X6_remove (l : Launch) (Z : gZ) (ad : Nat → Nat) (hI : gInj 3 ad) (s : Nat → Int32) (t : Nat → Int32) (g : Nat → Int32) (v1 : Int32) {r : Int32} {s' : Nat → Int32} {g' : Nat → Int32} (h : f_X6_remove s t g v1 = some (r, s', g')) : gI l yX6_remove wsX6_remove rm_X6_remove Z 3 ad [.ref (ad 0), .int v1] (mdlE Z.2.1 ad s t g) r (mdlE Z.2.1 ad s' t g') := by
  refine g_entryI (cc := cX6_remove) (maxL := 3) (by decide +kernel) rfl hI (Nat.le_of_ble_eq_true rfl) (fun X C e => ?_)
  unfold f_X6_remove at h
  show GG X Z 3 3 ad (mdlE Z.2.1 ad s t g) 0 [(0, .ref (ad 0)), (1, .int v1)] []
  refine g_aload_n C dX6_remove_0 0 rfl ?_
  refine g_iload_n C dX6_remove_1 1 rfl ?_
  obtain ⟨r1, er1, h⟩ := gb1 h
  refine g_callWi (rest := []) C gX6_remove_X6_openError rfl ok_X6_openError ⟨by decide, by decide⟩ ⟨rfl, rfl⟩ 0 (by decide) rfl rfl (fun hI => cn_X6_openError X.2.1 Z ad hI s t g v1 er1) rfl dX6_remove_2 rfl (Nat.le_of_ble_eq_true rfl) ?_
  refine g_istore_n C dX6_remove_5 (by decide) [(2, .int r1), (0, .ref (ad 0)), (1, .int v1)] rfl ?_
  refine g_iload_n C dX6_remove_6 0 rfl ?_
  refine g_if_eq (tgt := 12) C dX6_remove_7 (by decide) (fun c2 => ?_) (fun c2 => ?_)
  · replace h := gi_pos c2 h
    refine g_aload_n C dX6_remove_12 1 rfl ?_
    obtain ⟨s3, g4, es3, h⟩ := gb2 h
    refine g_callWv (rest := []) C gX6_remove_X6_records rfl ok_X6_records ⟨by decide, by decide⟩ ⟨rfl, rfl⟩ 0 (by decide) rfl rfl (fun hI => cn_X6_records X.2.1 Z ad hI s t g  es3) rfl dX6_remove_13 rfl (Nat.le_of_ble_eq_true rfl) ?_
    refine g_aload_n C dX6_remove_16 1 rfl ?_
    refine g_iload_n C dX6_remove_17 2 rfl ?_
    obtain ⟨r5, s6, er5, h⟩ := gb2 h
    refine g_callWi (rest := []) C gX6_remove_X6_removes rfl ok_X6_removes ⟨by decide, by decide⟩ ⟨rfl, rfl⟩ 0 (by decide) rfl rfl (fun hI => cn_X6_removes X.2.1 Z ad hI s3 t g4 v1 er5) rfl dX6_remove_18 rfl (Nat.le_of_ble_eq_true rfl) ?_
    obtain ⟨rfl, rfl, rfl⟩ := gs3 h
    exact g_iret C e dX6_remove_21
  · replace h := gi_neg c2 h
    refine g_iload_n C dX6_remove_10 0 rfl ?_
    obtain ⟨rfl, rfl, rfl⟩ := gs3 h
    exact g_iret C e dX6_remove_11
abbrev rm_X6_sync : Room := ({ frames := 3, cells := 0, slots := 0, locals := 64 } : Room)
def f_X6_sync (s : Nat → Int32) (t : Nat → Int32) (g : Nat → Int32) (v1 : Int32) : Option (Int32 × (Nat → Int32) × (Nat → Int32)) := gb (f_X6_closeError s t g v1) (fun r1 => if r1 = 0 then gbb2 (f_X6_records s t g) (fun s3 g4 => gbb2 (f_X6_syncs s3 t g4 v1) (fun r5 s6 => some (r5, s6, g4))) else some (r1, s, g))
set_option maxHeartbeats 4000000 in
set_option maxRecDepth 100000 in
theorem cn_X6_sync (l : Launch) (Z : gZ) (ad : Nat → Nat) (hI : gInj 3 ad) (s : Nat → Int32) (t : Nat → Int32) (g : Nat → Int32) (v1 : Int32) {r : Int32} {s' : Nat → Int32} {g' : Nat → Int32} (h : f_X6_sync s t g v1 = some (r, s', g')) : gI l yX6_sync wsX6_sync rm_X6_sync Z 3 ad [.ref (ad 0), .int v1] (mdlE Z.2.1 ad s t g) r (mdlE Z.2.1 ad s' t g') := by
  refine g_entryI (cc := cX6_sync) (maxL := 3) (by decide +kernel) rfl hI (Nat.le_of_ble_eq_true rfl) (fun X C e => ?_)
  unfold f_X6_sync at h
  show GG X Z 3 3 ad (mdlE Z.2.1 ad s t g) 0 [(0, .ref (ad 0)), (1, .int v1)] []
  refine g_aload_n C dX6_sync_0 0 rfl ?_
  refine g_iload_n C dX6_sync_1 1 rfl ?_
  obtain ⟨r1, er1, h⟩ := gb1 h
  refine g_callWi (rest := []) C gX6_sync_X6_closeError rfl ok_X6_closeError ⟨by decide, by decide⟩ ⟨rfl, rfl⟩ 0 (by decide) rfl rfl (fun hI => cn_X6_closeError X.2.1 Z ad hI s t g v1 er1) rfl dX6_sync_2 rfl (Nat.le_of_ble_eq_true rfl) ?_
  refine g_istore_n C dX6_sync_5 (by decide) [(2, .int r1), (0, .ref (ad 0)), (1, .int v1)] rfl ?_
  refine g_iload_n C dX6_sync_6 0 rfl ?_
  refine g_if_eq (tgt := 12) C dX6_sync_7 (by decide) (fun c2 => ?_) (fun c2 => ?_)
  · replace h := gi_pos c2 h
    refine g_aload_n C dX6_sync_12 1 rfl ?_
    obtain ⟨s3, g4, es3, h⟩ := gb2 h
    refine g_callWv (rest := []) C gX6_sync_X6_records rfl ok_X6_records ⟨by decide, by decide⟩ ⟨rfl, rfl⟩ 0 (by decide) rfl rfl (fun hI => cn_X6_records X.2.1 Z ad hI s t g  es3) rfl dX6_sync_13 rfl (Nat.le_of_ble_eq_true rfl) ?_
    refine g_aload_n C dX6_sync_16 1 rfl ?_
    refine g_iload_n C dX6_sync_17 2 rfl ?_
    obtain ⟨r5, s6, er5, h⟩ := gb2 h
    refine g_callWi (rest := []) C gX6_sync_X6_syncs rfl ok_X6_syncs ⟨by decide, by decide⟩ ⟨rfl, rfl⟩ 0 (by decide) rfl rfl (fun hI => cn_X6_syncs X.2.1 Z ad hI s3 t g4 v1 er5) rfl dX6_sync_18 rfl (Nat.le_of_ble_eq_true rfl) ?_
    obtain ⟨rfl, rfl, rfl⟩ := gs3 h
    exact g_iret C e dX6_sync_21
  · replace h := gi_neg c2 h
    refine g_iload_n C dX6_sync_10 0 rfl ?_
    obtain ⟨rfl, rfl, rfl⟩ := gs3 h
    exact g_iret C e dX6_sync_11
abbrev rm_X6_append : Room := ({ frames := 5, cells := 0, slots := 0, locals := 125 } : Room)
def f_X6_append (s : Nat → Int32) (t : Nat → Int32) (g : Nat → Int32) (v1 : Int32) (v2 : Int32) (v3 : Int32) : Option (Int32 × (Nat → Int32) × (Nat → Int32)) := gb (f_X6_appendError s t g v1 v2 v3) (fun r1 => if r1 = 0 then gbb2 (f_X6_records s t g) (fun s3 g4 => gbb2 (f_X6_appends s3 t g4 0 v1 v2 v3) (fun r5 s6 => some (r5, s6, g4))) else some (r1, s, g))
set_option maxHeartbeats 4000000 in
set_option maxRecDepth 100000 in
theorem cn_X6_append (l : Launch) (Z : gZ) (ad : Nat → Nat) (hI : gInj 3 ad) (s : Nat → Int32) (t : Nat → Int32) (g : Nat → Int32) (v1 : Int32) (v2 : Int32) (v3 : Int32) {r : Int32} {s' : Nat → Int32} {g' : Nat → Int32} (h : f_X6_append s t g v1 v2 v3 = some (r, s', g')) : gI l yX6_append wsX6_append rm_X6_append Z 3 ad [.ref (ad 0), .int v1, .int v2, .int v3] (mdlE Z.2.1 ad s t g) r (mdlE Z.2.1 ad s' t g') := by
  refine g_entryI (cc := cX6_append) (maxL := 5) (by decide +kernel) rfl hI (Nat.le_of_ble_eq_true rfl) (fun X C e => ?_)
  unfold f_X6_append at h
  show GG X Z 5 3 ad (mdlE Z.2.1 ad s t g) 0 [(0, .ref (ad 0)), (1, .int v1), (2, .int v2), (3, .int v3)] []
  refine g_aload_n C dX6_append_0 0 rfl ?_
  refine g_iload_n C dX6_append_1 1 rfl ?_
  refine g_iload_n C dX6_append_2 2 rfl ?_
  refine g_iload_n C dX6_append_3 3 rfl ?_
  obtain ⟨r1, er1, h⟩ := gb1 h
  refine g_callWi (rest := []) C gX6_append_X6_appendError rfl ok_X6_appendError ⟨by decide, by decide⟩ ⟨rfl, rfl⟩ 0 (by decide) rfl rfl (fun hI => cn_X6_appendError X.2.1 Z ad hI s t g v1 v2 v3 er1) rfl dX6_append_4 rfl (Nat.le_of_ble_eq_true rfl) ?_
  refine g_istore C dX6_append_7 (by decide) [(4, .int r1), (0, .ref (ad 0)), (1, .int v1), (2, .int v2), (3, .int v3)] rfl ?_
  refine g_iload C dX6_append_9 0 rfl ?_
  refine g_if_eq (tgt := 17) C dX6_append_11 (by decide) (fun c2 => ?_) (fun c2 => ?_)
  · replace h := gi_pos c2 h
    refine g_aload_n C dX6_append_17 1 rfl ?_
    obtain ⟨s3, g4, es3, h⟩ := gb2 h
    refine g_callWv (rest := []) C gX6_append_X6_records rfl ok_X6_records ⟨by decide, by decide⟩ ⟨rfl, rfl⟩ 0 (by decide) rfl rfl (fun hI => cn_X6_records X.2.1 Z ad hI s t g  es3) rfl dX6_append_18 rfl (Nat.le_of_ble_eq_true rfl) ?_
    refine g_aload_n C dX6_append_21 1 rfl ?_
    refine g_iconst (v := 0) C dX6_append_22 (by decide) ?_
    refine g_iload_n C dX6_append_23 2 rfl ?_
    refine g_iload_n C dX6_append_24 3 rfl ?_
    refine g_iload_n C dX6_append_25 4 rfl ?_
    obtain ⟨r5, s6, er5, h⟩ := gb2 h
    refine g_callWi (rest := []) C gX6_append_X6_appends rfl ok_X6_appends ⟨by decide, by decide⟩ ⟨rfl, rfl⟩ 0 (by decide) rfl rfl (fun hI => cn_X6_appends X.2.1 Z ad hI s3 t g4 0 v1 v2 v3 er5) rfl dX6_append_26 rfl (Nat.le_of_ble_eq_true rfl) ?_
    obtain ⟨rfl, rfl, rfl⟩ := gs3 h
    exact g_iret C e dX6_append_29
  · replace h := gi_neg c2 h
    refine g_iload C dX6_append_14 0 rfl ?_
    obtain ⟨rfl, rfl, rfl⟩ := gs3 h
    exact g_iret C e dX6_append_16
abbrev rm_X6_cut : Room := ({ frames := 4, cells := 0, slots := 0, locals := 93 } : Room)
def f_X6_cut (s : Nat → Int32) (t : Nat → Int32) (g : Nat → Int32) (v1 : Int32) (v2 : Int32) : Option (Int32 × (Nat → Int32) × (Nat → Int32)) := gb (f_X6_cutError s t g v1 v2) (fun r1 => if r1 = 0 then gbb2 (f_X6_records s t g) (fun s3 g4 => gbb2 (f_X6_cuts s3 t g4 v1 v2) (fun r5 s6 => some (r5, s6, g4))) else some (r1, s, g))
set_option maxHeartbeats 4000000 in
set_option maxRecDepth 100000 in
theorem cn_X6_cut (l : Launch) (Z : gZ) (ad : Nat → Nat) (hI : gInj 3 ad) (s : Nat → Int32) (t : Nat → Int32) (g : Nat → Int32) (v1 : Int32) (v2 : Int32) {r : Int32} {s' : Nat → Int32} {g' : Nat → Int32} (h : f_X6_cut s t g v1 v2 = some (r, s', g')) : gI l yX6_cut wsX6_cut rm_X6_cut Z 3 ad [.ref (ad 0), .int v1, .int v2] (mdlE Z.2.1 ad s t g) r (mdlE Z.2.1 ad s' t g') := by
  refine g_entryI (cc := cX6_cut) (maxL := 4) (by decide +kernel) rfl hI (Nat.le_of_ble_eq_true rfl) (fun X C e => ?_)
  unfold f_X6_cut at h
  show GG X Z 4 3 ad (mdlE Z.2.1 ad s t g) 0 [(0, .ref (ad 0)), (1, .int v1), (2, .int v2)] []
  refine g_aload_n C dX6_cut_0 0 rfl ?_
  refine g_iload_n C dX6_cut_1 1 rfl ?_
  refine g_iload_n C dX6_cut_2 2 rfl ?_
  obtain ⟨r1, er1, h⟩ := gb1 h
  refine g_callWi (rest := []) C gX6_cut_X6_cutError rfl ok_X6_cutError ⟨by decide, by decide⟩ ⟨rfl, rfl⟩ 0 (by decide) rfl rfl (fun hI => cn_X6_cutError X.2.1 Z ad hI s t g v1 v2 er1) rfl dX6_cut_3 rfl (Nat.le_of_ble_eq_true rfl) ?_
  refine g_istore_n C dX6_cut_6 (by decide) [(3, .int r1), (0, .ref (ad 0)), (1, .int v1), (2, .int v2)] rfl ?_
  refine g_iload_n C dX6_cut_7 0 rfl ?_
  refine g_if_eq (tgt := 13) C dX6_cut_8 (by decide) (fun c2 => ?_) (fun c2 => ?_)
  · replace h := gi_pos c2 h
    refine g_aload_n C dX6_cut_13 1 rfl ?_
    obtain ⟨s3, g4, es3, h⟩ := gb2 h
    refine g_callWv (rest := []) C gX6_cut_X6_records rfl ok_X6_records ⟨by decide, by decide⟩ ⟨rfl, rfl⟩ 0 (by decide) rfl rfl (fun hI => cn_X6_records X.2.1 Z ad hI s t g  es3) rfl dX6_cut_14 rfl (Nat.le_of_ble_eq_true rfl) ?_
    refine g_aload_n C dX6_cut_17 1 rfl ?_
    refine g_iload_n C dX6_cut_18 2 rfl ?_
    refine g_iload_n C dX6_cut_19 3 rfl ?_
    obtain ⟨r5, s6, er5, h⟩ := gb2 h
    refine g_callWi (rest := []) C gX6_cut_X6_cuts rfl ok_X6_cuts ⟨by decide, by decide⟩ ⟨rfl, rfl⟩ 0 (by decide) rfl rfl (fun hI => cn_X6_cuts X.2.1 Z ad hI s3 t g4 v1 v2 er5) rfl dX6_cut_20 rfl (Nat.le_of_ble_eq_true rfl) ?_
    obtain ⟨rfl, rfl, rfl⟩ := gs3 h
    exact g_iret C e dX6_cut_23
  · replace h := gi_neg c2 h
    refine g_iload_n C dX6_cut_11 0 rfl ?_
    obtain ⟨rfl, rfl, rfl⟩ := gs3 h
    exact g_iret C e dX6_cut_12
abbrev rm_X6_crash : Room := ({ frames := 3, cells := 0, slots := 0, locals := 66 } : Room)
def f_X6_crash (s : Nat → Int32) (t : Nat → Int32) (g : Nat → Int32) : Option (Int32 × (Nat → Int32) × (Nat → Int32)) := gbb2 (f_X6_records s t g) (fun s1 g2 => gbb2 (f_X6_crashes s1 t g2) (fun r3 s4 => some (r3, s4, g2)))
set_option maxHeartbeats 4000000 in
set_option maxRecDepth 100000 in
theorem cn_X6_crash (l : Launch) (Z : gZ) (ad : Nat → Nat) (hI : gInj 3 ad) (s : Nat → Int32) (t : Nat → Int32) (g : Nat → Int32) {r : Int32} {s' : Nat → Int32} {g' : Nat → Int32} (h : f_X6_crash s t g = some (r, s', g')) : gI l yX6_crash wsX6_crash rm_X6_crash Z 3 ad [.ref (ad 0)] (mdlE Z.2.1 ad s t g) r (mdlE Z.2.1 ad s' t g') := by
  refine g_entryI (cc := cX6_crash) (maxL := 1) (by decide +kernel) rfl hI (Nat.le_of_ble_eq_true rfl) (fun X C e => ?_)
  unfold f_X6_crash at h
  show GG X Z 1 3 ad (mdlE Z.2.1 ad s t g) 0 [(0, .ref (ad 0))] []
  refine g_aload_n C dX6_crash_0 0 rfl ?_
  obtain ⟨s1, g2, es1, h⟩ := gb2 h
  refine g_callWv (rest := []) C gX6_crash_X6_records rfl ok_X6_records ⟨by decide, by decide⟩ ⟨rfl, rfl⟩ 0 (by decide) rfl rfl (fun hI => cn_X6_records X.2.1 Z ad hI s t g  es1) rfl dX6_crash_1 rfl (Nat.le_of_ble_eq_true rfl) ?_
  refine g_aload_n C dX6_crash_4 0 rfl ?_
  obtain ⟨r3, s4, er3, h⟩ := gb2 h
  refine g_callWi (rest := []) C gX6_crash_X6_crashes rfl ok_X6_crashes ⟨by decide, by decide⟩ ⟨rfl, rfl⟩ 0 (by decide) rfl rfl (fun hI => cn_X6_crashes X.2.1 Z ad hI s1 t g2  er3) rfl dX6_crash_5 rfl (Nat.le_of_ble_eq_true rfl) ?_
  obtain ⟨rfl, rfl, rfl⟩ := gs3 h
  exact g_iret C e dX6_crash_8
abbrev rm_X6_mend : Room := ({ frames := 4, cells := 0, slots := 0, locals := 91 } : Room)
def f_X6_mend (s : Nat → Int32) (t : Nat → Int32) (g : Nat → Int32) : Option (Int32 × (Nat → Int32) × (Nat → Int32)) := gbb2 (f_X6_records s t g) (fun s1 g2 => gbb2 (f_X6_mends s1 t g2) (fun r3 s4 => some (r3, s4, g2)))
set_option maxHeartbeats 4000000 in
set_option maxRecDepth 100000 in
theorem cn_X6_mend (l : Launch) (Z : gZ) (ad : Nat → Nat) (hI : gInj 3 ad) (s : Nat → Int32) (t : Nat → Int32) (g : Nat → Int32) {r : Int32} {s' : Nat → Int32} {g' : Nat → Int32} (h : f_X6_mend s t g = some (r, s', g')) : gI l yX6_mend wsX6_mend rm_X6_mend Z 3 ad [.ref (ad 0)] (mdlE Z.2.1 ad s t g) r (mdlE Z.2.1 ad s' t g') := by
  refine g_entryI (cc := cX6_mend) (maxL := 1) (by decide +kernel) rfl hI (Nat.le_of_ble_eq_true rfl) (fun X C e => ?_)
  unfold f_X6_mend at h
  show GG X Z 1 3 ad (mdlE Z.2.1 ad s t g) 0 [(0, .ref (ad 0))] []
  refine g_aload_n C dX6_mend_0 0 rfl ?_
  obtain ⟨s1, g2, es1, h⟩ := gb2 h
  refine g_callWv (rest := []) C gX6_mend_X6_records rfl ok_X6_records ⟨by decide, by decide⟩ ⟨rfl, rfl⟩ 0 (by decide) rfl rfl (fun hI => cn_X6_records X.2.1 Z ad hI s t g  es1) rfl dX6_mend_1 rfl (Nat.le_of_ble_eq_true rfl) ?_
  refine g_aload_n C dX6_mend_4 0 rfl ?_
  obtain ⟨r3, s4, er3, h⟩ := gb2 h
  refine g_callWi (rest := []) C gX6_mend_X6_mends rfl ok_X6_mends ⟨by decide, by decide⟩ ⟨rfl, rfl⟩ 0 (by decide) rfl rfl (fun hI => cn_X6_mends X.2.1 Z ad hI s1 t g2  er3) rfl dX6_mend_5 rfl (Nat.le_of_ble_eq_true rfl) ?_
  obtain ⟨rfl, rfl, rfl⟩ := gs3 h
  exact g_iret C e dX6_mend_8
abbrev rm_X6_set : Room := ({ frames := 2, cells := 0, slots := 0, locals := 44 } : Room)
def f_X6_set (s : Nat → Int32) (t : Nat → Int32) (g : Nat → Int32) (v1 : Int32) (v2 : Int32) : Option (Int32 × (Nat → Int32) × (Nat → Int32)) := gb (f_X6_in v1 0 1) (fun r1 => if r1 = 0 then some ((-1), s, g) else if v1 = 0 then gb (f_X6_in v2 0 16) (fun r12 => if r12 = 0 then some ((-2), s, g) else gbb2 (f_X6_records s t g) (fun s14 g15 => if 0 ≤ (240 + v1) ∧ ((240 + v1)).toNatClampNeg < 1968 then glet (s14 ((240 + v1)).toNatClampNeg) (fun x16 => if 0 ≤ (240 + v1) ∧ ((240 + v1)).toNatClampNeg < 1968 then glet (upd s14 ((240 + v1)).toNatClampNeg v2) (fun s18 => some (x16, s18, g15)) else none) else none)) else gb (f_X6_in v2 0 1) (fun r4 => if r4 = 0 then some ((-2), s, g) else gbb2 (f_X6_records s t g) (fun s6 g7 => if 0 ≤ (240 + v1) ∧ ((240 + v1)).toNatClampNeg < 1968 then glet (s6 ((240 + v1)).toNatClampNeg) (fun x8 => if 0 ≤ (240 + v1) ∧ ((240 + v1)).toNatClampNeg < 1968 then glet (upd s6 ((240 + v1)).toNatClampNeg v2) (fun s10 => some (x8, s10, g7)) else none) else none)))
set_option maxRecDepth 20000 in
theorem in_X6_set : ∀ w ∈ wsX60, w ∈ wsX6_set := by decide +kernel
set_option maxRecDepth 20000 in
theorem fl_X6_set_7 : Cond.fieldLink RX6 7 (TX6 0).1 (TX6 0).2.1 (TX6 0).2.2.1 ∈ wsX6_set := by decide +kernel
set_option maxHeartbeats 4000000 in
set_option maxRecDepth 100000 in
theorem cn_X6_set (l : Launch) (Z : gZ) (ad : Nat → Nat) (hI : gInj 3 ad) (s : Nat → Int32) (t : Nat → Int32) (g : Nat → Int32) (v1 : Int32) (v2 : Int32) {r : Int32} {s' : Nat → Int32} {g' : Nat → Int32} (h : f_X6_set s t g v1 v2 = some (r, s', g')) : gI l yX6_set wsX6_set rm_X6_set Z 3 ad [.ref (ad 0), .int v1, .int v2] (mdlE Z.2.1 ad s t g) r (mdlE Z.2.1 ad s' t g') := by
  refine g_entryI (cc := cX6_set) (maxL := 4) (by decide +kernel) rfl hI (Nat.le_of_ble_eq_true rfl) (fun X C e => ?_)
  unfold f_X6_set at h
  show GG X Z 4 3 ad (mdlE Z.2.1 ad s t g) 0 [(0, .ref (ad 0)), (1, .int v1), (2, .int v2)] []
  refine g_iload_n C dX6_set_0 1 rfl ?_
  refine g_iconst (v := 0) C dX6_set_1 (by decide) ?_
  refine g_iconst (v := 1) C dX6_set_2 (by decide) ?_
  obtain ⟨r1, er1, h⟩ := gb1 h
  refine g_callSi (rest := []) C gX6_set_X6_in rfl ok_X6_in ⟨by decide, by decide⟩ ⟨rfl, rfl⟩ (cn_X6_in X.2.1 Z v1 0 1 er1) rfl dX6_set_3 rfl (Nat.le_of_ble_eq_true rfl) ?_
  refine g_if_ne (tgt := 11) C dX6_set_6 (by decide) (fun c2 => ?_) (fun c2 => ?_)
  · replace h := gi_neg c2 h
    refine g_iload_n C dX6_set_11 2 rfl ?_
    refine g_iconst (v := 0) C dX6_set_12 (by decide) ?_
    refine g_iload_n C dX6_set_13 1 rfl ?_
    refine g_if_ne (tgt := 22) C dX6_set_14 (by decide) (fun c3 => ?_) (fun c3 => ?_)
    · replace h := gi_neg c3 h
      refine g_iconst (v := 1) C dX6_set_22 (by decide) ?_
      obtain ⟨r4, er4, h⟩ := gb1 h
      refine g_callSi (rest := []) C gX6_set_X6_in rfl ok_X6_in ⟨by decide, by decide⟩ ⟨rfl, rfl⟩ (cn_X6_in X.2.1 Z v2 0 1 er4) rfl dX6_set_23 rfl (Nat.le_of_ble_eq_true rfl) ?_
      refine g_if_ne (tgt := 32) C dX6_set_26 (by decide) (fun c5 => ?_) (fun c5 => ?_)
      · replace h := gi_neg c5 h
        refine g_aload_n C dX6_set_32 0 rfl ?_
        obtain ⟨s6, g7, es6, h⟩ := gb2 h
        refine g_callWv (rest := []) C gX6_set_X6_records rfl ok_X6_records ⟨by decide, by decide⟩ ⟨rfl, rfl⟩ 0 (by decide) rfl rfl (fun hI => cn_X6_records X.2.1 Z ad hI s t g  es6) rfl dX6_set_33 rfl (Nat.le_of_ble_eq_true rfl) ?_
        refine g_aload_n C dX6_set_36 0 rfl ?_
        refine g_getf (v := .ref (ad 1)) C 0 (by decide) rfl rfl in_X6_set 0 (by decide) fl_X6_set_7 rfl dX6_set_37 ?_
        refine g_sipush (v := 240) C dX6_set_40 (by decide) ?_
        refine g_iload_n C dX6_set_43 1 rfl ?_
        refine g_iadd C dX6_set_44 ?_
        obtain ⟨b11, h⟩ := gguard h
        refine g_iald C 1 (by decide) rfl (g_in b11) dX6_set_45 ?_
        obtain ⟨x8, ex8, h⟩ := gl h
        refine g_istore_n C dX6_set_46 (by decide) [(3, .int x8), (0, .ref (ad 0)), (1, .int v1), (2, .int v2)] (by rw [ex8]; rfl) ?_
        refine g_aload_n C dX6_set_47 1 rfl ?_
        refine g_getf (v := .ref (ad 1)) C 0 (by decide) rfl rfl in_X6_set 0 (by decide) fl_X6_set_7 rfl dX6_set_48 ?_
        refine g_sipush (v := 240) C dX6_set_51 (by decide) ?_
        refine g_iload_n C dX6_set_54 2 rfl ?_
        refine g_iadd C dX6_set_55 ?_
        refine g_iload_n C dX6_set_56 3 rfl ?_
        obtain ⟨b9, h⟩ := gguard h
        obtain ⟨s10, es10, h⟩ := gl h
        refine g_iast C 1 (by decide) rfl (g_in b9) dX6_set_57 (mdlE Z.2.1 ad s10 t g7) (by rw [es10]; exact mdlE_s) ?_
        refine g_iload_n C dX6_set_58 0 rfl ?_
        obtain ⟨rfl, rfl, rfl⟩ := gs3 h
        exact g_iret C e dX6_set_59
      · replace h := gi_pos c5 h
        refine g_bipush (v := (-2)) C dX6_set_29 (by decide) ?_
        obtain ⟨rfl, rfl, rfl⟩ := gs3 h
        exact g_iret C e dX6_set_31
    · replace h := gi_pos c3 h
      refine g_bipush (v := 16) C dX6_set_17 (by decide) ?_
      refine g_goto (tgt := 23) C dX6_set_19 (by decide) ?_
      obtain ⟨r12, er12, h⟩ := gb1 h
      refine g_callSi (rest := []) C gX6_set_X6_in rfl ok_X6_in ⟨by decide, by decide⟩ ⟨rfl, rfl⟩ (cn_X6_in X.2.1 Z v2 0 16 er12) rfl dX6_set_23 rfl (Nat.le_of_ble_eq_true rfl) ?_
      refine g_if_ne (tgt := 32) C dX6_set_26 (by decide) (fun c13 => ?_) (fun c13 => ?_)
      · replace h := gi_neg c13 h
        refine g_aload_n C dX6_set_32 0 rfl ?_
        obtain ⟨s14, g15, es14, h⟩ := gb2 h
        refine g_callWv (rest := []) C gX6_set_X6_records rfl ok_X6_records ⟨by decide, by decide⟩ ⟨rfl, rfl⟩ 0 (by decide) rfl rfl (fun hI => cn_X6_records X.2.1 Z ad hI s t g  es14) rfl dX6_set_33 rfl (Nat.le_of_ble_eq_true rfl) ?_
        refine g_aload_n C dX6_set_36 0 rfl ?_
        refine g_getf (v := .ref (ad 1)) C 0 (by decide) rfl rfl in_X6_set 0 (by decide) fl_X6_set_7 rfl dX6_set_37 ?_
        refine g_sipush (v := 240) C dX6_set_40 (by decide) ?_
        refine g_iload_n C dX6_set_43 1 rfl ?_
        refine g_iadd C dX6_set_44 ?_
        obtain ⟨b19, h⟩ := gguard h
        refine g_iald C 1 (by decide) rfl (g_in b19) dX6_set_45 ?_
        obtain ⟨x16, ex16, h⟩ := gl h
        refine g_istore_n C dX6_set_46 (by decide) [(3, .int x16), (0, .ref (ad 0)), (1, .int v1), (2, .int v2)] (by rw [ex16]; rfl) ?_
        refine g_aload_n C dX6_set_47 1 rfl ?_
        refine g_getf (v := .ref (ad 1)) C 0 (by decide) rfl rfl in_X6_set 0 (by decide) fl_X6_set_7 rfl dX6_set_48 ?_
        refine g_sipush (v := 240) C dX6_set_51 (by decide) ?_
        refine g_iload_n C dX6_set_54 2 rfl ?_
        refine g_iadd C dX6_set_55 ?_
        refine g_iload_n C dX6_set_56 3 rfl ?_
        obtain ⟨b17, h⟩ := gguard h
        obtain ⟨s18, es18, h⟩ := gl h
        refine g_iast C 1 (by decide) rfl (g_in b17) dX6_set_57 (mdlE Z.2.1 ad s18 t g15) (by rw [es18]; exact mdlE_s) ?_
        refine g_iload_n C dX6_set_58 0 rfl ?_
        obtain ⟨rfl, rfl, rfl⟩ := gs3 h
        exact g_iret C e dX6_set_59
      · replace h := gi_pos c13 h
        refine g_bipush (v := (-2)) C dX6_set_29 (by decide) ?_
        obtain ⟨rfl, rfl, rfl⟩ := gs3 h
        exact g_iret C e dX6_set_31
  · replace h := gi_pos c2 h
    refine g_iconst (v := (-1)) C dX6_set_9 (by decide) ?_
    obtain ⟨rfl, rfl, rfl⟩ := gs3 h
    exact g_iret C e dX6_set_10
abbrev rm_X6_type : Room := ({ frames := 1, cells := 0, slots := 0, locals := 22 } : Room)
def f_X6_type (s : Nat → Int32) (t : Nat → Int32) (g : Nat → Int32) (v1 : Int32) : Option (Int32 × (Nat → Int32) × (Nat → Int32)) := gb (f_X6_in v1 32 126) (fun r1 => if r1 = 0 then some ((-2), t, g) else if (g 2) = 80 then some ((-3), t, g) else if 0 ≤ (g 2) ∧ ((g 2)).toNatClampNeg < 80 then glet (upd t ((g 2)).toNatClampNeg v1) (fun t5 => glet (upd g 2 ((g 2) + 1)) (fun g6 => some ((g6 2), t5, g6))) else none)
set_option maxRecDepth 20000 in
theorem in_X6_type : ∀ w ∈ wsX60, w ∈ wsX6_type := by decide +kernel
set_option maxRecDepth 20000 in
theorem fl_X6_type_145 : Cond.fieldLink RX6 145 (TX6 4).1 (TX6 4).2.1 (TX6 4).2.2.1 ∈ wsX6_type := by decide +kernel
set_option maxRecDepth 20000 in
theorem fl_X6_type_13 : Cond.fieldLink RX6 13 (TX6 3).1 (TX6 3).2.1 (TX6 3).2.2.1 ∈ wsX6_type := by decide +kernel
set_option maxHeartbeats 4000000 in
set_option maxRecDepth 100000 in
theorem cn_X6_type (l : Launch) (Z : gZ) (ad : Nat → Nat) (hI : gInj 3 ad) (s : Nat → Int32) (t : Nat → Int32) (g : Nat → Int32) (v1 : Int32) {r : Int32} {t' : Nat → Int32} {g' : Nat → Int32} (h : f_X6_type s t g v1 = some (r, t', g')) : gI l yX6_type wsX6_type rm_X6_type Z 3 ad [.ref (ad 0), .int v1] (mdlE Z.2.1 ad s t g) r (mdlE Z.2.1 ad s t' g') := by
  refine g_entryI (cc := cX6_type) (maxL := 2) (by decide +kernel) rfl hI (Nat.le_of_ble_eq_true rfl) (fun X C e => ?_)
  unfold f_X6_type at h
  show GG X Z 2 3 ad (mdlE Z.2.1 ad s t g) 0 [(0, .ref (ad 0)), (1, .int v1)] []
  refine g_iload_n C dX6_type_0 1 rfl ?_
  refine g_bipush (v := 32) C dX6_type_1 (by decide) ?_
  refine g_bipush (v := 126) C dX6_type_3 (by decide) ?_
  obtain ⟨r1, er1, h⟩ := gb1 h
  refine g_callSi (rest := []) C gX6_type_X6_in rfl ok_X6_in ⟨by decide, by decide⟩ ⟨rfl, rfl⟩ (cn_X6_in X.2.1 Z v1 32 126 er1) rfl dX6_type_5 rfl (Nat.le_of_ble_eq_true rfl) ?_
  refine g_if_ne (tgt := 14) C dX6_type_8 (by decide) (fun c2 => ?_) (fun c2 => ?_)
  · replace h := gi_neg c2 h
    refine g_aload_n C dX6_type_14 0 rfl ?_
    refine g_getf (v := .int (g 2)) C 0 (by decide) rfl rfl in_X6_type 4 (by decide) fl_X6_type_145 rfl dX6_type_15 ?_
    refine g_bipush (v := 80) C dX6_type_18 (by decide) ?_
    refine g_icmp_ne (tgt := 26) C dX6_type_20 (by decide) (fun c3 => ?_) (fun c3 => ?_)
    · replace h := gi_neg c3 h
      refine g_aload_n C dX6_type_26 0 rfl ?_
      refine g_getf (v := .ref (ad 2)) C 0 (by decide) rfl rfl in_X6_type 3 (by decide) fl_X6_type_13 rfl dX6_type_27 ?_
      refine g_aload_n C dX6_type_30 0 rfl ?_
      refine g_getf (v := .int (g 2)) C 0 (by decide) rfl rfl in_X6_type 4 (by decide) fl_X6_type_145 rfl dX6_type_31 ?_
      refine g_iload_n C dX6_type_34 1 rfl ?_
      obtain ⟨b4, h⟩ := gguard h
      obtain ⟨t5, et5, h⟩ := gl h
      refine g_iast C 2 (by decide) rfl (g_in b4) dX6_type_35 (mdlE Z.2.1 ad s t5 g) (by rw [et5]; exact mdlE_t) ?_
      refine g_aload_n C dX6_type_36 0 rfl ?_
      refine g_dup C dX6_type_37 rfl ?_
      refine g_getf (v := .int (g 2)) C 0 (by decide) rfl rfl in_X6_type 4 (by decide) fl_X6_type_145 rfl dX6_type_38 ?_
      refine g_iconst (v := 1) C dX6_type_41 (by decide) ?_
      refine g_iadd C dX6_type_42 ?_
      obtain ⟨g6, eg6, h⟩ := gl h
      refine g_putf C 0 (by decide) rfl rfl in_X6_type tyX6 tyX6_ok nmX6 4 (by decide) fl_X6_type_145 rfl rfl rfl (Nat.le_of_ble_eq_true rfl) dX6_type_43 (mdlE Z.2.1 ad s t5 g6) (by rw [eg6]; exact mdlE_g2) ?_
      refine g_aload_n C dX6_type_46 0 rfl ?_
      refine g_getf (v := .int (g6 2)) C 0 (by decide) rfl rfl in_X6_type 4 (by decide) fl_X6_type_145 rfl dX6_type_47 ?_
      obtain ⟨rfl, rfl, rfl⟩ := gs3 h
      exact g_iret C e dX6_type_50
    · replace h := gi_pos c3 h
      refine g_bipush (v := (-3)) C dX6_type_23 (by decide) ?_
      obtain ⟨rfl, rfl, rfl⟩ := gs3 h
      exact g_iret C e dX6_type_25
  · replace h := gi_pos c2 h
    refine g_bipush (v := (-2)) C dX6_type_11 (by decide) ?_
    obtain ⟨rfl, rfl, rfl⟩ := gs3 h
    exact g_iret C e dX6_type_13
abbrev rm_X6_clearText : Room := ({ frames := 0, cells := 0, slots := 0, locals := 0 } : Room)
def f_X6_clearText (s : Nat → Int32) (t : Nat → Int32) (g : Nat → Int32) : Option (Int32 × (Nat → Int32)) := glet (g 2) (fun x1 => glet (upd g 2 0) (fun g2 => some (x1, g2)))
set_option maxRecDepth 20000 in
theorem in_X6_clearText : ∀ w ∈ wsX60, w ∈ wsX6_clearText := by decide +kernel
set_option maxRecDepth 20000 in
theorem fl_X6_clearText_145 : Cond.fieldLink RX6 145 (TX6 4).1 (TX6 4).2.1 (TX6 4).2.2.1 ∈ wsX6_clearText := by decide +kernel
set_option maxHeartbeats 4000000 in
set_option maxRecDepth 100000 in
theorem cn_X6_clearText (l : Launch) (Z : gZ) (ad : Nat → Nat) (hI : gInj 3 ad) (s : Nat → Int32) (t : Nat → Int32) (g : Nat → Int32) {r : Int32} {g' : Nat → Int32} (h : f_X6_clearText s t g = some (r, g')) : gI l yX6_clearText wsX6_clearText rm_X6_clearText Z 3 ad [.ref (ad 0)] (mdlE Z.2.1 ad s t g) r (mdlE Z.2.1 ad s t g') := by
  refine g_entryI (cc := cX6_clearText) (maxL := 2) (by decide +kernel) rfl hI (Nat.le_of_ble_eq_true rfl) (fun X C e => ?_)
  unfold f_X6_clearText at h
  show GG X Z 2 3 ad (mdlE Z.2.1 ad s t g) 0 [(0, .ref (ad 0))] []
  refine g_aload_n C dX6_clearText_0 0 rfl ?_
  refine g_getf (v := .int (g 2)) C 0 (by decide) rfl rfl in_X6_clearText 4 (by decide) fl_X6_clearText_145 rfl dX6_clearText_1 ?_
  obtain ⟨x1, ex1, h⟩ := gl h
  refine g_istore_n C dX6_clearText_4 (by decide) [(1, .int x1), (0, .ref (ad 0))] (by rw [ex1]; rfl) ?_
  refine g_aload_n C dX6_clearText_5 1 rfl ?_
  refine g_iconst (v := 0) C dX6_clearText_6 (by decide) ?_
  obtain ⟨g2, eg2, h⟩ := gl h
  refine g_putf C 0 (by decide) rfl rfl in_X6_clearText tyX6 tyX6_ok nmX6 4 (by decide) fl_X6_clearText_145 rfl rfl rfl (Nat.le_of_ble_eq_true rfl) dX6_clearText_7 (mdlE Z.2.1 ad s t g2) (by rw [eg2]; exact mdlE_g2) ?_
  refine g_iload_n C dX6_clearText_10 0 rfl ?_
  obtain ⟨rfl, rfl⟩ := gs2 h
  exact g_iret C e dX6_clearText_11
