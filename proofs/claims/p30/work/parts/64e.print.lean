set_option maxRecDepth 20000 in
theorem ggL_print_X5_block : GoodIn wsL_print wsX5_block := goodIn_r _ [7, 8, 9, 10, 11, 12, 13, 14, 15, 16, 17, 18, 19, 20, 21, 22, 23, 24, 25, 26, 27, 28, 29, 30, 31, 32, 33, 34, 35, 36, 37, 38, 39, 89, 90, 91, 92, 93, 94, 95, 96, 97, 98, 99, 100, 101, 102, 103, 104, 105, 106] (by decide +kernel) (by decide +kernel)
set_option maxRecDepth 20000 in
theorem gL_print_X5_block : GoodIn wsL_print (wsV RL 57 RX5 yX5_block wsX5_block) := goodIn_app (goodIn_of _ (by decide +kernel)) ggL_print_X5_block
set_option maxRecDepth 20000 in
theorem ggL_print_X5_file : GoodIn wsL_print wsX5_file := goodIn_r _ [43, 8, 44, 45, 46, 12, 47, 48, 27, 28, 29, 18, 30, 20, 49, 50, 51, 52, 26, 15, 16, 17, 19, 53, 54, 55, 56, 57, 58, 59, 60, 61, 62, 63, 64, 65, 66, 67, 68, 69, 70, 14, 71, 72, 73, 74, 25, 75, 76, 77, 78, 79, 89, 90, 91, 92, 93, 94, 95, 96, 97, 98, 99, 100, 101, 102, 103, 104, 105, 106] (by decide +kernel) (by decide +kernel)
set_option maxRecDepth 20000 in
theorem gL_print_X5_file : GoodIn wsL_print (wsV RL 51 RX5 yX5_file wsX5_file) := goodIn_app (goodIn_of _ (by decide +kernel)) ggL_print_X5_file
set_option maxRecDepth 20000 in
theorem ggL_print_X5_total : GoodIn wsL_print wsX5_total := goodIn_r _ [83, 8, 84, 85, 86, 12, 87, 88, 15, 16, 17, 18, 19, 20, 89, 90, 91, 92, 93, 94, 95, 96, 97, 98, 99, 100, 101, 102, 103, 104, 105, 106] (by decide +kernel) (by decide +kernel)
set_option maxRecDepth 20000 in
theorem gL_print_X5_total : GoodIn wsL_print (wsV RL 80 RX5 yX5_total wsX5_total) := goodIn_app (goodIn_of _ (by decide +kernel)) ggL_print_X5_total
theorem dL_print_0 : decode cL_print 0 = .ok (.ldc2_w 83, 3) := by decide +kernel
theorem dL_print_3 : decode cL_print 3 = .ok (.lstore_n 1, 1) := by decide +kernel
theorem dL_print_4 : decode cL_print 4 = .ok (.iconst 0, 1) := by decide +kernel
theorem dL_print_5 : decode cL_print 5 = .ok (.istore_n 3, 1) := by decide +kernel
theorem dL_print_6 : decode cL_print 6 = .ok (.iload_n 3, 1) := by decide +kernel
theorem dL_print_7 : decode cL_print 7 = .ok (.sipush 256, 3) := by decide +kernel
theorem dL_print_10 : decode cL_print 10 = .ok (.if_icmp .ge 27, 3) := by decide +kernel
theorem dL_print_13 : decode cL_print 13 = .ok (.ldc2_w 85, 3) := by decide +kernel
theorem dL_print_16 : decode cL_print 16 = .ok (.lload_n 1, 1) := by decide +kernel
theorem dL_print_17 : decode cL_print 17 = .ok (.lmul, 1) := by decide +kernel
theorem dL_print_18 : decode cL_print 18 = .ok (.aload_n 0, 1) := by decide +kernel
theorem dL_print_19 : decode cL_print 19 = .ok (.iload_n 3, 1) := by decide +kernel
theorem dL_print_20 : decode cL_print 20 = .ok (.iconst 4, 1) := by decide +kernel
theorem dL_print_21 : decode cL_print 21 = .ok (.idiv, 1) := by decide +kernel
theorem dL_print_22 : decode cL_print 22 = .ok (.iload_n 3, 1) := by decide +kernel
theorem dL_print_23 : decode cL_print 23 = .ok (.iconst 4, 1) := by decide +kernel
theorem dL_print_24 : decode cL_print 24 = .ok (.irem, 1) := by decide +kernel
theorem dL_print_25 : decode cL_print 25 = .ok (.invokevirtual 57, 3) := by decide +kernel
theorem dL_print_28 : decode cL_print 28 = .ok (.i2l, 1) := by decide +kernel
theorem dL_print_29 : decode cL_print 29 = .ok (.ladd, 1) := by decide +kernel
theorem dL_print_30 : decode cL_print 30 = .ok (.lstore_n 1, 1) := by decide +kernel
theorem dL_print_31 : decode cL_print 31 = .ok (.iinc 3 1, 3) := by decide +kernel
theorem dL_print_34 : decode cL_print 34 = .ok (.goto (-28), 3) := by decide +kernel
theorem dL_print_37 : decode cL_print 37 = .ok (.iconst 0, 1) := by decide +kernel
theorem dL_print_38 : decode cL_print 38 = .ok (.istore_n 3, 1) := by decide +kernel
theorem dL_print_39 : decode cL_print 39 = .ok (.iload_n 3, 1) := by decide +kernel
theorem dL_print_40 : decode cL_print 40 = .ok (.bipush 48, 2) := by decide +kernel
theorem dL_print_42 : decode cL_print 42 = .ok (.if_icmp .ge 29, 3) := by decide +kernel
theorem dL_print_45 : decode cL_print 45 = .ok (.ldc2_w 85, 3) := by decide +kernel
theorem dL_print_48 : decode cL_print 48 = .ok (.lload_n 1, 1) := by decide +kernel
theorem dL_print_49 : decode cL_print 49 = .ok (.lmul, 1) := by decide +kernel
theorem dL_print_50 : decode cL_print 50 = .ok (.aload_n 0, 1) := by decide +kernel
theorem dL_print_51 : decode cL_print 51 = .ok (.iload_n 3, 1) := by decide +kernel
theorem dL_print_52 : decode cL_print 52 = .ok (.bipush 6, 2) := by decide +kernel
theorem dL_print_54 : decode cL_print 54 = .ok (.idiv, 1) := by decide +kernel
theorem dL_print_55 : decode cL_print 55 = .ok (.iload_n 3, 1) := by decide +kernel
theorem dL_print_56 : decode cL_print 56 = .ok (.bipush 6, 2) := by decide +kernel
theorem dL_print_58 : decode cL_print 58 = .ok (.irem, 1) := by decide +kernel
theorem dL_print_59 : decode cL_print 59 = .ok (.invokevirtual 51, 3) := by decide +kernel
theorem dL_print_62 : decode cL_print 62 = .ok (.i2l, 1) := by decide +kernel
theorem dL_print_63 : decode cL_print 63 = .ok (.ladd, 1) := by decide +kernel
theorem dL_print_64 : decode cL_print 64 = .ok (.lstore_n 1, 1) := by decide +kernel
theorem dL_print_65 : decode cL_print 65 = .ok (.iinc 3 1, 3) := by decide +kernel
theorem dL_print_68 : decode cL_print 68 = .ok (.goto (-29), 3) := by decide +kernel
theorem dL_print_71 : decode cL_print 71 = .ok (.iconst 0, 1) := by decide +kernel
theorem dL_print_72 : decode cL_print 72 = .ok (.istore_n 3, 1) := by decide +kernel
theorem dL_print_73 : decode cL_print 73 = .ok (.iload_n 3, 1) := by decide +kernel
theorem dL_print_74 : decode cL_print 74 = .ok (.iconst 4, 1) := by decide +kernel
theorem dL_print_75 : decode cL_print 75 = .ok (.if_icmp .ge 22, 3) := by decide +kernel
theorem dL_print_78 : decode cL_print 78 = .ok (.ldc2_w 85, 3) := by decide +kernel
theorem dL_print_81 : decode cL_print 81 = .ok (.lload_n 1, 1) := by decide +kernel
theorem dL_print_82 : decode cL_print 82 = .ok (.lmul, 1) := by decide +kernel
theorem dL_print_83 : decode cL_print 83 = .ok (.aload_n 0, 1) := by decide +kernel
theorem dL_print_84 : decode cL_print 84 = .ok (.iload_n 3, 1) := by decide +kernel
theorem dL_print_85 : decode cL_print 85 = .ok (.invokevirtual 80, 3) := by decide +kernel
theorem dL_print_88 : decode cL_print 88 = .ok (.i2l, 1) := by decide +kernel
theorem dL_print_89 : decode cL_print 89 = .ok (.ladd, 1) := by decide +kernel
theorem dL_print_90 : decode cL_print 90 = .ok (.lstore_n 1, 1) := by decide +kernel
theorem dL_print_91 : decode cL_print 91 = .ok (.iinc 3 1, 3) := by decide +kernel
theorem dL_print_94 : decode cL_print 94 = .ok (.goto (-21), 3) := by decide +kernel
theorem dL_print_97 : decode cL_print 97 = .ok (.lload_n 1, 1) := by decide +kernel
theorem dL_print_98 : decode cL_print 98 = .ok (.lreturn, 1) := by decide +kernel
abbrev rm_L_print : Room := ({ frames := 4, cells := 0, slots := 0, locals := 88 } : Room)
theorem ok_L_print : gOk yL_print RL 1 := by refine ⟨?_, ?_, ?_, ?_⟩ <;> decide +kernel
set_option maxRecDepth 20000 in
theorem cs_L_print_83 : Cond.constantLong RL 83 (3) ∈ wsL_print := by decide +kernel
set_option maxRecDepth 20000 in
theorem cs_L_print_85 : Cond.constantLong RL 85 (31) ∈ wsL_print := by decide +kernel
def f_L_print_L6 (D : Nat → Nat → Nat → Int32) (sav : Int32) (old : Int32) (hsz : Int32) (cs : Nat → Int32) (len : Int32) (g : Nat → Int32) : Nat → Int64 → Int32 → Option (Int64 × Int32)
  | 0, _, _ => none
  | fu + 1, v1, v3 => if 256 ≤ v3 then some (v1, v3) else gb (f_X5_block D sav old hsz cs len g (v3 / 4) (v3 - v3 / 4 * 4)) (fun r6 => glet (((31 : Int64) * v1) + ((r6).toInt64)) (fun x7 => glet (v3 + 1) (fun x8 => f_L_print_L6 D sav old hsz cs len g fu x7 x8)))
def f_L_print_L39 (D : Nat → Nat → Nat → Int32) (sav : Int32) (old : Int32) (hsz : Int32) (cs : Nat → Int32) (len : Int32) (g : Nat → Int32) : Nat → Int64 → Int32 → Option (Int64 × Int32)
  | 0, _, _ => none
  | fu + 1, v1, v3 => if 48 ≤ v3 then some (v1, v3) else gb (f_X5_file D sav old hsz cs len g (v3 / 6) (v3 - v3 / 6 * 6)) (fun r15 => glet (((31 : Int64) * v1) + ((r15).toInt64)) (fun x16 => glet (v3 + 1) (fun x17 => f_L_print_L39 D sav old hsz cs len g fu x16 x17)))
def f_L_print_L73 (D : Nat → Nat → Nat → Int32) (sav : Int32) (old : Int32) (hsz : Int32) (cs : Nat → Int32) (len : Int32) (g : Nat → Int32) : Nat → Int64 → Int32 → Option (Int64 × Int32)
  | 0, _, _ => none
  | fu + 1, v1, v3 => if 4 ≤ v3 then some (v1, v3) else gb (f_X5_total D sav old hsz cs len g v3) (fun r24 => glet (((31 : Int64) * v1) + ((r24).toInt64)) (fun x25 => glet (v3 + 1) (fun x26 => f_L_print_L73 D sav old hsz cs len g fu x25 x26)))
def f_L_print (D : Nat → Nat → Nat → Int32) (sav : Int32) (old : Int32) (hsz : Int32) (cs : Nat → Int32) (len : Int32) (g : Nat → Int32) : Option Int64 := glet (3 : Int64) (fun x1 => gbb2 (f_L_print_L6 D sav old hsz cs len g gFu x1 0) (fun o9 o10 => gbb2 (f_L_print_L39 D sav old hsz cs len g gFu o9 0) (fun o18 o19 => gbb2 (f_L_print_L73 D sav old hsz cs len g gFu o18 0) (fun o27 o28 => some o27))))
set_option maxHeartbeats 8000000 in
set_option maxRecDepth 100000 in
theorem cl_L_print_L6 {X : gX} {Z : gZ} {ad : Nat → Nat} {D : Nat → Nat → Nat → Int32} {sav : Int32} {old : Int32} {hsz : Int32} {cs : Nat → Int32} {len : Int32} {g : Nat → Int32} {o1 : Int64} {o3 : Int32} (C : GC X Z cL_print 4 wsL_print RL rm_L_print 175 ad) (kk : GG X Z 4 175 ad (xE Z.2.1 Z.2.2 ad D sav old hsz cs len g) 37 [(0, .ref (ad 168)), (1, .long o1), (3, .int o3)] []) : ∀ (fu : Nat) (v1 : Int64) (v3 : Int32) (h : f_L_print_L6 D sav old hsz cs len g fu v1 v3 = some (o1, o3)), GG X Z 4 175 ad (xE Z.2.1 Z.2.2 ad D sav old hsz cs len g) 6 [(0, .ref (ad 168)), (1, .long v1), (3, .int v3)] [] := by
  intro fu
  induction fu with
  | zero => intro v1 v3 h; cases h
  | succ fu ih =>
    intro v1 v3 h
    rw [f_L_print_L6] at h
    refine g_iload_n C dL_print_6 2 rfl ?_
    refine g_sipush (v := 256) C dL_print_7 (by decide) ?_
    refine g_icmp_ge (tgt := 37) C dL_print_10 (by decide) (fun c2 => ?_) (fun c2 => ?_)
    · replace h := gi_pos c2 h
      obtain ⟨rfl, rfl⟩ := gs2 h
      exact g_sub [0, 1, 2] rfl kk
    · replace h := gi_neg c2 h
      refine g_ldc2 C cs_L_print_85 dL_print_13 ?_
      refine g_lload_n C dL_print_16 1 rfl ?_
      refine g_lmul C dL_print_17 ?_
      refine g_aload_n C dL_print_18 0 rfl ?_
      refine g_iload_n C dL_print_19 2 rfl ?_
      refine g_iconst (v := 4) C dL_print_20 (by decide) ?_
      refine g_idiv C dL_print_21 (by decide) ?_
      refine g_iload_n C dL_print_22 2 rfl ?_
      refine g_iconst (v := 4) C dL_print_23 (by decide) ?_
      refine g_irem C dL_print_24 (by decide) ?_
      obtain ⟨r6, er6, h⟩ := gb1 h
      refine g_callWi (rest := [.long ((31 : Int64) * v1)]) C gL_print_X5_block rfl ok_X5_block ⟨by decide, by decide⟩ ⟨rfl, rfl⟩ 168 (by decide) rfl rfl (fun hI => cn_X5_block X.2.1 Z ad hI D sav old hsz cs len g (v3 / 4) (v3 - v3 / 4 * 4) er6) rfl dL_print_25 rfl (Nat.le_of_ble_eq_true rfl) ?_
      refine g_i2l C dL_print_28 ?_
      refine g_ladd C dL_print_29 ?_
      obtain ⟨x7, ex7, h⟩ := gl h
      refine g_lstore_n C dL_print_30 (by decide) [(1, .long x7), (0, .ref (ad 168)), (3, .int v3)] (by rw [ex7]; rfl) ?_
      obtain ⟨x8, ex8, h⟩ := gl h
      refine g_iinc (v := x8) C dL_print_31 2 rfl (by rw [ex8]; rfl) (by decide) [(3, .int x8), (1, .long x7), (0, .ref (ad 168))] rfl ?_
      refine g_goto (tgt := 6) C dL_print_34 (by decide) ?_
      exact g_sub [2, 1, 0] rfl (ih x7 x8 h)
set_option maxHeartbeats 8000000 in
set_option maxRecDepth 100000 in
theorem cl_L_print_L39 {X : gX} {Z : gZ} {ad : Nat → Nat} {D : Nat → Nat → Nat → Int32} {sav : Int32} {old : Int32} {hsz : Int32} {cs : Nat → Int32} {len : Int32} {g : Nat → Int32} {o1 : Int64} {o3 : Int32} (C : GC X Z cL_print 4 wsL_print RL rm_L_print 175 ad) (kk : GG X Z 4 175 ad (xE Z.2.1 Z.2.2 ad D sav old hsz cs len g) 71 [(0, .ref (ad 168)), (1, .long o1), (3, .int o3)] []) : ∀ (fu : Nat) (v1 : Int64) (v3 : Int32) (h : f_L_print_L39 D sav old hsz cs len g fu v1 v3 = some (o1, o3)), GG X Z 4 175 ad (xE Z.2.1 Z.2.2 ad D sav old hsz cs len g) 39 [(0, .ref (ad 168)), (1, .long v1), (3, .int v3)] [] := by
  intro fu
  induction fu with
  | zero => intro v1 v3 h; cases h
  | succ fu ih =>
    intro v1 v3 h
    rw [f_L_print_L39] at h
    refine g_iload_n C dL_print_39 2 rfl ?_
    refine g_bipush (v := 48) C dL_print_40 (by decide) ?_
    refine g_icmp_ge (tgt := 71) C dL_print_42 (by decide) (fun c11 => ?_) (fun c11 => ?_)
    · replace h := gi_pos c11 h
      obtain ⟨rfl, rfl⟩ := gs2 h
      exact g_sub [0, 1, 2] rfl kk
    · replace h := gi_neg c11 h
      refine g_ldc2 C cs_L_print_85 dL_print_45 ?_
      refine g_lload_n C dL_print_48 1 rfl ?_
      refine g_lmul C dL_print_49 ?_
      refine g_aload_n C dL_print_50 0 rfl ?_
      refine g_iload_n C dL_print_51 2 rfl ?_
      refine g_bipush (v := 6) C dL_print_52 (by decide) ?_
      refine g_idiv C dL_print_54 (by decide) ?_
      refine g_iload_n C dL_print_55 2 rfl ?_
      refine g_bipush (v := 6) C dL_print_56 (by decide) ?_
      refine g_irem C dL_print_58 (by decide) ?_
      obtain ⟨r15, er15, h⟩ := gb1 h
      refine g_callWi (rest := [.long ((31 : Int64) * v1)]) C gL_print_X5_file rfl ok_X5_file ⟨by decide, by decide⟩ ⟨rfl, rfl⟩ 168 (by decide) rfl rfl (fun hI => cn_X5_file X.2.1 Z ad hI D sav old hsz cs len g (v3 / 6) (v3 - v3 / 6 * 6) er15) rfl dL_print_59 rfl (Nat.le_of_ble_eq_true rfl) ?_
      refine g_i2l C dL_print_62 ?_
      refine g_ladd C dL_print_63 ?_
      obtain ⟨x16, ex16, h⟩ := gl h
      refine g_lstore_n C dL_print_64 (by decide) [(1, .long x16), (0, .ref (ad 168)), (3, .int v3)] (by rw [ex16]; rfl) ?_
      obtain ⟨x17, ex17, h⟩ := gl h
      refine g_iinc (v := x17) C dL_print_65 2 rfl (by rw [ex17]; rfl) (by decide) [(3, .int x17), (1, .long x16), (0, .ref (ad 168))] rfl ?_
      refine g_goto (tgt := 39) C dL_print_68 (by decide) ?_
      exact g_sub [2, 1, 0] rfl (ih x16 x17 h)
set_option maxHeartbeats 8000000 in
set_option maxRecDepth 100000 in
theorem cl_L_print_L73 {X : gX} {Z : gZ} {ad : Nat → Nat} {D : Nat → Nat → Nat → Int32} {sav : Int32} {old : Int32} {hsz : Int32} {cs : Nat → Int32} {len : Int32} {g : Nat → Int32} {o1 : Int64} {o3 : Int32} (C : GC X Z cL_print 4 wsL_print RL rm_L_print 175 ad) (kk : GG X Z 4 175 ad (xE Z.2.1 Z.2.2 ad D sav old hsz cs len g) 97 [(0, .ref (ad 168)), (1, .long o1), (3, .int o3)] []) : ∀ (fu : Nat) (v1 : Int64) (v3 : Int32) (h : f_L_print_L73 D sav old hsz cs len g fu v1 v3 = some (o1, o3)), GG X Z 4 175 ad (xE Z.2.1 Z.2.2 ad D sav old hsz cs len g) 73 [(0, .ref (ad 168)), (1, .long v1), (3, .int v3)] [] := by
  intro fu
  induction fu with
  | zero => intro v1 v3 h; cases h
  | succ fu ih =>
    intro v1 v3 h
    rw [f_L_print_L73] at h
    refine g_iload_n C dL_print_73 2 rfl ?_
    refine g_iconst (v := 4) C dL_print_74 (by decide) ?_
    refine g_icmp_ge (tgt := 97) C dL_print_75 (by decide) (fun c20 => ?_) (fun c20 => ?_)
    · replace h := gi_pos c20 h
      obtain ⟨rfl, rfl⟩ := gs2 h
      exact g_sub [0, 1, 2] rfl kk
    · replace h := gi_neg c20 h
      refine g_ldc2 C cs_L_print_85 dL_print_78 ?_
      refine g_lload_n C dL_print_81 1 rfl ?_
      refine g_lmul C dL_print_82 ?_
      refine g_aload_n C dL_print_83 0 rfl ?_
      refine g_iload_n C dL_print_84 2 rfl ?_
      obtain ⟨r24, er24, h⟩ := gb1 h
      refine g_callWi (rest := [.long ((31 : Int64) * v1)]) C gL_print_X5_total rfl ok_X5_total ⟨by decide, by decide⟩ ⟨rfl, rfl⟩ 168 (by decide) rfl rfl (fun hI => cn_X5_total X.2.1 Z ad hI D sav old hsz cs len g v3 er24) rfl dL_print_85 rfl (Nat.le_of_ble_eq_true rfl) ?_
      refine g_i2l C dL_print_88 ?_
      refine g_ladd C dL_print_89 ?_
      obtain ⟨x25, ex25, h⟩ := gl h
      refine g_lstore_n C dL_print_90 (by decide) [(1, .long x25), (0, .ref (ad 168)), (3, .int v3)] (by rw [ex25]; rfl) ?_
      obtain ⟨x26, ex26, h⟩ := gl h
      refine g_iinc (v := x26) C dL_print_91 2 rfl (by rw [ex26]; rfl) (by decide) [(3, .int x26), (1, .long x25), (0, .ref (ad 168))] rfl ?_
      refine g_goto (tgt := 73) C dL_print_94 (by decide) ?_
      exact g_sub [2, 1, 0] rfl (ih x25 x26 h)
set_option maxHeartbeats 8000000 in
set_option maxRecDepth 100000 in
theorem cn_L_print (l : Launch) (Z : gZ) (ad : Nat → Nat) (hI : gInj 175 ad) (D : Nat → Nat → Nat → Int32) (sav : Int32) (old : Int32) (hsz : Int32) (cs : Nat → Int32) (len : Int32) (g : Nat → Int32) {r : Int64} (h : f_L_print D sav old hsz cs len g = some r) : gJ l yL_print wsL_print rm_L_print Z 175 ad [.ref (ad 168)] (xE Z.2.1 Z.2.2 ad D sav old hsz cs len g) r (xE Z.2.1 Z.2.2 ad D sav old hsz cs len g) := by
  refine g_entryJ (cc := cL_print) (maxL := 4) (by decide +kernel) rfl hI (Nat.le_of_ble_eq_true rfl) (fun X C e => ?_)
  unfold f_L_print at h
  show GG X Z 4 175 ad (xE Z.2.1 Z.2.2 ad D sav old hsz cs len g) 0 [(0, .ref (ad 168))] []
  refine g_ldc2 C cs_L_print_83 dL_print_0 ?_
  obtain ⟨x1, ex1, h⟩ := gl h
  refine g_lstore_n C dL_print_3 (by decide) [(1, .long x1), (0, .ref (ad 168))] (by rw [ex1]; rfl) ?_
  refine g_iconst (v := 0) C dL_print_4 (by decide) ?_
  refine g_istore_n C dL_print_5 (by decide) [(3, .int 0), (1, .long x1), (0, .ref (ad 168))] rfl ?_
  obtain ⟨o9, o10, eo9, h⟩ := gb2 h
  refine g_sub [2, 1, 0] rfl (cl_L_print_L6 C ?_ gFu x1 0 eo9)
  refine g_iconst (v := 0) C dL_print_37 (by decide) ?_
  refine g_istore_n C dL_print_38 (by decide) [(3, .int 0), (0, .ref (ad 168)), (1, .long o9)] rfl ?_
  obtain ⟨o18, o19, eo18, h⟩ := gb2 h
  refine g_sub [1, 2, 0] rfl (cl_L_print_L39 C ?_ gFu o9 0 eo18)
  refine g_iconst (v := 0) C dL_print_71 (by decide) ?_
  refine g_istore_n C dL_print_72 (by decide) [(3, .int 0), (0, .ref (ad 168)), (1, .long o18)] rfl ?_
  obtain ⟨o27, o28, eo27, h⟩ := gb2 h
  refine g_sub [1, 2, 0] rfl (cl_L_print_L73 C ?_ gFu o18 0 eo27)
  refine g_lload_n C dL_print_97 1 rfl ?_
  obtain rfl := gs1 h
  exact g_lret C e dL_print_98
