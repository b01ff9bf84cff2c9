set_option maxRecDepth 20000 in
theorem ob1_X3 : Cond.methodLink RX3 1 objectInit ∈ wsX3_init := by decide +kernel
set_option maxRecDepth 20000 in
theorem ob2_X3 : Cond.instanceMethod objectInit ∈ wsX3_init := by decide +kernel
set_option maxRecDepth 20000 in
theorem ob3_X3 : Cond.code objectInit ⟨#[0xb1]⟩ 1 none ∈ wsX3_init := by decide +kernel
set_option maxRecDepth 20000 in
theorem in_X3_init : ∀ w ∈ wsX30, w ∈ wsX3_init := by decide +kernel
set_option maxRecDepth 20000 in
theorem fl_X3_init_13 : Cond.fieldLink RX3 13 (TX3 0).1 (TX3 0).2.1 (TX3 0).2.2.1 ∈ wsX3_init := by decide +kernel
set_option maxRecDepth 20000 in
theorem okN_X3 : yX3_init.cls ≠ "java/lang/invoke/MethodHandle" ∧ yX3_init.cls ≠ "java/lang/invoke/VarHandle" ∧ (parseMethodDescriptor yX3_init.desc).map (fun d => d.parameters.length) = some 2 := by refine ⟨?_, ?_, ?_⟩ <;> decide +kernel
set_option maxRecDepth 20000 in
theorem rw0_X3 : Cond.methodLink RX3 7 Lib.Math.max.name ∈ wsX3_init := by decide +kernel
set_option maxRecDepth 20000 in
theorem rw1_X3 : Cond.static Lib.Math.max.name ∈ wsX3_init := by decide +kernel
set_option maxRecDepth 20000 in
theorem rw2_X3 : Cond.initialized "java/lang/Math" ∈ wsX3_init := by decide +kernel
set_option maxRecDepth 20000 in
theorem rw3_X3 : Cond.code Lib.Math.max.name Lib.Math.max.code 2 (some .int) ∈ wsX3_init := by decide +kernel
set_option maxRecDepth 20000 in
theorem rw4_X3 : Cond.arrayClass .int ∈ wsX3_init := by decide +kernel
abbrev rmN_X3 (n : Nat) : Room := { frames := 1, cells := 1, slots := n, locals := 24 }
def PX3 (Z : gZ) (h0 n : Nat) (v : Int32) : va_W → Prop := fun w => ∃ a : Nat, w = [(h0, .inr (3, [.ref a])), (a, .inl (Z.2.1, n, .inl (fun _ => v)))]
set_option maxHeartbeats 4000000 in
set_option maxRecDepth 100000 in
theorem clN_X3 {X : gX} {Z : gZ} {A : Nat → Prop} {h0 a n : Nat} {v : Int32} (hn : n ≤ 100) (C : LC X Z cX3_init 4 wsX3_init RX3 (rmN_X3 n) A) (e : lEN X A Z (PX3 Z h0 n v) 1 n) : ∀ (fu t : Nat) (f : Nat → Int32), t ≤ n → n < t + fu → (∀ q, q < t → f q = v) → GL X Z 4 A 1 n [(h0, .inr (3, [.ref a])), (a, .inl (Z.2.1, n, .inl f))] 17 [(0, .ref h0), (1, .int (nI n)), (2, .int v), (3, .int (nI t))] [] := by
  intro fu
  induction fu with
  | zero => intro t f h1 h2; omega
  | succ fu ih =>
    intro t f h1 h2 hf
    refine l_iload_n C dX3_init_17 3 rfl ?_
    refine l_aload_n C dX3_init_18 0 rfl ?_
    refine l_getf (v := .ref a) C 0 rfl rfl in_X3_init 0 (by decide) fl_X3_init_13 rfl dX3_init_19 ?_
    refine l_alen C 1 rfl dX3_init_22 ?_
    refine l_icmp_ge (tgt := 39) C dX3_init_23 (by decide) (fun hc => ?_) (fun hc => ?_)
    · have ht : t = n := by
        rcases Nat.lt_or_ge t n with q | q
        · exact absurd hc (by rw [nI_leI (by omega) (by omega)]; omega)
        · omega
      subst ht
      refine l_ext [(h0, .inr (3, [.ref a])), (a, .inl (Z.2.1, t, .inl (fun _ => v)))] rfl (fun H hP => ?_) (l_vret C e ⟨a, rfl⟩ dX3_init_39)
      intro k q hk
      match k, hk with
      | 0, hk => exact hP 0 q hk
      | 1, hk =>
        cases hk
        have h3 : H[a]? = some (vp_cell Z.2.1 (t, .inl f)) := hP 1 (a, .inl (Z.2.1, t, .inl f)) rfl
        show H[a]? = some (vp_cell Z.2.1 (t, .inl (fun _ => v)))
        rw [h3]
        exact congrArg some (vp_cell_congr hf)
      | k + 2, hk => cases hk
    · have ht : t < n := by
        rcases Nat.lt_or_ge t n with q | q
        · exact q
        · exact absurd (by rw [nI_leI (by omega) (by omega)]; omega) hc
      have htn : (nI t).toNatClampNeg = t := nI_clamp (by omega)
      refine l_aload_n C dX3_init_26 0 rfl ?_
      refine l_getf (v := .ref a) C 0 rfl rfl in_X3_init 0 (by decide) fl_X3_init_13 rfl dX3_init_27 ?_
      refine l_iload_n C dX3_init_30 3 rfl ?_
      refine l_iload_n C dX3_init_31 2 rfl ?_
      refine l_iast C 1 rfl (nI_in ht (by omega)) dX3_init_32 [(h0, .inr (3, [.ref a])), (a, .inl (Z.2.1, n, .inl (upd f t v)))] (by rw [htn]; rfl) ?_
      refine l_iinc (v := nI (t + 1)) C dX3_init_33 3 rfl (nI_1 t) (by decide) [(3, .int (nI (t + 1))), (0, .ref h0), (1, .int (nI n)), (2, .int v)] rfl ?_
      refine l_goto (tgt := 17) C dX3_init_36 (by decide) ?_
      refine l_sub [1, 2, 3, 0] rfl (ih (t + 1) (upd f t v) (by omega) (by omega) (fun q hq => ?_))
      by_cases h : q = t
      · subst h; simp [upd]
      · simp only [upd, if_neg h]; exact hf q (by omega)
set_option maxHeartbeats 4000000 in
set_option maxRecDepth 100000 in
/-- Row(n, v) -/
theorem cnN_X3 (l : Launch) (Z : gZ) (h0 n : Nat) (hn : n ≤ 100) (v : Int32) : gN l yX3_init wsX3_init (rmN_X3 n) Z h0 3 [.null] [.int (nI n), .int v] (PX3 Z h0 n v) 1 n := by
  refine l_entryN (cc := cX3_init) (maxL := 4) (by decide +kernel) rfl rfl (Nat.le_of_ble_eq_true rfl) (fun X A C hin hov e => ?_)
  show GL X Z 4 A 0 0 [(h0, .inr (3, [.null]))] 0 [(0, .ref h0), (1, .int (nI n)), (2, .int v)] []
  refine l_aload_n C dX3_init_0 0 rfl ?_
  refine l_obj C ob1_X3 ob2_X3 ob3_X3 (Nat.le_refl 1) (Nat.le_of_ble_eq_true rfl) dX3_init_1 ?_
  refine l_aload_n C dX3_init_4 0 rfl ?_
  refine l_iload_n C dX3_init_5 1 rfl ?_
  refine l_iconst (v := 0) C dX3_init_6 (by decide) ?_
  refine l_mmax C rw0_X3 rw1_X3 rw2_X3 rw3_X3 (Nat.le_refl 1) (Nat.le_of_ble_eq_true rfl) (Nat.zero_le _) (Nat.zero_le _) dX3_init_7 ?_
  rw [if_neg (by rw [show (0 : Int32) = nI 0 from rfl, nI_ltI (by omega) (by omega)]; omega)] <;> try skip
  by_cases h1 : nI n < 0
  · exact absurd h1 (nI_pos (by omega))
  refine l_newa C rw4_X3 h1 (nI_clamp (by omega)) (by show n * 4 ≤ _; omega) (by show 0 + 1 ≤ 1; omega) (by show 0 + n ≤ n; omega) dX3_init_10 (fun a => ?_)
  refine l_putF C hin 0 rfl rfl in_X3_init tyX3 tyX3_ok nmX3 0 (by decide) fl_X3_init_13 rfl rfl rfl rfl (Nat.le_of_ble_eq_true rfl) dX3_init_12 [(h0, .inr (3, [.ref a])), (a, .inl (Z.2.1, n, .inl (fun _ => 0)))] rfl ?_
  refine l_iconst (v := 0) C dX3_init_15 (by decide) ?_
  refine l_istore_n C dX3_init_16 (by decide) [(3, .int 0), (0, .ref h0), (1, .int (nI n)), (2, .int v)] rfl ?_
  refine l_sub [1, 2, 3, 0] rfl ?_
  rw [show 0 + n = n by omega]
  exact clN_X3 hn C e 200 0 (fun _ => 0) (Nat.zero_le _) (by omega) (fun q hq => absurd hq (Nat.not_lt_zero q))
set_option maxRecDepth 20000 in
theorem ob1_X2 : Cond.methodLink RX2 3 objectInit ∈ wsX2_init := by decide +kernel
set_option maxRecDepth 20000 in
theorem ob2_X2 : Cond.instanceMethod objectInit ∈ wsX2_init := by decide +kernel
set_option maxRecDepth 20000 in
theorem ob3_X2 : Cond.code objectInit ⟨#[0xb1]⟩ 1 none ∈ wsX2_init := by decide +kernel
set_option maxRecDepth 20000 in
theorem in_X2_init : ∀ w ∈ wsX20, w ∈ wsX2_init := by decide +kernel
set_option maxRecDepth 20000 in
theorem okN_X2 : yX2_init.cls ≠ "java/lang/invoke/MethodHandle" ∧ yX2_init.cls ≠ "java/lang/invoke/VarHandle" ∧ (parseMethodDescriptor yX2_init.desc).map (fun d => d.parameters.length) = some 0 := by refine ⟨?_, ?_, ?_⟩ <;> decide +kernel
abbrev rmN_X2 : Room := { frames := 1, cells := 0, slots := 0, locals := 13 }
set_option maxRecDepth 20000 in
theorem fl_X2_init_11 : Cond.fieldLink RX2 11 (TX2 0).1 (TX2 0).2.1 (TX2 0).2.2.1 ∈ wsX2_init := by decide +kernel
set_option maxRecDepth 20000 in
theorem fl_X2_init_15 : Cond.fieldLink RX2 15 (TX2 1).1 (TX2 1).2.1 (TX2 1).2.2.1 ∈ wsX2_init := by decide +kernel
set_option maxRecDepth 20000 in
theorem fl_X2_init_18 : Cond.fieldLink RX2 18 (TX2 2).1 (TX2 2).2.1 (TX2 2).2.2.1 ∈ wsX2_init := by decide +kernel
set_option maxRecDepth 20000 in
theorem fl_X2_init_21 : Cond.fieldLink RX2 21 (TX2 3).1 (TX2 3).2.1 (TX2 3).2.2.1 ∈ wsX2_init := by decide +kernel
set_option maxRecDepth 20000 in
theorem fl_X2_init_24 : Cond.fieldLink RX2 24 (TX2 4).1 (TX2 4).2.1 (TX2 4).2.2.1 ∈ wsX2_init := by decide +kernel
set_option maxHeartbeats 4000000 in
set_option maxRecDepth 100000 in
theorem cnN_X2 (l : Launch) (Z : gZ) (h0 : Nat) : gN l yX2_init wsX2_init rmN_X2 Z h0 2 [.int 0, .int 0, .int 0, .int 0, .int 0] [] (fun w => w = [(h0, .inr (2, [.int 0, .int 0, .int 0, .int 0, .int 0]))]) 0 0 := by
  refine l_entryN (cc := cX2_init) (maxL := 1) (by decide +kernel) rfl rfl (Nat.le_of_ble_eq_true rfl) (fun X A C hin hov e => ?_)
  show GL X Z 1 A 0 0 [(h0, .inr (2, [.int 0, .int 0, .int 0, .int 0, .int 0]))] 0 [(0, .ref h0)] []
  refine l_aload_n C dX2_init_0 0 rfl ?_
  refine l_obj C ob1_X2 ob2_X2 ob3_X2 (by decide) (Nat.le_of_ble_eq_true rfl) dX2_init_1 ?_
  refine l_aload_n C dX2_init_4 0 rfl ?_
  refine l_iconst (v := 0) C dX2_init_5 (by decide) ?_
  refine l_putf C 0 rfl rfl in_X2_init tyX2 tyX2_ok nmX2 0 (by decide) fl_X2_init_11 rfl rfl rfl (Nat.le_of_ble_eq_true rfl) dX2_init_6 [(h0, .inr (2, [.int 0, .int 0, .int 0, .int 0, .int 0]))] rfl ?_
  refine l_aload_n C dX2_init_9 0 rfl ?_
  refine l_iconst (v := 0) C dX2_init_10 (by decide) ?_
  refine l_putf C 0 rfl rfl in_X2_init tyX2 tyX2_ok nmX2 1 (by decide) fl_X2_init_15 rfl rfl rfl (Nat.le_of_ble_eq_true rfl) dX2_init_11 [(h0, .inr (2, [.int 0, .int 0, .int 0, .int 0, .int 0]))] rfl ?_
  refine l_aload_n C dX2_init_14 0 rfl ?_
  refine l_iconst (v := 0) C dX2_init_15 (by decide) ?_
  refine l_putf C 0 rfl rfl in_X2_init tyX2 tyX2_ok nmX2 2 (by decide) fl_X2_init_18 rfl rfl rfl (Nat.le_of_ble_eq_true rfl) dX2_init_16 [(h0, .inr (2, [.int 0, .int 0, .int 0, .int 0, .int 0]))] rfl ?_
  refine l_aload_n C dX2_init_19 0 rfl ?_
  refine l_iconst (v := 0) C dX2_init_20 (by decide) ?_
  refine l_putf C 0 rfl rfl in_X2_init tyX2 tyX2_ok nmX2 3 (by decide) fl_X2_init_21 rfl rfl rfl (Nat.le_of_ble_eq_true rfl) dX2_init_21 [(h0, .inr (2, [.int 0, .int 0, .int 0, .int 0, .int 0]))] rfl ?_
  refine l_aload_n C dX2_init_24 0 rfl ?_
  refine l_iconst (v := 0) C dX2_init_25 (by decide) ?_
  refine l_putf C 0 rfl rfl in_X2_init tyX2 tyX2_ok nmX2 4 (by decide) fl_X2_init_24 rfl rfl rfl (Nat.le_of_ble_eq_true rfl) dX2_init_26 [(h0, .inr (2, [.int 0, .int 0, .int 0, .int 0, .int 0]))] rfl ?_
  exact l_vret C e rfl dX2_init_29
set_option maxRecDepth 20000 in
theorem ob1_X0 : Cond.methodLink RX0 3 objectInit ∈ wsX0_init := by decide +kernel
set_option maxRecDepth 20000 in
theorem ob2_X0 : Cond.instanceMethod objectInit ∈ wsX0_init := by decide +kernel
set_option maxRecDepth 20000 in
theorem ob3_X0 : Cond.code objectInit ⟨#[0xb1]⟩ 1 none ∈ wsX0_init := by decide +kernel
set_option maxRecDepth 20000 in
theorem in_X0_init : ∀ w ∈ wsX00, w ∈ wsX0_init := by decide +kernel
set_option maxRecDepth 20000 in
theorem okN_X0 : yX0_init.cls ≠ "java/lang/invoke/MethodHandle" ∧ yX0_init.cls ≠ "java/lang/invoke/VarHandle" ∧ (parseMethodDescriptor yX0_init.desc).map (fun d => d.parameters.length) = some 0 := by refine ⟨?_, ?_, ?_⟩ <;> decide +kernel
set_option maxRecDepth 20000 in
theorem nw1_X0_X3 : Cond.classLink RX0 9 RX3 ∈ wsX0_init := by decide +kernel
set_option maxRecDepth 20000 in
theorem nw2_X0_X3 : Cond.instantiable RX3 1 ∈ wsX0_init := by decide +kernel
set_option maxRecDepth 20000 in
theorem nw3_X0_X3 : Cond.initialized RX3 ∈ wsX0_init := by decide +kernel
set_option maxRecDepth 20000 in
theorem inn_X0_X3 : ∀ w ∈ wsX30, w ∈ wsX0_init := by decide +kernel
set_option maxRecDepth 20000 in
theorem ct1_X0_X3 : Cond.initialized yX3_init.cls ∈ wsX0_init := by decide +kernel
set_option maxRecDepth 20000 in
theorem ct2_X0_X3 : Cond.methodLink RX0 11 yX3_init ∈ wsX0_init := by decide +kernel
set_option maxRecDepth 20000 in
theorem ct3_X0_X3 : Cond.instanceMethod yX3_init ∈ wsX0_init := by decide +kernel
set_option maxRecDepth 20000 in
theorem fl_X0_init_14 : Cond.fieldLink RX0 14 (TX0 0).1 (TX0 0).2.1 (TX0 0).2.2.1 ∈ wsX0_init := by decide +kernel
set_option maxRecDepth 20000 in
theorem fl_X0_init_20 : Cond.fieldLink RX0 20 (TX0 1).1 (TX0 1).2.1 (TX0 1).2.2.1 ∈ wsX0_init := by decide +kernel
set_option maxRecDepth 20000 in
theorem fl_X0_init_23 : Cond.fieldLink RX0 23 (TX0 2).1 (TX0 2).2.1 (TX0 2).2.2.1 ∈ wsX0_init := by decide +kernel
set_option maxRecDepth 20000 in
theorem fl_X0_init_26 : Cond.fieldLink RX0 26 (TX0 3).1 (TX0 3).2.1 (TX0 3).2.2.1 ∈ wsX0_init := by decide +kernel
set_option maxRecDepth 20000 in
theorem fl_X0_init_29 : Cond.fieldLink RX0 29 (TX0 4).1 (TX0 4).2.1 (TX0 4).2.2.1 ∈ wsX0_init := by decide +kernel
set_option maxRecDepth 20000 in
theorem fl_X0_init_32 : Cond.fieldLink RX0 32 (TX0 5).1 (TX0 5).2.1 (TX0 5).2.2.1 ∈ wsX0_init := by decide +kernel
set_option maxRecDepth 20000 in
theorem fl_X0_init_35 : Cond.fieldLink RX0 35 (TX0 6).1 (TX0 6).2.1 (TX0 6).2.2.1 ∈ wsX0_init := by decide +kernel
set_option maxRecDepth 20000 in
theorem fl_X0_init_38 : Cond.fieldLink RX0 38 (TX0 7).1 (TX0 7).2.1 (TX0 7).2.2.1 ∈ wsX0_init := by decide +kernel
set_option maxRecDepth 20000 in
theorem fl_X0_init_41 : Cond.fieldLink RX0 41 (TX0 8).1 (TX0 8).2.1 (TX0 8).2.2.1 ∈ wsX0_init := by decide +kernel
set_option maxRecDepth 20000 in
theorem fl_X0_init_44 : Cond.fieldLink RX0 44 (TX0 9).1 (TX0 9).2.1 (TX0 9).2.2.1 ∈ wsX0_init := by decide +kernel
abbrev rmN_X0 : Room := { frames := 2, cells := 20, slots := 248, locals := 47 }
/-- a new disk -/
def d00 : Nat → Nat → Int32 := fun k => match k with | 1 => (fun _ => -5) | 2 => (fun _ => -5) | 7 => (fun _ => 1) | 8 => upd (upd (fun _ => 0) 0 8) 1 0 | _ => (fun _ => 0)
def PX0 (Z : gZ) (h0 : Nat) : va_W → Prop := fun w => ∃ ad : Nat → Nat, ad 0 = h0 ∧ w = gW 21 ad (dskE Z.2.1 ad d00)
set_option maxHeartbeats 4000000 in
set_option maxRecDepth 100000 in
theorem cnN_X0 (l : Launch) (Z : gZ) (h0 : Nat) : gN l yX0_init wsX0_init rmN_X0 Z h0 0 [.null, .null, .null, .null, .null, .null, .null, .null, .null, .null] [] (PX0 Z h0) 20 248 := by
  refine l_entryN (cc := cX0_init) (maxL := 1) (by decide +kernel) rfl rfl (Nat.le_of_ble_eq_true rfl) (fun X A C hin hov e => ?_)
  show GL X Z 1 A 0 0 [(h0, .inr (0, [.null, .null, .null, .null, .null, .null, .null, .null, .null, .null]))] 0 [(0, .ref h0)] []
  refine l_aload_n C dX0_init_0 0 rfl ?_
  refine l_obj C ob1_X0 ob2_X0 ob3_X0 (by decide) (Nat.le_of_ble_eq_true rfl) dX0_init_1 ?_
  refine l_aload_n C dX0_init_4 0 rfl ?_
  refine l_new (ci := 3) (fs := [.null]) C rfl inn_X0_X3 tyX3 tyX3_ok nw1_X0_X3 nw2_X0_X3 nw3_X0_X3 (fun j hj => by rcases (show j = 0 by omega) with rfl <;> rfl) (by decide) (by decide) dX0_init_5 (fun r0 => ?_)
  refine l_dup C dX0_init_8 rfl ?_
  refine l_bipush (v := 64) C dX0_init_9 (by decide) ?_
  refine l_iconst (v := 0) C dX0_init_11 (by decide) ?_
  refine l_callN (rest := [.ref r0, .ref h0]) C hov gX0_init_X3_init rfl okN_X3 ⟨by decide, by decide⟩ ⟨rfl, rfl⟩ (by decide) (by decide) ct1_X0_X3 ct2_X0_X3 ct3_X0_X3 rfl (cnN_X3 X.2.1 Z r0 64 (by decide) 0) rfl dX0_init_12 rfl (Nat.le_of_ble_eq_true rfl) (fun w hw => ?_)
  obtain ⟨a0, rfl⟩ := hw
  refine l_putF C hin 0 rfl rfl in_X0_init tyX0 tyX0_ok nmX0 0 (by decide) fl_X0_init_14 rfl rfl rfl rfl (Nat.le_of_ble_eq_true rfl) dX0_init_15 [(h0, .inr (0, [.ref r0, .null, .null, .null, .null, .null, .null, .null, .null, .null])), (r0, .inr (3, [.ref a0])), (a0, .inl (Z.2.1, 64, .inl (fun _ => 0)))] rfl ?_
  refine l_aload_n C dX0_init_18 0 rfl ?_
  refine l_new (ci := 3) (fs := [.null]) C rfl inn_X0_X3 tyX3 tyX3_ok nw1_X0_X3 nw2_X0_X3 nw3_X0_X3 (fun j hj => by rcases (show j = 0 by omega) with rfl <;> rfl) (by decide) (by decide) dX0_init_19 (fun r1 => ?_)
  refine l_dup C dX0_init_22 rfl ?_
  refine l_bipush (v := 64) C dX0_init_23 (by decide) ?_
  refine l_bipush (v := (-5)) C dX0_init_25 (by decide) ?_
  refine l_callN (rest := [.ref r1, .ref h0]) C hov gX0_init_X3_init rfl okN_X3 ⟨by decide, by decide⟩ ⟨rfl, rfl⟩ (by decide) (by decide) ct1_X0_X3 ct2_X0_X3 ct3_X0_X3 rfl (cnN_X3 X.2.1 Z r1 64 (by decide) (-5)) rfl dX0_init_27 rfl (Nat.le_of_ble_eq_true rfl) (fun w hw => ?_)
  obtain ⟨a1, rfl⟩ := hw
  refine l_putF C hin 0 rfl rfl in_X0_init tyX0 tyX0_ok nmX0 1 (by decide) fl_X0_init_20 rfl rfl rfl rfl (Nat.le_of_ble_eq_true rfl) dX0_init_30 [(h0, .inr (0, [.ref r0, .ref r1, .null, .null, .null, .null, .null, .null, .null, .null])), (r0, .inr (3, [.ref a0])), (a0, .inl (Z.2.1, 64, .inl (fun _ => 0))), (r1, .inr (3, [.ref a1])), (a1, .inl (Z.2.1, 64, .inl (fun _ => (-5))))] rfl ?_
  refine l_aload_n C dX0_init_33 0 rfl ?_
  refine l_new (ci := 3) (fs := [.null]) C rfl inn_X0_X3 tyX3 tyX3_ok nw1_X0_X3 nw2_X0_X3 nw3_X0_X3 (fun j hj => by rcases (show j = 0 by omega) with rfl <;> rfl) (by decide) (by decide) dX0_init_34 (fun r2 => ?_)
  refine l_dup C dX0_init_37 rfl ?_
  refine l_bipush (v := 64) C dX0_init_38 (by decide) ?_
  refine l_bipush (v := (-5)) C dX0_init_40 (by decide) ?_
  refine l_callN (rest := [.ref r2, .ref h0]) C hov gX0_init_X3_init rfl okN_X3 ⟨by decide, by decide⟩ ⟨rfl, rfl⟩ (by decide) (by decide) ct1_X0_X3 ct2_X0_X3 ct3_X0_X3 rfl (cnN_X3 X.2.1 Z r2 64 (by decide) (-5)) rfl dX0_init_42 rfl (Nat.le_of_ble_eq_true rfl) (fun w hw => ?_)
  obtain ⟨a2, rfl⟩ := hw
  refine l_putF C hin 0 rfl rfl in_X0_init tyX0 tyX0_ok nmX0 2 (by decide) fl_X0_init_23 rfl rfl rfl rfl (Nat.le_of_ble_eq_true rfl) dX0_init_45 [(h0, .inr (0, [.ref r0, .ref r1, .ref r2, .null, .null, .null, .null, .null, .null, .null])), (r0, .inr (3, [.ref a0])), (a0, .inl (Z.2.1, 64, .inl (fun _ => 0))), (r1, .inr (3, [.ref a1])), (a1, .inl (Z.2.1, 64, .inl (fun _ => (-5)))), (r2, .inr (3, [.ref a2])), (a2, .inl (Z.2.1, 64, .inl (fun _ => (-5))))] rfl ?_
  refine l_aload_n C dX0_init_48 0 rfl ?_
  refine l_new (ci := 3) (fs := [.null]) C rfl inn_X0_X3 tyX3 tyX3_ok nw1_X0_X3 nw2_X0_X3 nw3_X0_X3 (fun j hj => by rcases (show j = 0 by omega) with rfl <;> rfl) (by decide) (by decide) dX0_init_49 (fun r3 => ?_)
  refine l_dup C dX0_init_52 rfl ?_
  refine l_bipush (v := 8) C dX0_init_53 (by decide) ?_
  refine l_iconst (v := 0) C dX0_init_55 (by decide) ?_
  refine l_callN (rest := [.ref r3, .ref h0]) C hov gX0_init_X3_init rfl okN_X3 ⟨by decide, by decide⟩ ⟨rfl, rfl⟩ (by decide) (by decide) ct1_X0_X3 ct2_X0_X3 ct3_X0_X3 rfl (cnN_X3 X.2.1 Z r3 8 (by decide) 0) rfl dX0_init_56 rfl (Nat.le_of_ble_eq_true rfl) (fun w hw => ?_)
  obtain ⟨a3, rfl⟩ := hw
  refine l_putF C hin 0 rfl rfl in_X0_init tyX0 tyX0_ok nmX0 3 (by decide) fl_X0_init_26 rfl rfl rfl rfl (Nat.le_of_ble_eq_true rfl) dX0_init_59 [(h0, .inr (0, [.ref r0, .ref r1, .ref r2, .ref r3, .null, .null, .null, .null, .null, .null])), (r0, .inr (3, [.ref a0])), (a0, .inl (Z.2.1, 64, .inl (fun _ => 0))), (r1, .inr (3, [.ref a1])), (a1, .inl (Z.2.1, 64, .inl (fun _ => (-5)))), (r2, .inr (3, [.ref a2])), (a2, .inl (Z.2.1, 64, .inl (fun _ => (-5)))), (r3, .inr (3, [.ref a3])), (a3, .inl (Z.2.1, 8, .inl (fun _ => 0)))] rfl ?_
  refine l_aload_n C dX0_init_62 0 rfl ?_
  refine l_new (ci := 3) (fs := [.null]) C rfl inn_X0_X3 tyX3 tyX3_ok nw1_X0_X3 nw2_X0_X3 nw3_X0_X3 (fun j hj => by rcases (show j = 0 by omega) with rfl <;> rfl) (by decide) (by decide) dX0_init_63 (fun r4 => ?_)
  refine l_dup C dX0_init_66 rfl ?_
  refine l_bipush (v := 8) C dX0_init_67 (by decide) ?_
  refine l_iconst (v := 0) C dX0_init_69 (by decide) ?_
  refine l_callN (rest := [.ref r4, .ref h0]) C hov gX0_init_X3_init rfl okN_X3 ⟨by decide, by decide⟩ ⟨rfl, rfl⟩ (by decide) (by decide) ct1_X0_X3 ct2_X0_X3 ct3_X0_X3 rfl (cnN_X3 X.2.1 Z r4 8 (by decide) 0) rfl dX0_init_70 rfl (Nat.le_of_ble_eq_true rfl) (fun w hw => ?_)
  obtain ⟨a4, rfl⟩ := hw
  refine l_putF C hin 0 rfl rfl in_X0_init tyX0 tyX0_ok nmX0 4 (by decide) fl_X0_init_29 rfl rfl rfl rfl (Nat.le_of_ble_eq_true rfl) dX0_init_73 [(h0, .inr (0, [.ref r0, .ref r1, .ref r2, .ref r3, .ref r4, .null, .null, .null, .null, .null])), (r0, .inr (3, [.ref a0])), (a0, .inl (Z.2.1, 64, .inl (fun _ => 0))), (r1, .inr (3, [.ref a1])), (a1, .inl (Z.2.1, 64, .inl (fun _ => (-5)))), (r2, .inr (3, [.ref a2])), (a2, .inl (Z.2.1, 64, .inl (fun _ => (-5)))), (r3, .inr (3, [.ref a3])), (a3, .inl (Z.2.1, 8, .inl (fun _ => 0))), (r4, .inr (3, [.ref a4])), (a4, .inl (Z.2.1, 8, .inl (fun _ => 0)))] rfl ?_
  refine l_aload_n C dX0_init_76 0 rfl ?_
  refine l_new (ci := 3) (fs := [.null]) C rfl inn_X0_X3 tyX3 tyX3_ok nw1_X0_X3 nw2_X0_X3 nw3_X0_X3 (fun j hj => by rcases (show j = 0 by omega) with rfl <;> rfl) (by decide) (by decide) dX0_init_77 (fun r5 => ?_)
  refine l_dup C dX0_init_80 rfl ?_
  refine l_bipush (v := 8) C dX0_init_81 (by decide) ?_
  refine l_iconst (v := 0) C dX0_init_83 (by decide) ?_
  refine l_callN (rest := [.ref r5, .ref h0]) C hov gX0_init_X3_init rfl okN_X3 ⟨by decide, by decide⟩ ⟨rfl, rfl⟩ (by decide) (by decide) ct1_X0_X3 ct2_X0_X3 ct3_X0_X3 rfl (cnN_X3 X.2.1 Z r5 8 (by decide) 0) rfl dX0_init_84 rfl (Nat.le_of_ble_eq_true rfl) (fun w hw => ?_)
  obtain ⟨a5, rfl⟩ := hw
  refine l_putF C hin 0 rfl rfl in_X0_init tyX0 tyX0_ok nmX0 5 (by decide) fl_X0_init_32 rfl rfl rfl rfl (Nat.le_of_ble_eq_true rfl) dX0_init_87 [(h0, .inr (0, [.ref r0, .ref r1, .ref r2, .ref r3, .ref r4, .ref r5, .null, .null, .null, .null])), (r0, .inr (3, [.ref a0])), (a0, .inl (Z.2.1, 64, .inl (fun _ => 0))), (r1, .inr (3, [.ref a1])), (a1, .inl (Z.2.1, 64, .inl (fun _ => (-5)))), (r2, .inr (3, [.ref a2])), (a2, .inl (Z.2.1, 64, .inl (fun _ => (-5)))), (r3, .inr (3, [.ref a3])), (a3, .inl (Z.2.1, 8, .inl (fun _ => 0))), (r4, .inr (3, [.ref a4])), (a4, .inl (Z.2.1, 8, .inl (fun _ => 0))), (r5, .inr (3, [.ref a5])), (a5, .inl (Z.2.1, 8, .inl (fun _ => 0)))] rfl ?_
  refine l_aload_n C dX0_init_90 0 rfl ?_
  refine l_new (ci := 3) (fs := [.null]) C rfl inn_X0_X3 tyX3 tyX3_ok nw1_X0_X3 nw2_X0_X3 nw3_X0_X3 (fun j hj => by rcases (show j = 0 by omega) with rfl <;> rfl) (by decide) (by decide) dX0_init_91 (fun r6 => ?_)
  refine l_dup C dX0_init_94 rfl ?_
  refine l_bipush (v := 8) C dX0_init_95 (by decide) ?_
  refine l_iconst (v := 0) C dX0_init_97 (by decide) ?_
  refine l_callN (rest := [.ref r6, .ref h0]) C hov gX0_init_X3_init rfl okN_X3 ⟨by decide, by decide⟩ ⟨rfl, rfl⟩ (by decide) (by decide) ct1_X0_X3 ct2_X0_X3 ct3_X0_X3 rfl (cnN_X3 X.2.1 Z r6 8 (by decide) 0) rfl dX0_init_98 rfl (Nat.le_of_ble_eq_true rfl) (fun w hw => ?_)
  obtain ⟨a6, rfl⟩ := hw
  refine l_putF C hin 0 rfl rfl in_X0_init tyX0 tyX0_ok nmX0 6 (by decide) fl_X0_init_35 rfl rfl rfl rfl (Nat.le_of_ble_eq_true rfl) dX0_init_101 [(h0, .inr (0, [.ref r0, .ref r1, .ref r2, .ref r3, .ref r4, .ref r5, .ref r6, .null, .null, .null])), (r0, .inr (3, [.ref a0])), (a0, .inl (Z.2.1, 64, .inl (fun _ => 0))), (r1, .inr (3, [.ref a1])), (a1, .inl (Z.2.1, 64, .inl (fun _ => (-5)))), (r2, .inr (3, [.ref a2])), (a2, .inl (Z.2.1, 64, .inl (fun _ => (-5)))), (r3, .inr (3, [.ref a3])), (a3, .inl (Z.2.1, 8, .inl (fun _ => 0))), (r4, .inr (3, [.ref a4])), (a4, .inl (Z.2.1, 8, .inl (fun _ => 0))), (r5, .inr (3, [.ref a5])), (a5, .inl (Z.2.1, 8, .inl (fun _ => 0))), (r6, .inr (3, [.ref a6])), (a6, .inl (Z.2.1, 8, .inl (fun _ => 0)))] rfl ?_
  refine l_aload_n C dX0_init_104 0 rfl ?_
  refine l_new (ci := 3) (fs := [.null]) C rfl inn_X0_X3 tyX3 tyX3_ok nw1_X0_X3 nw2_X0_X3 nw3_X0_X3 (fun j hj => by rcases (show j = 0 by omega) with rfl <;> rfl) (by decide) (by decide) dX0_init_105 (fun r7 => ?_)
  refine l_dup C dX0_init_108 rfl ?_
  refine l_bipush (v := 8) C dX0_init_109 (by decide) ?_
  refine l_iconst (v := 1) C dX0_init_111 (by decide) ?_
  refine l_callN (rest := [.ref r7, .ref h0]) C hov gX0_init_X3_init rfl okN_X3 ⟨by decide, by decide⟩ ⟨rfl, rfl⟩ (by decide) (by decide) ct1_X0_X3 ct2_X0_X3 ct3_X0_X3 rfl (cnN_X3 X.2.1 Z r7 8 (by decide) 1) rfl dX0_init_112 rfl (Nat.le_of_ble_eq_true rfl) (fun w hw => ?_)
  obtain ⟨a7, rfl⟩ := hw
  refine l_putF C hin 0 rfl rfl in_X0_init tyX0 tyX0_ok nmX0 7 (by decide) fl_X0_init_38 rfl rfl rfl rfl (Nat.le_of_ble_eq_true rfl) dX0_init_115 [(h0, .inr (0, [.ref r0, .ref r1, .ref r2, .ref r3, .ref r4, .ref r5, .ref r6, .ref r7, .null, .null])), (r0, .inr (3, [.ref a0])), (a0, .inl (Z.2.1, 64, .inl (fun _ => 0))), (r1, .inr (3, [.ref a1])), (a1, .inl (Z.2.1, 64, .inl (fun _ => (-5)))), (r2, .inr (3, [.ref a2])), (a2, .inl (Z.2.1, 64, .inl (fun _ => (-5)))), (r3, .inr (3, [.ref a3])), (a3, .inl (Z.2.1, 8, .inl (fun _ => 0))), (r4, .inr (3, [.ref a4])), (a4, .inl (Z.2.1, 8, .inl (fun _ => 0))), (r5, .inr (3, [.ref a5])), (a5, .inl (Z.2.1, 8, .inl (fun _ => 0))), (r6, .inr (3, [.ref a6])), (a6, .inl (Z.2.1, 8, .inl (fun _ => 0))), (r7, .inr (3, [.ref a7])), (a7, .inl (Z.2.1, 8, .inl (fun _ => 1)))] rfl ?_
  refine l_aload_n C dX0_init_118 0 rfl ?_
  refine l_new (ci := 3) (fs := [.null]) C rfl inn_X0_X3 tyX3 tyX3_ok nw1_X0_X3 nw2_X0_X3 nw3_X0_X3 (fun j hj => by rcases (show j = 0 by omega) with rfl <;> rfl) (by decide) (by decide) dX0_init_119 (fun r8 => ?_)
  refine l_dup C dX0_init_122 rfl ?_
  refine l_iconst (v := 2) C dX0_init_123 (by decide) ?_
  refine l_iconst (v := 0) C dX0_init_124 (by decide) ?_
  refine l_callN (rest := [.ref r8, .ref h0]) C hov gX0_init_X3_init rfl okN_X3 ⟨by decide, by decide⟩ ⟨rfl, rfl⟩ (by decide) (by decide) ct1_X0_X3 ct2_X0_X3 ct3_X0_X3 rfl (cnN_X3 X.2.1 Z r8 2 (by decide) 0) rfl dX0_init_125 rfl (Nat.le_of_ble_eq_true rfl) (fun w hw => ?_)
  obtain ⟨a8, rfl⟩ := hw
  refine l_putF C hin 0 rfl rfl in_X0_init tyX0 tyX0_ok nmX0 8 (by decide) fl_X0_init_41 rfl rfl rfl rfl (Nat.le_of_ble_eq_true rfl) dX0_init_128 [(h0, .inr (0, [.ref r0, .ref r1, .ref r2, .ref r3, .ref r4, .ref r5, .ref r6, .ref r7, .ref r8, .null])), (r0, .inr (3, [.ref a0])), (a0, .inl (Z.2.1, 64, .inl (fun _ => 0))), (r1, .inr (3, [.ref a1])), (a1, .inl (Z.2.1, 64, .inl (fun _ => (-5)))), (r2, .inr (3, [.ref a2])), (a2, .inl (Z.2.1, 64, .inl (fun _ => (-5)))), (r3, .inr (3, [.ref a3])), (a3, .inl (Z.2.1, 8, .inl (fun _ => 0))), (r4, .inr (3, [.ref a4])), (a4, .inl (Z.2.1, 8, .inl (fun _ => 0))), (r5, .inr (3, [.ref a5])), (a5, .inl (Z.2.1, 8, .inl (fun _ => 0))), (r6, .inr (3, [.ref a6])), (a6, .inl (Z.2.1, 8, .inl (fun _ => 0))), (r7, .inr (3, [.ref a7])), (a7, .inl (Z.2.1, 8, .inl (fun _ => 1))), (r8, .inr (3, [.ref a8])), (a8, .inl (Z.2.1, 2, .inl (fun _ => 0)))] rfl ?_
  refine l_aload_n C dX0_init_131 0 rfl ?_
  refine l_new (ci := 3) (fs := [.null]) C rfl inn_X0_X3 tyX3 tyX3_ok nw1_X0_X3 nw2_X0_X3 nw3_X0_X3 (fun j hj => by rcases (show j = 0 by omega) with rfl <;> rfl) (by decide) (by decide) dX0_init_132 (fun r9 => ?_)
  refine l_dup C dX0_init_135 rfl ?_
  refine l_iconst (v := 4) C dX0_init_136 (by decide) ?_
  refine l_iconst (v := 0) C dX0_init_137 (by decide) ?_
  refine l_callN (rest := [.ref r9, .ref h0]) C hov gX0_init_X3_init rfl okN_X3 ⟨by decide, by decide⟩ ⟨rfl, rfl⟩ (by decide) (by decide) ct1_X0_X3 ct2_X0_X3 ct3_X0_X3 rfl (cnN_X3 X.2.1 Z r9 4 (by decide) 0) rfl dX0_init_138 rfl (Nat.le_of_ble_eq_true rfl) (fun w hw => ?_)
  obtain ⟨a9, rfl⟩ := hw
  refine l_putF C hin 0 rfl rfl in_X0_init tyX0 tyX0_ok nmX0 9 (by decide) fl_X0_init_44 rfl rfl rfl rfl (Nat.le_of_ble_eq_true rfl) dX0_init_141 [(h0, .inr (0, [.ref r0, .ref r1, .ref r2, .ref r3, .ref r4, .ref r5, .ref r6, .ref r7, .ref r8, .ref r9])), (r0, .inr (3, [.ref a0])), (a0, .inl (Z.2.1, 64, .inl (fun _ => 0))), (r1, .inr (3, [.ref a1])), (a1, .inl (Z.2.1, 64, .inl (fun _ => (-5)))), (r2, .inr (3, [.ref a2])), (a2, .inl (Z.2.1, 64, .inl (fun _ => (-5)))), (r3, .inr (3, [.ref a3])), (a3, .inl (Z.2.1, 8, .inl (fun _ => 0))), (r4, .inr (3, [.ref a4])), (a4, .inl (Z.2.1, 8, .inl (fun _ => 0))), (r5, .inr (3, [.ref a5])), (a5, .inl (Z.2.1, 8, .inl (fun _ => 0))), (r6, .inr (3, [.ref a6])), (a6, .inl (Z.2.1, 8, .inl (fun _ => 0))), (r7, .inr (3, [.ref a7])), (a7, .inl (Z.2.1, 8, .inl (fun _ => 1))), (r8, .inr (3, [.ref a8])), (a8, .inl (Z.2.1, 2, .inl (fun _ => 0))), (r9, .inr (3, [.ref a9])), (a9, .inl (Z.2.1, 4, .inl (fun _ => 0)))] rfl ?_
  obtain ⟨ad, ead⟩ : ∃ ad : Nat → Nat, ad = fun i => [h0, r0, a0, r1, a1, r2, a2, r3, a3, r4, a4, r5, a5, r6, a6, r7, a7, r8, a8, r9, a9].getD i 0 := ⟨_, rfl⟩
  refine l_aload_n C dX0_init_144 0 rfl ?_
  refine l_getf (v := .ref r8) C 0 rfl rfl in_X0_init 8 (by decide) fl_X0_init_41 rfl dX0_init_145 ?_
  refine l_iconst (v := 0) C dX0_init_148 (by decide) ?_
  refine l_bipush (v := 8) C dX0_init_149 (by decide) ?_
  refine l_callVv (rest := []) (wa := [(h0, .inr (0, [.ref r0, .ref r1, .ref r2, .ref r3, .ref r4, .ref r5, .ref r6, .ref r7, .ref r8, .ref r9])), (r0, .inr (3, [.ref a0])), (a0, .inl (Z.2.1, 64, .inl (fun _ => 0))), (r1, .inr (3, [.ref a1])), (a1, .inl (Z.2.1, 64, .inl (fun _ => (-5)))), (r2, .inr (3, [.ref a2])), (a2, .inl (Z.2.1, 64, .inl (fun _ => (-5)))), (r3, .inr (3, [.ref a3])), (a3, .inl (Z.2.1, 8, .inl (fun _ => 0))), (r4, .inr (3, [.ref a4])), (a4, .inl (Z.2.1, 8, .inl (fun _ => 0))), (r5, .inr (3, [.ref a5])), (a5, .inl (Z.2.1, 8, .inl (fun _ => 0))), (r6, .inr (3, [.ref a6])), (a6, .inl (Z.2.1, 8, .inl (fun _ => 0))), (r7, .inr (3, [.ref a7])), (a7, .inl (Z.2.1, 8, .inl (fun _ => 1)))]) (wb := [(r9, .inr (3, [.ref a9])), (a9, .inl (Z.2.1, 4, .inl (fun _ => 0)))]) (m := 2) (adc := (fun i => [r8, a8].getD i 0)) (Ec := rowE Z.2.1 (fun i => [r8, a8].getD i 0) 2 (fun _ => 0)) C gX0_init_X3_put rfl ok_X3_put ⟨by decide, by decide⟩ ⟨rfl, rfl⟩ (by decide) (by decide) 0 (by decide) rfl rfl (fun hI => cn_X3_put X.2.1 Z (fun i => [r8, a8].getD i 0) hI 2 (fun _ => 0) 0 8 (f' := (upd (fun _ => 0) 0 8)) (by unfold f_X3_put; rw [if_neg (by decide), if_neg (by decide), if_pos (by decide)]; rfl)) rfl dX0_init_151 rfl (Nat.le_of_ble_eq_true rfl) ?_
  refine l_aload_n C dX0_init_154 0 rfl ?_
  refine l_getf (v := .ref r8) C 0 rfl rfl in_X0_init 8 (by decide) fl_X0_init_41 rfl dX0_init_155 ?_
  refine l_iconst (v := 1) C dX0_init_158 (by decide) ?_
  refine l_iconst (v := 0) C dX0_init_159 (by decide) ?_
  refine l_callVv (rest := []) (wa := [(h0, .inr (0, [.ref r0, .ref r1, .ref r2, .ref r3, .ref r4, .ref r5, .ref r6, .ref r7, .ref r8, .ref r9])), (r0, .inr (3, [.ref a0])), (a0, .inl (Z.2.1, 64, .inl (fun _ => 0))), (r1, .inr (3, [.ref a1])), (a1, .inl (Z.2.1, 64, .inl (fun _ => (-5)))), (r2, .inr (3, [.ref a2])), (a2, .inl (Z.2.1, 64, .inl (fun _ => (-5)))), (r3, .inr (3, [.ref a3])), (a3, .inl (Z.2.1, 8, .inl (fun _ => 0))), (r4, .inr (3, [.ref a4])), (a4, .inl (Z.2.1, 8, .inl (fun _ => 0))), (r5, .inr (3, [.ref a5])), (a5, .inl (Z.2.1, 8, .inl (fun _ => 0))), (r6, .inr (3, [.ref a6])), (a6, .inl (Z.2.1, 8, .inl (fun _ => 0))), (r7, .inr (3, [.ref a7])), (a7, .inl (Z.2.1, 8, .inl (fun _ => 1)))]) (wb := [(r9, .inr (3, [.ref a9])), (a9, .inl (Z.2.1, 4, .inl (fun _ => 0)))]) (m := 2) (adc := (fun i => [r8, a8].getD i 0)) (Ec := rowE Z.2.1 (fun i => [r8, a8].getD i 0) 2 (upd (fun _ => 0) 0 8)) C gX0_init_X3_put rfl ok_X3_put ⟨by decide, by decide⟩ ⟨rfl, rfl⟩ (by decide) (by decide) 0 (by decide) rfl rfl (fun hI => cn_X3_put X.2.1 Z (fun i => [r8, a8].getD i 0) hI 2 (upd (fun _ => 0) 0 8) 1 0 (f' := (upd (upd (fun _ => 0) 0 8) 1 0)) (by unfold f_X3_put; rw [if_neg (by decide), if_neg (by decide), if_pos (by decide)]; rfl)) rfl dX0_init_160 rfl (Nat.le_of_ble_eq_true rfl) ?_
  exact l_vret C e ⟨fun i => [h0, r0, a0, r1, a1, r2, a2, r3, a3, r4, a4, r5, a5, r6, a6, r7, a7, r8, a8, r9, a9].getD i 0, rfl, rfl⟩ dX0_init_163
