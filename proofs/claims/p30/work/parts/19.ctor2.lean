set_option maxRecDepth 20000 in
theorem ob1_X4 : Cond.methodLink RX4 3 objectInit ∈ wsX4_init := by decide +kernel
set_option maxRecDepth 20000 in
theorem ob2_X4 : Cond.instanceMethod objectInit ∈ wsX4_init := by decide +kernel
set_option maxRecDepth 20000 in
theorem ob3_X4 : Cond.code objectInit ⟨#[0xb1]⟩ 1 none ∈ wsX4_init := by decide +kernel
set_option maxRecDepth 20000 in
theorem in_X4_init : ∀ w ∈ wsX40, w ∈ wsX4_init := by decide +kernel
set_option maxRecDepth 20000 in
theorem okN_X4 : yX4_init.cls ≠ "java/lang/invoke/MethodHandle" ∧ yX4_init.cls ≠ "java/lang/invoke/VarHandle" ∧ (parseMethodDescriptor yX4_init.desc).map (fun d => d.parameters.length) = some 0 := by refine ⟨?_, ?_, ?_⟩ <;> decide +kernel
set_option maxRecDepth 20000 in
theorem nw1_X4_X3 : Cond.classLink RX4 9 RX3 ∈ wsX4_init := by decide +kernel
set_option maxRecDepth 20000 in
theorem nw2_X4_X3 : Cond.instantiable RX3 1 ∈ wsX4_init := by decide +kernel
set_option maxRecDepth 20000 in
theorem nw3_X4_X3 : Cond.initialized RX3 ∈ wsX4_init := by decide +kernel
set_option maxRecDepth 20000 in
theorem inn_X4_X3 : ∀ w ∈ wsX30, w ∈ wsX4_init := by decide +kernel
set_option maxRecDepth 20000 in
theorem ct1_X4_X3 : Cond.initialized yX3_init.cls ∈ wsX4_init := by decide +kernel
set_option maxRecDepth 20000 in
theorem ct2_X4_X3 : Cond.methodLink RX4 11 yX3_init ∈ wsX4_init := by decide +kernel
set_option maxRecDepth 20000 in
theorem ct3_X4_X3 : Cond.instanceMethod yX3_init ∈ wsX4_init := by decide +kernel
set_option maxRecDepth 20000 in
theorem fl_X4_init_14 : Cond.fieldLink RX4 14 (TX4 0).1 (TX4 0).2.1 (TX4 0).2.2.1 ∈ wsX4_init := by decide +kernel
set_option maxRecDepth 20000 in
theorem fl_X4_init_20 : Cond.fieldLink RX4 20 (TX4 1).1 (TX4 1).2.1 (TX4 1).2.2.1 ∈ wsX4_init := by decide +kernel
abbrev rmN_X4 : Room := { frames := 2, cells := 2, slots := 81, locals := 47 }
def PX4 (Z : gZ) (h0 : Nat) : va_W → Prop := fun w => ∃ r a : Nat, w = [(h0, .inr (4, [.ref r, .int 0])), (r, .inr (3, [.ref a])), (a, .inl (Z.2.1, 80, .inl (fun _ => 0)))]
set_option maxHeartbeats 4000000 in
set_option maxRecDepth 100000 in
theorem cnN_X4 (l : Launch) (Z : gZ) (h0 : Nat) : gN l yX4_init wsX4_init rmN_X4 Z h0 4 [.null, .int 0] [] (PX4 Z h0) 2 81 := by
  refine l_entryN (cc := cX4_init) (maxL := 1) (by decide +kernel) rfl rfl (Nat.le_of_ble_eq_true rfl) (fun X A C hin hov e => ?_)
  show GL X Z 1 A 0 0 [(h0, .inr (4, [.null, .int 0]))] 0 [(0, .ref h0)] []
  refine l_aload_n C dX4_init_0 0 rfl ?_
  refine l_obj C ob1_X4 ob2_X4 ob3_X4 (by decide) (Nat.le_of_ble_eq_true rfl) dX4_init_1 ?_
  refine l_aload_n C dX4_init_4 0 rfl ?_
  refine l_new (ci := 3) (fs := [.null]) C rfl inn_X4_X3 tyX3 tyX3_ok nw1_X4_X3 nw2_X4_X3 nw3_X4_X3 (fun j hj => by rcases (show j = 0 by omega) with rfl <;> rfl) (by decide) (by decide) dX4_init_5 (fun r => ?_)
  refine l_dup C dX4_init_8 rfl ?_
  refine l_bipush (v := 80) C dX4_init_9 (by decide) ?_
  refine l_iconst (v := 0) C dX4_init_11 (by decide) ?_
  refine l_callN (rest := [.ref r, .ref h0]) C hov gX4_init_X3_init rfl okN_X3 ⟨by decide, by decide⟩ ⟨rfl, rfl⟩ (by decide) (by decide) ct1_X4_X3 ct2_X4_X3 ct3_X4_X3 rfl (cnN_X3 X.2.1 Z r 80 (by decide) 0) rfl dX4_init_12 rfl (Nat.le_of_ble_eq_true rfl) (fun w hw => ?_)
  obtain ⟨a, rfl⟩ := hw
  refine l_putF C hin 0 rfl rfl in_X4_init tyX4 tyX4_ok nmX4 0 (by decide) fl_X4_init_14 rfl rfl rfl rfl (Nat.le_of_ble_eq_true rfl) dX4_init_15 [(h0, .inr (4, [.ref r, .int 0])), (r, .inr (3, [.ref a])), (a, .inl (Z.2.1, 80, .inl (fun _ => 0)))] rfl ?_
  refine l_aload_n C dX4_init_18 0 rfl ?_
  refine l_iconst (v := 0) C dX4_init_19 (by decide) ?_
  refine l_putf C 0 rfl rfl in_X4_init tyX4 tyX4_ok nmX4 1 (by decide) fl_X4_init_20 rfl rfl rfl (Nat.le_of_ble_eq_true rfl) dX4_init_20 [(h0, .inr (4, [.ref r, .int 0])), (r, .inr (3, [.ref a])), (a, .inl (Z.2.1, 80, .inl (fun _ => 0)))] rfl ?_
  exact l_vret C e ⟨r, a, rfl⟩ dX4_init_23
set_option maxRecDepth 20000 in
theorem ob1_X1 : Cond.methodLink RX1 3 objectInit ∈ wsX1_init := by decide +kernel
set_option maxRecDepth 20000 in
theorem ob2_X1 : Cond.instanceMethod objectInit ∈ wsX1_init := by decide +kernel
set_option maxRecDepth 20000 in
theorem ob3_X1 : Cond.code objectInit ⟨#[0xb1]⟩ 1 none ∈ wsX1_init := by decide +kernel
set_option maxRecDepth 20000 in
theorem in_X1_init : ∀ w ∈ wsX10, w ∈ wsX1_init := by decide +kernel
set_option maxRecDepth 20000 in
theorem okN_X1 : yX1_init.cls ≠ "java/lang/invoke/MethodHandle" ∧ yX1_init.cls ≠ "java/lang/invoke/VarHandle" ∧ (parseMethodDescriptor yX1_init.desc).map (fun d => d.parameters.length) = some 0 := by refine ⟨?_, ?_, ?_⟩ <;> decide +kernel
set_option maxRecDepth 20000 in
theorem nw1_X1_X0 : Cond.classLink RX1 9 RX0 ∈ wsX1_init := by decide +kernel
set_option maxRecDepth 20000 in
theorem nw2_X1_X0 : Cond.instantiable RX0 10 ∈ wsX1_init := by decide +kernel
set_option maxRecDepth 20000 in
theorem nw3_X1_X0 : Cond.initialized RX0 ∈ wsX1_init := by decide +kernel
set_option maxRecDepth 20000 in
theorem inn_X1_X0 : ∀ w ∈ wsX00, w ∈ wsX1_init := by decide +kernel
set_option maxRecDepth 20000 in
theorem ct1_X1_X0 : Cond.initialized yX0_init.cls ∈ wsX1_init := by decide +kernel
set_option maxRecDepth 20000 in
theorem ct2_X1_X0 : Cond.methodLink RX1 24 yX0_init ∈ wsX1_init := by decide +kernel
set_option maxRecDepth 20000 in
theorem ct3_X1_X0 : Cond.instanceMethod yX0_init ∈ wsX1_init := by decide +kernel
set_option maxRecDepth 20000 in
theorem fl_X1_init_11 : Cond.fieldLink RX1 11 (TX1 0).1 (TX1 0).2.1 (TX1 0).2.2.1 ∈ wsX1_init := by decide +kernel
set_option maxRecDepth 20000 in
theorem fl_X1_init_17 : Cond.fieldLink RX1 17 (TX1 1).1 (TX1 1).2.1 (TX1 1).2.2.1 ∈ wsX1_init := by decide +kernel
set_option maxRecDepth 20000 in
theorem fl_X1_init_21 : Cond.fieldLink RX1 21 (TX1 2).1 (TX1 2).2.1 (TX1 2).2.2.1 ∈ wsX1_init := by decide +kernel
abbrev rmN_X1 : Room := { frames := 3, cells := 106, slots := 1295, locals := 67 }
def sl5 (q0 q1 q2 q3 q4 : Nat) : Nat → Option Nat := (va_up (va_up (va_up (va_up (va_up (fun _ => none) 0 (some q0)) 1 (some q1)) 2 (some q2)) 3 (some q3)) 4 (some q4))
def PX1 (Z : gZ) (h0 : Nat) : va_W → Prop := fun w => ∃ (qs : Nat) (e0 e1 e2 e3 e4 : Nat → Nat), w = ((((([(h0, .inr (1, [.ref qs, .int 0, .int 0])), (qs, .inl (Z.2.2, 5, .inr (.inr (.inr (.inr (sl5 (e0 0) (e1 0) (e2 0) (e3 0) (e4 0)))))))] ++ gW 21 e0 (dskE Z.2.1 e0 d00)) ++ gW 21 e1 (dskE Z.2.1 e1 d00)) ++ gW 21 e2 (dskE Z.2.1 e2 d00)) ++ gW 21 e3 (dskE Z.2.1 e3 d00)) ++ gW 21 e4 (dskE Z.2.1 e4 d00))
set_option maxHeartbeats 4000000 in
set_option maxRecDepth 100000 in
theorem cnN_X1 (l : Launch) (Z : gZ) (h0 : Nat) : gN l yX1_init wsX1_init rmN_X1 Z h0 1 [.null, .int 0, .int 0] [] (PX1 Z h0) 106 1295 := by
  refine l_entryN (cc := cX1_init) (maxL := 2) (by decide +kernel) rfl rfl (Nat.le_of_ble_eq_true rfl) (fun X A C hin hov e => ?_)
  show GL X Z 2 A 0 0 [(h0, .inr (1, [.null, .int 0, .int 0]))] 0 [(0, .ref h0)] []
  refine l_aload_n C dX1_init_0 0 rfl ?_
  refine l_obj C ob1_X1 ob2_X1 ob3_X1 (by decide) (Nat.le_of_ble_eq_true rfl) dX1_init_1 ?_
  refine l_aload_n C dX1_init_4 0 rfl ?_
  refine l_iconst (v := 5) C dX1_init_5 (by decide) ?_
  refine l_newq (N := 5) C nw1_X1_X0 hov.1 (by decide) rfl (by decide) (by decide) (by decide) dX1_init_6 (fun qs => ?_)
  refine l_putF C hin 0 rfl rfl in_X1_init tyX1 tyX1_ok nmX1 0 (by decide) fl_X1_init_11 rfl rfl rfl rfl (Nat.le_of_ble_eq_true rfl) dX1_init_9 [(h0, .inr (1, [.ref qs, .int 0, .int 0])), (qs, .inl (Z.2.2, 5, .inr (.inr (.inr (.inr (fun _ => none))))))] rfl ?_
  refine l_aload_n C dX1_init_12 0 rfl ?_
  refine l_iconst (v := 0) C dX1_init_13 (by decide) ?_
  refine l_putf C 0 rfl rfl in_X1_init tyX1 tyX1_ok nmX1 1 (by decide) fl_X1_init_17 rfl rfl rfl (Nat.le_of_ble_eq_true rfl) dX1_init_14 [(h0, .inr (1, [.ref qs, .int 0, .int 0])), (qs, .inl (Z.2.2, 5, .inr (.inr (.inr (.inr (fun _ => none))))))] rfl ?_
  refine l_aload_n C dX1_init_17 0 rfl ?_
  refine l_iconst (v := 0) C dX1_init_18 (by decide) ?_
  refine l_putf C 0 rfl rfl in_X1_init tyX1 tyX1_ok nmX1 2 (by decide) fl_X1_init_21 rfl rfl rfl (Nat.le_of_ble_eq_true rfl) dX1_init_19 [(h0, .inr (1, [.ref qs, .int 0, .int 0])), (qs, .inl (Z.2.2, 5, .inr (.inr (.inr (.inr (fun _ => none))))))] rfl ?_
  refine l_iconst (v := 0) C dX1_init_22 (by decide) ?_
  refine l_istore_n C dX1_init_23 (by decide) [(1, .int 0), (0, .ref h0)] rfl ?_
  refine l_iload_n C dX1_init_24 0 rfl ?_
  refine l_aload_n C dX1_init_25 1 rfl ?_
  refine l_getf (v := .ref qs) C 0 rfl rfl in_X1_init 0 (by decide) fl_X1_init_11 rfl dX1_init_26 ?_
  refine l_alenq C 1 rfl dX1_init_29 ?_
  refine l_icmp_ge (tgt := 52) C dX1_init_30 (by decide) (fun hc => absurd hc (by decide)) (fun _ => ?_)
  refine l_aload_n C dX1_init_33 1 rfl ?_
  refine l_getf (v := .ref qs) C 0 rfl rfl in_X1_init 0 (by decide) fl_X1_init_11 rfl dX1_init_34 ?_
  refine l_iload_n C dX1_init_37 0 rfl ?_
  refine l_new (ci := 0) (fs := [.null, .null, .null, .null, .null, .null, .null, .null, .null, .null]) C rfl inn_X1_X0 tyX0 tyX0_ok nw1_X1_X0 nw2_X1_X0 nw3_X1_X0 (fun j hj => by rcases (show j = 0 ∨ j = 1 ∨ j = 2 ∨ j = 3 ∨ j = 4 ∨ j = 5 ∨ j = 6 ∨ j = 7 ∨ j = 8 ∨ j = 9 by omega) with rfl | rfl | rfl | rfl | rfl | rfl | rfl | rfl | rfl | rfl <;> rfl) (by decide) (by decide) dX1_init_38 (fun q0 => ?_)
  refine l_dup C dX1_init_41 rfl ?_
  refine l_callN (rest := [.ref q0, .int 0, .ref qs]) C hov gX1_init_X0_init rfl okN_X0 ⟨by decide, by decide⟩ ⟨rfl, rfl⟩ (by decide) (by decide) ct1_X1_X0 ct2_X1_X0 ct3_X1_X0 rfl (cnN_X0 X.2.1 Z q0) rfl dX1_init_42 rfl (Nat.le_of_ble_eq_true rfl) (fun w hw => ?_)
  obtain ⟨e0, rfl, rfl⟩ := hw
  refine l_astq C 1 2 rfl rfl (nI_in (c := 0) (by decide) (by decide)) dX1_init_45 ([(h0, .inr (1, [.ref qs, .int 0, .int 0])), (qs, .inl (Z.2.2, 5, .inr (.inr (.inr (.inr (va_up (fun _ => none) 0 (some (e0 0))))))))] ++ gW 21 e0 (dskE Z.2.1 e0 d00)) rfl ?_
  refine l_iinc (v := 1) C dX1_init_46 0 rfl (by decide) (by decide) [(1, .int 1), (0, .ref h0)] rfl ?_
  refine l_goto (tgt := 24) C dX1_init_49 (by decide) ?_
  refine l_iload_n C dX1_init_24 0 rfl ?_
  refine l_aload_n C dX1_init_25 1 rfl ?_
  refine l_getf (v := .ref qs) C 0 rfl rfl in_X1_init 0 (by decide) fl_X1_init_11 rfl dX1_init_26 ?_
  refine l_alenq C 1 rfl dX1_init_29 ?_
  refine l_icmp_ge (tgt := 52) C dX1_init_30 (by decide) (fun hc => absurd hc (by decide)) (fun _ => ?_)
  refine l_aload_n C dX1_init_33 1 rfl ?_
  refine l_getf (v := .ref qs) C 0 rfl rfl in_X1_init 0 (by decide) fl_X1_init_11 rfl dX1_init_34 ?_
  refine l_iload_n C dX1_init_37 0 rfl ?_
  refine l_new (ci := 0) (fs := [.null, .null, .null, .null, .null, .null, .null, .null, .null, .null]) C rfl inn_X1_X0 tyX0 tyX0_ok nw1_X1_X0 nw2_X1_X0 nw3_X1_X0 (fun j hj => by rcases (show j = 0 ∨ j = 1 ∨ j = 2 ∨ j = 3 ∨ j = 4 ∨ j = 5 ∨ j = 6 ∨ j = 7 ∨ j = 8 ∨ j = 9 by omega) with rfl | rfl | rfl | rfl | rfl | rfl | rfl | rfl | rfl | rfl <;> rfl) (by decide) (by decide) dX1_init_38 (fun q1 => ?_)
  refine l_dup C dX1_init_41 rfl ?_
  refine l_callN (rest := [.ref q1, .int 1, .ref qs]) C hov gX1_init_X0_init rfl okN_X0 ⟨by decide, by decide⟩ ⟨rfl, rfl⟩ (by decide) (by decide) ct1_X1_X0 ct2_X1_X0 ct3_X1_X0 rfl (cnN_X0 X.2.1 Z q1) rfl dX1_init_42 rfl (Nat.le_of_ble_eq_true rfl) (fun w hw => ?_)
  obtain ⟨e1, rfl, rfl⟩ := hw
  refine l_astq C 1 23 rfl rfl (nI_in (c := 1) (by decide) (by decide)) dX1_init_45 (([(h0, .inr (1, [.ref qs, .int 0, .int 0])), (qs, .inl (Z.2.2, 5, .inr (.inr (.inr (.inr (va_up (va_up (fun _ => none) 0 (some (e0 0))) 1 (some (e1 0))))))))] ++ gW 21 e0 (dskE Z.2.1 e0 d00)) ++ gW 21 e1 (dskE Z.2.1 e1 d00)) rfl ?_
  refine l_iinc (v := 2) C dX1_init_46 0 rfl (by decide) (by decide) [(1, .int 2), (0, .ref h0)] rfl ?_
  refine l_goto (tgt := 24) C dX1_init_49 (by decide) ?_
  refine l_iload_n C dX1_init_24 0 rfl ?_
  refine l_aload_n C dX1_init_25 1 rfl ?_
  refine l_getf (v := .ref qs) C 0 rfl rfl in_X1_init 0 (by decide) fl_X1_init_11 rfl dX1_init_26 ?_
  refine l_alenq C 1 rfl dX1_init_29 ?_
  refine l_icmp_ge (tgt := 52) C dX1_init_30 (by decide) (fun hc => absurd hc (by decide)) (fun _ => ?_)
  refine l_aload_n C dX1_init_33 1 rfl ?_
  refine l_getf (v := .ref qs) C 0 rfl rfl in_X1_init 0 (by decide) fl_X1_init_11 rfl dX1_init_34 ?_
  refine l_iload_n C dX1_init_37 0 rfl ?_
  refine l_new (ci := 0) (fs := [.null, .null, .null, .null, .null, .null, .null, .null, .null, .null]) C rfl inn_X1_X0 tyX0 tyX0_ok nw1_X1_X0 nw2_X1_X0 nw3_X1_X0 (fun j hj => by rcases (show j = 0 ∨ j = 1 ∨ j = 2 ∨ j = 3 ∨ j = 4 ∨ j = 5 ∨ j = 6 ∨ j = 7 ∨ j = 8 ∨ j = 9 by omega) with rfl | rfl | rfl | rfl | rfl | rfl | rfl | rfl | rfl | rfl <;> rfl) (by decide) (by decide) dX1_init_38 (fun q2 => ?_)
  refine l_dup C dX1_init_41 rfl ?_
  refine l_callN (rest := [.ref q2, .int 2, .ref qs]) C hov gX1_init_X0_init rfl okN_X0 ⟨by decide, by decide⟩ ⟨rfl, rfl⟩ (by decide) (by decide) ct1_X1_X0 ct2_X1_X0 ct3_X1_X0 rfl (cnN_X0 X.2.1 Z q2) rfl dX1_init_42 rfl (Nat.le_of_ble_eq_true rfl) (fun w hw => ?_)
  obtain ⟨e2, rfl, rfl⟩ := hw
  refine l_astq C 1 44 rfl rfl (nI_in (c := 2) (by decide) (by decide)) dX1_init_45 ((([(h0, .inr (1, [.ref qs, .int 0, .int 0])), (qs, .inl (Z.2.2, 5, .inr (.inr (.inr (.inr (va_up (va_up (va_up (fun _ => none) 0 (some (e0 0))) 1 (some (e1 0))) 2 (some (e2 0))))))))] ++ gW 21 e0 (dskE Z.2.1 e0 d00)) ++ gW 21 e1 (dskE Z.2.1 e1 d00)) ++ gW 21 e2 (dskE Z.2.1 e2 d00)) rfl ?_
  refine l_iinc (v := 3) C dX1_init_46 0 rfl (by decide) (by decide) [(1, .int 3), (0, .ref h0)] rfl ?_
  refine l_goto (tgt := 24) C dX1_init_49 (by decide) ?_
  refine l_iload_n C dX1_init_24 0 rfl ?_
  refine l_aload_n C dX1_init_25 1 rfl ?_
  refine l_getf (v := .ref qs) C 0 rfl rfl in_X1_init 0 (by decide) fl_X1_init_11 rfl dX1_init_26 ?_
  refine l_alenq C 1 rfl dX1_init_29 ?_
  refine l_icmp_ge (tgt := 52) C dX1_init_30 (by decide) (fun hc => absurd hc (by decide)) (fun _ => ?_)
  refine l_aload_n C dX1_init_33 1 rfl ?_
  refine l_getf (v := .ref qs) C 0 rfl rfl in_X1_init 0 (by decide) fl_X1_init_11 rfl dX1_init_34 ?_
  refine l_iload_n C dX1_init_37 0 rfl ?_
  refine l_new (ci := 0) (fs := [.null, .null, .null, .null, .null, .null, .null, .null, .null, .null]) C rfl inn_X1_X0 tyX0 tyX0_ok nw1_X1_X0 nw2_X1_X0 nw3_X1_X0 (fun j hj => by rcases (show j = 0 ∨ j = 1 ∨ j = 2 ∨ j = 3 ∨ j = 4 ∨ j = 5 ∨ j = 6 ∨ j = 7 ∨ j = 8 ∨ j = 9 by omega) with rfl | rfl | rfl | rfl | rfl | rfl | rfl | rfl | rfl | rfl <;> rfl) (by decide) (by decide) dX1_init_38 (fun q3 => ?_)
  refine l_dup C dX1_init_41 rfl ?_
  refine l_callN (rest := [.ref q3, .int 3, .ref qs]) C hov gX1_init_X0_init rfl okN_X0 ⟨by decide, by decide⟩ ⟨rfl, rfl⟩ (by decide) (by decide) ct1_X1_X0 ct2_X1_X0 ct3_X1_X0 rfl (cnN_X0 X.2.1 Z q3) rfl dX1_init_42 rfl (Nat.le_of_ble_eq_true rfl) (fun w hw => ?_)
  obtain ⟨e3, rfl, rfl⟩ := hw
  refine l_astq C 1 65 rfl rfl (nI_in (c := 3) (by decide) (by decide)) dX1_init_45 (((([(h0, .inr (1, [.ref qs, .int 0, .int 0])), (qs, .inl (Z.2.2, 5, .inr (.inr (.inr (.inr (va_up (va_up (va_up (va_up (fun _ => none) 0 (some (e0 0))) 1 (some (e1 0))) 2 (some (e2 0))) 3 (some (e3 0))))))))] ++ gW 21 e0 (dskE Z.2.1 e0 d00)) ++ gW 21 e1 (dskE Z.2.1 e1 d00)) ++ gW 21 e2 (dskE Z.2.1 e2 d00)) ++ gW 21 e3 (dskE Z.2.1 e3 d00)) rfl ?_
  refine l_iinc (v := 4) C dX1_init_46 0 rfl (by decide) (by decide) [(1, .int 4), (0, .ref h0)] rfl ?_
  refine l_goto (tgt := 24) C dX1_init_49 (by decide) ?_
  refine l_iload_n C dX1_init_24 0 rfl ?_
  refine l_aload_n C dX1_init_25 1 rfl ?_
  refine l_getf (v := .ref qs) C 0 rfl rfl in_X1_init 0 (by decide) fl_X1_init_11 rfl dX1_init_26 ?_
  refine l_alenq C 1 rfl dX1_init_29 ?_
  refine l_icmp_ge (tgt := 52) C dX1_init_30 (by decide) (fun hc => absurd hc (by decide)) (fun _ => ?_)
  refine l_aload_n C dX1_init_33 1 rfl ?_
  refine l_getf (v := .ref qs) C 0 rfl rfl in_X1_init 0 (by decide) fl_X1_init_11 rfl dX1_init_34 ?_
  refine l_iload_n C dX1_init_37 0 rfl ?_
  refine l_new (ci := 0) (fs := [.null, .null, .null, .null, .null, .null, .null, .null, .null, .null]) C rfl inn_X1_X0 tyX0 tyX0_ok nw1_X1_X0 nw2_X1_X0 nw3_X1_X0 (fun j hj => by rcases (show j = 0 ∨ j = 1 ∨ j = 2 ∨ j = 3 ∨ j = 4 ∨ j = 5 ∨ j = 6 ∨ j = 7 ∨ j = 8 ∨ j = 9 by omega) with rfl | rfl | rfl | rfl | rfl | rfl | rfl | rfl | rfl | rfl <;> rfl) (by decide) (by decide) dX1_init_38 (fun q4 => ?_)
  refine l_dup C dX1_init_41 rfl ?_
  refine l_callN (rest := [.ref q4, .int 4, .ref qs]) C hov gX1_init_X0_init rfl okN_X0 ⟨by decide, by decide⟩ ⟨rfl, rfl⟩ (by decide) (by decide) ct1_X1_X0 ct2_X1_X0 ct3_X1_X0 rfl (cnN_X0 X.2.1 Z q4) rfl dX1_init_42 rfl (Nat.le_of_ble_eq_true rfl) (fun w hw => ?_)
  obtain ⟨e4, rfl, rfl⟩ := hw
  refine l_astq C 1 86 rfl rfl (nI_in (c := 4) (by decide) (by decide)) dX1_init_45 ((((([(h0, .inr (1, [.ref qs, .int 0, .int 0])), (qs, .inl (Z.2.2, 5, .inr (.inr (.inr (.inr (va_up (va_up (va_up (va_up (va_up (fun _ => none) 0 (some (e0 0))) 1 (some (e1 0))) 2 (some (e2 0))) 3 (some (e3 0))) 4 (some (e4 0))))))))] ++ gW 21 e0 (dskE Z.2.1 e0 d00)) ++ gW 21 e1 (dskE Z.2.1 e1 d00)) ++ gW 21 e2 (dskE Z.2.1 e2 d00)) ++ gW 21 e3 (dskE Z.2.1 e3 d00)) ++ gW 21 e4 (dskE Z.2.1 e4 d00)) rfl ?_
  refine l_iinc (v := 5) C dX1_init_46 0 rfl (by decide) (by decide) [(1, .int 5), (0, .ref h0)] rfl ?_
  refine l_goto (tgt := 24) C dX1_init_49 (by decide) ?_
  refine l_iload_n C dX1_init_24 0 rfl ?_
  refine l_aload_n C dX1_init_25 1 rfl ?_
  refine l_getf (v := .ref qs) C 0 rfl rfl in_X1_init 0 (by decide) fl_X1_init_11 rfl dX1_init_26 ?_
  refine l_alenq C 1 rfl dX1_init_29 ?_
  refine l_icmp_ge (tgt := 52) C dX1_init_30 (by decide) (fun _ => ?_) (fun hc => absurd (by decide) hc)
  exact l_vret C e ⟨qs, e0, e1, e2, e3, e4, rfl⟩ dX1_init_52
