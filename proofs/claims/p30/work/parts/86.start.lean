/-! THE LAW FROM ITS ENTRY. -/
def a00 : Nat → Nat → Nat := fun k i => if k = 1 then 8 else if k = 7 then 1 else if k = 8 ∧ i = 0 then 8 else 0
theorem RC_new : RC d00 a00 := by
  intro k i hk hi
  rcases (show k = 0 ∨ k = 1 ∨ k = 2 ∨ k = 3 ∨ k = 4 ∨ k = 5 ∨ k = 6 ∨ k = 7 ∨ k = 8 ∨ k = 9 by omega) with e | e | e | e | e | e | e | e | e | e <;> subst e
  · rfl
  · rfl
  · rfl
  · rfl
  · rfl
  · rfl
  · rfl
  · rfl
  · have hi2 : i < 2 := hi
    rcases (show i = 0 ∨ i = 1 by omega) with z | z <;> subst z <;> decide
  · rfl
theorem IA_start : IA a00 := by
  refine ⟨fun k hk => ⟨Nat.le_refl _, Nat.zero_le _, fun h => absurd h (by show ¬ 8 < 8; omega)⟩, fun f i hf hi => absurd hi (by show ¬ i < 0; omega), fun k j hk hj h => absurd h (by show ¬ 8 < 8; omega), fun f hf => ⟨Nat.zero_le _, Nat.le_refl _, Nat.zero_le _, Nat.le_refl _, (show 1 ≤ 16 by decide), fun h => absurd rfl h, fun _ => rfl⟩, by decide, by decide⟩
theorem KS_start : KsT (fun _ => d00) 0 0 a00 0 (fun _ => a00) 0 := by
  refine ⟨RC_new, ⟨IA_start, Nat.le_refl _, Nat.le_refl _, fun i hi => Nat.le_refl _, fun f hf h => ?_⟩, Nat.zero_le _, rfl, 0, by decide, rfl, fun j hj => absurd hj (Nat.not_lt_zero _)⟩
  have h2 : (0 : Nat) = 1 := h
  omega
set_option maxRecDepth 20000 in
theorem inlwX5 : ∀ w ∈ wsX50, w ∈ wsL_law := by decide +kernel
set_option maxRecDepth 20000 in
theorem nwL1_X5 : Cond.classLink RL 17 RX5 ∈ wsL_law := by decide +kernel
set_option maxRecDepth 20000 in
theorem nwL2_X5 : Cond.instantiable RX5 7 ∈ wsL_law := by decide +kernel
set_option maxRecDepth 20000 in
theorem nwL3_X5 : Cond.initialized RX5 ∈ wsL_law := by decide +kernel
set_option maxRecDepth 20000 in
theorem ctL1_X5 : Cond.initialized yX5_init.cls ∈ wsL_law := by decide +kernel
set_option maxRecDepth 20000 in
theorem ctL2_X5 : Cond.methodLink RL 101 yX5_init ∈ wsL_law := by decide +kernel
set_option maxRecDepth 20000 in
theorem ctL3_X5 : Cond.instanceMethod yX5_init ∈ wsL_law := by decide +kernel
theorem okN2_X5 : yX5_init.cls ≠ "java/lang/invoke/MethodHandle" ∧ yX5_init.cls ≠ "java/lang/invoke/VarHandle" ∧ (parseMethodDescriptor yX5_init.desc).map (fun d => d.parameters.length) = some 0 := by refine ⟨?_, ?_, ?_⟩ <;> decide +kernel
set_option maxHeartbeats 8000000 in
set_option maxRecDepth 100000 in
theorem whole_start_of {p : Program} {e : Env} {s : State} {m : MethodId} {below : List Frame} {meth : Method} {c : Code} (l : Launch) {b L : Nat} {xs : Nat → Int32} (hL : L ≤ 260) (C0 : lw_At p s m meth c b L xs) : W p l e room_1 s m #[Value.ref b] below meth c s.heap [] 0 0 (lw_Z below #[Value.ref b] s) (entryFrame m ([Value.ref b] : List Value).toArray 10) := by
  obtain ⟨hx, hb, hr, hml, hown, hts, hX, hbl, hlocks, hgv⟩ := id C0
  have hd0 := Drawn.sameBut.refl s.drawn lw_cs
  obtain ⟨c0, i0, k0⟩ := u_known (C := RX0) (T := TX0) (N := 10) (n := 10) hts wsT_in_X0 (hts (.instantiable RX0 10) (by decide +kernel))
  obtain ⟨c1, i1, k1⟩ := u_known (C := RX1) (T := TX1) (N := 3) (n := 3) hts wsT_in_X1 (hts (.instantiable RX1 3) (by decide +kernel))
  obtain ⟨c2, i2, k2⟩ := u_known (C := RX2) (T := TX2) (N := 5) (n := 5) hts wsT_in_X2 (hts (.instantiable RX2 5) (by decide +kernel))
  obtain ⟨c3, i3, k3⟩ := u_known (C := RX3) (T := TX3) (N := 1) (n := 1) hts wsT_in_X3 (hts (.instantiable RX3 1) (by decide +kernel))
  obtain ⟨c4, i4, k4⟩ := u_known (C := RX4) (T := TX4) (N := 2) (n := 2) hts wsT_in_X4 (hts (.instantiable RX4 2) (by decide +kernel))
  obtain ⟨c5, i5, k5⟩ := u_known (C := RX5) (T := TX5) (N := 7) (n := 7) hts wsT_in_X5 (hts (.instantiable RX5 7) (by decide +kernel))
  obtain ⟨cI, kI, compI, f1, f2, f3⟩ := Cond.arrayClass_spec (hts (.arrayClass .int) (by decide +kernel))
  have hao := hts (.arrayOver (.object RX0)) (by decide +kernel)
  obtain ⟨compD, cD, kD, g1, -, g2, g3, g4⟩ := Cond.arrayOver_spec hao
  obtain ⟨Z, hK⟩ : ∃ Z : gZ, gK Z s := by
    refine ⟨((fun k => match k with | 0 => c0 | 1 => c1 | 2 => c2 | 3 => c3 | 4 => c4 | _ => c5, fun k => match k with | 0 => i0 | 1 => i1 | 2 => i2 | 3 => i3 | 4 => i4 | _ => i5), cI, cD), fun k q hq => ?_, fun k q hq => ?_⟩
    · match k, hq with
      | 0, hq => cases hq; exact k0
      | 1, hq => cases hq; exact k1
      | 2, hq => cases hq; exact k2
      | 3, hq => cases hq; exact k3
      | 4, hq => cases hq; exact k4
      | 5, hq => cases hq; exact k5
      | k + 6, hq => simp [vwCl] at hq
    · match k, hq with
      | 0, hq => cases hq; exact ⟨fun n z => ⟨(fun k h => by cases h), kI, f2, compI, f3⟩, f1⟩
      | 1, hq => cases hq; exact ⟨fun n z => ⟨(fun k h => by cases h), kD, g2, compD, g3⟩, kD, compD, g2, g3, g1, g4⟩
      | k + 2, hq => simp [gTy] at hq
  have hO : lO s := ⟨va_AO.of hao, va_Nw.of rfl (hts (.methodLinkNest RX5 35 yX4_init RX5) (by decide +kernel)), va_Nw.of rfl (hts (.methodLinkNest RX5 42 yX2_init RX5) (by decide +kernel))⟩
  have C : ∀ d, LC (gXD p l e room_1 s m #[Value.ref b] below meth c (lw_Z below #[Value.ref b] s) d) Z cL_law 10 wsL_law RL room_1 (fun q => s.heap.size ≤ q) := fun d => ⟨hx, hb, hml, hown, dr_words (fun w h => hts w (wsL_law_in w h)) d, hlocks, hK, fun q h => h, rfl⟩
  have hh : f_L_hangs (fun _ => d00) 0 0 0 (fun _ => 0) 0 (fun _ => 0) = some 1 := hangs_ok KS_start.1 KS_start.2.1 (by decide)
  have K : GL (gXD p l e room_1 s m #[Value.ref b] below meth c (lw_Z below #[Value.ref b] s) s.drawn) Z 10 (fun q => s.heap.size ≤ q) 0 0 [] 0 [(0, .ref b)] [] := by
    refine l_new (ci := 5) (fs := [.null, .null, .null, .int 0, .null, .null, .null]) (C _) rfl inlwX5 tyX5 tyX5_ok nwL1_X5 nwL2_X5 nwL3_X5 (fun j hj => by rcases (show j = 0 ∨ j = 1 ∨ j = 2 ∨ j = 3 ∨ j = 4 ∨ j = 5 ∨ j = 6 by omega) with rfl | rfl | rfl | rfl | rfl | rfl | rfl <;> rfl) (by decide) (by decide) dL_law_0 (fun x0 => ?_)
    refine l_dup (C _) dL_law_3 rfl ?_
    refine l_callN (rest := [.ref x0]) (wa := []) (C _) hO gL_law_X5_init rfl okN2_X5 ⟨by decide, by decide⟩ ⟨rfl, rfl⟩ (by decide) (by decide) ctL1_X5 ctL2_X5 ctL3_X5 rfl (cnN_X5 l Z x0) rfl dL_law_4 rfl (Nat.le_of_ble_eq_true rfl) (fun w hw => ?_)
    obtain ⟨adx, rfl, rfl⟩ := hw
    show GL _ Z 10 _ 175 2167 (gW 175 adx (xE Z.2.1 Z.2.2 adx (fun _ => d00) 0 0 0 (fun _ => 0) 0 (fun _ => 0))) 7 _ _
    refine l_astore_n (C _) dL_law_7 (by decide) [(1, .ref (adx 168)), (0, .ref b)] rfl ?_
    refine l_aload_n (C _) dL_law_8 0 rfl ?_
    refine l_cTi (rest := []) (As := [.ref (adx 168)]) (m := 175) (adc := adx) (Ec := xE Z.2.1 Z.2.2 adx (fun _ => d00) 0 0 0 (fun _ => 0) 0 (fun _ => 0)) (Ec' := xE Z.2.1 Z.2.2 adx (fun _ => d00) 0 0 0 (fun _ => 0) 0 (fun _ => 0)) (C _) gL_law_L_hangs rfl ok_L_hangs ⟨by decide, by decide⟩ ⟨rfl, rfl⟩ (by decide) (by decide) (fun hI => cn_L_hangs _ Z adx hI (fun _ => d00) 0 0 0 (fun _ => 0) 0 (fun _ => 0) hh) rfl dL_law_9 rfl (Nat.le_of_ble_eq_true rfl) ?_
    refine l_istore_n (C _) dL_law_12 (by decide) [(2, .int 1), (1, .ref (adx 168)), (0, .ref b)] rfl ?_
    refine l_iconst (v := nI 0) (C _) dL_law_13 (by decide) ?_
    refine l_istore_n (C _) dL_law_14 (by decide) [(3, .int (nI 0)), (2, .int 1), (1, .ref (adx 168)), (0, .ref b)] rfl ?_
    refine lw_loop (C _) hX hbl (fun h => absurd hbl (Nat.not_lt.mpr h)) hL (fun D old hsz j => ?_) 40 0 (fun _ => d00) 0 0 a00 0 (fun _ => a00) (by omega) (by omega) (KS_start.up (Nat.zero_le _))
    refine l_iload_n (C _) dL_law_320 1 rfl ?_
    intro H locs ls hl hP hD hS
    have C1 := C s.drawn
    refine va_forget (fun q hq => hS.2.2 q hq) ?_
    refine W.widen (k := 600000) (n := 7302250) (Nat.le_of_ble_eq_true rfl) (Nat.le_of_ble_eq_true rfl) ?_
    exact lw_ret hd0 C1.1 C1.2.1 hr hlocks dL_law_321
  refine W.base ?_
  rw [lg_entry_eq]
  exact K s.heap [] _ (lv_entry [.ref b] (n := 10) (Nat.le_of_ble_eq_true rfl)) (fun k q h => by simp at h) ⟨fun i j p q h => by simp at h, fun k q h => by simp at h⟩ va_S.rf
