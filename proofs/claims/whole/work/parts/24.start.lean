/-! THE LAW FROM ITS ENTRY, out of lawStep and what holds of two new objects. -/
set_option maxRecDepth 20000 in
theorem inlwX5 : ∀ w ∈ wsX50, w ∈ wsL_law := by decide +kernel
set_option maxRecDepth 20000 in
theorem nwL1_X5 : Cond.classLink RL 7 RX5 ∈ wsL_law := by decide +kernel
set_option maxRecDepth 20000 in
theorem nwL2_X5 : Cond.instantiable RX5 7 ∈ wsL_law := by decide +kernel
set_option maxRecDepth 20000 in
theorem nwL3_X5 : Cond.initialized RX5 ∈ wsL_law := by decide +kernel
set_option maxRecDepth 20000 in
theorem ctL1_X5 : Cond.initialized yX5_init.cls ∈ wsL_law := by decide +kernel
set_option maxRecDepth 20000 in
theorem ctL2_X5 : Cond.methodLink RL 9 yX5_init ∈ wsL_law := by decide +kernel
set_option maxRecDepth 20000 in
theorem ctL3_X5 : Cond.instanceMethod yX5_init ∈ wsL_law := by decide +kernel
set_option maxRecDepth 20000 in
theorem inlwX6 : ∀ w ∈ wsX60, w ∈ wsL_law := by decide +kernel
set_option maxRecDepth 20000 in
theorem nwL1_X6 : Cond.classLink RL 10 RX6 ∈ wsL_law := by decide +kernel
set_option maxRecDepth 20000 in
theorem nwL2_X6 : Cond.instantiable RX6 10 ∈ wsL_law := by decide +kernel
set_option maxRecDepth 20000 in
theorem nwL3_X6 : Cond.initialized RX6 ∈ wsL_law := by decide +kernel
set_option maxRecDepth 20000 in
theorem ctL1_X6 : Cond.initialized yX6_init.cls ∈ wsL_law := by decide +kernel
set_option maxRecDepth 20000 in
theorem ctL2_X6 : Cond.methodLink RL 12 yX6_init ∈ wsL_law := by decide +kernel
set_option maxRecDepth 20000 in
theorem ctL3_X6 : Cond.instanceMethod yX6_init ∈ wsL_law := by decide +kernel
theorem okN2_X5 : yX5_init.cls ≠ "java/lang/invoke/MethodHandle" ∧ yX5_init.cls ≠ "java/lang/invoke/VarHandle" ∧ (parseMethodDescriptor yX5_init.desc).map (fun d => d.parameters.length) = some 0 := by refine ⟨?_, ?_, ?_⟩ <;> decide +kernel
set_option maxHeartbeats 8000000 in
set_option maxRecDepth 100000 in
theorem whole_start_of {R : lawR} (hR : lawStep R) (hR0 : R (fun _ => d00) 0 0 0 (fun _ => 0) 0 (fun _ => 0) s00 (fun _ => 0) (fun _ => 0)) {p : Program} {e : Env} {s : State} {m : MethodId} {below : List Frame} {meth : Method} {c : Code} (l : Launch) {b L : Nat} {xs : Nat → Int32} (hL : L ≤ 2560) (C0 : lw_At p s m meth c b L xs) : W p l e room_1 s m #[Value.ref b] below meth c s.heap [] 0 0 (lw_Z below #[Value.ref b] s) (entryFrame m ([Value.ref b] : List Value).toArray 8) := by
  obtain ⟨hx, hb, hr, hml, hown, hts, hX, hbl, hlocks, hgv⟩ := id C0
  have hd0 := Drawn.sameBut.refl s.drawn lw_cs
  obtain ⟨c0, i0, k0⟩ := u_known (C := RX0) (T := TX0) (N := 10) (n := 10) hts wsT_in_X0 (hts (.instantiable RX0 10) (by decide +kernel))
  obtain ⟨c1, i1, k1⟩ := u_known (C := RX1) (T := TX1) (N := 3) (n := 3) hts wsT_in_X1 (hts (.instantiable RX1 3) (by decide +kernel))
  obtain ⟨c2, i2, k2⟩ := u_known (C := RX2) (T := TX2) (N := 5) (n := 5) hts wsT_in_X2 (hts (.instantiable RX2 5) (by decide +kernel))
  obtain ⟨c3, i3, k3⟩ := u_known (C := RX3) (T := TX3) (N := 1) (n := 1) hts wsT_in_X3 (hts (.instantiable RX3 1) (by decide +kernel))
  obtain ⟨c4, i4, k4⟩ := u_known (C := RX4) (T := TX4) (N := 2) (n := 2) hts wsT_in_X4 (hts (.instantiable RX4 2) (by decide +kernel))
  obtain ⟨c5, i5, k5⟩ := u_known (C := RX5) (T := TX5) (N := 7) (n := 7) hts wsT_in_X5 (hts (.instantiable RX5 7) (by decide +kernel))
  obtain ⟨c6, i6, k6⟩ := u_known (C := RX6) (T := TX6) (N := 10) (n := 10) hts wsT_in_X6 (hts (.instantiable RX6 10) (by decide +kernel))
  obtain ⟨cI, kI, compI, f1, f2, f3⟩ := Cond.arrayClass_spec (hts (.arrayClass .int) (by decide +kernel))
  have hao := hts (.arrayOver (.object RX0)) (by decide +kernel)
  obtain ⟨compD, cD, kD, g1, -, g2, g3, g4⟩ := Cond.arrayOver_spec hao
  obtain ⟨Z, hK⟩ : ∃ Z : gZ, gK Z s := by
    refine ⟨((fun k => match k with | 0 => c0 | 1 => c1 | 2 => c2 | 3 => c3 | 4 => c4 | 5 => c5 | _ => c6, fun k => match k with | 0 => i0 | 1 => i1 | 2 => i2 | 3 => i3 | 4 => i4 | 5 => i5 | _ => i6), cI, cD), fun k q hq => ?_, fun k q hq => ?_⟩
    · match k, hq with
      | 0, hq => cases hq; exact k0
      | 1, hq => cases hq; exact k1
      | 2, hq => cases hq; exact k2
      | 3, hq => cases hq; exact k3
      | 4, hq => cases hq; exact k4
      | 5, hq => cases hq; exact k5
      | 6, hq => cases hq; exact k6
      | k + 7, hq => simp [vwCl] at hq
    · match k, hq with
      | 0, hq => cases hq; exact ⟨fun n z => ⟨(fun k h => by cases h), kI, f2, compI, f3⟩, f1⟩
      | 1, hq => cases hq; exact ⟨fun n z => ⟨(fun k h => by cases h), kD, g2, compD, g3⟩, kD, compD, g2, g3, g1, g4⟩
      | k + 2, hq => simp [gTy] at hq
  have hO : lO s := ⟨va_AO.of hao, va_Nw.of rfl (hts (.methodLinkNest RX5 35 yX4_init RX5) (by decide +kernel)), va_Nw.of rfl (hts (.methodLinkNest RX5 42 yX2_init RX5) (by decide +kernel))⟩
  have C : ∀ d, LC (gXD p l e room_1 s m #[Value.ref b] below meth c (lw_Z below #[Value.ref b] s) d) Z cL_law 8 wsL_law RL room_1 (fun q => s.heap.size ≤ q) := fun d => ⟨hx, hb, hml, hown, dr_words (fun w h => hts w (wsL_law_in w h)) d, hlocks, hK, fun q h => h, rfl⟩
  have K : GL (gXD p l e room_1 s m #[Value.ref b] below meth c (lw_Z below #[Value.ref b] s) s.drawn) Z 8 (fun q => s.heap.size ≤ q) 0 0 [] 0 [(0, .ref b)] [] := by
    refine l_new (ci := 5) (fs := [.null, .null, .null, .int 0, .null, .null, .null]) (C _) rfl inlwX5 tyX5 tyX5_ok nwL1_X5 nwL2_X5 nwL3_X5 (fun j hj => by rcases (show j = 0 ∨ j = 1 ∨ j = 2 ∨ j = 3 ∨ j = 4 ∨ j = 5 ∨ j = 6 by omega) with rfl | rfl | rfl | rfl | rfl | rfl | rfl <;> rfl) (by decide) (by decide) dL_law_0 (fun x0 => ?_)
    refine l_dup (C _) dL_law_3 rfl ?_
    refine l_callN (rest := [.ref x0]) (wa := []) (C _) hO gL_law_X5_init rfl okN2_X5 ⟨by decide, by decide⟩ ⟨rfl, rfl⟩ (by decide) (by decide) ctL1_X5 ctL2_X5 ctL3_X5 rfl (cnN_X5 l Z x0) rfl dL_law_4 rfl (Nat.le_of_ble_eq_true rfl) (fun w hw => ?_)
    obtain ⟨adx, rfl, rfl⟩ := hw
    refine l_astore_n (C _) dL_law_7 (by decide) [(1, .ref (adx 168)), (0, .ref b)] rfl ?_
    refine l_new (ci := 6) (fs := [.null, .int 0, .int 0, .null, .int 0, .int 0, .int 0, .int 0, .int 0, .int 0]) (C _) rfl inlwX6 tyX6 tyX6_ok nwL1_X6 nwL2_X6 nwL3_X6 (fun j hj => by rcases (show j = 0 ∨ j = 1 ∨ j = 2 ∨ j = 3 ∨ j = 4 ∨ j = 5 ∨ j = 6 ∨ j = 7 ∨ j = 8 ∨ j = 9 by omega) with rfl | rfl | rfl | rfl | rfl | rfl | rfl | rfl | rfl | rfl <;> rfl) (by decide) (by decide) dL_law_8 (fun m0 => ?_)
    refine l_dup (C _) dL_law_11 rfl ?_
    refine l_callN (rest := [.ref m0]) (C _) hO gL_law_X6_init rfl okN_X6 ⟨by decide, by decide⟩ ⟨rfl, rfl⟩ (by decide) (by decide) ctL1_X6 ctL2_X6 ctL3_X6 rfl (cnN_X6 l Z m0) rfl dL_law_12 rfl (Nat.le_of_ble_eq_true rfl) (fun w hw => ?_)
    obtain ⟨a, t, rfl⟩ := hw
    obtain ⟨adm, ea⟩ : ∃ adm : Nat → Nat, adm = fun i => [m0, a, t].getD i 0 := ⟨_, rfl⟩
    have e0 : m0 = adm 0 := by rw [ea]; rfl
    have e1 : a = adm 1 := by rw [ea]; rfl
    have e2 : t = adm 2 := by rw [ea]; rfl
    rw [e0, e1, e2]
    refine l_astore_n (C _) dL_law_15 (by decide) [(2, .ref (adm 0)), (1, .ref (adx 168)), (0, .ref b)] rfl ?_
    refine l_iconst (v := nI 0) (C _) dL_law_16 (by decide) ?_
    refine l_istore_n (C _) dL_law_17 (by decide) [(3, .int (nI 0)), (2, .ref (adm 0)), (1, .ref (adx 168)), (0, .ref b)] rfl ?_
    refine l_sub [3, 2, 1, 0] rfl ?_
    exact law_loop hR C hX hbl hL hr hlocks (L + 1) 0 (Nat.zero_le _) (by omega) (fun _ => d00) 0 0 0 (fun _ => 0) 0 (fun _ => 0) s00 (fun _ => 0) (fun _ => 0) s.drawn hd0 hR0
  refine W.base ?_
  rw [lg_entry_eq]
  exact K s.heap [] _ (lv_entry [.ref b] (n := 8) (Nat.le_of_ble_eq_true rfl)) (fun k q h => by simp at h) ⟨fun i j p q h => by simp at h, fun k q h => by simp at h⟩ va_S.rf
