/-! ROWS THAT THE LAW'S OWN WALK NEEDS. -/
section LAWR
variable {X : gX} {Z : gZ} {cc : ByteArray} {nL : Nat} {Ts : List Cond} {own : String} {rm : Room} {A : Nat → Prop} {ck cs : Nat} {ws : va_W} {pc : Nat} {lv : List (Nat × Value)} {rest st : List Value}
theorem l_irem (C : LC X Z cc nL Ts own rm A) {x y : Int32} (hdg : decode cc pc = .ok (.irem, 1)) (hne : ¬ y = 0) (kk : GL X Z nL A ck cs ws (pc + 1) lv (.int (x - x / y * y) :: rest)) : GL X Z nL A ck cs ws pc lv (.int y :: .int x :: rest) := by
  obtain ⟨hx, hb, -⟩ := C
  intro H locs ls hl hP hD hS
  exact lv_irem hx hb hdg hne (kk H locs ls hl hP hD hS)
theorem l_ishr (C : LC X Z cc nL Ts own rm A) {x y : Int32} (hdg : decode cc pc = .ok (.ishr, 1)) (kk : GL X Z nL A ck cs ws (pc + 1) lv (.int (x >>> (y &&& 31)) :: rest)) : GL X Z nL A ck cs ws pc lv (.int y :: .int x :: rest) := by
  obtain ⟨hx, hb, -⟩ := C
  intro H locs ls hl hP hD hS
  exact lv_ishr hx hb hdg (kk H locs ls hl hP hD hS)
theorem l_lcmp (C : LC X Z cc nL Ts own rm A) {x y : Int64} (hdg : decode cc pc = .ok (.lcmp, 1)) (kk : GL X Z nL A ck cs ws (pc + 1) lv (.int (lg_cmp x y) :: rest)) : GL X Z nL A ck cs ws pc lv (.long y :: .long x :: rest) := by
  obtain ⟨hx, hb, -⟩ := C
  intro H locs ls hl hP hD hS
  exact W.lcmp hx hb hdg (kk H locs ls hl hP hD hS)
theorem l_lload (C : LC X Z cc nL Ts own rm A) {k : Nat} {x : Int64} (hdg : decode cc pc = .ok (.lload k, 2)) (q : Nat) (hq : lv[q]? = some (k, .long x)) (kk : GL X Z nL A ck cs ws (pc + 2) lv (.long x :: rest)) : GL X Z nL A ck cs ws pc lv rest := by
  obtain ⟨hx, hb, -⟩ := C
  intro H locs ls hl hP hD hS
  exact lv_lload hx hb hdg (lv_at hl q hq) (kk H locs ls hl hP hD hS)
theorem l_lstore (C : LC X Z cc nL Ts own rm A) {k : Nat} {x : Int64} (hdg : decode cc pc = .ok (.lstore k, 2)) (hn : k + 1 < nL) (lv' : List (Nat × Value)) (hl' : gSt2 lv k (.long x) = lv') (kk : GL X Z nL A ck cs ws (pc + 2) lv' rest) : GL X Z nL A ck cs ws pc lv (.long x :: rest) := by
  obtain ⟨hx, hb, -⟩ := C
  intro H locs ls hl hP hD hS
  exact lv_lstore hx hb hdg hl hn hl' (fun ls hl => kk H locs ls hl hP hD hS)
theorem l_astore_n (C : LC X Z cc nL Ts own rm A) {k : Fin 4} {x : Nat} (hdg : decode cc pc = .ok (.astore_n k, 1)) (hn : (k : Nat) < nL) (lv' : List (Nat × Value)) (hl' : gSt lv k (.ref x) = lv') (kk : GL X Z nL A ck cs ws (pc + 1) lv' rest) : GL X Z nL A ck cs ws pc lv (.ref x :: rest) := by
  obtain ⟨hx, hb, -⟩ := C
  intro H locs ls hl hP hD hS
  exact lv_astore_n hx hb hdg rfl hl hn hl' (fun ls hl => kk H locs ls hl hP hD hS)
/-- a method is called over the whole world -/
theorem l_cWi (C : LC X Z cc nL Ts own rm A) {y : MethodName} {Cn : String} {index na maxL : Nat} {bytes : ByteArray} {ty : FieldType} {wsy ws' : List Cond} {rm' : Room} (hg : GoodIn Ts (wsV own index Cn y wsy)) (hw : wsy = Cond.code y bytes maxL (some ty) :: ws') (hd : gOk y Cn na) (hR : rm'.frames + 1 ≤ rm.frames ∧ 8 + (maxL + 11) + rm'.locals ≤ rm.locals) (h0 : rm'.cells = 0 ∧ rm'.slots = 0) (hck : ck ≤ rm.cells) (hcs : cs ≤ rm.slots) {m : Nat} {adc : Nat → Nat} {Ec Ec' : Nat → va_E} (b : Nat) (hb : b < m) {ci N : Nat} {T : u_T} {fs : List Value} (hrec : Ec b = .inr (ci, fs)) (hcl : vwCl[ci]? = some (Cn, T, N)) {As : List Value} {r : Int32} (hM : gInj m adc → gI X.2.1 y wsy rm' Z m adc (.ref (adc b) :: As) Ec r Ec') (hn : As.length = na) (hdg : decode cc pc = .ok (.invokevirtual index, 3)) (hst : st = As.reverse ++ .ref (adc b) :: rest) (hcat : (rest.map fun v => v.category).sum ≤ 8) (kk : GL X Z nL A ck cs (gW m adc Ec') (pc + 3) lv (.int r :: rest)) : GL X Z nL A ck cs (gW m adc Ec) pc lv st := by
  have h := l_callVi (wa := []) (wb := []) C hg hw hd hR h0 hck hcs b hb hrec hcl hM hn hdg hst hcat (lv := lv) (by rw [List.append_nil]; exact kk)
  rw [List.append_nil] at h
  exact h
/-- a static method is called over a part of the world -/
theorem l_callTi (C : LC X Z cc nL Ts own rm A) {y : MethodName} {index na maxL : Nat} {bytes : ByteArray} {ty : FieldType} {wsy ws' : List Cond} {rm' : Room} (hg : GoodIn Ts (va_wsS own index y wsy)) (hw : wsy = Cond.code y bytes maxL (some ty) :: ws') (hd : gOk y own na) (hR : rm'.frames + 1 ≤ rm.frames ∧ 8 + (maxL + 11) + rm'.locals ≤ rm.locals) (h0 : rm'.cells = 0 ∧ rm'.slots = 0) (hck : ck ≤ rm.cells) (hcs : cs ≤ rm.slots) {wa wb : va_W} {m : Nat} {adc : Nat → Nat} {Ec Ec' : Nat → va_E} {As : List Value} {r : Int32} (hM : gInj m adc → gI X.2.1 y wsy rm' Z m adc As Ec r Ec') (hn : As.length = na) (hdg : decode cc pc = .ok (.invokestatic index, 3)) (hst : st = As.reverse ++ rest) (hcat : (rest.map fun v => v.category).sum ≤ 8) (kk : GL X Z nL A ck cs (wa ++ (gW m adc Ec' ++ wb)) (pc + 3) lv (.int r :: rest)) : GL X Z nL A ck cs (wa ++ (gW m adc Ec ++ wb)) pc lv st := by
  obtain ⟨p, l, e0, R, s, mm, args, below, meth, c, Q⟩ := X
  obtain ⟨hx, hbb, hml, hown, hts, hlo, hK, hA, hRm⟩ := C
  dsimp only at hx hbb hml hown hts hlo hK hA hRm hM kk
  intro H locs ls hl hP hD hS
  dsimp only at hS ⊢
  subst hRm
  have hPc := (l_P_app (l_P_app hP).2).1
  have hDc := (l_D_app (l_D_app hD).2.1).1
  have hfr : ∀ x, gA m adc x → A x := by
    rintro x ⟨i, hi, rfl⟩
    exact hDc.2 i _ (gW_get hi)
  refine va_calli (va_runS (As := As) (rest := rest) ⟨hx, hbb, hml, hown, hts⟩ (hM (gInj_of hDc)) (va_cwS na hts hg hw h0.1 h0.2 hd.2 hR) ⟨gB_blind, fun U hU hW => ⟨rfl, by rw [hU]; exact hPc, va_K.moved hW.alike hK⟩⟩ rfl hn hl.1 hst (lv_room hcat) hdg ⟨hck, hcs⟩) hS (fun x _ h => hfr x h) hfr (fun r' u t H1 locs1 ht hvm hq hB hz1 hk1 hS1 => ?_)
  cases hq
  have hP1 := hB.1
  rw [ht] at hP1
  have hj := l_join hA hS.1 hP hD hP1 (gD_of hDc) (fun x hx1 hx2 => hk1 x hx1 (fun h => hx2 (gA_va h)))
  exact kk H1 locs1 ls hl hj.1 hj.2 hS1
theorem l_callTj (C : LC X Z cc nL Ts own rm A) {y : MethodName} {index na maxL : Nat} {bytes : ByteArray} {ty : FieldType} {wsy ws' : List Cond} {rm' : Room} (hg : GoodIn Ts (va_wsS own index y wsy)) (hw : wsy = Cond.code y bytes maxL (some ty) :: ws') (hd : gOk y own na) (hR : rm'.frames + 1 ≤ rm.frames ∧ 8 + (maxL + 11) + rm'.locals ≤ rm.locals) (h0 : rm'.cells = 0 ∧ rm'.slots = 0) (hck : ck ≤ rm.cells) (hcs : cs ≤ rm.slots) {wa wb : va_W} {m : Nat} {adc : Nat → Nat} {Ec Ec' : Nat → va_E} {As : List Value} {r : Int64} (hM : gInj m adc → gJ X.2.1 y wsy rm' Z m adc As Ec r Ec') (hn : As.length = na) (hdg : decode cc pc = .ok (.invokestatic index, 3)) (hst : st = As.reverse ++ rest) (hcat : (rest.map fun v => v.category).sum ≤ 8) (kk : GL X Z nL A ck cs (wa ++ (gW m adc Ec' ++ wb)) (pc + 3) lv (.long r :: rest)) : GL X Z nL A ck cs (wa ++ (gW m adc Ec ++ wb)) pc lv st := by
  obtain ⟨p, l, e0, R, s, mm, args, below, meth, c, Q⟩ := X
  obtain ⟨hx, hbb, hml, hown, hts, hlo, hK, hA, hRm⟩ := C
  dsimp only at hx hbb hml hown hts hlo hK hA hRm hM kk
  intro H locs ls hl hP hD hS
  dsimp only at hS ⊢
  subst hRm
  have hPc := (l_P_app (l_P_app hP).2).1
  have hDc := (l_D_app (l_D_app hD).2.1).1
  have hfr : ∀ x, gA m adc x → A x := by
    rintro x ⟨i, hi, rfl⟩
    exact hDc.2 i _ (gW_get hi)
  refine va_calll (va_runS (As := As) (rest := rest) ⟨hx, hbb, hml, hown, hts⟩ (hM (gInj_of hDc)) (va_cwS na hts hg hw h0.1 h0.2 hd.2 hR) ⟨gB_blind, fun U hU hW => ⟨rfl, by rw [hU]; exact hPc, va_K.moved hW.alike hK⟩⟩ rfl hn hl.1 hst (lv_room hcat) hdg ⟨hck, hcs⟩) hS (fun x _ h => hfr x h) hfr (fun r' u t H1 locs1 ht hvm hq hB hz1 hk1 hS1 => ?_)
  cases hq
  have hP1 := hB.1
  rw [ht] at hP1
  have hj := l_join hA hS.1 hP hD hP1 (gD_of hDc) (fun x hx1 hx2 => hk1 x hx1 (fun h => hx2 (gA_va h)))
  exact kk H1 locs1 ls hl hj.1 hj.2 hS1
theorem l_cTi (C : LC X Z cc nL Ts own rm A) {y : MethodName} {index na maxL : Nat} {bytes : ByteArray} {ty : FieldType} {wsy ws' : List Cond} {rm' : Room} (hg : GoodIn Ts (va_wsS own index y wsy)) (hw : wsy = Cond.code y bytes maxL (some ty) :: ws') (hd : gOk y own na) (hR : rm'.frames + 1 ≤ rm.frames ∧ 8 + (maxL + 11) + rm'.locals ≤ rm.locals) (h0 : rm'.cells = 0 ∧ rm'.slots = 0) (hck : ck ≤ rm.cells) (hcs : cs ≤ rm.slots) {m : Nat} {adc : Nat → Nat} {Ec Ec' : Nat → va_E} {As : List Value} {r : Int32} (hM : gInj m adc → gI X.2.1 y wsy rm' Z m adc As Ec r Ec') (hn : As.length = na) (hdg : decode cc pc = .ok (.invokestatic index, 3)) (hst : st = As.reverse ++ rest) (hcat : (rest.map fun v => v.category).sum ≤ 8) (kk : GL X Z nL A ck cs (gW m adc Ec') (pc + 3) lv (.int r :: rest)) : GL X Z nL A ck cs (gW m adc Ec) pc lv st := by
  have h := l_callTi (wa := []) (wb := []) C hg hw hd hR h0 hck hcs hM hn hdg hst hcat (lv := lv) (by rw [List.append_nil]; exact kk)
  rw [List.append_nil] at h
  exact h
theorem l_cTj (C : LC X Z cc nL Ts own rm A) {y : MethodName} {index na maxL : Nat} {bytes : ByteArray} {ty : FieldType} {wsy ws' : List Cond} {rm' : Room} (hg : GoodIn Ts (va_wsS own index y wsy)) (hw : wsy = Cond.code y bytes maxL (some ty) :: ws') (hd : gOk y own na) (hR : rm'.frames + 1 ≤ rm.frames ∧ 8 + (maxL + 11) + rm'.locals ≤ rm.locals) (h0 : rm'.cells = 0 ∧ rm'.slots = 0) (hck : ck ≤ rm.cells) (hcs : cs ≤ rm.slots) {m : Nat} {adc : Nat → Nat} {Ec Ec' : Nat → va_E} {As : List Value} {r : Int64} (hM : gInj m adc → gJ X.2.1 y wsy rm' Z m adc As Ec r Ec') (hn : As.length = na) (hdg : decode cc pc = .ok (.invokestatic index, 3)) (hst : st = As.reverse ++ rest) (hcat : (rest.map fun v => v.category).sum ≤ 8) (kk : GL X Z nL A ck cs (gW m adc Ec') (pc + 3) lv (.long r :: rest)) : GL X Z nL A ck cs (gW m adc Ec) pc lv st := by
  have h := l_callTj (wa := []) (wb := []) C hg hw hd hR h0 hck hcs hM hn hdg hst hcat (lv := lv) (by rw [List.append_nil]; exact kk)
  rw [List.append_nil] at h
  exact h
/-- a static method of numbers alone -/
theorem l_cNi (C : LC X Z cc nL Ts own rm A) {y : MethodName} {index na maxL : Nat} {bytes : ByteArray} {ty : FieldType} {wsy ws' : List Cond} {rm' : Room} (hg : GoodIn Ts (va_wsS own index y wsy)) (hw : wsy = Cond.code y bytes maxL (some ty) :: ws') (hd : gOk y own na) (hR : rm'.frames + 1 ≤ rm.frames ∧ 8 + (maxL + 11) + rm'.locals ≤ rm.locals) (h0 : rm'.cells = 0 ∧ rm'.slots = 0) (hck : ck ≤ rm.cells) (hcs : cs ≤ rm.slots) {As : List Value} {r : Int32} (hM : gI X.2.1 y wsy rm' Z 0 id As g0E r g0E) (hn : As.length = na) (hdg : decode cc pc = .ok (.invokestatic index, 3)) (hst : st = As.reverse ++ rest) (hcat : (rest.map fun v => v.category).sum ≤ 8) (kk : GL X Z nL A ck cs ws (pc + 3) lv (.int r :: rest)) : GL X Z nL A ck cs ws pc lv st := by
  have e : ws ++ (gW 0 id g0E ++ []) = ws := List.append_nil ws
  have h := l_callTi (wa := ws) (wb := []) (m := 0) (adc := id) (Ec := g0E) (Ec' := g0E) C hg hw hd hR h0 hck hcs (fun _ => hM) hn hdg hst hcat (lv := lv) (by rw [e]; exact kk)
  rw [e] at h
  exact h
end LAWR
abbrev rm_L_cell : Room := { frames := 0, cells := 0, slots := 0, locals := 0 }
theorem ok_L_cell : gOk yL_cell RL 2 := by refine ⟨?_, ?_, ?_, ?_⟩ <;> decide +kernel
theorem dL_cell_0 : decode cL_cell 0 = .ok (.iload_n 1, 1) := by decide +kernel
theorem dL_cell_1 : decode cL_cell 1 = .ok (.aload_n 0, 1) := by decide +kernel
theorem dL_cell_2 : decode cL_cell 2 = .ok (.arraylength, 1) := by decide +kernel
theorem dL_cell_3 : decode cL_cell 3 = .ok (.if_icmp .ge 9, 3) := by decide +kernel
theorem dL_cell_6 : decode cL_cell 6 = .ok (.aload_n 0, 1) := by decide +kernel
theorem dL_cell_7 : decode cL_cell 7 = .ok (.iload_n 1, 1) := by decide +kernel
theorem dL_cell_8 : decode cL_cell 8 = .ok (.iaload, 1) := by decide +kernel
theorem dL_cell_9 : decode cL_cell 9 = .ok (.goto 12, 3) := by decide +kernel
theorem dL_cell_12 : decode cL_cell 12 = .ok (.ldc 7, 2) := by decide +kernel
theorem dL_cell_14 : decode cL_cell 14 = .ok (.iload_n 1, 1) := by decide +kernel
theorem dL_cell_15 : decode cL_cell 15 = .ok (.iconst 1, 1) := by decide +kernel
theorem dL_cell_16 : decode cL_cell 16 = .ok (.iadd, 1) := by decide +kernel
theorem dL_cell_17 : decode cL_cell 17 = .ok (.imul, 1) := by decide +kernel
theorem dL_cell_18 : decode cL_cell 18 = .ok (.ldc 8, 2) := by decide +kernel
theorem dL_cell_20 : decode cL_cell 20 = .ok (.iadd, 1) := by decide +kernel
theorem dL_cell_21 : decode cL_cell 21 = .ok (.ireturn, 1) := by decide +kernel
theorem cs_cell_7 : Cond.constant RL 7 (936756145) ∈ wsL_cell := by decide +kernel
theorem cs_cell_8 : Cond.constant RL 8 (506411595) ∈ wsL_cell := by decide +kernel
/-- a number of the script, or one made up: some number -/
theorem cn_cell (l : Launch) {b L j : Nat} {xs : Nat → Int32} (hj : j < 2 ^ 31) (hL : L < 2 ^ 31) : Met l yL_cell wsL_cell rm_L_cell (va_Pc [.ref b, .int (nI j)] (fun U => va_X b L xs U U.heap ∧ b < U.heap.size)) (va_Qi (fun _ (_ : Unit) => True) (fun _ _ => True) (fun _ => False)) 0 0 (fun _ => False) := by
  refine Met.ofW (cc := cL_cell) (maxL := 2) (ret := some .int) (by decide +kernel) rfl ?_
  intro p e s m args below meth c s₁ B hml hv
  obtain ⟨rfl, hX, hbl⟩ := hv
  have hx := B.exec
  have hb : c.code = cL_cell := B.bytes
  have hr := B.returns
  have hown : s.vm.findClass RL = some m.cls := findClass_of_methodNamed B.named
  have hts := atoms_spec (ws := wsL_cell) B.pre
  have hlo := B.notSynchronized
  have hS : va_S (fun _ => False) s.heap s.heap [] := va_S.rf
  have fin : ∀ (v : Int32) (ls : Array Slot), W p l e (headSpec wsL_cell rm_L_cell).room s m [Value.ref b, .int (nI j)].toArray below meth c s.heap [] 0 0 (MQ below (va_Qi (fun _ (_ : Unit) => True) (fun _ _ => True) (fun _ => False)) [Value.ref b, .int (nI j)].toArray s 0 0 (fun _ => False)) (F0 m 21 ls [.int v]) := fun v ls =>
    W.iret hx hb hr (fun t ht hW => ⟨⟨v, (), rfl, trivial, trivial⟩, hS.F ht⟩) hS.2.2 dL_cell_21 hlo
  have body : ∀ ls, lv_has ls 2 [(0, .ref b), (1, .int (nI j))] → W p l e (headSpec wsL_cell rm_L_cell).room s m [Value.ref b, .int (nI j)].toArray below meth c s.heap [] 0 0 (MQ below (va_Qi (fun _ (_ : Unit) => True) (fun _ _ => True) (fun _ => False)) [Value.ref b, .int (nI j)].toArray s 0 0 (fun _ => False)) (F0 m 0 ls []) := by
    intro ls hl
    refine lv_iload_n hx hb dL_cell_0 rfl (lv_at hl 1 rfl) ?_
    refine lv_aload_n hx hb dL_cell_1 rfl (lv_at hl 0 rfl) ?_
    refine va_slen hx hb hX hbl (fun h => h) hS dL_cell_2 ?_
    refine lv_icmp_ge (tgt := 12) hx hb dL_cell_3 (by decide) (fun hc => ?_) (fun hc => ?_)
    · refine lv_ldc hx hb hown (hts _ cs_cell_7) dL_cell_12 ?_
      refine lv_iload_n hx hb dL_cell_14 rfl (lv_at hl 1 rfl) ?_
      refine lv_iconst (v := 1) hx hb dL_cell_15 (by decide) ?_
      refine lv_iadd hx hb dL_cell_16 ?_
      refine lv_imul hx hb dL_cell_17 ?_
      refine lv_ldc hx hb hown (hts _ cs_cell_8) dL_cell_18 ?_
      refine lv_iadd hx hb dL_cell_20 ?_
      exact fin _ ls
    · have hlt : j < L := by
        have q : ¬ nI L ≤ nI j := hc
        rw [nI_leI hL hj] at q
        omega
      refine lv_aload_n hx hb dL_cell_6 rfl (lv_at hl 0 rfl) ?_
      refine lv_iload_n hx hb dL_cell_7 rfl (lv_at hl 1 rfl) ?_
      refine va_sld hx hb hX hbl (fun h => h) hS (nI_in hlt hL) dL_cell_8 ?_
      refine lv_goto (tgt := 21) hx hb dL_cell_9 (by decide) ?_
      exact fin _ ls
  rw [lg_entry_eq]
  exact body _ (lv_entry [.ref b, .int (nI j)] (n := 2) (Nat.le_of_ble_eq_true rfl))
section LAWCELL
variable {X : gX} {Z : gZ} {cc : ByteArray} {nL : Nat} {Ts : List Cond} {own : String} {rm : Room} {A : Nat → Prop} {ck cs : Nat} {ws : va_W} {pc : Nat} {lv : List (Nat × Value)} {rest st : List Value}
theorem l_cell (C : LC X Z cc nL Ts RL rm A) {b L j index : Nat} {xs : Nat → Int32} (hX : va_X b L xs X.2.2.2.2.1 X.2.2.2.2.1.heap) (hbl : b < X.2.2.2.2.1.heap.size) (hbA : ¬ A b) (hj : j < 2 ^ 31) (hL : L < 2 ^ 31) (hg : GoodIn Ts (va_wsS RL index yL_cell wsL_cell)) (hR : 0 + 1 ≤ rm.frames ∧ 8 + (2 + 11) + 0 ≤ rm.locals) (hck : ck ≤ rm.cells) (hcs : cs ≤ rm.slots) (hdg : decode cc pc = .ok (.invokestatic index, 3)) (hcat : (rest.map fun v => v.category).sum ≤ 8) (kk : ∀ r : Int32, GL X Z nL A ck cs ws (pc + 3) lv (.int r :: rest)) : GL X Z nL A ck cs ws pc lv (.int (nI j) :: .ref b :: rest) := by
  obtain ⟨p, l, e0, R, s, mm, args, below, meth, c, Q⟩ := X
  obtain ⟨hx, hbb, hml, hown, hts, hlo, hK, hA, hRm⟩ := C
  dsimp only at hx hbb hml hown hts hlo hK hA hRm kk hX hbl
  intro H locs ls hl hP hD hS
  dsimp only at hS ⊢
  subst hRm
  have hq : H[b]? = s.heap[b]? := hS.2.1 b hbl hbA
  refine va_calli (va_runS (As := [.ref b, .int (nI j)]) (rest := rest) ⟨hx, hbb, hml, hown, hts⟩ (cn_cell l hj hL (xs := xs)) (va_cwS (rm := rm_L_cell) 2 hts hg rfl rfl rfl ok_L_cell.2 hR) ⟨fun a U g mk q => ⟨q.1, va_X.moved (u := U) (U := U.calling g mk a) (Vm.Alike.refl U.vm) q.2.1, q.2.2⟩, fun U hU hW => ⟨rfl, by rw [hU]; exact va_X.moved hW.alike (hX.kept hq), by rw [hU]; exact Nat.lt_of_lt_of_le hbl hS.1⟩⟩ rfl rfl hl.1 rfl (lv_room hcat) hdg ⟨hck, hcs⟩) hS (fun x _ h => h.elim) (fun x h => h.elim) (fun r' u t H1 locs1 ht hvm hq1 hB hz1 hk1 hS1 => ?_)
  have hP1 : va_P Z.1 vwCl ws H1 := hP.kept (fun k q hk => hk1 q.1 (hP k q hk).lt (fun h => h))
  exact kk r' H1 locs1 ls hl hP1 hD hS1
end LAWCELL
