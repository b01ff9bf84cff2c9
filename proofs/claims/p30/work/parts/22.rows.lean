/-! ROWS THAT THE LAW'S OWN METHODS NEED: longs, doubles that are numbers, static calls over a whole world. -/
section LWROWS
variable {X : gX} {Z : gZ} {cc : ByteArray} {nL : Nat} {Ts : List Cond} {own : String} {rm : Room} {n : Nat} {ad : Nat → Nat} {E : Nat → va_E} {pc : Nat} {lv : List (Nat × Value)} {rest st : List Value}
theorem g_idiv (C : GC X Z cc nL Ts own rm n ad) {x y : Int32} (hdg : decode cc pc = .ok (.idiv, 1)) (hne : ¬ y = 0) (kk : GG X Z nL n ad E (pc + 1) lv (.int (x / y) :: rest)) : GG X Z nL n ad E pc lv (.int y :: .int x :: rest) := by
  obtain ⟨hx, hb, -⟩ := C
  intro H locs ls hl hP hS
  exact lv_idiv hx hb hdg hne (kk H locs ls hl hP hS)
theorem g_iand (C : GC X Z cc nL Ts own rm n ad) {x y : Int32} (hdg : decode cc pc = .ok (.iand, 1)) (kk : GG X Z nL n ad E (pc + 1) lv (.int (x &&& y) :: rest)) : GG X Z nL n ad E pc lv (.int y :: .int x :: rest) := by
  obtain ⟨hx, hb, -⟩ := C
  intro H locs ls hl hP hS
  exact lv_iand hx hb hdg (kk H locs ls hl hP hS)
theorem g_ishr (C : GC X Z cc nL Ts own rm n ad) {x y : Int32} (hdg : decode cc pc = .ok (.ishr, 1)) (kk : GG X Z nL n ad E (pc + 1) lv (.int (x >>> (y &&& 31)) :: rest)) : GG X Z nL n ad E pc lv (.int y :: .int x :: rest) := by
  obtain ⟨hx, hb, -⟩ := C
  intro H locs ls hl hP hS
  exact lv_ishr hx hb hdg (kk H locs ls hl hP hS)
theorem g_ldc (C : GC X Z cc nL Ts own rm n ad) {index : Nat} {v : Int32} (h1 : Cond.constant own index v ∈ Ts) (hdg : decode cc pc = .ok (.ldc index, 2)) (kk : GG X Z nL n ad E (pc + 2) lv (.int v :: rest)) : GG X Z nL n ad E pc lv rest := by
  obtain ⟨hx, hb, hml, hown, hts, -⟩ := C
  intro H locs ls hl hP hS
  exact lv_ldc hx hb hown (hts _ h1) hdg (kk H locs ls hl hP hS)
theorem g_ldc2 (C : GC X Z cc nL Ts own rm n ad) {index : Nat} {v : Int64} (h1 : Cond.constantLong own index v ∈ Ts) (hdg : decode cc pc = .ok (.ldc2_w index, 3)) (kk : GG X Z nL n ad E (pc + 3) lv (.long v :: rest)) : GG X Z nL n ad E pc lv rest := by
  obtain ⟨hx, hb, hml, hown, hts, -⟩ := C
  intro H locs ls hl hP hS
  exact lv_ldc2 hx hb hown (hts _ h1) hdg (kk H locs ls hl hP hS)
theorem g_lload_n (C : GC X Z cc nL Ts own rm n ad) {k : Fin 4} {x : Int64} (hdg : decode cc pc = .ok (.lload_n k, 1)) (q : Nat) (hq : lv[q]? = some ((k : Nat), .long x)) (kk : GG X Z nL n ad E (pc + 1) lv (.long x :: rest)) : GG X Z nL n ad E pc lv rest := by
  obtain ⟨hx, hb, -⟩ := C
  intro H locs ls hl hP hS
  exact lv_lload_n hx hb hdg rfl (lv_at hl q hq) (kk H locs ls hl hP hS)
theorem g_lload (C : GC X Z cc nL Ts own rm n ad) {k : Nat} {x : Int64} (hdg : decode cc pc = .ok (.lload k, 2)) (q : Nat) (hq : lv[q]? = some (k, .long x)) (kk : GG X Z nL n ad E (pc + 2) lv (.long x :: rest)) : GG X Z nL n ad E pc lv rest := by
  obtain ⟨hx, hb, -⟩ := C
  intro H locs ls hl hP hS
  exact lv_lload hx hb hdg (lv_at hl q hq) (kk H locs ls hl hP hS)
def gSt2 (lv : List (Nat × Value)) (i : Nat) (v : Value) : List (Nat × Value) := (i, v) :: lv.filter (fun q => !(q.1 == i) && (!(q.1 == i + 1) && !(q.1 + 1 == i && q.2.category == 2)))
theorem g_lstore_n (C : GC X Z cc nL Ts own rm n ad) {k : Fin 4} {x : Int64} (hdg : decode cc pc = .ok (.lstore_n k, 1)) (hn : (k : Nat) + 1 < nL) (lv' : List (Nat × Value)) (hl' : gSt2 lv k (.long x) = lv') (kk : GG X Z nL n ad E (pc + 1) lv' rest) : GG X Z nL n ad E pc lv (.long x :: rest) := by
  obtain ⟨hx, hb, -⟩ := C
  intro H locs ls hl hP hS
  exact lv_lstore_n hx hb hdg rfl hl hn hl' (fun ls hl => kk H locs ls hl hP hS)
theorem g_lstore (C : GC X Z cc nL Ts own rm n ad) {k : Nat} {x : Int64} (hdg : decode cc pc = .ok (.lstore k, 2)) (hn : k + 1 < nL) (lv' : List (Nat × Value)) (hl' : gSt2 lv k (.long x) = lv') (kk : GG X Z nL n ad E (pc + 2) lv' rest) : GG X Z nL n ad E pc lv (.long x :: rest) := by
  obtain ⟨hx, hb, -⟩ := C
  intro H locs ls hl hP hS
  exact lv_lstore hx hb hdg hl hn hl' (fun ls hl => kk H locs ls hl hP hS)
theorem g_ladd (C : GC X Z cc nL Ts own rm n ad) {x y : Int64} (hdg : decode cc pc = .ok (.ladd, 1)) (kk : GG X Z nL n ad E (pc + 1) lv (.long (x + y) :: rest)) : GG X Z nL n ad E pc lv (.long y :: .long x :: rest) := by
  obtain ⟨hx, hb, -⟩ := C
  intro H locs ls hl hP hS
  exact lv_ladd hx hb hdg (kk H locs ls hl hP hS)
theorem g_lmul (C : GC X Z cc nL Ts own rm n ad) {x y : Int64} (hdg : decode cc pc = .ok (.lmul, 1)) (kk : GG X Z nL n ad E (pc + 1) lv (.long (x * y) :: rest)) : GG X Z nL n ad E pc lv (.long y :: .long x :: rest) := by
  obtain ⟨hx, hb, -⟩ := C
  intro H locs ls hl hP hS
  exact lv_lmul hx hb hdg (kk H locs ls hl hP hS)
theorem g_i2l (C : GC X Z cc nL Ts own rm n ad) {x : Int32} (hdg : decode cc pc = .ok (.i2l, 1)) (kk : GG X Z nL n ad E (pc + 1) lv (.long x.toInt64 :: rest)) : GG X Z nL n ad E pc lv (.int x :: rest) := by
  obtain ⟨hx, hb, -⟩ := C
  intro H locs ls hl hP hS
  exact lv_i2l hx hb hdg rfl (kk H locs ls hl hP hS)
theorem g_lcmp (C : GC X Z cc nL Ts own rm n ad) {x y : Int64} (hdg : decode cc pc = .ok (.lcmp, 1)) (kk : GG X Z nL n ad E (pc + 1) lv (.int (lg_cmp x y) :: rest)) : GG X Z nL n ad E pc lv (.long y :: .long x :: rest) := by
  obtain ⟨hx, hb, -⟩ := C
  intro H locs ls hl hP hS
  exact W.lcmp hx hb hdg (kk H locs ls hl hP hS)
theorem g_dcmp (C : GC X Z cc nL Ts own rm n ad) {x y : UInt64} {op : CmpOp} (hdg : decode cc pc = .ok (.dcmp op, 1)) (kk : GG X Z nL n ad E (pc + 1) lv (.int (Op.cmpValue (FP.dcmp x y) op) :: rest)) : GG X Z nL n ad E pc lv (.double y :: .double x :: rest) := by
  obtain ⟨hx, hb, -⟩ := C
  intro H locs ls hl hP hS
  exact lv_dcmp hx hb hdg (kk H locs ls hl hP hS)
/-- a division whose result is a number: nothing is drawn -/
theorem g_ddivN (C : GC X Z cc nL Ts own rm n ad) {x y : UInt64} (hne : vf_n64 (FP.ddiv x y)) (hdg : decode cc pc = .ok (.ddiv, 1)) (kk : GG X Z nL n ad E (pc + 1) lv (.double (FP.ddiv x y) :: rest)) : GG X Z nL n ad E pc lv (.double y :: .double x :: rest) := by
  obtain ⟨hx, hb, -⟩ := C
  intro H locs ls hl hP hS
  exact lv_ddiv hx hb hdg hne (kk H locs ls hl hP hS)
end LWROWS
/-- the contract of a method that answers the long r -/
def gJ (l : Launch) (y : MethodName) (ws : List Cond) (rm : Room) (Z : gZ) (n : Nat) (ad : Nat → Nat) (av : List Value) (E : Nat → va_E) (r : Int64) (E' : Nat → va_E) : Prop :=
  Met l y ws rm (va_Pc av (gB Z n ad E)) (va_Ql (fun q (_ : Unit) => q = r) (fun _ t => gB Z n ad E' t) (gA n ad)) 0 0 (gA n ad)
def gEJ (X : gX) (Z : gZ) (n : Nat) (ad : Nat → Nat) (r : Int64) (E' : Nat → va_E) : Prop :=
  X.2.2.2.2.2.2.2.2.1.sig.returnType = some .long ∧ X.2.2.2.2.2.2.2.2.2.2 = MQ X.2.2.2.2.2.2.2.1 (va_Ql (fun q (_ : Unit) => q = r) (fun _ t => gB Z n ad E' t) (gA n ad)) X.2.2.2.2.2.2.1 X.2.2.2.2.1 0 0 (gA n ad)
/-- the contract of a method that answers the double r -/
def gDb (l : Launch) (y : MethodName) (ws : List Cond) (rm : Room) (Z : gZ) (n : Nat) (ad : Nat → Nat) (av : List Value) (E : Nat → va_E) (r : UInt64) (E' : Nat → va_E) : Prop :=
  Met l y ws rm (va_Pc av (gB Z n ad E)) (va_Qd (fun q (_ : Unit) => q = r) (fun _ t => gB Z n ad E' t) (gA n ad)) 0 0 (gA n ad)
def gEDb (X : gX) (Z : gZ) (n : Nat) (ad : Nat → Nat) (r : UInt64) (E' : Nat → va_E) : Prop :=
  X.2.2.2.2.2.2.2.2.1.sig.returnType = some .double ∧ X.2.2.2.2.2.2.2.2.2.2 = MQ X.2.2.2.2.2.2.2.1 (va_Qd (fun q (_ : Unit) => q = r) (fun _ t => gB Z n ad E' t) (gA n ad)) X.2.2.2.2.2.2.1 X.2.2.2.2.1 0 0 (gA n ad)
section LWENDS
variable {X : gX} {Z : gZ} {cc : ByteArray} {nL : Nat} {Ts : List Cond} {own : String} {rm : Room} {n : Nat} {ad : Nat → Nat} {E : Nat → va_E} {pc : Nat} {lv : List (Nat × Value)} {rest st : List Value}
theorem g_lret (C : GC X Z cc nL Ts own rm n ad) {r : Int64} (e : gEJ X Z n ad r E) (hdg : decode cc pc = .ok (.lreturn, 1)) : GG X Z nL n ad E pc lv [.long r] := by
  obtain ⟨p, l, e0, R, s, m, args, below, meth, c, Q⟩ := X
  obtain ⟨hx, hb, hml, hown, hts, hlo, hK, hI, hR⟩ := C
  obtain ⟨hr, hQ⟩ := e
  dsimp only at hx hb hml hown hts hlo hK hI hR hr hQ
  intro H locs ls hl hP hS
  dsimp only at hS ⊢
  rw [hQ]
  exact W.lret hx hb hr (fun t ht hW => ⟨⟨r, (), rfl, rfl, by rw [ht]; exact hP, va_K.moved hW.alike hK⟩, hS.F ht⟩) hS.2.2 hdg hlo
theorem g_dretN (C : GC X Z cc nL Ts own rm n ad) {r : UInt64} (e : gEDb X Z n ad r E) (hdg : decode cc pc = .ok (.dreturn, 1)) : GG X Z nL n ad E pc lv [.double r] := by
  obtain ⟨p, l, e0, R, s, m, args, below, meth, c, Q⟩ := X
  obtain ⟨hx, hb, hml, hown, hts, hlo, hK, hI, hR⟩ := C
  obtain ⟨hr, hQ⟩ := e
  dsimp only at hx hb hml hown hts hlo hK hI hR hr hQ
  intro H locs ls hl hP hS
  dsimp only at hS ⊢
  rw [hQ]
  exact W.dret hx hb hr (fun t ht hW => ⟨⟨r, (), rfl, rfl, by rw [ht]; exact hP, va_K.moved hW.alike hK⟩, hS.F ht⟩) hS.2.2 hdg hlo
theorem g_entryJ {l : Launch} {y : MethodName} {ws ws' : List Cond} {rm : Room} {cc : ByteArray} {maxL : Nat} (hy : plainName y.cls = true) (hw : ws = Cond.code y cc maxL (some .long) :: ws') {Z : gZ} {n : Nat} {ad : Nat → Nat} (hI : gInj n ad) {av : List Value} (hav : (lg_sl av).length ≤ maxL) {E : Nat → va_E} {r : Int64} {E' : Nat → va_E} (body : ∀ X : gX, GC X Z cc maxL ws y.cls rm n ad → gEJ X Z n ad r E' → GG X Z maxL n ad E 0 (lv_args 0 av) []) : gJ l y ws rm Z n ad av E r E' := by
  refine Met.ofW hy hw ?_
  intro p e s m args below meth c s₁ B hml hv
  obtain ⟨rfl, hP, hK⟩ := hv
  have hb := body (p, l, e, (headSpec ws rm).room, s, m, av.toArray, below, meth, c, MQ below (va_Ql (fun q (_ : Unit) => q = r) (fun _ t => gB Z n ad E' t) (gA n ad)) av.toArray s 0 0 (gA n ad)) ⟨B.exec, B.bytes, hml, findClass_of_methodNamed B.named, atoms_spec (ws := ws) B.pre, B.notSynchronized, hK, hI, rfl⟩ ⟨B.returns, rfl⟩
  rw [lg_entry_eq]
  exact hb s.heap [] _ (lv_entry av (n := maxL) hav) hP va_S.rf
theorem g_entryDb {l : Launch} {y : MethodName} {ws ws' : List Cond} {rm : Room} {cc : ByteArray} {maxL : Nat} (hy : plainName y.cls = true) (hw : ws = Cond.code y cc maxL (some .double) :: ws') {Z : gZ} {n : Nat} {ad : Nat → Nat} (hI : gInj n ad) {av : List Value} (hav : (lg_sl av).length ≤ maxL) {E : Nat → va_E} {r : UInt64} {E' : Nat → va_E} (body : ∀ X : gX, GC X Z cc maxL ws y.cls rm n ad → gEDb X Z n ad r E' → GG X Z maxL n ad E 0 (lv_args 0 av) []) : gDb l y ws rm Z n ad av E r E' := by
  refine Met.ofW hy hw ?_
  intro p e s m args below meth c s₁ B hml hv
  obtain ⟨rfl, hP, hK⟩ := hv
  have hb := body (p, l, e, (headSpec ws rm).room, s, m, av.toArray, below, meth, c, MQ below (va_Qd (fun q (_ : Unit) => q = r) (fun _ t => gB Z n ad E' t) (gA n ad)) av.toArray s 0 0 (gA n ad)) ⟨B.exec, B.bytes, hml, findClass_of_methodNamed B.named, atoms_spec (ws := ws) B.pre, B.notSynchronized, hK, hI, rfl⟩ ⟨B.returns, rfl⟩
  rw [lg_entry_eq]
  exact hb s.heap [] _ (lv_entry av (n := maxL) hav) hP va_S.rf
/-- a static method is called over the whole world -/
theorem g_callTi (C : GC X Z cc nL Ts own rm n ad) {y : MethodName} {index na maxL : Nat} {bytes : ByteArray} {ty : FieldType} {ws ws' : List Cond} {rm' : Room} (hg : GoodIn Ts (va_wsS own index y ws)) (hw : ws = Cond.code y bytes maxL (some ty) :: ws') (hd : gOk y own na) (hR : rm'.frames + 1 ≤ rm.frames ∧ 8 + (maxL + 11) + rm'.locals ≤ rm.locals) (h0 : rm'.cells = 0 ∧ rm'.slots = 0) {As : List Value} {r : Int32} {E2 : Nat → va_E} (hM : gInj n ad → gI X.2.1 y ws rm' Z n ad As E r E2) (hn : As.length = na) (hdg : decode cc pc = .ok (.invokestatic index, 3)) (hst : st = As.reverse ++ rest) (hcat : (rest.map fun v => v.category).sum ≤ 8) (kk : GG X Z nL n ad E2 (pc + 3) lv (.int r :: rest)) : GG X Z nL n ad E pc lv st := by
  obtain ⟨p, l, e0, R, s, mm, args, below, meth, c, Q⟩ := X
  obtain ⟨hx, hbb, hml, hown, hts, hlo, hK, hI, hRm⟩ := C
  dsimp only at hx hbb hml hown hts hlo hK hI hRm hM kk
  intro H locs ls hl hP hS
  dsimp only at hS ⊢
  subst hRm
  refine va_calli (va_runS (As := As) (rest := rest) ⟨hx, hbb, hml, hown, hts⟩ (hM hI) (va_cwS na hts hg hw h0.1 h0.2 hd.2 hR) ⟨gB_blind, fun U hU hW => ⟨rfl, by rw [hU]; exact hP, va_K.moved hW.alike hK⟩⟩ rfl hn hl.1 hst (lv_room hcat) hdg ⟨Nat.zero_le _, Nat.zero_le _⟩) hS (fun q _ h => h) (fun q h => h) (fun r' u t H1 locs1 ht hvm hq hB hz1 hk1 hS1 => ?_)
  cases hq
  have hP1 := hB.1
  rw [ht] at hP1
  exact kk H1 locs1 ls hl hP1 hS1
theorem g_callTj (C : GC X Z cc nL Ts own rm n ad) {y : MethodName} {index na maxL : Nat} {bytes : ByteArray} {ty : FieldType} {ws ws' : List Cond} {rm' : Room} (hg : GoodIn Ts (va_wsS own index y ws)) (hw : ws = Cond.code y bytes maxL (some ty) :: ws') (hd : gOk y own na) (hR : rm'.frames + 1 ≤ rm.frames ∧ 8 + (maxL + 11) + rm'.locals ≤ rm.locals) (h0 : rm'.cells = 0 ∧ rm'.slots = 0) {As : List Value} {r : Int64} {E2 : Nat → va_E} (hM : gInj n ad → gJ X.2.1 y ws rm' Z n ad As E r E2) (hn : As.length = na) (hdg : decode cc pc = .ok (.invokestatic index, 3)) (hst : st = As.reverse ++ rest) (hcat : (rest.map fun v => v.category).sum ≤ 8) (kk : GG X Z nL n ad E2 (pc + 3) lv (.long r :: rest)) : GG X Z nL n ad E pc lv st := by
  obtain ⟨p, l, e0, R, s, mm, args, below, meth, c, Q⟩ := X
  obtain ⟨hx, hbb, hml, hown, hts, hlo, hK, hI, hRm⟩ := C
  dsimp only at hx hbb hml hown hts hlo hK hI hRm hM kk
  intro H locs ls hl hP hS
  dsimp only at hS ⊢
  subst hRm
  refine va_calll (va_runS (As := As) (rest := rest) ⟨hx, hbb, hml, hown, hts⟩ (hM hI) (va_cwS na hts hg hw h0.1 h0.2 hd.2 hR) ⟨gB_blind, fun U hU hW => ⟨rfl, by rw [hU]; exact hP, va_K.moved hW.alike hK⟩⟩ rfl hn hl.1 hst (lv_room hcat) hdg ⟨Nat.zero_le _, Nat.zero_le _⟩) hS (fun q _ h => h) (fun q h => h) (fun r' u t H1 locs1 ht hvm hq hB hz1 hk1 hS1 => ?_)
  cases hq
  have hP1 := hB.1
  rw [ht] at hP1
  exact kk H1 locs1 ls hl hP1 hS1
/-- a method that answers a double, over the whole world -/
theorem g_callWd (C : GC X Z cc nL Ts own rm n ad) {y : MethodName} {Cn : String} {index na maxL : Nat} {bytes : ByteArray} {ty : FieldType} {ws ws' : List Cond} {rm' : Room} (hg : GoodIn Ts (wsV own index Cn y ws)) (hw : ws = Cond.code y bytes maxL (some ty) :: ws') (hd : gOk y Cn na) (hR : rm'.frames + 1 ≤ rm.frames ∧ 8 + (maxL + 11) + rm'.locals ≤ rm.locals) (h0 : rm'.cells = 0 ∧ rm'.slots = 0) (b : Nat) (hb : b < n) {ci N : Nat} {T : u_T} {fs : List Value} (hrec : E b = .inr (ci, fs)) (hcl : vwCl[ci]? = some (Cn, T, N)) {As : List Value} {r : UInt64} {E2 : Nat → va_E} (hM : gInj n ad → gDb X.2.1 y ws rm' Z n ad (.ref (ad b) :: As) E r E2) (hn : As.length = na) (hdg : decode cc pc = .ok (.invokevirtual index, 3)) (hst : st = As.reverse ++ .ref (ad b) :: rest) (hcat : (rest.map fun v => v.category).sum ≤ 8) (kk : GG X Z nL n ad E2 (pc + 3) lv (.double r :: rest)) : GG X Z nL n ad E pc lv st := by
  obtain ⟨p, l, e0, R, s, mm, args, below, meth, c, Q⟩ := X
  obtain ⟨hx, hbb, hml, hown, hts, hlo, hK, hI, hRm⟩ := C
  dsimp only at hx hbb hml hown hts hlo hK hI hRm hM kk
  intro H locs ls hl hP hS
  dsimp only at hS ⊢
  subst hRm
  refine va_calld (va_runV (As := As) (rest := rest) ⟨hx, hbb, hml, hown, hts⟩ (hM hI) (cwV na hts hg hw h0.1 h0.2 hd hR) ⟨gB_blind, va_recv hK hP hcl ((gW_get hb).trans (by rw [hrec])), fun U hU hW => ⟨rfl, by rw [hU]; exact hP, va_K.moved hW.alike hK⟩⟩ rfl hn hl.1 hst (lv_room hcat) hdg ⟨Nat.zero_le _, Nat.zero_le _⟩) hS (fun q _ h => h) (fun q h => h) (fun r' u t H1 locs1 ht hvm hq hB hz1 hk1 hS1 => ?_)
  cases hq
  have hP1 := hB.1
  rw [ht] at hP1
  exact kk H1 locs1 ls hl hP1 hS1
end LWENDS
theorem gnz {α : Type} {c : Prop} {i : Decidable c} {a : Option α} {x : α} (h : @ite (Option α) c i none a = some x) : ¬ c ∧ a = some x := by
  by_cases hc : c
  · rw [if_pos hc] at h; cases h
  · rw [if_neg hc] at h; exact ⟨hc, h⟩
theorem gbt1 {α β : Type} {o : Option α} {f : α → Option β} {x : β} (h : gb o f = some x) : ∃ v, o = some v ∧ f v = some x := gb1 h
def vf_b64 (r : UInt64) : Bool := decide (r &&& 0x7fffffffffffffff ≤ 0x7ff0000000000000)
theorem vf_b64_n {r : UInt64} (h : vf_b64 r = true) : vf_n64 r := by
  unfold vf_n64
  exact of_decide_eq_true h
/-- wholeness, where its division is a number -/
def f_X5_wholeness (D : Nat → Nat → Nat → Int32) (sav old hsz : Int32) (cs : Nat → Int32) (len : Int32) (g : Nat → Int32) : Option UInt64 :=
  gb (f_X0_allExtents (D 0)) (fun ex => if ex ≤ 0 then some FP.dconst1 else gb (f_X0_filesWithBlocks (D 0)) (fun fi => if vf_b64 (FP.ddiv (FP.i2d fi) (FP.i2d ex)) = true then some (FP.ddiv (FP.i2d fi) (FP.i2d ex)) else none))
theorem ok_X5_wholeness : gOk yX5_wholeness RX5 0 := by refine ⟨?_, ?_, ?_, ?_⟩ <;> decide +kernel
set_option maxHeartbeats 4000000 in
set_option maxRecDepth 100000 in
theorem cm_X5_wholeness (l : Launch) (Z : gZ) (ad : Nat → Nat) (hI : gInj 175 ad) (D : Nat → Nat → Nat → Int32) (sav old hsz : Int32) (cs : Nat → Int32) (len : Int32) (g : Nat → Int32) {r : UInt64} (h : f_X5_wholeness D sav old hsz cs len g = some r) : gDb l yX5_wholeness wsX5_wholeness rm_X5_wholeness Z 175 ad [.ref (ad 168)] (xE Z.2.1 Z.2.2 ad D sav old hsz cs len g) r (xE Z.2.1 Z.2.2 ad D sav old hsz cs len g) := by
  refine g_entryDb (cc := cX5_wholeness) (maxL := 2) (by decide +kernel) rfl hI (Nat.le_of_ble_eq_true rfl) (fun X C e => ?_)
  unfold f_X5_wholeness at h
  obtain ⟨ex, h1, h⟩ := gb1 h
  show GG X Z 2 175 ad (xE Z.2.1 Z.2.2 ad D sav old hsz cs len g) 0 [(0, .ref (ad 168))] []
  refine g_aload_n C dX5_wholeness_0 0 rfl ?_
  refine g_getf (v := .ref (ad (21 * 0))) C 168 (by decide) rfl rfl in_X5_wholeness 0 (by decide) fl_X5_wholeness_10 rfl dX5_wholeness_1 ?_
  refine g_callVi (rest := []) C gX5_wholeness_X0_allExtents rfl ok_X0_allExtents ⟨by decide, by decide⟩ ⟨rfl, rfl⟩ (21 * 0) 21 (by decide) (adc := fun i => ad (21 * 0 + i)) (fun _ _ => rfl) (xE_dsk 0 (by decide)) 0 (by decide) rfl rfl (fun hI => cn_X0_allExtents _ Z (fun i => ad (21 * 0 + i)) hI (D 0) h1) rfl dX5_wholeness_4 rfl (Nat.le_of_ble_eq_true rfl) (xE Z.2.1 Z.2.2 ad D sav old hsz cs len g) (xE_id 0 (by decide)) ?_
  refine g_istore_n C dX5_wholeness_7 (by decide) [(1, .int ex), (0, .ref (ad 168))] rfl ?_
  refine g_iload_n C dX5_wholeness_8 0 rfl ?_
  refine g_if_le (tgt := 26) C dX5_wholeness_9 (by decide) (fun hc => ?_) (fun hc => ?_)
  · rw [if_pos hc] at h
    obtain rfl := gs1 h
    refine g_dconst1 C dX5_wholeness_26 ?_
    exact g_dretN C e dX5_wholeness_27
  · rw [if_neg hc] at h
    obtain ⟨fi, h2, h⟩ := gb1 h
    obtain ⟨h3, h⟩ := gguard h
    obtain rfl := gs1 h
    refine g_aload_n C dX5_wholeness_12 1 rfl ?_
    refine g_getf (v := .ref (ad (21 * 0))) C 168 (by decide) rfl rfl in_X5_wholeness 0 (by decide) fl_X5_wholeness_10 rfl dX5_wholeness_13 ?_
    refine g_callVi (rest := []) C gX5_wholeness_X0_filesWithBlocks rfl ok_X0_filesWithBlocks ⟨by decide, by decide⟩ ⟨rfl, rfl⟩ (21 * 0) 21 (by decide) (adc := fun i => ad (21 * 0 + i)) (fun _ _ => rfl) (xE_dsk 0 (by decide)) 0 (by decide) rfl rfl (fun hI => cn_X0_filesWithBlocks _ Z (fun i => ad (21 * 0 + i)) hI (D 0) h2) rfl dX5_wholeness_16 rfl (Nat.le_of_ble_eq_true rfl) (xE Z.2.1 Z.2.2 ad D sav old hsz cs len g) (xE_id 0 (by decide)) ?_
    refine g_i2d C dX5_wholeness_19 ?_
    refine g_iload_n C dX5_wholeness_20 0 rfl ?_
    refine g_i2d C dX5_wholeness_21 ?_
    refine g_ddivN C (vf_b64_n h3) dX5_wholeness_22 ?_
    refine g_goto (tgt := 27) C dX5_wholeness_23 (by decide) ?_
    exact g_dretN C e dX5_wholeness_27
