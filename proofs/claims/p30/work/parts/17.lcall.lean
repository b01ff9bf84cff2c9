/-! Constructors: contract, entry, end; calls out of worlds that are lists. -/
/-- what the tables say of the making of disks' arrays, and of the private constructors that LendingDisk calls -/
def lO (U : State) : Prop := va_AO RX0 U ∧ va_Nw (.methodLinkNest RX5 35 yX4_init RX5) U ∧ va_Nw (.methodLinkNest RX5 42 yX2_init RX5) U
theorem lO.warm {s U : State} (hW : s.WarmedH U.vm) (h : lO s) : lO U := ⟨va_AO.moved hW.alike h.1, va_Nw.warmM hW h.2.1, va_Nw.warmM hW h.2.2⟩
theorem lO.calling {U : State} {g : JFrame} {mk : MethodId} {a : Array Value} (h : lO U) : lO (U.calling g mk a) := ⟨va_AO.moved (u := U) (U := U.calling g mk a) (Vm.Alike.refl U.vm) h.1, va_Nw.same rfl rfl h.2.1, va_Nw.same rfl rfl h.2.2⟩
/-- the contract of a constructor over a new object: the cells behind it are told by P -/
def gN (l : Launch) (y : MethodName) (ws : List Cond) (rm : Room) (Z : gZ) (h0 ci : Nat) (fs : List Value) (av : List Value) (P : va_W → Prop) (mc ms : Nat) : Prop :=
  ∀ sz : Nat, Met l y ws rm (va_Pc (.ref h0 :: av) (fun U => U.heap.size = sz ∧ va_P Z.1 vwCl [(h0, .inr (ci, fs))] U.heap ∧ gK Z U ∧ lO U)) (va_Qv (fun w : va_W => P w) (fun w t => va_P Z.1 vwCl w t.heap ∧ va_D (va_A [(h0, .inr (ci, fs))] sz) w) (va_A [(h0, .inr (ci, fs))] sz)) mc ms (va_A [(h0, .inr (ci, fs))] sz)
def lEN (X : gX) (A : Nat → Prop) (Z : gZ) (P : va_W → Prop) (mc ms : Nat) : Prop :=
  X.2.2.2.2.2.2.2.2.1.sig.returnType = none ∧ X.2.2.2.2.2.2.2.2.2.2 = MQ X.2.2.2.2.2.2.2.1 (va_Qv (fun w : va_W => P w) (fun w t => va_P Z.1 vwCl w t.heap ∧ va_D A w) A) X.2.2.2.2.2.2.1 X.2.2.2.2.1 mc ms A
theorem l_entryN {l : Launch} {y : MethodName} {ws ws' : List Cond} {rm : Room} {cc : ByteArray} {maxL : Nat} (hy : plainName y.cls = true) (hw : ws = Cond.code y cc maxL none :: ws') (hyi : y.name = "<init>") {Z : gZ} {h0 ci : Nat} {fs av : List Value} {P : va_W → Prop} {mc ms : Nat} (hav : (lg_sl (.ref h0 :: av)).length ≤ maxL) (body : ∀ (X : gX) (A : Nat → Prop), LC X Z cc maxL ws y.cls rm A → X.2.2.2.2.2.2.2.2.1.name = "<init>" → lO X.2.2.2.2.1 → lEN X A Z P mc ms → GL X Z maxL A 0 0 [(h0, .inr (ci, fs))] 0 (lv_args 0 (.ref h0 :: av)) []) : gN l y ws rm Z h0 ci fs av P mc ms := by
  intro sz
  refine Met.ofW hy hw ?_
  intro p e s m args below meth c s₁ B hml hv
  obtain ⟨rfl, rfl, hP, hK, hO⟩ := hv
  have hin : meth.name = "<init>" := (name_of_methodNamed B.named B.method).1.trans hyi
  have hb := body (p, l, e, (headSpec ws rm).room, s, m, (Value.ref h0 :: av).toArray, below, meth, c, MQ below (va_Qv (fun w : va_W => P w) (fun w t => va_P Z.1 vwCl w t.heap ∧ va_D (va_A [(h0, .inr (ci, fs))] s.heap.size) w) (va_A [(h0, .inr (ci, fs))] s.heap.size)) (Value.ref h0 :: av).toArray s mc ms (va_A [(h0, .inr (ci, fs))] s.heap.size)) (va_A [(h0, .inr (ci, fs))] s.heap.size) ⟨B.exec, B.bytes, hml, findClass_of_methodNamed B.named, atoms_spec (ws := ws) B.pre, B.notSynchronized, hK, fun q h => Or.inr h, rfl⟩ hin hO ⟨B.returns, rfl⟩
  rw [lg_entry_eq]
  exact hb s.heap [] _ (lv_entry (.ref h0 :: av) (n := maxL) hav) hP ⟨fun i j p q hp hq _ => by
    have h1 := (List.getElem?_eq_some_iff.mp hp).1
    have h2 := (List.getElem?_eq_some_iff.mp hq).1
    simp only [List.length_cons, List.length_nil] at h1 h2
    omega, fun k q hk => va_A.in hk⟩ va_S.rf
section LCALLS
variable {X : gX} {Z : gZ} {cc : ByteArray} {nL : Nat} {Ts : List Cond} {own : String} {rm : Room} {A : Nat → Prop} {ck cs : Nat} {ws : va_W} {pc : Nat} {lv : List (Nat × Value)} {rest st : List Value}
theorem l_widen {k n : Nat} (h1 : ck ≤ k) (h2 : cs ≤ n) (kk : GL X Z nL A k n ws pc lv st) : GL X Z nL A ck cs ws pc lv st := fun H locs ls hl hP hD hS => W.widen h1 h2 (kk H locs ls hl hP hD hS)
theorem l_sub {lv' : List (Nat × Value)} (ks : List Nat) (h : lv_pick lv ks = lv') (kk : GL X Z nL A ck cs ws pc lv' st) : GL X Z nL A ck cs ws pc lv st := fun H locs ls hl hP hD hS => kk H locs ls (lv_sub hl ks h) hP hD hS
theorem l_vret (C : LC X Z cc nL Ts own rm A) {P : va_W → Prop} (e : lEN X A Z P ck cs) (hp : P ws) (hdg : decode cc pc = .ok (.return_, 1)) : GL X Z nL A ck cs ws pc lv [] := by
  obtain ⟨p, l, e0, R, s, m, args, below, meth, c, Q⟩ := X
  obtain ⟨hx, hb, hml, hown, hts, hlo, hK, hA, hR⟩ := C
  obtain ⟨hr, hQ⟩ := e
  dsimp only at hx hb hml hown hts hlo hK hA hR hr hQ
  intro H locs ls hl hP hD hS
  dsimp only at hS ⊢
  rw [hQ]
  exact W.vret hx hb hr (fun t ht hW => ⟨⟨ws, rfl, hp, by rw [ht]; exact hP, hD⟩, hS.F ht⟩) hS.2.2 hdg hlo
theorem l_obj (C : LC X Z cc nL Ts own rm A) {index a : Nat} (h1 : Cond.methodLink own index objectInit ∈ Ts) (h2 : Cond.instanceMethod objectInit ∈ Ts) (h3 : Cond.code objectInit ⟨#[0xb1]⟩ 1 none ∈ Ts) (hf : 1 ≤ rm.frames) (hlo : (rest.map fun v => v.category).sum + 12 ≤ rm.locals) (hdg : decode cc pc = .ok (.invokespecial index, 3)) (kk : GL X Z nL A ck cs ws (pc + 3) lv rest) : GL X Z nL A ck cs ws pc lv (.ref a :: rest) := by
  obtain ⟨p, l, e0, R, s, m, args, below, meth, c, Q⟩ := X
  obtain ⟨hx, hb, hml, hown, hts, hlk, hK, hA, hR⟩ := C
  dsimp only at hx hb hml hown hts hlk hK hA hR kk
  intro H locs ls hl hP hD hS
  dsimp only at hS ⊢
  subst hR
  refine W.objInit hx hb hown (hts _ h1) (hts _ h2) (hts _ h3) rfl (by rw [hml]; exact hl.1) rfl hdg hf (by show 2 * 0 + _ + 12 ≤ _; omega) ?_
  exact kk H locs ls hl hP hD hS
/-- a constructor is called on the object that was made last -/
theorem l_callN (C : LC X Z cc nL Ts own rm A) (hov : lO X.2.2.2.2.1) {y : MethodName} {index na maxL mc ms : Nat} {bytes : ByteArray} {wsy ws' : List Cond} {rm' : Room} (hg : GoodIn Ts wsy) (hw : wsy = Cond.code y bytes maxL none :: ws') (hd : y.cls ≠ "java/lang/invoke/MethodHandle" ∧ y.cls ≠ "java/lang/invoke/VarHandle" ∧ (parseMethodDescriptor y.desc).map (fun d => d.parameters.length) = some na) (hR : rm'.frames + 1 ≤ rm.frames ∧ 8 + (maxL + 11) + rm'.locals ≤ rm.locals) (h0 : rm'.cells = mc ∧ rm'.slots = ms) (hck : ck + mc ≤ rm.cells) (hcs : cs + ms ≤ rm.slots) (h1 : Cond.initialized y.cls ∈ Ts) (h2 : Cond.methodLink own index y ∈ Ts) (h3 : Cond.instanceMethod y ∈ Ts) (hy1 : y.name = "<init>") {wa : va_W} {q ci : Nat} {fs As : List Value} {P : va_W → Prop} (hM : gN X.2.1 y wsy rm' Z q ci fs As P mc ms) (hn : As.length = na) (hdg : decode cc pc = .ok (.invokespecial index, 3)) (hst : st = As.reverse ++ .ref q :: rest) (hcat : (rest.map fun v => v.category).sum ≤ 8) (kk : ∀ w1, P w1 → GL X Z nL A (ck + mc) (cs + ms) (wa ++ w1) (pc + 3) lv rest) : GL X Z nL A ck cs (wa ++ [(q, .inr (ci, fs))]) pc lv st := by
  obtain ⟨p, l, e0, R, s, mm, args, below, meth, c, Q⟩ := X
  obtain ⟨hx, hbb, hml, hown, hts, hlo, hK, hA, hRm⟩ := C
  dsimp only at hx hbb hml hown hts hlo hK hA hRm hM kk hov
  intro H locs ls hl hP hD hS
  dsimp only at hS ⊢
  subst hRm
  have hPc := (l_P_app hP).2
  have hDc := (l_D_app hD).2.1
  have hfr : ∀ x, va_A [(q, .inr (ci, fs))] H.size x → A x := by
    rintro x (⟨k, e, hk⟩ | h)
    · exact hDc.2 k (x, e) hk
    · exact hA x (Nat.le_trans hS.1 h)
  refine va_callv (va_runI (As := As) (rest := rest) (b := q) ⟨hx, hbb, hml, hown, hts⟩ (hM H.size) (cwI na hts hg hw h0.1 h0.2 (hts _ h1) (hts _ h2) (hts _ h3) hy1 hd hR) ⟨fun a U g mk q => ⟨q.1, q.2.1, q.2.2.1, va_K.moved (u := U) (U := U.calling g mk a) (Vm.Alike.refl U.vm) q.2.2.2.1, lO.calling q.2.2.2.2⟩, fun U hU hW => ⟨rfl, by rw [hU], by rw [hU]; exact hPc, va_K.moved hW.alike hK, lO.warm hW hov⟩⟩ rfl hn hl.1 hst (lv_room hcat) hdg ⟨hck, hcs⟩) hS (fun x _ h => hfr x h) hfr (fun w1 t H1 locs1 ht hvm hp hB hz1 hk1 hS1 => ?_)
  have hP1 := hB.1
  rw [ht] at hP1
  have hj := l_join (wb := []) hA hS.1 (by rw [List.append_nil]; exact hP) (by rw [List.append_nil]; exact hD) hP1 hB.2 hk1
  rw [List.append_nil] at hj
  exact kk w1 hp H1 locs1 ls hl hj.1 hj.2 hS1
/-- the same, of a private constructor of a nest mate -/
theorem l_callNN (C : LC X Z cc nL Ts own rm A) (hov : lO X.2.2.2.2.1) {y : MethodName} {index na maxL mc ms : Nat} {bytes : ByteArray} {wsy ws' : List Cond} {rm' : Room} (hg : GoodIn Ts wsy) (hw : wsy = Cond.code y bytes maxL none :: ws') (hd : y.cls ≠ "java/lang/invoke/MethodHandle" ∧ y.cls ≠ "java/lang/invoke/VarHandle" ∧ (parseMethodDescriptor y.desc).map (fun d => d.parameters.length) = some na) (hR : rm'.frames + 1 ≤ rm.frames ∧ 8 + (maxL + 11) + rm'.locals ≤ rm.locals) (h0 : rm'.cells = mc ∧ rm'.slots = ms) (hck : ck + mc ≤ rm.cells) (hcs : cs + ms ≤ rm.slots) (h1 : Cond.initialized y.cls ∈ Ts) (host : String) (h2 : va_Nw (.methodLinkNest own index y host) X.2.2.2.2.1) (h3 : Cond.instanceMethod y ∈ Ts) (hy1 : y.name = "<init>") {wa : va_W} {q ci : Nat} {fs As : List Value} {P : va_W → Prop} (hM : gN X.2.1 y wsy rm' Z q ci fs As P mc ms) (hn : As.length = na) (hdg : decode cc pc = .ok (.invokespecial index, 3)) (hst : st = As.reverse ++ .ref q :: rest) (hcat : (rest.map fun v => v.category).sum ≤ 8) (kk : ∀ w1, P w1 → GL X Z nL A (ck + mc) (cs + ms) (wa ++ w1) (pc + 3) lv rest) : GL X Z nL A ck cs (wa ++ [(q, .inr (ci, fs))]) pc lv st := by
  obtain ⟨p, l, e0, R, s, mm, args, below, meth, c, Q⟩ := X
  obtain ⟨hx, hbb, hml, hown, hts, hlo, hK, hA, hRm⟩ := C
  dsimp only at hx hbb hml hown hts hlo hK hA hRm hM kk hov h2
  intro H locs ls hl hP hD hS
  dsimp only at hS ⊢
  subst hRm
  have hPc := (l_P_app hP).2
  have hDc := (l_D_app hD).2.1
  have hfr : ∀ x, va_A [(q, .inr (ci, fs))] H.size x → A x := by
    rintro x (⟨k, e, hk⟩ | h)
    · exact hDc.2 k (x, e) hk
    · exact hA x (Nat.le_trans hS.1 h)
  refine va_callv (va_runIN (As := As) (rest := rest) (b := q) ⟨hx, hbb, hml, hown, hts⟩ (hM H.size) ⟨va_cnB na hts hg hw h0.1 h0.2 h2 (hts _ h1) hd hR, hy1, hts _ h3⟩ ⟨fun a U g mk q => ⟨q.1, q.2.1, q.2.2.1, va_K.moved (u := U) (U := U.calling g mk a) (Vm.Alike.refl U.vm) q.2.2.2.1, lO.calling q.2.2.2.2⟩, fun U hU hW => ⟨rfl, by rw [hU], by rw [hU]; exact hPc, va_K.moved hW.alike hK, lO.warm hW hov⟩⟩ rfl hn hl.1 hst (lv_room hcat) hdg ⟨hck, hcs⟩) hS (fun x _ h => hfr x h) hfr (fun w1 t H1 locs1 ht hvm hp hB hz1 hk1 hS1 => ?_)
  have hP1 := hB.1
  rw [ht] at hP1
  have hj := l_join (wb := []) hA hS.1 (by rw [List.append_nil]; exact hP) (by rw [List.append_nil]; exact hD) hP1 hB.2 hk1
  rw [List.append_nil] at hj
  exact kk w1 hp H1 locs1 ls hl hj.1 hj.2 hS1
theorem gInj_of {n : Nat} {ad : Nat → Nat} {E : Nat → va_E} {A : Nat → Prop} (h : va_D A (gW n ad E)) : gInj n ad := fun i j hi hj e => h.1 i j _ _ (gW_get hi) (gW_get hj) e
theorem gD_of {n : Nat} {ad : Nat → Nat} {E E2 : Nat → va_E} {A : Nat → Prop} {sz : Nat} (h : va_D A (gW n ad E)) : va_D (va_A (gW n ad E) sz) (gW n ad E2) := by
  refine ⟨fun i j p q hp hq e => ?_, fun k q hk => ?_⟩
  · obtain ⟨hi, rfl⟩ := gW_inv hp
    obtain ⟨hj, rfl⟩ := gW_inv hq
    exact gInj_of h i j hi hj e
  · obtain ⟨hi, rfl⟩ := gW_inv hk
    exact Or.inl ⟨k, E k, gW_get hi⟩
theorem gA_va {n : Nat} {ad : Nat → Nat} {E : Nat → va_E} {sz q : Nat} (h : gA n ad q) : va_A (gW n ad E) sz q := by
  obtain ⟨i, hi, rfl⟩ := h
  exact Or.inl ⟨i, E i, gW_get hi⟩
/-- a method is called over a part of the world -/
theorem l_callVv (C : LC X Z cc nL Ts own rm A) {y : MethodName} {Cn : String} {index na maxL : Nat} {bytes : ByteArray} {wsy ws' : List Cond} {rm' : Room} (hg : GoodIn Ts (wsV own index Cn y wsy)) (hw : wsy = Cond.code y bytes maxL none :: ws') (hd : gOk y Cn na) (hR : rm'.frames + 1 ≤ rm.frames ∧ 8 + (maxL + 11) + rm'.locals ≤ rm.locals) (h0 : rm'.cells = 0 ∧ rm'.slots = 0) (hck : ck ≤ rm.cells) (hcs : cs ≤ rm.slots) {wa wb : va_W} {m : Nat} {adc : Nat → Nat} {Ec Ec' : Nat → va_E} (b : Nat) (hb : b < m) {ci N : Nat} {T : u_T} {fs : List Value} (hrec : Ec b = .inr (ci, fs)) (hcl : vwCl[ci]? = some (Cn, T, N)) {As : List Value} (hM : gInj m adc → gV X.2.1 y wsy rm' Z m adc (.ref (adc b) :: As) Ec Ec') (hn : As.length = na) (hdg : decode cc pc = .ok (.invokevirtual index, 3)) (hst : st = As.reverse ++ .ref (adc b) :: rest) (hcat : (rest.map fun v => v.category).sum ≤ 8) (kk : GL X Z nL A ck cs (wa ++ (gW m adc Ec' ++ wb)) (pc + 3) lv rest) : GL X Z nL A ck cs (wa ++ (gW m adc Ec ++ wb)) pc lv st := by
  obtain ⟨p, l, e0, R, s, mm, args, below, meth, c, Q⟩ := X
  obtain ⟨hx, hbb, hml, hown, hts, hlo, hK, hA, hRm⟩ := C
  dsimp only at hx hbb hml hown hts hlo hK hA hRm hM kk
  intro H locs ls hl hP hD hS
  dsimp only at hS ⊢
  subst hRm
  have hPc := (l_P_app (l_P_app hP).2).1
  have hDc := (l_D_app (l_D_app hD).2.1).1
  have hfr : ∀ x, gA m adc x → A x := by
    rintro x ⟨i, hi, rfl⟩
    exact hDc.2 i _ (gW_get hi)
  refine va_callv (va_runV (As := As) (rest := rest) ⟨hx, hbb, hml, hown, hts⟩ (hM (gInj_of hDc)) (cwV na hts hg hw h0.1 h0.2 hd hR) ⟨gB_blind, va_recv hK hPc hcl ((gW_get hb).trans (by rw [hrec])), fun U hU hW => ⟨rfl, by rw [hU]; exact hPc, va_K.moved hW.alike hK⟩⟩ rfl hn hl.1 hst (lv_room hcat) hdg ⟨hck, hcs⟩) hS (fun x _ h => hfr x h) hfr (fun u t H1 locs1 ht hvm hq hB hz1 hk1 hS1 => ?_)
  have hP1 := hB.1
  rw [ht] at hP1
  have hj := l_join hA hS.1 hP hD hP1 (gD_of hDc) (fun x hx1 hx2 => hk1 x hx1 (fun h => hx2 (gA_va h)))
  exact kk H1 locs1 ls hl hj.1 hj.2 hS1
theorem l_callVi (C : LC X Z cc nL Ts own rm A) {y : MethodName} {Cn : String} {index na maxL : Nat} {bytes : ByteArray} {ty : FieldType} {wsy ws' : List Cond} {rm' : Room} (hg : GoodIn Ts (wsV own index Cn y wsy)) (hw : wsy = Cond.code y bytes maxL (some ty) :: ws') (hd : gOk y Cn na) (hR : rm'.frames + 1 ≤ rm.frames ∧ 8 + (maxL + 11) + rm'.locals ≤ rm.locals) (h0 : rm'.cells = 0 ∧ rm'.slots = 0) (hck : ck ≤ rm.cells) (hcs : cs ≤ rm.slots) {wa wb : va_W} {m : Nat} {adc : Nat → Nat} {Ec Ec' : Nat → va_E} (b : Nat) (hb : b < m) {ci N : Nat} {T : u_T} {fs : List Value} (hrec : Ec b = .inr (ci, fs)) (hcl : vwCl[ci]? = some (Cn, T, N)) {As : List Value} {r : Int32} (hM : gInj m adc → gI X.2.1 y wsy rm' Z m adc (.ref (adc b) :: As) Ec r Ec') (hn : As.length = na) (hdg : decode cc pc = .ok (.invokevirtual index, 3)) (hst : st = As.reverse ++ .ref (adc b) :: rest) (hcat : (rest.map fun v => v.category).sum ≤ 8) (kk : GL X Z nL A ck cs (wa ++ (gW m adc Ec' ++ wb)) (pc + 3) lv (.int r :: rest)) : GL X Z nL A ck cs (wa ++ (gW m adc Ec ++ wb)) pc lv st := by
  obtain ⟨p, l, e0, R, s, mm, args, below, meth, c, Q⟩ := X
  obtain ⟨hx, hbb, hml, hown, hts, hlo, hK, hA, hRm⟩ := C
  dsimp only at hx hbb hml hown hts hlo hK hA hRm hM kk
  intro H locs ls hl hP hD hS
  dsimp only at hS ⊢
  subst hRm
  have hPc := (l_P_app (l_P_app hP).2).1
  have hDc := (l_D_app (l_D_app hD).2.1).1
  have hfr : ∀ x, gA m adc x → A x := by
    rintro x ⟨i, hi, rfl⟩
    exact hDc.2 i _ (gW_get hi)
  refine va_calli (va_runV (As := As) (rest := rest) ⟨hx, hbb, hml, hown, hts⟩ (hM (gInj_of hDc)) (cwV na hts hg hw h0.1 h0.2 hd hR) ⟨gB_blind, va_recv hK hPc hcl ((gW_get hb).trans (by rw [hrec])), fun U hU hW => ⟨rfl, by rw [hU]; exact hPc, va_K.moved hW.alike hK⟩⟩ rfl hn hl.1 hst (lv_room hcat) hdg ⟨hck, hcs⟩) hS (fun x _ h => hfr x h) hfr (fun r' u t H1 locs1 ht hvm hq hB hz1 hk1 hS1 => ?_)
  cases hq
  have hP1 := hB.1
  rw [ht] at hP1
  have hj := l_join hA hS.1 hP hD hP1 (gD_of hDc) (fun x hx1 hx2 => hk1 x hx1 (fun h => hx2 (gA_va h)))
  exact kk H1 locs1 ls hl hj.1 hj.2 hS1
/-- an array element of references -/
theorem l_astq (C : LC X Z cc nL Ts own rm A) (q qk : Nat) {a n v : Nat} {f : Nat → Option Nat} {vs : List Value} (hE : ws[q]? = some (a, .inl (Z.2.2, n, .inr (.inr (.inr (.inr f)))))) (hv : ws[qk]? = some (v, .inr (0, vs))) {i : Int32} (hin : vp_in i n) (hdg : decode cc pc = .ok (.aastore, 1)) (ws2 : va_W) (h2 : ws.set q (a, .inl (Z.2.2, n, .inr (.inr (.inr (.inr (va_up f i.toNatClampNeg (some v))))))) = ws2) (kk : GL X Z nL A ck cs ws2 (pc + 1) lv rest) : GL X Z nL A ck cs ws pc lv (.ref v :: .int i :: .ref a :: rest) := by
  obtain ⟨hx, hb, hml, hown, hts, hlo, hK, hA, hR⟩ := C
  intro H locs ls hl hP hD hS
  subst h2
  exact va_astq (r := (RX0, TX0, 10)) hx hb hK hP hD hS q 1 qk 0 hE rfl hv rfl hin hdg (fun H1 locs1 hP1 hD1 hS1 => kk H1 locs1 ls hl hP1 hD1 hS1)
/-- the same cells, told otherwise -/
theorem l_ext (ws2 : va_W) (hl2 : ws2.map (fun q => q.1) = ws.map (fun q => q.1)) (h : ∀ H : Heap, va_P Z.1 vwCl ws H → va_P Z.1 vwCl ws2 H) (kk : GL X Z nL A ck cs ws2 pc lv st) : GL X Z nL A ck cs ws pc lv st := by
  intro H locs ls hl hP hD hS
  have hg : ∀ (i : Nat) (p : Nat × va_E), ws2[i]? = some p → ∃ p', ws[i]? = some p' ∧ p'.1 = p.1 := by
    intro i p hp
    have h1 : (ws2.map (fun q => q.1))[i]? = some p.1 := by rw [List.getElem?_map, hp]; rfl
    rw [hl2, List.getElem?_map] at h1
    cases hw : ws[i]? with
    | none => rw [hw] at h1; cases h1
    | some p' => rw [hw] at h1; exact ⟨p', rfl, Option.some.inj h1⟩
  refine kk H locs ls hl (h H hP) ⟨fun i j p q hp hq e => ?_, fun k q hk => ?_⟩ hS
  · obtain ⟨p', hp', e1⟩ := hg i p hp
    obtain ⟨q', hq', e2⟩ := hg j q hq
    exact hD.1 i j p' q' hp' hq' (by rw [e1, e2]; exact e)
  · obtain ⟨q', hq', e2⟩ := hg k q hk
    rw [← e2]; exact hD.2 k q' hq'
end LCALLS
