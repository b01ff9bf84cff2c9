/-! THE LAW: rows that it alone needs, one theorem a case of its switch, out of a statement on the pure functions (lawStep). -/
section LAWROWS
variable {X : gX} {Z : gZ} {cc : ByteArray} {nL : Nat} {Ts : List Cond} {own : String} {rm : Room} {A : Nat → Prop} {ck cs : Nat} {ws : va_W} {pc : Nat} {lv : List (Nat × Value)} {rest st : List Value}
theorem l_iand (C : LC X Z cc nL Ts own rm A) {x y : Int32} (hdg : decode cc pc = .ok (.iand, 1)) (kk : GL X Z nL A ck cs ws (pc + 1) lv (.int (x &&& y) :: rest)) : GL X Z nL A ck cs ws pc lv (.int y :: .int x :: rest) := by
  obtain ⟨hx, hb, -⟩ := C
  intro H locs ls hl hP hD hS
  exact lv_iand hx hb hdg (kk H locs ls hl hP hD hS)
theorem l_astore_n (C : LC X Z cc nL Ts own rm A) {k : Fin 4} {x : Nat} (hdg : decode cc pc = .ok (.astore_n k, 1)) (hn : (k : Nat) < nL) (lv' : List (Nat × Value)) (hl' : gSt lv k (.ref x) = lv') (kk : GL X Z nL A ck cs ws (pc + 1) lv' rest) : GL X Z nL A ck cs ws pc lv (.ref x :: rest) := by
  obtain ⟨hx, hb, -⟩ := C
  intro H locs ls hl hP hD hS
  exact lv_astore_n hx hb hdg rfl hl hn hl' (fun ls hl => kk H locs ls hl hP hD hS)
theorem l_sld (C : LC X Z cc nL Ts own rm A) {b L : Nat} {xs : Nat → Int32} (hX : va_X b L xs X.2.2.2.2.1 X.2.2.2.2.1.heap) (hbl : b < X.2.2.2.2.1.heap.size) (hbA : ¬ A b) {i : Int32} (hin : vp_in i L) (hdg : decode cc pc = .ok (.iaload, 1)) (kk : GL X Z nL A ck cs ws (pc + 1) lv (.int (xs i.toNatClampNeg) :: rest)) : GL X Z nL A ck cs ws pc lv (.int i :: .ref b :: rest) := by
  obtain ⟨hx, hb, -⟩ := C
  intro H locs ls hl hP hD hS
  exact va_sld hx hb hX hbl hbA hS hin hdg (kk H locs ls hl hP hD hS)
theorem l_slen (C : LC X Z cc nL Ts own rm A) {b L : Nat} {xs : Nat → Int32} (hX : va_X b L xs X.2.2.2.2.1 X.2.2.2.2.1.heap) (hbl : b < X.2.2.2.2.1.heap.size) (hbA : ¬ A b) (hdg : decode cc pc = .ok (.arraylength, 1)) (kk : GL X Z nL A ck cs ws (pc + 1) lv (.int (nI L) :: rest)) : GL X Z nL A ck cs ws pc lv (.ref b :: rest) := by
  obtain ⟨hx, hb, -⟩ := C
  intro H locs ls hl hP hD hS
  exact va_slen hx hb hX hbl hbA hS hdg (kk H locs ls hl hP hD hS)
theorem l_dcmp (C : LC X Z cc nL Ts own rm A) {x y : UInt64} {op : CmpOp} (hdg : decode cc pc = .ok (.dcmp op, 1)) (kk : GL X Z nL A ck cs ws (pc + 1) lv (.int (Op.cmpValue (FP.dcmp x y) op) :: rest)) : GL X Z nL A ck cs ws pc lv (.double y :: .double x :: rest) := by
  obtain ⟨hx, hb, -⟩ := C
  intro H locs ls hl hP hD hS
  exact lv_dcmp hx hb hdg (kk H locs ls hl hP hD hS)
theorem l_dload (C : LC X Z cc nL Ts own rm A) {k : Nat} {x : UInt64} (hdg : decode cc pc = .ok (.dload k, 2)) (q : Nat) (hq : lv[q]? = some (k, .double x)) (kk : GL X Z nL A ck cs ws (pc + 2) lv (.double x :: rest)) : GL X Z nL A ck cs ws pc lv rest := by
  obtain ⟨hx, hb, -⟩ := C
  intro H locs ls hl hP hD hS
  exact lv_dload hx hb hdg (lv_at hl q hq) (kk H locs ls hl hP hD hS)
theorem l_dstore (C : LC X Z cc nL Ts own rm A) {k : Nat} {x : UInt64} (hdg : decode cc pc = .ok (.dstore k, 2)) (hn : k + 1 < nL) (lv' : List (Nat × Value)) (hl' : (k, Value.double x) :: lv.filter (fun q => !(q.1 == k) && (!(q.1 == k + 1) && !(q.1 + 1 == k && q.2.category == 2))) = lv') (kk : GL X Z nL A ck cs ws (pc + 2) lv' rest) : GL X Z nL A ck cs ws pc lv (.double x :: rest) := by
  obtain ⟨hx, hb, -⟩ := C
  intro H locs ls hl hP hD hS
  exact lv_dstore hx hb hdg hl hn hl' (fun ls hl => kk H locs ls hl hP hD hS)
/-- a call over the last part of the world -/
theorem l_callEi (C : LC X Z cc nL Ts own rm A) {y : MethodName} {Cn : String} {index na maxL : Nat} {bytes : ByteArray} {ty : FieldType} {wsy ws' : List Cond} {rm' : Room} (hg : GoodIn Ts (wsV own index Cn y wsy)) (hw : wsy = Cond.code y bytes maxL (some ty) :: ws') (hd : gOk y Cn na) (hR : rm'.frames + 1 ≤ rm.frames ∧ 8 + (maxL + 11) + rm'.locals ≤ rm.locals) (h0 : rm'.cells = 0 ∧ rm'.slots = 0) (hck : ck ≤ rm.cells) (hcs : cs ≤ rm.slots) {wa : va_W} {m : Nat} {adc : Nat → Nat} {Ec Ec' : Nat → va_E} (b : Nat) (hb : b < m) {ci N : Nat} {T : u_T} {fs : List Value} (hrec : Ec b = .inr (ci, fs)) (hcl : vwCl[ci]? = some (Cn, T, N)) {As : List Value} {r : Int32} (hM : gInj m adc → gI X.2.1 y wsy rm' Z m adc (.ref (adc b) :: As) Ec r Ec') (hn : As.length = na) (hdg : decode cc pc = .ok (.invokevirtual index, 3)) (hst : st = As.reverse ++ .ref (adc b) :: rest) (hcat : (rest.map fun v => v.category).sum ≤ 8) (kk : GL X Z nL A ck cs (wa ++ gW m adc Ec') (pc + 3) lv (.int r :: rest)) : GL X Z nL A ck cs (wa ++ gW m adc Ec) pc lv st := by
  have h := l_callVi (wa := wa) (wb := []) C hg hw hd hR h0 hck hcs b hb hrec hcl hM hn hdg hst hcat (lv := lv) (by rw [List.append_nil]; exact kk)
  rw [List.append_nil] at h
  exact h
variable {p : Program} {l : Launch} {e : Env} {R : Room} {s : State} {m : MethodId} {args : Array Value} {below : List Frame} {meth : Method} {c : Code} {Q : State → Prop} {d0 : Drawn}
/-- a call that may draw, over a part of the world, which stays as it is -/
theorem l_callVd (C : LC (gXD p l e R s m args below meth c Q d0) Z cc nL Ts own rm A) (hd0 : s.drawn.sameBut d0 lw_cs) {y : MethodName} {Cn : String} {index na maxL : Nat} {bytes : ByteArray} {ty : FieldType} {wsy ws' : List Cond} {rm' : Room} (hg : GoodIn Ts (wsV own index Cn y wsy)) (hw : wsy = Cond.code y bytes maxL (some ty) :: ws') (hd : gOk y Cn na) (hR : rm'.frames + 1 ≤ rm.frames ∧ 8 + (maxL + 11) + rm'.locals ≤ rm.locals) (h0 : rm'.cells = 0 ∧ rm'.slots = 0) (hck : ck ≤ rm.cells) (hcs : cs ≤ rm.slots) {wa wb : va_W} {n : Nat} {adc : Nat → Nat} {Ec : Nat → va_E} (b : Nat) (hb : b < n) {ci N : Nat} {T : u_T} {fs : List Value} (hrec : Ec b = .inr (ci, fs)) (hcl : vwCl[ci]? = some (Cn, T, N)) {As : List Value} {v : UInt64} (hM : gInj n adc → gDc l y wsy rm' Z n adc (.ref (adc b) :: As) Ec v) (hn : As.length = na) (hdg : decode cc pc = .ok (.invokevirtual index, 3)) (hst : st = As.reverse ++ .ref (adc b) :: rest) (hcat : (rest.map fun v => v.category).sum ≤ 8) (kk : ∀ (r : UInt64) (d1 : Drawn), alike64 r v = true → s.drawn.sameBut d1 lw_cs → GL (gXD p l e R s m args below meth c Q d1) Z nL A ck cs (wa ++ (gW n adc Ec ++ wb)) (pc + 3) lv (.double r :: rest)) : GL (gXD p l e R s m args below meth c Q d0) Z nL A ck cs (wa ++ (gW n adc Ec ++ wb)) pc lv st := by
  obtain ⟨hx, hbb, hml, hown, hts, hlo, hK, hA, hRm⟩ := C
  simp only [gXD] at hx hbb hml hown hts hlo hK hA hRm kk ⊢
  intro H locs ls hl hP hD hS
  dsimp only at hS ⊢
  subst hRm
  have hPc := (l_P_app (l_P_app hP).2).1
  have hDc := (l_D_app (l_D_app hD).2.1).1
  have hfr : ∀ x, gA n adc x → A x := by
    rintro x ⟨i, hi, rfl⟩
    exact hDc.2 i _ (gW_get hi)
  refine va_calldD hd0 (va_runV_D (As := As) (rest := rest) ⟨hx, hbb, hml, hown, hts⟩ (hM (gInj_of hDc)) (cwV na hts hg hw h0.1 h0.2 hd hR) ⟨gB_blind, va_recv hK hPc hcl ((gW_get hb).trans (by rw [hrec])), fun U hU hW => ⟨rfl, by rw [hU]; exact hPc, va_K.moved hW.alike hK⟩⟩ rfl hn hl.1 hst (lv_room hcat) hdg ⟨hck, hcs⟩) hS (fun x _ h => hfr x h) hfr (fun r' u t H1 locs1 ht hvm hq hB hz1 hk1 hS1 d1 hd1 => ?_)
  have hP1 := hB.1
  rw [ht] at hP1
  have hj := l_join hA hS.1 hP hD hP1 (gD_of hDc) (fun x hx1 hx2 => hk1 x hx1 (fun h => hx2 (gA_va h)))
  exact kk r' d1 hq hd1 H1 locs1 ls hl hj.1 hj.2 hS1
end LAWROWS
theorem nan_decode {n : Nat} (h : 9218868437227405312 < n % 2 ^ 63) : Jvm.FP.Core.decode Jvm.FP.Core.b64 n = .nan := by
  have e1 : Jvm.FP.Core.fieldE Jvm.FP.Core.b64 n = Jvm.FP.Core.b64.exps - 1 := by
    show n / 2 ^ 52 % 2 ^ 11 = 2 ^ 11 - 1
    omega
  have e2 : ¬ Jvm.FP.Core.fieldT Jvm.FP.Core.b64 n = 0 := by
    show ¬ n % 2 ^ 52 = 0
    omega
  unfold Jvm.FP.Core.decode
  rw [if_pos e1, if_neg e2]
theorem nan_cmp {x : UInt64} (h : isNaN64 x = true) (y : UInt64) : FP.dcmp x y = none := by
  have h2 : (0x7ff0000000000000 : UInt64) < x &&& 0x7fffffffffffffff := by simpa [isNaN64] using h
  have h3 := UInt64.lt_iff_toNat_lt.mp h2
  rw [UInt64.toNat_and] at h3
  have h4 : (0x7fffffffffffffff : UInt64).toNat = 2 ^ 63 - 1 := by decide
  rw [h4, Nat.and_two_pow_sub_one_eq_mod] at h3
  have h5 : (0x7ff0000000000000 : UInt64).toNat = 9218868437227405312 := by decide
  rw [h5] at h3
  show Jvm.FP.Core.order (Jvm.FP.Core.decode Jvm.FP.Core.b64 x.toNat) _ = none
  rw [nan_decode h3]
  rfl
/-- two answers alike to one number: equal, or both no numbers -/
theorem alike_two {a b v : UInt64} (ha : alike64 a v = true) (hb : alike64 b v = true) : a = b ∨ (isNaN64 a = true ∧ isNaN64 b = true) := by
  simp only [alike64, Bool.or_eq_true, decide_eq_true_iff, Bool.and_eq_true] at ha hb
  rcases ha with rfl | ⟨ha, hv⟩
  · rcases hb with rfl | ⟨hb, hv⟩
    · exact Or.inl rfl
    · exact Or.inr ⟨hv, hb⟩
  · rcases hb with rfl | ⟨hb, -⟩
    · exact Or.inr ⟨ha, hv⟩
    · exact Or.inr ⟨ha, hb⟩

/-- a relation between what the class holds and what the reference holds -/
abbrev lawR : Type := (Nat → Nat → Nat → Int32) → Int32 → Int32 → Int32 → (Nat → Int32) → Int32 → (Nat → Int32) → (Nat → Int32) → (Nat → Int32) → (Nat → Int32) → Prop
def st_create (R : lawR) : Prop := ∀ (D : Nat → Nat → Nat → Int32) (sav : Int32) (old : Int32) (hsz : Int32) (cs : Nat → Int32) (len : Int32) (g : Nat → Int32) (s t g6 : Nat → Int32), R D sav old hsz cs len g s t g6 → ∃ (r : Int32) (D' : Nat → Nat → Nat → Int32) (old' : Int32) (hsz' : Int32) (s' : Nat → Int32) (g6' : Nat → Int32), f_X5_create D sav old hsz cs len g  = some (r, D', old', hsz') ∧ f_X6_create s t g6  = some (r, s', g6') ∧ R D' sav old' hsz' cs len g s' t g6'
def st_open (R : lawR) : Prop := ∀ (D : Nat → Nat → Nat → Int32) (sav : Int32) (old : Int32) (hsz : Int32) (cs : Nat → Int32) (len : Int32) (g : Nat → Int32) (s t g6 : Nat → Int32), R D sav old hsz cs len g s t g6 → ∀ v1 : Int32, ∃ (r : Int32) (D' : Nat → Nat → Nat → Int32) (old' : Int32) (hsz' : Int32) (s' : Nat → Int32) (g6' : Nat → Int32), f_X5_open D sav old hsz cs len g v1 = some (r, D', old', hsz') ∧ f_X6_open s t g6 v1 = some (r, s', g6') ∧ R D' sav old' hsz' cs len g s' t g6'
def st_close (R : lawR) : Prop := ∀ (D : Nat → Nat → Nat → Int32) (sav : Int32) (old : Int32) (hsz : Int32) (cs : Nat → Int32) (len : Int32) (g : Nat → Int32) (s t g6 : Nat → Int32), R D sav old hsz cs len g s t g6 → ∀ v1 : Int32, ∃ (r : Int32) (D' : Nat → Nat → Nat → Int32) (old' : Int32) (hsz' : Int32) (s' : Nat → Int32) (g6' : Nat → Int32), f_X5_close D sav old hsz cs len g v1 = some (r, D', old', hsz') ∧ f_X6_close s t g6 v1 = some (r, s', g6') ∧ R D' sav old' hsz' cs len g s' t g6'
def st_remove (R : lawR) : Prop := ∀ (D : Nat → Nat → Nat → Int32) (sav : Int32) (old : Int32) (hsz : Int32) (cs : Nat → Int32) (len : Int32) (g : Nat → Int32) (s t g6 : Nat → Int32), R D sav old hsz cs len g s t g6 → ∀ v1 : Int32, ∃ (r : Int32) (D' : Nat → Nat → Nat → Int32) (old' : Int32) (hsz' : Int32) (s' : Nat → Int32) (g6' : Nat → Int32), f_X5_remove D sav old hsz cs len g v1 = some (r, D', old', hsz') ∧ f_X6_remove s t g6 v1 = some (r, s', g6') ∧ R D' sav old' hsz' cs len g s' t g6'
def st_sync (R : lawR) : Prop := ∀ (D : Nat → Nat → Nat → Int32) (sav : Int32) (old : Int32) (hsz : Int32) (cs : Nat → Int32) (len : Int32) (g : Nat → Int32) (s t g6 : Nat → Int32), R D sav old hsz cs len g s t g6 → ∀ v1 : Int32, ∃ (r : Int32) (D' : Nat → Nat → Nat → Int32) (old' : Int32) (hsz' : Int32) (s' : Nat → Int32) (g6' : Nat → Int32), f_X5_sync D sav old hsz cs len g v1 = some (r, D', old', hsz') ∧ f_X6_sync s t g6 v1 = some (r, s', g6') ∧ R D' sav old' hsz' cs len g s' t g6'
def st_append (R : lawR) : Prop := ∀ (D : Nat → Nat → Nat → Int32) (sav : Int32) (old : Int32) (hsz : Int32) (cs : Nat → Int32) (len : Int32) (g : Nat → Int32) (s t g6 : Nat → Int32), R D sav old hsz cs len g s t g6 → ∀ v1 v2 v3 : Int32, ∃ (r : Int32) (D' : Nat → Nat → Nat → Int32) (old' : Int32) (hsz' : Int32) (s' : Nat → Int32) (g6' : Nat → Int32), f_X5_append D sav old hsz cs len g v1 v2 v3 = some (r, D', old', hsz') ∧ f_X6_append s t g6 v1 v2 v3 = some (r, s', g6') ∧ R D' sav old' hsz' cs len g s' t g6'
def st_cut (R : lawR) : Prop := ∀ (D : Nat → Nat → Nat → Int32) (sav : Int32) (old : Int32) (hsz : Int32) (cs : Nat → Int32) (len : Int32) (g : Nat → Int32) (s t g6 : Nat → Int32), R D sav old hsz cs len g s t g6 → ∀ v1 v2 : Int32, ∃ (r : Int32) (D' : Nat → Nat → Nat → Int32) (old' : Int32) (hsz' : Int32) (s' : Nat → Int32) (g6' : Nat → Int32), f_X5_cut D sav old hsz cs len g v1 v2 = some (r, D', old', hsz') ∧ f_X6_cut s t g6 v1 v2 = some (r, s', g6') ∧ R D' sav old' hsz' cs len g s' t g6'
def st_crash (R : lawR) : Prop := ∀ (D : Nat → Nat → Nat → Int32) (sav : Int32) (old : Int32) (hsz : Int32) (cs : Nat → Int32) (len : Int32) (g : Nat → Int32) (s t g6 : Nat → Int32), R D sav old hsz cs len g s t g6 → ∃ (r : Int32) (D' : Nat → Nat → Nat → Int32) (old' : Int32) (hsz' : Int32) (s' : Nat → Int32) (g6' : Nat → Int32), f_X5_crash D sav old hsz cs len g  = some (r, D', old', hsz') ∧ f_X6_crash s t g6  = some (r, s', g6') ∧ R D' sav old' hsz' cs len g s' t g6'
def st_mend (R : lawR) : Prop := ∀ (D : Nat → Nat → Nat → Int32) (sav : Int32) (old : Int32) (hsz : Int32) (cs : Nat → Int32) (len : Int32) (g : Nat → Int32) (s t g6 : Nat → Int32), R D sav old hsz cs len g s t g6 → ∃ (r : Int32) (D' : Nat → Nat → Nat → Int32) (old' : Int32) (hsz' : Int32) (s' : Nat → Int32) (g6' : Nat → Int32), f_X5_mend D sav old hsz cs len g  = some (r, D', old', hsz') ∧ f_X6_mend s t g6  = some (r, s', g6') ∧ R D' sav old' hsz' cs len g s' t g6'
def st_set (R : lawR) : Prop := ∀ (D : Nat → Nat → Nat → Int32) (sav : Int32) (old : Int32) (hsz : Int32) (cs : Nat → Int32) (len : Int32) (g : Nat → Int32) (s t g6 : Nat → Int32), R D sav old hsz cs len g s t g6 → ∀ v1 v2 : Int32, ∃ (r : Int32) (D' : Nat → Nat → Nat → Int32) (old' : Int32) (hsz' : Int32) (s' : Nat → Int32) (g6' : Nat → Int32), f_X5_set D sav old hsz cs len g v1 v2 = some (r, D', old', hsz') ∧ f_X6_set s t g6 v1 v2 = some (r, s', g6') ∧ R D' sav old' hsz' cs len g s' t g6'
def st_type (R : lawR) : Prop := ∀ (D : Nat → Nat → Nat → Int32) (sav : Int32) (old : Int32) (hsz : Int32) (cs : Nat → Int32) (len : Int32) (g : Nat → Int32) (s t g6 : Nat → Int32), R D sav old hsz cs len g s t g6 → ∀ v1 : Int32, ∃ (r : Int32) (cs' : Nat → Int32) (len' : Int32) (t' : Nat → Int32) (g6' : Nat → Int32), f_X5_type D sav old hsz cs len g v1 = some (r, cs', len') ∧ f_X6_type s t g6 v1 = some (r, t', g6') ∧ R D sav old hsz cs' len' g s t' g6'
def st_clearText (R : lawR) : Prop := ∀ (D : Nat → Nat → Nat → Int32) (sav : Int32) (old : Int32) (hsz : Int32) (cs : Nat → Int32) (len : Int32) (g : Nat → Int32) (s t g6 : Nat → Int32), R D sav old hsz cs len g s t g6 → ∃ (r : Int32) (len' : Int32) (g6' : Nat → Int32), f_X5_clearText D sav old hsz cs len g  = some (r, len') ∧ f_X6_clearText s t g6  = some (r, g6') ∧ R D sav old hsz cs len' g s t g6'
def st_fault (R : lawR) : Prop := ∀ (D : Nat → Nat → Nat → Int32) (sav : Int32) (old : Int32) (hsz : Int32) (cs : Nat → Int32) (len : Int32) (g : Nat → Int32) (s t g6 : Nat → Int32), R D sav old hsz cs len g s t g6 → ∃ (r : Int32) (g' : Nat → Int32) (g6' : Nat → Int32), f_X5_fault D sav old hsz cs len g  = some (r, g') ∧ f_X6_fault s t g6  = some (r, g6') ∧ R D sav old hsz cs len g' s t g6'
def st_perform (R : lawR) : Prop := ∀ (D : Nat → Nat → Nat → Int32) (sav : Int32) (old : Int32) (hsz : Int32) (cs : Nat → Int32) (len : Int32) (g : Nat → Int32) (s t g6 : Nat → Int32), R D sav old hsz cs len g s t g6 → ∃ (r : Int32) (D' : Nat → Nat → Nat → Int32) (old' : Int32) (hsz' : Int32) (g' : Nat → Int32) (s' : Nat → Int32) (g6' : Nat → Int32), f_X5_perform D sav old hsz cs len g  = some (r, D', old', hsz', g') ∧ f_X6_perform s t g6  = some (r, s', g6') ∧ R D' sav old' hsz' cs len g' s' t g6'
def st_undo (R : lawR) : Prop := ∀ (D : Nat → Nat → Nat → Int32) (sav : Int32) (old : Int32) (hsz : Int32) (cs : Nat → Int32) (len : Int32) (g : Nat → Int32) (s t g6 : Nat → Int32), R D sav old hsz cs len g s t g6 → ∃ (r : Int32) (D' : Nat → Nat → Nat → Int32) (hsz' : Int32) (s' : Nat → Int32) (g6' : Nat → Int32), f_X5_undo D sav old hsz cs len g  = some (r, D', hsz') ∧ f_X6_undo s t g6  = some (r, s', g6') ∧ R D' sav old hsz' cs len g s' t g6'
def st_save (R : lawR) : Prop := ∀ (D : Nat → Nat → Nat → Int32) (sav : Int32) (old : Int32) (hsz : Int32) (cs : Nat → Int32) (len : Int32) (g : Nat → Int32) (s t g6 : Nat → Int32), R D sav old hsz cs len g s t g6 → ∃ (r : Int32) (D' : Nat → Nat → Nat → Int32) (sav' : Int32) (s' : Nat → Int32) (g6' : Nat → Int32), f_X5_save D sav old hsz cs len g  = some (r, D', sav') ∧ f_X6_save s t g6  = some (r, s', g6') ∧ R D' sav' old hsz cs len g s' t g6'
def st_restore (R : lawR) : Prop := ∀ (D : Nat → Nat → Nat → Int32) (sav : Int32) (old : Int32) (hsz : Int32) (cs : Nat → Int32) (len : Int32) (g : Nat → Int32) (s t g6 : Nat → Int32), R D sav old hsz cs len g s t g6 → ∃ (r : Int32) (D' : Nat → Nat → Nat → Int32) (old' : Int32) (hsz' : Int32) (s' : Nat → Int32) (g6' : Nat → Int32), f_X5_restore D sav old hsz cs len g  = some (r, D', old', hsz') ∧ f_X6_restore s t g6  = some (r, s', g6') ∧ R D' sav old' hsz' cs len g s' t g6'
def st_block (R : lawR) : Prop := ∀ (D : Nat → Nat → Nat → Int32) (sav : Int32) (old : Int32) (hsz : Int32) (cs : Nat → Int32) (len : Int32) (g : Nat → Int32) (s t g6 : Nat → Int32), R D sav old hsz cs len g s t g6 → ∀ v1 v2 : Int32, ∃ (r : Int32), f_X5_block D sav old hsz cs len g v1 v2 = some r ∧ f_X6_block s t g6 v1 v2 = some r ∧ R D sav old hsz cs len g s t g6
def st_file (R : lawR) : Prop := ∀ (D : Nat → Nat → Nat → Int32) (sav : Int32) (old : Int32) (hsz : Int32) (cs : Nat → Int32) (len : Int32) (g : Nat → Int32) (s t g6 : Nat → Int32), R D sav old hsz cs len g s t g6 → ∀ v1 v2 : Int32, ∃ (r : Int32), f_X5_file D sav old hsz cs len g v1 v2 = some r ∧ f_X6_file s t g6 v1 v2 = some r ∧ R D sav old hsz cs len g s t g6
def st_extent (R : lawR) : Prop := ∀ (D : Nat → Nat → Nat → Int32) (sav : Int32) (old : Int32) (hsz : Int32) (cs : Nat → Int32) (len : Int32) (g : Nat → Int32) (s t g6 : Nat → Int32), R D sav old hsz cs len g s t g6 → ∀ v1 v2 v3 : Int32, ∃ (r : Int32), f_X5_extent D sav old hsz cs len g v1 v2 v3 = some r ∧ f_X6_extent s t g6 v1 v2 v3 = some r ∧ R D sav old hsz cs len g s t g6
def st_run (R : lawR) : Prop := ∀ (D : Nat → Nat → Nat → Int32) (sav : Int32) (old : Int32) (hsz : Int32) (cs : Nat → Int32) (len : Int32) (g : Nat → Int32) (s t g6 : Nat → Int32), R D sav old hsz cs len g s t g6 → ∀ v1 v2 : Int32, ∃ (r : Int32), f_X5_run D sav old hsz cs len g v1 v2 = some r ∧ f_X6_run s t g6 v1 v2 = some r ∧ R D sav old hsz cs len g s t g6
def st_read (R : lawR) : Prop := ∀ (D : Nat → Nat → Nat → Int32) (sav : Int32) (old : Int32) (hsz : Int32) (cs : Nat → Int32) (len : Int32) (g : Nat → Int32) (s t g6 : Nat → Int32), R D sav old hsz cs len g s t g6 → ∀ v1 v2 v3 v4 : Int32, ∃ (r : Int32), f_X5_read D sav old hsz cs len g v1 v2 v3 v4 = some r ∧ f_X6_read s t g6 v1 v2 v3 v4 = some r ∧ R D sav old hsz cs len g s t g6
def st_count (R : lawR) : Prop := ∀ (D : Nat → Nat → Nat → Int32) (sav : Int32) (old : Int32) (hsz : Int32) (cs : Nat → Int32) (len : Int32) (g : Nat → Int32) (s t g6 : Nat → Int32), R D sav old hsz cs len g s t g6 → ∀ v1 : Int32, ∃ (r : Int32), f_X5_count D sav old hsz cs len g v1 = some r ∧ f_X6_count s t g6 v1 = some r ∧ R D sav old hsz cs len g s t g6
def st_total (R : lawR) : Prop := ∀ (D : Nat → Nat → Nat → Int32) (sav : Int32) (old : Int32) (hsz : Int32) (cs : Nat → Int32) (len : Int32) (g : Nat → Int32) (s t g6 : Nat → Int32), R D sav old hsz cs len g s t g6 → ∀ v1 : Int32, ∃ (r : Int32), f_X5_total D sav old hsz cs len g v1 = some r ∧ f_X6_total s t g6 v1 = some r ∧ R D sav old hsz cs len g s t g6
def st_ifAppended (R : lawR) : Prop := ∀ (D : Nat → Nat → Nat → Int32) (sav : Int32) (old : Int32) (hsz : Int32) (cs : Nat → Int32) (len : Int32) (g : Nat → Int32) (s t g6 : Nat → Int32), R D sav old hsz cs len g s t g6 → ∀ v1 v2 v3 : Int32, ∃ (r : Int32) (D' : Nat → Nat → Nat → Int32) (s' : Nat → Int32), f_X5_ifAppended D sav old hsz cs len g v1 v2 v3 = some (r, D') ∧ f_X6_ifAppended s t g6 v1 v2 v3 = some (r, s') ∧ R D' sav old hsz cs len g s' t g6
def st_room (R : lawR) : Prop := ∀ (D : Nat → Nat → Nat → Int32) (sav : Int32) (old : Int32) (hsz : Int32) (cs : Nat → Int32) (len : Int32) (g : Nat → Int32) (s t g6 : Nat → Int32), R D sav old hsz cs len g s t g6 → ∀ v1 : Int32, ∃ (r : Int32), f_X5_room D sav old hsz cs len g v1 = some r ∧ f_X6_room s t g6 v1 = some r ∧ R D sav old hsz cs len g s t g6
def st_wholeness (R : lawR) : Prop := ∀ (D : Nat → Nat → Nat → Int32) (sav : Int32) (old : Int32) (hsz : Int32) (cs : Nat → Int32) (len : Int32) (g : Nat → Int32) (s t g6 : Nat → Int32), R D sav old hsz cs len g s t g6 → ∃ ex fi n ae : Int32, f_X0_allExtents (D 0) = some ex ∧ f_X0_filesWithBlocks (D 0) = some fi ∧ f_X6_wn s t g6 = some n ∧ f_X6_allExtents s t g6 = some ae ∧ wholeV fi ex = wholeM n ae
def lawStep (R : lawR) : Prop := st_create R ∧ st_open R ∧ st_close R ∧ st_remove R ∧ st_sync R ∧ st_append R ∧ st_cut R ∧ st_crash R ∧ st_mend R ∧ st_set R ∧ st_type R ∧ st_clearText R ∧ st_fault R ∧ st_perform R ∧ st_undo R ∧ st_save R ∧ st_restore R ∧ st_block R ∧ st_file R ∧ st_extent R ∧ st_run R ∧ st_read R ∧ st_count R ∧ st_total R ∧ st_ifAppended R ∧ st_room R ∧ st_wholeness R
set_option maxHeartbeats 8000000 in
set_option maxRecDepth 100000 in
theorem lc_create {p : Program} {l : Launch} {e : Env} {s : State} {m : MethodId} {below : List Frame} {meth : Method} {c : Code} {Z : gZ} {b L : Nat} {xs : Nat → Int32} {adx adm : Nat → Nat} {i : Nat} {D : Nat → Nat → Nat → Int32} {sav : Int32} {old : Int32} {hsz : Int32} {cs : Nat → Int32} {len : Int32} {g : Nat → Int32} {s6 t6 g6 : Nat → Int32} {r : Int32} {D' : Nat → Nat → Nat → Int32} {old' : Int32} {hsz' : Int32} {s6' : Nat → Int32} {g6' : Nat → Int32} (C : ∀ d, LC (gXD p l e room_1 s m #[Value.ref b] below meth c (lw_Z below #[Value.ref b] s) d) Z cL_law 8 wsL_law RL room_1 (fun q => s.heap.size ≤ q)) (hX : va_X b L xs s s.heap) (hbl : b < s.heap.size) (hi : i + 5 ≤ L) (hL : L ≤ 2560) (h5 : f_X5_create D sav old hsz cs len g = some (r, D', old', hsz')) (h6 : f_X6_create s6 t6 g6 = some (r, s6', g6')) {d0 : Drawn} (kk : GL (gXD p l e room_1 s m #[Value.ref b] below meth c (lw_Z below #[Value.ref b] s) d0) Z 8 (fun q => s.heap.size ≤ q) 178 4225 (gW 175 adx (xE Z.2.1 Z.2.2 adx D' sav old' hsz' cs len g) ++ gW 3 adm (mdlE Z.2.1 adm s6' t6 g6')) 845 [(0, .ref b), (1, .ref (adx 168)), (2, .ref (adm 0)), (3, .int (nI i))] []) : GL (gXD p l e room_1 s m #[Value.ref b] below meth c (lw_Z below #[Value.ref b] s) d0) Z 8 (fun q => s.heap.size ≤ q) 178 4225 (gW 175 adx (xE Z.2.1 Z.2.2 adx D sav old hsz cs len g) ++ gW 3 adm (mdlE Z.2.1 adm s6 t6 g6)) 156 [(0, .ref b), (1, .ref (adx 168)), (2, .ref (adm 0)), (3, .int (nI i))] [] := by
  refine l_aload_n (C d0) dL_law_156 1 rfl ?_
  refine l_callVi (rest := []) (wa := []) (wb := gW 3 adm (mdlE Z.2.1 adm s6 t6 g6)) (m := 175) (adc := adx) (Ec := xE Z.2.1 Z.2.2 adx D sav old hsz cs len g) (Ec' := xE Z.2.1 Z.2.2 adx D' sav old' hsz' cs len g) (C d0) gL_law_X5_create rfl ok_X5_create ⟨by decide, by decide⟩ ⟨rfl, rfl⟩ (by decide) (by decide) 168 (by decide) rfl rfl (fun hI => cn_X5_create _ Z adx hI D sav old hsz cs len g h5) rfl dL_law_157 rfl (Nat.le_of_ble_eq_true rfl) ?_
  show GL _ Z 8 _ 178 4225 (gW 175 adx (xE Z.2.1 Z.2.2 adx D' sav old' hsz' cs len g) ++ gW 3 adm (mdlE Z.2.1 adm s6 t6 g6)) _ _ _
  refine l_aload_n (C d0) dL_law_160 2 rfl ?_
  refine l_callEi (rest := [.int r]) (wa := gW 175 adx (xE Z.2.1 Z.2.2 adx D' sav old' hsz' cs len g)) (m := 3) (adc := adm) (Ec := mdlE Z.2.1 adm s6 t6 g6) (Ec' := mdlE Z.2.1 adm s6' t6 g6') (C d0) gL_law_X6_create rfl ok_X6_create ⟨by decide, by decide⟩ ⟨rfl, rfl⟩ (by decide) (by decide) 0 (by decide) rfl rfl (fun hI => cn_X6_create _ Z adm hI s6 t6 g6 h6) rfl dL_law_161 rfl (Nat.le_of_ble_eq_true rfl) ?_
  exact l_icmp_eq (tgt := 845) (C d0) dL_law_164 (by decide) (fun _ => kk) (fun hc => absurd rfl hc)
set_option maxHeartbeats 8000000 in
set_option maxRecDepth 100000 in
theorem lc_open {p : Program} {l : Launch} {e : Env} {s : State} {m : MethodId} {below : List Frame} {meth : Method} {c : Code} {Z : gZ} {b L : Nat} {xs : Nat → Int32} {adx adm : Nat → Nat} {i : Nat} {D : Nat → Nat → Nat → Int32} {sav : Int32} {old : Int32} {hsz : Int32} {cs : Nat → Int32} {len : Int32} {g : Nat → Int32} {s6 t6 g6 : Nat → Int32} {r : Int32} {D' : Nat → Nat → Nat → Int32} {old' : Int32} {hsz' : Int32} {s6' : Nat → Int32} {g6' : Nat → Int32} (C : ∀ d, LC (gXD p l e room_1 s m #[Value.ref b] below meth c (lw_Z below #[Value.ref b] s) d) Z cL_law 8 wsL_law RL room_1 (fun q => s.heap.size ≤ q)) (hX : va_X b L xs s s.heap) (hbl : b < s.heap.size) (hi : i + 5 ≤ L) (hL : L ≤ 2560) (h5 : f_X5_open D sav old hsz cs len g (xs (i + 1)) = some (r, D', old', hsz')) (h6 : f_X6_open s6 t6 g6 (xs (i + 1)) = some (r, s6', g6')) {d0 : Drawn} (kk : GL (gXD p l e room_1 s m #[Value.ref b] below meth c (lw_Z below #[Value.ref b] s) d0) Z 8 (fun q => s.heap.size ≤ q) 178 4225 (gW 175 adx (xE Z.2.1 Z.2.2 adx D' sav old' hsz' cs len g) ++ gW 3 adm (mdlE Z.2.1 adm s6' t6 g6')) 845 [(0, .ref b), (1, .ref (adx 168)), (2, .ref (adm 0)), (3, .int (nI i))] []) : GL (gXD p l e room_1 s m #[Value.ref b] below meth c (lw_Z below #[Value.ref b] s) d0) Z 8 (fun q => s.heap.size ≤ q) 178 4225 (gW 175 adx (xE Z.2.1 Z.2.2 adx D sav old hsz cs len g) ++ gW 3 adm (mdlE Z.2.1 adm s6 t6 g6)) 169 [(0, .ref b), (1, .ref (adx 168)), (2, .ref (adm 0)), (3, .int (nI i))] [] := by
  refine l_aload_n (C d0) dL_law_169 1 rfl ?_
  refine l_aload_n (C d0) dL_law_170 0 rfl ?_
  refine l_iload_n (C d0) dL_law_171 3 rfl ?_
  refine l_iconst (v := nI 1) (C d0) dL_law_172 (by decide) ?_
  refine l_iadd (C d0) dL_law_173 ?_
  rw [nI_add]
  refine l_sld (C d0) hX hbl (fun h => absurd hbl (Nat.not_lt.mpr h)) (nI_in (c := i + 1) (by omega) (by omega)) dL_law_174 ?_
  rw [nI_clamp (by omega)]
  refine l_callVi (rest := []) (wa := []) (wb := gW 3 adm (mdlE Z.2.1 adm s6 t6 g6)) (m := 175) (adc := adx) (Ec := xE Z.2.1 Z.2.2 adx D sav old hsz cs len g) (Ec' := xE Z.2.1 Z.2.2 adx D' sav old' hsz' cs len g) (C d0) gL_law_X5_open rfl ok_X5_open ⟨by decide, by decide⟩ ⟨rfl, rfl⟩ (by decide) (by decide) 168 (by decide) rfl rfl (fun hI => cn_X5_open _ Z adx hI D sav old hsz cs len g (xs (i + 1)) h5) rfl dL_law_175 rfl (Nat.le_of_ble_eq_true rfl) ?_
  show GL _ Z 8 _ 178 4225 (gW 175 adx (xE Z.2.1 Z.2.2 adx D' sav old' hsz' cs len g) ++ gW 3 adm (mdlE Z.2.1 adm s6 t6 g6)) _ _ _
  refine l_aload_n (C d0) dL_law_178 2 rfl ?_
  refine l_aload_n (C d0) dL_law_179 0 rfl ?_
  refine l_iload_n (C d0) dL_law_180 3 rfl ?_
  refine l_iconst (v := nI 1) (C d0) dL_law_181 (by decide) ?_
  refine l_iadd (C d0) dL_law_182 ?_
  rw [nI_add]
  refine l_sld (C d0) hX hbl (fun h => absurd hbl (Nat.not_lt.mpr h)) (nI_in (c := i + 1) (by omega) (by omega)) dL_law_183 ?_
  rw [nI_clamp (by omega)]
  refine l_callEi (rest := [.int r]) (wa := gW 175 adx (xE Z.2.1 Z.2.2 adx D' sav old' hsz' cs len g)) (m := 3) (adc := adm) (Ec := mdlE Z.2.1 adm s6 t6 g6) (Ec' := mdlE Z.2.1 adm s6' t6 g6') (C d0) gL_law_X6_open rfl ok_X6_open ⟨by decide, by decide⟩ ⟨rfl, rfl⟩ (by decide) (by decide) 0 (by decide) rfl rfl (fun hI => cn_X6_open _ Z adm hI s6 t6 g6 (xs (i + 1)) h6) rfl dL_law_184 rfl (Nat.le_of_ble_eq_true rfl) ?_
  exact l_icmp_eq (tgt := 845) (C d0) dL_law_187 (by decide) (fun _ => kk) (fun hc => absurd rfl hc)
set_option maxHeartbeats 8000000 in
set_option maxRecDepth 100000 in
theorem lc_close {p : Program} {l : Launch} {e : Env} {s : State} {m : MethodId} {below : List Frame} {meth : Method} {c : Code} {Z : gZ} {b L : Nat} {xs : Nat → Int32} {adx adm : Nat → Nat} {i : Nat} {D : Nat → Nat → Nat → Int32} {sav : Int32} {old : Int32} {hsz : Int32} {cs : Nat → Int32} {len : Int32} {g : Nat → Int32} {s6 t6 g6 : Nat → Int32} {r : Int32} {D' : Nat → Nat → Nat → Int32} {old' : Int32} {hsz' : Int32} {s6' : Nat → Int32} {g6' : Nat → Int32} (C : ∀ d, LC (gXD p l e room_1 s m #[Value.ref b] below meth c (lw_Z below #[Value.ref b] s) d) Z cL_law 8 wsL_law RL room_1 (fun q => s.heap.size ≤ q)) (hX : va_X b L xs s s.heap) (hbl : b < s.heap.size) (hi : i + 5 ≤ L) (hL : L ≤ 2560) (h5 : f_X5_close D sav old hsz cs len g (xs (i + 1)) = some (r, D', old', hsz')) (h6 : f_X6_close s6 t6 g6 (xs (i + 1)) = some (r, s6', g6')) {d0 : Drawn} (kk : GL (gXD p l e room_1 s m #[Value.ref b] below meth c (lw_Z below #[Value.ref b] s) d0) Z 8 (fun q => s.heap.size ≤ q) 178 4225 (gW 175 adx (xE Z.2.1 Z.2.2 adx D' sav old' hsz' cs len g) ++ gW 3 adm (mdlE Z.2.1 adm s6' t6 g6')) 845 [(0, .ref b), (1, .ref (adx 168)), (2, .ref (adm 0)), (3, .int (nI i))] []) : GL (gXD p l e room_1 s m #[Value.ref b] below meth c (lw_Z below #[Value.ref b] s) d0) Z 8 (fun q => s.heap.size ≤ q) 178 4225 (gW 175 adx (xE Z.2.1 Z.2.2 adx D sav old hsz cs len g) ++ gW 3 adm (mdlE Z.2.1 adm s6 t6 g6)) 192 [(0, .ref b), (1, .ref (adx 168)), (2, .ref (adm 0)), (3, .int (nI i))] [] := by
  refine l_aload_n (C d0) dL_law_192 1 rfl ?_
  refine l_aload_n (C d0) dL_law_193 0 rfl ?_
  refine l_iload_n (C d0) dL_law_194 3 rfl ?_
  refine l_iconst (v := nI 1) (C d0) dL_law_195 (by decide) ?_
  refine l_iadd (C d0) dL_law_196 ?_
  rw [nI_add]
  refine l_sld (C d0) hX hbl (fun h => absurd hbl (Nat.not_lt.mpr h)) (nI_in (c := i + 1) (by omega) (by omega)) dL_law_197 ?_
  rw [nI_clamp (by omega)]
  refine l_callVi (rest := []) (wa := []) (wb := gW 3 adm (mdlE Z.2.1 adm s6 t6 g6)) (m := 175) (adc := adx) (Ec := xE Z.2.1 Z.2.2 adx D sav old hsz cs len g) (Ec' := xE Z.2.1 Z.2.2 adx D' sav old' hsz' cs len g) (C d0) gL_law_X5_close rfl ok_X5_close ⟨by decide, by decide⟩ ⟨rfl, rfl⟩ (by decide) (by decide) 168 (by decide) rfl rfl (fun hI => cn_X5_close _ Z adx hI D sav old hsz cs len g (xs (i + 1)) h5) rfl dL_law_198 rfl (Nat.le_of_ble_eq_true rfl) ?_
  show GL _ Z 8 _ 178 4225 (gW 175 adx (xE Z.2.1 Z.2.2 adx D' sav old' hsz' cs len g) ++ gW 3 adm (mdlE Z.2.1 adm s6 t6 g6)) _ _ _
  refine l_aload_n (C d0) dL_law_201 2 rfl ?_
  refine l_aload_n (C d0) dL_law_202 0 rfl ?_
  refine l_iload_n (C d0) dL_law_203 3 rfl ?_
  refine l_iconst (v := nI 1) (C d0) dL_law_204 (by decide) ?_
  refine l_iadd (C d0) dL_law_205 ?_
  rw [nI_add]
  refine l_sld (C d0) hX hbl (fun h => absurd hbl (Nat.not_lt.mpr h)) (nI_in (c := i + 1) (by omega) (by omega)) dL_law_206 ?_
  rw [nI_clamp (by omega)]
  refine l_callEi (rest := [.int r]) (wa := gW 175 adx (xE Z.2.1 Z.2.2 adx D' sav old' hsz' cs len g)) (m := 3) (adc := adm) (Ec := mdlE Z.2.1 adm s6 t6 g6) (Ec' := mdlE Z.2.1 adm s6' t6 g6') (C d0) gL_law_X6_close rfl ok_X6_close ⟨by decide, by decide⟩ ⟨rfl, rfl⟩ (by decide) (by decide) 0 (by decide) rfl rfl (fun hI => cn_X6_close _ Z adm hI s6 t6 g6 (xs (i + 1)) h6) rfl dL_law_207 rfl (Nat.le_of_ble_eq_true rfl) ?_
  exact l_icmp_eq (tgt := 845) (C d0) dL_law_210 (by decide) (fun _ => kk) (fun hc => absurd rfl hc)
set_option maxHeartbeats 8000000 in
set_option maxRecDepth 100000 in
theorem lc_remove {p : Program} {l : Launch} {e : Env} {s : State} {m : MethodId} {below : List Frame} {meth : Method} {c : Code} {Z : gZ} {b L : Nat} {xs : Nat → Int32} {adx adm : Nat → Nat} {i : Nat} {D : Nat → Nat → Nat → Int32} {sav : Int32} {old : Int32} {hsz : Int32} {cs : Nat → Int32} {len : Int32} {g : Nat → Int32} {s6 t6 g6 : Nat → Int32} {r : Int32} {D' : Nat → Nat → Nat → Int32} {old' : Int32} {hsz' : Int32} {s6' : Nat → Int32} {g6' : Nat → Int32} (C : ∀ d, LC (gXD p l e room_1 s m #[Value.ref b] below meth c (lw_Z below #[Value.ref b] s) d) Z cL_law 8 wsL_law RL room_1 (fun q => s.heap.size ≤ q)) (hX : va_X b L xs s s.heap) (hbl : b < s.heap.size) (hi : i + 5 ≤ L) (hL : L ≤ 2560) (h5 : f_X5_remove D sav old hsz cs len g (xs (i + 1)) = some (r, D', old', hsz')) (h6 : f_X6_remove s6 t6 g6 (xs (i + 1)) = some (r, s6', g6')) {d0 : Drawn} (kk : GL (gXD p l e room_1 s m #[Value.ref b] below meth c (lw_Z below #[Value.ref b] s) d0) Z 8 (fun q => s.heap.size ≤ q) 178 4225 (gW 175 adx (xE Z.2.1 Z.2.2 adx D' sav old' hsz' cs len g) ++ gW 3 adm (mdlE Z.2.1 adm s6' t6 g6')) 845 [(0, .ref b), (1, .ref (adx 168)), (2, .ref (adm 0)), (3, .int (nI i))] []) : GL (gXD p l e room_1 s m #[Value.ref b] below meth c (lw_Z below #[Value.ref b] s) d0) Z 8 (fun q => s.heap.size ≤ q) 178 4225 (gW 175 adx (xE Z.2.1 Z.2.2 adx D sav old hsz cs len g) ++ gW 3 adm (mdlE Z.2.1 adm s6 t6 g6)) 215 [(0, .ref b), (1, .ref (adx 168)), (2, .ref (adm 0)), (3, .int (nI i))] [] := by
  refine l_aload_n (C d0) dL_law_215 1 rfl ?_
  refine l_aload_n (C d0) dL_law_216 0 rfl ?_
  refine l_iload_n (C d0) dL_law_217 3 rfl ?_
  refine l_iconst (v := nI 1) (C d0) dL_law_218 (by decide) ?_
  refine l_iadd (C d0) dL_law_219 ?_
  rw [nI_add]
  refine l_sld (C d0) hX hbl (fun h => absurd hbl (Nat.not_lt.mpr h)) (nI_in (c := i + 1) (by omega) (by omega)) dL_law_220 ?_
  rw [nI_clamp (by omega)]
  refine l_callVi (rest := []) (wa := []) (wb := gW 3 adm (mdlE Z.2.1 adm s6 t6 g6)) (m := 175) (adc := adx) (Ec := xE Z.2.1 Z.2.2 adx D sav old hsz cs len g) (Ec' := xE Z.2.1 Z.2.2 adx D' sav old' hsz' cs len g) (C d0) gL_law_X5_remove rfl ok_X5_remove ⟨by decide, by decide⟩ ⟨rfl, rfl⟩ (by decide) (by decide) 168 (by decide) rfl rfl (fun hI => cn_X5_remove _ Z adx hI D sav old hsz cs len g (xs (i + 1)) h5) rfl dL_law_221 rfl (Nat.le_of_ble_eq_true rfl) ?_
  show GL _ Z 8 _ 178 4225 (gW 175 adx (xE Z.2.1 Z.2.2 adx D' sav old' hsz' cs len g) ++ gW 3 adm (mdlE Z.2.1 adm s6 t6 g6)) _ _ _
  refine l_aload_n (C d0) dL_law_224 2 rfl ?_
  refine l_aload_n (C d0) dL_law_225 0 rfl ?_
  refine l_iload_n (C d0) dL_law_226 3 rfl ?_
  refine l_iconst (v := nI 1) (C d0) dL_law_227 (by decide) ?_
  refine l_iadd (C d0) dL_law_228 ?_
  rw [nI_add]
  refine l_sld (C d0) hX hbl (fun h => absurd hbl (Nat.not_lt.mpr h)) (nI_in (c := i + 1) (by omega) (by omega)) dL_law_229 ?_
  rw [nI_clamp (by omega)]
  refine l_callEi (rest := [.int r]) (wa := gW 175 adx (xE Z.2.1 Z.2.2 adx D' sav old' hsz' cs len g)) (m := 3) (adc := adm) (Ec := mdlE Z.2.1 adm s6 t6 g6) (Ec' := mdlE Z.2.1 adm s6' t6 g6') (C d0) gL_law_X6_remove rfl ok_X6_remove ⟨by decide, by decide⟩ ⟨rfl, rfl⟩ (by decide) (by decide) 0 (by decide) rfl rfl (fun hI => cn_X6_remove _ Z adm hI s6 t6 g6 (xs (i + 1)) h6) rfl dL_law_230 rfl (Nat.le_of_ble_eq_true rfl) ?_
  exact l_icmp_eq (tgt := 845) (C d0) dL_law_233 (by decide) (fun _ => kk) (fun hc => absurd rfl hc)
set_option maxHeartbeats 8000000 in
set_option maxRecDepth 100000 in
theorem lc_sync {p : Program} {l : Launch} {e : Env} {s : State} {m : MethodId} {below : List Frame} {meth : Method} {c : Code} {Z : gZ} {b L : Nat} {xs : Nat → Int32} {adx adm : Nat → Nat} {i : Nat} {D : Nat → Nat → Nat → Int32} {sav : Int32} {old : Int32} {hsz : Int32} {cs : Nat → Int32} {len : Int32} {g : Nat → Int32} {s6 t6 g6 : Nat → Int32} {r : Int32} {D' : Nat → Nat → Nat → Int32} {old' : Int32} {hsz' : Int32} {s6' : Nat → Int32} {g6' : Nat → Int32} (C : ∀ d, LC (gXD p l e room_1 s m #[Value.ref b] below meth c (lw_Z below #[Value.ref b] s) d) Z cL_law 8 wsL_law RL room_1 (fun q => s.heap.size ≤ q)) (hX : va_X b L xs s s.heap) (hbl : b < s.heap.size) (hi : i + 5 ≤ L) (hL : L ≤ 2560) (h5 : f_X5_sync D sav old hsz cs len g (xs (i + 1)) = some (r, D', old', hsz')) (h6 : f_X6_sync s6 t6 g6 (xs (i + 1)) = some (r, s6', g6')) {d0 : Drawn} (kk : GL (gXD p l e room_1 s m #[Value.ref b] below meth c (lw_Z below #[Value.ref b] s) d0) Z 8 (fun q => s.heap.size ≤ q) 178 4225 (gW 175 adx (xE Z.2.1 Z.2.2 adx D' sav old' hsz' cs len g) ++ gW 3 adm (mdlE Z.2.1 adm s6' t6 g6')) 845 [(0, .ref b), (1, .ref (adx 168)), (2, .ref (adm 0)), (3, .int (nI i))] []) : GL (gXD p l e room_1 s m #[Value.ref b] below meth c (lw_Z below #[Value.ref b] s) d0) Z 8 (fun q => s.heap.size ≤ q) 178 4225 (gW 175 adx (xE Z.2.1 Z.2.2 adx D sav old hsz cs len g) ++ gW 3 adm (mdlE Z.2.1 adm s6 t6 g6)) 238 [(0, .ref b), (1, .ref (adx 168)), (2, .ref (adm 0)), (3, .int (nI i))] [] := by
  refine l_aload_n (C d0) dL_law_238 1 rfl ?_
  refine l_aload_n (C d0) dL_law_239 0 rfl ?_
  refine l_iload_n (C d0) dL_law_240 3 rfl ?_
  refine l_iconst (v := nI 1) (C d0) dL_law_241 (by decide) ?_
  refine l_iadd (C d0) dL_law_242 ?_
  rw [nI_add]
  refine l_sld (C d0) hX hbl (fun h => absurd hbl (Nat.not_lt.mpr h)) (nI_in (c := i + 1) (by omega) (by omega)) dL_law_243 ?_
  rw [nI_clamp (by omega)]
  refine l_callVi (rest := []) (wa := []) (wb := gW 3 adm (mdlE Z.2.1 adm s6 t6 g6)) (m := 175) (adc := adx) (Ec := xE Z.2.1 Z.2.2 adx D sav old hsz cs len g) (Ec' := xE Z.2.1 Z.2.2 adx D' sav old' hsz' cs len g) (C d0) gL_law_X5_sync rfl ok_X5_sync ⟨by decide, by decide⟩ ⟨rfl, rfl⟩ (by decide) (by decide) 168 (by decide) rfl rfl (fun hI => cn_X5_sync _ Z adx hI D sav old hsz cs len g (xs (i + 1)) h5) rfl dL_law_244 rfl (Nat.le_of_ble_eq_true rfl) ?_
  show GL _ Z 8 _ 178 4225 (gW 175 adx (xE Z.2.1 Z.2.2 adx D' sav old' hsz' cs len g) ++ gW 3 adm (mdlE Z.2.1 adm s6 t6 g6)) _ _ _
  refine l_aload_n (C d0) dL_law_247 2 rfl ?_
  refine l_aload_n (C d0) dL_law_248 0 rfl ?_
  refine l_iload_n (C d0) dL_law_249 3 rfl ?_
  refine l_iconst (v := nI 1) (C d0) dL_law_250 (by decide) ?_
  refine l_iadd (C d0) dL_law_251 ?_
  rw [nI_add]
  refine l_sld (C d0) hX hbl (fun h => absurd hbl (Nat.not_lt.mpr h)) (nI_in (c := i + 1) (by omega) (by omega)) dL_law_252 ?_
  rw [nI_clamp (by omega)]
  refine l_callEi (rest := [.int r]) (wa := gW 175 adx (xE Z.2.1 Z.2.2 adx D' sav old' hsz' cs len g)) (m := 3) (adc := adm) (Ec := mdlE Z.2.1 adm s6 t6 g6) (Ec' := mdlE Z.2.1 adm s6' t6 g6') (C d0) gL_law_X6_sync rfl ok_X6_sync ⟨by decide, by decide⟩ ⟨rfl, rfl⟩ (by decide) (by decide) 0 (by decide) rfl rfl (fun hI => cn_X6_sync _ Z adm hI s6 t6 g6 (xs (i + 1)) h6) rfl dL_law_253 rfl (Nat.le_of_ble_eq_true rfl) ?_
  exact l_icmp_eq (tgt := 845) (C d0) dL_law_256 (by decide) (fun _ => kk) (fun hc => absurd rfl hc)
set_option maxHeartbeats 8000000 in
set_option maxRecDepth 100000 in
theorem lc_append {p : Program} {l : Launch} {e : Env} {s : State} {m : MethodId} {below : List Frame} {meth : Method} {c : Code} {Z : gZ} {b L : Nat} {xs : Nat → Int32} {adx adm : Nat → Nat} {i : Nat} {D : Nat → Nat → Nat → Int32} {sav : Int32} {old : Int32} {hsz : Int32} {cs : Nat → Int32} {len : Int32} {g : Nat → Int32} {s6 t6 g6 : Nat → Int32} {r : Int32} {D' : Nat → Nat → Nat → Int32} {old' : Int32} {hsz' : Int32} {s6' : Nat → Int32} {g6' : Nat → Int32} (C : ∀ d, LC (gXD p l e room_1 s m #[Value.ref b] below meth c (lw_Z below #[Value.ref b] s) d) Z cL_law 8 wsL_law RL room_1 (fun q => s.heap.size ≤ q)) (hX : va_X b L xs s s.heap) (hbl : b < s.heap.size) (hi : i + 5 ≤ L) (hL : L ≤ 2560) (h5 : f_X5_append D sav old hsz cs len g (xs (i + 1)) (xs (i + 2)) (xs (i + 3)) = some (r, D', old', hsz')) (h6 : f_X6_append s6 t6 g6 (xs (i + 1)) (xs (i + 2)) (xs (i + 3)) = some (r, s6', g6')) {d0 : Drawn} (kk : GL (gXD p l e room_1 s m #[Value.ref b] below meth c (lw_Z below #[Value.ref b] s) d0) Z 8 (fun q => s.heap.size ≤ q) 178 4225 (gW 175 adx (xE Z.2.1 Z.2.2 adx D' sav old' hsz' cs len g) ++ gW 3 adm (mdlE Z.2.1 adm s6' t6 g6')) 845 [(0, .ref b), (1, .ref (adx 168)), (2, .ref (adm 0)), (3, .int (nI i))] []) : GL (gXD p l e room_1 s m #[Value.ref b] below meth c (lw_Z below #[Value.ref b] s) d0) Z 8 (fun q => s.heap.size ≤ q) 178 4225 (gW 175 adx (xE Z.2.1 Z.2.2 adx D sav old hsz cs len g) ++ gW 3 adm (mdlE Z.2.1 adm s6 t6 g6)) 261 [(0, .ref b), (1, .ref (adx 168)), (2, .ref (adm 0)), (3, .int (nI i))] [] := by
  refine l_aload_n (C d0) dL_law_261 1 rfl ?_
  refine l_aload_n (C d0) dL_law_262 0 rfl ?_
  refine l_iload_n (C d0) dL_law_263 3 rfl ?_
  refine l_iconst (v := nI 1) (C d0) dL_law_264 (by decide) ?_
  refine l_iadd (C d0) dL_law_265 ?_
  rw [nI_add]
  refine l_sld (C d0) hX hbl (fun h => absurd hbl (Nat.not_lt.mpr h)) (nI_in (c := i + 1) (by omega) (by omega)) dL_law_266 ?_
  rw [nI_clamp (by omega)]
  refine l_aload_n (C d0) dL_law_267 0 rfl ?_
  refine l_iload_n (C d0) dL_law_268 3 rfl ?_
  refine l_iconst (v := nI 2) (C d0) dL_law_269 (by decide) ?_
  refine l_iadd (C d0) dL_law_270 ?_
  rw [nI_add]
  refine l_sld (C d0) hX hbl (fun h => absurd hbl (Nat.not_lt.mpr h)) (nI_in (c := i + 2) (by omega) (by omega)) dL_law_271 ?_
  rw [nI_clamp (by omega)]
  refine l_aload_n (C d0) dL_law_272 0 rfl ?_
  refine l_iload_n (C d0) dL_law_273 3 rfl ?_
  refine l_iconst (v := nI 3) (C d0) dL_law_274 (by decide) ?_
  refine l_iadd (C d0) dL_law_275 ?_
  rw [nI_add]
  refine l_sld (C d0) hX hbl (fun h => absurd hbl (Nat.not_lt.mpr h)) (nI_in (c := i + 3) (by omega) (by omega)) dL_law_276 ?_
  rw [nI_clamp (by omega)]
  refine l_callVi (rest := []) (wa := []) (wb := gW 3 adm (mdlE Z.2.1 adm s6 t6 g6)) (m := 175) (adc := adx) (Ec := xE Z.2.1 Z.2.2 adx D sav old hsz cs len g) (Ec' := xE Z.2.1 Z.2.2 adx D' sav old' hsz' cs len g) (C d0) gL_law_X5_append rfl ok_X5_append ⟨by decide, by decide⟩ ⟨rfl, rfl⟩ (by decide) (by decide) 168 (by decide) rfl rfl (fun hI => cn_X5_append _ Z adx hI D sav old hsz cs len g (xs (i + 1)) (xs (i + 2)) (xs (i + 3)) h5) rfl dL_law_277 rfl (Nat.le_of_ble_eq_true rfl) ?_
  show GL _ Z 8 _ 178 4225 (gW 175 adx (xE Z.2.1 Z.2.2 adx D' sav old' hsz' cs len g) ++ gW 3 adm (mdlE Z.2.1 adm s6 t6 g6)) _ _ _
  refine l_aload_n (C d0) dL_law_280 2 rfl ?_
  refine l_aload_n (C d0) dL_law_281 0 rfl ?_
  refine l_iload_n (C d0) dL_law_282 3 rfl ?_
  refine l_iconst (v := nI 1) (C d0) dL_law_283 (by decide) ?_
  refine l_iadd (C d0) dL_law_284 ?_
  rw [nI_add]
  refine l_sld (C d0) hX hbl (fun h => absurd hbl (Nat.not_lt.mpr h)) (nI_in (c := i + 1) (by omega) (by omega)) dL_law_285 ?_
  rw [nI_clamp (by omega)]
  refine l_aload_n (C d0) dL_law_286 0 rfl ?_
  refine l_iload_n (C d0) dL_law_287 3 rfl ?_
  refine l_iconst (v := nI 2) (C d0) dL_law_288 (by decide) ?_
  refine l_iadd (C d0) dL_law_289 ?_
  rw [nI_add]
  refine l_sld (C d0) hX hbl (fun h => absurd hbl (Nat.not_lt.mpr h)) (nI_in (c := i + 2) (by omega) (by omega)) dL_law_290 ?_
  rw [nI_clamp (by omega)]
  refine l_aload_n (C d0) dL_law_291 0 rfl ?_
  refine l_iload_n (C d0) dL_law_292 3 rfl ?_
  refine l_iconst (v := nI 3) (C d0) dL_law_293 (by decide) ?_
  refine l_iadd (C d0) dL_law_294 ?_
  rw [nI_add]
  refine l_sld (C d0) hX hbl (fun h => absurd hbl (Nat.not_lt.mpr h)) (nI_in (c := i + 3) (by omega) (by omega)) dL_law_295 ?_
  rw [nI_clamp (by omega)]
  refine l_callEi (rest := [.int r]) (wa := gW 175 adx (xE Z.2.1 Z.2.2 adx D' sav old' hsz' cs len g)) (m := 3) (adc := adm) (Ec := mdlE Z.2.1 adm s6 t6 g6) (Ec' := mdlE Z.2.1 adm s6' t6 g6') (C d0) gL_law_X6_append rfl ok_X6_append ⟨by decide, by decide⟩ ⟨rfl, rfl⟩ (by decide) (by decide) 0 (by decide) rfl rfl (fun hI => cn_X6_append _ Z adm hI s6 t6 g6 (xs (i + 1)) (xs (i + 2)) (xs (i + 3)) h6) rfl dL_law_296 rfl (Nat.le_of_ble_eq_true rfl) ?_
  exact l_icmp_eq (tgt := 845) (C d0) dL_law_299 (by decide) (fun _ => kk) (fun hc => absurd rfl hc)
set_option maxHeartbeats 8000000 in
set_option maxRecDepth 100000 in
theorem lc_cut {p : Program} {l : Launch} {e : Env} {s : State} {m : MethodId} {below : List Frame} {meth : Method} {c : Code} {Z : gZ} {b L : Nat} {xs : Nat → Int32} {adx adm : Nat → Nat} {i : Nat} {D : Nat → Nat → Nat → Int32} {sav : Int32} {old : Int32} {hsz : Int32} {cs : Nat → Int32} {len : Int32} {g : Nat → Int32} {s6 t6 g6 : Nat → Int32} {r : Int32} {D' : Nat → Nat → Nat → Int32} {old' : Int32} {hsz' : Int32} {s6' : Nat → Int32} {g6' : Nat → Int32} (C : ∀ d, LC (gXD p l e room_1 s m #[Value.ref b] below meth c (lw_Z below #[Value.ref b] s) d) Z cL_law 8 wsL_law RL room_1 (fun q => s.heap.size ≤ q)) (hX : va_X b L xs s s.heap) (hbl : b < s.heap.size) (hi : i + 5 ≤ L) (hL : L ≤ 2560) (h5 : f_X5_cut D sav old hsz cs len g (xs (i + 1)) (xs (i + 2)) = some (r, D', old', hsz')) (h6 : f_X6_cut s6 t6 g6 (xs (i + 1)) (xs (i + 2)) = some (r, s6', g6')) {d0 : Drawn} (kk : GL (gXD p l e room_1 s m #[Value.ref b] below meth c (lw_Z below #[Value.ref b] s) d0) Z 8 (fun q => s.heap.size ≤ q) 178 4225 (gW 175 adx (xE Z.2.1 Z.2.2 adx D' sav old' hsz' cs len g) ++ gW 3 adm (mdlE Z.2.1 adm s6' t6 g6')) 845 [(0, .ref b), (1, .ref (adx 168)), (2, .ref (adm 0)), (3, .int (nI i))] []) : GL (gXD p l e room_1 s m #[Value.ref b] below meth c (lw_Z below #[Value.ref b] s) d0) Z 8 (fun q => s.heap.size ≤ q) 178 4225 (gW 175 adx (xE Z.2.1 Z.2.2 adx D sav old hsz cs len g) ++ gW 3 adm (mdlE Z.2.1 adm s6 t6 g6)) 304 [(0, .ref b), (1, .ref (adx 168)), (2, .ref (adm 0)), (3, .int (nI i))] [] := by
  refine l_aload_n (C d0) dL_law_304 1 rfl ?_
  refine l_aload_n (C d0) dL_law_305 0 rfl ?_
  refine l_iload_n (C d0) dL_law_306 3 rfl ?_
  refine l_iconst (v := nI 1) (C d0) dL_law_307 (by decide) ?_
  refine l_iadd (C d0) dL_law_308 ?_
  rw [nI_add]
  refine l_sld (C d0) hX hbl (fun h => absurd hbl (Nat.not_lt.mpr h)) (nI_in (c := i + 1) (by omega) (by omega)) dL_law_309 ?_
  rw [nI_clamp (by omega)]
  refine l_aload_n (C d0) dL_law_310 0 rfl ?_
  refine l_iload_n (C d0) dL_law_311 3 rfl ?_
  refine l_iconst (v := nI 2) (C d0) dL_law_312 (by decide) ?_
  refine l_iadd (C d0) dL_law_313 ?_
  rw [nI_add]
  refine l_sld (C d0) hX hbl (fun h => absurd hbl (Nat.not_lt.mpr h)) (nI_in (c := i + 2) (by omega) (by omega)) dL_law_314 ?_
  rw [nI_clamp (by omega)]
  refine l_callVi (rest := []) (wa := []) (wb := gW 3 adm (mdlE Z.2.1 adm s6 t6 g6)) (m := 175) (adc := adx) (Ec := xE Z.2.1 Z.2.2 adx D sav old hsz cs len g) (Ec' := xE Z.2.1 Z.2.2 adx D' sav old' hsz' cs len g) (C d0) gL_law_X5_cut rfl ok_X5_cut ⟨by decide, by decide⟩ ⟨rfl, rfl⟩ (by decide) (by decide) 168 (by decide) rfl rfl (fun hI => cn_X5_cut _ Z adx hI D sav old hsz cs len g (xs (i + 1)) (xs (i + 2)) h5) rfl dL_law_315 rfl (Nat.le_of_ble_eq_true rfl) ?_
  show GL _ Z 8 _ 178 4225 (gW 175 adx (xE Z.2.1 Z.2.2 adx D' sav old' hsz' cs len g) ++ gW 3 adm (mdlE Z.2.1 adm s6 t6 g6)) _ _ _
  refine l_aload_n (C d0) dL_law_318 2 rfl ?_
  refine l_aload_n (C d0) dL_law_319 0 rfl ?_
  refine l_iload_n (C d0) dL_law_320 3 rfl ?_
  refine l_iconst (v := nI 1) (C d0) dL_law_321 (by decide) ?_
  refine l_iadd (C d0) dL_law_322 ?_
  rw [nI_add]
  refine l_sld (C d0) hX hbl (fun h => absurd hbl (Nat.not_lt.mpr h)) (nI_in (c := i + 1) (by omega) (by omega)) dL_law_323 ?_
  rw [nI_clamp (by omega)]
  refine l_aload_n (C d0) dL_law_324 0 rfl ?_
  refine l_iload_n (C d0) dL_law_325 3 rfl ?_
  refine l_iconst (v := nI 2) (C d0) dL_law_326 (by decide) ?_
  refine l_iadd (C d0) dL_law_327 ?_
  rw [nI_add]
  refine l_sld (C d0) hX hbl (fun h => absurd hbl (Nat.not_lt.mpr h)) (nI_in (c := i + 2) (by omega) (by omega)) dL_law_328 ?_
  rw [nI_clamp (by omega)]
  refine l_callEi (rest := [.int r]) (wa := gW 175 adx (xE Z.2.1 Z.2.2 adx D' sav old' hsz' cs len g)) (m := 3) (adc := adm) (Ec := mdlE Z.2.1 adm s6 t6 g6) (Ec' := mdlE Z.2.1 adm s6' t6 g6') (C d0) gL_law_X6_cut rfl ok_X6_cut ⟨by decide, by decide⟩ ⟨rfl, rfl⟩ (by decide) (by decide) 0 (by decide) rfl rfl (fun hI => cn_X6_cut _ Z adm hI s6 t6 g6 (xs (i + 1)) (xs (i + 2)) h6) rfl dL_law_329 rfl (Nat.le_of_ble_eq_true rfl) ?_
  exact l_icmp_eq (tgt := 845) (C d0) dL_law_332 (by decide) (fun _ => kk) (fun hc => absurd rfl hc)
set_option maxHeartbeats 8000000 in
set_option maxRecDepth 100000 in
theorem lc_crash {p : Program} {l : Launch} {e : Env} {s : State} {m : MethodId} {below : List Frame} {meth : Method} {c : Code} {Z : gZ} {b L : Nat} {xs : Nat → Int32} {adx adm : Nat → Nat} {i : Nat} {D : Nat → Nat → Nat → Int32} {sav : Int32} {old : Int32} {hsz : Int32} {cs : Nat → Int32} {len : Int32} {g : Nat → Int32} {s6 t6 g6 : Nat → Int32} {r : Int32} {D' : Nat → Nat → Nat → Int32} {old' : Int32} {hsz' : Int32} {s6' : Nat → Int32} {g6' : Nat → Int32} (C : ∀ d, LC (gXD p l e room_1 s m #[Value.ref b] below meth c (lw_Z below #[Value.ref b] s) d) Z cL_law 8 wsL_law RL room_1 (fun q => s.heap.size ≤ q)) (hX : va_X b L xs s s.heap) (hbl : b < s.heap.size) (hi : i + 5 ≤ L) (hL : L ≤ 2560) (h5 : f_X5_crash D sav old hsz cs len g = some (r, D', old', hsz')) (h6 : f_X6_crash s6 t6 g6 = some (r, s6', g6')) {d0 : Drawn} (kk : GL (gXD p l e room_1 s m #[Value.ref b] below meth c (lw_Z below #[Value.ref b] s) d0) Z 8 (fun q => s.heap.size ≤ q) 178 4225 (gW 175 adx (xE Z.2.1 Z.2.2 adx D' sav old' hsz' cs len g) ++ gW 3 adm (mdlE Z.2.1 adm s6' t6 g6')) 845 [(0, .ref b), (1, .ref (adx 168)), (2, .ref (adm 0)), (3, .int (nI i))] []) : GL (gXD p l e room_1 s m #[Value.ref b] below meth c (lw_Z below #[Value.ref b] s) d0) Z 8 (fun q => s.heap.size ≤ q) 178 4225 (gW 175 adx (xE Z.2.1 Z.2.2 adx D sav old hsz cs len g) ++ gW 3 adm (mdlE Z.2.1 adm s6 t6 g6)) 337 [(0, .ref b), (1, .ref (adx 168)), (2, .ref (adm 0)), (3, .int (nI i))] [] := by
  refine l_aload_n (C d0) dL_law_337 1 rfl ?_
  refine l_callVi (rest := []) (wa := []) (wb := gW 3 adm (mdlE Z.2.1 adm s6 t6 g6)) (m := 175) (adc := adx) (Ec := xE Z.2.1 Z.2.2 adx D sav old hsz cs len g) (Ec' := xE Z.2.1 Z.2.2 adx D' sav old' hsz' cs len g) (C d0) gL_law_X5_crash rfl ok_X5_crash ⟨by decide, by decide⟩ ⟨rfl, rfl⟩ (by decide) (by decide) 168 (by decide) rfl rfl (fun hI => cn_X5_crash _ Z adx hI D sav old hsz cs len g h5) rfl dL_law_338 rfl (Nat.le_of_ble_eq_true rfl) ?_
  show GL _ Z 8 _ 178 4225 (gW 175 adx (xE Z.2.1 Z.2.2 adx D' sav old' hsz' cs len g) ++ gW 3 adm (mdlE Z.2.1 adm s6 t6 g6)) _ _ _
  refine l_aload_n (C d0) dL_law_341 2 rfl ?_
  refine l_callEi (rest := [.int r]) (wa := gW 175 adx (xE Z.2.1 Z.2.2 adx D' sav old' hsz' cs len g)) (m := 3) (adc := adm) (Ec := mdlE Z.2.1 adm s6 t6 g6) (Ec' := mdlE Z.2.1 adm s6' t6 g6') (C d0) gL_law_X6_crash rfl ok_X6_crash ⟨by decide, by decide⟩ ⟨rfl, rfl⟩ (by decide) (by decide) 0 (by decide) rfl rfl (fun hI => cn_X6_crash _ Z adm hI s6 t6 g6 h6) rfl dL_law_342 rfl (Nat.le_of_ble_eq_true rfl) ?_
  exact l_icmp_eq (tgt := 845) (C d0) dL_law_345 (by decide) (fun _ => kk) (fun hc => absurd rfl hc)
set_option maxHeartbeats 8000000 in
set_option maxRecDepth 100000 in
theorem lc_mend {p : Program} {l : Launch} {e : Env} {s : State} {m : MethodId} {below : List Frame} {meth : Method} {c : Code} {Z : gZ} {b L : Nat} {xs : Nat → Int32} {adx adm : Nat → Nat} {i : Nat} {D : Nat → Nat → Nat → Int32} {sav : Int32} {old : Int32} {hsz : Int32} {cs : Nat → Int32} {len : Int32} {g : Nat → Int32} {s6 t6 g6 : Nat → Int32} {r : Int32} {D' : Nat → Nat → Nat → Int32} {old' : Int32} {hsz' : Int32} {s6' : Nat → Int32} {g6' : Nat → Int32} (C : ∀ d, LC (gXD p l e room_1 s m #[Value.ref b] below meth c (lw_Z below #[Value.ref b] s) d) Z cL_law 8 wsL_law RL room_1 (fun q => s.heap.size ≤ q)) (hX : va_X b L xs s s.heap) (hbl : b < s.heap.size) (hi : i + 5 ≤ L) (hL : L ≤ 2560) (h5 : f_X5_mend D sav old hsz cs len g = some (r, D', old', hsz')) (h6 : f_X6_mend s6 t6 g6 = some (r, s6', g6')) {d0 : Drawn} (kk : GL (gXD p l e room_1 s m #[Value.ref b] below meth c (lw_Z below #[Value.ref b] s) d0) Z 8 (fun q => s.heap.size ≤ q) 178 4225 (gW 175 adx (xE Z.2.1 Z.2.2 adx D' sav old' hsz' cs len g) ++ gW 3 adm (mdlE Z.2.1 adm s6' t6 g6')) 845 [(0, .ref b), (1, .ref (adx 168)), (2, .ref (adm 0)), (3, .int (nI i))] []) : GL (gXD p l e room_1 s m #[Value.ref b] below meth c (lw_Z below #[Value.ref b] s) d0) Z 8 (fun q => s.heap.size ≤ q) 178 4225 (gW 175 adx (xE Z.2.1 Z.2.2 adx D sav old hsz cs len g) ++ gW 3 adm (mdlE Z.2.1 adm s6 t6 g6)) 350 [(0, .ref b), (1, .ref (adx 168)), (2, .ref (adm 0)), (3, .int (nI i))] [] := by
  refine l_aload_n (C d0) dL_law_350 1 rfl ?_
  refine l_callVi (rest := []) (wa := []) (wb := gW 3 adm (mdlE Z.2.1 adm s6 t6 g6)) (m := 175) (adc := adx) (Ec := xE Z.2.1 Z.2.2 adx D sav old hsz cs len g) (Ec' := xE Z.2.1 Z.2.2 adx D' sav old' hsz' cs len g) (C d0) gL_law_X5_mend rfl ok_X5_mend ⟨by decide, by decide⟩ ⟨rfl, rfl⟩ (by decide) (by decide) 168 (by decide) rfl rfl (fun hI => cn_X5_mend _ Z adx hI D sav old hsz cs len g h5) rfl dL_law_351 rfl (Nat.le_of_ble_eq_true rfl) ?_
  show GL _ Z 8 _ 178 4225 (gW 175 adx (xE Z.2.1 Z.2.2 adx D' sav old' hsz' cs len g) ++ gW 3 adm (mdlE Z.2.1 adm s6 t6 g6)) _ _ _
  refine l_aload_n (C d0) dL_law_354 2 rfl ?_
  refine l_callEi (rest := [.int r]) (wa := gW 175 adx (xE Z.2.1 Z.2.2 adx D' sav old' hsz' cs len g)) (m := 3) (adc := adm) (Ec := mdlE Z.2.1 adm s6 t6 g6) (Ec' := mdlE Z.2.1 adm s6' t6 g6') (C d0) gL_law_X6_mend rfl ok_X6_mend ⟨by decide, by decide⟩ ⟨rfl, rfl⟩ (by decide) (by decide) 0 (by decide) rfl rfl (fun hI => cn_X6_mend _ Z adm hI s6 t6 g6 h6) rfl dL_law_355 rfl (Nat.le_of_ble_eq_true rfl) ?_
  exact l_icmp_eq (tgt := 845) (C d0) dL_law_358 (by decide) (fun _ => kk) (fun hc => absurd rfl hc)
set_option maxHeartbeats 8000000 in
set_option maxRecDepth 100000 in
theorem lc_set {p : Program} {l : Launch} {e : Env} {s : State} {m : MethodId} {below : List Frame} {meth : Method} {c : Code} {Z : gZ} {b L : Nat} {xs : Nat → Int32} {adx adm : Nat → Nat} {i : Nat} {D : Nat → Nat → Nat → Int32} {sav : Int32} {old : Int32} {hsz : Int32} {cs : Nat → Int32} {len : Int32} {g : Nat → Int32} {s6 t6 g6 : Nat → Int32} {r : Int32} {D' : Nat → Nat → Nat → Int32} {old' : Int32} {hsz' : Int32} {s6' : Nat → Int32} {g6' : Nat → Int32} (C : ∀ d, LC (gXD p l e room_1 s m #[Value.ref b] below meth c (lw_Z below #[Value.ref b] s) d) Z cL_law 8 wsL_law RL room_1 (fun q => s.heap.size ≤ q)) (hX : va_X b L xs s s.heap) (hbl : b < s.heap.size) (hi : i + 5 ≤ L) (hL : L ≤ 2560) (h5 : f_X5_set D sav old hsz cs len g (xs (i + 1)) (xs (i + 2)) = some (r, D', old', hsz')) (h6 : f_X6_set s6 t6 g6 (xs (i + 1)) (xs (i + 2)) = some (r, s6', g6')) {d0 : Drawn} (kk : GL (gXD p l e room_1 s m #[Value.ref b] below meth c (lw_Z below #[Value.ref b] s) d0) Z 8 (fun q => s.heap.size ≤ q) 178 4225 (gW 175 adx (xE Z.2.1 Z.2.2 adx D' sav old' hsz' cs len g) ++ gW 3 adm (mdlE Z.2.1 adm s6' t6 g6')) 845 [(0, .ref b), (1, .ref (adx 168)), (2, .ref (adm 0)), (3, .int (nI i))] []) : GL (gXD p l e room_1 s m #[Value.ref b] below meth c (lw_Z below #[Value.ref b] s) d0) Z 8 (fun q => s.heap.size ≤ q) 178 4225 (gW 175 adx (xE Z.2.1 Z.2.2 adx D sav old hsz cs len g) ++ gW 3 adm (mdlE Z.2.1 adm s6 t6 g6)) 363 [(0, .ref b), (1, .ref (adx 168)), (2, .ref (adm 0)), (3, .int (nI i))] [] := by
  refine l_aload_n (C d0) dL_law_363 1 rfl ?_
  refine l_aload_n (C d0) dL_law_364 0 rfl ?_
  refine l_iload_n (C d0) dL_law_365 3 rfl ?_
  refine l_iconst (v := nI 1) (C d0) dL_law_366 (by decide) ?_
  refine l_iadd (C d0) dL_law_367 ?_
  rw [nI_add]
  refine l_sld (C d0) hX hbl (fun h => absurd hbl (Nat.not_lt.mpr h)) (nI_in (c := i + 1) (by omega) (by omega)) dL_law_368 ?_
  rw [nI_clamp (by omega)]
  refine l_aload_n (C d0) dL_law_369 0 rfl ?_
  refine l_iload_n (C d0) dL_law_370 3 rfl ?_
  refine l_iconst (v := nI 2) (C d0) dL_law_371 (by decide) ?_
  refine l_iadd (C d0) dL_law_372 ?_
  rw [nI_add]
  refine l_sld (C d0) hX hbl (fun h => absurd hbl (Nat.not_lt.mpr h)) (nI_in (c := i + 2) (by omega) (by omega)) dL_law_373 ?_
  rw [nI_clamp (by omega)]
  refine l_callVi (rest := []) (wa := []) (wb := gW 3 adm (mdlE Z.2.1 adm s6 t6 g6)) (m := 175) (adc := adx) (Ec := xE Z.2.1 Z.2.2 adx D sav old hsz cs len g) (Ec' := xE Z.2.1 Z.2.2 adx D' sav old' hsz' cs len g) (C d0) gL_law_X5_set rfl ok_X5_set ⟨by decide, by decide⟩ ⟨rfl, rfl⟩ (by decide) (by decide) 168 (by decide) rfl rfl (fun hI => cn_X5_set _ Z adx hI D sav old hsz cs len g (xs (i + 1)) (xs (i + 2)) h5) rfl dL_law_374 rfl (Nat.le_of_ble_eq_true rfl) ?_
  show GL _ Z 8 _ 178 4225 (gW 175 adx (xE Z.2.1 Z.2.2 adx D' sav old' hsz' cs len g) ++ gW 3 adm (mdlE Z.2.1 adm s6 t6 g6)) _ _ _
  refine l_aload_n (C d0) dL_law_377 2 rfl ?_
  refine l_aload_n (C d0) dL_law_378 0 rfl ?_
  refine l_iload_n (C d0) dL_law_379 3 rfl ?_
  refine l_iconst (v := nI 1) (C d0) dL_law_380 (by decide) ?_
  refine l_iadd (C d0) dL_law_381 ?_
  rw [nI_add]
  refine l_sld (C d0) hX hbl (fun h => absurd hbl (Nat.not_lt.mpr h)) (nI_in (c := i + 1) (by omega) (by omega)) dL_law_382 ?_
  rw [nI_clamp (by omega)]
  refine l_aload_n (C d0) dL_law_383 0 rfl ?_
  refine l_iload_n (C d0) dL_law_384 3 rfl ?_
  refine l_iconst (v := nI 2) (C d0) dL_law_385 (by decide) ?_
  refine l_iadd (C d0) dL_law_386 ?_
  rw [nI_add]
  refine l_sld (C d0) hX hbl (fun h => absurd hbl (Nat.not_lt.mpr h)) (nI_in (c := i + 2) (by omega) (by omega)) dL_law_387 ?_
  rw [nI_clamp (by omega)]
  refine l_callEi (rest := [.int r]) (wa := gW 175 adx (xE Z.2.1 Z.2.2 adx D' sav old' hsz' cs len g)) (m := 3) (adc := adm) (Ec := mdlE Z.2.1 adm s6 t6 g6) (Ec' := mdlE Z.2.1 adm s6' t6 g6') (C d0) gL_law_X6_set rfl ok_X6_set ⟨by decide, by decide⟩ ⟨rfl, rfl⟩ (by decide) (by decide) 0 (by decide) rfl rfl (fun hI => cn_X6_set _ Z adm hI s6 t6 g6 (xs (i + 1)) (xs (i + 2)) h6) rfl dL_law_388 rfl (Nat.le_of_ble_eq_true rfl) ?_
  exact l_icmp_eq (tgt := 845) (C d0) dL_law_391 (by decide) (fun _ => kk) (fun hc => absurd rfl hc)
set_option maxHeartbeats 8000000 in
set_option maxRecDepth 100000 in
theorem lc_type {p : Program} {l : Launch} {e : Env} {s : State} {m : MethodId} {below : List Frame} {meth : Method} {c : Code} {Z : gZ} {b L : Nat} {xs : Nat → Int32} {adx adm : Nat → Nat} {i : Nat} {D : Nat → Nat → Nat → Int32} {sav : Int32} {old : Int32} {hsz : Int32} {cs : Nat → Int32} {len : Int32} {g : Nat → Int32} {s6 t6 g6 : Nat → Int32} {r : Int32} {cs' : Nat → Int32} {len' : Int32} {t6' : Nat → Int32} {g6' : Nat → Int32} (C : ∀ d, LC (gXD p l e room_1 s m #[Value.ref b] below meth c (lw_Z below #[Value.ref b] s) d) Z cL_law 8 wsL_law RL room_1 (fun q => s.heap.size ≤ q)) (hX : va_X b L xs s s.heap) (hbl : b < s.heap.size) (hi : i + 5 ≤ L) (hL : L ≤ 2560) (h5 : f_X5_type D sav old hsz cs len g (xs (i + 1)) = some (r, cs', len')) (h6 : f_X6_type s6 t6 g6 (xs (i + 1)) = some (r, t6', g6')) {d0 : Drawn} (kk : GL (gXD p l e room_1 s m #[Value.ref b] below meth c (lw_Z below #[Value.ref b] s) d0) Z 8 (fun q => s.heap.size ≤ q) 178 4225 (gW 175 adx (xE Z.2.1 Z.2.2 adx D sav old hsz cs' len' g) ++ gW 3 adm (mdlE Z.2.1 adm s6 t6' g6')) 845 [(0, .ref b), (1, .ref (adx 168)), (2, .ref (adm 0)), (3, .int (nI i))] []) : GL (gXD p l e room_1 s m #[Value.ref b] below meth c (lw_Z below #[Value.ref b] s) d0) Z 8 (fun q => s.heap.size ≤ q) 178 4225 (gW 175 adx (xE Z.2.1 Z.2.2 adx D sav old hsz cs len g) ++ gW 3 adm (mdlE Z.2.1 adm s6 t6 g6)) 396 [(0, .ref b), (1, .ref (adx 168)), (2, .ref (adm 0)), (3, .int (nI i))] [] := by
  refine l_aload_n (C d0) dL_law_396 1 rfl ?_
  refine l_aload_n (C d0) dL_law_397 0 rfl ?_
  refine l_iload_n (C d0) dL_law_398 3 rfl ?_
  refine l_iconst (v := nI 1) (C d0) dL_law_399 (by decide) ?_
  refine l_iadd (C d0) dL_law_400 ?_
  rw [nI_add]
  refine l_sld (C d0) hX hbl (fun h => absurd hbl (Nat.not_lt.mpr h)) (nI_in (c := i + 1) (by omega) (by omega)) dL_law_401 ?_
  rw [nI_clamp (by omega)]
  refine l_callVi (rest := []) (wa := []) (wb := gW 3 adm (mdlE Z.2.1 adm s6 t6 g6)) (m := 175) (adc := adx) (Ec := xE Z.2.1 Z.2.2 adx D sav old hsz cs len g) (Ec' := xE Z.2.1 Z.2.2 adx D sav old hsz cs' len' g) (C d0) gL_law_X5_type rfl ok_X5_type ⟨by decide, by decide⟩ ⟨rfl, rfl⟩ (by decide) (by decide) 168 (by decide) rfl rfl (fun hI => cn_X5_type _ Z adx hI D sav old hsz cs len g (xs (i + 1)) h5) rfl dL_law_402 rfl (Nat.le_of_ble_eq_true rfl) ?_
  show GL _ Z 8 _ 178 4225 (gW 175 adx (xE Z.2.1 Z.2.2 adx D sav old hsz cs' len' g) ++ gW 3 adm (mdlE Z.2.1 adm s6 t6 g6)) _ _ _
  refine l_aload_n (C d0) dL_law_405 2 rfl ?_
  refine l_aload_n (C d0) dL_law_406 0 rfl ?_
  refine l_iload_n (C d0) dL_law_407 3 rfl ?_
  refine l_iconst (v := nI 1) (C d0) dL_law_408 (by decide) ?_
  refine l_iadd (C d0) dL_law_409 ?_
  rw [nI_add]
  refine l_sld (C d0) hX hbl (fun h => absurd hbl (Nat.not_lt.mpr h)) (nI_in (c := i + 1) (by omega) (by omega)) dL_law_410 ?_
  rw [nI_clamp (by omega)]
  refine l_callEi (rest := [.int r]) (wa := gW 175 adx (xE Z.2.1 Z.2.2 adx D sav old hsz cs' len' g)) (m := 3) (adc := adm) (Ec := mdlE Z.2.1 adm s6 t6 g6) (Ec' := mdlE Z.2.1 adm s6 t6' g6') (C d0) gL_law_X6_type rfl ok_X6_type ⟨by decide, by decide⟩ ⟨rfl, rfl⟩ (by decide) (by decide) 0 (by decide) rfl rfl (fun hI => cn_X6_type _ Z adm hI s6 t6 g6 (xs (i + 1)) h6) rfl dL_law_411 rfl (Nat.le_of_ble_eq_true rfl) ?_
  exact l_icmp_eq (tgt := 845) (C d0) dL_law_414 (by decide) (fun _ => kk) (fun hc => absurd rfl hc)
set_option maxHeartbeats 8000000 in
set_option maxRecDepth 100000 in
theorem lc_clearText {p : Program} {l : Launch} {e : Env} {s : State} {m : MethodId} {below : List Frame} {meth : Method} {c : Code} {Z : gZ} {b L : Nat} {xs : Nat → Int32} {adx adm : Nat → Nat} {i : Nat} {D : Nat → Nat → Nat → Int32} {sav : Int32} {old : Int32} {hsz : Int32} {cs : Nat → Int32} {len : Int32} {g : Nat → Int32} {s6 t6 g6 : Nat → Int32} {r : Int32} {len' : Int32} {g6' : Nat → Int32} (C : ∀ d, LC (gXD p l e room_1 s m #[Value.ref b] below meth c (lw_Z below #[Value.ref b] s) d) Z cL_law 8 wsL_law RL room_1 (fun q => s.heap.size ≤ q)) (hX : va_X b L xs s s.heap) (hbl : b < s.heap.size) (hi : i + 5 ≤ L) (hL : L ≤ 2560) (h5 : f_X5_clearText D sav old hsz cs len g = some (r, len')) (h6 : f_X6_clearText s6 t6 g6 = some (r, g6')) {d0 : Drawn} (kk : GL (gXD p l e room_1 s m #[Value.ref b] below meth c (lw_Z below #[Value.ref b] s) d0) Z 8 (fun q => s.heap.size ≤ q) 178 4225 (gW 175 adx (xE Z.2.1 Z.2.2 adx D sav old hsz cs len' g) ++ gW 3 adm (mdlE Z.2.1 adm s6 t6 g6')) 845 [(0, .ref b), (1, .ref (adx 168)), (2, .ref (adm 0)), (3, .int (nI i))] []) : GL (gXD p l e room_1 s m #[Value.ref b] below meth c (lw_Z below #[Value.ref b] s) d0) Z 8 (fun q => s.heap.size ≤ q) 178 4225 (gW 175 adx (xE Z.2.1 Z.2.2 adx D sav old hsz cs len g) ++ gW 3 adm (mdlE Z.2.1 adm s6 t6 g6)) 419 [(0, .ref b), (1, .ref (adx 168)), (2, .ref (adm 0)), (3, .int (nI i))] [] := by
  refine l_aload_n (C d0) dL_law_419 1 rfl ?_
  refine l_callVi (rest := []) (wa := []) (wb := gW 3 adm (mdlE Z.2.1 adm s6 t6 g6)) (m := 175) (adc := adx) (Ec := xE Z.2.1 Z.2.2 adx D sav old hsz cs len g) (Ec' := xE Z.2.1 Z.2.2 adx D sav old hsz cs len' g) (C d0) gL_law_X5_clearText rfl ok_X5_clearText ⟨by decide, by decide⟩ ⟨rfl, rfl⟩ (by decide) (by decide) 168 (by decide) rfl rfl (fun hI => cn_X5_clearText _ Z adx hI D sav old hsz cs len g h5) rfl dL_law_420 rfl (Nat.le_of_ble_eq_true rfl) ?_
  show GL _ Z 8 _ 178 4225 (gW 175 adx (xE Z.2.1 Z.2.2 adx D sav old hsz cs len' g) ++ gW 3 adm (mdlE Z.2.1 adm s6 t6 g6)) _ _ _
  refine l_aload_n (C d0) dL_law_423 2 rfl ?_
  refine l_callEi (rest := [.int r]) (wa := gW 175 adx (xE Z.2.1 Z.2.2 adx D sav old hsz cs len' g)) (m := 3) (adc := adm) (Ec := mdlE Z.2.1 adm s6 t6 g6) (Ec' := mdlE Z.2.1 adm s6 t6 g6') (C d0) gL_law_X6_clearText rfl ok_X6_clearText ⟨by decide, by decide⟩ ⟨rfl, rfl⟩ (by decide) (by decide) 0 (by decide) rfl rfl (fun hI => cn_X6_clearText _ Z adm hI s6 t6 g6 h6) rfl dL_law_424 rfl (Nat.le_of_ble_eq_true rfl) ?_
  exact l_icmp_eq (tgt := 845) (C d0) dL_law_427 (by decide) (fun _ => kk) (fun hc => absurd rfl hc)
set_option maxHeartbeats 8000000 in
set_option maxRecDepth 100000 in
theorem lc_fault {p : Program} {l : Launch} {e : Env} {s : State} {m : MethodId} {below : List Frame} {meth : Method} {c : Code} {Z : gZ} {b L : Nat} {xs : Nat → Int32} {adx adm : Nat → Nat} {i : Nat} {D : Nat → Nat → Nat → Int32} {sav : Int32} {old : Int32} {hsz : Int32} {cs : Nat → Int32} {len : Int32} {g : Nat → Int32} {s6 t6 g6 : Nat → Int32} {r : Int32} {g' : Nat → Int32} {g6' : Nat → Int32} (C : ∀ d, LC (gXD p l e room_1 s m #[Value.ref b] below meth c (lw_Z below #[Value.ref b] s) d) Z cL_law 8 wsL_law RL room_1 (fun q => s.heap.size ≤ q)) (hX : va_X b L xs s s.heap) (hbl : b < s.heap.size) (hi : i + 5 ≤ L) (hL : L ≤ 2560) (h5 : f_X5_fault D sav old hsz cs len g = some (r, g')) (h6 : f_X6_fault s6 t6 g6 = some (r, g6')) {d0 : Drawn} (kk : GL (gXD p l e room_1 s m #[Value.ref b] below meth c (lw_Z below #[Value.ref b] s) d0) Z 8 (fun q => s.heap.size ≤ q) 178 4225 (gW 175 adx (xE Z.2.1 Z.2.2 adx D sav old hsz cs len g') ++ gW 3 adm (mdlE Z.2.1 adm s6 t6 g6')) 845 [(0, .ref b), (1, .ref (adx 168)), (2, .ref (adm 0)), (3, .int (nI i))] []) : GL (gXD p l e room_1 s m #[Value.ref b] below meth c (lw_Z below #[Value.ref b] s) d0) Z 8 (fun q => s.heap.size ≤ q) 178 4225 (gW 175 adx (xE Z.2.1 Z.2.2 adx D sav old hsz cs len g) ++ gW 3 adm (mdlE Z.2.1 adm s6 t6 g6)) 432 [(0, .ref b), (1, .ref (adx 168)), (2, .ref (adm 0)), (3, .int (nI i))] [] := by
  refine l_aload_n (C d0) dL_law_432 1 rfl ?_
  refine l_callVi (rest := []) (wa := []) (wb := gW 3 adm (mdlE Z.2.1 adm s6 t6 g6)) (m := 175) (adc := adx) (Ec := xE Z.2.1 Z.2.2 adx D sav old hsz cs len g) (Ec' := xE Z.2.1 Z.2.2 adx D sav old hsz cs len g') (C d0) gL_law_X5_fault rfl ok_X5_fault ⟨by decide, by decide⟩ ⟨rfl, rfl⟩ (by decide) (by decide) 168 (by decide) rfl rfl (fun hI => cn_X5_fault _ Z adx hI D sav old hsz cs len g h5) rfl dL_law_433 rfl (Nat.le_of_ble_eq_true rfl) ?_
  show GL _ Z 8 _ 178 4225 (gW 175 adx (xE Z.2.1 Z.2.2 adx D sav old hsz cs len g') ++ gW 3 adm (mdlE Z.2.1 adm s6 t6 g6)) _ _ _
  refine l_aload_n (C d0) dL_law_436 2 rfl ?_
  refine l_callEi (rest := [.int r]) (wa := gW 175 adx (xE Z.2.1 Z.2.2 adx D sav old hsz cs len g')) (m := 3) (adc := adm) (Ec := mdlE Z.2.1 adm s6 t6 g6) (Ec' := mdlE Z.2.1 adm s6 t6 g6') (C d0) gL_law_X6_fault rfl ok_X6_fault ⟨by decide, by decide⟩ ⟨rfl, rfl⟩ (by decide) (by decide) 0 (by decide) rfl rfl (fun hI => cn_X6_fault _ Z adm hI s6 t6 g6 h6) rfl dL_law_437 rfl (Nat.le_of_ble_eq_true rfl) ?_
  exact l_icmp_eq (tgt := 845) (C d0) dL_law_440 (by decide) (fun _ => kk) (fun hc => absurd rfl hc)
set_option maxHeartbeats 8000000 in
set_option maxRecDepth 100000 in
theorem lc_perform {p : Program} {l : Launch} {e : Env} {s : State} {m : MethodId} {below : List Frame} {meth : Method} {c : Code} {Z : gZ} {b L : Nat} {xs : Nat → Int32} {adx adm : Nat → Nat} {i : Nat} {D : Nat → Nat → Nat → Int32} {sav : Int32} {old : Int32} {hsz : Int32} {cs : Nat → Int32} {len : Int32} {g : Nat → Int32} {s6 t6 g6 : Nat → Int32} {r : Int32} {D' : Nat → Nat → Nat → Int32} {old' : Int32} {hsz' : Int32} {g' : Nat → Int32} {s6' : Nat → Int32} {g6' : Nat → Int32} (C : ∀ d, LC (gXD p l e room_1 s m #[Value.ref b] below meth c (lw_Z below #[Value.ref b] s) d) Z cL_law 8 wsL_law RL room_1 (fun q => s.heap.size ≤ q)) (hX : va_X b L xs s s.heap) (hbl : b < s.heap.size) (hi : i + 5 ≤ L) (hL : L ≤ 2560) (h5 : f_X5_perform D sav old hsz cs len g = some (r, D', old', hsz', g')) (h6 : f_X6_perform s6 t6 g6 = some (r, s6', g6')) {d0 : Drawn} (kk : GL (gXD p l e room_1 s m #[Value.ref b] below meth c (lw_Z below #[Value.ref b] s) d0) Z 8 (fun q => s.heap.size ≤ q) 178 4225 (gW 175 adx (xE Z.2.1 Z.2.2 adx D' sav old' hsz' cs len g') ++ gW 3 adm (mdlE Z.2.1 adm s6' t6 g6')) 845 [(0, .ref b), (1, .ref (adx 168)), (2, .ref (adm 0)), (3, .int (nI i))] []) : GL (gXD p l e room_1 s m #[Value.ref b] below meth c (lw_Z below #[Value.ref b] s) d0) Z 8 (fun q => s.heap.size ≤ q) 178 4225 (gW 175 adx (xE Z.2.1 Z.2.2 adx D sav old hsz cs len g) ++ gW 3 adm (mdlE Z.2.1 adm s6 t6 g6)) 445 [(0, .ref b), (1, .ref (adx 168)), (2, .ref (adm 0)), (3, .int (nI i))] [] := by
  refine l_aload_n (C d0) dL_law_445 1 rfl ?_
  refine l_callVi (rest := []) (wa := []) (wb := gW 3 adm (mdlE Z.2.1 adm s6 t6 g6)) (m := 175) (adc := adx) (Ec := xE Z.2.1 Z.2.2 adx D sav old hsz cs len g) (Ec' := xE Z.2.1 Z.2.2 adx D' sav old' hsz' cs len g') (C d0) gL_law_X5_perform rfl ok_X5_perform ⟨by decide, by decide⟩ ⟨rfl, rfl⟩ (by decide) (by decide) 168 (by decide) rfl rfl (fun hI => cn_X5_perform _ Z adx hI D sav old hsz cs len g h5) rfl dL_law_446 rfl (Nat.le_of_ble_eq_true rfl) ?_
  show GL _ Z 8 _ 178 4225 (gW 175 adx (xE Z.2.1 Z.2.2 adx D' sav old' hsz' cs len g') ++ gW 3 adm (mdlE Z.2.1 adm s6 t6 g6)) _ _ _
  refine l_aload_n (C d0) dL_law_449 2 rfl ?_
  refine l_callEi (rest := [.int r]) (wa := gW 175 adx (xE Z.2.1 Z.2.2 adx D' sav old' hsz' cs len g')) (m := 3) (adc := adm) (Ec := mdlE Z.2.1 adm s6 t6 g6) (Ec' := mdlE Z.2.1 adm s6' t6 g6') (C d0) gL_law_X6_perform rfl ok_X6_perform ⟨by decide, by decide⟩ ⟨rfl, rfl⟩ (by decide) (by decide) 0 (by decide) rfl rfl (fun hI => cn_X6_perform _ Z adm hI s6 t6 g6 h6) rfl dL_law_450 rfl (Nat.le_of_ble_eq_true rfl) ?_
  exact l_icmp_eq (tgt := 845) (C d0) dL_law_453 (by decide) (fun _ => kk) (fun hc => absurd rfl hc)
set_option maxHeartbeats 8000000 in
set_option maxRecDepth 100000 in
theorem lc_undo {p : Program} {l : Launch} {e : Env} {s : State} {m : MethodId} {below : List Frame} {meth : Method} {c : Code} {Z : gZ} {b L : Nat} {xs : Nat → Int32} {adx adm : Nat → Nat} {i : Nat} {D : Nat → Nat → Nat → Int32} {sav : Int32} {old : Int32} {hsz : Int32} {cs : Nat → Int32} {len : Int32} {g : Nat → Int32} {s6 t6 g6 : Nat → Int32} {r : Int32} {D' : Nat → Nat → Nat → Int32} {hsz' : Int32} {s6' : Nat → Int32} {g6' : Nat → Int32} (C : ∀ d, LC (gXD p l e room_1 s m #[Value.ref b] below meth c (lw_Z below #[Value.ref b] s) d) Z cL_law 8 wsL_law RL room_1 (fun q => s.heap.size ≤ q)) (hX : va_X b L xs s s.heap) (hbl : b < s.heap.size) (hi : i + 5 ≤ L) (hL : L ≤ 2560) (h5 : f_X5_undo D sav old hsz cs len g = some (r, D', hsz')) (h6 : f_X6_undo s6 t6 g6 = some (r, s6', g6')) {d0 : Drawn} (kk : GL (gXD p l e room_1 s m #[Value.ref b] below meth c (lw_Z below #[Value.ref b] s) d0) Z 8 (fun q => s.heap.size ≤ q) 178 4225 (gW 175 adx (xE Z.2.1 Z.2.2 adx D' sav old hsz' cs len g) ++ gW 3 adm (mdlE Z.2.1 adm s6' t6 g6')) 845 [(0, .ref b), (1, .ref (adx 168)), (2, .ref (adm 0)), (3, .int (nI i))] []) : GL (gXD p l e room_1 s m #[Value.ref b] below meth c (lw_Z below #[Value.ref b] s) d0) Z 8 (fun q => s.heap.size ≤ q) 178 4225 (gW 175 adx (xE Z.2.1 Z.2.2 adx D sav old hsz cs len g) ++ gW 3 adm (mdlE Z.2.1 adm s6 t6 g6)) 458 [(0, .ref b), (1, .ref (adx 168)), (2, .ref (adm 0)), (3, .int (nI i))] [] := by
  refine l_aload_n (C d0) dL_law_458 1 rfl ?_
  refine l_callVi (rest := []) (wa := []) (wb := gW 3 adm (mdlE Z.2.1 adm s6 t6 g6)) (m := 175) (adc := adx) (Ec := xE Z.2.1 Z.2.2 adx D sav old hsz cs len g) (Ec' := xE Z.2.1 Z.2.2 adx D' sav old hsz' cs len g) (C d0) gL_law_X5_undo rfl ok_X5_undo ⟨by decide, by decide⟩ ⟨rfl, rfl⟩ (by decide) (by decide) 168 (by decide) rfl rfl (fun hI => cn_X5_undo _ Z adx hI D sav old hsz cs len g h5) rfl dL_law_459 rfl (Nat.le_of_ble_eq_true rfl) ?_
  show GL _ Z 8 _ 178 4225 (gW 175 adx (xE Z.2.1 Z.2.2 adx D' sav old hsz' cs len g) ++ gW 3 adm (mdlE Z.2.1 adm s6 t6 g6)) _ _ _
  refine l_aload_n (C d0) dL_law_462 2 rfl ?_
  refine l_callEi (rest := [.int r]) (wa := gW 175 adx (xE Z.2.1 Z.2.2 adx D' sav old hsz' cs len g)) (m := 3) (adc := adm) (Ec := mdlE Z.2.1 adm s6 t6 g6) (Ec' := mdlE Z.2.1 adm s6' t6 g6') (C d0) gL_law_X6_undo rfl ok_X6_undo ⟨by decide, by decide⟩ ⟨rfl, rfl⟩ (by decide) (by decide) 0 (by decide) rfl rfl (fun hI => cn_X6_undo _ Z adm hI s6 t6 g6 h6) rfl dL_law_463 rfl (Nat.le_of_ble_eq_true rfl) ?_
  exact l_icmp_eq (tgt := 845) (C d0) dL_law_466 (by decide) (fun _ => kk) (fun hc => absurd rfl hc)
set_option maxHeartbeats 8000000 in
set_option maxRecDepth 100000 in
theorem lc_save {p : Program} {l : Launch} {e : Env} {s : State} {m : MethodId} {below : List Frame} {meth : Method} {c : Code} {Z : gZ} {b L : Nat} {xs : Nat → Int32} {adx adm : Nat → Nat} {i : Nat} {D : Nat → Nat → Nat → Int32} {sav : Int32} {old : Int32} {hsz : Int32} {cs : Nat → Int32} {len : Int32} {g : Nat → Int32} {s6 t6 g6 : Nat → Int32} {r : Int32} {D' : Nat → Nat → Nat → Int32} {sav' : Int32} {s6' : Nat → Int32} {g6' : Nat → Int32} (C : ∀ d, LC (gXD p l e room_1 s m #[Value.ref b] below meth c (lw_Z below #[Value.ref b] s) d) Z cL_law 8 wsL_law RL room_1 (fun q => s.heap.size ≤ q)) (hX : va_X b L xs s s.heap) (hbl : b < s.heap.size) (hi : i + 5 ≤ L) (hL : L ≤ 2560) (h5 : f_X5_save D sav old hsz cs len g = some (r, D', sav')) (h6 : f_X6_save s6 t6 g6 = some (r, s6', g6')) {d0 : Drawn} (kk : GL (gXD p l e room_1 s m #[Value.ref b] below meth c (lw_Z below #[Value.ref b] s) d0) Z 8 (fun q => s.heap.size ≤ q) 178 4225 (gW 175 adx (xE Z.2.1 Z.2.2 adx D' sav' old hsz cs len g) ++ gW 3 adm (mdlE Z.2.1 adm s6' t6 g6')) 845 [(0, .ref b), (1, .ref (adx 168)), (2, .ref (adm 0)), (3, .int (nI i))] []) : GL (gXD p l e room_1 s m #[Value.ref b] below meth c (lw_Z below #[Value.ref b] s) d0) Z 8 (fun q => s.heap.size ≤ q) 178 4225 (gW 175 adx (xE Z.2.1 Z.2.2 adx D sav old hsz cs len g) ++ gW 3 adm (mdlE Z.2.1 adm s6 t6 g6)) 471 [(0, .ref b), (1, .ref (adx 168)), (2, .ref (adm 0)), (3, .int (nI i))] [] := by
  refine l_aload_n (C d0) dL_law_471 1 rfl ?_
  refine l_callVi (rest := []) (wa := []) (wb := gW 3 adm (mdlE Z.2.1 adm s6 t6 g6)) (m := 175) (adc := adx) (Ec := xE Z.2.1 Z.2.2 adx D sav old hsz cs len g) (Ec' := xE Z.2.1 Z.2.2 adx D' sav' old hsz cs len g) (C d0) gL_law_X5_save rfl ok_X5_save ⟨by decide, by decide⟩ ⟨rfl, rfl⟩ (by decide) (by decide) 168 (by decide) rfl rfl (fun hI => cn_X5_save _ Z adx hI D sav old hsz cs len g h5) rfl dL_law_472 rfl (Nat.le_of_ble_eq_true rfl) ?_
  show GL _ Z 8 _ 178 4225 (gW 175 adx (xE Z.2.1 Z.2.2 adx D' sav' old hsz cs len g) ++ gW 3 adm (mdlE Z.2.1 adm s6 t6 g6)) _ _ _
  refine l_aload_n (C d0) dL_law_475 2 rfl ?_
  refine l_callEi (rest := [.int r]) (wa := gW 175 adx (xE Z.2.1 Z.2.2 adx D' sav' old hsz cs len g)) (m := 3) (adc := adm) (Ec := mdlE Z.2.1 adm s6 t6 g6) (Ec' := mdlE Z.2.1 adm s6' t6 g6') (C d0) gL_law_X6_save rfl ok_X6_save ⟨by decide, by decide⟩ ⟨rfl, rfl⟩ (by decide) (by decide) 0 (by decide) rfl rfl (fun hI => cn_X6_save _ Z adm hI s6 t6 g6 h6) rfl dL_law_476 rfl (Nat.le_of_ble_eq_true rfl) ?_
  exact l_icmp_eq (tgt := 845) (C d0) dL_law_479 (by decide) (fun _ => kk) (fun hc => absurd rfl hc)
set_option maxHeartbeats 8000000 in
set_option maxRecDepth 100000 in
theorem lc_restore {p : Program} {l : Launch} {e : Env} {s : State} {m : MethodId} {below : List Frame} {meth : Method} {c : Code} {Z : gZ} {b L : Nat} {xs : Nat → Int32} {adx adm : Nat → Nat} {i : Nat} {D : Nat → Nat → Nat → Int32} {sav : Int32} {old : Int32} {hsz : Int32} {cs : Nat → Int32} {len : Int32} {g : Nat → Int32} {s6 t6 g6 : Nat → Int32} {r : Int32} {D' : Nat → Nat → Nat → Int32} {old' : Int32} {hsz' : Int32} {s6' : Nat → Int32} {g6' : Nat → Int32} (C : ∀ d, LC (gXD p l e room_1 s m #[Value.ref b] below meth c (lw_Z below #[Value.ref b] s) d) Z cL_law 8 wsL_law RL room_1 (fun q => s.heap.size ≤ q)) (hX : va_X b L xs s s.heap) (hbl : b < s.heap.size) (hi : i + 5 ≤ L) (hL : L ≤ 2560) (h5 : f_X5_restore D sav old hsz cs len g = some (r, D', old', hsz')) (h6 : f_X6_restore s6 t6 g6 = some (r, s6', g6')) {d0 : Drawn} (kk : GL (gXD p l e room_1 s m #[Value.ref b] below meth c (lw_Z below #[Value.ref b] s) d0) Z 8 (fun q => s.heap.size ≤ q) 178 4225 (gW 175 adx (xE Z.2.1 Z.2.2 adx D' sav old' hsz' cs len g) ++ gW 3 adm (mdlE Z.2.1 adm s6' t6 g6')) 845 [(0, .ref b), (1, .ref (adx 168)), (2, .ref (adm 0)), (3, .int (nI i))] []) : GL (gXD p l e room_1 s m #[Value.ref b] below meth c (lw_Z below #[Value.ref b] s) d0) Z 8 (fun q => s.heap.size ≤ q) 178 4225 (gW 175 adx (xE Z.2.1 Z.2.2 adx D sav old hsz cs len g) ++ gW 3 adm (mdlE Z.2.1 adm s6 t6 g6)) 484 [(0, .ref b), (1, .ref (adx 168)), (2, .ref (adm 0)), (3, .int (nI i))] [] := by
  refine l_aload_n (C d0) dL_law_484 1 rfl ?_
  refine l_callVi (rest := []) (wa := []) (wb := gW 3 adm (mdlE Z.2.1 adm s6 t6 g6)) (m := 175) (adc := adx) (Ec := xE Z.2.1 Z.2.2 adx D sav old hsz cs len g) (Ec' := xE Z.2.1 Z.2.2 adx D' sav old' hsz' cs len g) (C d0) gL_law_X5_restore rfl ok_X5_restore ⟨by decide, by decide⟩ ⟨rfl, rfl⟩ (by decide) (by decide) 168 (by decide) rfl rfl (fun hI => cn_X5_restore _ Z adx hI D sav old hsz cs len g h5) rfl dL_law_485 rfl (Nat.le_of_ble_eq_true rfl) ?_
  show GL _ Z 8 _ 178 4225 (gW 175 adx (xE Z.2.1 Z.2.2 adx D' sav old' hsz' cs len g) ++ gW 3 adm (mdlE Z.2.1 adm s6 t6 g6)) _ _ _
  refine l_aload_n (C d0) dL_law_488 2 rfl ?_
  refine l_callEi (rest := [.int r]) (wa := gW 175 adx (xE Z.2.1 Z.2.2 adx D' sav old' hsz' cs len g)) (m := 3) (adc := adm) (Ec := mdlE Z.2.1 adm s6 t6 g6) (Ec' := mdlE Z.2.1 adm s6' t6 g6') (C d0) gL_law_X6_restore rfl ok_X6_restore ⟨by decide, by decide⟩ ⟨rfl, rfl⟩ (by decide) (by decide) 0 (by decide) rfl rfl (fun hI => cn_X6_restore _ Z adm hI s6 t6 g6 h6) rfl dL_law_489 rfl (Nat.le_of_ble_eq_true rfl) ?_
  exact l_icmp_eq (tgt := 845) (C d0) dL_law_492 (by decide) (fun _ => kk) (fun hc => absurd rfl hc)
set_option maxHeartbeats 8000000 in
set_option maxRecDepth 100000 in
theorem lc_block {p : Program} {l : Launch} {e : Env} {s : State} {m : MethodId} {below : List Frame} {meth : Method} {c : Code} {Z : gZ} {b L : Nat} {xs : Nat → Int32} {adx adm : Nat → Nat} {i : Nat} {D : Nat → Nat → Nat → Int32} {sav : Int32} {old : Int32} {hsz : Int32} {cs : Nat → Int32} {len : Int32} {g : Nat → Int32} {s6 t6 g6 : Nat → Int32} {r : Int32} (C : ∀ d, LC (gXD p l e room_1 s m #[Value.ref b] below meth c (lw_Z below #[Value.ref b] s) d) Z cL_law 8 wsL_law RL room_1 (fun q => s.heap.size ≤ q)) (hX : va_X b L xs s s.heap) (hbl : b < s.heap.size) (hi : i + 5 ≤ L) (hL : L ≤ 2560) (h5 : f_X5_block D sav old hsz cs len g (xs (i + 1)) (xs (i + 2)) = some r) (h6 : f_X6_block s6 t6 g6 (xs (i + 1)) (xs (i + 2)) = some r) {d0 : Drawn} (kk : GL (gXD p l e room_1 s m #[Value.ref b] below meth c (lw_Z below #[Value.ref b] s) d0) Z 8 (fun q => s.heap.size ≤ q) 178 4225 (gW 175 adx (xE Z.2.1 Z.2.2 adx D sav old hsz cs len g) ++ gW 3 adm (mdlE Z.2.1 adm s6 t6 g6)) 845 [(0, .ref b), (1, .ref (adx 168)), (2, .ref (adm 0)), (3, .int (nI i))] []) : GL (gXD p l e room_1 s m #[Value.ref b] below meth c (lw_Z below #[Value.ref b] s) d0) Z 8 (fun q => s.heap.size ≤ q) 178 4225 (gW 175 adx (xE Z.2.1 Z.2.2 adx D sav old hsz cs len g) ++ gW 3 adm (mdlE Z.2.1 adm s6 t6 g6)) 497 [(0, .ref b), (1, .ref (adx 168)), (2, .ref (adm 0)), (3, .int (nI i))] [] := by
  refine l_aload_n (C d0) dL_law_497 1 rfl ?_
  refine l_aload_n (C d0) dL_law_498 0 rfl ?_
  refine l_iload_n (C d0) dL_law_499 3 rfl ?_
  refine l_iconst (v := nI 1) (C d0) dL_law_500 (by decide) ?_
  refine l_iadd (C d0) dL_law_501 ?_
  rw [nI_add]
  refine l_sld (C d0) hX hbl (fun h => absurd hbl (Nat.not_lt.mpr h)) (nI_in (c := i + 1) (by omega) (by omega)) dL_law_502 ?_
  rw [nI_clamp (by omega)]
  refine l_aload_n (C d0) dL_law_503 0 rfl ?_
  refine l_iload_n (C d0) dL_law_504 3 rfl ?_
  refine l_iconst (v := nI 2) (C d0) dL_law_505 (by decide) ?_
  refine l_iadd (C d0) dL_law_506 ?_
  rw [nI_add]
  refine l_sld (C d0) hX hbl (fun h => absurd hbl (Nat.not_lt.mpr h)) (nI_in (c := i + 2) (by omega) (by omega)) dL_law_507 ?_
  rw [nI_clamp (by omega)]
  refine l_callVi (rest := []) (wa := []) (wb := gW 3 adm (mdlE Z.2.1 adm s6 t6 g6)) (m := 175) (adc := adx) (Ec := xE Z.2.1 Z.2.2 adx D sav old hsz cs len g) (Ec' := xE Z.2.1 Z.2.2 adx D sav old hsz cs len g) (C d0) gL_law_X5_block rfl ok_X5_block ⟨by decide, by decide⟩ ⟨rfl, rfl⟩ (by decide) (by decide) 168 (by decide) rfl rfl (fun hI => cn_X5_block _ Z adx hI D sav old hsz cs len g (xs (i + 1)) (xs (i + 2)) h5) rfl dL_law_508 rfl (Nat.le_of_ble_eq_true rfl) ?_
  show GL _ Z 8 _ 178 4225 (gW 175 adx (xE Z.2.1 Z.2.2 adx D sav old hsz cs len g) ++ gW 3 adm (mdlE Z.2.1 adm s6 t6 g6)) _ _ _
  refine l_aload_n (C d0) dL_law_511 2 rfl ?_
  refine l_aload_n (C d0) dL_law_512 0 rfl ?_
  refine l_iload_n (C d0) dL_law_513 3 rfl ?_
  refine l_iconst (v := nI 1) (C d0) dL_law_514 (by decide) ?_
  refine l_iadd (C d0) dL_law_515 ?_
  rw [nI_add]
  refine l_sld (C d0) hX hbl (fun h => absurd hbl (Nat.not_lt.mpr h)) (nI_in (c := i + 1) (by omega) (by omega)) dL_law_516 ?_
  rw [nI_clamp (by omega)]
  refine l_aload_n (C d0) dL_law_517 0 rfl ?_
  refine l_iload_n (C d0) dL_law_518 3 rfl ?_
  refine l_iconst (v := nI 2) (C d0) dL_law_519 (by decide) ?_
  refine l_iadd (C d0) dL_law_520 ?_
  rw [nI_add]
  refine l_sld (C d0) hX hbl (fun h => absurd hbl (Nat.not_lt.mpr h)) (nI_in (c := i + 2) (by omega) (by omega)) dL_law_521 ?_
  rw [nI_clamp (by omega)]
  refine l_callEi (rest := [.int r]) (wa := gW 175 adx (xE Z.2.1 Z.2.2 adx D sav old hsz cs len g)) (m := 3) (adc := adm) (Ec := mdlE Z.2.1 adm s6 t6 g6) (Ec' := mdlE Z.2.1 adm s6 t6 g6) (C d0) gL_law_X6_block rfl ok_X6_block ⟨by decide, by decide⟩ ⟨rfl, rfl⟩ (by decide) (by decide) 0 (by decide) rfl rfl (fun hI => cn_X6_block _ Z adm hI s6 t6 g6 (xs (i + 1)) (xs (i + 2)) h6) rfl dL_law_522 rfl (Nat.le_of_ble_eq_true rfl) ?_
  exact l_icmp_eq (tgt := 845) (C d0) dL_law_525 (by decide) (fun _ => kk) (fun hc => absurd rfl hc)
set_option maxHeartbeats 8000000 in
set_option maxRecDepth 100000 in
theorem lc_file {p : Program} {l : Launch} {e : Env} {s : State} {m : MethodId} {below : List Frame} {meth : Method} {c : Code} {Z : gZ} {b L : Nat} {xs : Nat → Int32} {adx adm : Nat → Nat} {i : Nat} {D : Nat → Nat → Nat → Int32} {sav : Int32} {old : Int32} {hsz : Int32} {cs : Nat → Int32} {len : Int32} {g : Nat → Int32} {s6 t6 g6 : Nat → Int32} {r : Int32} (C : ∀ d, LC (gXD p l e room_1 s m #[Value.ref b] below meth c (lw_Z below #[Value.ref b] s) d) Z cL_law 8 wsL_law RL room_1 (fun q => s.heap.size ≤ q)) (hX : va_X b L xs s s.heap) (hbl : b < s.heap.size) (hi : i + 5 ≤ L) (hL : L ≤ 2560) (h5 : f_X5_file D sav old hsz cs len g (xs (i + 1)) (xs (i + 2)) = some r) (h6 : f_X6_file s6 t6 g6 (xs (i + 1)) (xs (i + 2)) = some r) {d0 : Drawn} (kk : GL (gXD p l e room_1 s m #[Value.ref b] below meth c (lw_Z below #[Value.ref b] s) d0) Z 8 (fun q => s.heap.size ≤ q) 178 4225 (gW 175 adx (xE Z.2.1 Z.2.2 adx D sav old hsz cs len g) ++ gW 3 adm (mdlE Z.2.1 adm s6 t6 g6)) 845 [(0, .ref b), (1, .ref (adx 168)), (2, .ref (adm 0)), (3, .int (nI i))] []) : GL (gXD p l e room_1 s m #[Value.ref b] below meth c (lw_Z below #[Value.ref b] s) d0) Z 8 (fun q => s.heap.size ≤ q) 178 4225 (gW 175 adx (xE Z.2.1 Z.2.2 adx D sav old hsz cs len g) ++ gW 3 adm (mdlE Z.2.1 adm s6 t6 g6)) 530 [(0, .ref b), (1, .ref (adx 168)), (2, .ref (adm 0)), (3, .int (nI i))] [] := by
  refine l_aload_n (C d0) dL_law_530 1 rfl ?_
  refine l_aload_n (C d0) dL_law_531 0 rfl ?_
  refine l_iload_n (C d0) dL_law_532 3 rfl ?_
  refine l_iconst (v := nI 1) (C d0) dL_law_533 (by decide) ?_
  refine l_iadd (C d0) dL_law_534 ?_
  rw [nI_add]
  refine l_sld (C d0) hX hbl (fun h => absurd hbl (Nat.not_lt.mpr h)) (nI_in (c := i + 1) (by omega) (by omega)) dL_law_535 ?_
  rw [nI_clamp (by omega)]
  refine l_aload_n (C d0) dL_law_536 0 rfl ?_
  refine l_iload_n (C d0) dL_law_537 3 rfl ?_
  refine l_iconst (v := nI 2) (C d0) dL_law_538 (by decide) ?_
  refine l_iadd (C d0) dL_law_539 ?_
  rw [nI_add]
  refine l_sld (C d0) hX hbl (fun h => absurd hbl (Nat.not_lt.mpr h)) (nI_in (c := i + 2) (by omega) (by omega)) dL_law_540 ?_
  rw [nI_clamp (by omega)]
  refine l_callVi (rest := []) (wa := []) (wb := gW 3 adm (mdlE Z.2.1 adm s6 t6 g6)) (m := 175) (adc := adx) (Ec := xE Z.2.1 Z.2.2 adx D sav old hsz cs len g) (Ec' := xE Z.2.1 Z.2.2 adx D sav old hsz cs len g) (C d0) gL_law_X5_file rfl ok_X5_file ⟨by decide, by decide⟩ ⟨rfl, rfl⟩ (by decide) (by decide) 168 (by decide) rfl rfl (fun hI => cn_X5_file _ Z adx hI D sav old hsz cs len g (xs (i + 1)) (xs (i + 2)) h5) rfl dL_law_541 rfl (Nat.le_of_ble_eq_true rfl) ?_
  show GL _ Z 8 _ 178 4225 (gW 175 adx (xE Z.2.1 Z.2.2 adx D sav old hsz cs len g) ++ gW 3 adm (mdlE Z.2.1 adm s6 t6 g6)) _ _ _
  refine l_aload_n (C d0) dL_law_544 2 rfl ?_
  refine l_aload_n (C d0) dL_law_545 0 rfl ?_
  refine l_iload_n (C d0) dL_law_546 3 rfl ?_
  refine l_iconst (v := nI 1) (C d0) dL_law_547 (by decide) ?_
  refine l_iadd (C d0) dL_law_548 ?_
  rw [nI_add]
  refine l_sld (C d0) hX hbl (fun h => absurd hbl (Nat.not_lt.mpr h)) (nI_in (c := i + 1) (by omega) (by omega)) dL_law_549 ?_
  rw [nI_clamp (by omega)]
  refine l_aload_n (C d0) dL_law_550 0 rfl ?_
  refine l_iload_n (C d0) dL_law_551 3 rfl ?_
  refine l_iconst (v := nI 2) (C d0) dL_law_552 (by decide) ?_
  refine l_iadd (C d0) dL_law_553 ?_
  rw [nI_add]
  refine l_sld (C d0) hX hbl (fun h => absurd hbl (Nat.not_lt.mpr h)) (nI_in (c := i + 2) (by omega) (by omega)) dL_law_554 ?_
  rw [nI_clamp (by omega)]
  refine l_callEi (rest := [.int r]) (wa := gW 175 adx (xE Z.2.1 Z.2.2 adx D sav old hsz cs len g)) (m := 3) (adc := adm) (Ec := mdlE Z.2.1 adm s6 t6 g6) (Ec' := mdlE Z.2.1 adm s6 t6 g6) (C d0) gL_law_X6_file rfl ok_X6_file ⟨by decide, by decide⟩ ⟨rfl, rfl⟩ (by decide) (by decide) 0 (by decide) rfl rfl (fun hI => cn_X6_file _ Z adm hI s6 t6 g6 (xs (i + 1)) (xs (i + 2)) h6) rfl dL_law_555 rfl (Nat.le_of_ble_eq_true rfl) ?_
  exact l_icmp_eq (tgt := 845) (C d0) dL_law_558 (by decide) (fun _ => kk) (fun hc => absurd rfl hc)
set_option maxHeartbeats 8000000 in
set_option maxRecDepth 100000 in
theorem lc_extent {p : Program} {l : Launch} {e : Env} {s : State} {m : MethodId} {below : List Frame} {meth : Method} {c : Code} {Z : gZ} {b L : Nat} {xs : Nat → Int32} {adx adm : Nat → Nat} {i : Nat} {D : Nat → Nat → Nat → Int32} {sav : Int32} {old : Int32} {hsz : Int32} {cs : Nat → Int32} {len : Int32} {g : Nat → Int32} {s6 t6 g6 : Nat → Int32} {r : Int32} (C : ∀ d, LC (gXD p l e room_1 s m #[Value.ref b] below meth c (lw_Z below #[Value.ref b] s) d) Z cL_law 8 wsL_law RL room_1 (fun q => s.heap.size ≤ q)) (hX : va_X b L xs s s.heap) (hbl : b < s.heap.size) (hi : i + 5 ≤ L) (hL : L ≤ 2560) (h5 : f_X5_extent D sav old hsz cs len g (xs (i + 1)) (xs (i + 2)) (xs (i + 3)) = some r) (h6 : f_X6_extent s6 t6 g6 (xs (i + 1)) (xs (i + 2)) (xs (i + 3)) = some r) {d0 : Drawn} (kk : GL (gXD p l e room_1 s m #[Value.ref b] below meth c (lw_Z below #[Value.ref b] s) d0) Z 8 (fun q => s.heap.size ≤ q) 178 4225 (gW 175 adx (xE Z.2.1 Z.2.2 adx D sav old hsz cs len g) ++ gW 3 adm (mdlE Z.2.1 adm s6 t6 g6)) 845 [(0, .ref b), (1, .ref (adx 168)), (2, .ref (adm 0)), (3, .int (nI i))] []) : GL (gXD p l e room_1 s m #[Value.ref b] below meth c (lw_Z below #[Value.ref b] s) d0) Z 8 (fun q => s.heap.size ≤ q) 178 4225 (gW 175 adx (xE Z.2.1 Z.2.2 adx D sav old hsz cs len g) ++ gW 3 adm (mdlE Z.2.1 adm s6 t6 g6)) 563 [(0, .ref b), (1, .ref (adx 168)), (2, .ref (adm 0)), (3, .int (nI i))] [] := by
  refine l_aload_n (C d0) dL_law_563 1 rfl ?_
  refine l_aload_n (C d0) dL_law_564 0 rfl ?_
  refine l_iload_n (C d0) dL_law_565 3 rfl ?_
  refine l_iconst (v := nI 1) (C d0) dL_law_566 (by decide) ?_
  refine l_iadd (C d0) dL_law_567 ?_
  rw [nI_add]
  refine l_sld (C d0) hX hbl (fun h => absurd hbl (Nat.not_lt.mpr h)) (nI_in (c := i + 1) (by omega) (by omega)) dL_law_568 ?_
  rw [nI_clamp (by omega)]
  refine l_aload_n (C d0) dL_law_569 0 rfl ?_
  refine l_iload_n (C d0) dL_law_570 3 rfl ?_
  refine l_iconst (v := nI 2) (C d0) dL_law_571 (by decide) ?_
  refine l_iadd (C d0) dL_law_572 ?_
  rw [nI_add]
  refine l_sld (C d0) hX hbl (fun h => absurd hbl (Nat.not_lt.mpr h)) (nI_in (c := i + 2) (by omega) (by omega)) dL_law_573 ?_
  rw [nI_clamp (by omega)]
  refine l_aload_n (C d0) dL_law_574 0 rfl ?_
  refine l_iload_n (C d0) dL_law_575 3 rfl ?_
  refine l_iconst (v := nI 3) (C d0) dL_law_576 (by decide) ?_
  refine l_iadd (C d0) dL_law_577 ?_
  rw [nI_add]
  refine l_sld (C d0) hX hbl (fun h => absurd hbl (Nat.not_lt.mpr h)) (nI_in (c := i + 3) (by omega) (by omega)) dL_law_578 ?_
  rw [nI_clamp (by omega)]
  refine l_callVi (rest := []) (wa := []) (wb := gW 3 adm (mdlE Z.2.1 adm s6 t6 g6)) (m := 175) (adc := adx) (Ec := xE Z.2.1 Z.2.2 adx D sav old hsz cs len g) (Ec' := xE Z.2.1 Z.2.2 adx D sav old hsz cs len g) (C d0) gL_law_X5_extent rfl ok_X5_extent ⟨by decide, by decide⟩ ⟨rfl, rfl⟩ (by decide) (by decide) 168 (by decide) rfl rfl (fun hI => cn_X5_extent _ Z adx hI D sav old hsz cs len g (xs (i + 1)) (xs (i + 2)) (xs (i + 3)) h5) rfl dL_law_579 rfl (Nat.le_of_ble_eq_true rfl) ?_
  show GL _ Z 8 _ 178 4225 (gW 175 adx (xE Z.2.1 Z.2.2 adx D sav old hsz cs len g) ++ gW 3 adm (mdlE Z.2.1 adm s6 t6 g6)) _ _ _
  refine l_aload_n (C d0) dL_law_582 2 rfl ?_
  refine l_aload_n (C d0) dL_law_583 0 rfl ?_
  refine l_iload_n (C d0) dL_law_584 3 rfl ?_
  refine l_iconst (v := nI 1) (C d0) dL_law_585 (by decide) ?_
  refine l_iadd (C d0) dL_law_586 ?_
  rw [nI_add]
  refine l_sld (C d0) hX hbl (fun h => absurd hbl (Nat.not_lt.mpr h)) (nI_in (c := i + 1) (by omega) (by omega)) dL_law_587 ?_
  rw [nI_clamp (by omega)]
  refine l_aload_n (C d0) dL_law_588 0 rfl ?_
  refine l_iload_n (C d0) dL_law_589 3 rfl ?_
  refine l_iconst (v := nI 2) (C d0) dL_law_590 (by decide) ?_
  refine l_iadd (C d0) dL_law_591 ?_
  rw [nI_add]
  refine l_sld (C d0) hX hbl (fun h => absurd hbl (Nat.not_lt.mpr h)) (nI_in (c := i + 2) (by omega) (by omega)) dL_law_592 ?_
  rw [nI_clamp (by omega)]
  refine l_aload_n (C d0) dL_law_593 0 rfl ?_
  refine l_iload_n (C d0) dL_law_594 3 rfl ?_
  refine l_iconst (v := nI 3) (C d0) dL_law_595 (by decide) ?_
  refine l_iadd (C d0) dL_law_596 ?_
  rw [nI_add]
  refine l_sld (C d0) hX hbl (fun h => absurd hbl (Nat.not_lt.mpr h)) (nI_in (c := i + 3) (by omega) (by omega)) dL_law_597 ?_
  rw [nI_clamp (by omega)]
  refine l_callEi (rest := [.int r]) (wa := gW 175 adx (xE Z.2.1 Z.2.2 adx D sav old hsz cs len g)) (m := 3) (adc := adm) (Ec := mdlE Z.2.1 adm s6 t6 g6) (Ec' := mdlE Z.2.1 adm s6 t6 g6) (C d0) gL_law_X6_extent rfl ok_X6_extent ⟨by decide, by decide⟩ ⟨rfl, rfl⟩ (by decide) (by decide) 0 (by decide) rfl rfl (fun hI => cn_X6_extent _ Z adm hI s6 t6 g6 (xs (i + 1)) (xs (i + 2)) (xs (i + 3)) h6) rfl dL_law_598 rfl (Nat.le_of_ble_eq_true rfl) ?_
  exact l_icmp_eq (tgt := 845) (C d0) dL_law_601 (by decide) (fun _ => kk) (fun hc => absurd rfl hc)
set_option maxHeartbeats 8000000 in
set_option maxRecDepth 100000 in
theorem lc_run {p : Program} {l : Launch} {e : Env} {s : State} {m : MethodId} {below : List Frame} {meth : Method} {c : Code} {Z : gZ} {b L : Nat} {xs : Nat → Int32} {adx adm : Nat → Nat} {i : Nat} {D : Nat → Nat → Nat → Int32} {sav : Int32} {old : Int32} {hsz : Int32} {cs : Nat → Int32} {len : Int32} {g : Nat → Int32} {s6 t6 g6 : Nat → Int32} {r : Int32} (C : ∀ d, LC (gXD p l e room_1 s m #[Value.ref b] below meth c (lw_Z below #[Value.ref b] s) d) Z cL_law 8 wsL_law RL room_1 (fun q => s.heap.size ≤ q)) (hX : va_X b L xs s s.heap) (hbl : b < s.heap.size) (hi : i + 5 ≤ L) (hL : L ≤ 2560) (h5 : f_X5_run D sav old hsz cs len g (xs (i + 1)) (xs (i + 2)) = some r) (h6 : f_X6_run s6 t6 g6 (xs (i + 1)) (xs (i + 2)) = some r) {d0 : Drawn} (kk : GL (gXD p l e room_1 s m #[Value.ref b] below meth c (lw_Z below #[Value.ref b] s) d0) Z 8 (fun q => s.heap.size ≤ q) 178 4225 (gW 175 adx (xE Z.2.1 Z.2.2 adx D sav old hsz cs len g) ++ gW 3 adm (mdlE Z.2.1 adm s6 t6 g6)) 845 [(0, .ref b), (1, .ref (adx 168)), (2, .ref (adm 0)), (3, .int (nI i))] []) : GL (gXD p l e room_1 s m #[Value.ref b] below meth c (lw_Z below #[Value.ref b] s) d0) Z 8 (fun q => s.heap.size ≤ q) 178 4225 (gW 175 adx (xE Z.2.1 Z.2.2 adx D sav old hsz cs len g) ++ gW 3 adm (mdlE Z.2.1 adm s6 t6 g6)) 606 [(0, .ref b), (1, .ref (adx 168)), (2, .ref (adm 0)), (3, .int (nI i))] [] := by
  refine l_aload_n (C d0) dL_law_606 1 rfl ?_
  refine l_aload_n (C d0) dL_law_607 0 rfl ?_
  refine l_iload_n (C d0) dL_law_608 3 rfl ?_
  refine l_iconst (v := nI 1) (C d0) dL_law_609 (by decide) ?_
  refine l_iadd (C d0) dL_law_610 ?_
  rw [nI_add]
  refine l_sld (C d0) hX hbl (fun h => absurd hbl (Nat.not_lt.mpr h)) (nI_in (c := i + 1) (by omega) (by omega)) dL_law_611 ?_
  rw [nI_clamp (by omega)]
  refine l_aload_n (C d0) dL_law_612 0 rfl ?_
  refine l_iload_n (C d0) dL_law_613 3 rfl ?_
  refine l_iconst (v := nI 2) (C d0) dL_law_614 (by decide) ?_
  refine l_iadd (C d0) dL_law_615 ?_
  rw [nI_add]
  refine l_sld (C d0) hX hbl (fun h => absurd hbl (Nat.not_lt.mpr h)) (nI_in (c := i + 2) (by omega) (by omega)) dL_law_616 ?_
  rw [nI_clamp (by omega)]
  refine l_callVi (rest := []) (wa := []) (wb := gW 3 adm (mdlE Z.2.1 adm s6 t6 g6)) (m := 175) (adc := adx) (Ec := xE Z.2.1 Z.2.2 adx D sav old hsz cs len g) (Ec' := xE Z.2.1 Z.2.2 adx D sav old hsz cs len g) (C d0) gL_law_X5_run rfl ok_X5_run ⟨by decide, by decide⟩ ⟨rfl, rfl⟩ (by decide) (by decide) 168 (by decide) rfl rfl (fun hI => cn_X5_run _ Z adx hI D sav old hsz cs len g (xs (i + 1)) (xs (i + 2)) h5) rfl dL_law_617 rfl (Nat.le_of_ble_eq_true rfl) ?_
  show GL _ Z 8 _ 178 4225 (gW 175 adx (xE Z.2.1 Z.2.2 adx D sav old hsz cs len g) ++ gW 3 adm (mdlE Z.2.1 adm s6 t6 g6)) _ _ _
  refine l_aload_n (C d0) dL_law_620 2 rfl ?_
  refine l_aload_n (C d0) dL_law_621 0 rfl ?_
  refine l_iload_n (C d0) dL_law_622 3 rfl ?_
  refine l_iconst (v := nI 1) (C d0) dL_law_623 (by decide) ?_
  refine l_iadd (C d0) dL_law_624 ?_
  rw [nI_add]
  refine l_sld (C d0) hX hbl (fun h => absurd hbl (Nat.not_lt.mpr h)) (nI_in (c := i + 1) (by omega) (by omega)) dL_law_625 ?_
  rw [nI_clamp (by omega)]
  refine l_aload_n (C d0) dL_law_626 0 rfl ?_
  refine l_iload_n (C d0) dL_law_627 3 rfl ?_
  refine l_iconst (v := nI 2) (C d0) dL_law_628 (by decide) ?_
  refine l_iadd (C d0) dL_law_629 ?_
  rw [nI_add]
  refine l_sld (C d0) hX hbl (fun h => absurd hbl (Nat.not_lt.mpr h)) (nI_in (c := i + 2) (by omega) (by omega)) dL_law_630 ?_
  rw [nI_clamp (by omega)]
  refine l_callEi (rest := [.int r]) (wa := gW 175 adx (xE Z.2.1 Z.2.2 adx D sav old hsz cs len g)) (m := 3) (adc := adm) (Ec := mdlE Z.2.1 adm s6 t6 g6) (Ec' := mdlE Z.2.1 adm s6 t6 g6) (C d0) gL_law_X6_run rfl ok_X6_run ⟨by decide, by decide⟩ ⟨rfl, rfl⟩ (by decide) (by decide) 0 (by decide) rfl rfl (fun hI => cn_X6_run _ Z adm hI s6 t6 g6 (xs (i + 1)) (xs (i + 2)) h6) rfl dL_law_631 rfl (Nat.le_of_ble_eq_true rfl) ?_
  exact l_icmp_eq (tgt := 845) (C d0) dL_law_634 (by decide) (fun _ => kk) (fun hc => absurd rfl hc)
set_option maxHeartbeats 8000000 in
set_option maxRecDepth 100000 in
theorem lc_read {p : Program} {l : Launch} {e : Env} {s : State} {m : MethodId} {below : List Frame} {meth : Method} {c : Code} {Z : gZ} {b L : Nat} {xs : Nat → Int32} {adx adm : Nat → Nat} {i : Nat} {D : Nat → Nat → Nat → Int32} {sav : Int32} {old : Int32} {hsz : Int32} {cs : Nat → Int32} {len : Int32} {g : Nat → Int32} {s6 t6 g6 : Nat → Int32} {r : Int32} (C : ∀ d, LC (gXD p l e room_1 s m #[Value.ref b] below meth c (lw_Z below #[Value.ref b] s) d) Z cL_law 8 wsL_law RL room_1 (fun q => s.heap.size ≤ q)) (hX : va_X b L xs s s.heap) (hbl : b < s.heap.size) (hi : i + 5 ≤ L) (hL : L ≤ 2560) (h5 : f_X5_read D sav old hsz cs len g (xs (i + 1)) (xs (i + 2)) (xs (i + 3)) (xs (i + 4)) = some r) (h6 : f_X6_read s6 t6 g6 (xs (i + 1)) (xs (i + 2)) (xs (i + 3)) (xs (i + 4)) = some r) {d0 : Drawn} (kk : GL (gXD p l e room_1 s m #[Value.ref b] below meth c (lw_Z below #[Value.ref b] s) d0) Z 8 (fun q => s.heap.size ≤ q) 178 4225 (gW 175 adx (xE Z.2.1 Z.2.2 adx D sav old hsz cs len g) ++ gW 3 adm (mdlE Z.2.1 adm s6 t6 g6)) 845 [(0, .ref b), (1, .ref (adx 168)), (2, .ref (adm 0)), (3, .int (nI i))] []) : GL (gXD p l e room_1 s m #[Value.ref b] below meth c (lw_Z below #[Value.ref b] s) d0) Z 8 (fun q => s.heap.size ≤ q) 178 4225 (gW 175 adx (xE Z.2.1 Z.2.2 adx D sav old hsz cs len g) ++ gW 3 adm (mdlE Z.2.1 adm s6 t6 g6)) 639 [(0, .ref b), (1, .ref (adx 168)), (2, .ref (adm 0)), (3, .int (nI i))] [] := by
  refine l_aload_n (C d0) dL_law_639 1 rfl ?_
  refine l_aload_n (C d0) dL_law_640 0 rfl ?_
  refine l_iload_n (C d0) dL_law_641 3 rfl ?_
  refine l_iconst (v := nI 1) (C d0) dL_law_642 (by decide) ?_
  refine l_iadd (C d0) dL_law_643 ?_
  rw [nI_add]
  refine l_sld (C d0) hX hbl (fun h => absurd hbl (Nat.not_lt.mpr h)) (nI_in (c := i + 1) (by omega) (by omega)) dL_law_644 ?_
  rw [nI_clamp (by omega)]
  refine l_aload_n (C d0) dL_law_645 0 rfl ?_
  refine l_iload_n (C d0) dL_law_646 3 rfl ?_
  refine l_iconst (v := nI 2) (C d0) dL_law_647 (by decide) ?_
  refine l_iadd (C d0) dL_law_648 ?_
  rw [nI_add]
  refine l_sld (C d0) hX hbl (fun h => absurd hbl (Nat.not_lt.mpr h)) (nI_in (c := i + 2) (by omega) (by omega)) dL_law_649 ?_
  rw [nI_clamp (by omega)]
  refine l_aload_n (C d0) dL_law_650 0 rfl ?_
  refine l_iload_n (C d0) dL_law_651 3 rfl ?_
  refine l_iconst (v := nI 3) (C d0) dL_law_652 (by decide) ?_
  refine l_iadd (C d0) dL_law_653 ?_
  rw [nI_add]
  refine l_sld (C d0) hX hbl (fun h => absurd hbl (Nat.not_lt.mpr h)) (nI_in (c := i + 3) (by omega) (by omega)) dL_law_654 ?_
  rw [nI_clamp (by omega)]
  refine l_aload_n (C d0) dL_law_655 0 rfl ?_
  refine l_iload_n (C d0) dL_law_656 3 rfl ?_
  refine l_iconst (v := nI 4) (C d0) dL_law_657 (by decide) ?_
  refine l_iadd (C d0) dL_law_658 ?_
  rw [nI_add]
  refine l_sld (C d0) hX hbl (fun h => absurd hbl (Nat.not_lt.mpr h)) (nI_in (c := i + 4) (by omega) (by omega)) dL_law_659 ?_
  rw [nI_clamp (by omega)]
  refine l_callVi (rest := []) (wa := []) (wb := gW 3 adm (mdlE Z.2.1 adm s6 t6 g6)) (m := 175) (adc := adx) (Ec := xE Z.2.1 Z.2.2 adx D sav old hsz cs len g) (Ec' := xE Z.2.1 Z.2.2 adx D sav old hsz cs len g) (C d0) gL_law_X5_read rfl ok_X5_read ⟨by decide, by decide⟩ ⟨rfl, rfl⟩ (by decide) (by decide) 168 (by decide) rfl rfl (fun hI => cn_X5_read _ Z adx hI D sav old hsz cs len g (xs (i + 1)) (xs (i + 2)) (xs (i + 3)) (xs (i + 4)) h5) rfl dL_law_660 rfl (Nat.le_of_ble_eq_true rfl) ?_
  show GL _ Z 8 _ 178 4225 (gW 175 adx (xE Z.2.1 Z.2.2 adx D sav old hsz cs len g) ++ gW 3 adm (mdlE Z.2.1 adm s6 t6 g6)) _ _ _
  refine l_aload_n (C d0) dL_law_663 2 rfl ?_
  refine l_aload_n (C d0) dL_law_664 0 rfl ?_
  refine l_iload_n (C d0) dL_law_665 3 rfl ?_
  refine l_iconst (v := nI 1) (C d0) dL_law_666 (by decide) ?_
  refine l_iadd (C d0) dL_law_667 ?_
  rw [nI_add]
  refine l_sld (C d0) hX hbl (fun h => absurd hbl (Nat.not_lt.mpr h)) (nI_in (c := i + 1) (by omega) (by omega)) dL_law_668 ?_
  rw [nI_clamp (by omega)]
  refine l_aload_n (C d0) dL_law_669 0 rfl ?_
  refine l_iload_n (C d0) dL_law_670 3 rfl ?_
  refine l_iconst (v := nI 2) (C d0) dL_law_671 (by decide) ?_
  refine l_iadd (C d0) dL_law_672 ?_
  rw [nI_add]
  refine l_sld (C d0) hX hbl (fun h => absurd hbl (Nat.not_lt.mpr h)) (nI_in (c := i + 2) (by omega) (by omega)) dL_law_673 ?_
  rw [nI_clamp (by omega)]
  refine l_aload_n (C d0) dL_law_674 0 rfl ?_
  refine l_iload_n (C d0) dL_law_675 3 rfl ?_
  refine l_iconst (v := nI 3) (C d0) dL_law_676 (by decide) ?_
  refine l_iadd (C d0) dL_law_677 ?_
  rw [nI_add]
  refine l_sld (C d0) hX hbl (fun h => absurd hbl (Nat.not_lt.mpr h)) (nI_in (c := i + 3) (by omega) (by omega)) dL_law_678 ?_
  rw [nI_clamp (by omega)]
  refine l_aload_n (C d0) dL_law_679 0 rfl ?_
  refine l_iload_n (C d0) dL_law_680 3 rfl ?_
  refine l_iconst (v := nI 4) (C d0) dL_law_681 (by decide) ?_
  refine l_iadd (C d0) dL_law_682 ?_
  rw [nI_add]
  refine l_sld (C d0) hX hbl (fun h => absurd hbl (Nat.not_lt.mpr h)) (nI_in (c := i + 4) (by omega) (by omega)) dL_law_683 ?_
  rw [nI_clamp (by omega)]
  refine l_callEi (rest := [.int r]) (wa := gW 175 adx (xE Z.2.1 Z.2.2 adx D sav old hsz cs len g)) (m := 3) (adc := adm) (Ec := mdlE Z.2.1 adm s6 t6 g6) (Ec' := mdlE Z.2.1 adm s6 t6 g6) (C d0) gL_law_X6_read rfl ok_X6_read ⟨by decide, by decide⟩ ⟨rfl, rfl⟩ (by decide) (by decide) 0 (by decide) rfl rfl (fun hI => cn_X6_read _ Z adm hI s6 t6 g6 (xs (i + 1)) (xs (i + 2)) (xs (i + 3)) (xs (i + 4)) h6) rfl dL_law_684 rfl (Nat.le_of_ble_eq_true rfl) ?_
  exact l_icmp_eq (tgt := 845) (C d0) dL_law_687 (by decide) (fun _ => kk) (fun hc => absurd rfl hc)
set_option maxHeartbeats 8000000 in
set_option maxRecDepth 100000 in
theorem lc_count {p : Program} {l : Launch} {e : Env} {s : State} {m : MethodId} {below : List Frame} {meth : Method} {c : Code} {Z : gZ} {b L : Nat} {xs : Nat → Int32} {adx adm : Nat → Nat} {i : Nat} {D : Nat → Nat → Nat → Int32} {sav : Int32} {old : Int32} {hsz : Int32} {cs : Nat → Int32} {len : Int32} {g : Nat → Int32} {s6 t6 g6 : Nat → Int32} {r : Int32} (C : ∀ d, LC (gXD p l e room_1 s m #[Value.ref b] below meth c (lw_Z below #[Value.ref b] s) d) Z cL_law 8 wsL_law RL room_1 (fun q => s.heap.size ≤ q)) (hX : va_X b L xs s s.heap) (hbl : b < s.heap.size) (hi : i + 5 ≤ L) (hL : L ≤ 2560) (h5 : f_X5_count D sav old hsz cs len g (xs (i + 1)) = some r) (h6 : f_X6_count s6 t6 g6 (xs (i + 1)) = some r) {d0 : Drawn} (kk : GL (gXD p l e room_1 s m #[Value.ref b] below meth c (lw_Z below #[Value.ref b] s) d0) Z 8 (fun q => s.heap.size ≤ q) 178 4225 (gW 175 adx (xE Z.2.1 Z.2.2 adx D sav old hsz cs len g) ++ gW 3 adm (mdlE Z.2.1 adm s6 t6 g6)) 845 [(0, .ref b), (1, .ref (adx 168)), (2, .ref (adm 0)), (3, .int (nI i))] []) : GL (gXD p l e room_1 s m #[Value.ref b] below meth c (lw_Z below #[Value.ref b] s) d0) Z 8 (fun q => s.heap.size ≤ q) 178 4225 (gW 175 adx (xE Z.2.1 Z.2.2 adx D sav old hsz cs len g) ++ gW 3 adm (mdlE Z.2.1 adm s6 t6 g6)) 692 [(0, .ref b), (1, .ref (adx 168)), (2, .ref (adm 0)), (3, .int (nI i))] [] := by
  refine l_aload_n (C d0) dL_law_692 1 rfl ?_
  refine l_aload_n (C d0) dL_law_693 0 rfl ?_
  refine l_iload_n (C d0) dL_law_694 3 rfl ?_
  refine l_iconst (v := nI 1) (C d0) dL_law_695 (by decide) ?_
  refine l_iadd (C d0) dL_law_696 ?_
  rw [nI_add]
  refine l_sld (C d0) hX hbl (fun h => absurd hbl (Nat.not_lt.mpr h)) (nI_in (c := i + 1) (by omega) (by omega)) dL_law_697 ?_
  rw [nI_clamp (by omega)]
  refine l_callVi (rest := []) (wa := []) (wb := gW 3 adm (mdlE Z.2.1 adm s6 t6 g6)) (m := 175) (adc := adx) (Ec := xE Z.2.1 Z.2.2 adx D sav old hsz cs len g) (Ec' := xE Z.2.1 Z.2.2 adx D sav old hsz cs len g) (C d0) gL_law_X5_count rfl ok_X5_count ⟨by decide, by decide⟩ ⟨rfl, rfl⟩ (by decide) (by decide) 168 (by decide) rfl rfl (fun hI => cn_X5_count _ Z adx hI D sav old hsz cs len g (xs (i + 1)) h5) rfl dL_law_698 rfl (Nat.le_of_ble_eq_true rfl) ?_
  show GL _ Z 8 _ 178 4225 (gW 175 adx (xE Z.2.1 Z.2.2 adx D sav old hsz cs len g) ++ gW 3 adm (mdlE Z.2.1 adm s6 t6 g6)) _ _ _
  refine l_aload_n (C d0) dL_law_701 2 rfl ?_
  refine l_aload_n (C d0) dL_law_702 0 rfl ?_
  refine l_iload_n (C d0) dL_law_703 3 rfl ?_
  refine l_iconst (v := nI 1) (C d0) dL_law_704 (by decide) ?_
  refine l_iadd (C d0) dL_law_705 ?_
  rw [nI_add]
  refine l_sld (C d0) hX hbl (fun h => absurd hbl (Nat.not_lt.mpr h)) (nI_in (c := i + 1) (by omega) (by omega)) dL_law_706 ?_
  rw [nI_clamp (by omega)]
  refine l_callEi (rest := [.int r]) (wa := gW 175 adx (xE Z.2.1 Z.2.2 adx D sav old hsz cs len g)) (m := 3) (adc := adm) (Ec := mdlE Z.2.1 adm s6 t6 g6) (Ec' := mdlE Z.2.1 adm s6 t6 g6) (C d0) gL_law_X6_count rfl ok_X6_count ⟨by decide, by decide⟩ ⟨rfl, rfl⟩ (by decide) (by decide) 0 (by decide) rfl rfl (fun hI => cn_X6_count _ Z adm hI s6 t6 g6 (xs (i + 1)) h6) rfl dL_law_707 rfl (Nat.le_of_ble_eq_true rfl) ?_
  exact l_icmp_eq (tgt := 845) (C d0) dL_law_710 (by decide) (fun _ => kk) (fun hc => absurd rfl hc)
set_option maxHeartbeats 8000000 in
set_option maxRecDepth 100000 in
theorem lc_total {p : Program} {l : Launch} {e : Env} {s : State} {m : MethodId} {below : List Frame} {meth : Method} {c : Code} {Z : gZ} {b L : Nat} {xs : Nat → Int32} {adx adm : Nat → Nat} {i : Nat} {D : Nat → Nat → Nat → Int32} {sav : Int32} {old : Int32} {hsz : Int32} {cs : Nat → Int32} {len : Int32} {g : Nat → Int32} {s6 t6 g6 : Nat → Int32} {r : Int32} (C : ∀ d, LC (gXD p l e room_1 s m #[Value.ref b] below meth c (lw_Z below #[Value.ref b] s) d) Z cL_law 8 wsL_law RL room_1 (fun q => s.heap.size ≤ q)) (hX : va_X b L xs s s.heap) (hbl : b < s.heap.size) (hi : i + 5 ≤ L) (hL : L ≤ 2560) (h5 : f_X5_total D sav old hsz cs len g (xs (i + 1)) = some r) (h6 : f_X6_total s6 t6 g6 (xs (i + 1)) = some r) {d0 : Drawn} (kk : GL (gXD p l e room_1 s m #[Value.ref b] below meth c (lw_Z below #[Value.ref b] s) d0) Z 8 (fun q => s.heap.size ≤ q) 178 4225 (gW 175 adx (xE Z.2.1 Z.2.2 adx D sav old hsz cs len g) ++ gW 3 adm (mdlE Z.2.1 adm s6 t6 g6)) 845 [(0, .ref b), (1, .ref (adx 168)), (2, .ref (adm 0)), (3, .int (nI i))] []) : GL (gXD p l e room_1 s m #[Value.ref b] below meth c (lw_Z below #[Value.ref b] s) d0) Z 8 (fun q => s.heap.size ≤ q) 178 4225 (gW 175 adx (xE Z.2.1 Z.2.2 adx D sav old hsz cs len g) ++ gW 3 adm (mdlE Z.2.1 adm s6 t6 g6)) 715 [(0, .ref b), (1, .ref (adx 168)), (2, .ref (adm 0)), (3, .int (nI i))] [] := by
  refine l_aload_n (C d0) dL_law_715 1 rfl ?_
  refine l_aload_n (C d0) dL_law_716 0 rfl ?_
  refine l_iload_n (C d0) dL_law_717 3 rfl ?_
  refine l_iconst (v := nI 1) (C d0) dL_law_718 (by decide) ?_
  refine l_iadd (C d0) dL_law_719 ?_
  rw [nI_add]
  refine l_sld (C d0) hX hbl (fun h => absurd hbl (Nat.not_lt.mpr h)) (nI_in (c := i + 1) (by omega) (by omega)) dL_law_720 ?_
  rw [nI_clamp (by omega)]
  refine l_callVi (rest := []) (wa := []) (wb := gW 3 adm (mdlE Z.2.1 adm s6 t6 g6)) (m := 175) (adc := adx) (Ec := xE Z.2.1 Z.2.2 adx D sav old hsz cs len g) (Ec' := xE Z.2.1 Z.2.2 adx D sav old hsz cs len g) (C d0) gL_law_X5_total rfl ok_X5_total ⟨by decide, by decide⟩ ⟨rfl, rfl⟩ (by decide) (by decide) 168 (by decide) rfl rfl (fun hI => cn_X5_total _ Z adx hI D sav old hsz cs len g (xs (i + 1)) h5) rfl dL_law_721 rfl (Nat.le_of_ble_eq_true rfl) ?_
  show GL _ Z 8 _ 178 4225 (gW 175 adx (xE Z.2.1 Z.2.2 adx D sav old hsz cs len g) ++ gW 3 adm (mdlE Z.2.1 adm s6 t6 g6)) _ _ _
  refine l_aload_n (C d0) dL_law_724 2 rfl ?_
  refine l_aload_n (C d0) dL_law_725 0 rfl ?_
  refine l_iload_n (C d0) dL_law_726 3 rfl ?_
  refine l_iconst (v := nI 1) (C d0) dL_law_727 (by decide) ?_
  refine l_iadd (C d0) dL_law_728 ?_
  rw [nI_add]
  refine l_sld (C d0) hX hbl (fun h => absurd hbl (Nat.not_lt.mpr h)) (nI_in (c := i + 1) (by omega) (by omega)) dL_law_729 ?_
  rw [nI_clamp (by omega)]
  refine l_callEi (rest := [.int r]) (wa := gW 175 adx (xE Z.2.1 Z.2.2 adx D sav old hsz cs len g)) (m := 3) (adc := adm) (Ec := mdlE Z.2.1 adm s6 t6 g6) (Ec' := mdlE Z.2.1 adm s6 t6 g6) (C d0) gL_law_X6_total rfl ok_X6_total ⟨by decide, by decide⟩ ⟨rfl, rfl⟩ (by decide) (by decide) 0 (by decide) rfl rfl (fun hI => cn_X6_total _ Z adm hI s6 t6 g6 (xs (i + 1)) h6) rfl dL_law_730 rfl (Nat.le_of_ble_eq_true rfl) ?_
  exact l_icmp_eq (tgt := 845) (C d0) dL_law_733 (by decide) (fun _ => kk) (fun hc => absurd rfl hc)
set_option maxHeartbeats 8000000 in
set_option maxRecDepth 100000 in
theorem lc_ifAppended {p : Program} {l : Launch} {e : Env} {s : State} {m : MethodId} {below : List Frame} {meth : Method} {c : Code} {Z : gZ} {b L : Nat} {xs : Nat → Int32} {adx adm : Nat → Nat} {i : Nat} {D : Nat → Nat → Nat → Int32} {sav : Int32} {old : Int32} {hsz : Int32} {cs : Nat → Int32} {len : Int32} {g : Nat → Int32} {s6 t6 g6 : Nat → Int32} {r : Int32} {D' : Nat → Nat → Nat → Int32} {s6' : Nat → Int32} (C : ∀ d, LC (gXD p l e room_1 s m #[Value.ref b] below meth c (lw_Z below #[Value.ref b] s) d) Z cL_law 8 wsL_law RL room_1 (fun q => s.heap.size ≤ q)) (hX : va_X b L xs s s.heap) (hbl : b < s.heap.size) (hi : i + 5 ≤ L) (hL : L ≤ 2560) (h5 : f_X5_ifAppended D sav old hsz cs len g (xs (i + 1)) (xs (i + 2)) (xs (i + 3)) = some (r, D')) (h6 : f_X6_ifAppended s6 t6 g6 (xs (i + 1)) (xs (i + 2)) (xs (i + 3)) = some (r, s6')) {d0 : Drawn} (kk : GL (gXD p l e room_1 s m #[Value.ref b] below meth c (lw_Z below #[Value.ref b] s) d0) Z 8 (fun q => s.heap.size ≤ q) 178 4225 (gW 175 adx (xE Z.2.1 Z.2.2 adx D' sav old hsz cs len g) ++ gW 3 adm (mdlE Z.2.1 adm s6' t6 g6)) 845 [(0, .ref b), (1, .ref (adx 168)), (2, .ref (adm 0)), (3, .int (nI i))] []) : GL (gXD p l e room_1 s m #[Value.ref b] below meth c (lw_Z below #[Value.ref b] s) d0) Z 8 (fun q => s.heap.size ≤ q) 178 4225 (gW 175 adx (xE Z.2.1 Z.2.2 adx D sav old hsz cs len g) ++ gW 3 adm (mdlE Z.2.1 adm s6 t6 g6)) 738 [(0, .ref b), (1, .ref (adx 168)), (2, .ref (adm 0)), (3, .int (nI i))] [] := by
  refine l_aload_n (C d0) dL_law_738 1 rfl ?_
  refine l_aload_n (C d0) dL_law_739 0 rfl ?_
  refine l_iload_n (C d0) dL_law_740 3 rfl ?_
  refine l_iconst (v := nI 1) (C d0) dL_law_741 (by decide) ?_
  refine l_iadd (C d0) dL_law_742 ?_
  rw [nI_add]
  refine l_sld (C d0) hX hbl (fun h => absurd hbl (Nat.not_lt.mpr h)) (nI_in (c := i + 1) (by omega) (by omega)) dL_law_743 ?_
  rw [nI_clamp (by omega)]
  refine l_aload_n (C d0) dL_law_744 0 rfl ?_
  refine l_iload_n (C d0) dL_law_745 3 rfl ?_
  refine l_iconst (v := nI 2) (C d0) dL_law_746 (by decide) ?_
  refine l_iadd (C d0) dL_law_747 ?_
  rw [nI_add]
  refine l_sld (C d0) hX hbl (fun h => absurd hbl (Nat.not_lt.mpr h)) (nI_in (c := i + 2) (by omega) (by omega)) dL_law_748 ?_
  rw [nI_clamp (by omega)]
  refine l_aload_n (C d0) dL_law_749 0 rfl ?_
  refine l_iload_n (C d0) dL_law_750 3 rfl ?_
  refine l_iconst (v := nI 3) (C d0) dL_law_751 (by decide) ?_
  refine l_iadd (C d0) dL_law_752 ?_
  rw [nI_add]
  refine l_sld (C d0) hX hbl (fun h => absurd hbl (Nat.not_lt.mpr h)) (nI_in (c := i + 3) (by omega) (by omega)) dL_law_753 ?_
  rw [nI_clamp (by omega)]
  refine l_callVi (rest := []) (wa := []) (wb := gW 3 adm (mdlE Z.2.1 adm s6 t6 g6)) (m := 175) (adc := adx) (Ec := xE Z.2.1 Z.2.2 adx D sav old hsz cs len g) (Ec' := xE Z.2.1 Z.2.2 adx D' sav old hsz cs len g) (C d0) gL_law_X5_ifAppended rfl ok_X5_ifAppended ⟨by decide, by decide⟩ ⟨rfl, rfl⟩ (by decide) (by decide) 168 (by decide) rfl rfl (fun hI => cn_X5_ifAppended _ Z adx hI D sav old hsz cs len g (xs (i + 1)) (xs (i + 2)) (xs (i + 3)) h5) rfl dL_law_754 rfl (Nat.le_of_ble_eq_true rfl) ?_
  show GL _ Z 8 _ 178 4225 (gW 175 adx (xE Z.2.1 Z.2.2 adx D' sav old hsz cs len g) ++ gW 3 adm (mdlE Z.2.1 adm s6 t6 g6)) _ _ _
  refine l_aload_n (C d0) dL_law_757 2 rfl ?_
  refine l_aload_n (C d0) dL_law_758 0 rfl ?_
  refine l_iload_n (C d0) dL_law_759 3 rfl ?_
  refine l_iconst (v := nI 1) (C d0) dL_law_760 (by decide) ?_
  refine l_iadd (C d0) dL_law_761 ?_
  rw [nI_add]
  refine l_sld (C d0) hX hbl (fun h => absurd hbl (Nat.not_lt.mpr h)) (nI_in (c := i + 1) (by omega) (by omega)) dL_law_762 ?_
  rw [nI_clamp (by omega)]
  refine l_aload_n (C d0) dL_law_763 0 rfl ?_
  refine l_iload_n (C d0) dL_law_764 3 rfl ?_
  refine l_iconst (v := nI 2) (C d0) dL_law_765 (by decide) ?_
  refine l_iadd (C d0) dL_law_766 ?_
  rw [nI_add]
  refine l_sld (C d0) hX hbl (fun h => absurd hbl (Nat.not_lt.mpr h)) (nI_in (c := i + 2) (by omega) (by omega)) dL_law_767 ?_
  rw [nI_clamp (by omega)]
  refine l_aload_n (C d0) dL_law_768 0 rfl ?_
  refine l_iload_n (C d0) dL_law_769 3 rfl ?_
  refine l_iconst (v := nI 3) (C d0) dL_law_770 (by decide) ?_
  refine l_iadd (C d0) dL_law_771 ?_
  rw [nI_add]
  refine l_sld (C d0) hX hbl (fun h => absurd hbl (Nat.not_lt.mpr h)) (nI_in (c := i + 3) (by omega) (by omega)) dL_law_772 ?_
  rw [nI_clamp (by omega)]
  refine l_callEi (rest := [.int r]) (wa := gW 175 adx (xE Z.2.1 Z.2.2 adx D' sav old hsz cs len g)) (m := 3) (adc := adm) (Ec := mdlE Z.2.1 adm s6 t6 g6) (Ec' := mdlE Z.2.1 adm s6' t6 g6) (C d0) gL_law_X6_ifAppended rfl ok_X6_ifAppended ⟨by decide, by decide⟩ ⟨rfl, rfl⟩ (by decide) (by decide) 0 (by decide) rfl rfl (fun hI => cn_X6_ifAppended _ Z adm hI s6 t6 g6 (xs (i + 1)) (xs (i + 2)) (xs (i + 3)) h6) rfl dL_law_773 rfl (Nat.le_of_ble_eq_true rfl) ?_
  exact l_icmp_eq (tgt := 845) (C d0) dL_law_776 (by decide) (fun _ => kk) (fun hc => absurd rfl hc)
set_option maxHeartbeats 8000000 in
set_option maxRecDepth 100000 in
theorem lc_room {p : Program} {l : Launch} {e : Env} {s : State} {m : MethodId} {below : List Frame} {meth : Method} {c : Code} {Z : gZ} {b L : Nat} {xs : Nat → Int32} {adx adm : Nat → Nat} {i : Nat} {D : Nat → Nat → Nat → Int32} {sav : Int32} {old : Int32} {hsz : Int32} {cs : Nat → Int32} {len : Int32} {g : Nat → Int32} {s6 t6 g6 : Nat → Int32} {r : Int32} (C : ∀ d, LC (gXD p l e room_1 s m #[Value.ref b] below meth c (lw_Z below #[Value.ref b] s) d) Z cL_law 8 wsL_law RL room_1 (fun q => s.heap.size ≤ q)) (hX : va_X b L xs s s.heap) (hbl : b < s.heap.size) (hi : i + 5 ≤ L) (hL : L ≤ 2560) (h5 : f_X5_room D sav old hsz cs len g (xs (i + 1)) = some r) (h6 : f_X6_room s6 t6 g6 (xs (i + 1)) = some r) {d0 : Drawn} (kk : GL (gXD p l e room_1 s m #[Value.ref b] below meth c (lw_Z below #[Value.ref b] s) d0) Z 8 (fun q => s.heap.size ≤ q) 178 4225 (gW 175 adx (xE Z.2.1 Z.2.2 adx D sav old hsz cs len g) ++ gW 3 adm (mdlE Z.2.1 adm s6 t6 g6)) 845 [(0, .ref b), (1, .ref (adx 168)), (2, .ref (adm 0)), (3, .int (nI i))] []) : GL (gXD p l e room_1 s m #[Value.ref b] below meth c (lw_Z below #[Value.ref b] s) d0) Z 8 (fun q => s.heap.size ≤ q) 178 4225 (gW 175 adx (xE Z.2.1 Z.2.2 adx D sav old hsz cs len g) ++ gW 3 adm (mdlE Z.2.1 adm s6 t6 g6)) 781 [(0, .ref b), (1, .ref (adx 168)), (2, .ref (adm 0)), (3, .int (nI i))] [] := by
  refine l_aload_n (C d0) dL_law_781 1 rfl ?_
  refine l_aload_n (C d0) dL_law_782 0 rfl ?_
  refine l_iload_n (C d0) dL_law_783 3 rfl ?_
  refine l_iconst (v := nI 1) (C d0) dL_law_784 (by decide) ?_
  refine l_iadd (C d0) dL_law_785 ?_
  rw [nI_add]
  refine l_sld (C d0) hX hbl (fun h => absurd hbl (Nat.not_lt.mpr h)) (nI_in (c := i + 1) (by omega) (by omega)) dL_law_786 ?_
  rw [nI_clamp (by omega)]
  refine l_callVi (rest := []) (wa := []) (wb := gW 3 adm (mdlE Z.2.1 adm s6 t6 g6)) (m := 175) (adc := adx) (Ec := xE Z.2.1 Z.2.2 adx D sav old hsz cs len g) (Ec' := xE Z.2.1 Z.2.2 adx D sav old hsz cs len g) (C d0) gL_law_X5_room rfl ok_X5_room ⟨by decide, by decide⟩ ⟨rfl, rfl⟩ (by decide) (by decide) 168 (by decide) rfl rfl (fun hI => cn_X5_room _ Z adx hI D sav old hsz cs len g (xs (i + 1)) h5) rfl dL_law_787 rfl (Nat.le_of_ble_eq_true rfl) ?_
  show GL _ Z 8 _ 178 4225 (gW 175 adx (xE Z.2.1 Z.2.2 adx D sav old hsz cs len g) ++ gW 3 adm (mdlE Z.2.1 adm s6 t6 g6)) _ _ _
  refine l_aload_n (C d0) dL_law_790 2 rfl ?_
  refine l_aload_n (C d0) dL_law_791 0 rfl ?_
  refine l_iload_n (C d0) dL_law_792 3 rfl ?_
  refine l_iconst (v := nI 1) (C d0) dL_law_793 (by decide) ?_
  refine l_iadd (C d0) dL_law_794 ?_
  rw [nI_add]
  refine l_sld (C d0) hX hbl (fun h => absurd hbl (Nat.not_lt.mpr h)) (nI_in (c := i + 1) (by omega) (by omega)) dL_law_795 ?_
  rw [nI_clamp (by omega)]
  refine l_callEi (rest := [.int r]) (wa := gW 175 adx (xE Z.2.1 Z.2.2 adx D sav old hsz cs len g)) (m := 3) (adc := adm) (Ec := mdlE Z.2.1 adm s6 t6 g6) (Ec' := mdlE Z.2.1 adm s6 t6 g6) (C d0) gL_law_X6_room rfl ok_X6_room ⟨by decide, by decide⟩ ⟨rfl, rfl⟩ (by decide) (by decide) 0 (by decide) rfl rfl (fun hI => cn_X6_room _ Z adm hI s6 t6 g6 (xs (i + 1)) h6) rfl dL_law_796 rfl (Nat.le_of_ble_eq_true rfl) ?_
  exact l_icmp_eq (tgt := 845) (C d0) dL_law_799 (by decide) (fun _ => kk) (fun hc => absurd rfl hc)
theorem ok_X5_wholeness : gOk yX5_wholeness RX5 0 := by refine ⟨?_, ?_, ?_, ?_⟩ <;> decide +kernel
theorem ok_X6_wholeness : gOk yX6_wholeness RX6 0 := by refine ⟨?_, ?_, ?_, ?_⟩ <;> decide +kernel

set_option maxHeartbeats 8000000 in
set_option maxRecDepth 100000 in
theorem lc_wholeness {p : Program} {l : Launch} {e : Env} {s : State} {m : MethodId} {below : List Frame} {meth : Method} {c : Code} {Z : gZ} {b L : Nat} {xs : Nat → Int32} {adx adm : Nat → Nat} {i : Nat} {D : Nat → Nat → Nat → Int32} {sav : Int32} {old : Int32} {hsz : Int32} {cs : Nat → Int32} {len : Int32} {g : Nat → Int32} {s6 t6 g6 : Nat → Int32} {ex fi n ae : Int32} (C : ∀ d, LC (gXD p l e room_1 s m #[Value.ref b] below meth c (lw_Z below #[Value.ref b] s) d) Z cL_law 8 wsL_law RL room_1 (fun q => s.heap.size ≤ q)) (hX : va_X b L xs s s.heap) (hbl : b < s.heap.size) (hi : i + 5 ≤ L) (hL : L ≤ 2560) (h1 : f_X0_allExtents (D 0) = some ex) (h2 : f_X0_filesWithBlocks (D 0) = some fi) (h3 : f_X6_wn s6 t6 g6 = some n) (h4 : f_X6_allExtents s6 t6 g6 = some ae) (hv : wholeV fi ex = wholeM n ae) {d0 : Drawn} (hd0 : s.drawn.sameBut d0 lw_cs) (kk : ∀ d1 : Drawn, s.drawn.sameBut d1 lw_cs → GL (gXD p l e room_1 s m #[Value.ref b] below meth c (lw_Z below #[Value.ref b] s) d1) Z 8 (fun q => s.heap.size ≤ q) 178 4225 (gW 175 adx (xE Z.2.1 Z.2.2 adx D sav old hsz cs len g) ++ gW 3 adm (mdlE Z.2.1 adm s6 t6 g6)) 845 [(0, .ref b), (1, .ref (adx 168)), (2, .ref (adm 0)), (3, .int (nI i))] []) : GL (gXD p l e room_1 s m #[Value.ref b] below meth c (lw_Z below #[Value.ref b] s) d0) Z 8 (fun q => s.heap.size ≤ q) 178 4225 (gW 175 adx (xE Z.2.1 Z.2.2 adx D sav old hsz cs len g) ++ gW 3 adm (mdlE Z.2.1 adm s6 t6 g6)) 804 [(0, .ref b), (1, .ref (adx 168)), (2, .ref (adm 0)), (3, .int (nI i))] [] := by
  refine l_aload_n (C d0) dL_law_804 1 rfl ?_
  refine l_callVd (rest := []) (wa := []) (wb := gW 3 adm (mdlE Z.2.1 adm s6 t6 g6)) (n := 175) (adc := adx) (Ec := xE Z.2.1 Z.2.2 adx D sav old hsz cs len g) (C d0) hd0 gL_law_X5_wholeness rfl ok_X5_wholeness ⟨by decide, by decide⟩ ⟨rfl, rfl⟩ (by decide) (by decide) 168 (by decide) rfl rfl (fun hI => cn_X5_wholeness l Z adx hI D sav old hsz cs len g h1 h2) rfl dL_law_805 rfl (Nat.le_of_ble_eq_true rfl) (fun r1 d1 ha1 hd1 => ?_)
  show GL (gXD p l e room_1 s m #[Value.ref b] below meth c (lw_Z below #[Value.ref b] s) d1) Z 8 _ 178 4225 (gW 175 adx (xE Z.2.1 Z.2.2 adx D sav old hsz cs len g) ++ gW 3 adm (mdlE Z.2.1 adm s6 t6 g6)) _ _ _
  refine l_dstore (C d1) dL_law_808 (by decide) [(4, .double r1), (0, .ref b), (1, .ref (adx 168)), (2, .ref (adm 0)), (3, .int (nI i))] rfl ?_
  refine l_aload_n (C d1) dL_law_810 3 rfl ?_
  have hE : (gW 175 adx (xE Z.2.1 Z.2.2 adx D sav old hsz cs len g) ++ gW 3 adm (mdlE Z.2.1 adm s6 t6 g6)) = (gW 175 adx (xE Z.2.1 Z.2.2 adx D sav old hsz cs len g) ++ (gW 3 adm (mdlE Z.2.1 adm s6 t6 g6) ++ [])) := by rw [List.append_nil]
  rw [hE]
  refine l_callVd (rest := []) (wa := gW 175 adx (xE Z.2.1 Z.2.2 adx D sav old hsz cs len g)) (wb := []) (n := 3) (adc := adm) (Ec := mdlE Z.2.1 adm s6 t6 g6) (C d1) hd1 gL_law_X6_wholeness rfl ok_X6_wholeness ⟨by decide, by decide⟩ ⟨rfl, rfl⟩ (by decide) (by decide) 0 (by decide) rfl rfl (fun hI => cn_X6_wholeness l Z adm hI s6 t6 g6 h3 h4) rfl dL_law_811 rfl (Nat.le_of_ble_eq_true rfl) (fun r2 d2 ha2 hd2 => ?_)
  rw [← hE]
  rw [← hv] at ha2
  refine l_dstore (C d2) dL_law_814 (by decide) [(6, .double r2), (4, .double r1), (0, .ref b), (1, .ref (adx 168)), (2, .ref (adm 0)), (3, .int (nI i))] rfl ?_
  refine l_dload (C d2) dL_law_816 1 rfl ?_
  refine l_dload (C d2) dL_law_818 0 rfl ?_
  refine l_dcmp (C d2) dL_law_820 ?_
  have fin : GL (gXD p l e room_1 s m #[Value.ref b] below meth c (lw_Z below #[Value.ref b] s) d2) Z 8 (fun q => s.heap.size ≤ q) 178 4225 (gW 175 adx (xE Z.2.1 Z.2.2 adx D sav old hsz cs len g) ++ gW 3 adm (mdlE Z.2.1 adm s6 t6 g6)) 842 [(6, .double r2), (4, .double r1), (0, .ref b), (1, .ref (adx 168)), (2, .ref (adm 0)), (3, .int (nI i))] [] := by
    refine l_goto (tgt := 845) (C d2) dL_law_842 (by decide) ?_
    exact l_sub [2, 3, 4, 5] rfl (kk d2 hd2)
  rcases alike_two ha1 ha2 with rfl | ⟨n1, n2⟩
  · obtain ⟨v, hv0⟩ : ∃ v, v = Op.cmpValue (FP.dcmp r1 r1) CmpOp.l := ⟨_, rfl⟩
    rw [← hv0]
    refine l_if_eq (tgt := 842) (C d2) dL_law_821 (by decide) (fun _ => fin) (fun c0 => ?_)
    refine l_dload (C d2) dL_law_824 1 rfl ?_
    refine l_dload (C d2) dL_law_826 1 rfl ?_
    refine l_dcmp (C d2) dL_law_828 ?_
    rw [← hv0]
    refine l_if_eq (tgt := 840) (C d2) dL_law_829 (by decide) (fun h => absurd h c0) (fun _ => ?_)
    refine l_dload (C d2) dL_law_832 0 rfl ?_
    refine l_dload (C d2) dL_law_834 0 rfl ?_
    refine l_dcmp (C d2) dL_law_836 ?_
    rw [← hv0]
    exact l_if_ne (tgt := 842) (C d2) dL_law_837 (by decide) (fun _ => fin) (fun h => absurd h c0)
  · rw [nan_cmp n1]
    refine l_if_eq (tgt := 842) (C d2) dL_law_821 (by decide) (fun _ => fin) (fun c0 => ?_)
    refine l_dload (C d2) dL_law_824 1 rfl ?_
    refine l_dload (C d2) dL_law_826 1 rfl ?_
    refine l_dcmp (C d2) dL_law_828 ?_
    rw [nan_cmp n1]
    refine l_if_eq (tgt := 840) (C d2) dL_law_829 (by decide) (fun h => absurd h c0) (fun _ => ?_)
    refine l_dload (C d2) dL_law_832 0 rfl ?_
    refine l_dload (C d2) dL_law_834 0 rfl ?_
    refine l_dcmp (C d2) dL_law_836 ?_
    rw [nan_cmp n2]
    exact l_if_ne (tgt := 842) (C d2) dL_law_837 (by decide) (fun _ => fin) (fun h => absurd h c0)
set_option maxHeartbeats 8000000 in
set_option maxRecDepth 100000 in
theorem law_disp {R : lawR} (hR : lawStep R) {p : Program} {l : Launch} {e : Env} {s : State} {m : MethodId} {below : List Frame} {meth : Method} {c : Code} {Z : gZ} {b L : Nat} {xs : Nat → Int32} {adx adm : Nat → Nat} {i : Nat} (C : ∀ d, LC (gXD p l e room_1 s m #[Value.ref b] below meth c (lw_Z below #[Value.ref b] s) d) Z cL_law 8 wsL_law RL room_1 (fun q => s.heap.size ≤ q)) (hX : va_X b L xs s s.heap) (hbl : b < s.heap.size) (hi : i + 5 ≤ L) (hL : L ≤ 2560) (kk : ∀ (D : Nat → Nat → Nat → Int32) (sav : Int32) (old : Int32) (hsz : Int32) (cs : Nat → Int32) (len : Int32) (g : Nat → Int32) (s6 t6 g6 : Nat → Int32) (d0 : Drawn), s.drawn.sameBut d0 lw_cs → R D sav old hsz cs len g s6 t6 g6 → GL (gXD p l e room_1 s m #[Value.ref b] below meth c (lw_Z below #[Value.ref b] s) d0) Z 8 (fun q => s.heap.size ≤ q) 178 4225 (gW 175 adx (xE Z.2.1 Z.2.2 adx D sav old hsz cs len g) ++ gW 3 adm (mdlE Z.2.1 adm s6 t6 g6)) 845 [(0, .ref b), (1, .ref (adx 168)), (2, .ref (adm 0)), (3, .int (nI i))] []) (D : Nat → Nat → Nat → Int32) (sav : Int32) (old : Int32) (hsz : Int32) (cs : Nat → Int32) (len : Int32) (g : Nat → Int32) (s6 t6 g6 : Nat → Int32) (d0 : Drawn) (hd0 : s.drawn.sameBut d0 lw_cs) (hr : R D sav old hsz cs len g s6 t6 g6) (v : Int32) : GL (gXD p l e room_1 s m #[Value.ref b] below meth c (lw_Z below #[Value.ref b] s) d0) Z 8 (fun q => s.heap.size ≤ q) 178 4225 (gW 175 adx (xE Z.2.1 Z.2.2 adx D sav old hsz cs len g) ++ gW 3 adm (mdlE Z.2.1 adm s6 t6 g6)) 32 [(0, .ref b), (1, .ref (adx 168)), (2, .ref (adm 0)), (3, .int (nI i))] [.int v] := by
  obtain ⟨qcreate, qopen, qclose, qremove, qsync, qappend, qcut, qcrash, qmend, qset, qtype, qclearText, qfault, qperform, qundo, qsave, qrestore, qblock, qfile, qextent, qrun, qread, qcount, qtotal, qifAppended, qroom, qwholeness⟩ := hR
  by_cases h0 : v = 0
  · refine l_tableIn (tgt := 156) (off := 124) (C d0) 0 h0 dL_law_32 (by decide) (by decide) (by decide) (by decide) ?_
    obtain ⟨r, D', old', hsz', s6', g6', e5, e6, er⟩ := qcreate D sav old hsz cs len g s6 t6 g6 hr
    exact lc_create C hX hbl hi hL e5 e6 (kk D' sav old' hsz' cs len g s6' t6 g6' d0 hd0 er)
  by_cases h1 : v = 1
  · refine l_tableIn (tgt := 169) (off := 137) (C d0) 1 h1 dL_law_32 (by decide) (by decide) (by decide) (by decide) ?_
    obtain ⟨r, D', old', hsz', s6', g6', e5, e6, er⟩ := qopen D sav old hsz cs len g s6 t6 g6 hr (xs (i + 1))
    exact lc_open C hX hbl hi hL e5 e6 (kk D' sav old' hsz' cs len g s6' t6 g6' d0 hd0 er)
  by_cases h2 : v = 2
  · refine l_tableIn (tgt := 192) (off := 160) (C d0) 2 h2 dL_law_32 (by decide) (by decide) (by decide) (by decide) ?_
    obtain ⟨r, D', old', hsz', s6', g6', e5, e6, er⟩ := qclose D sav old hsz cs len g s6 t6 g6 hr (xs (i + 1))
    exact lc_close C hX hbl hi hL e5 e6 (kk D' sav old' hsz' cs len g s6' t6 g6' d0 hd0 er)
  by_cases h3 : v = 3
  · refine l_tableIn (tgt := 215) (off := 183) (C d0) 3 h3 dL_law_32 (by decide) (by decide) (by decide) (by decide) ?_
    obtain ⟨r, D', old', hsz', s6', g6', e5, e6, er⟩ := qremove D sav old hsz cs len g s6 t6 g6 hr (xs (i + 1))
    exact lc_remove C hX hbl hi hL e5 e6 (kk D' sav old' hsz' cs len g s6' t6 g6' d0 hd0 er)
  by_cases h4 : v = 4
  · refine l_tableIn (tgt := 238) (off := 206) (C d0) 4 h4 dL_law_32 (by decide) (by decide) (by decide) (by decide) ?_
    obtain ⟨r, D', old', hsz', s6', g6', e5, e6, er⟩ := qsync D sav old hsz cs len g s6 t6 g6 hr (xs (i + 1))
    exact lc_sync C hX hbl hi hL e5 e6 (kk D' sav old' hsz' cs len g s6' t6 g6' d0 hd0 er)
  by_cases h5 : v = 5
  · refine l_tableIn (tgt := 261) (off := 229) (C d0) 5 h5 dL_law_32 (by decide) (by decide) (by decide) (by decide) ?_
    obtain ⟨r, D', old', hsz', s6', g6', e5, e6, er⟩ := qappend D sav old hsz cs len g s6 t6 g6 hr (xs (i + 1)) (xs (i + 2)) (xs (i + 3))
    exact lc_append C hX hbl hi hL e5 e6 (kk D' sav old' hsz' cs len g s6' t6 g6' d0 hd0 er)
  by_cases h6 : v = 6
  · refine l_tableIn (tgt := 304) (off := 272) (C d0) 6 h6 dL_law_32 (by decide) (by decide) (by decide) (by decide) ?_
    obtain ⟨r, D', old', hsz', s6', g6', e5, e6, er⟩ := qcut D sav old hsz cs len g s6 t6 g6 hr (xs (i + 1)) (xs (i + 2))
    exact lc_cut C hX hbl hi hL e5 e6 (kk D' sav old' hsz' cs len g s6' t6 g6' d0 hd0 er)
  by_cases h7 : v = 7
  · refine l_tableIn (tgt := 337) (off := 305) (C d0) 7 h7 dL_law_32 (by decide) (by decide) (by decide) (by decide) ?_
    obtain ⟨r, D', old', hsz', s6', g6', e5, e6, er⟩ := qcrash D sav old hsz cs len g s6 t6 g6 hr
    exact lc_crash C hX hbl hi hL e5 e6 (kk D' sav old' hsz' cs len g s6' t6 g6' d0 hd0 er)
  by_cases h8 : v = 8
  · refine l_tableIn (tgt := 350) (off := 318) (C d0) 8 h8 dL_law_32 (by decide) (by decide) (by decide) (by decide) ?_
    obtain ⟨r, D', old', hsz', s6', g6', e5, e6, er⟩ := qmend D sav old hsz cs len g s6 t6 g6 hr
    exact lc_mend C hX hbl hi hL e5 e6 (kk D' sav old' hsz' cs len g s6' t6 g6' d0 hd0 er)
  by_cases h9 : v = 9
  · refine l_tableIn (tgt := 363) (off := 331) (C d0) 9 h9 dL_law_32 (by decide) (by decide) (by decide) (by decide) ?_
    obtain ⟨r, D', old', hsz', s6', g6', e5, e6, er⟩ := qset D sav old hsz cs len g s6 t6 g6 hr (xs (i + 1)) (xs (i + 2))
    exact lc_set C hX hbl hi hL e5 e6 (kk D' sav old' hsz' cs len g s6' t6 g6' d0 hd0 er)
  by_cases h10 : v = 10
  · refine l_tableIn (tgt := 396) (off := 364) (C d0) 10 h10 dL_law_32 (by decide) (by decide) (by decide) (by decide) ?_
    obtain ⟨r, cs', len', t6', g6', e5, e6, er⟩ := qtype D sav old hsz cs len g s6 t6 g6 hr (xs (i + 1))
    exact lc_type C hX hbl hi hL e5 e6 (kk D sav old hsz cs' len' g s6 t6' g6' d0 hd0 er)
  by_cases h11 : v = 11
  · refine l_tableIn (tgt := 419) (off := 387) (C d0) 11 h11 dL_law_32 (by decide) (by decide) (by decide) (by decide) ?_
    obtain ⟨r, len', g6', e5, e6, er⟩ := qclearText D sav old hsz cs len g s6 t6 g6 hr
    exact lc_clearText C hX hbl hi hL e5 e6 (kk D sav old hsz cs len' g s6 t6 g6' d0 hd0 er)
  by_cases h12 : v = 12
  · refine l_tableIn (tgt := 432) (off := 400) (C d0) 12 h12 dL_law_32 (by decide) (by decide) (by decide) (by decide) ?_
    obtain ⟨r, g', g6', e5, e6, er⟩ := qfault D sav old hsz cs len g s6 t6 g6 hr
    exact lc_fault C hX hbl hi hL e5 e6 (kk D sav old hsz cs len g' s6 t6 g6' d0 hd0 er)
  by_cases h13 : v = 13
  · refine l_tableIn (tgt := 445) (off := 413) (C d0) 13 h13 dL_law_32 (by decide) (by decide) (by decide) (by decide) ?_
    obtain ⟨r, D', old', hsz', g', s6', g6', e5, e6, er⟩ := qperform D sav old hsz cs len g s6 t6 g6 hr
    exact lc_perform C hX hbl hi hL e5 e6 (kk D' sav old' hsz' cs len g' s6' t6 g6' d0 hd0 er)
  by_cases h14 : v = 14
  · refine l_tableIn (tgt := 458) (off := 426) (C d0) 14 h14 dL_law_32 (by decide) (by decide) (by decide) (by decide) ?_
    obtain ⟨r, D', hsz', s6', g6', e5, e6, er⟩ := qundo D sav old hsz cs len g s6 t6 g6 hr
    exact lc_undo C hX hbl hi hL e5 e6 (kk D' sav old hsz' cs len g s6' t6 g6' d0 hd0 er)
  by_cases h15 : v = 15
  · refine l_tableIn (tgt := 471) (off := 439) (C d0) 15 h15 dL_law_32 (by decide) (by decide) (by decide) (by decide) ?_
    obtain ⟨r, D', sav', s6', g6', e5, e6, er⟩ := qsave D sav old hsz cs len g s6 t6 g6 hr
    exact lc_save C hX hbl hi hL e5 e6 (kk D' sav' old hsz cs len g s6' t6 g6' d0 hd0 er)
  by_cases h16 : v = 16
  · refine l_tableIn (tgt := 484) (off := 452) (C d0) 16 h16 dL_law_32 (by decide) (by decide) (by decide) (by decide) ?_
    obtain ⟨r, D', old', hsz', s6', g6', e5, e6, er⟩ := qrestore D sav old hsz cs len g s6 t6 g6 hr
    exact lc_restore C hX hbl hi hL e5 e6 (kk D' sav old' hsz' cs len g s6' t6 g6' d0 hd0 er)
  by_cases h17 : v = 17
  · refine l_tableIn (tgt := 497) (off := 465) (C d0) 17 h17 dL_law_32 (by decide) (by decide) (by decide) (by decide) ?_
    obtain ⟨r, e5, e6, er⟩ := qblock D sav old hsz cs len g s6 t6 g6 hr (xs (i + 1)) (xs (i + 2))
    exact lc_block C hX hbl hi hL e5 e6 (kk D sav old hsz cs len g s6 t6 g6 d0 hd0 er)
  by_cases h18 : v = 18
  · refine l_tableIn (tgt := 530) (off := 498) (C d0) 18 h18 dL_law_32 (by decide) (by decide) (by decide) (by decide) ?_
    obtain ⟨r, e5, e6, er⟩ := qfile D sav old hsz cs len g s6 t6 g6 hr (xs (i + 1)) (xs (i + 2))
    exact lc_file C hX hbl hi hL e5 e6 (kk D sav old hsz cs len g s6 t6 g6 d0 hd0 er)
  by_cases h19 : v = 19
  · refine l_tableIn (tgt := 563) (off := 531) (C d0) 19 h19 dL_law_32 (by decide) (by decide) (by decide) (by decide) ?_
    obtain ⟨r, e5, e6, er⟩ := qextent D sav old hsz cs len g s6 t6 g6 hr (xs (i + 1)) (xs (i + 2)) (xs (i + 3))
    exact lc_extent C hX hbl hi hL e5 e6 (kk D sav old hsz cs len g s6 t6 g6 d0 hd0 er)
  by_cases h20 : v = 20
  · refine l_tableIn (tgt := 606) (off := 574) (C d0) 20 h20 dL_law_32 (by decide) (by decide) (by decide) (by decide) ?_
    obtain ⟨r, e5, e6, er⟩ := qrun D sav old hsz cs len g s6 t6 g6 hr (xs (i + 1)) (xs (i + 2))
    exact lc_run C hX hbl hi hL e5 e6 (kk D sav old hsz cs len g s6 t6 g6 d0 hd0 er)
  by_cases h21 : v = 21
  · refine l_tableIn (tgt := 639) (off := 607) (C d0) 21 h21 dL_law_32 (by decide) (by decide) (by decide) (by decide) ?_
    obtain ⟨r, e5, e6, er⟩ := qread D sav old hsz cs len g s6 t6 g6 hr (xs (i + 1)) (xs (i + 2)) (xs (i + 3)) (xs (i + 4))
    exact lc_read C hX hbl hi hL e5 e6 (kk D sav old hsz cs len g s6 t6 g6 d0 hd0 er)
  by_cases h22 : v = 22
  · refine l_tableIn (tgt := 692) (off := 660) (C d0) 22 h22 dL_law_32 (by decide) (by decide) (by decide) (by decide) ?_
    obtain ⟨r, e5, e6, er⟩ := qcount D sav old hsz cs len g s6 t6 g6 hr (xs (i + 1))
    exact lc_count C hX hbl hi hL e5 e6 (kk D sav old hsz cs len g s6 t6 g6 d0 hd0 er)
  by_cases h23 : v = 23
  · refine l_tableIn (tgt := 715) (off := 683) (C d0) 23 h23 dL_law_32 (by decide) (by decide) (by decide) (by decide) ?_
    obtain ⟨r, e5, e6, er⟩ := qtotal D sav old hsz cs len g s6 t6 g6 hr (xs (i + 1))
    exact lc_total C hX hbl hi hL e5 e6 (kk D sav old hsz cs len g s6 t6 g6 d0 hd0 er)
  by_cases h24 : v = 24
  · refine l_tableIn (tgt := 738) (off := 706) (C d0) 24 h24 dL_law_32 (by decide) (by decide) (by decide) (by decide) ?_
    obtain ⟨r, D', s6', e5, e6, er⟩ := qifAppended D sav old hsz cs len g s6 t6 g6 hr (xs (i + 1)) (xs (i + 2)) (xs (i + 3))
    exact lc_ifAppended C hX hbl hi hL e5 e6 (kk D' sav old hsz cs len g s6' t6 g6 d0 hd0 er)
  by_cases h25 : v = 25
  · refine l_tableIn (tgt := 781) (off := 749) (C d0) 25 h25 dL_law_32 (by decide) (by decide) (by decide) (by decide) ?_
    obtain ⟨r, e5, e6, er⟩ := qroom D sav old hsz cs len g s6 t6 g6 hr (xs (i + 1))
    exact lc_room C hX hbl hi hL e5 e6 (kk D sav old hsz cs len g s6 t6 g6 d0 hd0 er)
  by_cases h26 : v = 26
  · refine l_tableIn (tgt := 804) (off := 772) (C d0) 26 h26 dL_law_32 (by decide) (by decide) (by decide) (by decide) ?_
    obtain ⟨ex, fi, n, ae, e1, e2, e3, e4, ev⟩ := qwholeness D sav old hsz cs len g s6 t6 g6 hr
    exact lc_wholeness C hX hbl hi hL e1 e2 e3 e4 ev hd0 (fun d1 hd1 => kk D sav old hsz cs len g s6 t6 g6 d1 hd1 hr)
  refine l_tableOut (tgt := 845) (C d0) dL_law_32 (by have n0 := g_ne (a := 0) h0 (by decide); have n1 := g_ne (a := 1) h1 (by decide); have n2 := g_ne (a := 2) h2 (by decide); have n3 := g_ne (a := 3) h3 (by decide); have n4 := g_ne (a := 4) h4 (by decide); have n5 := g_ne (a := 5) h5 (by decide); have n6 := g_ne (a := 6) h6 (by decide); have n7 := g_ne (a := 7) h7 (by decide); have n8 := g_ne (a := 8) h8 (by decide); have n9 := g_ne (a := 9) h9 (by decide); have n10 := g_ne (a := 10) h10 (by decide); have n11 := g_ne (a := 11) h11 (by decide); have n12 := g_ne (a := 12) h12 (by decide); have n13 := g_ne (a := 13) h13 (by decide); have n14 := g_ne (a := 14) h14 (by decide); have n15 := g_ne (a := 15) h15 (by decide); have n16 := g_ne (a := 16) h16 (by decide); have n17 := g_ne (a := 17) h17 (by decide); have n18 := g_ne (a := 18) h18 (by decide); have n19 := g_ne (a := 19) h19 (by decide); have n20 := g_ne (a := 20) h20 (by decide); have n21 := g_ne (a := 21) h21 (by decide); have n22 := g_ne (a := 22) h22 (by decide); have n23 := g_ne (a := 23) h23 (by decide); have n24 := g_ne (a := 24) h24 (by decide); have n25 := g_ne (a := 25) h25 (by decide); have n26 := g_ne (a := 26) h26 (by decide); omega) (by decide) ?_
  exact kk D sav old hsz cs len g s6 t6 g6 d0 hd0 hr
theorem law_exit {L i : Nat} (hL : L ≤ 2560) (h : ¬ (nI L - 5 < nI i)) (hi : i ≤ L) : i + 5 ≤ L := by
  by_cases h5 : 5 ≤ L
  · have e : nI L - 5 = nI (L - 5) := by
      rw [show nI L = nI (L - 5) + nI 5 by rw [nI_add, Nat.sub_add_cancel h5], show (5 : Int32) = nI 5 from rfl, Int32.add_sub_cancel]
    rw [e, nI_ltI (by omega) (by omega)] at h
    omega
  · exfalso
    apply h
    rcases (show L = 0 ∨ L = 1 ∨ L = 2 ∨ L = 3 ∨ L = 4 by omega) with rfl | rfl | rfl | rfl | rfl <;> rcases (show i = 0 ∨ i = 1 ∨ i = 2 ∨ i = 3 ∨ i = 4 by omega) with rfl | rfl | rfl | rfl | rfl <;> decide
set_option maxHeartbeats 8000000 in
set_option maxRecDepth 100000 in
/-- the law's loop -/
theorem law_loop {R : lawR} (hR : lawStep R) {p : Program} {l : Launch} {e : Env} {s : State} {m : MethodId} {below : List Frame} {meth : Method} {c : Code} {Z : gZ} {b L : Nat} {xs : Nat → Int32} {adx adm : Nat → Nat} (C : ∀ d, LC (gXD p l e room_1 s m #[Value.ref b] below meth c (lw_Z below #[Value.ref b] s) d) Z cL_law 8 wsL_law RL room_1 (fun q => s.heap.size ≤ q)) (hX : va_X b L xs s s.heap) (hbl : b < s.heap.size) (hL : L ≤ 2560) (hr : meth.sig.returnType = ret) (hlocks : meth.locks = false) : ∀ (n i : Nat), i ≤ L → L < i + 5 * n → ∀ (D : Nat → Nat → Nat → Int32) (sav : Int32) (old : Int32) (hsz : Int32) (cs : Nat → Int32) (len : Int32) (g : Nat → Int32) (s6 t6 g6 : Nat → Int32) (d0 : Drawn), s.drawn.sameBut d0 lw_cs → R D sav old hsz cs len g s6 t6 g6 → GL (gXD p l e room_1 s m #[Value.ref b] below meth c (lw_Z below #[Value.ref b] s) d0) Z 8 (fun q => s.heap.size ≤ q) 178 4225 (gW 175 adx (xE Z.2.1 Z.2.2 adx D sav old hsz cs len g) ++ gW 3 adm (mdlE Z.2.1 adm s6 t6 g6)) 18 [(0, .ref b), (1, .ref (adx 168)), (2, .ref (adm 0)), (3, .int (nI i))] [] := by
  intro n
  induction n with
  | zero => intro i h1 h2; omega
  | succ n ih =>
    intro i h1 h2 D sav old hsz cs len g s6 t6 g6 d0 hd0 hrel
    refine l_iload_n (C d0) dL_law_18 3 rfl ?_
    refine l_aload_n (C d0) dL_law_19 0 rfl ?_
    refine l_slen (C d0) hX hbl (fun h => absurd hbl (Nat.not_lt.mpr h)) dL_law_20 ?_
    refine l_iconst (v := 5) (C d0) dL_law_21 (by decide) ?_
    refine l_isub (C d0) dL_law_22 ?_
    refine l_icmp_gt (tgt := 851) (C d0) dL_law_23 (by decide) (fun hc => ?_) (fun hc => ?_)
    · refine l_iconst (v := 1) (C d0) dL_law_851 (by decide) ?_
      intro H locs ls hl hP hD hS
      have C1 := C d0
      refine va_forget (fun q hq => hS.2.2 q hq) ?_
      refine W.widen (k := 600000) (n := 7302249) (Nat.le_of_ble_eq_true rfl) (Nat.le_of_ble_eq_true rfl) ?_
      exact lw_ret hd0 C1.1 C1.2.1 hr hlocks dL_law_852
    · have hi := law_exit hL hc h1
      refine l_aload_n (C d0) dL_law_26 0 rfl ?_
      refine l_iload_n (C d0) dL_law_27 3 rfl ?_
      refine l_sld (C d0) hX hbl (fun h => absurd hbl (Nat.not_lt.mpr h)) (nI_in (c := i) (by omega) (by omega)) dL_law_28 ?_
      refine l_bipush (v := 31) (C d0) dL_law_29 (by decide) ?_
      refine l_iand (C d0) dL_law_31 ?_
      refine law_disp hR C hX hbl hi hL (fun D sav old hsz cs len g s6 t6 g6 d0 hd0 hrel => ?_) D sav old hsz cs len g s6 t6 g6 d0 hd0 hrel _
      refine l_iinc (v := nI (i + 5)) (C d0) dL_law_845 3 rfl (nI_add i 5) (by decide) [(3, .int (nI (i + 5))), (0, .ref b), (1, .ref (adx 168)), (2, .ref (adm 0))] rfl ?_
      refine l_goto (tgt := 18) (C d0) dL_law_848 (by decide) ?_
      exact l_sub [1, 2, 3, 0] rfl (ih (i + 5) hi (by omega) D sav old hsz cs len g s6 t6 g6 d0 hd0 hrel)
