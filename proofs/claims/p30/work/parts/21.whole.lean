/-! WHOLENESS, of both: a division that may draw. -/
/-- the contract of a method that may draw: it answers v, or some NaN where v is one; the world stays -/
def gDc (l : Launch) (y : MethodName) (ws : List Cond) (rm : Room) (Z : gZ) (n : Nat) (ad : Nat → Nat) (av : List Value) (E : Nat → va_E) (v : UInt64) : Prop :=
  MetD lw_cs l y ws rm (va_Pc av (gB Z n ad E)) (va_Qd (fun r (_ : Unit) => alike64 r v = true) (fun _ t => gB Z n ad E t) (gA n ad)) 0 0 (gA n ad)
/-- the frame at a record of draws -/
def gXD (p : Program) (l : Launch) (e : Env) (R : Room) (s : State) (m : MethodId) (args : Array Value) (below : List Frame) (meth : Method) (c : Code) (Q : State → Prop) (d : Drawn) : gX := (p, l, e, R, s.setDrawn d, m, args, below, meth, c, Q)
section WROWS
variable {X : gX} {Z : gZ} {cc : ByteArray} {nL : Nat} {Ts : List Cond} {own : String} {rm : Room} {n : Nat} {ad : Nat → Nat} {E : Nat → va_E} {pc : Nat} {lv : List (Nat × Value)} {rest st : List Value}
theorem g_i2d (C : GC X Z cc nL Ts own rm n ad) {x : Int32} (hdg : decode cc pc = .ok (.i2d, 1)) (kk : GG X Z nL n ad E (pc + 1) lv (.double (FP.i2d x) :: rest)) : GG X Z nL n ad E pc lv (.int x :: rest) := by
  obtain ⟨hx, hb, -⟩ := C
  intro H locs ls hl hP hS
  exact lv_i2d hx hb hdg (kk H locs ls hl hP hS)
theorem g_dconst1 (C : GC X Z cc nL Ts own rm n ad) (hdg : decode cc pc = .ok (.dconst 1, 1)) (kk : GG X Z nL n ad E (pc + 1) lv (.double FP.dconst1 :: rest)) : GG X Z nL n ad E pc lv rest := by
  obtain ⟨hx, hb, -⟩ := C
  intro H locs ls hl hP hS
  exact lv_dconst1 hx hb hdg (kk H locs ls hl hP hS)
variable {p : Program} {l : Launch} {e : Env} {R : Room} {s : State} {m : MethodId} {args : Array Value} {below : List Frame} {meth : Method} {c : Code} {Q : State → Prop} {d0 : Drawn}
theorem g_ddiv (C : GC (gXD p l e R s m args below meth c Q d0) Z cc nL Ts own rm n ad) (hd0 : s.drawn.sameBut d0 lw_cs) {x y : UInt64} (hdg : decode cc pc = .ok (.ddiv, 1)) (kk : ∀ (r : UInt64) (d1 : Drawn), alike64 r (FP.ddiv x y) = true → s.drawn.sameBut d1 lw_cs → GG (gXD p l e R s m args below meth c Q d1) Z nL n ad E (pc + 1) lv (.double r :: rest)) : GG (gXD p l e R s m args below meth c Q d0) Z nL n ad E pc lv (.double y :: .double x :: rest) := by
  obtain ⟨hx, hb, -⟩ := C
  intro H locs ls hl hP hS
  exact lv_ddiv_any hd0 lw_bits hx hb hdg (fun r d1 h1 h2 => kk r d1 h1 h2 H locs ls hl hP hS)
theorem g_dret {v r : UInt64} (C : GC (gXD p l e R s m args below meth c (MQD lw_cs below (va_Qd (fun r (_ : Unit) => alike64 r v = true) (fun _ t => gB Z n ad E t) (gA n ad)) args s 0 0 (gA n ad)) d0) Z cc nL Ts own rm n ad) (hd0 : s.drawn.sameBut d0 lw_cs) (hr : meth.sig.returnType = some .double) (hv : alike64 r v = true) (hdg : decode cc pc = .ok (.dreturn, 1)) : GG (gXD p l e R s m args below meth c (MQD lw_cs below (va_Qd (fun r (_ : Unit) => alike64 r v = true) (fun _ t => gB Z n ad E t) (gA n ad)) args s 0 0 (gA n ad)) d0) Z nL n ad E pc lv [.double r] := by
  obtain ⟨hx, hb, hml, hown, hts, hlo, hK, hI, hR⟩ := C
  intro H locs ls hl hP hS
  refine W.endD hd0 ?_
  exact W.dret hx hb hr (fun t ht hW => ⟨⟨r, (), rfl, hv, by rw [ht]; exact hP, va_K.moved hW.alike hK⟩, hS.F ht⟩) hS.2.2 hdg hlo
end WROWS
theorem alike_rfl (v : UInt64) : alike64 v v = true := by
  unfold alike64; simp
theorem g_entryD {l : Launch} {y : MethodName} {ws ws' : List Cond} {rm : Room} {cc : ByteArray} {maxL : Nat} (hy : plainName y.cls = true) (hw : ws = Cond.code y cc maxL (some .double) :: ws') {Z : gZ} {n : Nat} {ad : Nat → Nat} (hI : gInj n ad) {av : List Value} (hav : (lg_sl av).length ≤ maxL) {E : Nat → va_E} {v : UInt64} (body : ∀ (p : Program) (e : Env) (s : State) (m : MethodId) (args : Array Value) (below : List Frame) (meth : Method) (c : Code), (∀ d, GC (gXD p l e rm s m args below meth c (MQD lw_cs below (va_Qd (fun r (_ : Unit) => alike64 r v = true) (fun _ t => gB Z n ad E t) (gA n ad)) args s 0 0 (gA n ad)) d) Z cc maxL ws y.cls rm n ad) → meth.sig.returnType = some .double → s.drawn.sameBut s.drawn lw_cs → GG (gXD p l e rm s m args below meth c (MQD lw_cs below (va_Qd (fun r (_ : Unit) => alike64 r v = true) (fun _ t => gB Z n ad E t) (gA n ad)) args s 0 0 (gA n ad)) s.drawn) Z maxL n ad E 0 (lv_args 0 av) []) : gDc l y ws rm Z n ad av E v := by
  refine MetD.ofW (cc := cc) (maxL := maxL) (ret := some .double) hy hw ?_
  intro p e s m args below meth c s₁ B hml hv hd0
  obtain ⟨rfl, hP, hK⟩ := hv
  have hb := body p e s m av.toArray below meth c (fun d => ⟨B.exec, B.bytes, hml, findClass_of_methodNamed B.named, dr_words (atoms_spec (ws := ws) B.pre) d, B.notSynchronized, hK, hI, rfl⟩) B.returns hd0
  rw [lg_entry_eq]
  exact hb s.heap [] _ (lv_entry av (n := maxL) hav) hP va_S.rf
def wholeV (fi ex : Int32) : UInt64 := if ex ≤ 0 then FP.dconst1 else FP.ddiv (FP.i2d fi) (FP.i2d ex)
abbrev rm_X5_wholeness : Room := { frames := 4, cells := 0, slots := 0, locals := 200 }
set_option maxRecDepth 20000 in
theorem in_X5_wholeness : ∀ w ∈ wsX50, w ∈ wsX5_wholeness := by decide +kernel
set_option maxRecDepth 20000 in
theorem fl_X5_wholeness_10 : Cond.fieldLink RX5 10 (TX5 0).1 (TX5 0).2.1 (TX5 0).2.2.1 ∈ wsX5_wholeness := by decide +kernel
set_option maxHeartbeats 4000000 in
set_option maxRecDepth 100000 in
theorem cn_X5_wholeness (l : Launch) (Z : gZ) (ad : Nat → Nat) (hI : gInj 175 ad) (D : Nat → Nat → Nat → Int32) (sav old hsz : Int32) (cs : Nat → Int32) (len : Int32) (g : Nat → Int32) {ex fi : Int32} (h1 : f_X0_allExtents (D 0) = some ex) (h2 : f_X0_filesWithBlocks (D 0) = some fi) : gDc l yX5_wholeness wsX5_wholeness rm_X5_wholeness Z 175 ad [.ref (ad 168)] (xE Z.2.1 Z.2.2 ad D sav old hsz cs len g) (wholeV fi ex) := by
  refine g_entryD (cc := cX5_wholeness) (maxL := 2) (by decide +kernel) rfl hI (Nat.le_of_ble_eq_true rfl) (fun p e s m args below meth c C hr hd0 => ?_)
  show GG (gXD _ _ _ _ _ _ _ _ _ _ _ _) Z 2 175 ad (xE Z.2.1 Z.2.2 ad D sav old hsz cs len g) 0 [(0, .ref (ad 168))] []
  refine g_aload_n (C _) dX5_wholeness_0 0 rfl ?_
  refine g_getf (v := .ref (ad (21 * 0))) (C _) 168 (by decide) rfl rfl in_X5_wholeness 0 (by decide) fl_X5_wholeness_10 rfl dX5_wholeness_1 ?_
  refine g_callVi (rest := []) (C _) gX5_wholeness_X0_allExtents rfl ok_X0_allExtents ⟨by decide, by decide⟩ ⟨rfl, rfl⟩ (21 * 0) 21 (by decide) (adc := fun i => ad (21 * 0 + i)) (fun _ _ => rfl) (xE_dsk 0 (by decide)) 0 (by decide) rfl rfl (fun hI => cn_X0_allExtents _ Z (fun i => ad (21 * 0 + i)) hI (D 0) h1) rfl dX5_wholeness_4 rfl (Nat.le_of_ble_eq_true rfl) (xE Z.2.1 Z.2.2 ad D sav old hsz cs len g) (xE_id 0 (by decide)) ?_
  refine g_istore_n (C _) dX5_wholeness_7 (by decide) [(1, .int ex), (0, .ref (ad 168))] rfl ?_
  refine g_iload_n (C _) dX5_wholeness_8 0 rfl ?_
  refine g_if_le (tgt := 26) (C _) dX5_wholeness_9 (by decide) (fun hc => ?_) (fun hc => ?_)
  · refine g_dconst1 (C _) dX5_wholeness_26 ?_
    refine g_dret (C _) hd0 hr ?_ dX5_wholeness_27
    unfold wholeV; rw [if_pos hc]; exact alike_rfl _
  · refine g_aload_n (C _) dX5_wholeness_12 1 rfl ?_
    refine g_getf (v := .ref (ad (21 * 0))) (C _) 168 (by decide) rfl rfl in_X5_wholeness 0 (by decide) fl_X5_wholeness_10 rfl dX5_wholeness_13 ?_
    refine g_callVi (rest := []) (C _) gX5_wholeness_X0_filesWithBlocks rfl ok_X0_filesWithBlocks ⟨by decide, by decide⟩ ⟨rfl, rfl⟩ (21 * 0) 21 (by decide) (adc := fun i => ad (21 * 0 + i)) (fun _ _ => rfl) (xE_dsk 0 (by decide)) 0 (by decide) rfl rfl (fun hI => cn_X0_filesWithBlocks _ Z (fun i => ad (21 * 0 + i)) hI (D 0) h2) rfl dX5_wholeness_16 rfl (Nat.le_of_ble_eq_true rfl) (xE Z.2.1 Z.2.2 ad D sav old hsz cs len g) (xE_id 0 (by decide)) ?_
    refine g_i2d (C _) dX5_wholeness_19 ?_
    refine g_iload_n (C _) dX5_wholeness_20 0 rfl ?_
    refine g_i2d (C _) dX5_wholeness_21 ?_
    refine g_ddiv (C _) hd0 dX5_wholeness_22 (fun r d1 hal hd1 => ?_)
    refine g_goto (tgt := 27) (C _) dX5_wholeness_23 (by decide) ?_
    refine g_dret (C _) hd1 hr ?_ dX5_wholeness_27
    unfold wholeV; rw [if_neg hc]; exact hal
