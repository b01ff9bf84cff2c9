/-! COPIES AND THE HISTORY: Row.copyFrom, Disk.copyFrom, slotBehind, record, takeLatest, over the world of the whole. -/
section GREF
variable {X : gX} {Z : gZ} {cc : ByteArray} {nL : Nat} {Ts : List Cond} {own : String} {rm : Room} {n : Nat} {ad : Nat → Nat} {E : Nat → va_E} {pc : Nat} {lv : List (Nat × Value)} {rest st : List Value}
theorem g_null (C : GC X Z cc nL Ts own rm n ad) (hdg : decode cc pc = .ok (.aconst_null, 1)) (kk : GG X Z nL n ad E (pc + 1) lv (.null :: rest)) : GG X Z nL n ad E pc lv rest := by
  obtain ⟨hx, hb, -⟩ := C
  intro H locs ls hl hP hS
  exact lv_null hx hb hdg (kk H locs ls hl hP hS)
theorem g_astore_n (C : GC X Z cc nL Ts own rm n ad) {k : Fin 4} {x : Nat} (hdg : decode cc pc = .ok (.astore_n k, 1)) (hn : (k : Nat) < nL) (lv' : List (Nat × Value)) (hl' : gSt lv k (.ref x) = lv') (kk : GG X Z nL n ad E (pc + 1) lv' rest) : GG X Z nL n ad E pc lv (.ref x :: rest) := by
  obtain ⟨hx, hb, -⟩ := C
  intro H locs ls hl hP hS
  exact lv_astore_n hx hb hdg rfl hl hn hl' (fun ls hl => kk H locs ls hl hP hS)
theorem g_astore_nN (C : GC X Z cc nL Ts own rm n ad) {k : Fin 4} (hdg : decode cc pc = .ok (.astore_n k, 1)) (hn : (k : Nat) < nL) (lv' : List (Nat × Value)) (hl' : gSt lv k .null = lv') (kk : GG X Z nL n ad E (pc + 1) lv' rest) : GG X Z nL n ad E pc lv (.null :: rest) := by
  obtain ⟨hx, hb, -⟩ := C
  intro H locs ls hl hP hS
  exact lv_astore_nN hx hb hdg rfl hl hn hl' (fun ls hl => kk H locs ls hl hP hS)
theorem g_aload_nN (C : GC X Z cc nL Ts own rm n ad) {k : Fin 4} (hdg : decode cc pc = .ok (.aload_n k, 1)) (q : Nat) (hq : lv[q]? = some ((k : Nat), .null)) (kk : GG X Z nL n ad E (pc + 1) lv (.null :: rest)) : GG X Z nL n ad E pc lv rest := by
  obtain ⟨hx, hb, -⟩ := C
  intro H locs ls hl hP hS
  exact lv_aload_nN hx hb hdg rfl (lv_at hl q hq) (kk H locs ls hl hP hS)
theorem g_ifnull (C : GC X Z cc nL Ts own rm n ad) {x : Nat} {off : Int} (hdg : decode cc pc = .ok (.ifnull off, 3)) (kk : GG X Z nL n ad E (pc + 3) lv rest) : GG X Z nL n ad E pc lv (.ref x :: rest) := by
  obtain ⟨hx, hb, -⟩ := C
  intro H locs ls hl hP hS
  exact lv_ifnull hx hb hdg (kk H locs ls hl hP hS)
theorem g_ifnonnull (C : GC X Z cc nL Ts own rm n ad) {x : Nat} {off : Int} {tgt : Nat} (hdg : decode cc pc = .ok (.ifnonnull off, 3)) (ht : (pc : Int) + off = (tgt : Int)) (kk : GG X Z nL n ad E tgt lv rest) : GG X Z nL n ad E pc lv (.ref x :: rest) := by
  obtain ⟨hx, hb, -⟩ := C
  intro H locs ls hl hP hS
  exact lv_ifnonnull hx hb hdg ht (kk H locs ls hl hP hS)
theorem g_ifnonnullN (C : GC X Z cc nL Ts own rm n ad) {off : Int} (hdg : decode cc pc = .ok (.ifnonnull off, 3)) (kk : GG X Z nL n ad E (pc + 3) lv rest) : GG X Z nL n ad E pc lv (.null :: rest) := by
  obtain ⟨hx, hb, -⟩ := C
  intro H locs ls hl hP hS
  exact lv_ifnonnullN hx hb hdg (kk H locs ls hl hP hS)
theorem g_alenq (C : GC X Z cc nL Ts own rm n ad) (q : Nat) (hq : q < n) {len : Nat} {f : Nat → Option Nat} (hE : E q = .inl (Z.2.2, len, .inr (.inr (.inr (.inr f))))) (hdg : decode cc pc = .ok (.arraylength, 1)) (kk : GG X Z nL n ad E (pc + 1) lv (.int (nI len) :: rest)) : GG X Z nL n ad E pc lv (.ref (ad q) :: rest) := by
  obtain ⟨hx, hb, hml, hown, hts, hlo, hK, hI, hR⟩ := C
  intro H locs ls hl hP hS
  exact va_alen (x := (len, .inr (.inr (.inr (.inr f))))) hx hb hK hP q 1 ((gW_get hq).trans (by rw [hE])) rfl rfl hdg (kk H locs ls hl hP hS)
theorem g_aaload (C : GC X Z cc nL Ts own rm n ad) (q : Nat) (hq : q < n) {len : Nat} {f : Nat → Option Nat} (hE : E q = .inl (Z.2.2, len, .inr (.inr (.inr (.inr f))))) {i : Int32} (hin : vp_in i len) (hdg : decode cc pc = .ok (.aaload, 1)) (kk : GG X Z nL n ad E (pc + 1) lv (va_rf (f i.toNatClampNeg) :: rest)) : GG X Z nL n ad E pc lv (.int i :: .ref (ad q) :: rest) := by
  obtain ⟨hx, hb, hml, hown, hts, hlo, hK, hI, hR⟩ := C
  intro H locs ls hl hP hS
  exact va_aldq hx hb hK hP q 1 ((gW_get hq).trans (by rw [hE])) rfl hin hdg (kk H locs ls hl hP hS)
end GREF
/-- the contract of a method that answers the object at r -/
def gR (l : Launch) (y : MethodName) (ws : List Cond) (rm : Room) (Z : gZ) (n : Nat) (ad : Nat → Nat) (av : List Value) (E : Nat → va_E) (r : Nat) (E' : Nat → va_E) : Prop :=
  Met l y ws rm (va_Pc av (gB Z n ad E)) (va_Qr (fun (_ : Unit) => True) (fun _ a t => a = r ∧ gB Z n ad E' t) (gA n ad)) 0 0 (gA n ad)
def gER (X : gX) (Z : gZ) (n : Nat) (ad : Nat → Nat) (ty : FieldType) (r : Nat) (E' : Nat → va_E) : Prop :=
  X.2.2.2.2.2.2.2.2.1.sig.returnType = some ty ∧ X.2.2.2.2.2.2.2.2.2.2 = MQ X.2.2.2.2.2.2.2.1 (va_Qr (fun (_ : Unit) => True) (fun _ a t => a = r ∧ gB Z n ad E' t) (gA n ad)) X.2.2.2.2.2.2.1 X.2.2.2.2.1 0 0 (gA n ad)
section GREF2
variable {X : gX} {Z : gZ} {cc : ByteArray} {nL : Nat} {Ts : List Cond} {own : String} {rm : Room} {n : Nat} {ad : Nat → Nat} {E : Nat → va_E} {pc : Nat} {lv : List (Nat × Value)} {rest st : List Value}
theorem g_aret (C : GC X Z cc nL Ts own rm n ad) {r : Nat} {cn : String} (e : gER X Z n ad (.object cn) r E) (hdg : decode cc pc = .ok (.areturn, 1)) : GG X Z nL n ad E pc lv [.ref r] := by
  obtain ⟨p, l, e0, R, s, m, args, below, meth, c, Q⟩ := X
  obtain ⟨hx, hb, hml, hown, hts, hlo, hK, hI, hR⟩ := C
  obtain ⟨hr, hQ⟩ := e
  dsimp only at hx hb hml hown hts hlo hK hI hR hr hQ
  intro H locs ls hl hP hS
  dsimp only at hS ⊢
  rw [hQ]
  exact W.aret hx hb hr (Or.inl ⟨_, rfl⟩) (Or.inr ⟨_, rfl⟩) (fun t ht hW => ⟨⟨(), r, rfl, trivial, rfl, by rw [ht]; exact hP, va_K.moved hW.alike hK⟩, hS.F ht⟩) hS.2.2 hdg hlo
theorem g_callWr (C : GC X Z cc nL Ts own rm n ad) {y : MethodName} {Cn : String} {index na maxL : Nat} {bytes : ByteArray} {ty : FieldType} {ws ws' : List Cond} {rm' : Room} (hg : GoodIn Ts (wsV own index Cn y ws)) (hw : ws = Cond.code y bytes maxL (some ty) :: ws') (hd : gOk y Cn na) (hR : rm'.frames + 1 ≤ rm.frames ∧ 8 + (maxL + 11) + rm'.locals ≤ rm.locals) (h0 : rm'.cells = 0 ∧ rm'.slots = 0) (b : Nat) (hb : b < n) {ci N : Nat} {T : u_T} {fs : List Value} (hrec : E b = .inr (ci, fs)) (hcl : vwCl[ci]? = some (Cn, T, N)) {As : List Value} {r : Nat} {E2 : Nat → va_E} (hM : gInj n ad → gR X.2.1 y ws rm' Z n ad (.ref (ad b) :: As) E r E2) (hn : As.length = na) (hdg : decode cc pc = .ok (.invokevirtual index, 3)) (hst : st = As.reverse ++ .ref (ad b) :: rest) (hcat : (rest.map fun v => v.category).sum ≤ 8) (kk : GG X Z nL n ad E2 (pc + 3) lv (.ref r :: rest)) : GG X Z nL n ad E pc lv st := by
  obtain ⟨p, l, e0, R, s, mm, args, below, meth, c, Q⟩ := X
  obtain ⟨hx, hbb, hml, hown, hts, hlo, hK, hI, hRm⟩ := C
  dsimp only at hx hbb hml hown hts hlo hK hI hRm hM kk
  intro H locs ls hl hP hS
  dsimp only at hS ⊢
  subst hRm
  refine va_callr (va_runV (As := As) (rest := rest) ⟨hx, hbb, hml, hown, hts⟩ (hM hI) (cwV na hts hg hw h0.1 h0.2 hd hR) ⟨gB_blind, va_recv hK hP hcl ((gW_get hb).trans (by rw [hrec])), fun U hU hW => ⟨rfl, by rw [hU]; exact hP, va_K.moved hW.alike hK⟩⟩ rfl hn hl.1 hst (lv_room hcat) hdg ⟨Nat.zero_le _, Nat.zero_le _⟩) hS (fun q _ h => h) (fun q h => h) (fun u r' t H1 locs1 ht hvm hq hB hz1 hk1 hS1 => ?_)
  obtain ⟨rfl, hP1, -⟩ := hB
  rw [ht] at hP1
  exact kk H1 locs1 ls hl hP1 hS1
/-- the same cells, told otherwise -/
theorem g_ext (E2 : Nat → va_E) (h : ∀ i, i < n → ∀ H : Heap, va_at Z.1 vwCl (ad i, E i) H → va_at Z.1 vwCl (ad i, E2 i) H) (kk : GG X Z nL n ad E2 pc lv st) : GG X Z nL n ad E pc lv st :=
  fun H locs ls hl hP hS => kk H locs ls hl (gB_ext (fun i hi q => h i hi H q) hP) hS
end GREF2
theorem g_entryR {l : Launch} {y : MethodName} {ws ws' : List Cond} {rm : Room} {cc : ByteArray} {maxL : Nat} {ty : FieldType} (hy : plainName y.cls = true) (hw : ws = Cond.code y cc maxL (some ty) :: ws') {Z : gZ} {n : Nat} {ad : Nat → Nat} (hI : gInj n ad) {av : List Value} (hav : (lg_sl av).length ≤ maxL) {E : Nat → va_E} {r : Nat} {E' : Nat → va_E} (body : ∀ X : gX, GC X Z cc maxL ws y.cls rm n ad → gER X Z n ad ty r E' → GG X Z maxL n ad E 0 (lv_args 0 av) []) : gR l y ws rm Z n ad av E r E' := by
  refine Met.ofW hy hw ?_
  intro p e s m args below meth c s₁ B hml hv
  obtain ⟨rfl, hP, hK⟩ := hv
  have hb := body (p, l, e, (headSpec ws rm).room, s, m, av.toArray, below, meth, c, MQ below (va_Qr (fun (_ : Unit) => True) (fun _ a t => a = r ∧ gB Z n ad E' t) (gA n ad)) av.toArray s 0 0 (gA n ad)) ⟨B.exec, B.bytes, hml, findClass_of_methodNamed B.named, atoms_spec (ws := ws) B.pre, B.notSynchronized, hK, hI, rfl⟩ ⟨B.returns, rfl⟩
  rw [lg_entry_eq]
  exact hb s.heap [] _ (lv_entry av (n := maxL) hav) hP va_S.rf
theorem vp_cell_congr {cA : ClassId} {n : Nat} {f f2 : Nat → Int32} (h : ∀ j, j < n → f j = f2 j) : vp_cell cA (n, .inl f) = vp_cell cA (n, .inl f2) := by
  rw [vp_cell_i, vp_cell_i]
  unfold arrV
  have : (Array.ofFn (n := n) fun j => Value.int (f j.val)) = Array.ofFn (n := n) fun j => Value.int (f2 j.val) := by
    congr 1
    funext j
    rw [h j.val j.isLt]
  rw [this]
/-- disk i with the row k set -/
def dset (D : Nat → Nat → Nat → Int32) (i k : Nat) (f : Nat → Int32) : Nat → Nat → Nat → Int32 := va_up D i (va_up (D i) k f)
section XROW
variable {cI cD : ClassId} {ad : Nat → Nat} {D : Nat → Nat → Nat → Int32} {sav old hsz : Int32} {cs : Nat → Int32} {len : Int32} {g : Nat → Int32}
theorem xE_rob (i k : Nat) (hi : i < 8) (hk : k < 10) : xE cI cD ad D sav old hsz cs len g (21 * i + (2 * k + 1)) = .inr (3, [.ref (ad (21 * i + (2 * k + 1) + 1))]) := by
  simp only [xE, dskE]
  rw [if_pos (by omega), if_neg (by omega), if_pos (by omega), show 21 * ((21 * i + (2 * k + 1)) / 21) + ((21 * i + (2 * k + 1)) % 21 + 1) = 21 * i + (2 * k + 1) + 1 by omega]
theorem xE_rar (i k : Nat) (hi : i < 8) (hk : k < 10) : xE cI cD ad D sav old hsz cs len g (21 * i + (2 * k + 1) + 1) = .inl (cI, rl k, .inl (D i k)) := by
  simp only [xE, dskE]
  have h1 : (21 * i + (2 * k + 1) + 1) % 21 = 2 * k + 2 := by omega
  have h2 : (21 * i + (2 * k + 1) + 1) / 21 = i := by omega
  rw [h1, h2, if_pos (by omega), if_neg (by omega), if_neg (by omega), show (2 * k + 2 - 2) / 2 = k by omega]
theorem xE_row (i k : Nat) (hi : i < 8) (hk : k < 10) : ∀ t, t < 2 → rowE cI (fun t => ad (21 * i + (2 * k + 1) + t)) (rl k) (D i k) t = xE cI cD ad D sav old hsz cs len g (21 * i + (2 * k + 1) + t) := by
  intro t ht
  rcases (show t = 0 ∨ t = 1 by omega) with rfl | rfl
  · exact (xE_rob i k hi hk).symm
  · exact (xE_rar i k hi hk).symm
theorem xE_rid (i k : Nat) (hi : i < 8) (hk : k < 10) : ∀ t, t < 175 → xE cI cD ad D sav old hsz cs len g t = if 21 * i + (2 * k + 1) ≤ t ∧ t < 21 * i + (2 * k + 1) + 2 then rowE cI (fun t => ad (21 * i + (2 * k + 1) + t)) (rl k) (D i k) (t - (21 * i + (2 * k + 1))) else xE cI cD ad D sav old hsz cs len g t := by
  intro t ht
  by_cases h : 21 * i + (2 * k + 1) ≤ t ∧ t < 21 * i + (2 * k + 1) + 2
  · rw [if_pos h, xE_row (cD := cD) (sav := sav) (old := old) (hsz := hsz) (cs := cs) (len := len) (g := g) i k hi hk _ (by omega), show 21 * i + (2 * k + 1) + (t - (21 * i + (2 * k + 1))) = t by omega]
  · rw [if_neg h]
theorem dset_at (i k : Nat) (f : Nat → Int32) : dset D i k f i k = f := by simp [dset, va_up]
theorem dset_dset (i k : Nat) (f f2 : Nat → Int32) : dset (dset D i k f) i k f2 = dset D i k f2 := by
  funext a b
  by_cases ha : a = i
  · subst ha
    by_cases hb : b = k <;> simp [dset, va_up, hb]
  · simp [dset, va_up, ha]
theorem dset_ne {i k j : Nat} (f : Nat → Int32) (h : j ≠ i) : dset D i k f j = D j := by simp [dset, va_up, h]
theorem xE_rst (i k : Nat) (hi : i < 8) (hk : k < 10) (f : Nat → Int32) : ∀ t, t < 175 → xE cI cD ad (dset D i k f) sav old hsz cs len g t = va_up (xE cI cD ad D sav old hsz cs len g) (21 * i + (2 * k + 1) + 1) (.inl (cI, rl k, .inl f)) t := by
  intro t ht
  by_cases h : t = 21 * i + (2 * k + 1) + 1
  · subst h
    rw [xE_rar i k hi hk, dset_at]
    simp [va_up]
  · simp only [va_up]
    rw [if_neg h]
    by_cases h1 : t < 168
    · simp only [xE]
      rw [if_pos h1, if_pos h1]
      by_cases h2 : t / 21 = i
      · simp only [dskE]
        by_cases h3 : t % 21 = 0
        · rw [if_pos h3, if_pos h3]
        · rw [if_neg h3, if_neg h3]
          by_cases h4 : t % 21 % 2 = 1
          · rw [if_pos h4, if_pos h4]
          · rw [if_neg h4, if_neg h4]
            have : (t % 21 - 2) / 2 ≠ k := by omega
            simp [dset, va_up, h2, this]
      · rw [dset_ne f h2]
    · simp only [xE]
      rw [if_neg h1, if_neg h1]
end XROW
abbrev rm_X3_copyFrom : Room := { frames := 1, cells := 0, slots := 0, locals := 21 }
set_option maxRecDepth 20000 in
theorem in_X3_copyFrom : ∀ w ∈ wsX30, w ∈ wsX3_copyFrom := by decide +kernel
set_option maxRecDepth 20000 in
theorem fl_X3_copyFrom_13 : Cond.fieldLink RX3 13 (TX3 0).1 (TX3 0).2.1 (TX3 0).2.2.1 ∈ wsX3_copyFrom := by decide +kernel
theorem f_X3_at_in {n : Nat} {f : Nat → Int32} {v : Int32} (h0 : 0 ≤ v) (h1 : v.toNatClampNeg < n) (h2 : ¬ nI n ≤ v) : f_X3_at n f v = some (f v.toNatClampNeg) := by
  unfold f_X3_at
  rw [if_neg (Int32.not_lt.mpr h0), if_neg h2, if_pos ⟨h0, h1⟩]
set_option maxHeartbeats 4000000 in
set_option maxRecDepth 100000 in
theorem cl_X3_copyFrom {X : gX} {Z : gZ} {ad : Nat → Nat} {D : Nat → Nat → Nat → Int32} {sav old hsz : Int32} {cs : Nat → Int32} {len : Int32} {g : Nat → Int32} {i j k : Nat} (hi : i < 8) (hj : j < 8) (hk : k < 10) (hij : j ≠ i) (C : GC X Z cX3_copyFrom 3 wsX3_copyFrom RX3 rm_X3_copyFrom 175 ad) (e : gEV X Z 175 ad (xE Z.2.1 Z.2.2 ad (dset D i k (D j k)) sav old hsz cs len g)) :
    ∀ (fu t : Nat) (f : Nat → Int32), t ≤ rl k → rl k < t + fu → (∀ q, q < t → f q = D j k q) → GG X Z 3 175 ad (xE Z.2.1 Z.2.2 ad (dset D i k f) sav old hsz cs len g) 2 [(0, .ref (ad (21 * i + (2 * k + 1)))), (1, .ref (ad (21 * j + (2 * k + 1)))), (2, .int (nI t))] [] := by
  intro fu
  induction fu with
  | zero => intro t f h1 h2; omega
  | succ fu ih =>
    intro t f h1 h2 hf
    have hrl : rl k ≤ 64 := by unfold rl; split <;> first | omega | (split <;> first | omega | (split <;> omega))
    refine g_iload_n C dX3_copyFrom_2 2 rfl ?_
    refine g_aload_n C dX3_copyFrom_3 0 rfl ?_
    refine g_getf (v := .ref (ad (21 * i + (2 * k + 1) + 1))) C (21 * i + (2 * k + 1)) (by omega) (xE_rob i k hi hk) rfl in_X3_copyFrom 0 (by decide) fl_X3_copyFrom_13 rfl dX3_copyFrom_4 ?_
    refine g_alen C (21 * i + (2 * k + 1) + 1) (by omega) (xE_rar i k hi hk) dX3_copyFrom_7 ?_
    refine g_icmp_ge (tgt := 28) C dX3_copyFrom_8 (by decide) (fun hc => ?_) (fun hc => ?_)
    · have ht : t = rl k := by
        rcases Nat.lt_or_ge t (rl k) with q | q
        · exact absurd hc (by rw [nI_leI (by omega) (by omega)]; omega)
        · omega
      subst ht
      refine g_ext (xE Z.2.1 Z.2.2 ad (dset D i k (D j k)) sav old hsz cs len g) (fun q hq H hat => ?_) (g_vret C e dX3_copyFrom_28)
      rw [xE_rst i k hi hk f q hq] at hat
      rw [xE_rst i k hi hk (D j k) q hq]
      by_cases h : q = 21 * i + (2 * k + 1) + 1
      · subst h
        simp only [va_up, if_true] at hat ⊢
        simp only [va_at] at hat ⊢
        rw [hat]
        exact congrArg some (vp_cell_congr hf)
      · simp only [va_up, if_neg h] at hat ⊢
        exact hat
    · have ht : t < rl k := by
        rcases Nat.lt_or_ge t (rl k) with q | q
        · exact q
        · exact absurd (by rw [nI_leI (by omega) (by omega)]; omega) hc
      have ht0 : (0 : Int32) ≤ nI t := by rw [show (0 : Int32) = nI 0 from rfl, nI_leI (by omega) (by omega)]; omega
      have htn : (nI t).toNatClampNeg = t := nI_clamp (by omega)
      refine g_aload_n C dX3_copyFrom_11 0 rfl ?_
      refine g_getf (v := .ref (ad (21 * i + (2 * k + 1) + 1))) C (21 * i + (2 * k + 1)) (by omega) (xE_rob i k hi hk) rfl in_X3_copyFrom 0 (by decide) fl_X3_copyFrom_13 rfl dX3_copyFrom_12 ?_
      refine g_iload_n C dX3_copyFrom_15 2 rfl ?_
      refine g_aload_n C dX3_copyFrom_16 1 rfl ?_
      refine g_iload_n C dX3_copyFrom_17 2 rfl ?_
      refine g_callVi (rest := [.int (nI t), .ref (ad (21 * i + (2 * k + 1) + 1))]) C gX3_copyFrom_X3_at rfl ok_X3_at ⟨by decide, by decide⟩ ⟨rfl, rfl⟩ (21 * j + (2 * k + 1)) 2 (by omega) (adc := fun t => ad (21 * j + (2 * k + 1) + t)) (fun _ _ => rfl) (xE_row j k hj hk) 0 (by decide) rfl rfl (fun hI => cn_X3_at X.2.1 Z (fun t => ad (21 * j + (2 * k + 1) + t)) hI (rl k) (dset D i k f j k) (nI t) (f_X3_at_in ht0 (by rw [htn]; exact ht) hc)) rfl dX3_copyFrom_18 rfl (Nat.le_of_ble_eq_true rfl) (xE Z.2.1 Z.2.2 ad (dset D i k f) sav old hsz cs len g) (xE_rid j k hj hk) ?_
      rw [htn, dset_ne f hij]
      refine g_iast C (21 * i + (2 * k + 1) + 1) (by omega) (xE_rar i k hi hk) (g_in ⟨ht0, by rw [htn]; exact ht⟩) dX3_copyFrom_21 (xE Z.2.1 Z.2.2 ad (dset D i k (upd f t (D j k t))) sav old hsz cs len g) (by rw [htn, dset_at, ← dset_dset (D := D) i k f (upd f t (D j k t))]; exact xE_rst i k hi hk _) ?_
      refine g_iinc (v := nI (t + 1)) C dX3_copyFrom_22 2 rfl (nI_1 t) (by decide) [(2, .int (nI (t + 1))), (0, .ref (ad (21 * i + (2 * k + 1)))), (1, .ref (ad (21 * j + (2 * k + 1))))] rfl ?_
      refine g_goto (tgt := 2) C dX3_copyFrom_25 (by decide) ?_
      refine g_sub [1, 2, 0] rfl (ih (t + 1) (upd f t (D j k t)) (by omega) (by omega) (fun q hq => ?_))
      by_cases h : q = t
      · subst h; simp [upd]
      · simp only [upd, if_neg h]; exact hf q (by omega)
set_option maxHeartbeats 4000000 in
set_option maxRecDepth 100000 in
/-- a row copied from the same row of another disk -/
theorem cn_X3_copyFrom (l : Launch) (Z : gZ) (ad : Nat → Nat) (hI : gInj 175 ad) (D : Nat → Nat → Nat → Int32) (sav old hsz : Int32) (cs : Nat → Int32) (len : Int32) (g : Nat → Int32) (i j k : Nat) (hi : i < 8) (hj : j < 8) (hk : k < 10) (hij : j ≠ i) : gV l yX3_copyFrom wsX3_copyFrom rm_X3_copyFrom Z 175 ad [.ref (ad (21 * i + (2 * k + 1))), .ref (ad (21 * j + (2 * k + 1)))] (xE Z.2.1 Z.2.2 ad D sav old hsz cs len g) (xE Z.2.1 Z.2.2 ad (dset D i k (D j k)) sav old hsz cs len g) := by
  refine g_entryV (cc := cX3_copyFrom) (maxL := 3) (by decide +kernel) rfl hI (Nat.le_of_ble_eq_true rfl) (fun X C e => ?_)
  show GG X Z 3 175 ad (xE Z.2.1 Z.2.2 ad D sav old hsz cs len g) 0 [(0, .ref (ad (21 * i + (2 * k + 1)))), (1, .ref (ad (21 * j + (2 * k + 1))))] []
  refine g_iconst (v := 0) C dX3_copyFrom_0 (by decide) ?_
  refine g_istore_n C dX3_copyFrom_1 (by decide) [(2, .int 0), (0, .ref (ad (21 * i + (2 * k + 1)))), (1, .ref (ad (21 * j + (2 * k + 1))))] rfl ?_
  have h := cl_X3_copyFrom hi hj hk hij C e 100 0 (D i k) (Nat.zero_le _) (by unfold rl; split <;> first | omega | (split <;> first | omega | (split <;> omega))) (fun q hq => absurd hq (Nat.not_lt_zero q))
  rw [show dset D i k (D i k) = D by funext a b; by_cases ha : a = i <;> by_cases hb : b = k <;> simp [dset, va_up, ha, hb]] at h
  exact g_sub [1, 2, 0] rfl h
theorem ok_X3_copyFrom : gOk yX3_copyFrom RX3 1 := by refine ⟨?_, ?_, ?_, ?_⟩ <;> decide +kernel
theorem ok_X0_copyFrom : gOk yX0_copyFrom RX0 1 := by refine ⟨?_, ?_, ?_, ?_⟩ <;> decide +kernel
abbrev rm_X0_copyFrom : Room := { frames := 2, cells := 0, slots := 0, locals := 43 }
set_option maxRecDepth 20000 in
theorem in_X0_copyFrom : ∀ w ∈ wsX00, w ∈ wsX0_copyFrom := by decide +kernel
set_option maxRecDepth 20000 in
theorem fl_X0_copyFrom_0 : Cond.fieldLink RX0 14 (TX0 0).1 (TX0 0).2.1 (TX0 0).2.2.1 ∈ wsX0_copyFrom := by decide +kernel
set_option maxRecDepth 20000 in
theorem fl_X0_copyFrom_1 : Cond.fieldLink RX0 20 (TX0 1).1 (TX0 1).2.1 (TX0 1).2.2.1 ∈ wsX0_copyFrom := by decide +kernel
set_option maxRecDepth 20000 in
theorem fl_X0_copyFrom_2 : Cond.fieldLink RX0 23 (TX0 2).1 (TX0 2).2.1 (TX0 2).2.2.1 ∈ wsX0_copyFrom := by decide +kernel
set_option maxRecDepth 20000 in
theorem fl_X0_copyFrom_3 : Cond.fieldLink RX0 26 (TX0 3).1 (TX0 3).2.1 (TX0 3).2.2.1 ∈ wsX0_copyFrom := by decide +kernel
set_option maxRecDepth 20000 in
theorem fl_X0_copyFrom_4 : Cond.fieldLink RX0 29 (TX0 4).1 (TX0 4).2.1 (TX0 4).2.2.1 ∈ wsX0_copyFrom := by decide +kernel
set_option maxRecDepth 20000 in
theorem fl_X0_copyFrom_5 : Cond.fieldLink RX0 32 (TX0 5).1 (TX0 5).2.1 (TX0 5).2.2.1 ∈ wsX0_copyFrom := by decide +kernel
set_option maxRecDepth 20000 in
theorem fl_X0_copyFrom_6 : Cond.fieldLink RX0 35 (TX0 6).1 (TX0 6).2.1 (TX0 6).2.2.1 ∈ wsX0_copyFrom := by decide +kernel
set_option maxRecDepth 20000 in
theorem fl_X0_copyFrom_7 : Cond.fieldLink RX0 38 (TX0 7).1 (TX0 7).2.1 (TX0 7).2.2.1 ∈ wsX0_copyFrom := by decide +kernel
set_option maxRecDepth 20000 in
theorem fl_X0_copyFrom_8 : Cond.fieldLink RX0 41 (TX0 8).1 (TX0 8).2.1 (TX0 8).2.2.1 ∈ wsX0_copyFrom := by decide +kernel
set_option maxRecDepth 20000 in
theorem fl_X0_copyFrom_9 : Cond.fieldLink RX0 44 (TX0 9).1 (TX0 9).2.1 (TX0 9).2.2.1 ∈ wsX0_copyFrom := by decide +kernel
set_option maxHeartbeats 4000000 in
set_option maxRecDepth 100000 in
/-- a disk copied from another -/
theorem cn_X0_copyFrom (l : Launch) (Z : gZ) (ad : Nat → Nat) (hI : gInj 175 ad) (D : Nat → Nat → Nat → Int32) (sav old hsz : Int32) (cs : Nat → Int32) (len : Int32) (g : Nat → Int32) (i j : Nat) (hi : i < 8) (hj : j < 8) (hij : j ≠ i) : gV l yX0_copyFrom wsX0_copyFrom rm_X0_copyFrom Z 175 ad [.ref (ad (21 * i)), .ref (ad (21 * j))] (xE Z.2.1 Z.2.2 ad D sav old hsz cs len g) (xE Z.2.1 Z.2.2 ad (dcp D i j) sav old hsz cs len g) := by
  refine g_entryV (cc := cX0_copyFrom) (maxL := 2) (by decide +kernel) rfl hI (Nat.le_of_ble_eq_true rfl) (fun X C e => ?_)
  show GG X Z 2 175 ad (xE Z.2.1 Z.2.2 ad D sav old hsz cs len g) 0 [(0, .ref (ad (21 * i))), (1, .ref (ad (21 * j)))] []
  refine g_aload_n C dX0_copyFrom_0 0 rfl ?_
  refine g_getf (v := .ref (ad (21 * i + (2 * 0 + 1)))) C (21 * i) (by omega) (xE_rec i hi) rfl in_X0_copyFrom 0 (by decide) fl_X0_copyFrom_0 rfl dX0_copyFrom_1 ?_
  refine g_aload_n C dX0_copyFrom_4 1 rfl ?_
  refine g_getf (v := .ref (ad (21 * j + (2 * 0 + 1)))) C (21 * j) (by omega) (xE_rec j hj) rfl in_X0_copyFrom 0 (by decide) fl_X0_copyFrom_0 rfl dX0_copyFrom_5 ?_
  obtain ⟨D1, eD1⟩ : ∃ z, z = dset D i 0 (D j 0) := ⟨_, rfl⟩
  refine g_callWv (rest := []) (E2 := (xE Z.2.1 Z.2.2 ad D1 sav old hsz cs len g)) (rm' := rm_X3_copyFrom) C gX0_copyFrom_X3_copyFrom rfl ok_X3_copyFrom ⟨by decide, by decide⟩ ⟨rfl, rfl⟩ (21 * i + (2 * 0 + 1)) (by omega) (xE_rob i 0 hi (by decide)) rfl (fun hI => by rw [eD1]; exact cn_X3_copyFrom X.2.1 Z ad hI D sav old hsz cs len g i j 0 hi hj (by decide) hij) rfl dX0_copyFrom_8 rfl (Nat.le_of_ble_eq_true rfl) ?_
  refine g_aload_n C dX0_copyFrom_11 0 rfl ?_
  refine g_getf (v := .ref (ad (21 * i + (2 * 1 + 1)))) C (21 * i) (by omega) (xE_rec i hi) rfl in_X0_copyFrom 1 (by decide) fl_X0_copyFrom_1 rfl dX0_copyFrom_12 ?_
  refine g_aload_n C dX0_copyFrom_15 1 rfl ?_
  refine g_getf (v := .ref (ad (21 * j + (2 * 1 + 1)))) C (21 * j) (by omega) (xE_rec j hj) rfl in_X0_copyFrom 1 (by decide) fl_X0_copyFrom_1 rfl dX0_copyFrom_16 ?_
  obtain ⟨D2, eD2⟩ : ∃ z, z = dset D1 i 1 (D1 j 1) := ⟨_, rfl⟩
  refine g_callWv (rest := []) (E2 := (xE Z.2.1 Z.2.2 ad D2 sav old hsz cs len g)) (rm' := rm_X3_copyFrom) C gX0_copyFrom_X3_copyFrom rfl ok_X3_copyFrom ⟨by decide, by decide⟩ ⟨rfl, rfl⟩ (21 * i + (2 * 1 + 1)) (by omega) (xE_rob i 1 hi (by decide)) rfl (fun hI => by rw [eD2]; exact cn_X3_copyFrom X.2.1 Z ad hI D1 sav old hsz cs len g i j 1 hi hj (by decide) hij) rfl dX0_copyFrom_19 rfl (Nat.le_of_ble_eq_true rfl) ?_
  refine g_aload_n C dX0_copyFrom_22 0 rfl ?_
  refine g_getf (v := .ref (ad (21 * i + (2 * 2 + 1)))) C (21 * i) (by omega) (xE_rec i hi) rfl in_X0_copyFrom 2 (by decide) fl_X0_copyFrom_2 rfl dX0_copyFrom_23 ?_
  refine g_aload_n C dX0_copyFrom_26 1 rfl ?_
  refine g_getf (v := .ref (ad (21 * j + (2 * 2 + 1)))) C (21 * j) (by omega) (xE_rec j hj) rfl in_X0_copyFrom 2 (by decide) fl_X0_copyFrom_2 rfl dX0_copyFrom_27 ?_
  obtain ⟨D3, eD3⟩ : ∃ z, z = dset D2 i 2 (D2 j 2) := ⟨_, rfl⟩
  refine g_callWv (rest := []) (E2 := (xE Z.2.1 Z.2.2 ad D3 sav old hsz cs len g)) (rm' := rm_X3_copyFrom) C gX0_copyFrom_X3_copyFrom rfl ok_X3_copyFrom ⟨by decide, by decide⟩ ⟨rfl, rfl⟩ (21 * i + (2 * 2 + 1)) (by omega) (xE_rob i 2 hi (by decide)) rfl (fun hI => by rw [eD3]; exact cn_X3_copyFrom X.2.1 Z ad hI D2 sav old hsz cs len g i j 2 hi hj (by decide) hij) rfl dX0_copyFrom_30 rfl (Nat.le_of_ble_eq_true rfl) ?_
  refine g_aload_n C dX0_copyFrom_33 0 rfl ?_
  refine g_getf (v := .ref (ad (21 * i + (2 * 3 + 1)))) C (21 * i) (by omega) (xE_rec i hi) rfl in_X0_copyFrom 3 (by decide) fl_X0_copyFrom_3 rfl dX0_copyFrom_34 ?_
  refine g_aload_n C dX0_copyFrom_37 1 rfl ?_
  refine g_getf (v := .ref (ad (21 * j + (2 * 3 + 1)))) C (21 * j) (by omega) (xE_rec j hj) rfl in_X0_copyFrom 3 (by decide) fl_X0_copyFrom_3 rfl dX0_copyFrom_38 ?_
  obtain ⟨D4, eD4⟩ : ∃ z, z = dset D3 i 3 (D3 j 3) := ⟨_, rfl⟩
  refine g_callWv (rest := []) (E2 := (xE Z.2.1 Z.2.2 ad D4 sav old hsz cs len g)) (rm' := rm_X3_copyFrom) C gX0_copyFrom_X3_copyFrom rfl ok_X3_copyFrom ⟨by decide, by decide⟩ ⟨rfl, rfl⟩ (21 * i + (2 * 3 + 1)) (by omega) (xE_rob i 3 hi (by decide)) rfl (fun hI => by rw [eD4]; exact cn_X3_copyFrom X.2.1 Z ad hI D3 sav old hsz cs len g i j 3 hi hj (by decide) hij) rfl dX0_copyFrom_41 rfl (Nat.le_of_ble_eq_true rfl) ?_
  refine g_aload_n C dX0_copyFrom_44 0 rfl ?_
  refine g_getf (v := .ref (ad (21 * i + (2 * 4 + 1)))) C (21 * i) (by omega) (xE_rec i hi) rfl in_X0_copyFrom 4 (by decide) fl_X0_copyFrom_4 rfl dX0_copyFrom_45 ?_
  refine g_aload_n C dX0_copyFrom_48 1 rfl ?_
  refine g_getf (v := .ref (ad (21 * j + (2 * 4 + 1)))) C (21 * j) (by omega) (xE_rec j hj) rfl in_X0_copyFrom 4 (by decide) fl_X0_copyFrom_4 rfl dX0_copyFrom_49 ?_
  obtain ⟨D5, eD5⟩ : ∃ z, z = dset D4 i 4 (D4 j 4) := ⟨_, rfl⟩
  refine g_callWv (rest := []) (E2 := (xE Z.2.1 Z.2.2 ad D5 sav old hsz cs len g)) (rm' := rm_X3_copyFrom) C gX0_copyFrom_X3_copyFrom rfl ok_X3_copyFrom ⟨by decide, by decide⟩ ⟨rfl, rfl⟩ (21 * i + (2 * 4 + 1)) (by omega) (xE_rob i 4 hi (by decide)) rfl (fun hI => by rw [eD5]; exact cn_X3_copyFrom X.2.1 Z ad hI D4 sav old hsz cs len g i j 4 hi hj (by decide) hij) rfl dX0_copyFrom_52 rfl (Nat.le_of_ble_eq_true rfl) ?_
  refine g_aload_n C dX0_copyFrom_55 0 rfl ?_
  refine g_getf (v := .ref (ad (21 * i + (2 * 5 + 1)))) C (21 * i) (by omega) (xE_rec i hi) rfl in_X0_copyFrom 5 (by decide) fl_X0_copyFrom_5 rfl dX0_copyFrom_56 ?_
  refine g_aload_n C dX0_copyFrom_59 1 rfl ?_
  refine g_getf (v := .ref (ad (21 * j + (2 * 5 + 1)))) C (21 * j) (by omega) (xE_rec j hj) rfl in_X0_copyFrom 5 (by decide) fl_X0_copyFrom_5 rfl dX0_copyFrom_60 ?_
  obtain ⟨D6, eD6⟩ : ∃ z, z = dset D5 i 5 (D5 j 5) := ⟨_, rfl⟩
  refine g_callWv (rest := []) (E2 := (xE Z.2.1 Z.2.2 ad D6 sav old hsz cs len g)) (rm' := rm_X3_copyFrom) C gX0_copyFrom_X3_copyFrom rfl ok_X3_copyFrom ⟨by decide, by decide⟩ ⟨rfl, rfl⟩ (21 * i + (2 * 5 + 1)) (by omega) (xE_rob i 5 hi (by decide)) rfl (fun hI => by rw [eD6]; exact cn_X3_copyFrom X.2.1 Z ad hI D5 sav old hsz cs len g i j 5 hi hj (by decide) hij) rfl dX0_copyFrom_63 rfl (Nat.le_of_ble_eq_true rfl) ?_
  refine g_aload_n C dX0_copyFrom_66 0 rfl ?_
  refine g_getf (v := .ref (ad (21 * i + (2 * 6 + 1)))) C (21 * i) (by omega) (xE_rec i hi) rfl in_X0_copyFrom 6 (by decide) fl_X0_copyFrom_6 rfl dX0_copyFrom_67 ?_
  refine g_aload_n C dX0_copyFrom_70 1 rfl ?_
  refine g_getf (v := .ref (ad (21 * j + (2 * 6 + 1)))) C (21 * j) (by omega) (xE_rec j hj) rfl in_X0_copyFrom 6 (by decide) fl_X0_copyFrom_6 rfl dX0_copyFrom_71 ?_
  obtain ⟨D7, eD7⟩ : ∃ z, z = dset D6 i 6 (D6 j 6) := ⟨_, rfl⟩
  refine g_callWv (rest := []) (E2 := (xE Z.2.1 Z.2.2 ad D7 sav old hsz cs len g)) (rm' := rm_X3_copyFrom) C gX0_copyFrom_X3_copyFrom rfl ok_X3_copyFrom ⟨by decide, by decide⟩ ⟨rfl, rfl⟩ (21 * i + (2 * 6 + 1)) (by omega) (xE_rob i 6 hi (by decide)) rfl (fun hI => by rw [eD7]; exact cn_X3_copyFrom X.2.1 Z ad hI D6 sav old hsz cs len g i j 6 hi hj (by decide) hij) rfl dX0_copyFrom_74 rfl (Nat.le_of_ble_eq_true rfl) ?_
  refine g_aload_n C dX0_copyFrom_77 0 rfl ?_
  refine g_getf (v := .ref (ad (21 * i + (2 * 7 + 1)))) C (21 * i) (by omega) (xE_rec i hi) rfl in_X0_copyFrom 7 (by decide) fl_X0_copyFrom_7 rfl dX0_copyFrom_78 ?_
  refine g_aload_n C dX0_copyFrom_81 1 rfl ?_
  refine g_getf (v := .ref (ad (21 * j + (2 * 7 + 1)))) C (21 * j) (by omega) (xE_rec j hj) rfl in_X0_copyFrom 7 (by decide) fl_X0_copyFrom_7 rfl dX0_copyFrom_82 ?_
  obtain ⟨D8, eD8⟩ : ∃ z, z = dset D7 i 7 (D7 j 7) := ⟨_, rfl⟩
  refine g_callWv (rest := []) (E2 := (xE Z.2.1 Z.2.2 ad D8 sav old hsz cs len g)) (rm' := rm_X3_copyFrom) C gX0_copyFrom_X3_copyFrom rfl ok_X3_copyFrom ⟨by decide, by decide⟩ ⟨rfl, rfl⟩ (21 * i + (2 * 7 + 1)) (by omega) (xE_rob i 7 hi (by decide)) rfl (fun hI => by rw [eD8]; exact cn_X3_copyFrom X.2.1 Z ad hI D7 sav old hsz cs len g i j 7 hi hj (by decide) hij) rfl dX0_copyFrom_85 rfl (Nat.le_of_ble_eq_true rfl) ?_
  refine g_aload_n C dX0_copyFrom_88 0 rfl ?_
  refine g_getf (v := .ref (ad (21 * i + (2 * 8 + 1)))) C (21 * i) (by omega) (xE_rec i hi) rfl in_X0_copyFrom 8 (by decide) fl_X0_copyFrom_8 rfl dX0_copyFrom_89 ?_
  refine g_aload_n C dX0_copyFrom_92 1 rfl ?_
  refine g_getf (v := .ref (ad (21 * j + (2 * 8 + 1)))) C (21 * j) (by omega) (xE_rec j hj) rfl in_X0_copyFrom 8 (by decide) fl_X0_copyFrom_8 rfl dX0_copyFrom_93 ?_
  obtain ⟨D9, eD9⟩ : ∃ z, z = dset D8 i 8 (D8 j 8) := ⟨_, rfl⟩
  refine g_callWv (rest := []) (E2 := (xE Z.2.1 Z.2.2 ad D9 sav old hsz cs len g)) (rm' := rm_X3_copyFrom) C gX0_copyFrom_X3_copyFrom rfl ok_X3_copyFrom ⟨by decide, by decide⟩ ⟨rfl, rfl⟩ (21 * i + (2 * 8 + 1)) (by omega) (xE_rob i 8 hi (by decide)) rfl (fun hI => by rw [eD9]; exact cn_X3_copyFrom X.2.1 Z ad hI D8 sav old hsz cs len g i j 8 hi hj (by decide) hij) rfl dX0_copyFrom_96 rfl (Nat.le_of_ble_eq_true rfl) ?_
  refine g_aload_n C dX0_copyFrom_99 0 rfl ?_
  refine g_getf (v := .ref (ad (21 * i + (2 * 9 + 1)))) C (21 * i) (by omega) (xE_rec i hi) rfl in_X0_copyFrom 9 (by decide) fl_X0_copyFrom_9 rfl dX0_copyFrom_100 ?_
  refine g_aload_n C dX0_copyFrom_103 1 rfl ?_
  refine g_getf (v := .ref (ad (21 * j + (2 * 9 + 1)))) C (21 * j) (by omega) (xE_rec j hj) rfl in_X0_copyFrom 9 (by decide) fl_X0_copyFrom_9 rfl dX0_copyFrom_104 ?_
  obtain ⟨D10, eD10⟩ : ∃ z, z = dset D9 i 9 (D9 j 9) := ⟨_, rfl⟩
  refine g_callWv (rest := []) (E2 := (xE Z.2.1 Z.2.2 ad D10 sav old hsz cs len g)) (rm' := rm_X3_copyFrom) C gX0_copyFrom_X3_copyFrom rfl ok_X3_copyFrom ⟨by decide, by decide⟩ ⟨rfl, rfl⟩ (21 * i + (2 * 9 + 1)) (by omega) (xE_rob i 9 hi (by decide)) rfl (fun hI => by rw [eD10]; exact cn_X3_copyFrom X.2.1 Z ad hI D9 sav old hsz cs len g i j 9 hi hj (by decide) hij) rfl dX0_copyFrom_107 rfl (Nat.le_of_ble_eq_true rfl) ?_
  refine g_ext (xE Z.2.1 Z.2.2 ad (dcp D i j) sav old hsz cs len g) (fun q hq H hat => ?_) (g_vret C e dX0_copyFrom_110)
  have hj' : ∀ (F : Nat → Nat → Nat → Int32) (k : Nat) (f : Nat → Int32), dset F i k f j = F j := fun F k f => dset_ne f hij
  have hD : ∀ k, k < 10 → D10 i k = D j k := by
    intro k hk
    rw [eD10, eD9, eD8, eD7, eD6, eD5, eD4, eD3, eD2, eD1]
    simp only [hj']
    rcases (show k = 0 ∨ k = 1 ∨ k = 2 ∨ k = 3 ∨ k = 4 ∨ k = 5 ∨ k = 6 ∨ k = 7 ∨ k = 8 ∨ k = 9 by omega) with rfl | rfl | rfl | rfl | rfl | rfl | rfl | rfl | rfl | rfl <;> simp [dset, va_up]
  have hne : ∀ a, a ≠ i → D10 a = D a := by
    intro a ha
    rw [eD10, eD9, eD8, eD7, eD6, eD5, eD4, eD3, eD2, eD1]
    simp [dset_ne _ ha]
  by_cases h1 : q < 168
  · simp only [xE] at hat ⊢
    rw [if_pos h1] at hat ⊢
    by_cases h2 : q / 21 = i
    · rw [h2] at hat ⊢
      simp only [dskE] at hat ⊢
      by_cases h3 : q % 21 = 0
      · rw [if_pos h3] at hat ⊢; exact hat
      · rw [if_neg h3] at hat ⊢
        by_cases h4 : q % 21 % 2 = 1
        · rw [if_pos h4] at hat ⊢; exact hat
        · rw [if_neg h4] at hat ⊢
          rw [hD _ (by omega)] at hat
          simp only [dcp, va_up, if_true]
          exact hat
    · rw [hne _ h2] at hat
      rw [show dcp D i j (q / 21) = D (q / 21) by simp [dcp, va_up, h2]]
      exact hat
  · simp only [xE] at hat ⊢
    rw [if_neg h1] at hat ⊢
    exact hat
/-- which slot is so many steps behind the oldest -/
def sbI (old k : Int32) : Int32 := (old + k) - (old + k) / 5 * 5
abbrev rm_X1_slotBehind : Room := { frames := 0, cells := 0, slots := 0, locals := 0 }
theorem ok_X1_slotBehind : gOk yX1_slotBehind RX1 1 := by refine ⟨?_, ?_, ?_, ?_⟩ <;> decide +kernel
set_option maxRecDepth 20000 in
theorem in_X1_slotBehind : ∀ w ∈ wsX10, w ∈ wsX1_slotBehind := by decide +kernel
set_option maxRecDepth 20000 in
theorem fl_X1_slotBehind_17 : Cond.fieldLink RX1 17 (TX1 1).1 (TX1 1).2.1 (TX1 1).2.2.1 ∈ wsX1_slotBehind := by decide +kernel
set_option maxRecDepth 20000 in
theorem fl_X1_slotBehind_11 : Cond.fieldLink RX1 11 (TX1 0).1 (TX1 0).2.1 (TX1 0).2.2.1 ∈ wsX1_slotBehind := by decide +kernel
set_option maxHeartbeats 4000000 in
set_option maxRecDepth 100000 in
theorem cn_X1_slotBehind (l : Launch) (Z : gZ) (ad : Nat → Nat) (hI : gInj 175 ad) (D : Nat → Nat → Nat → Int32) (sav old hsz : Int32) (cs : Nat → Int32) (len : Int32) (g : Nat → Int32) (k : Int32) (h0 : 0 ≤ sbI old k) (h1 : (sbI old k).toNatClampNeg < 5) : gR l yX1_slotBehind wsX1_slotBehind rm_X1_slotBehind Z 175 ad [.ref (ad 169), .int k] (xE Z.2.1 Z.2.2 ad D sav old hsz cs len g) (ad (21 * (3 + (sbI old k).toNatClampNeg))) (xE Z.2.1 Z.2.2 ad D sav old hsz cs len g) := by
  refine g_entryR (cc := cX1_slotBehind) (maxL := 3) (by decide +kernel) rfl hI (Nat.le_of_ble_eq_true rfl) (fun X C e => ?_)
  show GG X Z 3 175 ad (xE Z.2.1 Z.2.2 ad D sav old hsz cs len g) 0 [(0, .ref (ad 169)), (1, .int k)] []
  refine g_aload_n C dX1_slotBehind_0 0 rfl ?_
  refine g_getf (v := .int old) C 169 (by decide) rfl rfl in_X1_slotBehind 1 (by decide) fl_X1_slotBehind_17 rfl dX1_slotBehind_1 ?_
  refine g_iload_n C dX1_slotBehind_4 1 rfl ?_
  refine g_iadd C dX1_slotBehind_5 ?_
  refine g_iconst (v := 5) C dX1_slotBehind_6 (by decide) ?_
  refine g_irem C dX1_slotBehind_7 (by decide) ?_
  obtain ⟨x, ex⟩ : ∃ x, x = sbI old k := ⟨_, rfl⟩
  rw [← ex] at h0 h1 e
  have hlt : ¬ nI 5 ≤ x := by
    intro q
    have h2 : (nI 5).toInt ≤ x.toInt := Int32.le_iff_toInt_le.mp q
    have h3 : (0 : Int32).toInt ≤ x.toInt := Int32.le_iff_toInt_le.mp h0
    have h4 : x.toNatClampNeg = x.toInt.toNat := rfl
    have h5 : (nI 5).toInt = 5 := by decide
    omega
  refine g_istore_n C dX1_slotBehind_8 (by decide) [(2, .int x), (0, .ref (ad 169)), (1, .int k)] (by rw [ex]; rfl) ?_
  refine g_iload_n C dX1_slotBehind_9 0 rfl ?_
  refine g_if_lt (tgt := 31) C dX1_slotBehind_10 (by decide) (fun hc => absurd hc (Int32.not_lt.mpr h0)) (fun _ => ?_)
  refine g_iload_n C dX1_slotBehind_13 0 rfl ?_
  refine g_aload_n C dX1_slotBehind_14 1 rfl ?_
  refine g_getf (v := .ref (ad 170)) C 169 (by decide) rfl rfl in_X1_slotBehind 0 (by decide) fl_X1_slotBehind_11 rfl dX1_slotBehind_15 ?_
  refine g_alenq C 170 (by decide) rfl dX1_slotBehind_18 ?_
  refine g_icmp_ge (tgt := 31) C dX1_slotBehind_19 (by decide) (fun hc => absurd hc hlt) (fun _ => ?_)
  refine g_aload_n C dX1_slotBehind_22 1 rfl ?_
  refine g_getf (v := .ref (ad 170)) C 169 (by decide) rfl rfl in_X1_slotBehind 0 (by decide) fl_X1_slotBehind_11 rfl dX1_slotBehind_23 ?_
  refine g_iload_n C dX1_slotBehind_26 0 rfl ?_
  refine g_aaload C 170 (by decide) rfl (g_in ⟨h0, h1⟩) dX1_slotBehind_27 ?_
  refine g_goto (tgt := 32) C dX1_slotBehind_28 (by decide) ?_
  exact g_aret C e dX1_slotBehind_32
def f_X1_record (D : Nat → Nat → Nat → Int32) (sav old hsz : Int32) (cs : Nat → Int32) (len : Int32) (g : Nat → Int32) (j : Nat) : Option ((Nat → Nat → Nat → Int32) × Int32 × Int32) :=
  if hsz = 5 then glet ((old + 1) - (old + 1) / 5 * 5) (fun old1 => glet (hsz - 1) (fun hsz1 => if 0 ≤ sbI old1 hsz1 ∧ (sbI old1 hsz1).toNatClampNeg < 5 then some (dcp D (3 + (sbI old1 hsz1).toNatClampNeg) j, old1, hsz1 + 1) else none))
  else if 0 ≤ sbI old hsz ∧ (sbI old hsz).toNatClampNeg < 5 then some (dcp D (3 + (sbI old hsz).toNatClampNeg) j, old, hsz + 1) else none
def f_X1_takeLatest (D : Nat → Nat → Nat → Int32) (sav old hsz : Int32) (cs : Nat → Int32) (len : Int32) (g : Nat → Int32) (i : Nat) : Option (Int32 × (Nat → Nat → Nat → Int32) × Int32) :=
  if hsz ≤ 0 then some (0, D, hsz) else if 0 ≤ sbI old (hsz - 1) ∧ (sbI old (hsz - 1)).toNatClampNeg < 5 then some (1, dcp D i (3 + (sbI old (hsz - 1)).toNatClampNeg), hsz - 1) else none
theorem ok_X1_record : gOk yX1_record RX1 1 := by refine ⟨?_, ?_, ?_, ?_⟩ <;> decide +kernel
theorem ok_X1_takeLatest : gOk yX1_takeLatest RX1 1 := by refine ⟨?_, ?_, ?_, ?_⟩ <;> decide +kernel
abbrev rm_X1_record : Room := { frames := 3, cells := 0, slots := 0, locals := 64 }
abbrev rm_X1_takeLatest : Room := { frames := 3, cells := 0, slots := 0, locals := 64 }
set_option maxRecDepth 20000 in
theorem in_X1_record : ∀ w ∈ wsX10, w ∈ wsX1_record := by decide +kernel
set_option maxRecDepth 20000 in
theorem fl_X1_record_21 : Cond.fieldLink RX1 21 (TX1 2).1 (TX1 2).2.1 (TX1 2).2.2.1 ∈ wsX1_record := by decide +kernel
set_option maxRecDepth 20000 in
theorem in_X1_takeLatest : ∀ w ∈ wsX10, w ∈ wsX1_takeLatest := by decide +kernel
set_option maxRecDepth 20000 in
theorem fl_X1_takeLatest_21 : Cond.fieldLink RX1 21 (TX1 2).1 (TX1 2).2.1 (TX1 2).2.2.1 ∈ wsX1_takeLatest := by decide +kernel
set_option maxRecDepth 20000 in
theorem fl_X1_record_17 : Cond.fieldLink RX1 17 (TX1 1).1 (TX1 1).2.1 (TX1 1).2.2.1 ∈ wsX1_record := by decide +kernel
set_option maxHeartbeats 4000000 in
set_option maxRecDepth 100000 in
/-- record, from the place where the slot is sought -/
theorem cr_X1_record {X : gX} {Z : gZ} {ad : Nat → Nat} {D : Nat → Nat → Nat → Int32} {sav old hsz : Int32} {cs : Nat → Int32} {len : Int32} {g : Nat → Int32} {j : Nat} (hj : j < 3) (C : GC X Z cX1_record 3 wsX1_record RX1 rm_X1_record 175 ad) (h0 : 0 ≤ sbI old hsz ∧ (sbI old hsz).toNatClampNeg < 5) (e : gEV X Z 175 ad (xE Z.2.1 Z.2.2 ad (dcp D (3 + (sbI old hsz).toNatClampNeg) j) sav old (hsz + 1) cs len g)) : GG X Z 3 175 ad (xE Z.2.1 Z.2.2 ad D sav old hsz cs len g) 30 [(0, .ref (ad 169)), (1, .ref (ad (21 * j)))] [] := by
  refine g_aload_n C dX1_record_30 0 rfl ?_
  refine g_aload_n C dX1_record_31 0 rfl ?_
  refine g_getf (v := .int hsz) C 169 (by decide) rfl rfl in_X1_record 2 (by decide) fl_X1_record_21 rfl dX1_record_32 ?_
  refine g_callWr (rest := []) C gX1_record_X1_slotBehind rfl ok_X1_slotBehind ⟨by decide, by decide⟩ ⟨rfl, rfl⟩ 169 (by decide) rfl rfl (fun hI => cn_X1_slotBehind X.2.1 Z ad hI D sav old hsz cs len g hsz h0.1 h0.2) rfl dX1_record_35 rfl (Nat.le_of_ble_eq_true rfl) ?_
  obtain ⟨q, eq⟩ : ∃ q, q = 3 + (sbI old hsz).toNatClampNeg := ⟨_, rfl⟩
  have hq : q < 8 := by omega
  have hqj : j ≠ q := by omega
  rw [← eq] at e ⊢
  refine g_astore_n C dX1_record_38 (by decide) [(2, .ref (ad (21 * q))), (0, .ref (ad 169)), (1, .ref (ad (21 * j)))] rfl ?_
  refine g_aload_n C dX1_record_39 0 rfl ?_
  refine g_ifnull C dX1_record_40 ?_
  refine g_aload_n C dX1_record_43 0 rfl ?_
  refine g_aload_n C dX1_record_44 2 rfl ?_
  refine g_callWv (rest := []) (E2 := (xE Z.2.1 Z.2.2 ad (dcp D q j) sav old hsz cs len g)) (rm' := rm_X0_copyFrom) C gX1_record_X0_copyFrom rfl ok_X0_copyFrom ⟨by decide, by decide⟩ ⟨rfl, rfl⟩ (21 * q) (by omega) (xE_rec q hq) rfl (fun hI => cn_X0_copyFrom X.2.1 Z ad hI D sav old hsz cs len g q j hq (by omega) hqj) rfl dX1_record_45 rfl (Nat.le_of_ble_eq_true rfl) ?_
  refine g_aload_n C dX1_record_48 1 rfl ?_
  refine g_dup C dX1_record_49 rfl ?_
  refine g_getf (v := .int hsz) C 169 (by decide) rfl rfl in_X1_record 2 (by decide) fl_X1_record_21 rfl dX1_record_50 ?_
  refine g_iconst (v := 1) C dX1_record_53 (by decide) ?_
  refine g_iadd C dX1_record_54 ?_
  refine g_putf C 169 (by decide) rfl rfl in_X1_record tyX1 tyX1_ok nmX1 2 (by decide) fl_X1_record_21 rfl rfl rfl (Nat.le_of_ble_eq_true rfl) dX1_record_55 (xE Z.2.1 Z.2.2 ad (dcp D q j) sav old (hsz + 1) cs len g) xE_hsz ?_
  exact g_vret C e dX1_record_58
set_option maxHeartbeats 4000000 in
set_option maxRecDepth 100000 in
/-- the state of disk j is recorded -/
theorem cn_X1_record (l : Launch) (Z : gZ) (ad : Nat → Nat) (hI : gInj 175 ad) (D : Nat → Nat → Nat → Int32) (sav old hsz : Int32) (cs : Nat → Int32) (len : Int32) (g : Nat → Int32) (j : Nat) (hj : j < 3) {D' : Nat → Nat → Nat → Int32} {old' hsz' : Int32} (h : f_X1_record D sav old hsz cs len g j = some (D', old', hsz')) : gV l yX1_record wsX1_record rm_X1_record Z 175 ad [.ref (ad 169), .ref (ad (21 * j))] (xE Z.2.1 Z.2.2 ad D sav old hsz cs len g) (xE Z.2.1 Z.2.2 ad D' sav old' hsz' cs len g) := by
  refine g_entryV (cc := cX1_record) (maxL := 3) (by decide +kernel) rfl hI (Nat.le_of_ble_eq_true rfl) (fun X C e => ?_)
  unfold f_X1_record at h
  show GG X Z 3 175 ad (xE Z.2.1 Z.2.2 ad D sav old hsz cs len g) 0 [(0, .ref (ad 169)), (1, .ref (ad (21 * j)))] []
  refine g_aload_n C dX1_record_0 0 rfl ?_
  refine g_getf (v := .int hsz) C 169 (by decide) rfl rfl in_X1_record 2 (by decide) fl_X1_record_21 rfl dX1_record_1 ?_
  refine g_iconst (v := 5) C dX1_record_4 (by decide) ?_
  refine g_icmp_ne (tgt := 30) C dX1_record_5 (by decide) (fun hc => ?_) (fun hc => ?_)
  · replace h := gi_neg hc h
    obtain ⟨h0, h⟩ := gguard h
    obtain ⟨rfl, rfl, rfl⟩ := gs3 h
    exact cr_X1_record hj C h0 e
  · replace h := gi_pos hc h
    obtain ⟨old1, eo, h⟩ := gl h
    obtain ⟨hsz1, eh, h⟩ := gl h
    obtain ⟨h0, h⟩ := gguard h
    refine g_aload_n C dX1_record_8 0 rfl ?_
    refine g_aload_n C dX1_record_9 0 rfl ?_
    refine g_getf (v := .int old) C 169 (by decide) rfl rfl in_X1_record 1 (by decide) fl_X1_record_17 rfl dX1_record_10 ?_
    refine g_iconst (v := 1) C dX1_record_13 (by decide) ?_
    refine g_iadd C dX1_record_14 ?_
    refine g_iconst (v := 5) C dX1_record_15 (by decide) ?_
    refine g_irem C dX1_record_16 (by decide) ?_
    rw [← eo]
    refine g_putf C 169 (by decide) rfl rfl in_X1_record tyX1 tyX1_ok nmX1 1 (by decide) fl_X1_record_17 rfl rfl rfl (Nat.le_of_ble_eq_true rfl) dX1_record_17 (xE Z.2.1 Z.2.2 ad D sav old1 hsz cs len g) xE_old ?_
    refine g_aload_n C dX1_record_20 0 rfl ?_
    refine g_dup C dX1_record_21 rfl ?_
    refine g_getf (v := .int hsz) C 169 (by decide) rfl rfl in_X1_record 2 (by decide) fl_X1_record_21 rfl dX1_record_22 ?_
    refine g_iconst (v := 1) C dX1_record_25 (by decide) ?_
    refine g_isub C dX1_record_26 ?_
    rw [← eh]
    refine g_putf C 169 (by decide) rfl rfl in_X1_record tyX1 tyX1_ok nmX1 2 (by decide) fl_X1_record_21 rfl rfl rfl (Nat.le_of_ble_eq_true rfl) dX1_record_27 (xE Z.2.1 Z.2.2 ad D sav old1 hsz1 cs len g) xE_hsz ?_
    obtain ⟨rfl, rfl, rfl⟩ := gs3 h
    exact cr_X1_record hj C h0 e
set_option maxHeartbeats 4000000 in
set_option maxRecDepth 100000 in
/-- the latest state is put into disk i -/
theorem cn_X1_takeLatest (l : Launch) (Z : gZ) (ad : Nat → Nat) (hI : gInj 175 ad) (D : Nat → Nat → Nat → Int32) (sav old hsz : Int32) (cs : Nat → Int32) (len : Int32) (g : Nat → Int32) (i : Nat) (hi : i < 3) {r : Int32} {D' : Nat → Nat → Nat → Int32} {hsz' : Int32} (h : f_X1_takeLatest D sav old hsz cs len g i = some (r, D', hsz')) : gI l yX1_takeLatest wsX1_takeLatest rm_X1_takeLatest Z 175 ad [.ref (ad 169), .ref (ad (21 * i))] (xE Z.2.1 Z.2.2 ad D sav old hsz cs len g) r (xE Z.2.1 Z.2.2 ad D' sav old hsz' cs len g) := by
  refine g_entryI (cc := cX1_takeLatest) (maxL := 3) (by decide +kernel) rfl hI (Nat.le_of_ble_eq_true rfl) (fun X C e => ?_)
  unfold f_X1_takeLatest at h
  show GG X Z 3 175 ad (xE Z.2.1 Z.2.2 ad D sav old hsz cs len g) 0 [(0, .ref (ad 169)), (1, .ref (ad (21 * i)))] []
  refine g_aload_n C dX1_takeLatest_0 0 rfl ?_
  refine g_getf (v := .int hsz) C 169 (by decide) rfl rfl in_X1_takeLatest 2 (by decide) fl_X1_takeLatest_21 rfl dX1_takeLatest_1 ?_
  refine g_if_le (tgt := 20) C dX1_takeLatest_4 (by decide) (fun hc => ?_) (fun hc => ?_)
  · replace h := gi_pos hc h
    obtain ⟨rfl, rfl, rfl⟩ := gs3 h
    refine g_null C dX1_takeLatest_20 ?_
    refine g_astore_nN C dX1_takeLatest_21 (by decide) [(2, .null), (0, .ref (ad 169)), (1, .ref (ad (21 * i)))] rfl ?_
    refine g_aload_nN C dX1_takeLatest_22 0 rfl ?_
    refine g_ifnonnullN C dX1_takeLatest_23 ?_
    refine g_iconst (v := 0) C dX1_takeLatest_26 (by decide) ?_
    exact g_zret C e rfl dX1_takeLatest_27
  · replace h := gi_neg hc h
    obtain ⟨h0, h⟩ := gguard h
    obtain ⟨rfl, rfl, rfl⟩ := gs3 h
    refine g_aload_n C dX1_takeLatest_7 0 rfl ?_
    refine g_aload_n C dX1_takeLatest_8 0 rfl ?_
    refine g_getf (v := .int hsz) C 169 (by decide) rfl rfl in_X1_takeLatest 2 (by decide) fl_X1_takeLatest_21 rfl dX1_takeLatest_9 ?_
    refine g_iconst (v := 1) C dX1_takeLatest_12 (by decide) ?_
    refine g_isub C dX1_takeLatest_13 ?_
    refine g_callWr (rest := []) C gX1_takeLatest_X1_slotBehind rfl ok_X1_slotBehind ⟨by decide, by decide⟩ ⟨rfl, rfl⟩ 169 (by decide) rfl rfl (fun hI => cn_X1_slotBehind X.2.1 Z ad hI D sav old hsz cs len g (hsz - 1) h0.1 h0.2) rfl dX1_takeLatest_14 rfl (Nat.le_of_ble_eq_true rfl) ?_
    obtain ⟨q, eq⟩ : ∃ q, q = 3 + (sbI old (hsz - 1)).toNatClampNeg := ⟨_, rfl⟩
    have hq : q < 8 := by omega
    have hqi : q ≠ i := by omega
    rw [← eq] at e ⊢
    refine g_goto (tgt := 21) C dX1_takeLatest_17 (by decide) ?_
    refine g_astore_n C dX1_takeLatest_21 (by decide) [(2, .ref (ad (21 * q))), (0, .ref (ad 169)), (1, .ref (ad (21 * i)))] rfl ?_
    refine g_aload_n C dX1_takeLatest_22 0 rfl ?_
    refine g_ifnonnull (tgt := 28) C dX1_takeLatest_23 (by decide) ?_
    refine g_aload_n C dX1_takeLatest_28 2 rfl ?_
    refine g_aload_n C dX1_takeLatest_29 0 rfl ?_
    refine g_callWv (rest := []) (E2 := (xE Z.2.1 Z.2.2 ad (dcp D i q) sav old hsz cs len g)) (rm' := rm_X0_copyFrom) C gX1_takeLatest_X0_copyFrom rfl ok_X0_copyFrom ⟨by decide, by decide⟩ ⟨rfl, rfl⟩ (21 * i) (by omega) (xE_rec i (by omega)) rfl (fun hI => cn_X0_copyFrom X.2.1 Z ad hI D sav old hsz cs len g i q (by omega) hq hqi) rfl dX1_takeLatest_30 rfl (Nat.le_of_ble_eq_true rfl) ?_
    refine g_aload_n C dX1_takeLatest_33 1 rfl ?_
    refine g_dup C dX1_takeLatest_34 rfl ?_
    refine g_getf (v := .int hsz) C 169 (by decide) rfl rfl in_X1_takeLatest 2 (by decide) fl_X1_takeLatest_21 rfl dX1_takeLatest_35 ?_
    refine g_iconst (v := 1) C dX1_takeLatest_38 (by decide) ?_
    refine g_isub C dX1_takeLatest_39 ?_
    refine g_putf C 169 (by decide) rfl rfl in_X1_takeLatest tyX1 tyX1_ok nmX1 2 (by decide) fl_X1_takeLatest_21 rfl rfl rfl (Nat.le_of_ble_eq_true rfl) dX1_takeLatest_40 (xE Z.2.1 Z.2.2 ad (dcp D i q) sav old (hsz - 1) cs len g) xE_hsz ?_
    refine g_iconst (v := 1) C dX1_takeLatest_43 (by decide) ?_
    exact g_zret C e rfl dX1_takeLatest_44
