/-! THE L LAYER: the same rows over worlds that are lists of cells, and that may grow (constructors, the law). -/
def GL (X : gX) (Z : gZ) (nL : Nat) (A : Nat → Prop) (k c : Nat) (ws : va_W) (pc : Nat) (lv : List (Nat × Value)) (st : List Value) : Prop :=
  ∀ (H : Heap) (locs : List Loc) (ls : Array Slot), lv_has ls nL lv → va_P Z.1 vwCl ws H → va_D A ws → va_S A X.2.2.2.2.1.heap H locs →
    W X.1 X.2.1 X.2.2.1 X.2.2.2.1 X.2.2.2.2.1 X.2.2.2.2.2.1 X.2.2.2.2.2.2.1 X.2.2.2.2.2.2.2.1 X.2.2.2.2.2.2.2.2.1 X.2.2.2.2.2.2.2.2.2.1 H locs k c X.2.2.2.2.2.2.2.2.2.2 (F0 X.2.2.2.2.2.1 pc ls st)
def LC (X : gX) (Z : gZ) (cc : ByteArray) (nL : Nat) (Ts : List Cond) (own : String) (rm : Room) (A : Nat → Prop) : Prop :=
  X.1.tables.exec = Jvm.exec ∧ X.2.2.2.2.2.2.2.2.2.1.code = cc ∧ X.2.2.2.2.2.2.2.2.2.1.maxLocals = nL ∧ X.2.2.2.2.1.vm.findClass own = some X.2.2.2.2.2.1.cls ∧ (∀ w ∈ Ts, w.before X.2.2.2.2.2.2.1 X.2.2.2.2.1 = true) ∧ X.2.2.2.2.2.2.2.2.1.locks = false ∧ gK Z X.2.2.2.2.1 ∧ (∀ q, X.2.2.2.2.1.heap.size ≤ q → A q) ∧ X.2.2.2.1 = rm
section LROWS
variable {X : gX} {Z : gZ} {cc : ByteArray} {nL : Nat} {Ts : List Cond} {own : String} {rm : Room} {A : Nat → Prop} {ck cs : Nat} {ws : va_W} {pc : Nat} {lv : List (Nat × Value)} {rest : List Value}
theorem l_iconst (C : LC X Z cc nL Ts own rm A) {k : Int} {v : Int32} (hdg : decode cc pc = .ok (.iconst k, 1)) (hv : Int32.ofInt k = v) (kk : GL X Z nL A ck cs ws (pc + 1) lv (.int v :: rest)) : GL X Z nL A ck cs ws pc lv rest := by
  obtain ⟨hx, hb, -⟩ := C
  intro H locs ls hl hP hD hS
  exact lv_iconst hx hb hdg hv (kk H locs ls hl hP hD hS)
theorem l_bipush (C : LC X Z cc nL Ts own rm A) {k : Int} {v : Int32} (hdg : decode cc pc = .ok (.bipush k, 2)) (hv : (Int8.ofInt k).toInt32 = v) (kk : GL X Z nL A ck cs ws (pc + 2) lv (.int v :: rest)) : GL X Z nL A ck cs ws pc lv rest := by
  obtain ⟨hx, hb, -⟩ := C
  intro H locs ls hl hP hD hS
  exact lv_bipush hx hb hdg hv (kk H locs ls hl hP hD hS)
theorem l_sipush (C : LC X Z cc nL Ts own rm A) {k : Int} {v : Int32} (hdg : decode cc pc = .ok (.sipush k, 3)) (hv : (Int16.ofInt k).toInt32 = v) (kk : GL X Z nL A ck cs ws (pc + 3) lv (.int v :: rest)) : GL X Z nL A ck cs ws pc lv rest := by
  obtain ⟨hx, hb, -⟩ := C
  intro H locs ls hl hP hD hS
  exact lv_sipush hx hb hdg hv (kk H locs ls hl hP hD hS)
theorem l_iload_n (C : LC X Z cc nL Ts own rm A) {k : Fin 4} {x : Int32} (hdg : decode cc pc = .ok (.iload_n k, 1)) (q : Nat) (hq : lv[q]? = some ((k : Nat), .int x)) (kk : GL X Z nL A ck cs ws (pc + 1) lv (.int x :: rest)) : GL X Z nL A ck cs ws pc lv rest := by
  obtain ⟨hx, hb, -⟩ := C
  intro H locs ls hl hP hD hS
  exact lv_iload_n hx hb hdg rfl (lv_at hl q hq) (kk H locs ls hl hP hD hS)
theorem l_iload (C : LC X Z cc nL Ts own rm A) {k : Nat} {x : Int32} (hdg : decode cc pc = .ok (.iload k, 2)) (q : Nat) (hq : lv[q]? = some (k, .int x)) (kk : GL X Z nL A ck cs ws (pc + 2) lv (.int x :: rest)) : GL X Z nL A ck cs ws pc lv rest := by
  obtain ⟨hx, hb, -⟩ := C
  intro H locs ls hl hP hD hS
  exact lv_iload hx hb hdg (lv_at hl q hq) (kk H locs ls hl hP hD hS)
theorem l_aload_n (C : LC X Z cc nL Ts own rm A) {k : Fin 4} {x : Nat} (hdg : decode cc pc = .ok (.aload_n k, 1)) (q : Nat) (hq : lv[q]? = some ((k : Nat), .ref x)) (kk : GL X Z nL A ck cs ws (pc + 1) lv (.ref x :: rest)) : GL X Z nL A ck cs ws pc lv rest := by
  obtain ⟨hx, hb, -⟩ := C
  intro H locs ls hl hP hD hS
  exact lv_aload_n hx hb hdg rfl (lv_at hl q hq) (kk H locs ls hl hP hD hS)
theorem l_istore_n (C : LC X Z cc nL Ts own rm A) {k : Fin 4} {x : Int32} (hdg : decode cc pc = .ok (.istore_n k, 1)) (hn : (k : Nat) < nL) (lv' : List (Nat × Value)) (hl' : gSt lv k (.int x) = lv') (kk : GL X Z nL A ck cs ws (pc + 1) lv' rest) : GL X Z nL A ck cs ws pc lv (.int x :: rest) := by
  obtain ⟨hx, hb, -⟩ := C
  intro H locs ls hl hP hD hS
  exact lv_istore_n hx hb hdg rfl hl hn hl' (fun ls hl => kk H locs ls hl hP hD hS)
theorem l_istore (C : LC X Z cc nL Ts own rm A) {k : Nat} {x : Int32} (hdg : decode cc pc = .ok (.istore k, 2)) (hn : k < nL) (lv' : List (Nat × Value)) (hl' : gSt lv k (.int x) = lv') (kk : GL X Z nL A ck cs ws (pc + 2) lv' rest) : GL X Z nL A ck cs ws pc lv (.int x :: rest) := by
  obtain ⟨hx, hb, -⟩ := C
  intro H locs ls hl hP hD hS
  exact lv_istore hx hb hdg hl hn hl' (fun ls hl => kk H locs ls hl hP hD hS)
theorem l_iinc (C : LC X Z cc nL Ts own rm A) {i : Nat} {k : Int} {x v : Int32} (hdg : decode cc pc = .ok (.iinc i k, 3)) (q : Nat) (hq : lv[q]? = some (i, .int x)) (hv : x + Int32.ofInt k = v) (hn : i < nL) (lv' : List (Nat × Value)) (hl' : gSt lv i (.int v) = lv') (kk : GL X Z nL A ck cs ws (pc + 3) lv' rest) : GL X Z nL A ck cs ws pc lv rest := by
  obtain ⟨hx, hb, -⟩ := C
  intro H locs ls hl hP hD hS
  exact lv_iinc hx hb hdg hl (k := q) hq hv hn hl' (fun ls hl => kk H locs ls hl hP hD hS)
theorem l_iadd (C : LC X Z cc nL Ts own rm A) {x y : Int32} (hdg : decode cc pc = .ok (.iadd, 1)) (kk : GL X Z nL A ck cs ws (pc + 1) lv (.int (x + y) :: rest)) : GL X Z nL A ck cs ws pc lv (.int y :: .int x :: rest) := by
  obtain ⟨hx, hb, -⟩ := C
  intro H locs ls hl hP hD hS
  exact lv_iadd hx hb hdg (kk H locs ls hl hP hD hS)
theorem l_isub (C : LC X Z cc nL Ts own rm A) {x y : Int32} (hdg : decode cc pc = .ok (.isub, 1)) (kk : GL X Z nL A ck cs ws (pc + 1) lv (.int (x - y) :: rest)) : GL X Z nL A ck cs ws pc lv (.int y :: .int x :: rest) := by
  obtain ⟨hx, hb, -⟩ := C
  intro H locs ls hl hP hD hS
  exact lv_isub hx hb hdg (kk H locs ls hl hP hD hS)
theorem l_imul (C : LC X Z cc nL Ts own rm A) {x y : Int32} (hdg : decode cc pc = .ok (.imul, 1)) (kk : GL X Z nL A ck cs ws (pc + 1) lv (.int (x * y) :: rest)) : GL X Z nL A ck cs ws pc lv (.int y :: .int x :: rest) := by
  obtain ⟨hx, hb, -⟩ := C
  intro H locs ls hl hP hD hS
  exact lv_imul hx hb hdg (kk H locs ls hl hP hD hS)
theorem l_dup (C : LC X Z cc nL Ts own rm A) {v : Value} (hdg : decode cc pc = .ok (.dup, 1)) (hv : v.category = 1) (kk : GL X Z nL A ck cs ws (pc + 1) lv (v :: v :: rest)) : GL X Z nL A ck cs ws pc lv (v :: rest) := by
  obtain ⟨hx, hb, -⟩ := C
  intro H locs ls hl hP hD hS
  exact lv_dup hx hb hdg hv (kk H locs ls hl hP hD hS)
theorem l_pop (C : LC X Z cc nL Ts own rm A) {v : Value} (hdg : decode cc pc = .ok (.pop, 1)) (hv : v.category = 1) (kk : GL X Z nL A ck cs ws (pc + 1) lv rest) : GL X Z nL A ck cs ws pc lv (v :: rest) := by
  obtain ⟨hx, hb, -⟩ := C
  intro H locs ls hl hP hD hS
  exact lv_pop hx hb hdg hv (kk H locs ls hl hP hD hS)
theorem l_goto (C : LC X Z cc nL Ts own rm A) {off : Int} {tgt : Nat} (hdg : decode cc pc = .ok (.goto off, 3)) (ht : (pc : Int) + off = (tgt : Int)) (kk : GL X Z nL A ck cs ws tgt lv rest) : GL X Z nL A ck cs ws pc lv rest := by
  obtain ⟨hx, hb, -⟩ := C
  intro H locs ls hl hP hD hS
  exact lv_goto hx hb hdg ht (kk H locs ls hl hP hD hS)
theorem l_if_eq (C : LC X Z cc nL Ts own rm A) {x : Int32} {off : Int} {tgt : Nat} (hdg : decode cc pc = .ok (.ifCond .eq off, 3)) (ht : (pc : Int) + off = (tgt : Int)) (kt : x = 0 → GL X Z nL A ck cs ws tgt lv rest) (kf : ¬ (x = 0) → GL X Z nL A ck cs ws (pc + 3) lv rest) : GL X Z nL A ck cs ws pc lv (.int x :: rest) := by
  obtain ⟨hx, hb, -⟩ := C
  intro H locs ls hl hP hD hS
  exact lv_if_eq hx hb hdg ht (fun h => kt h H locs ls hl hP hD hS) (fun h => kf h H locs ls hl hP hD hS)
theorem l_if_ne (C : LC X Z cc nL Ts own rm A) {x : Int32} {off : Int} {tgt : Nat} (hdg : decode cc pc = .ok (.ifCond .ne off, 3)) (ht : (pc : Int) + off = (tgt : Int)) (kt : x ≠ 0 → GL X Z nL A ck cs ws tgt lv rest) (kf : x = 0 → GL X Z nL A ck cs ws (pc + 3) lv rest) : GL X Z nL A ck cs ws pc lv (.int x :: rest) := by
  obtain ⟨hx, hb, -⟩ := C
  intro H locs ls hl hP hD hS
  exact lv_if_ne hx hb hdg ht (fun h => kt h H locs ls hl hP hD hS) (fun h => kf h H locs ls hl hP hD hS)
theorem l_if_lt (C : LC X Z cc nL Ts own rm A) {x : Int32} {off : Int} {tgt : Nat} (hdg : decode cc pc = .ok (.ifCond .lt off, 3)) (ht : (pc : Int) + off = (tgt : Int)) (kt : x < 0 → GL X Z nL A ck cs ws tgt lv rest) (kf : ¬ (x < 0) → GL X Z nL A ck cs ws (pc + 3) lv rest) : GL X Z nL A ck cs ws pc lv (.int x :: rest) := by
  obtain ⟨hx, hb, -⟩ := C
  intro H locs ls hl hP hD hS
  exact lv_if_lt hx hb hdg ht (fun h => kt h H locs ls hl hP hD hS) (fun h => kf h H locs ls hl hP hD hS)
theorem l_if_ge (C : LC X Z cc nL Ts own rm A) {x : Int32} {off : Int} {tgt : Nat} (hdg : decode cc pc = .ok (.ifCond .ge off, 3)) (ht : (pc : Int) + off = (tgt : Int)) (kt : 0 ≤ x → GL X Z nL A ck cs ws tgt lv rest) (kf : ¬ (0 ≤ x) → GL X Z nL A ck cs ws (pc + 3) lv rest) : GL X Z nL A ck cs ws pc lv (.int x :: rest) := by
  obtain ⟨hx, hb, -⟩ := C
  intro H locs ls hl hP hD hS
  exact lv_if_ge hx hb hdg ht (fun h => kt h H locs ls hl hP hD hS) (fun h => kf h H locs ls hl hP hD hS)
theorem l_if_gt (C : LC X Z cc nL Ts own rm A) {x : Int32} {off : Int} {tgt : Nat} (hdg : decode cc pc = .ok (.ifCond .gt off, 3)) (ht : (pc : Int) + off = (tgt : Int)) (kt : 0 < x → GL X Z nL A ck cs ws tgt lv rest) (kf : ¬ (0 < x) → GL X Z nL A ck cs ws (pc + 3) lv rest) : GL X Z nL A ck cs ws pc lv (.int x :: rest) := by
  obtain ⟨hx, hb, -⟩ := C
  intro H locs ls hl hP hD hS
  exact lv_if_gt hx hb hdg ht (fun h => kt h H locs ls hl hP hD hS) (fun h => kf h H locs ls hl hP hD hS)
theorem l_if_le (C : LC X Z cc nL Ts own rm A) {x : Int32} {off : Int} {tgt : Nat} (hdg : decode cc pc = .ok (.ifCond .le off, 3)) (ht : (pc : Int) + off = (tgt : Int)) (kt : x ≤ 0 → GL X Z nL A ck cs ws tgt lv rest) (kf : ¬ (x ≤ 0) → GL X Z nL A ck cs ws (pc + 3) lv rest) : GL X Z nL A ck cs ws pc lv (.int x :: rest) := by
  obtain ⟨hx, hb, -⟩ := C
  intro H locs ls hl hP hD hS
  exact lv_if_le hx hb hdg ht (fun h => kt h H locs ls hl hP hD hS) (fun h => kf h H locs ls hl hP hD hS)
theorem l_icmp_eq (C : LC X Z cc nL Ts own rm A) {x y : Int32} {off : Int} {tgt : Nat} (hdg : decode cc pc = .ok (.if_icmp .eq off, 3)) (ht : (pc : Int) + off = (tgt : Int)) (kt : x = y → GL X Z nL A ck cs ws tgt lv rest) (kf : ¬ (x = y) → GL X Z nL A ck cs ws (pc + 3) lv rest) : GL X Z nL A ck cs ws pc lv (.int y :: .int x :: rest) := by
  obtain ⟨hx, hb, -⟩ := C
  intro H locs ls hl hP hD hS
  exact lv_icmp_eq hx hb hdg ht (fun h => kt h H locs ls hl hP hD hS) (fun h => kf h H locs ls hl hP hD hS)
theorem l_icmp_ne (C : LC X Z cc nL Ts own rm A) {x y : Int32} {off : Int} {tgt : Nat} (hdg : decode cc pc = .ok (.if_icmp .ne off, 3)) (ht : (pc : Int) + off = (tgt : Int)) (kt : x ≠ y → GL X Z nL A ck cs ws tgt lv rest) (kf : x = y → GL X Z nL A ck cs ws (pc + 3) lv rest) : GL X Z nL A ck cs ws pc lv (.int y :: .int x :: rest) := by
  obtain ⟨hx, hb, -⟩ := C
  intro H locs ls hl hP hD hS
  exact lv_icmp_ne hx hb hdg ht (fun h => kt h H locs ls hl hP hD hS) (fun h => kf h H locs ls hl hP hD hS)
theorem l_icmp_lt (C : LC X Z cc nL Ts own rm A) {x y : Int32} {off : Int} {tgt : Nat} (hdg : decode cc pc = .ok (.if_icmp .lt off, 3)) (ht : (pc : Int) + off = (tgt : Int)) (kt : x < y → GL X Z nL A ck cs ws tgt lv rest) (kf : ¬ (x < y) → GL X Z nL A ck cs ws (pc + 3) lv rest) : GL X Z nL A ck cs ws pc lv (.int y :: .int x :: rest) := by
  obtain ⟨hx, hb, -⟩ := C
  intro H locs ls hl hP hD hS
  exact lv_icmp_lt hx hb hdg ht (fun h => kt h H locs ls hl hP hD hS) (fun h => kf h H locs ls hl hP hD hS)
theorem l_icmp_ge (C : LC X Z cc nL Ts own rm A) {x y : Int32} {off : Int} {tgt : Nat} (hdg : decode cc pc = .ok (.if_icmp .ge off, 3)) (ht : (pc : Int) + off = (tgt : Int)) (kt : y ≤ x → GL X Z nL A ck cs ws tgt lv rest) (kf : ¬ (y ≤ x) → GL X Z nL A ck cs ws (pc + 3) lv rest) : GL X Z nL A ck cs ws pc lv (.int y :: .int x :: rest) := by
  obtain ⟨hx, hb, -⟩ := C
  intro H locs ls hl hP hD hS
  exact lv_icmp_ge hx hb hdg ht (fun h => kt h H locs ls hl hP hD hS) (fun h => kf h H locs ls hl hP hD hS)
theorem l_icmp_gt (C : LC X Z cc nL Ts own rm A) {x y : Int32} {off : Int} {tgt : Nat} (hdg : decode cc pc = .ok (.if_icmp .gt off, 3)) (ht : (pc : Int) + off = (tgt : Int)) (kt : y < x → GL X Z nL A ck cs ws tgt lv rest) (kf : ¬ (y < x) → GL X Z nL A ck cs ws (pc + 3) lv rest) : GL X Z nL A ck cs ws pc lv (.int y :: .int x :: rest) := by
  obtain ⟨hx, hb, -⟩ := C
  intro H locs ls hl hP hD hS
  exact lv_icmp_gt hx hb hdg ht (fun h => kt h H locs ls hl hP hD hS) (fun h => kf h H locs ls hl hP hD hS)
theorem l_icmp_le (C : LC X Z cc nL Ts own rm A) {x y : Int32} {off : Int} {tgt : Nat} (hdg : decode cc pc = .ok (.if_icmp .le off, 3)) (ht : (pc : Int) + off = (tgt : Int)) (kt : x ≤ y → GL X Z nL A ck cs ws tgt lv rest) (kf : ¬ (x ≤ y) → GL X Z nL A ck cs ws (pc + 3) lv rest) : GL X Z nL A ck cs ws pc lv (.int y :: .int x :: rest) := by
  obtain ⟨hx, hb, -⟩ := C
  intro H locs ls hl hP hD hS
  exact lv_icmp_le hx hb hdg ht (fun h => kt h H locs ls hl hP hD hS) (fun h => kf h H locs ls hl hP hD hS)
theorem l_tableIn (C : LC X Z cc nL Ts own rm A) {dflt lo hi : Int} {offs : Array Int} {len : Nat} {x : Int32} (kv : Int32) (hxk : x = kv) {off : Int} {tgt : Nat} (hdg : decode cc pc = .ok (.tableswitch dflt lo hi offs, len)) (h1 : ¬ kv.toInt < lo) (h2 : ¬ hi < kv.toInt) (ho : offs[(kv.toInt - lo).toNat]? = some off) (ht : (pc : Int) + off = (tgt : Int)) (kk : GL X Z nL A ck cs ws tgt lv rest) : GL X Z nL A ck cs ws pc lv (.int x :: rest) := by
  obtain ⟨hx, hb, -⟩ := C
  intro H locs ls hl hP hD hS
  subst hxk
  exact lv_tableIn hx hb hdg h1 h2 ho ht (kk H locs ls hl hP hD hS)
theorem l_tableOut (C : LC X Z cc nL Ts own rm A) {dflt lo hi : Int} {offs : Array Int} {len : Nat} {x : Int32} {tgt : Nat} (hdg : decode cc pc = .ok (.tableswitch dflt lo hi offs, len)) (h : x.toInt < lo ∨ hi < x.toInt) (ht : (pc : Int) + dflt = (tgt : Int)) (kk : GL X Z nL A ck cs ws tgt lv rest) : GL X Z nL A ck cs ws pc lv (.int x :: rest) := by
  obtain ⟨hx, hb, -⟩ := C
  intro H locs ls hl hP hD hS
  exact lv_tableOut hx hb hdg h ht (kk H locs ls hl hP hD hS)
theorem l_getf (C : LC X Z cc nL Ts own rm A) {ci N index : Nat} {Cn : String} {T : u_T} (q : Nat) {a : Nat} {fs : List Value} {v : Value} (hE : ws[q]? = some (a, .inr (ci, fs))) (hc : vwCl[ci]? = some (Cn, T, N)) (hin : ∀ w ∈ u_ws Cn T N, w ∈ Ts) (k : Nat) (hk : k < N) (hlk : Cond.fieldLink own index (T k).1 (T k).2.1 (T k).2.2.1 ∈ Ts) (hv : fs[k]? = some v) (hdg : decode cc pc = .ok (.getfield index, 3)) (kk : GL X Z nL A ck cs ws (pc + 3) lv (v :: rest)) : GL X Z nL A ck cs ws pc lv (.ref a :: rest) := by
  obtain ⟨hx, hb, hml, hown, hts, hlo, hK, hA, hR⟩ := C
  intro H locs ls hl hP hD hS
  exact va_get hx hb hts hin hown hK hP q hE hc k hk (hts _ hlk) (fun _ h9 => h9) hv hdg (kk H locs ls hl hP hD hS)
theorem l_putf (C : LC X Z cc nL Ts own rm A) {ci N index : Nat} {Cn : String} {T : u_T} (q : Nat) {a : Nat} {fs : List Value} {v : Value} (hE : ws[q]? = some (a, .inr (ci, fs))) (hc : vwCl[ci]? = some (Cn, T, N)) (hin : ∀ w ∈ u_ws Cn T N, w ∈ Ts) (ty0 : Nat → FieldType) (hty : ∀ k, k < N → parseFieldDescriptor (T k).2.2.1 = some (ty0 k)) (hnm : ∀ a, a < N → ∀ b, b < N → a ≠ b → (T a).2.1 ≠ (T b).2.1) (k : Nat) (hk : k < N) (hlk : Cond.fieldLink own index (T k).1 (T k).2.1 (T k).2.2.1 ∈ Ts) (hfin : (T k).2.2.2 = false) (hn : narrow (ty0 k) v = v) (hfit : fits (ty0 k) v = true) (hl1 : k < fs.length) (hdg : decode cc pc = .ok (.putfield index, 3)) (ws2 : va_W) (h2 : ws.set q (a, .inr (ci, fs.set k v)) = ws2) (kk : GL X Z nL A ck cs ws2 (pc + 3) lv rest) : GL X Z nL A ck cs ws pc lv (v :: .ref a :: rest) := by
  obtain ⟨hx, hb, hml, hown, hts, hlo, hK, hA, hR⟩ := C
  intro H locs ls hl hP hD hS
  subst h2
  exact va_put hx hb hts hin ty0 hty hnm hown hK hP hD hS q hE hc k hk (hts _ hlk) (fun _ h9 => h9) hfin (hty k hk) hn hfit hl1 hdg (fun H1 locs1 hP1 hD1 hS1 => kk H1 locs1 ls hl hP1 hD1 hS1)
/-- a final field, in a constructor -/
theorem l_putF (C : LC X Z cc nL Ts own rm A) (hin2 : X.2.2.2.2.2.2.2.2.1.name = "<init>") {ci N index : Nat} {Cn : String} {T : u_T} (q : Nat) {a : Nat} {fs : List Value} {v : Value} (hE : ws[q]? = some (a, .inr (ci, fs))) (hc : vwCl[ci]? = some (Cn, T, N)) (hin : ∀ w ∈ u_ws Cn T N, w ∈ Ts) (ty0 : Nat → FieldType) (hty : ∀ k, k < N → parseFieldDescriptor (T k).2.2.1 = some (ty0 k)) (hnm : ∀ a, a < N → ∀ b, b < N → a ≠ b → (T a).2.1 ≠ (T b).2.1) (k : Nat) (hk : k < N) (hlk : Cond.fieldLink own index (T k).1 (T k).2.1 (T k).2.2.1 ∈ Ts) (hfin : (T k).2.2.2 = true) (hdecl : (T k).1 = own) (hn : narrow (ty0 k) v = v) (hfit : fits (ty0 k) v = true) (hl1 : k < fs.length) (hdg : decode cc pc = .ok (.putfield index, 3)) (ws2 : va_W) (h2 : ws.set q (a, .inr (ci, fs.set k v)) = ws2) (kk : GL X Z nL A ck cs ws2 (pc + 3) lv rest) : GL X Z nL A ck cs ws pc lv (v :: .ref a :: rest) := by
  obtain ⟨hx, hb, hml, hown, hts, hlo, hK, hA, hR⟩ := C
  intro H locs ls hl hP hD hS
  subst h2
  exact va_putF hx hb hts hin ty0 hty hnm hown hK hP hD hS q hE hc k hk (hts _ hlk) (fun _ h9 => h9) hfin hin2 hdecl (hty k hk) hn hfit hl1 hdg (fun H1 locs1 hP1 hD1 hS1 => kk H1 locs1 ls hl hP1 hD1 hS1)
theorem l_iast (C : LC X Z cc nL Ts own rm A) (q : Nat) {a len : Nat} {f : Nat → Int32} (hE : ws[q]? = some (a, .inl (Z.2.1, len, .inl f))) {i x : Int32} (hin : vp_in i len) (hdg : decode cc pc = .ok (.iastore, 1)) (ws2 : va_W) (h2 : ws.set q (a, .inl (Z.2.1, len, .inl (upd f i.toNatClampNeg x))) = ws2) (kk : GL X Z nL A ck cs ws2 (pc + 1) lv rest) : GL X Z nL A ck cs ws pc lv (.int x :: .int i :: .ref a :: rest) := by
  obtain ⟨hx, hb, hml, hown, hts, hlo, hK, hA, hR⟩ := C
  intro H locs ls hl hP hD hS
  subst h2
  exact va_iast hx hb hK hP hD hS q 0 hE rfl hin hdg (fun H1 locs1 hP1 hD1 hS1 => kk H1 locs1 ls hl hP1 hD1 hS1)
theorem l_alen (C : LC X Z cc nL Ts own rm A) (q : Nat) {a len : Nat} {f : Nat → Int32} (hE : ws[q]? = some (a, .inl (Z.2.1, len, .inl f))) (hdg : decode cc pc = .ok (.arraylength, 1)) (kk : GL X Z nL A ck cs ws (pc + 1) lv (.int (nI len) :: rest)) : GL X Z nL A ck cs ws pc lv (.ref a :: rest) := by
  obtain ⟨hx, hb, hml, hown, hts, hlo, hK, hA, hR⟩ := C
  intro H locs ls hl hP hD hS
  exact va_alen (x := (len, .inl f)) hx hb hK hP q 0 hE rfl rfl hdg (kk H locs ls hl hP hD hS)
theorem l_alenq (C : LC X Z cc nL Ts own rm A) (q : Nat) {a len : Nat} {f : Nat → Option Nat} (hE : ws[q]? = some (a, .inl (Z.2.2, len, .inr (.inr (.inr (.inr f)))))) (hdg : decode cc pc = .ok (.arraylength, 1)) (kk : GL X Z nL A ck cs ws (pc + 1) lv (.int (nI len) :: rest)) : GL X Z nL A ck cs ws pc lv (.ref a :: rest) := by
  obtain ⟨hx, hb, hml, hown, hts, hlo, hK, hA, hR⟩ := C
  intro H locs ls hl hP hD hS
  exact va_alen (x := (len, .inr (.inr (.inr (.inr f))))) hx hb hK hP q 1 hE rfl rfl hdg (kk H locs ls hl hP hD hS)
theorem l_mmax (C : LC X Z cc nL Ts own rm A) {index : Nat} (h1 : Cond.methodLink own index Lib.Math.max.name ∈ Ts) (h2 : Cond.static Lib.Math.max.name ∈ Ts) (h3 : Cond.initialized "java/lang/Math" ∈ Ts) (h4 : Cond.code Lib.Math.max.name Lib.Math.max.code 2 (some .int) ∈ Ts) (hf : 1 ≤ rm.frames) (hlc : (rest.map fun v => v.category).sum + 13 ≤ rm.locals) (hck : ck ≤ rm.cells) (hcs : cs ≤ rm.slots) {x y : Int32} (hdg : decode cc pc = .ok (.invokestatic index, 3)) (kk : GL X Z nL A ck cs ws (pc + 3) lv (.int (if x < y then y else x) :: rest)) : GL X Z nL A ck cs ws pc lv (.int y :: .int x :: rest) := by
  obtain ⟨hx, hb, hml, hown, hts, hlo, hK, hA, hR⟩ := C
  intro H locs ls hl hP hD hS
  exact va_mmax hx hb (hml.trans hl.1.symm) hown (hts _ h1) (hts _ h2) (hts _ h3) (hts _ h4) (by rw [hR]; exact hf) (by rw [hR]; exact hlc) (by rw [hR]; exact hck) (by rw [hR]; exact hcs) hdg (kk H locs ls hl hP hD hS)
theorem l_new (C : LC X Z cc nL Ts own rm A) {ci N index : Nat} {Cn : String} {T : u_T} (hc : vwCl[ci]? = some (Cn, T, N)) (hin : ∀ w ∈ u_ws Cn T N, w ∈ Ts) (ty0 : Nat → FieldType) (hty : ∀ k, k < N → parseFieldDescriptor (T k).2.2.1 = some (ty0 k)) (h1 : Cond.classLink own index Cn ∈ Ts) (h2 : Cond.instantiable Cn N ∈ Ts) (h3 : Cond.initialized Cn ∈ Ts) {fs : List Value} (hfs : ∀ j, j < N → defaultValue (ty0 j) = vp_V fs j) (hck : ck + 1 ≤ rm.cells) (hcs : cs + N ≤ rm.slots) (hdg : decode cc pc = .ok (.new index, 3)) (kk : ∀ q : Nat, GL X Z nL A (ck + 1) (cs + N) (ws ++ [(q, .inr (ci, fs))]) (pc + 3) lv (.ref q :: rest)) : GL X Z nL A ck cs ws pc lv rest := by
  obtain ⟨hx, hb, hml, hown, hts, hlo, hK, hA, hR⟩ := C
  intro H locs ls hl hP hD hS
  exact va_new hx hb hts hin ty0 hty hown (hts _ h1) (hts _ h2) (hts _ h3) hK hP hD hS hA hc hfs (by rw [hR]; exact hck) (by rw [hR]; exact hcs) hdg (fun q H1 hP1 hD1 hS1 => kk q H1 locs ls hl hP1 hD1 hS1)
theorem gK_I {X : gX} {Z : gZ} (hK : gK Z X.2.2.2.2.1) {cA : ClassId} (h : X.2.2.2.2.1.vm.findClass ("[" ++ FieldType.int.toString) = some cA) : cA = Z.2.1 := by
  have h1 := (hK.2 0 (Z.2.1, .int) rfl).2
  have h2 : X.2.2.2.2.1.vm.findClass ("[" ++ FieldType.int.toString) = some Z.2.1 := h1
  exact Option.some.inj (h.symm.trans h2)
theorem l_newa (C : LC X Z cc nL Ts own rm A) (harr : Cond.arrayClass .int ∈ Ts) {n : Int32} {N : Nat} (hn : ¬ n < 0) (hN : n.toNatClampNeg = N) (hbytes : N * componentBytes .int ≤ 536870912) (hck : ck + 1 ≤ rm.cells) (hcs : cs + N ≤ rm.slots) (hdg : decode cc pc = .ok (.newarray .int, 2)) (kk : ∀ q : Nat, GL X Z nL A (ck + 1) (cs + N) (ws ++ [(q, .inl (Z.2.1, N, .inl (fun _ => 0)))]) (pc + 2) lv (.ref q :: rest)) : GL X Z nL A ck cs ws pc lv (.int n :: rest) := by
  obtain ⟨hx, hb, hml, hown, hts, hlo, hK, hA, hR⟩ := C
  intro H locs ls hl hP hD hS
  refine va_newa (atype := .int) (ty := .int) (a0 := (N, .inl (fun _ => 0))) hx hb (hts _ harr) rfl hK hP hD hS hA (fun cA => rfl) hn hN hbytes (by rw [hR]; exact hck) (by rw [hR]; exact hcs) hdg (fun q cA H1 hK1 hP1 hD1 hS1 => ?_)
  have h1 := (hK1.2 2 (cA, .int) rfl).2
  obtain rfl := gK_I hK h1
  exact kk q H1 locs ls hl hP1 hD1 hS1
theorem l_newq (C : LC X Z cc nL Ts own rm A) {index : Nat} (hcl : Cond.classLink own index RX0 ∈ Ts) (hov : va_AO RX0 X.2.2.2.2.1) {n : Int32} {N : Nat} (hn : ¬ n < 0) (hN : n.toNatClampNeg = N) (hbytes : N * 4 ≤ 536870912) (hck : ck + 1 ≤ rm.cells) (hcs : cs + N ≤ rm.slots) (hdg : decode cc pc = .ok (.anewarray index, 3)) (kk : ∀ q : Nat, GL X Z nL A (ck + 1) (cs + N) (ws ++ [(q, .inl (Z.2.2, N, .inr (.inr (.inr (.inr (fun _ => none))))))]) (pc + 3) lv (.ref q :: rest)) : GL X Z nL A ck cs ws pc lv (.int n :: rest) := by
  obtain ⟨hx, hb, hml, hown, hts, hlo, hK, hA, hR⟩ := C
  intro H locs ls hl hP hD hS
  refine va_newq (C := RX0) hx hb hown (hts _ hcl) hov hK hP hD hS hA hn hN hbytes (by rw [hR]; exact hck) (by rw [hR]; exact hcs) hdg (fun q cA H1 hK1 hP1 hD1 hS1 => ?_)
  obtain ⟨kA, comp, -, -, -, h1⟩ := (hK1.2 2 (cA, .object RX0) rfl).2
  obtain ⟨kA2, comp2, -, -, -, h2⟩ := (hK.2 1 (Z.2.2, .object RX0) rfl).2
  obtain rfl : cA = Z.2.2 := Option.some.inj (h1.symm.trans h2)
  exact kk q H1 locs ls hl hP1 hD1 hS1
/-- the world may be told in another order, or some cells be forgotten -/
theorem l_perm (ws2 : va_W) (is : List Nat) (h : is.map (fun i => ws[i]?) = ws2.map some) (hn : va_nd is = true) (kk : GL X Z nL A ck cs ws2 pc lv rest) : GL X Z nL A ck cs ws pc lv rest := fun H locs ls hl hP hD hS =>
  kk H locs ls hl (hP.sub is (by
    have h2 : ws2 = (ws2.map some).filterMap id := by simp [List.filterMap_map]
    rw [h2, ← h, List.filterMap_map]; rfl)) (hD.sub is hn h) hS
end LROWS
/-- what comes out of a part of a world: its cells are where the part was, or new -/
def lFr (wc w1 : va_W) (sz : Nat) : Prop := ∀ (k : Nat) (q : Nat × va_E), w1[k]? = some q → (∃ (i : Nat) (e : va_E), wc[i]? = some (q.1, e)) ∨ sz ≤ q.1
theorem l_P_app {D : va_G} {w1 w2 : va_W} {H : Heap} (h : va_P D vwCl (w1 ++ w2) H) : va_P D vwCl w1 H ∧ va_P D vwCl w2 H := by
  refine ⟨fun k q hk => h k q ?_, fun k q hk => h (w1.length + k) q ?_⟩
  · rw [List.getElem?_append_left (List.getElem?_eq_some_iff.mp hk).1]; exact hk
  · rw [List.getElem?_append_right (by omega), Nat.add_sub_cancel_left]; exact hk
theorem l_D_app {A : Nat → Prop} {w1 w2 : va_W} (h : va_D A (w1 ++ w2)) : va_D A w1 ∧ va_D A w2 ∧ ∀ (i j : Nat) (p q : Nat × va_E), w1[i]? = some p → w2[j]? = some q → p.1 ≠ q.1 := by
  have e1 : ∀ (k : Nat) (q : Nat × va_E), w1[k]? = some q → (w1 ++ w2)[k]? = some q := fun k q hk => by
    rw [List.getElem?_append_left (List.getElem?_eq_some_iff.mp hk).1]; exact hk
  have e2 : ∀ (k : Nat) (q : Nat × va_E), w2[k]? = some q → (w1 ++ w2)[w1.length + k]? = some q := fun k q hk => by
    rw [List.getElem?_append_right (by omega), Nat.add_sub_cancel_left]; exact hk
  refine ⟨⟨fun i j p q hp hq e => h.1 i j p q (e1 i p hp) (e1 j q hq) e, fun k q hk => h.2 k q (e1 k q hk)⟩, ⟨fun i j p q hp hq e => ?_, fun k q hk => h.2 _ q (e2 k q hk)⟩, fun i j p q hp hq e => ?_⟩
  · have := h.1 _ _ p q (e2 i p hp) (e2 j q hq) e; omega
  · have h1 := h.1 _ _ p q (e1 i p hp) (e2 j q hq) e
    have h2 := (List.getElem?_eq_some_iff.mp hp).1
    omega
/-- a part in the middle of a world is exchanged for what the call made of it -/
theorem l_join {D : va_G} {A : Nat → Prop} {wa wc wb w1 : va_W} {H H1 : Heap} {sz0 : Nat} (hA : ∀ q, sz0 ≤ q → A q) (hz : sz0 ≤ H.size) (hP : va_P D vwCl (wa ++ (wc ++ wb)) H) (hD : va_D A (wa ++ (wc ++ wb))) (hP1 : va_P D vwCl w1 H1) (hD1 : va_D (va_A wc H.size) w1) (hk1 : ∀ q : Nat, q < H.size → ¬ va_A wc H.size q → H1[q]? = H[q]?) : va_P D vwCl (wa ++ (w1 ++ wb)) H1 ∧ va_D A (wa ++ (w1 ++ wb)) := by
  obtain ⟨hPa, hPcb⟩ := l_P_app hP
  obtain ⟨hPc, hPb⟩ := l_P_app hPcb
  obtain ⟨hDa, hDcb, hacb⟩ := l_D_app hD
  obtain ⟨hDc, hDb, hcb⟩ := l_D_app hDcb
  have hac : ∀ (i j : Nat) (p q : Nat × va_E), wa[i]? = some p → wc[j]? = some q → p.1 ≠ q.1 := fun i j p q hp hq => hacb i j p q hp (by rw [List.getElem?_append_left (List.getElem?_eq_some_iff.mp hq).1]; exact hq)
  have hab : ∀ (i j : Nat) (p q : Nat × va_E), wa[i]? = some p → wb[j]? = some q → p.1 ≠ q.1 := fun i j p q hp hq => hacb i (wc.length + j) p q hp (by rw [List.getElem?_append_right (by omega), Nat.add_sub_cancel_left]; exact hq)
  have nA : ∀ (k : Nat) (q : Nat × va_E), wa[k]? = some q → ¬ va_A wc H.size q.1 := by
    rintro k q hk (⟨i, e, hi⟩ | h)
    · exact hac k i q (q.1, e) hk hi rfl
    · have := (hPa k q hk).lt; omega
  have nB : ∀ (k : Nat) (q : Nat × va_E), wb[k]? = some q → ¬ va_A wc H.size q.1 := by
    rintro k q hk (⟨i, e, hi⟩ | h)
    · exact hcb i k (q.1, e) q hi hk rfl
    · have := (hPb k q hk).lt; omega
  have hPa1 : va_P D vwCl wa H1 := hPa.kept fun k q hk => hk1 q.1 (hPa k q hk).lt (nA k q hk)
  have hPb1 : va_P D vwCl wb H1 := hPb.kept fun k q hk => hk1 q.1 (hPb k q hk).lt (nB k q hk)
  have hA1 : va_D A w1 := hD1.weaken fun k q hk h => by
    rcases h with ⟨i, e, hi⟩ | h
    · exact hDc.2 i (q.1, e) hi
    · exact hA _ (by omega)
  refine ⟨hPa1.app (hP1.app hPb1), hDa.app (hA1.app hDb fun i j p q hp hq e => ?_) fun i j p q hp hq e => ?_⟩
  · exact nB j q hq (e ▸ hD1.2 i p hp)
  · by_cases hj : j < w1.length
    · rw [List.getElem?_append_left hj] at hq
      exact nA i p hp (e ▸ hD1.2 j q hq)
    · rw [List.getElem?_append_right (by omega)] at hq
      exact hab i _ p q hp hq e
