/-! THE G LAYER: a world is n cells, cell i at the address ad i, holding E i; GG says that the machine comes home from a frame over such a world; a row an instruction, a row a call. -/
def gW (n : Nat) (ad : Nat → Nat) (E : Nat → va_E) : va_W := (List.range n).map (fun i => (ad i, E i))
theorem gW_get {n : Nat} {ad : Nat → Nat} {E : Nat → va_E} {i : Nat} (h : i < n) : (gW n ad E)[i]? = some (ad i, E i) := by
  simp [gW, List.getElem?_map, List.getElem?_range h]
theorem gW_inv {n : Nat} {ad : Nat → Nat} {E : Nat → va_E} {i : Nat} {q : Nat × va_E} (h : (gW n ad E)[i]? = some q) : i < n ∧ q = (ad i, E i) := by
  have hi : i < n := by
    have h1 := (List.getElem?_eq_some_iff.mp h).1
    simpa [gW] using h1
  rw [gW_get hi] at h
  exact ⟨hi, (Option.some.inj h).symm⟩
theorem gW_set {n : Nat} {ad : Nat → Nat} {E : Nat → va_E} {i : Nat} {e : va_E} (h : i < n) : (gW n ad E).set i (ad i, e) = gW n ad (va_up E i e) := by
  apply List.ext_getElem?
  intro j
  by_cases hj : j < n
  · rw [gW_get hj]
    by_cases hij : i = j
    · subst hij
      rw [List.getElem?_set_self (by simpa [gW] using h)]
      simp [va_up]
    · rw [List.getElem?_set_ne hij, gW_get hj]
      simp [va_up, Ne.symm hij, show ¬ j = i from fun q => hij q.symm]
  · rw [List.getElem?_eq_none (by simpa [gW] using Nat.not_lt.mp hj), List.getElem?_eq_none (by simpa [gW] using Nat.not_lt.mp hj)]
def gA (n : Nat) (ad : Nat → Nat) : Nat → Prop := fun q => ∃ i, i < n ∧ ad i = q
def gInj (n : Nat) (ad : Nat → Nat) : Prop := ∀ i j, i < n → j < n → ad i = ad j → i = j
theorem gD {n : Nat} {ad : Nat → Nat} (h : gInj n ad) (E : Nat → va_E) : va_D (gA n ad) (gW n ad E) := by
  refine ⟨fun i j p q hp hq e => ?_, fun k q hk => ?_⟩
  · obtain ⟨hi, rfl⟩ := gW_inv hp
    obtain ⟨hj, rfl⟩ := gW_inv hq
    exact h i j hi hj e
  · obtain ⟨hi, rfl⟩ := gW_inv hk
    exact ⟨k, hi, rfl⟩
/-- the kinds: the layout of the classes, the class of int arrays, the class of arrays of disks -/
abbrev gZ : Type := va_G × ClassId × ClassId
def gTy (Z : gZ) : List (ClassId × FieldType) := [(Z.2.1, .int), (Z.2.2, .object RX0)]
def gK (Z : gZ) (s : State) : Prop := va_K Z.1 vwCl (gTy Z) s
abbrev gX : Type := Program × Launch × Env × Room × State × MethodId × Array Value × List Frame × Method × Code × (State → Prop)
def GG (X : gX) (Z : gZ) (nL n : Nat) (ad : Nat → Nat) (E : Nat → va_E) (pc : Nat) (lv : List (Nat × Value)) (st : List Value) : Prop :=
  ∀ (H : Heap) (locs : List Loc) (ls : Array Slot), lv_has ls nL lv → va_P Z.1 vwCl (gW n ad E) H → va_S (gA n ad) X.2.2.2.2.1.heap H locs →
    W X.1 X.2.1 X.2.2.1 X.2.2.2.1 X.2.2.2.2.1 X.2.2.2.2.2.1 X.2.2.2.2.2.2.1 X.2.2.2.2.2.2.2.1 X.2.2.2.2.2.2.2.2.1 X.2.2.2.2.2.2.2.2.2.1 H locs 0 0 X.2.2.2.2.2.2.2.2.2.2 (F0 X.2.2.2.2.2.1 pc ls st)
def GC (X : gX) (Z : gZ) (cc : ByteArray) (nL : Nat) (Ts : List Cond) (own : String) (rm : Room) (n : Nat) (ad : Nat → Nat) : Prop :=
  X.1.tables.exec = Jvm.exec ∧ X.2.2.2.2.2.2.2.2.2.1.code = cc ∧ X.2.2.2.2.2.2.2.2.2.1.maxLocals = nL ∧ X.2.2.2.2.1.vm.findClass own = some X.2.2.2.2.2.1.cls ∧ (∀ w ∈ Ts, w.before X.2.2.2.2.2.2.1 X.2.2.2.2.1 = true) ∧ X.2.2.2.2.2.2.2.2.1.locks = false ∧ gK Z X.2.2.2.2.1 ∧ gInj n ad ∧ X.2.2.2.1 = rm
section GROWS
variable {X : gX} {Z : gZ} {cc : ByteArray} {nL : Nat} {Ts : List Cond} {own : String} {rm : Room} {n : Nat} {ad : Nat → Nat} {E : Nat → va_E} {pc : Nat} {lv : List (Nat × Value)} {rest : List Value}
theorem g_iconst (C : GC X Z cc nL Ts own rm n ad) {k : Int} {v : Int32} (hdg : decode cc pc = .ok (.iconst k, 1)) (hv : Int32.ofInt k = v) (kk : GG X Z nL n ad E (pc + 1) lv (.int v :: rest)) : GG X Z nL n ad E pc lv rest := by
  obtain ⟨hx, hb, -⟩ := C
  intro H locs ls hl hP hS
  exact lv_iconst hx hb hdg hv (kk H locs ls hl hP hS)
theorem g_bipush (C : GC X Z cc nL Ts own rm n ad) {k : Int} {v : Int32} (hdg : decode cc pc = .ok (.bipush k, 2)) (hv : (Int8.ofInt k).toInt32 = v) (kk : GG X Z nL n ad E (pc + 2) lv (.int v :: rest)) : GG X Z nL n ad E pc lv rest := by
  obtain ⟨hx, hb, -⟩ := C
  intro H locs ls hl hP hS
  exact lv_bipush hx hb hdg hv (kk H locs ls hl hP hS)
theorem g_sipush (C : GC X Z cc nL Ts own rm n ad) {k : Int} {v : Int32} (hdg : decode cc pc = .ok (.sipush k, 3)) (hv : (Int16.ofInt k).toInt32 = v) (kk : GG X Z nL n ad E (pc + 3) lv (.int v :: rest)) : GG X Z nL n ad E pc lv rest := by
  obtain ⟨hx, hb, -⟩ := C
  intro H locs ls hl hP hS
  exact lv_sipush hx hb hdg hv (kk H locs ls hl hP hS)
theorem g_iload_n (C : GC X Z cc nL Ts own rm n ad) {k : Fin 4} {x : Int32} (hdg : decode cc pc = .ok (.iload_n k, 1)) (q : Nat) (hq : lv[q]? = some ((k : Nat), .int x)) (kk : GG X Z nL n ad E (pc + 1) lv (.int x :: rest)) : GG X Z nL n ad E pc lv rest := by
  obtain ⟨hx, hb, -⟩ := C
  intro H locs ls hl hP hS
  exact lv_iload_n hx hb hdg rfl (lv_at hl q hq) (kk H locs ls hl hP hS)
theorem g_iload (C : GC X Z cc nL Ts own rm n ad) {k : Nat} {x : Int32} (hdg : decode cc pc = .ok (.iload k, 2)) (q : Nat) (hq : lv[q]? = some (k, .int x)) (kk : GG X Z nL n ad E (pc + 2) lv (.int x :: rest)) : GG X Z nL n ad E pc lv rest := by
  obtain ⟨hx, hb, -⟩ := C
  intro H locs ls hl hP hS
  exact lv_iload hx hb hdg (lv_at hl q hq) (kk H locs ls hl hP hS)
theorem g_aload_n (C : GC X Z cc nL Ts own rm n ad) {k : Fin 4} {x : Nat} (hdg : decode cc pc = .ok (.aload_n k, 1)) (q : Nat) (hq : lv[q]? = some ((k : Nat), .ref x)) (kk : GG X Z nL n ad E (pc + 1) lv (.ref x :: rest)) : GG X Z nL n ad E pc lv rest := by
  obtain ⟨hx, hb, -⟩ := C
  intro H locs ls hl hP hS
  exact lv_aload_n hx hb hdg rfl (lv_at hl q hq) (kk H locs ls hl hP hS)
theorem g_aload (C : GC X Z cc nL Ts own rm n ad) {k : Nat} {x : Nat} (hdg : decode cc pc = .ok (.aload k, 2)) (q : Nat) (hq : lv[q]? = some (k, .ref x)) (kk : GG X Z nL n ad E (pc + 2) lv (.ref x :: rest)) : GG X Z nL n ad E pc lv rest := by
  obtain ⟨hx, hb, -⟩ := C
  intro H locs ls hl hP hS
  exact lv_aload hx hb hdg (lv_at hl q hq) (kk H locs ls hl hP hS)
def gSt (lv : List (Nat × Value)) (i : Nat) (v : Value) : List (Nat × Value) := (i, v) :: lv.filter (fun q => !(q.1 == i) && !(q.1 + 1 == i && q.2.category == 2))
theorem g_istore_n (C : GC X Z cc nL Ts own rm n ad) {k : Fin 4} {x : Int32} (hdg : decode cc pc = .ok (.istore_n k, 1)) (hn : (k : Nat) < nL) (lv' : List (Nat × Value)) (hl' : gSt lv k (.int x) = lv') (kk : GG X Z nL n ad E (pc + 1) lv' rest) : GG X Z nL n ad E pc lv (.int x :: rest) := by
  obtain ⟨hx, hb, -⟩ := C
  intro H locs ls hl hP hS
  exact lv_istore_n hx hb hdg rfl hl hn hl' (fun ls hl => kk H locs ls hl hP hS)
theorem g_istore (C : GC X Z cc nL Ts own rm n ad) {k : Nat} {x : Int32} (hdg : decode cc pc = .ok (.istore k, 2)) (hn : k < nL) (lv' : List (Nat × Value)) (hl' : gSt lv k (.int x) = lv') (kk : GG X Z nL n ad E (pc + 2) lv' rest) : GG X Z nL n ad E pc lv (.int x :: rest) := by
  obtain ⟨hx, hb, -⟩ := C
  intro H locs ls hl hP hS
  exact lv_istore hx hb hdg hl hn hl' (fun ls hl => kk H locs ls hl hP hS)
theorem g_iinc (C : GC X Z cc nL Ts own rm n ad) {i : Nat} {k : Int} {x v : Int32} (hdg : decode cc pc = .ok (.iinc i k, 3)) (q : Nat) (hq : lv[q]? = some (i, .int x)) (hv : x + Int32.ofInt k = v) (hn : i < nL) (lv' : List (Nat × Value)) (hl' : gSt lv i (.int v) = lv') (kk : GG X Z nL n ad E (pc + 3) lv' rest) : GG X Z nL n ad E pc lv rest := by
  obtain ⟨hx, hb, -⟩ := C
  intro H locs ls hl hP hS
  exact lv_iinc hx hb hdg hl (k := q) hq hv hn hl' (fun ls hl => kk H locs ls hl hP hS)
theorem g_iadd (C : GC X Z cc nL Ts own rm n ad) {x y : Int32} (hdg : decode cc pc = .ok (.iadd, 1)) (kk : GG X Z nL n ad E (pc + 1) lv (.int (x + y) :: rest)) : GG X Z nL n ad E pc lv (.int y :: .int x :: rest) := by
  obtain ⟨hx, hb, -⟩ := C
  intro H locs ls hl hP hS
  exact lv_iadd hx hb hdg (kk H locs ls hl hP hS)
theorem g_isub (C : GC X Z cc nL Ts own rm n ad) {x y : Int32} (hdg : decode cc pc = .ok (.isub, 1)) (kk : GG X Z nL n ad E (pc + 1) lv (.int (x - y) :: rest)) : GG X Z nL n ad E pc lv (.int y :: .int x :: rest) := by
  obtain ⟨hx, hb, -⟩ := C
  intro H locs ls hl hP hS
  exact lv_isub hx hb hdg (kk H locs ls hl hP hS)
theorem g_imul (C : GC X Z cc nL Ts own rm n ad) {x y : Int32} (hdg : decode cc pc = .ok (.imul, 1)) (kk : GG X Z nL n ad E (pc + 1) lv (.int (x * y) :: rest)) : GG X Z nL n ad E pc lv (.int y :: .int x :: rest) := by
  obtain ⟨hx, hb, -⟩ := C
  intro H locs ls hl hP hS
  exact lv_imul hx hb hdg (kk H locs ls hl hP hS)
theorem g_irem (C : GC X Z cc nL Ts own rm n ad) {x y : Int32} (hdg : decode cc pc = .ok (.irem, 1)) (hne : ¬ y = 0) (kk : GG X Z nL n ad E (pc + 1) lv (.int (x - x / y * y) :: rest)) : GG X Z nL n ad E pc lv (.int y :: .int x :: rest) := by
  obtain ⟨hx, hb, -⟩ := C
  intro H locs ls hl hP hS
  exact lv_irem hx hb hdg hne (kk H locs ls hl hP hS)
theorem g_dup (C : GC X Z cc nL Ts own rm n ad) {v : Value} (hdg : decode cc pc = .ok (.dup, 1)) (hv : v.category = 1) (kk : GG X Z nL n ad E (pc + 1) lv (v :: v :: rest)) : GG X Z nL n ad E pc lv (v :: rest) := by
  obtain ⟨hx, hb, -⟩ := C
  intro H locs ls hl hP hS
  exact lv_dup hx hb hdg hv (kk H locs ls hl hP hS)
theorem g_dup2 (C : GC X Z cc nL Ts own rm n ad) {v w : Value} (hdg : decode cc pc = .ok (.dup2, 1)) (hv : v.category = 1) (hw : w.category = 1) (kk : GG X Z nL n ad E (pc + 1) lv (v :: w :: v :: w :: rest)) : GG X Z nL n ad E pc lv (v :: w :: rest) := by
  obtain ⟨hx, hb, -⟩ := C
  intro H locs ls hl hP hS
  exact lv_dup2_11 hx hb hdg hv hw (kk H locs ls hl hP hS)
theorem g_pop (C : GC X Z cc nL Ts own rm n ad) {v : Value} (hdg : decode cc pc = .ok (.pop, 1)) (hv : v.category = 1) (kk : GG X Z nL n ad E (pc + 1) lv rest) : GG X Z nL n ad E pc lv (v :: rest) := by
  obtain ⟨hx, hb, -⟩ := C
  intro H locs ls hl hP hS
  exact lv_pop hx hb hdg hv (kk H locs ls hl hP hS)
theorem g_goto (C : GC X Z cc nL Ts own rm n ad) {off : Int} {tgt : Nat} (hdg : decode cc pc = .ok (.goto off, 3)) (ht : (pc : Int) + off = (tgt : Int)) (kk : GG X Z nL n ad E tgt lv rest) : GG X Z nL n ad E pc lv rest := by
  obtain ⟨hx, hb, -⟩ := C
  intro H locs ls hl hP hS
  exact lv_goto hx hb hdg ht (kk H locs ls hl hP hS)
theorem g_if_eq (C : GC X Z cc nL Ts own rm n ad) {x : Int32} {off : Int} {tgt : Nat} (hdg : decode cc pc = .ok (.ifCond .eq off, 3)) (ht : (pc : Int) + off = (tgt : Int)) (kt : x = 0 → GG X Z nL n ad E tgt lv rest) (kf : ¬ (x = 0) → GG X Z nL n ad E (pc + 3) lv rest) : GG X Z nL n ad E pc lv (.int x :: rest) := by
  obtain ⟨hx, hb, -⟩ := C
  intro H locs ls hl hP hS
  exact lv_if_eq hx hb hdg ht (fun h => kt h H locs ls hl hP hS) (fun h => kf h H locs ls hl hP hS)
theorem g_icmp_eq (C : GC X Z cc nL Ts own rm n ad) {x y : Int32} {off : Int} {tgt : Nat} (hdg : decode cc pc = .ok (.if_icmp .eq off, 3)) (ht : (pc : Int) + off = (tgt : Int)) (kt : x = y → GG X Z nL n ad E tgt lv rest) (kf : ¬ (x = y) → GG X Z nL n ad E (pc + 3) lv rest) : GG X Z nL n ad E pc lv (.int y :: .int x :: rest) := by
  obtain ⟨hx, hb, -⟩ := C
  intro H locs ls hl hP hS
  exact lv_icmp_eq hx hb hdg ht (fun h => kt h H locs ls hl hP hS) (fun h => kf h H locs ls hl hP hS)
theorem g_if_ne (C : GC X Z cc nL Ts own rm n ad) {x : Int32} {off : Int} {tgt : Nat} (hdg : decode cc pc = .ok (.ifCond .ne off, 3)) (ht : (pc : Int) + off = (tgt : Int)) (kt : x ≠ 0 → GG X Z nL n ad E tgt lv rest) (kf : x = 0 → GG X Z nL n ad E (pc + 3) lv rest) : GG X Z nL n ad E pc lv (.int x :: rest) := by
  obtain ⟨hx, hb, -⟩ := C
  intro H locs ls hl hP hS
  exact lv_if_ne hx hb hdg ht (fun h => kt h H locs ls hl hP hS) (fun h => kf h H locs ls hl hP hS)
theorem g_icmp_ne (C : GC X Z cc nL Ts own rm n ad) {x y : Int32} {off : Int} {tgt : Nat} (hdg : decode cc pc = .ok (.if_icmp .ne off, 3)) (ht : (pc : Int) + off = (tgt : Int)) (kt : x ≠ y → GG X Z nL n ad E tgt lv rest) (kf : x = y → GG X Z nL n ad E (pc + 3) lv rest) : GG X Z nL n ad E pc lv (.int y :: .int x :: rest) := by
  obtain ⟨hx, hb, -⟩ := C
  intro H locs ls hl hP hS
  exact lv_icmp_ne hx hb hdg ht (fun h => kt h H locs ls hl hP hS) (fun h => kf h H locs ls hl hP hS)
theorem g_if_lt (C : GC X Z cc nL Ts own rm n ad) {x : Int32} {off : Int} {tgt : Nat} (hdg : decode cc pc = .ok (.ifCond .lt off, 3)) (ht : (pc : Int) + off = (tgt : Int)) (kt : x < 0 → GG X Z nL n ad E tgt lv rest) (kf : ¬ (x < 0) → GG X Z nL n ad E (pc + 3) lv rest) : GG X Z nL n ad E pc lv (.int x :: rest) := by
  obtain ⟨hx, hb, -⟩ := C
  intro H locs ls hl hP hS
  exact lv_if_lt hx hb hdg ht (fun h => kt h H locs ls hl hP hS) (fun h => kf h H locs ls hl hP hS)
theorem g_icmp_lt (C : GC X Z cc nL Ts own rm n ad) {x y : Int32} {off : Int} {tgt : Nat} (hdg : decode cc pc = .ok (.if_icmp .lt off, 3)) (ht : (pc : Int) + off = (tgt : Int)) (kt : x < y → GG X Z nL n ad E tgt lv rest) (kf : ¬ (x < y) → GG X Z nL n ad E (pc + 3) lv rest) : GG X Z nL n ad E pc lv (.int y :: .int x :: rest) := by
  obtain ⟨hx, hb, -⟩ := C
  intro H locs ls hl hP hS
  exact lv_icmp_lt hx hb hdg ht (fun h => kt h H locs ls hl hP hS) (fun h => kf h H locs ls hl hP hS)
theorem g_if_ge (C : GC X Z cc nL Ts own rm n ad) {x : Int32} {off : Int} {tgt : Nat} (hdg : decode cc pc = .ok (.ifCond .ge off, 3)) (ht : (pc : Int) + off = (tgt : Int)) (kt : 0 ≤ x → GG X Z nL n ad E tgt lv rest) (kf : ¬ (0 ≤ x) → GG X Z nL n ad E (pc + 3) lv rest) : GG X Z nL n ad E pc lv (.int x :: rest) := by
  obtain ⟨hx, hb, -⟩ := C
  intro H locs ls hl hP hS
  exact lv_if_ge hx hb hdg ht (fun h => kt h H locs ls hl hP hS) (fun h => kf h H locs ls hl hP hS)
theorem g_icmp_ge (C : GC X Z cc nL Ts own rm n ad) {x y : Int32} {off : Int} {tgt : Nat} (hdg : decode cc pc = .ok (.if_icmp .ge off, 3)) (ht : (pc : Int) + off = (tgt : Int)) (kt : y ≤ x → GG X Z nL n ad E tgt lv rest) (kf : ¬ (y ≤ x) → GG X Z nL n ad E (pc + 3) lv rest) : GG X Z nL n ad E pc lv (.int y :: .int x :: rest) := by
  obtain ⟨hx, hb, -⟩ := C
  intro H locs ls hl hP hS
  exact lv_icmp_ge hx hb hdg ht (fun h => kt h H locs ls hl hP hS) (fun h => kf h H locs ls hl hP hS)
theorem g_if_gt (C : GC X Z cc nL Ts own rm n ad) {x : Int32} {off : Int} {tgt : Nat} (hdg : decode cc pc = .ok (.ifCond .gt off, 3)) (ht : (pc : Int) + off = (tgt : Int)) (kt : 0 < x → GG X Z nL n ad E tgt lv rest) (kf : ¬ (0 < x) → GG X Z nL n ad E (pc + 3) lv rest) : GG X Z nL n ad E pc lv (.int x :: rest) := by
  obtain ⟨hx, hb, -⟩ := C
  intro H locs ls hl hP hS
  exact lv_if_gt hx hb hdg ht (fun h => kt h H locs ls hl hP hS) (fun h => kf h H locs ls hl hP hS)
theorem g_icmp_gt (C : GC X Z cc nL Ts own rm n ad) {x y : Int32} {off : Int} {tgt : Nat} (hdg : decode cc pc = .ok (.if_icmp .gt off, 3)) (ht : (pc : Int) + off = (tgt : Int)) (kt : y < x → GG X Z nL n ad E tgt lv rest) (kf : ¬ (y < x) → GG X Z nL n ad E (pc + 3) lv rest) : GG X Z nL n ad E pc lv (.int y :: .int x :: rest) := by
  obtain ⟨hx, hb, -⟩ := C
  intro H locs ls hl hP hS
  exact lv_icmp_gt hx hb hdg ht (fun h => kt h H locs ls hl hP hS) (fun h => kf h H locs ls hl hP hS)
theorem g_if_le (C : GC X Z cc nL Ts own rm n ad) {x : Int32} {off : Int} {tgt : Nat} (hdg : decode cc pc = .ok (.ifCond .le off, 3)) (ht : (pc : Int) + off = (tgt : Int)) (kt : x ≤ 0 → GG X Z nL n ad E tgt lv rest) (kf : ¬ (x ≤ 0) → GG X Z nL n ad E (pc + 3) lv rest) : GG X Z nL n ad E pc lv (.int x :: rest) := by
  obtain ⟨hx, hb, -⟩ := C
  intro H locs ls hl hP hS
  exact lv_if_le hx hb hdg ht (fun h => kt h H locs ls hl hP hS) (fun h => kf h H locs ls hl hP hS)
theorem g_icmp_le (C : GC X Z cc nL Ts own rm n ad) {x y : Int32} {off : Int} {tgt : Nat} (hdg : decode cc pc = .ok (.if_icmp .le off, 3)) (ht : (pc : Int) + off = (tgt : Int)) (kt : x ≤ y → GG X Z nL n ad E tgt lv rest) (kf : ¬ (x ≤ y) → GG X Z nL n ad E (pc + 3) lv rest) : GG X Z nL n ad E pc lv (.int y :: .int x :: rest) := by
  obtain ⟨hx, hb, -⟩ := C
  intro H locs ls hl hP hS
  exact lv_icmp_le hx hb hdg ht (fun h => kt h H locs ls hl hP hS) (fun h => kf h H locs ls hl hP hS)
theorem g_tableIn (C : GC X Z cc nL Ts own rm n ad) {dflt lo hi : Int} {offs : Array Int} {len : Nat} {x : Int32} (kv : Int32) (hxk : x = kv) {off : Int} {tgt : Nat} (hdg : decode cc pc = .ok (.tableswitch dflt lo hi offs, len)) (h1 : ¬ kv.toInt < lo) (h2 : ¬ hi < kv.toInt) (ho : offs[(kv.toInt - lo).toNat]? = some off) (ht : (pc : Int) + off = (tgt : Int)) (kk : GG X Z nL n ad E tgt lv rest) : GG X Z nL n ad E pc lv (.int x :: rest) := by
  obtain ⟨hx, hb, -⟩ := C
  intro H locs ls hl hP hS
  subst hxk
  exact lv_tableIn hx hb hdg h1 h2 ho ht (kk H locs ls hl hP hS)
theorem g_tableOut (C : GC X Z cc nL Ts own rm n ad) {dflt lo hi : Int} {offs : Array Int} {len : Nat} {x : Int32} {tgt : Nat} (hdg : decode cc pc = .ok (.tableswitch dflt lo hi offs, len)) (h : x.toInt < lo ∨ hi < x.toInt) (ht : (pc : Int) + dflt = (tgt : Int)) (kk : GG X Z nL n ad E tgt lv rest) : GG X Z nL n ad E pc lv (.int x :: rest) := by
  obtain ⟨hx, hb, -⟩ := C
  intro H locs ls hl hP hS
  exact lv_tableOut hx hb hdg h ht (kk H locs ls hl hP hS)
theorem g_lookup (C : GC X Z cc nL Ts own rm n ad) {dflt : Int} {ps : Array (Int × Int)} {len : Nat} {x : Int32} {off : Int} {tgt : Nat} (hdg : decode cc pc = .ok (.lookupswitch dflt ps, len)) (hp : (ps.toList.zip (ps.toList.drop 1)).all (fun (a, next) => a.1 < next.1) = true) (ho : Op.lookupswitch.offset ps.toList dflt x.toInt = off) (ht : (pc : Int) + off = (tgt : Int)) (kk : GG X Z nL n ad E tgt lv rest) : GG X Z nL n ad E pc lv (.int x :: rest) := by
  obtain ⟨hx, hb, -⟩ := C
  intro H locs ls hl hP hS
  exact lv_lookup hx hb hdg hp ho ht (kk H locs ls hl hP hS)
theorem g_ne {x k : Int32} {a : Int} (h : ¬ x = k) (hk : k.toInt = a) : ¬ x.toInt = a := fun e => h (Int32.toInt_inj.mp (e.trans hk.symm))
theorem gW_congr {E2 : Nat → va_E} (h : ∀ i, i < n → E2 i = E i) : gW n ad E2 = gW n ad E := by
  apply List.ext_getElem?
  intro j
  by_cases hj : j < n
  · rw [gW_get hj, gW_get hj, h j hj]
  · rw [List.getElem?_eq_none (by simpa [gW] using Nat.not_lt.mp hj), List.getElem?_eq_none (by simpa [gW] using Nat.not_lt.mp hj)]
theorem g_getf (C : GC X Z cc nL Ts own rm n ad) {ci N index : Nat} {Cn : String} {T : u_T} (q : Nat) (hq : q < n) {fs : List Value} {v : Value} (hE : E q = .inr (ci, fs)) (hc : vwCl[ci]? = some (Cn, T, N)) (hin : ∀ w ∈ u_ws Cn T N, w ∈ Ts) (k : Nat) (hk : k < N) (hlk : Cond.fieldLink own index (T k).1 (T k).2.1 (T k).2.2.1 ∈ Ts) (hv : fs[k]? = some v) (hdg : decode cc pc = .ok (.getfield index, 3)) (kk : GG X Z nL n ad E (pc + 3) lv (v :: rest)) : GG X Z nL n ad E pc lv (.ref (ad q) :: rest) := by
  obtain ⟨hx, hb, hml, hown, hts, hlo, hK, hI, hR⟩ := C
  intro H locs ls hl hP hS
  exact va_get hx hb hts hin hown hK hP q ((gW_get hq).trans (by rw [hE])) hc k hk (hts _ hlk) (fun _ h9 => h9) hv hdg (kk H locs ls hl hP hS)
theorem g_putf (C : GC X Z cc nL Ts own rm n ad) {ci N index : Nat} {Cn : String} {T : u_T} (q : Nat) (hq : q < n) {fs : List Value} {v : Value} (hE : E q = .inr (ci, fs)) (hc : vwCl[ci]? = some (Cn, T, N)) (hin : ∀ w ∈ u_ws Cn T N, w ∈ Ts) (ty0 : Nat → FieldType) (hty : ∀ k, k < N → parseFieldDescriptor (T k).2.2.1 = some (ty0 k)) (hnm : ∀ a, a < N → ∀ b, b < N → a ≠ b → (T a).2.1 ≠ (T b).2.1) (k : Nat) (hk : k < N) (hlk : Cond.fieldLink own index (T k).1 (T k).2.1 (T k).2.2.1 ∈ Ts) (hfin : (T k).2.2.2 = false) (hn : narrow (ty0 k) v = v) (hfit : fits (ty0 k) v = true) (hl1 : k < fs.length) (hdg : decode cc pc = .ok (.putfield index, 3)) (E2 : Nat → va_E) (hE2 : ∀ i, i < n → E2 i = va_up E q (.inr (ci, fs.set k v)) i) (kk : GG X Z nL n ad E2 (pc + 3) lv rest) : GG X Z nL n ad E pc lv (v :: .ref (ad q) :: rest) := by
  obtain ⟨hx, hb, hml, hown, hts, hlo, hK, hI, hR⟩ := C
  intro H locs ls hl hP hS
  refine va_put hx hb hts hin ty0 hty hnm hown hK hP (gD hI E) hS q ((gW_get hq).trans (by rw [hE])) hc k hk (hts _ hlk) (fun _ h9 => h9) hfin (hty k hk) hn hfit hl1 hdg (fun H1 locs1 hP1 _ hS1 => ?_)
  rw [gW_set hq, ← gW_congr hE2] at hP1
  exact kk H1 locs1 ls hl hP1 hS1
theorem g_iald (C : GC X Z cc nL Ts own rm n ad) (q : Nat) (hq : q < n) {len : Nat} {f : Nat → Int32} (hE : E q = .inl (Z.2.1, len, .inl f)) {i : Int32} (hin : vp_in i len) (hdg : decode cc pc = .ok (.iaload, 1)) (kk : GG X Z nL n ad E (pc + 1) lv (.int (f i.toNatClampNeg) :: rest)) : GG X Z nL n ad E pc lv (.int i :: .ref (ad q) :: rest) := by
  obtain ⟨hx, hb, hml, hown, hts, hlo, hK, hI, hR⟩ := C
  intro H locs ls hl hP hS
  exact va_iald hx hb hK hP q 0 ((gW_get hq).trans (by rw [hE])) rfl hin hdg (kk H locs ls hl hP hS)
theorem g_iast (C : GC X Z cc nL Ts own rm n ad) (q : Nat) (hq : q < n) {len : Nat} {f : Nat → Int32} (hE : E q = .inl (Z.2.1, len, .inl f)) {i x : Int32} (hin : vp_in i len) (hdg : decode cc pc = .ok (.iastore, 1)) (E2 : Nat → va_E) (hE2 : ∀ i', i' < n → E2 i' = va_up E q (.inl (Z.2.1, len, .inl (upd f i.toNatClampNeg x))) i') (kk : GG X Z nL n ad E2 (pc + 1) lv rest) : GG X Z nL n ad E pc lv (.int x :: .int i :: .ref (ad q) :: rest) := by
  obtain ⟨hx, hb, hml, hown, hts, hlo, hK, hI, hR⟩ := C
  intro H locs ls hl hP hS
  refine va_iast hx hb hK hP (gD hI E) hS q 0 ((gW_get hq).trans (by rw [hE])) rfl hin hdg (fun H1 locs1 hP1 _ hS1 => ?_)
  rw [gW_set hq, ← gW_congr hE2] at hP1
  exact kk H1 locs1 ls hl hP1 hS1
theorem g_alen (C : GC X Z cc nL Ts own rm n ad) (q : Nat) (hq : q < n) {len : Nat} {f : Nat → Int32} (hE : E q = .inl (Z.2.1, len, .inl f)) (hdg : decode cc pc = .ok (.arraylength, 1)) (kk : GG X Z nL n ad E (pc + 1) lv (.int (nI len) :: rest)) : GG X Z nL n ad E pc lv (.ref (ad q) :: rest) := by
  obtain ⟨hx, hb, hml, hown, hts, hlo, hK, hI, hR⟩ := C
  intro H locs ls hl hP hS
  exact va_alen (x := (len, .inl f)) hx hb hK hP q 0 ((gW_get hq).trans (by rw [hE])) rfl rfl hdg (kk H locs ls hl hP hS)
theorem g_mmin (C : GC X Z cc nL Ts own rm n ad) {index : Nat} (h1 : Cond.methodLink own index Lib.Math.min.name ∈ Ts) (h2 : Cond.static Lib.Math.min.name ∈ Ts) (h3 : Cond.initialized "java/lang/Math" ∈ Ts) (h4 : Cond.code Lib.Math.min.name Lib.Math.min.code 2 (some .int) ∈ Ts) (hf : 1 ≤ rm.frames) (hlc : (rest.map fun v => v.category).sum + 13 ≤ rm.locals) {x y : Int32} (hdg : decode cc pc = .ok (.invokestatic index, 3)) (kk : GG X Z nL n ad E (pc + 3) lv (.int (if y < x then y else x) :: rest)) : GG X Z nL n ad E pc lv (.int y :: .int x :: rest) := by
  obtain ⟨hx, hb, hml, hown, hts, hlo, hK, hI, hR⟩ := C
  intro H locs ls hl hP hS
  exact va_mmin hx hb (hml.trans hl.1.symm) hown (hts _ h1) (hts _ h2) (hts _ h3) (hts _ h4) (by rw [hR]; exact hf) (by rw [hR]; exact hlc) (Nat.zero_le _) (Nat.zero_le _) hdg (kk H locs ls hl hP hS)
theorem g_mmax (C : GC X Z cc nL Ts own rm n ad) {index : Nat} (h1 : Cond.methodLink own index Lib.Math.max.name ∈ Ts) (h2 : Cond.static Lib.Math.max.name ∈ Ts) (h3 : Cond.initialized "java/lang/Math" ∈ Ts) (h4 : Cond.code Lib.Math.max.name Lib.Math.max.code 2 (some .int) ∈ Ts) (hf : 1 ≤ rm.frames) (hlc : (rest.map fun v => v.category).sum + 13 ≤ rm.locals) {x y : Int32} (hdg : decode cc pc = .ok (.invokestatic index, 3)) (kk : GG X Z nL n ad E (pc + 3) lv (.int (if x < y then y else x) :: rest)) : GG X Z nL n ad E pc lv (.int y :: .int x :: rest) := by
  obtain ⟨hx, hb, hml, hown, hts, hlo, hK, hI, hR⟩ := C
  intro H locs ls hl hP hS
  exact va_mmax hx hb (hml.trans hl.1.symm) hown (hts _ h1) (hts _ h2) (hts _ h3) (hts _ h4) (by rw [hR]; exact hf) (by rw [hR]; exact hlc) (Nat.zero_le _) (Nat.zero_le _) hdg (kk H locs ls hl hP hS)
end GROWS
/-- what a world is at a state -/
def gB (Z : gZ) (n : Nat) (ad : Nat → Nat) (E : Nat → va_E) (U : State) : Prop := va_P Z.1 vwCl (gW n ad E) U.heap ∧ gK Z U
/-- the contract of a method that answers r and leaves the world E' -/
def gI (l : Launch) (y : MethodName) (ws : List Cond) (rm : Room) (Z : gZ) (n : Nat) (ad : Nat → Nat) (av : List Value) (E : Nat → va_E) (r : Int32) (E' : Nat → va_E) : Prop :=
  Met l y ws rm (va_Pc av (gB Z n ad E)) (va_Qi (fun q (_ : Unit) => q = r) (fun _ t => gB Z n ad E' t) (gA n ad)) 0 0 (gA n ad)
/-- the same, of a method that answers nothing -/
def gV (l : Launch) (y : MethodName) (ws : List Cond) (rm : Room) (Z : gZ) (n : Nat) (ad : Nat → Nat) (av : List Value) (E : Nat → va_E) (E' : Nat → va_E) : Prop :=
  Met l y ws rm (va_Pc av (gB Z n ad E)) (va_Qv (fun (_ : Unit) => True) (fun _ t => gB Z n ad E' t) (gA n ad)) 0 0 (gA n ad)
def gEI (X : gX) (Z : gZ) (n : Nat) (ad : Nat → Nat) (ty : FieldType) (r : Int32) (E' : Nat → va_E) : Prop :=
  X.2.2.2.2.2.2.2.2.1.sig.returnType = some ty ∧ X.2.2.2.2.2.2.2.2.2.2 = MQ X.2.2.2.2.2.2.2.1 (va_Qi (fun q (_ : Unit) => q = r) (fun _ t => gB Z n ad E' t) (gA n ad)) X.2.2.2.2.2.2.1 X.2.2.2.2.1 0 0 (gA n ad)
def gEV (X : gX) (Z : gZ) (n : Nat) (ad : Nat → Nat) (E' : Nat → va_E) : Prop :=
  X.2.2.2.2.2.2.2.2.1.sig.returnType = none ∧ X.2.2.2.2.2.2.2.2.2.2 = MQ X.2.2.2.2.2.2.2.1 (va_Qv (fun (_ : Unit) => True) (fun _ t => gB Z n ad E' t) (gA n ad)) X.2.2.2.2.2.2.1 X.2.2.2.2.1 0 0 (gA n ad)
section GENDS
variable {X : gX} {Z : gZ} {cc : ByteArray} {nL : Nat} {Ts : List Cond} {own : String} {rm : Room} {n : Nat} {ad : Nat → Nat} {E : Nat → va_E} {pc : Nat} {lv : List (Nat × Value)} {rest : List Value}
theorem g_iret (C : GC X Z cc nL Ts own rm n ad) {r : Int32} (e : gEI X Z n ad .int r E) (hdg : decode cc pc = .ok (.ireturn, 1)) : GG X Z nL n ad E pc lv [.int r] := by
  obtain ⟨p, l, e0, R, s, m, args, below, meth, c, Q⟩ := X
  obtain ⟨hx, hb, hml, hown, hts, hlo, hK, hI, hR⟩ := C
  obtain ⟨hr, hQ⟩ := e
  dsimp only at hx hb hml hown hts hlo hK hI hR hr hQ
  intro H locs ls hl hP hS
  dsimp only at hS ⊢
  rw [hQ]
  exact W.iret hx hb hr (fun t ht hW => ⟨⟨r, (), rfl, rfl, by rw [ht]; exact hP, va_K.moved hW.alike hK⟩, hS.F ht⟩) hS.2.2 hdg hlo
theorem g_zret (C : GC X Z cc nL Ts own rm n ad) {r : Int32} (e : gEI X Z n ad .boolean r E) (hz : narrow .boolean (.int r) = .int r) (hdg : decode cc pc = .ok (.ireturn, 1)) : GG X Z nL n ad E pc lv [.int r] := by
  obtain ⟨p, l, e0, R, s, m, args, below, meth, c, Q⟩ := X
  obtain ⟨hx, hb, hml, hown, hts, hlo, hK, hI, hR⟩ := C
  obtain ⟨hr, hQ⟩ := e
  dsimp only at hx hb hml hown hts hlo hK hI hR hr hQ
  intro H locs ls hl hP hS
  dsimp only at hS ⊢
  rw [hQ]
  exact W.zret hx hb hr hz (fun t ht hW => ⟨⟨r, (), rfl, rfl, by rw [ht]; exact hP, va_K.moved hW.alike hK⟩, hS.F ht⟩) hS.2.2 hdg hlo
theorem g_vret (C : GC X Z cc nL Ts own rm n ad) (e : gEV X Z n ad E) (hdg : decode cc pc = .ok (.return_, 1)) : GG X Z nL n ad E pc lv [] := by
  obtain ⟨p, l, e0, R, s, m, args, below, meth, c, Q⟩ := X
  obtain ⟨hx, hb, hml, hown, hts, hlo, hK, hI, hR⟩ := C
  obtain ⟨hr, hQ⟩ := e
  dsimp only at hx hb hml hown hts hlo hK hI hR hr hQ
  intro H locs ls hl hP hS
  dsimp only at hS ⊢
  rw [hQ]
  exact W.vret hx hb hr (fun t ht hW => ⟨⟨(), rfl, trivial, by rw [ht]; exact hP, va_K.moved hW.alike hK⟩, hS.F ht⟩) hS.2.2 hdg hlo
theorem g_b01 {r : Int32} (h : r = 0 ∨ r = 1) : narrow .boolean (.int r) = .int r := by
  rcases h with rfl | rfl <;> rfl
end GENDS
theorem g_entryI {l : Launch} {y : MethodName} {ws ws' : List Cond} {rm : Room} {cc : ByteArray} {maxL : Nat} {ty : FieldType} (hy : plainName y.cls = true) (hw : ws = Cond.code y cc maxL (some ty) :: ws') {Z : gZ} {n : Nat} {ad : Nat → Nat} (hI : gInj n ad) {av : List Value} (hav : (lg_sl av).length ≤ maxL) {E : Nat → va_E} {r : Int32} {E' : Nat → va_E} (body : ∀ X : gX, GC X Z cc maxL ws y.cls rm n ad → gEI X Z n ad ty r E' → GG X Z maxL n ad E 0 (lv_args 0 av) []) : gI l y ws rm Z n ad av E r E' := by
  refine Met.ofW hy hw ?_
  intro p e s m args below meth c s₁ B hml hv
  obtain ⟨rfl, hP, hK⟩ := hv
  have hb := body (p, l, e, (headSpec ws rm).room, s, m, av.toArray, below, meth, c, MQ below (va_Qi (fun q (_ : Unit) => q = r) (fun _ t => gB Z n ad E' t) (gA n ad)) av.toArray s 0 0 (gA n ad)) ⟨B.exec, B.bytes, hml, findClass_of_methodNamed B.named, atoms_spec (ws := ws) B.pre, B.notSynchronized, hK, hI, rfl⟩ ⟨B.returns, rfl⟩
  rw [lg_entry_eq]
  exact hb s.heap [] _ (lv_entry av (n := maxL) hav) hP va_S.rf
theorem g_entryV {l : Launch} {y : MethodName} {ws ws' : List Cond} {rm : Room} {cc : ByteArray} {maxL : Nat} (hy : plainName y.cls = true) (hw : ws = Cond.code y cc maxL none :: ws') {Z : gZ} {n : Nat} {ad : Nat → Nat} (hI : gInj n ad) {av : List Value} (hav : (lg_sl av).length ≤ maxL) {E : Nat → va_E} {E' : Nat → va_E} (body : ∀ X : gX, GC X Z cc maxL ws y.cls rm n ad → gEV X Z n ad E' → GG X Z maxL n ad E 0 (lv_args 0 av) []) : gV l y ws rm Z n ad av E E' := by
  refine Met.ofW hy hw ?_
  intro p e s m args below meth c s₁ B hml hv
  obtain ⟨rfl, hP, hK⟩ := hv
  have hb := body (p, l, e, (headSpec ws rm).room, s, m, av.toArray, below, meth, c, MQ below (va_Qv (fun (_ : Unit) => True) (fun _ t => gB Z n ad E' t) (gA n ad)) av.toArray s 0 0 (gA n ad)) ⟨B.exec, B.bytes, hml, findClass_of_methodNamed B.named, atoms_spec (ws := ws) B.pre, B.notSynchronized, hK, hI, rfl⟩ ⟨B.returns, rfl⟩
  rw [lg_entry_eq]
  exact hb s.heap [] _ (lv_entry av (n := maxL) hav) hP va_S.rf
/-- what a call needs of the called method's name, decided by program -/
def gOk (y : MethodName) (Cn : String) (na : Nat) : Prop := y.cls = Cn ∧ y.cls ≠ "java/lang/invoke/MethodHandle" ∧ y.cls ≠ "java/lang/invoke/VarHandle" ∧ (parseMethodDescriptor y.desc).map (fun d => d.parameters.length) = some na
section GCALLS
variable {X : gX} {Z : gZ} {cc : ByteArray} {nL : Nat} {Ts : List Cond} {own : String} {rm : Room} {n : Nat} {ad : Nat → Nat} {E : Nat → va_E} {pc : Nat} {lv : List (Nat × Value)} {rest st : List Value}
theorem gB_blind {av : List Value} {m : Nat} {adc : Nat → Nat} {Ec : Nat → va_E} : FrameBlind (va_Pc av (gB Z m adc Ec)) := fun a U g mk q => ⟨q.1, q.2.1, va_K.moved (u := U) (U := U.calling g mk a) (Vm.Alike.refl U.vm) q.2.2⟩
/-- the callee's part of a world -/
theorem gP_sub {D : va_G} {o m : Nat} (hom : o + m ≤ n) {adc : Nat → Nat} (hadc : ∀ i, i < m → adc i = ad (o + i)) {Ec : Nat → va_E} (hEc : ∀ i, i < m → Ec i = E (o + i)) {H : Heap} (hP : va_P D vwCl (gW n ad E) H) : va_P D vwCl (gW m adc Ec) H := by
  intro k q hk
  obtain ⟨hk', rfl⟩ := gW_inv hk
  have h1 := hP (o + k) _ (gW_get (Nat.lt_of_lt_of_le (Nat.add_lt_add_left hk' o) hom))
  rw [hadc k hk', hEc k hk']
  exact h1
theorem gInj_sub {o m : Nat} (hom : o + m ≤ n) {adc : Nat → Nat} (hadc : ∀ i, i < m → adc i = ad (o + i)) (hI : gInj n ad) : gInj m adc := by
  intro i j hi hj e
  rw [hadc i hi, hadc j hj] at e
  have := hI _ _ (by omega) (by omega) e
  omega
/-- and back: the rest of the world is as it was -/
theorem gP_join {D : va_G} {o m : Nat} (hom : o + m ≤ n) {adc : Nat → Nat} (hadc : ∀ i, i < m → adc i = ad (o + i)) {Ec' E2 : Nat → va_E} (hE2 : ∀ i, i < n → E2 i = if o ≤ i ∧ i < o + m then Ec' (i - o) else E i) (hI : gInj n ad) {H H1 : Heap} (hP : va_P D vwCl (gW n ad E) H) (hP1 : va_P D vwCl (gW m adc Ec') H1) (hk1 : ∀ q : Nat, q < H.size → ¬ gA m adc q → H1[q]? = H[q]?) : va_P D vwCl (gW n ad E2) H1 := by
  intro k q hk
  obtain ⟨hk', rfl⟩ := gW_inv hk
  rw [hE2 k hk']
  by_cases hin : o ≤ k ∧ k < o + m
  · rw [if_pos hin]
    have h1 := hP1 (k - o) _ (gW_get (by omega))
    rw [hadc (k - o) (by omega), show o + (k - o) = k by omega] at h1
    exact h1
  · rw [if_neg hin]
    have h0 := hP k _ (gW_get hk')
    refine h0.kept (hk1 (ad k) h0.lt ?_)
    rintro ⟨i, hi, e⟩
    rw [hadc i hi] at e
    have := hI _ _ (by omega) hk' e
    omega
theorem gA_sub {o m : Nat} (hom : o + m ≤ n) {adc : Nat → Nat} (hadc : ∀ i, i < m → adc i = ad (o + i)) (q : Nat) (h : gA m adc q) : gA n ad q := by
  obtain ⟨i, hi, rfl⟩ := h
  exact ⟨o + i, by omega, (hadc i hi).symm⟩
theorem g_callVi (C : GC X Z cc nL Ts own rm n ad) {y : MethodName} {Cn : String} {index na maxL : Nat} {bytes : ByteArray} {ty : FieldType} {ws ws' : List Cond} {rm' : Room} (hg : GoodIn Ts (wsV own index Cn y ws)) (hw : ws = Cond.code y bytes maxL (some ty) :: ws') (hd : gOk y Cn na) (hR : rm'.frames + 1 ≤ rm.frames ∧ 8 + (maxL + 11) + rm'.locals ≤ rm.locals) (h0 : rm'.cells = 0 ∧ rm'.slots = 0) (o m : Nat) (hom : o + m ≤ n) {adc : Nat → Nat} (hadc : ∀ i, i < m → adc i = ad (o + i)) {Ec Ec' : Nat → va_E} (hEc : ∀ i, i < m → Ec i = E (o + i)) (b : Nat) (hb : b < m) {ci N : Nat} {T : u_T} {fs : List Value} (hrec : Ec b = .inr (ci, fs)) (hcl : vwCl[ci]? = some (Cn, T, N)) {As : List Value} {r : Int32} (hM : gInj m adc → gI X.2.1 y ws rm' Z m adc (.ref (adc b) :: As) Ec r Ec') (hn : As.length = na) (hdg : decode cc pc = .ok (.invokevirtual index, 3)) (hst : st = As.reverse ++ .ref (adc b) :: rest) (hcat : (rest.map fun v => v.category).sum ≤ 8) (E2 : Nat → va_E) (hE2 : ∀ i, i < n → E2 i = if o ≤ i ∧ i < o + m then Ec' (i - o) else E i) (kk : GG X Z nL n ad E2 (pc + 3) lv (.int r :: rest)) : GG X Z nL n ad E pc lv st := by
  obtain ⟨p, l, e0, R, s, mm, args, below, meth, c, Q⟩ := X
  obtain ⟨hx, hbb, hml, hown, hts, hlo, hK, hI, hRm⟩ := C
  dsimp only at hx hbb hml hown hts hlo hK hI hRm hM kk
  intro H locs ls hl hP hS
  dsimp only at hS ⊢
  subst hRm
  have hPc := gP_sub hom hadc hEc hP
  refine va_calli (va_runV (As := As) (rest := rest) ⟨hx, hbb, hml, hown, hts⟩ (hM (gInj_sub hom hadc hI)) (cwV na hts hg hw h0.1 h0.2 hd hR) ⟨gB_blind, va_recv hK hPc hcl ((gW_get hb).trans (by rw [hrec])), fun U hU hW => ⟨rfl, by rw [hU]; exact hPc, va_K.moved hW.alike hK⟩⟩ rfl hn hl.1 hst (lv_room hcat) hdg ⟨Nat.zero_le _, Nat.zero_le _⟩) hS (fun q _ h => gA_sub hom hadc q h) (gA_sub hom hadc) (fun r' u t H1 locs1 ht hvm hq hB hz1 hk1 hS1 => ?_)
  cases hq
  have hP1 := hB.1
  rw [ht] at hP1
  exact kk H1 locs1 ls hl (gP_join hom hadc hE2 hI hP hP1 hk1) hS1
theorem g_callVv (C : GC X Z cc nL Ts own rm n ad) {y : MethodName} {Cn : String} {index na maxL : Nat} {bytes : ByteArray} {ws ws' : List Cond} {rm' : Room} (hg : GoodIn Ts (wsV own index Cn y ws)) (hw : ws = Cond.code y bytes maxL none :: ws') (hd : gOk y Cn na) (hR : rm'.frames + 1 ≤ rm.frames ∧ 8 + (maxL + 11) + rm'.locals ≤ rm.locals) (h0 : rm'.cells = 0 ∧ rm'.slots = 0) (o m : Nat) (hom : o + m ≤ n) {adc : Nat → Nat} (hadc : ∀ i, i < m → adc i = ad (o + i)) {Ec Ec' : Nat → va_E} (hEc : ∀ i, i < m → Ec i = E (o + i)) (b : Nat) (hb : b < m) {ci N : Nat} {T : u_T} {fs : List Value} (hrec : Ec b = .inr (ci, fs)) (hcl : vwCl[ci]? = some (Cn, T, N)) {As : List Value} (hM : gInj m adc → gV X.2.1 y ws rm' Z m adc (.ref (adc b) :: As) Ec Ec') (hn : As.length = na) (hdg : decode cc pc = .ok (.invokevirtual index, 3)) (hst : st = As.reverse ++ .ref (adc b) :: rest) (hcat : (rest.map fun v => v.category).sum ≤ 8) (E2 : Nat → va_E) (hE2 : ∀ i, i < n → E2 i = if o ≤ i ∧ i < o + m then Ec' (i - o) else E i) (kk : GG X Z nL n ad E2 (pc + 3) lv rest) : GG X Z nL n ad E pc lv st := by
  obtain ⟨p, l, e0, R, s, mm, args, below, meth, c, Q⟩ := X
  obtain ⟨hx, hbb, hml, hown, hts, hlo, hK, hI, hRm⟩ := C
  dsimp only at hx hbb hml hown hts hlo hK hI hRm hM kk
  intro H locs ls hl hP hS
  dsimp only at hS ⊢
  subst hRm
  have hPc := gP_sub hom hadc hEc hP
  refine va_callv (va_runV (As := As) (rest := rest) ⟨hx, hbb, hml, hown, hts⟩ (hM (gInj_sub hom hadc hI)) (cwV na hts hg hw h0.1 h0.2 hd hR) ⟨gB_blind, va_recv hK hPc hcl ((gW_get hb).trans (by rw [hrec])), fun U hU hW => ⟨rfl, by rw [hU]; exact hPc, va_K.moved hW.alike hK⟩⟩ rfl hn hl.1 hst (lv_room hcat) hdg ⟨Nat.zero_le _, Nat.zero_le _⟩) hS (fun q _ h => gA_sub hom hadc q h) (gA_sub hom hadc) (fun u t H1 locs1 ht hvm hq hB hz1 hk1 hS1 => ?_)
  have hP1 := hB.1
  rw [ht] at hP1
  exact kk H1 locs1 ls hl (gP_join hom hadc hE2 hI hP hP1 hk1) hS1
/-- a call over the whole world -/
theorem g_callWi (C : GC X Z cc nL Ts own rm n ad) {y : MethodName} {Cn : String} {index na maxL : Nat} {bytes : ByteArray} {ty : FieldType} {ws ws' : List Cond} {rm' : Room} (hg : GoodIn Ts (wsV own index Cn y ws)) (hw : ws = Cond.code y bytes maxL (some ty) :: ws') (hd : gOk y Cn na) (hR : rm'.frames + 1 ≤ rm.frames ∧ 8 + (maxL + 11) + rm'.locals ≤ rm.locals) (h0 : rm'.cells = 0 ∧ rm'.slots = 0) (b : Nat) (hb : b < n) {ci N : Nat} {T : u_T} {fs : List Value} (hrec : E b = .inr (ci, fs)) (hcl : vwCl[ci]? = some (Cn, T, N)) {As : List Value} {r : Int32} {E2 : Nat → va_E} (hM : gInj n ad → gI X.2.1 y ws rm' Z n ad (.ref (ad b) :: As) E r E2) (hn : As.length = na) (hdg : decode cc pc = .ok (.invokevirtual index, 3)) (hst : st = As.reverse ++ .ref (ad b) :: rest) (hcat : (rest.map fun v => v.category).sum ≤ 8) (kk : GG X Z nL n ad E2 (pc + 3) lv (.int r :: rest)) : GG X Z nL n ad E pc lv st :=
  g_callVi C hg hw hd hR h0 0 n (by omega) (adc := ad) (fun i _ => by rw [Nat.zero_add]) (Ec := E) (fun i _ => by rw [Nat.zero_add]) b hb hrec hcl hM hn hdg hst hcat E2 (fun i hi => by rw [if_pos ⟨Nat.zero_le _, by omega⟩, Nat.sub_zero]) kk
theorem g_callWv (C : GC X Z cc nL Ts own rm n ad) {y : MethodName} {Cn : String} {index na maxL : Nat} {bytes : ByteArray} {ws ws' : List Cond} {rm' : Room} (hg : GoodIn Ts (wsV own index Cn y ws)) (hw : ws = Cond.code y bytes maxL none :: ws') (hd : gOk y Cn na) (hR : rm'.frames + 1 ≤ rm.frames ∧ 8 + (maxL + 11) + rm'.locals ≤ rm.locals) (h0 : rm'.cells = 0 ∧ rm'.slots = 0) (b : Nat) (hb : b < n) {ci N : Nat} {T : u_T} {fs : List Value} (hrec : E b = .inr (ci, fs)) (hcl : vwCl[ci]? = some (Cn, T, N)) {As : List Value} {E2 : Nat → va_E} (hM : gInj n ad → gV X.2.1 y ws rm' Z n ad (.ref (ad b) :: As) E E2) (hn : As.length = na) (hdg : decode cc pc = .ok (.invokevirtual index, 3)) (hst : st = As.reverse ++ .ref (ad b) :: rest) (hcat : (rest.map fun v => v.category).sum ≤ 8) (kk : GG X Z nL n ad E2 (pc + 3) lv rest) : GG X Z nL n ad E pc lv st :=
  g_callVv C hg hw hd hR h0 0 n (by omega) (adc := ad) (fun i _ => by rw [Nat.zero_add]) (Ec := E) (fun i _ => by rw [Nat.zero_add]) b hb hrec hcl hM hn hdg hst hcat E2 (fun i hi => by rw [if_pos ⟨Nat.zero_le _, by omega⟩, Nat.sub_zero]) kk
/-- the empty world, of the static methods -/
def g0E : Nat → va_E := fun _ => .inr (0, [])
theorem g_callSi (C : GC X Z cc nL Ts own rm n ad) {y : MethodName} {index na maxL : Nat} {bytes : ByteArray} {ty : FieldType} {ws ws' : List Cond} {rm' : Room} (hg : GoodIn Ts (va_wsS own index y ws)) (hw : ws = Cond.code y bytes maxL (some ty) :: ws') (hd : gOk y own na) (hR : rm'.frames + 1 ≤ rm.frames ∧ 8 + (maxL + 11) + rm'.locals ≤ rm.locals) (h0 : rm'.cells = 0 ∧ rm'.slots = 0) {As : List Value} {r : Int32} (hM : gI X.2.1 y ws rm' Z 0 id As g0E r g0E) (hn : As.length = na) (hdg : decode cc pc = .ok (.invokestatic index, 3)) (hst : st = As.reverse ++ rest) (hcat : (rest.map fun v => v.category).sum ≤ 8) (kk : GG X Z nL n ad E (pc + 3) lv (.int r :: rest)) : GG X Z nL n ad E pc lv st := by
  obtain ⟨p, l, e0, R, s, mm, args, below, meth, c, Q⟩ := X
  obtain ⟨hx, hbb, hml, hown, hts, hlo, hK, hI, hRm⟩ := C
  dsimp only at hx hbb hml hown hts hlo hK hI hRm hM kk
  intro H locs ls hl hP hS
  dsimp only at hS ⊢
  subst hRm
  have hPc : va_P Z.1 vwCl (gW 0 id g0E) H := fun k q hk => by obtain ⟨h, -⟩ := gW_inv hk; omega
  refine va_calli (va_runS (As := As) (rest := rest) ⟨hx, hbb, hml, hown, hts⟩ hM (va_cwS na hts hg hw h0.1 h0.2 hd.2 hR) ⟨gB_blind, fun U hU hW => ⟨rfl, by rw [hU]; exact hPc, va_K.moved hW.alike hK⟩⟩ rfl hn hl.1 hst (lv_room hcat) hdg ⟨Nat.zero_le _, Nat.zero_le _⟩) hS (fun q _ h => by obtain ⟨i, hi, -⟩ := h; omega) (fun q h => by obtain ⟨i, hi, -⟩ := h; omega) (fun r' u t H1 locs1 ht hvm hq hB hz1 hk1 hS1 => ?_)
  cases hq
  have hP1 : va_P Z.1 vwCl (gW n ad E) H1 := by
    intro k q hk
    have h0 := hP k q hk
    exact h0.kept (hk1 q.1 h0.lt (by rintro ⟨i, hi, -⟩; omega))
  exact kk H1 locs1 ls hl hP1 hS1
end GCALLS
