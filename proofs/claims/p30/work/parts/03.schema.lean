/-! WORLDS: what the cells of each kind of world hold; the steps of the pure functions. -/
def glet {α β : Type} (a : α) (f : α → β) : β := f a
theorem gl {α β : Type} {a : α} {f : α → β} {x : β} (h : glet a f = x) : ∃ v, v = a ∧ f v = x := ⟨a, rfl, h⟩
theorem gi_pos {α : Type} {c : Prop} {i : Decidable c} {a b x : α} (hc : c) (h : @ite α c i a b = x) : a = x := (if_pos hc).symm.trans h
theorem gi_neg {α : Type} {c : Prop} {i : Decidable c} {a b x : α} (hc : ¬ c) (h : @ite α c i a b = x) : b = x := (if_neg hc).symm.trans h
theorem gguard {α : Type} {c : Prop} {i : Decidable c} {a : Option α} {x : α} (h : @ite (Option α) c i a none = some x) : c ∧ a = some x := by
  by_cases hc : c
  · rw [if_pos hc] at h; exact ⟨hc, h⟩
  · rw [if_neg hc] at h; cases h
def gb {α β : Type} (o : Option α) (f : α → Option β) : Option β := match o with
  | none => none
  | some v => f v
theorem gb1 {α β : Type} {o : Option α} {f : α → Option β} {x : β} (h : gb o f = some x) : ∃ v, o = some v ∧ f v = some x := by
  cases o with
  | none => cases h
  | some v => exact ⟨v, rfl, h⟩
def gbb2 {α1 α2 β : Type} (o : Option (α1 × α2)) (f : α1 → α2 → Option β) : Option β := gb o (fun v => f v.1 v.2)
theorem gb2 {α1 α2 β : Type} {o : Option (α1 × α2)} {f : α1 → α2 → Option β} {x : β} (h : gbb2 o f = some x) : ∃ a b, o = some (a, b) ∧ f a b = some x := by
  obtain ⟨v, h1, h2⟩ := gb1 h
  exact ⟨v.1, v.2, h1, h2⟩
def gbb3 {α1 α2 α3 β : Type} (o : Option (α1 × α2 × α3)) (f : α1 → α2 → α3 → Option β) : Option β := gb o (fun v => f v.1 v.2.1 v.2.2)
theorem gb3 {α1 α2 α3 β : Type} {o : Option (α1 × α2 × α3)} {f : α1 → α2 → α3 → Option β} {x : β} (h : gbb3 o f = some x) : ∃ a b c, o = some (a, b, c) ∧ f a b c = some x := by
  obtain ⟨v, h1, h2⟩ := gb1 h
  exact ⟨v.1, v.2.1, v.2.2, h1, h2⟩
def gbb4 {α1 α2 α3 α4 β : Type} (o : Option (α1 × α2 × α3 × α4)) (f : α1 → α2 → α3 → α4 → Option β) : Option β := gb o (fun v => f v.1 v.2.1 v.2.2.1 v.2.2.2)
theorem gb4 {α1 α2 α3 α4 β : Type} {o : Option (α1 × α2 × α3 × α4)} {f : α1 → α2 → α3 → α4 → Option β} {x : β} (h : gbb4 o f = some x) : ∃ a b c d, o = some (a, b, c, d) ∧ f a b c d = some x := by
  obtain ⟨v, h1, h2⟩ := gb1 h
  exact ⟨v.1, v.2.1, v.2.2.1, v.2.2.2, h1, h2⟩
theorem gs1 {α : Type} {a b : α} (h : some a = some b) : b = a := (Option.some.inj h).symm
theorem gs2 {α β : Type} {a c : α} {b d : β} (h : some (a, b) = some (c, d)) : c = a ∧ d = b := by
  have h1 := Option.some.inj h
  exact ⟨(congrArg Prod.fst h1).symm, (congrArg Prod.snd h1).symm⟩
theorem gs3 {α β γ : Type} {a a' : α} {b b' : β} {c c' : γ} (h : some (a, b, c) = some (a', b', c')) : a' = a ∧ b' = b ∧ c' = c := by
  have h1 := Option.some.inj h
  exact ⟨(congrArg (fun q => q.1) h1).symm, (congrArg (fun q => q.2.1) h1).symm, (congrArg (fun q => q.2.2) h1).symm⟩
theorem gs4 {α β γ δ : Type} {a a' : α} {b b' : β} {c c' : γ} {d d' : δ} (h : some (a, b, c, d) = some (a', b', c', d')) : a' = a ∧ b' = b ∧ c' = c ∧ d' = d := by
  have h1 := Option.some.inj h
  exact ⟨(congrArg (fun q => q.1) h1).symm, (congrArg (fun q => q.2.1) h1).symm, (congrArg (fun q => q.2.2.1) h1).symm, (congrArg (fun q => q.2.2.2) h1).symm⟩
theorem gs5 {α β γ δ ε : Type} {a a' : α} {b b' : β} {c c' : γ} {d d' : δ} {e e' : ε} (h : some (a, b, c, d, e) = some (a', b', c', d', e')) : a' = a ∧ b' = b ∧ c' = c ∧ d' = d ∧ e' = e := by
  have h1 := Option.some.inj h
  exact ⟨(congrArg (fun q => q.1) h1).symm, (congrArg (fun q => q.2.1) h1).symm, (congrArg (fun q => q.2.2.1) h1).symm, (congrArg (fun q => q.2.2.2.1) h1).symm, (congrArg (fun q => q.2.2.2.2) h1).symm⟩
def gbb5 {α1 α2 α3 α4 α5 β : Type} (o : Option (α1 × α2 × α3 × α4 × α5)) (f : α1 → α2 → α3 → α4 → α5 → Option β) : Option β := gb o (fun v => f v.1 v.2.1 v.2.2.1 v.2.2.2.1 v.2.2.2.2)
theorem gb5 {α1 α2 α3 α4 α5 β : Type} {o : Option (α1 × α2 × α3 × α4 × α5)} {f : α1 → α2 → α3 → α4 → α5 → Option β} {x : β} (h : gbb5 o f = some x) : ∃ a b c d e, o = some (a, b, c, d, e) ∧ f a b c d e = some x := by
  obtain ⟨v, h1, h2⟩ := gb1 h
  exact ⟨v.1, v.2.1, v.2.2.1, v.2.2.2.1, v.2.2.2.2, h1, h2⟩
def gFu : Nat := 1000
theorem g_in {i : Int32} {n : Nat} (h : 0 ≤ i ∧ i.toNatClampNeg < n) : vp_in i n := by
  rintro (h1 | h1)
  · exact absurd h.1 (Int32.not_le.mpr h1)
  · exact absurd h.2 (Nat.not_lt.mpr h1)
theorem g_sub {X : gX} {Z : gZ} {nL n : Nat} {ad : Nat → Nat} {E : Nat → va_E} {pc : Nat} {lv lv' : List (Nat × Value)} {st : List Value} (ks : List Nat) (h : lv_pick lv ks = lv') (kk : GG X Z nL n ad E pc lv' st) : GG X Z nL n ad E pc lv st :=
  fun H locs ls hl hP hS => kk H locs ls (lv_sub hl ks h) hP hS
theorem g_tableAny {X : gX} {Z : gZ} {cc : ByteArray} {nL : Nat} {Ts : List Cond} {own : String} {rm : Room} {n : Nat} {ad : Nat → Nat} {E : Nat → va_E} {pc : Nat} {lv : List (Nat × Value)} {rest : List Value} (C : GC X Z cc nL Ts own rm n ad) {dflt lo hi : Int} {offs : Array Int} {len : Nat} {x : Int32} {tgt : Nat} (hdg : decode cc pc = .ok (.tableswitch dflt lo hi offs, len)) (h : (x.toInt < lo ∨ hi < x.toInt) ∨ (¬ x.toInt < lo ∧ ¬ hi < x.toInt ∧ offs[(x.toInt - lo).toNat]? = some dflt)) (ht : (pc : Int) + dflt = (tgt : Int)) (kk : GG X Z nL n ad E tgt lv rest) : GG X Z nL n ad E pc lv (.int x :: rest) := by
  rcases h with h | ⟨h1, h2, h3⟩
  · exact g_tableOut C hdg h ht kk
  · obtain ⟨hx, hb, -⟩ := C
    intro H locs ls hl hP hS
    exact lv_tableIn hx hb hdg h1 h2 h3 ht (kk H locs ls hl hP hS)
/-- a world may be told otherwise where the cells are the same -/
theorem gB_ext {Z : gZ} {n : Nat} {ad : Nat → Nat} {E E2 : Nat → va_E} {H : Heap} (h : ∀ i, i < n → va_at Z.1 vwCl (ad i, E i) H → va_at Z.1 vwCl (ad i, E2 i) H) (hP : va_P Z.1 vwCl (gW n ad E) H) : va_P Z.1 vwCl (gW n ad E2) H := by
  intro k q hk
  obtain ⟨hk', rfl⟩ := gW_inv hk
  exact h k hk' (hP k _ (gW_get hk'))
-- a row: the object, its array of n numbers
def rowE (cI : ClassId) (ad : Nat → Nat) (n : Nat) (f : Nat → Int32) : Nat → va_E := fun i => if i = 0 then .inr (3, [.ref (ad 1)]) else .inl (cI, n, .inl f)
theorem rowE_st {cI : ClassId} {ad : Nat → Nat} {n : Nat} {f f2 : Nat → Int32} : ∀ i, i < 2 → rowE cI ad n f2 i = va_up (rowE cI ad n f) 1 (.inl (cI, n, .inl f2)) i := by
  intro i hi
  rcases (show i = 0 ∨ i = 1 by omega) with rfl | rfl <;> rfl
-- a disk: the object, then ten rows
def rl (k : Nat) : Nat := if k < 3 then 64 else if k < 8 then 8 else if k = 8 then 2 else 4
def dskE (cI : ClassId) (ad : Nat → Nat) (d : Nat → Nat → Int32) : Nat → va_E := fun i =>
  if i = 0 then .inr (0, [.ref (ad 1), .ref (ad 3), .ref (ad 5), .ref (ad 7), .ref (ad 9), .ref (ad 11), .ref (ad 13), .ref (ad 15), .ref (ad 17), .ref (ad 19)])
  else if i % 2 = 1 then .inr (3, [.ref (ad (i + 1))]) else .inl (cI, rl ((i - 2) / 2), .inl (d ((i - 2) / 2)))
theorem dskE_row {cI : ClassId} {ad : Nat → Nat} {d : Nat → Nat → Int32} (k : Nat) {o len : Nat} (h : k < 10 ∧ o = 2 * k + 1 ∧ len = rl k) : ∀ i, i < 2 → rowE cI (fun i => ad (o + i)) len (d k) i = dskE cI ad d (o + i) := by
  intro i hi
  obtain ⟨hk, rfl, rfl⟩ := h
  rcases (show i = 0 ∨ i = 1 by omega) with rfl | rfl
  · simp only [rowE, dskE, Nat.add_zero, if_true]
    rw [if_neg (by omega), if_pos (by omega)]
  · simp only [rowE, dskE]
    rw [if_neg (by omega), if_neg (by omega), if_neg (by omega), show (2 * k + 1 + 1 - 2) / 2 = k by omega]
theorem dskE_up {cI : ClassId} {ad : Nat → Nat} {d : Nat → Nat → Int32} (k : Nat) {o len : Nat} {w : Nat → Int32} (h : k < 10 ∧ o = 2 * k + 1 ∧ len = rl k) : ∀ i, i < 21 → dskE cI ad (va_up d k w) i = if o ≤ i ∧ i < o + 2 then rowE cI (fun i => ad (o + i)) len w (i - o) else dskE cI ad d i := by
  intro i hi
  obtain ⟨hk, rfl, rfl⟩ := h
  by_cases h0 : 2 * k + 1 ≤ i ∧ i < 2 * k + 1 + 2
  · rw [if_pos h0]
    rcases (show i = 2 * k + 1 ∨ i = 2 * k + 2 by omega) with rfl | rfl
    · simp only [dskE, rowE]
      rw [if_neg (by omega), if_pos (by omega), if_pos (by omega)]
    · simp only [dskE, rowE]
      rw [if_neg (by omega), if_neg (by omega), if_neg (by omega), show (2 * k + 2 - 2) / 2 = k by omega]
      simp [va_up]
  · rw [if_neg h0]
    simp only [dskE]
    by_cases h1 : i = 0
    · rw [if_pos h1, if_pos h1]
    · rw [if_neg h1, if_neg h1]
      by_cases h2 : i % 2 = 1
      · rw [if_pos h2, if_pos h2]
      · rw [if_neg h2, if_neg h2]
        have : (i - 2) / 2 ≠ k := by omega
        simp [va_up, this]
theorem dskE_id {cI : ClassId} {ad : Nat → Nat} {d : Nat → Nat → Int32} (k : Nat) {o len : Nat} (h : k < 10 ∧ o = 2 * k + 1 ∧ len = rl k) : ∀ i, i < 21 → dskE cI ad d i = if o ≤ i ∧ i < o + 2 then rowE cI (fun i => ad (o + i)) len (d k) (i - o) else dskE cI ad d i := by
  intro i hi
  have h1 := dskE_up (cI := cI) (ad := ad) (d := d) (w := d k) k h i hi
  rw [← h1]
  have : va_up d k (d k) = d := by funext j; by_cases hj : j = k <;> simp [va_up, hj]
  rw [this]
-- the reader of orders
def ordE (g : Nat → Int32) : Nat → va_E := fun _ => .inr (2, [.int (g 0), .int (g 1), .int (g 2), .int (g 3), .int (g 4)])
theorem ordE_g0 {g : Nat → Int32} {x : Int32} : ∀ i, i < 1 → ordE (upd g 0 x) i = va_up (ordE g) 0 (.inr (2, [Value.int x, .int (g 1), .int (g 2), .int (g 3), .int (g 4)])) i := by
  intro i hi; obtain rfl : i = 0 := by omega
  rfl
theorem ordE_g1 {g : Nat → Int32} {x : Int32} : ∀ i, i < 1 → ordE (upd g 1 x) i = va_up (ordE g) 0 (.inr (2, [Value.int (g 0), .int x, .int (g 2), .int (g 3), .int (g 4)])) i := by
  intro i hi; obtain rfl : i = 0 := by omega
  rfl
theorem ordE_g2 {g : Nat → Int32} {x : Int32} : ∀ i, i < 1 → ordE (upd g 2 x) i = va_up (ordE g) 0 (.inr (2, [Value.int (g 0), .int (g 1), .int x, .int (g 3), .int (g 4)])) i := by
  intro i hi; obtain rfl : i = 0 := by omega
  rfl
theorem ordE_g3 {g : Nat → Int32} {x : Int32} : ∀ i, i < 1 → ordE (upd g 3 x) i = va_up (ordE g) 0 (.inr (2, [Value.int (g 0), .int (g 1), .int (g 2), .int x, .int (g 4)])) i := by
  intro i hi; obtain rfl : i = 0 := by omega
  rfl
theorem ordE_g4 {g : Nat → Int32} {x : Int32} : ∀ i, i < 1 → ordE (upd g 4 x) i = va_up (ordE g) 0 (.inr (2, [Value.int (g 0), .int (g 1), .int (g 2), .int (g 3), .int x])) i := by
  intro i hi; obtain rfl : i = 0 := by omega
  rfl
-- the script, its row, its characters, the reader
def scrE (cI : ClassId) (ad : Nat → Nat) (cs : Nat → Int32) (len : Int32) (g : Nat → Int32) : Nat → va_E := fun i =>
  if i = 0 then .inr (4, [.ref (ad 1), .int len]) else if i = 1 then .inr (3, [.ref (ad 2)]) else if i = 2 then .inl (cI, 80, .inl cs) else ordE g 0
theorem scrE_len {cI : ClassId} {ad : Nat → Nat} {cs g : Nat → Int32} {len x : Int32} : ∀ i, i < 4 → scrE cI ad cs x g i = va_up (scrE cI ad cs len g) 0 (.inr (4, [.ref (ad 1), .int x])) i := by
  intro i hi
  rcases (show i = 0 ∨ i = 1 ∨ i = 2 ∨ i = 3 by omega) with rfl | rfl | rfl | rfl <;> rfl
theorem scrE_row {cI : ClassId} {ad : Nat → Nat} {cs g : Nat → Int32} {len : Int32} : ∀ i, i < 2 → rowE cI (fun i => ad (1 + i)) 80 cs i = scrE cI ad cs len g (1 + i) := by
  intro i hi
  rcases (show i = 0 ∨ i = 1 by omega) with rfl | rfl <;> rfl
theorem scrE_up {cI : ClassId} {ad : Nat → Nat} {cs g w : Nat → Int32} {len : Int32} : ∀ i, i < 4 → scrE cI ad w len g i = if 1 ≤ i ∧ i < 1 + 2 then rowE cI (fun i => ad (1 + i)) 80 w (i - 1) else scrE cI ad cs len g i := by
  intro i hi
  rcases (show i = 0 ∨ i = 1 ∨ i = 2 ∨ i = 3 by omega) with rfl | rfl | rfl | rfl <;> rfl
theorem scrE_id {cI : ClassId} {ad : Nat → Nat} {cs g : Nat → Int32} {len : Int32} : ∀ i, i < 4 → scrE cI ad cs len g i = if 1 ≤ i ∧ i < 1 + 2 then rowE cI (fun i => ad (1 + i)) 80 cs (i - 1) else scrE cI ad cs len g i := scrE_up
theorem scrE_ord {cI : ClassId} {ad : Nat → Nat} {cs g : Nat → Int32} {len : Int32} : ∀ i, i < 1 → ordE g i = scrE cI ad cs len g (3 + i) := by
  intro i hi; obtain rfl : i = 0 := by omega
  rfl
theorem scrE_gup {cI : ClassId} {ad : Nat → Nat} {cs g w : Nat → Int32} {len : Int32} : ∀ i, i < 4 → scrE cI ad cs len w i = if 3 ≤ i ∧ i < 3 + 1 then ordE w (i - 3) else scrE cI ad cs len g i := by
  intro i hi
  rcases (show i = 0 ∨ i = 1 ∨ i = 2 ∨ i = 3 by omega) with rfl | rfl | rfl | rfl <;> rfl
theorem scrE_gid {cI : ClassId} {ad : Nat → Nat} {cs g : Nat → Int32} {len : Int32} : ∀ i, i < 4 → scrE cI ad cs len g i = if 3 ≤ i ∧ i < 3 + 1 then ordE g (i - 3) else scrE cI ad cs len g i := scrE_gup
-- the whole: eight disks (disk, spare, snapshot, five of the history), the object, the history, its slots, the script, the reader
def xE (cI cD : ClassId) (ad : Nat → Nat) (D : Nat → Nat → Nat → Int32) (sav old hsz : Int32) (cs : Nat → Int32) (len : Int32) (g : Nat → Int32) : Nat → va_E := fun i =>
  if i < 168 then dskE cI (fun q => ad (21 * (i / 21) + q)) (D (i / 21)) (i % 21)
  else if i = 168 then .inr (5, [.ref (ad 0), .ref (ad 21), .ref (ad 42), .int sav, .ref (ad 169), .ref (ad 171), .ref (ad 174)])
  else if i = 169 then .inr (1, [.ref (ad 170), .int old, .int hsz])
  else if i = 170 then .inl (cD, 5, .inr (.inr (.inr (.inr (fun k => some (ad (21 * (3 + k))))))))
  else if i = 171 then .inr (4, [.ref (ad 172), .int len]) else if i = 172 then .inr (3, [.ref (ad 173)]) else if i = 173 then .inl (cI, 80, .inl cs) else ordE g 0
section XE
variable {cI cD : ClassId} {ad : Nat → Nat} {D : Nat → Nat → Nat → Int32} {sav old hsz : Int32} {cs : Nat → Int32} {len : Int32} {g : Nat → Int32}
theorem xE_rec (j : Nat) (h : j < 8) : xE cI cD ad D sav old hsz cs len g (21 * j) = .inr (0, [.ref (ad (21 * j + 1)), .ref (ad (21 * j + 3)), .ref (ad (21 * j + 5)), .ref (ad (21 * j + 7)), .ref (ad (21 * j + 9)), .ref (ad (21 * j + 11)), .ref (ad (21 * j + 13)), .ref (ad (21 * j + 15)), .ref (ad (21 * j + 17)), .ref (ad (21 * j + 19))]) := by
  simp only [xE, dskE]
  rw [if_pos (by omega), show 21 * j / 21 = j by omega, if_pos (by omega)]
theorem xE_dsk (j : Nat) (h : j < 8) : ∀ i, i < 21 → dskE cI (fun i => ad (21 * j + i)) (D j) i = xE cI cD ad D sav old hsz cs len g (21 * j + i) := by
  intro i hi
  simp only [xE]
  rw [if_pos (by omega), show (21 * j + i) / 21 = j by omega, show (21 * j + i) % 21 = i by omega]
theorem xE_up (j : Nat) (h : j < 8) {w : Nat → Nat → Int32} : ∀ i, i < 175 → xE cI cD ad (va_up D j w) sav old hsz cs len g i = if 21 * j ≤ i ∧ i < 21 * j + 21 then dskE cI (fun i => ad (21 * j + i)) w (i - 21 * j) else xE cI cD ad D sav old hsz cs len g i := by
  intro i hi
  by_cases h0 : 21 * j ≤ i ∧ i < 21 * j + 21
  · rw [if_pos h0]
    simp only [xE]
    rw [if_pos (by omega), show i / 21 = j by omega, show i % 21 = i - 21 * j by omega]
    simp [va_up]
  · rw [if_neg h0]
    simp only [xE]
    by_cases h1 : i < 168
    · rw [if_pos h1, if_pos h1]
      have : i / 21 ≠ j := by omega
      simp [va_up, this]
    · rw [if_neg h1, if_neg h1]
theorem xE_id (j : Nat) (h : j < 8) : ∀ i, i < 175 → xE cI cD ad D sav old hsz cs len g i = if 21 * j ≤ i ∧ i < 21 * j + 21 then dskE cI (fun i => ad (21 * j + i)) (D j) (i - 21 * j) else xE cI cD ad D sav old hsz cs len g i := by
  intro i hi
  have h1 := xE_up (cI := cI) (cD := cD) (ad := ad) (D := D) (sav := sav) (old := old) (hsz := hsz) (cs := cs) (len := len) (g := g) (w := D j) j h i hi
  rw [← h1]
  have : va_up D j (D j) = D := by funext k; by_cases hk : k = j <;> simp [va_up, hk]
  rw [this]
theorem xE_lt {i : Nat} (h : i < 168) {sav2 old2 hsz2 len2 : Int32} {cs2 g2 : Nat → Int32} : xE cI cD ad D sav2 old2 hsz2 cs2 len2 g2 i = xE cI cD ad D sav old hsz cs len g i := by
  simp only [xE]; rw [if_pos h, if_pos h]
theorem x_7 {i : Nat} (hi : i < 175) (h : ¬ i < 168) : i = 168 ∨ i = 169 ∨ i = 170 ∨ i = 171 ∨ i = 172 ∨ i = 173 ∨ i = 174 := by omega
theorem xE_sav {x : Int32} : ∀ i, i < 175 → xE cI cD ad D x old hsz cs len g i = va_up (xE cI cD ad D sav old hsz cs len g) 168 (.inr (5, [.ref (ad 0), .ref (ad 21), .ref (ad 42), .int x, .ref (ad 169), .ref (ad 171), .ref (ad 174)])) i := by
  intro i hi
  by_cases h : i < 168
  · rw [xE_lt h (sav := sav)]; simp only [va_up]; rw [if_neg (by omega)]
  · rcases x_7 hi h with rfl | rfl | rfl | rfl | rfl | rfl | rfl <;> rfl
theorem xE_old {x : Int32} : ∀ i, i < 175 → xE cI cD ad D sav x hsz cs len g i = va_up (xE cI cD ad D sav old hsz cs len g) 169 (.inr (1, [.ref (ad 170), .int x, .int hsz])) i := by
  intro i hi
  by_cases h : i < 168
  · rw [xE_lt h (old := old)]; simp only [va_up]; rw [if_neg (by omega)]
  · rcases x_7 hi h with rfl | rfl | rfl | rfl | rfl | rfl | rfl <;> rfl
theorem xE_hsz {x : Int32} : ∀ i, i < 175 → xE cI cD ad D sav old x cs len g i = va_up (xE cI cD ad D sav old hsz cs len g) 169 (.inr (1, [.ref (ad 170), .int old, .int x])) i := by
  intro i hi
  by_cases h : i < 168
  · rw [xE_lt h (hsz := hsz)]; simp only [va_up]; rw [if_neg (by omega)]
  · rcases x_7 hi h with rfl | rfl | rfl | rfl | rfl | rfl | rfl <;> rfl
theorem xE_ord : ∀ i, i < 1 → ordE g i = xE cI cD ad D sav old hsz cs len g (174 + i) := by
  intro i hi; obtain rfl : i = 0 := by omega
  rfl
theorem xE_oup {w : Nat → Int32} : ∀ i, i < 175 → xE cI cD ad D sav old hsz cs len w i = if 174 ≤ i ∧ i < 174 + 1 then ordE w (i - 174) else xE cI cD ad D sav old hsz cs len g i := by
  intro i hi
  by_cases h : i < 168
  · rw [xE_lt h (g := g), if_neg (by omega)]
  · rcases x_7 hi h with rfl | rfl | rfl | rfl | rfl | rfl | rfl <;> rfl
theorem xE_oid : ∀ i, i < 175 → xE cI cD ad D sav old hsz cs len g i = if 174 ≤ i ∧ i < 174 + 1 then ordE g (i - 174) else xE cI cD ad D sav old hsz cs len g i := xE_oup
theorem xE_scr : ∀ i, i < 4 → scrE cI (fun i => ad (171 + i)) cs len g i = xE cI cD ad D sav old hsz cs len g (171 + i) := by
  intro i hi
  rcases (show i = 0 ∨ i = 1 ∨ i = 2 ∨ i = 3 by omega) with rfl | rfl | rfl | rfl <;> rfl
theorem xE_sup {cs2 g2 : Nat → Int32} {len2 : Int32} : ∀ i, i < 175 → xE cI cD ad D sav old hsz cs2 len2 g2 i = if 171 ≤ i ∧ i < 171 + 4 then scrE cI (fun i => ad (171 + i)) cs2 len2 g2 (i - 171) else xE cI cD ad D sav old hsz cs len g i := by
  intro i hi
  by_cases h : i < 168
  · rw [xE_lt h (g := g) (cs := cs) (len := len), if_neg (by omega)]
  · rcases x_7 hi h with rfl | rfl | rfl | rfl | rfl | rfl | rfl <;> rfl
theorem xE_sid : ∀ i, i < 175 → xE cI cD ad D sav old hsz cs len g i = if 171 ≤ i ∧ i < 171 + 4 then scrE cI (fun i => ad (171 + i)) cs len g (i - 171) else xE cI cD ad D sav old hsz cs len g i := xE_sup
end XE
/-- one disk copied over another -/
def dcp (D : Nat → Nat → Nat → Int32) (i j : Nat) : Nat → Nat → Nat → Int32 := va_up D i (D j)
