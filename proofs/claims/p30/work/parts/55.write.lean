/-! MATHEMATICS, 31: lent blocks come to hold data, on both sides. -/
section WRITE
variable {d : Nat → Nat → Int32} {A : Nat → Nat → Nat} {s t g : Nat → Int32}
/-- the first n lent blocks of f hold data, with a stamp -/
def wkA (A : Nat → Nat → Nat) (f n st : Nat) : Nat → Nat → Nat := fun k i => if k = 0 ∧ A 1 i = f ∧ A 5 f ≤ A 2 i ∧ A 2 i < A 5 f + n then st else if k = 5 ∧ i = f then A 5 f + n else A k i
/-- the same, of the blocks below j alone; the size as it was -/
def wjA (A : Nat → Nat → Nat) (f n st j : Nat) : Nat → Nat → Nat := fun k i => if k = 0 ∧ i < j ∧ A 1 i = f ∧ A 5 f ≤ A 2 i ∧ A 2 i < A 5 f + n then st else A k i
def wrA (A : Nat → Nat → Nat) (f n st : Nat) : Nat → Nat → Nat := as (wkA A f n st) 9 0 (A 9 0 + n)
theorem m_rd2 {α : Type} {x : Nat} (h : x < 1968) (k : Option α) : (if 0 ≤ nI x ∧ x < 1968 then k else none) = k := if_pos ⟨nI_pos' (by omega), h⟩
theorem wkA_row {f n st k i : Nat} (h0 : k ≠ 0) (h5 : k ≠ 5) : wkA A f n st k i = A k i := by
  unfold wkA
  rw [if_neg (fun q => h0 q.1), if_neg (fun q => h5 q.1)]
theorem wkA_sz (A : Nat → Nat → Nat) (f n st i : Nat) : wkA A f n st 5 i = if i = f then A 5 f + n else A 5 i := by
  unfold wkA
  rw [if_neg (fun q => absurd q.1 (by decide))]
  by_cases c : i = f
  · rw [if_pos ⟨rfl, c⟩, if_pos c]
  · rw [if_neg (fun q => c q.2), if_neg c]
theorem wkA_st (A : Nat → Nat → Nat) (f n st i : Nat) : wkA A f n st 0 i = if A 1 i = f ∧ A 5 f ≤ A 2 i ∧ A 2 i < A 5 f + n then st else A 0 i := by
  unfold wkA
  by_cases c : A 1 i = f ∧ A 5 f ≤ A 2 i ∧ A 2 i < A 5 f + n
  · rw [if_pos ⟨rfl, c⟩, if_pos c]
  · rw [if_neg (fun q => c q.2), if_neg (fun q => absurd q.1 (by decide)), if_neg c]
theorem wjA_row {f n st j k i : Nat} (h0 : k ≠ 0) : wjA A f n st j k i = A k i := by
  unfold wjA
  rw [if_neg (fun q => h0 q.1)]
theorem IB_st {B : Nat → Nat → Nat} (hI : IB A) (h1 : ∀ k i, k ≠ 0 → k < 5 → B k i = A k i) (h2 : ∀ i, i < 64 → B 0 i ≤ 99) : IB B := by
  refine ⟨fun k hk => ?_, fun q i hq hi => ?_, fun k j hk hj ho e1 e2 => ?_, fun q hq => ?_⟩
  · have z := hI.1 k hk
    rw [h1 1 k (by decide) (by decide), h1 3 _ (by decide) (by decide), h1 2 k (by decide) (by decide), h1 4 _ (by decide) (by decide)]
    exact ⟨z.1, h2 k hk, z.2.2⟩
  · rw [h1 4 q (by decide) (by decide)] at hi
    obtain ⟨k, hk, ho, hx⟩ := hI.2.1 q i hq hi
    exact ⟨k, hk, by rw [h1 1 k (by decide) (by decide)]; exact ho, by rw [h1 2 k (by decide) (by decide)]; exact hx⟩
  · rw [h1 1 k (by decide) (by decide)] at ho
    rw [h1 1 k (by decide) (by decide), h1 1 j (by decide) (by decide)] at e1
    rw [h1 2 k (by decide) (by decide), h1 2 j (by decide) (by decide)] at e2
    exact hI.2.2.1 k j hk hj ho e1 e2
  · rw [h1 3 q (by decide) (by decide), h1 4 q (by decide) (by decide)]; exact hI.2.2.2 q hq
theorem IB_wj (hI : IB A) {f n st j : Nat} (hst : st ≤ 99) : IB (wjA A f n st j) := by
  refine IB_st hI (fun k i h0 _ => wjA_row h0) (fun i hi => ?_)
  have z := (hI.1 i hi).2.1
  unfold wjA
  by_cases c : 0 = 0 ∧ i < j ∧ A 1 i = f ∧ A 5 f ≤ A 2 i ∧ A 2 i < A 5 f + n
  · rw [if_pos c]; exact hst
  · rw [if_neg c]; exact z
theorem IA_wk (hI : IA A) {f n st : Nat} (hn : A 5 f + n ≤ A 4 f) (hst : st ≤ 99) : IA (wkA A f n st) := by
  refine IA_of (IB_st hI.b (fun k i h0 h5 => wkA_row h0 (by omega)) (fun i hi => ?_)) (fun q hq => ?_) ?_
  · have z := (hI.1 i hi).2.1
    rw [wkA_st]
    by_cases c : A 1 i = f ∧ A 5 f ≤ A 2 i ∧ A 2 i < A 5 f + n
    · rw [if_pos c]; exact hst
    · rw [if_neg c]; exact z
  · have z := hI.2.2.2.1 q hq
    rw [wkA_sz, wkA_row (k := 4) (by decide) (by decide), wkA_row (k := 7) (by decide) (by decide), wkA_row (k := 3) (by decide) (by decide), wkA_row (k := 6) (by decide) (by decide)]
    by_cases c : q = f
    · subst c; rw [if_pos rfl]; omega
    · rw [if_neg c]; omega
  · rw [wkA_row (by decide) (by decide), wkA_row (by decide) (by decide)]; exact hI.2.2.2.2
theorem IA_wr (hI : IA A) {f n st : Nat} (hn : A 5 f + n ≤ A 4 f) (hst : st ≤ 99) : IA (wrA A f n st) := IA_as (IA_wk hI hn hst) (Or.inr (Or.inr rfl)) (fun e => absurd e (by decide)) (fun e => absurd e (by decide))
theorem C_write (h : RC d A) (hI : IA A) {f n st : Nat} (hf : f < 8) (hn : A 5 f + n ≤ A 4 f) (hst : st ≤ 99) : ∃ d', f_X0_write d (nI f) (nI n) (nI st) = some d' ∧ RC d' (wrA A f n st) := by
  have hl := hI.2.2.2.1 f hf
  unfold f_X0_write
  rw [f_at_in (by decide) _ hf, gb_some, h.sz hf]
  refine loopR (fun fu j x => f_X0_write_L13 (nI f) (nI n) (nI st) (nI (A 5 f)) fu (nI j) x) 64 (fun j x => RC x (wjA A f n st j)) (fun d' => RC d' (wrA A f n st)) (fun fu j x hj hx => Or.inl ?_) (fun fu x hx => ?_) gFu 0 d (by omega) (by decide) (h.congr (fun k i _ _ => by unfold wjA; rw [if_neg (fun q => by omega)]))
  · show ∃ x', f_X0_write_L13 (nI f) (nI n) (nI st) (nI (A 5 f)) (fu + 1) (nI j) x = f_X0_write_L13 (nI f) (nI n) (nI st) (nI (A 5 f)) fu (nI (j + 1)) x' ∧ RC x' (wjA A f n st (j + 1))
    rw [f_X0_write_L13, if_neg (by rw [l_lit64 (by omega)]; omega), nI_add, C_isPart hx (IB_wj hI.b hst) hj hf (by omega) (by omega), gb_some, wjA_row (k := 1) (by decide), wjA_row (k := 2) (by decide)]
    by_cases c : A 1 j = f ∧ A 5 f ≤ A 2 j ∧ A 2 j < A 5 f + n
    · rw [if_pos c, if_neg (by decide), f_put_in (by decide) _ hj, gb_some, glet_eq, glet_eq, nI_1]
      refine ⟨_, rfl, RC_set hx (k := 0) (j := j) (v := st) (by decide) (by decide) ?_ (fun k i q => ?_)⟩
      · unfold wjA; rw [if_pos ⟨rfl, by omega, c⟩]
      · unfold wjA
        by_cases c2 : k = 0 ∧ i < j ∧ A 1 i = f ∧ A 5 f ≤ A 2 i ∧ A 2 i < A 5 f + n
        · rw [if_pos c2, if_pos ⟨c2.1, by omega, c2.2.2⟩]
        · rw [if_neg c2, if_neg]
          rintro ⟨e1, e2, e3⟩
          by_cases e4 : i = j
          · exact q ⟨e1, e4⟩
          · exact c2 ⟨e1, by omega, e3⟩
    · rw [if_neg c, if_pos rfl, glet_eq, nI_1]
      refine ⟨x, rfl, hx.congr (fun k i _ _ => ?_)⟩
      unfold wjA
      by_cases c2 : k = 0 ∧ i < j ∧ A 1 i = f ∧ A 5 f ≤ A 2 i ∧ A 2 i < A 5 f + n
      · rw [if_pos c2, if_pos ⟨c2.1, by omega, c2.2.2⟩]
      · rw [if_neg c2, if_neg]
        rintro ⟨e1, e2, e3⟩
        by_cases e4 : i = j
        · subst e4; exact c e3
        · exact c2 ⟨e1, by omega, e3⟩
  · show ∃ r, f_X0_write_L13 (nI f) (nI n) (nI st) (nI (A 5 f)) (fu + 1) (nI 64) x = some r ∧ RC r (wrA A f n st)
    have h1 : RC x (as (wkA A f n st) 5 f (A 5 f)) := hx.congr (fun k i hk hi => by
      by_cases c5 : k = 5 ∧ i = f
      · rw [c5.1, c5.2, as_eq, wjA_row (by decide)]
      · rw [as_ne _ _ c5]
        unfold wkA wjA
        by_cases c2 : k = 0 ∧ A 1 i = f ∧ A 5 f ≤ A 2 i ∧ A 2 i < A 5 f + n
        · have hi64 : i < 64 := by have := c2.1; subst this; exact hi
          rw [if_pos c2, if_pos ⟨c2.1, hi64, c2.2⟩]
        · rw [if_neg c2, if_neg c5, if_neg (fun q => c2 ⟨q.1, q.2.2⟩)])
    have h2 := RC_set (B' := wkA A f n st) h1 (k := 5) (j := f) (v := A 5 f + n) (by decide) (by decide) (by rw [wkA_sz, if_pos rfl]) (fun k i q => (as_ne _ _ q).symm)
    have h3 := RC_set (B' := wrA A f n st) h2 (k := 9) (j := 0) (v := A 9 0 + n) (by decide) (by decide) (as_eq _ _ _ _) (fun k i q => as_ne _ _ q)
    have e5 : x 5 f = nI (A 5 f) := by rw [h1.sz hf, as_eq]
    have e9 : (va_up x 5 (upd (x 5) f (nI (A 5 f + n)))) 9 0 = nI (A 9 0) := by rw [h2.tt (by decide), wkA_row (by decide) (by decide)]
    have eg : ∀ y : Nat → Nat → Int32, f_X3_grow 4 (y 9) 0 (nI n) = some (upd (y 9) 0 (y 9 0 + nI n)) := fun y => f_grow_in (by decide) (y 9) (i := 0) (by decide) _
    rw [f_X0_write_L13, if_pos (by decide), f_grow_in (by decide) _ hf, gb_some, glet_eq, eg, gb_some, glet_eq, e5, nI_add, e9, nI_add]
    exact ⟨_, rfl, h3⟩
theorem bk_wk (hI : IA A) {f n st i : Nat} (hf : f < 8) (hn : A 5 f + n ≤ A 4 f) (hst : st ≤ 99) (hi : i < A 4 f) : bk (wkA A f n st) f i = bk A f i := by
  have q := bk_spec hI.b hf hi
  exact bk_uniq (IA_wk hI hn hst).b hf q.1 (by rw [wkA_row (by decide) (by decide)]; exact q.2.1) (by rw [wkA_row (by decide) (by decide)]; exact q.2.2)
end WRITE
