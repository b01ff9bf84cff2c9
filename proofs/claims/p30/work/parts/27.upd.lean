/-! MATHEMATICS, 3: updates of one row, on both sides; blocks that become free. -/
theorem upd_eq (f : Nat → Int32) (k : Nat) (v : Int32) : upd f k v k = v := by simp [upd]
theorem upd_ne (f : Nat → Int32) {k i : Nat} (v : Int32) (h : i ≠ k) : upd f k v i = f i := by simp [upd, h]
theorem up_eq {α : Type} (f : Nat → α) (k : Nat) (v : α) : va_up f k v k = v := by simp [va_up]
theorem up_ne {α : Type} (f : Nat → α) {k i : Nat} (v : α) (h : i ≠ k) : va_up f k v i = f i := by simp [va_up, h]
/-- A with one number set -/
def as (A : Nat → Nat → Nat) (k i v : Nat) : Nat → Nat → Nat := fun k' i' => if k' = k ∧ i' = i then v else A k' i'
theorem as_eq (A : Nat → Nat → Nat) (k i v : Nat) : as A k i v k i = v := by simp [as]
theorem as_ne (A : Nat → Nat → Nat) {k i k' i' : Nat} (v : Nat) (h : ¬ (k' = k ∧ i' = i)) : as A k i v k' i' = A k' i' := by simp only [as]; rw [if_neg h]
theorem cv_ne (A : Nat → Nat → Nat) {k i : Nat} (h1 : k ≠ 1) (h2 : k ≠ 2) : cv A k i = nI (A k i) := by unfold cv; rw [if_neg h1, if_neg h2]
section UPD
variable {x : Nat → Nat → Int32} {B B' : Nat → Nat → Nat}
theorem RC.congr (h : RC x B) (h' : ∀ k i, k < 10 → i < rl k → B' k i = B k i) : RC x B' := by
  intro k i hk hi
  rw [h k i hk hi]
  unfold cv
  rw [h' k i hk hi]
  by_cases h1 : k = 1
  · subst h1; rw [if_pos rfl, if_pos rfl, h' 1 i hk hi]
  · rw [if_neg h1, if_neg h1]
    by_cases h2 : k = 2
    · subst h2; rw [if_pos rfl, if_pos rfl, h' 1 i (by omega) hi, h' 2 i hk hi]
    · rw [if_neg h2, if_neg h2]
/-- one number of a row that is neither the owners' nor the places' -/
theorem RC_set (h : RC x B) {k j v : Nat} (h1 : k ≠ 1) (h2 : k ≠ 2) (hB : B' k j = v) (hN : ∀ k' i, ¬ (k' = k ∧ i = j) → B' k' i = B k' i) : RC (va_up x k (upd (x k) j (nI v))) B' := by
  intro k' i hk' hi
  by_cases e : k' = k
  · subst e
    rw [up_eq, cv_ne _ h1 h2]
    by_cases ej : i = j
    · subst ej; rw [upd_eq, hB]
    · rw [upd_ne _ _ ej, h k' i hk' hi, cv_ne _ h1 h2, hN k' i (fun q => ej q.2)]
  · rw [up_ne _ _ e, h k' i hk' hi]
    unfold cv
    rw [hN k' i (fun q => e q.1), hN 1 i (fun q => h1 q.1.symm), hN 2 i (fun q => h2 q.1.symm)]
/-- a block becomes free -/
theorem RC_free (h : RC x B) {j : Nat} (hB : B' 1 j = 8) (hN : ∀ k' i, ¬ (k' = 1 ∧ i = j) → B' k' i = B k' i) : RC (va_up (va_up x 1 (upd (x 1) j (-5))) 2 (upd (x 2) j (-5))) B' := by
  intro k' i hk' hi
  by_cases e2 : k' = 2
  · subst e2
    rw [up_eq]
    unfold cv
    rw [if_neg (by decide), if_pos rfl]
    by_cases ej : i = j
    · subst ej; rw [upd_eq, hB, if_pos rfl]
    · rw [upd_ne _ _ ej, h 2 i hk' hi, hN 1 i (fun q => ej q.2), hN 2 i (fun q => ej q.2)]; rfl
  · rw [up_ne _ _ e2]
    by_cases e1 : k' = 1
    · subst e1
      rw [up_eq]
      unfold cv
      rw [if_pos rfl]
      by_cases ej : i = j
      · subst ej; rw [upd_eq, hB, if_pos rfl]
      · rw [upd_ne _ _ ej, h 1 i hk' hi, hN 1 i (fun q => ej q.2)]; rfl
    · rw [up_ne _ _ e1, h k' i hk' hi, cv_ne _ e1 e2, cv_ne _ e1 e2, hN k' i (fun q => e1 q.1)]
/-- a free block comes to a file -/
theorem RC_add (h : RC x B) {j f p : Nat} (hf : f < 8) (hB1 : B' 1 j = f) (hB2 : B' 2 j = p) (hN : ∀ k' i, ¬ ((k' = 1 ∨ k' = 2) ∧ i = j) → B' k' i = B k' i) : RC (va_up (va_up x 1 (upd (x 1) j (nI f))) 2 (upd (x 2) j (nI p))) B' := by
  intro k' i hk' hi
  by_cases e2 : k' = 2
  · subst e2
    rw [up_eq]
    unfold cv
    rw [if_neg (by decide), if_pos rfl]
    by_cases ej : i = j
    · subst ej; rw [upd_eq, hB1, hB2, if_neg (by omega)]
    · rw [upd_ne _ _ ej, h 2 i hk' hi, hN 1 i (fun q => ej q.2), hN 2 i (fun q => ej q.2)]; rfl
  · rw [up_ne _ _ e2]
    by_cases e1 : k' = 1
    · subst e1
      rw [up_eq]
      unfold cv
      rw [if_pos rfl]
      by_cases ej : i = j
      · subst ej; rw [upd_eq, hB1, if_neg (by omega)]
      · rw [upd_ne _ _ ej, h 1 i hk' hi, hN 1 i (fun q => ej q.2)]; rfl
    · rw [up_ne _ _ e1, h k' i hk' hi, cv_ne _ e1 e2, cv_ne _ e1 e2, hN k' i (fun q => q.1.elim e1 e2)]
end UPD
/-- the blocks of f from place n on are free, its length is n -/
def fr (A : Nat → Nat → Nat) (f n : Nat) : Nat → Nat → Nat := fun k i => if k = 1 ∧ A 1 i = f ∧ n ≤ A 2 i then 8 else if k = 4 ∧ i = f then n else A k i
/-- the same, for the blocks below j alone; the length as it was -/
def frj (A : Nat → Nat → Nat) (f n j : Nat) : Nat → Nat → Nat := fun k i => if k = 1 ∧ i < j ∧ A 1 i = f ∧ n ≤ A 2 i then 8 else A k i
theorem frj_ne1 (A : Nat → Nat → Nat) (f n j : Nat) {k i : Nat} (h : k ≠ 1) : frj A f n j k i = A k i := by unfold frj; rw [if_neg (fun q => h q.1)]
theorem frj_at (A : Nat → Nat → Nat) (f n j : Nat) : frj A f n j 1 j = A 1 j := by unfold frj; rw [if_neg (fun q => absurd q.2.1 (Nat.lt_irrefl j))]
theorem frj_keep (A : Nat → Nat → Nat) {f n j : Nat} (h : ¬ (A 1 j = f ∧ n ≤ A 2 j)) (k i : Nat) : frj A f n (j + 1) k i = frj A f n j k i := by
  unfold frj
  by_cases e : k = 1 ∧ i < j ∧ A 1 i = f ∧ n ≤ A 2 i
  · rw [if_pos e, if_pos ⟨e.1, by omega, e.2.2⟩]
  · rw [if_neg e, if_neg]
    rintro ⟨e1, e2, e3⟩
    by_cases hij : i = j
    · subst hij; exact h e3
    · exact e ⟨e1, by omega, e3⟩
theorem frj_next (A : Nat → Nat → Nat) {f n j : Nat} (h : A 1 j = f ∧ n ≤ A 2 j) : frj A f n (j + 1) 1 j = 8 ∧ ∀ k i, ¬ (k = 1 ∧ i = j) → frj A f n (j + 1) k i = frj A f n j k i := by
  refine ⟨by unfold frj; rw [if_pos ⟨rfl, by omega, h⟩], fun k i hN => ?_⟩
  unfold frj
  by_cases e : k = 1 ∧ i < j ∧ A 1 i = f ∧ n ≤ A 2 i
  · rw [if_pos e, if_pos ⟨e.1, by omega, e.2.2⟩]
  · rw [if_neg e, if_neg]
    rintro ⟨e1, e2, e3⟩
    exact e ⟨e1, by by_cases hij : i = j; · exact absurd ⟨e1, hij⟩ hN
                    · omega, e3⟩
/-- what the blocks of a disk are like, without the sizes -/
def IB (A : Nat → Nat → Nat) : Prop :=
  (∀ k, k < 64 → A 1 k ≤ 8 ∧ A 0 k ≤ 99 ∧ (A 1 k < 8 → A 3 (A 1 k) ≠ 0 ∧ A 2 k < A 4 (A 1 k))) ∧
  (∀ f i, f < 8 → i < A 4 f → ∃ k, k < 64 ∧ A 1 k = f ∧ A 2 k = i) ∧
  (∀ k j, k < 64 → j < 64 → A 1 k < 8 → A 1 j = A 1 k → A 2 j = A 2 k → j = k) ∧
  (∀ f, f < 8 → A 3 f ≤ 2 ∧ A 4 f ≤ 64)
theorem IA.b {A : Nat → Nat → Nat} (h : IA A) : IB A := ⟨h.1, h.2.1, h.2.2.1, fun f hf => ⟨(h.2.2.2.1 f hf).1, (h.2.2.2.1 f hf).2.2.1⟩⟩
section FREE
variable {d : Nat → Nat → Int32} {A : Nat → Nat → Nat}
theorem C_freeFrom (h : RC d A) (hI : IB A) {f n : Nat} (hf : f < 8) (hn : n ≤ 64) : ∃ d', f_X0_freeFrom d (nI f) (nI n) = some d' ∧ RC d' (fr A f n) := by
  unfold f_X0_freeFrom
  refine loopR (fun fu j x => f_X0_freeFrom_L2 (nI f) (nI n) fu (nI j) x) 64 (fun j x => RC x (frj A f n j)) (fun d' => RC d' (fr A f n)) (fun fu j x hj hx => Or.inl ?_) (fun fu x hx => ?_) gFu 0 d (by omega) (by decide) (h.congr (fun k i _ _ => by unfold frj; rw [if_neg (fun q => by omega)]))
  · have h1 := hI.1 j hj
    have ho : x 1 j = if A 1 j = 8 then -5 else nI (A 1 j) := by rw [hx.own hj, frj_at]
    have hp : x 2 j = if A 1 j = 8 then -5 else nI (A 2 j) := by rw [hx.ix hj, frj_at, frj_ne1 _ _ _ _ (by decide)]
    show ∃ x', f_X0_freeFrom_L2 (nI f) (nI n) (fu + 1) (nI j) x = f_X0_freeFrom_L2 (nI f) (nI n) fu (nI (j + 1)) x' ∧ RC x' (frj A f n (j + 1))
    rw [f_X0_freeFrom_L2, if_neg (by rw [l_lit64 (by omega)]; omega)]
    by_cases e : A 1 j = f
    · have h8 : A 1 j ≠ 8 := by omega
      have hpl := (h1.2.2 (by omega)).2
      have hl4 := (hI.2.2.2 _ (show A 1 j < 8 by omega)).2
      rw [f_holds_t (by decide) _ hj (by rw [ho, if_neg h8, e]), gb_some, if_neg (by decide), f_at_in (by decide) _ hj, gb_some, hp, if_neg h8]
      by_cases e2 : A 2 j < n
      · rw [if_pos (by rw [nI_ltI (by omega) (by omega)]; exact e2), glet_eq, nI_1]
        exact ⟨x, rfl, hx.congr (fun k i _ _ => frj_keep A (by omega) k i)⟩
      · rw [if_neg (by rw [nI_ltI (by omega) (by omega)]; exact e2), f_put_in (by decide) _ hj, gb_some, glet_eq, up_ne _ _ (by decide), f_put_in (by decide) _ hj, gb_some, glet_eq, glet_eq, nI_1]
        have h3 := frj_next A (f := f) (n := n) (j := j) ⟨e, by omega⟩
        exact ⟨_, rfl, RC_free hx h3.1 h3.2⟩
    · have : ¬ (if A 1 j = 8 then (-5 : Int32) else nI (A 1 j)) = nI f := by
        by_cases h8 : A 1 j = 8
        · rw [if_pos h8]; exact fun q => nI_m5 (k := f) (by omega) q.symm
        · rw [if_neg h8, nI_eq (by omega) (by omega)]; exact e
      rw [f_holds_f (by decide) _ hj (by rw [ho]; exact this), gb_some, if_pos rfl, glet_eq, nI_1]
      exact ⟨x, rfl, hx.congr (fun k i _ _ => frj_keep A (fun q => e q.1) k i)⟩
  · show ∃ r, f_X0_freeFrom_L2 (nI f) (nI n) (fu + 1) (nI 64) x = some r ∧ _
    rw [f_X0_freeFrom_L2, if_pos (by decide), f_put_in (by decide) _ hf, gb_some, glet_eq]
    have h2 := RC_set (B' := as (frj A f n 64) 4 f n) hx (k := 4) (j := f) (v := n) (by decide) (by decide) (as_eq _ _ _ _) (fun k' i q => as_ne _ _ q)
    refine ⟨_, rfl, h2.congr (fun k i hk hi => ?_)⟩
    unfold fr as frj
    by_cases e1 : k = 1 ∧ A 1 i = f ∧ n ≤ A 2 i
    · have hi64 : i < 64 := by have := e1.1; subst this; exact hi
      rw [if_pos e1, if_neg (fun q => by omega), if_pos ⟨e1.1, hi64, e1.2⟩]
    · rw [if_neg e1]
      by_cases e2 : k = 4 ∧ i = f
      · rw [if_pos e2, if_pos e2]
      · rw [if_neg e2, if_neg e2, if_neg (fun q => e1 ⟨q.1, q.2.2⟩)]
end FREE
