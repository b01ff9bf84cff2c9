/-! MATHEMATICS, 22: parts of a file; the sum of their stamps, on both sides. -/
section READ
variable {d : Nat → Nat → Int32} {A : Nat → Nat → Nat} {s t g : Nat → Int32}
theorem own_ne (h : RC d A) (hI : IB A) {k f : Nat} (hk : k < 64) (hf : f < 8) (e : A 1 k ≠ f) : ¬ d 1 k = nI f := by
  have z := (hI.1 k hk).1
  rw [h.own hk]
  by_cases c : A 1 k = 8
  · rw [if_pos c]; exact fun q => nI_m5 (k := f) (by omega) q.symm
  · rw [if_neg c]; exact fun q => e ((nI_eq (by omega) (by omega)).1 q)
theorem C_isPart (h : RC d A) (hI : IB A) {k f a b : Nat} (hk : k < 64) (hf : f < 8) (ha : a < 2 ^ 31) (hb : b < 2 ^ 31) : f_X0_isPart d (nI k) (nI f) (nI a) (nI b) = some (if A 1 k = f ∧ a ≤ A 2 k ∧ A 2 k < b then 1 else 0) := by
  unfold f_X0_isPart
  by_cases e : A 1 k = f
  · have w := ((hI.1 k hk).2.2 (by omega)).2
    have hl := (hI.2.2.2 _ (show A 1 k < 8 by omega)).2
    rw [f_holds_t (by decide) _ hk (by rw [h.own hk, if_neg (by omega), e]), gb_some, if_neg (by decide), f_at_in (by decide) _ hk, gb_some, h.ix hk, if_neg (show ¬ A 1 k = 8 by omega)]
    by_cases c1 : A 2 k < a
    · rw [if_pos (nI_lt c1 ha), if_neg (show ¬ (A 1 k = f ∧ a ≤ A 2 k ∧ A 2 k < b) by omega)]
    · rw [if_neg (nI_nlt (by omega) (by omega)), gb_some]
      by_cases c2 : A 2 k < b
      · rw [if_neg (nI_ge c2 hb), if_pos ⟨e, by omega, c2⟩]
      · rw [if_pos (nI_le (by omega) (by omega)), if_neg (show ¬ (A 1 k = f ∧ a ≤ A 2 k ∧ A 2 k < b) by omega)]
  · rw [f_holds_f (by decide) _ hk (own_ne h hI hk hf e), gb_some, if_pos rfl, if_neg (fun q => e q.1)]
theorem C_sumOfStamps (h : RC d A) (hI : IB A) {f a b : Nat} (hf : f < 8) (ha : a < 2 ^ 31) (hb : b < 2 ^ 31) : f_X0_sumOfStamps d (nI f) (nI a) (nI b) = some (nI (sm (fun k => if A 1 k = f ∧ a ≤ A 2 k ∧ A 2 k < b then A 0 k else 0) 64)) := by
  refine loopN (fun fu j => f_X0_sumOfStamps_L6 d (nI f) (nI a) (nI b) fu (nI (sm (fun k => if A 1 k = f ∧ a ≤ A 2 k ∧ A 2 k < b then A 0 k else 0) j)) (nI j)) 64 _ (fun fu j hj => ?_) (fun fu => ?_) gFu 0 (by omega) (by decide)
  · show f_X0_sumOfStamps_L6 d (nI f) (nI a) (nI b) (fu + 1) _ (nI j) = f_X0_sumOfStamps_L6 d (nI f) (nI a) (nI b) fu (nI (sm (fun k => if A 1 k = f ∧ a ≤ A 2 k ∧ A 2 k < b then A 0 k else 0) j + if A 1 j = f ∧ a ≤ A 2 j ∧ A 2 j < b then A 0 j else 0)) (nI (j + 1))
    rw [f_X0_sumOfStamps_L6, if_neg (by rw [l_lit64 (by omega)]; omega), C_isPart h hI hj hf ha hb, gb_some]
    by_cases c : A 1 j = f ∧ a ≤ A 2 j ∧ A 2 j < b
    · rw [if_pos c, if_neg (by decide), f_at_in (by decide) _ hj, gb_some, glet_eq, glet_eq, h.st hj, nI_add, nI_1, if_pos c]
    · rw [if_neg c, if_pos rfl, glet_eq, nI_1, if_neg c]; rfl
  · show f_X0_sumOfStamps_L6 d (nI f) (nI a) (nI b) (fu + 1) _ _ = _
    rw [f_X0_sumOfStamps_L6, if_pos (by decide)]
/-- the stamps of the indices from a on, below n -/
noncomputable def stpJ (A : Nat → Nat → Nat) (f a i : Nat) : Nat := if a ≤ i then A 0 (bk A f i) else 0
theorem sm_stpJ (hI : IB A) {f a b : Nat} (hf : f < 8) (hb : b ≤ A 4 f) : sm (fun k => if A 1 k = f ∧ a ≤ A 2 k ∧ A 2 k < b then A 0 k else 0) 64 = sm (stpJ A f a) b := by
  have h1 := sm_file hI hf (fun k => if a ≤ A 2 k ∧ A 2 k < b then A 0 k else 0)
  have h2 : sm (fun k => if A 1 k = f ∧ a ≤ A 2 k ∧ A 2 k < b then A 0 k else 0) 64 = sm (fun k => if A 1 k = f then (if a ≤ A 2 k ∧ A 2 k < b then A 0 k else 0) else 0) 64 := by
    refine sm_congr (fun k _ => ?_)
    by_cases e : A 1 k = f
    · rw [if_pos e]
      by_cases e2 : a ≤ A 2 k ∧ A 2 k < b
      · rw [if_pos e2, if_pos ⟨e, e2⟩]
      · rw [if_neg e2, if_neg (fun q => e2 q.2)]
    · rw [if_neg e, if_neg (fun q => e q.1)]
  rw [h2, ← h1]
  have h3 : ∀ n, n ≤ A 4 f → sm (fun i => (fun k => if a ≤ A 2 k ∧ A 2 k < b then A 0 k else 0) (bk A f i)) n = sm (stpJ A f a) (if n ≤ b then n else b) := by
    intro n
    induction n with
    | zero => intro _; rw [if_pos (Nat.zero_le _)]; rfl
    | succ n ih =>
      intro hn
      have hk := bk_spec hI hf (i := n) (by omega)
      rw [sm_succ, ih (by omega)]
      show _ + (if a ≤ A 2 (bk A f n) ∧ A 2 (bk A f n) < b then A 0 (bk A f n) else 0) = _
      rw [hk.2.2]
      by_cases c : n + 1 ≤ b
      · rw [if_pos c, if_pos (show n ≤ b by omega), sm_succ]
        unfold stpJ
        by_cases c2 : a ≤ n
        · rw [if_pos c2, if_pos ⟨c2, by omega⟩]
        · rw [if_neg c2, if_neg (fun q => c2 q.1)]
      · rw [if_neg c, if_neg (show ¬ (a ≤ n ∧ n < b) by omega)]
        by_cases c3 : n ≤ b
        · rw [if_pos c3, show n = b by omega]; rfl
        · rw [if_neg c3]; rfl
  rw [h3 (A 4 f) (Nat.le_refl _)]
  by_cases c : A 4 f ≤ b
  · rw [if_pos c, show A 4 f = b by omega]
  · rw [if_neg c]
end READ
