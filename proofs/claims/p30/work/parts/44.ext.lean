/-! MATHEMATICS, 20: extents, the class's side; the block of an index, in the class. -/
section EXT
variable {d : Nat → Nat → Int32} {A : Nat → Nat → Nat}
theorem bk_uniq (hI : IB A) {f i k : Nat} (hf : f < 8) (hk : k < 64) (ho : A 1 k = f) (hx : A 2 k = i) : bk A f i = k := by
  rw [← hx]; exact (bk_of hI hf hk ho).2
theorem be_exJ (hI : IB A) {f i : Nat} (hf : f < 8) (hi : i < A 4 f) : be A (bk A f i) = exJ A f i := by
  have hk := bk_spec hI hf hi
  unfold be exJ
  by_cases h0 : i = 0
  · subst h0
    rw [if_pos rfl, if_neg (fun q => by omega)]
  · have hk2 := bk_spec hI hf (i := i - 1) (by omega)
    rw [if_neg h0]
    by_cases c : bk A f i = bk A f (i - 1) + 1
    · have e : bk A f i - 1 = bk A f (i - 1) := by omega
      rw [if_pos c, e, if_pos ⟨by omega, by omega, by omega⟩]
    · rw [if_neg c, if_neg]
      rintro ⟨q1, q2, q3⟩
      have e := bk_uniq hI hf (show bk A f i - 1 < 64 by omega) (by omega) (show A 2 (bk A f i - 1) = i - 1 by omega)
      omega
theorem be_01 (A : Nat → Nat → Nat) (k : Nat) : be A k = 0 ∨ be A k = 1 := by
  unfold be
  by_cases c : 0 < k ∧ A 1 (k - 1) = A 1 k ∧ A 2 (k - 1) + 1 = A 2 k
  · rw [if_pos c]; exact Or.inl rfl
  · rw [if_neg c]; exact Or.inr rfl
theorem C_extentsOf (h : RC d A) (hI : IB A) {f : Nat} (hf : f < 8) : f_X0_extentsOf d (nI f) = some (nI (sm (exJ A f) (A 4 f))) := by
  have e : sm (exJ A f) (A 4 f) = sm (fun k => if A 1 k = f then be A k else 0) 64 := by
    rw [← sm_file hI hf (be A)]
    exact sm_congr (fun i hi => (be_exJ hI hf hi).symm)
  rw [e]
  refine loopN (fun fu j => f_X0_extentsOf_L4 d (nI f) fu (nI (sm (fun k => if A 1 k = f then be A k else 0) j)) (nI j)) 64 _ (fun fu j hj => ?_) (fun fu => ?_) gFu 0 (by omega) (by decide)
  · show f_X0_extentsOf_L4 d (nI f) (fu + 1) _ (nI j) = f_X0_extentsOf_L4 d (nI f) fu (nI (sm (fun k => if A 1 k = f then be A k else 0) j + if A 1 j = f then be A j else 0)) (nI (j + 1))
    rw [f_X0_extentsOf_L4, if_neg (by rw [l_lit64 (by omega)]; omega)]
    by_cases e1 : A 1 j = f
    · rw [f_holds_t (by decide) _ hj (by rw [h.own hj, if_neg (by omega), e1]), gb_some, if_neg (by decide), C_beginsExtent h hI hj (by omega), gb_some, if_pos e1]
      rcases be_01 A j with e2 | e2
      · rw [e2, if_pos (show nI 0 = 0 from rfl), glet_eq, nI_1]; rfl
      · rw [e2, if_neg (show ¬ nI 1 = 0 from by decide), glet_eq, glet_eq, nI_1, nI_1]
    · have ne : ¬ d 1 j = nI f := by
        rw [h.own hj]
        by_cases c : A 1 j = 8
        · rw [if_pos c]; exact fun q => nI_m5 (k := f) (by omega) q.symm
        · have := (hI.1 j hj).1
          rw [if_neg c]; exact fun q => e1 ((nI_eq (by omega) (by omega)).1 q)
      rw [f_holds_f (by decide) _ hj ne, gb_some, if_pos rfl, glet_eq, nI_1, if_neg e1]; rfl
  · show f_X0_extentsOf_L4 d (nI f) (fu + 1) _ _ = _
    rw [f_X0_extentsOf_L4, if_pos (by decide)]
theorem C_blockAt (h : RC d A) (hI : IB A) {f i : Nat} (hf : f < 8) (hi : i < A 4 f) : f_X0_blockAt d (nI f) (nI i) = some (nI (bk A f i)) := by
  have hk := bk_spec hI hf hi
  have hl := (hI.2.2.2 f hf).2
  refine loopN (fun fu j => f_X0_blockAt_L2 d (nI f) (nI i) fu (nI j)) (bk A f i) _ (fun fu j hj => ?_) (fun fu => ?_) gFu 0 (by omega) (Nat.lt_of_lt_of_le hk.1 (by decide))
  · show f_X0_blockAt_L2 d (nI f) (nI i) (fu + 1) (nI j) = f_X0_blockAt_L2 d (nI f) (nI i) fu (nI (j + 1))
    have hj64 : j < 64 := by omega
    have z := hI.1 j hj64
    rw [f_X0_blockAt_L2, if_neg (by rw [l_lit64 (by omega)]; omega)]
    by_cases e1 : A 1 j = f
    · have w := (z.2.2 (by omega)).2
      rw [e1] at w
      have ne : ¬ d 2 j = nI i := by
        rw [h.ix hj64, if_neg (by omega)]
        intro q
        have q2 := (nI_eq (by omega) (by omega)).1 q
        have := bk_uniq hI hf hj64 e1 q2
        omega
      rw [f_holds_t (by decide) _ hj64 (by rw [h.own hj64, if_neg (by omega), e1]), gb_some, if_neg (by decide), f_holds_f (by decide) _ hj64 ne, gb_some, if_pos rfl, glet_eq, nI_1]
    · have ne : ¬ d 1 j = nI f := by
        rw [h.own hj64]
        by_cases c : A 1 j = 8
        · rw [if_pos c]; exact fun q => nI_m5 (k := f) (by omega) q.symm
        · rw [if_neg c]; exact fun q => e1 ((nI_eq (by omega) (by omega)).1 q)
      rw [f_holds_f (by decide) _ hj64 ne, gb_some, if_pos rfl, glet_eq, nI_1]
  · show f_X0_blockAt_L2 d (nI f) (nI i) (fu + 1) (nI (bk A f i)) = _
    rw [f_X0_blockAt_L2, if_neg (by rw [l_lit64 (by omega)]; omega), f_holds_t (by decide) _ hk.1 (by rw [h.own hk.1, if_neg (by omega), hk.2.1]), gb_some, if_neg (by decide), f_holds_t (by decide) _ hk.1 (by rw [h.ix hk.1, if_neg (by omega), hk.2.2]), gb_some, if_neg (by decide)]
end EXT
