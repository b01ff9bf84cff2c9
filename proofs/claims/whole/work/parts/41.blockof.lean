/-! MATHEMATICS, 17: the block of an index, in the reference; what begins an extent. -/
section BLOCKOF
variable {d : Nat → Nat → Int32} {A : Nat → Nat → Nat} {s t g : Nat → Int32}
theorem M_blockOf {b : Nat} (h : RM s b A) (hI : IB A) (hb : b ≤ 1722) {f i : Nat} (hf : f < 8) (hi : i < A 4 f) : f_X6_blockOf s t g (nI b) (nI f) (nI i) = some (nI (bk A f i)) := by
  have hk := bk_spec hI hf hi
  have hl := (hI.2.2.2 f hf).2
  refine loopN (fun fu j => f_X6_blockOf_L7 s t g (nI b) (nI f) (nI i) fu (if bk A f i < j then nI (bk A f i) else -5) (nI j)) 64 _ (fun fu j hj => ?_) (fun fu => ?_) gFu 0 (by omega) (by decide)
  · show f_X6_blockOf_L7 s t g (nI b) (nI f) (nI i) (fu + 1) _ (nI j) = f_X6_blockOf_L7 s t g (nI b) (nI f) (nI i) fu (if bk A f i < j + 1 then nI (bk A f i) else -5) (nI (j + 1))
    have a1 : nI b + 64 + nI j = nI (b + 64 + j) := by
      have e : nI b + 64 = nI (b + 64) := nI_add b 64
      rw [e, nI_add]
    have a2 : nI b + 128 + nI j = nI (b + 128 + j) := by
      have e : nI b + 128 = nI (b + 128) := nI_add b 128
      rw [e, nI_add]
    have z := hI.1 j hj
    rw [f_X6_blockOf_L7, if_neg (by rw [l_lit64 (by omega)]; omega), a1, a2, m_rd (by omega), m_rd (by omega), nI_clamp (by omega), nI_clamp (by omega), h.own hj]
    simp only [glet_eq, nI_1]
    have no : bk A f i ≠ j → (if bk A f i < j + 1 then nI (bk A f i) else -5) = (if bk A f i < j then nI (bk A f i) else -5) := fun e => by
      by_cases c : bk A f i < j
      · rw [if_pos c, if_pos (by omega)]
      · rw [if_neg c, if_neg (by omega)]
    by_cases e : A 1 j = f
    · have e8 : A 1 j ≠ 8 := by omega
      rw [if_neg e8, if_pos (by rw [e]), h.ix hj e8]
      by_cases e2 : A 2 j = i
      · have ej : bk A f i = j := hI.2.2.1 j (bk A f i) hj hk.1 (by omega) (by omega) (by omega)
        rw [if_pos (by rw [e2]), if_pos (by omega), ej]
      · have w := (z.2.2 (by omega)).2
        rw [if_neg (fun q => e2 ((nI_eq (by rw [e] at w; omega) (by omega)).1 q)), no (fun q => e2 (by rw [← q]; exact hk.2.2))]
    · have ne : ¬ (if A 1 j = 8 then (-5 : Int32) else nI (A 1 j)) = nI f := by
        by_cases e8 : A 1 j = 8
        · rw [if_pos e8]; exact fun q => nI_m5 (k := f) (by omega) q.symm
        · rw [if_neg e8]; exact fun q => e ((nI_eq (by omega) (by omega)).1 q)
      rw [if_neg ne, no (fun q => e (by rw [← q]; exact hk.2.1))]
  · show f_X6_blockOf_L7 s t g (nI b) (nI f) (nI i) (fu + 1) _ (nI 64) = _
    rw [f_X6_blockOf_L7, if_pos (by decide), if_pos hk.1]
end BLOCKOF
