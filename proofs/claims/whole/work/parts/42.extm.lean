/-! MATHEMATICS, 18: a file's extents, as the reference counts them. -/
section EXTM
variable {A : Nat → Nat → Nat} {s t g : Nat → Int32}
noncomputable def exJ (A : Nat → Nat → Nat) (f i : Nat) : Nat := if i = 0 then 1 else if bk A f i = bk A f (i - 1) + 1 then 0 else 1
theorem M_extents {b : Nat} (h : RM s b A) (hI : IB A) (hb : b ≤ 1722) {f : Nat} (hf : f < 8) : f_X6_extents s t g (nI b) (nI f) = some (nI (sm (exJ A f) (A 4 f))) := by
  have hl := (hI.2.2.2 f hf).2
  have a1 : nI (b + 192 + 6 * f) + 1 = nI (b + 192 + 6 * f + 1) := nI_add _ 1
  have z0 : ∀ n : Nat, nI n + 0 = nI n := fun n => nI_add n 0
  refine loopN (fun fu j => f_X6_extents_L9 s t g (nI b) (nI f) fu (nI (sm (exJ A f) j)) (if j = 0 then -5 else nI (bk A f (j - 1))) (nI j)) (A 4 f) _ (fun fu j hj => ?_) (fun fu => ?_) gFu 0 (by omega) (Nat.lt_of_le_of_lt hl (by decide))
  · show f_X6_extents_L9 s t g (nI b) (nI f) (fu + 1) _ _ (nI j) = f_X6_extents_L9 s t g (nI b) (nI f) fu (nI (sm (exJ A f) j + exJ A f j)) (nI (bk A f j)) (nI (j + 1))
    have hk := bk_spec hI hf hj
    rw [f_X6_extents_L9, M_at, gb_some, a1, m_rd (by omega), nI_clamp (by omega), h.ln hf, if_neg (nI_ge hj (by omega)), M_blockOf h hI hb hf hj, gb_some]
    by_cases e0 : j = 0
    · subst e0
      rw [if_pos (show nI 0 = 0 from rfl), M_flag1, gb_some, glet_eq, glet_eq, nI_1, nI_1]
      rfl
    · have hk2 := bk_spec hI hf (i := j - 1) (by omega)
      rw [if_neg (show ¬ nI j = 0 from fun q => e0 ((nI_eq (b := 0) (by omega) (by decide)).1 q)), if_neg e0, nI_1]
      unfold exJ
      rw [if_neg e0]
      by_cases c : bk A f j = bk A f (j - 1) + 1
      · rw [if_pos c, if_pos (by rw [c]), M_flag0, gb_some, glet_eq, glet_eq, nI_1, z0]; rfl
      · rw [if_neg c, if_neg (fun q => c ((nI_eq (by omega) (by omega)).1 q)), M_flag1, gb_some, glet_eq, glet_eq, nI_1, nI_1]
  · show f_X6_extents_L9 s t g (nI b) (nI f) (fu + 1) _ _ (nI (A 4 f)) = _
    rw [f_X6_extents_L9, M_at, gb_some, a1, m_rd (by omega), nI_clamp (by omega), h.ln hf, if_pos (nI_le (Nat.le_refl _) (by omega))]
end EXTM
