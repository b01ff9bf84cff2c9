/-! MATHEMATICS, 39: count, total, room, wholeness. -/
section QUERY2
variable {A : Nat → Nat → Nat} {s t g : Nat → Int32} {d : Nat → Nat → Int32}
theorem C_allExtents (h : RC d A) (hI : IB A) : f_X0_allExtents d = some (nI (sm (fun f => sm (exJ A f) (A 4 f)) 8)) := by
  refine loopN (fun fu j => f_X0_allExtents_L4 d fu (nI (sm (fun f => sm (exJ A f) (A 4 f)) j)) (nI j)) 8 _ (fun fu j hj => ?_) (fun fu => ?_) gFu 0 (by omega) (by decide)
  · show f_X0_allExtents_L4 d (fu + 1) _ (nI j) = f_X0_allExtents_L4 d fu (nI (sm (fun f => sm (exJ A f) (A 4 f)) j + sm (exJ A j) (A 4 j))) (nI (j + 1))
    rw [f_X0_allExtents_L4, if_neg (by rw [l_lit8 (by omega)]; omega), C_extentsOf h hI hj, gb_some, glet_eq, glet_eq, nI_1, nI_add]
  · show f_X0_allExtents_L4 d (fu + 1) _ _ = _
    rw [f_X0_allExtents_L4, if_pos (by decide)]
/-- files with blocks -/
def wbI (A : Nat → Nat → Nat) (f : Nat) : Nat := if 0 < A 4 f then 1 else 0
theorem C_filesWithBlocks (h : RC d A) (hI : IB A) : f_X0_filesWithBlocks d = some (nI (sm (wbI A) 8)) := by
  refine loopN (fun fu j => f_X0_filesWithBlocks_L4 d fu (nI (sm (wbI A) j)) (nI j)) 8 _ (fun fu j hj => ?_) (fun fu => ?_) gFu 0 (by omega) (by decide)
  · show f_X0_filesWithBlocks_L4 d (fu + 1) _ (nI j) = f_X0_filesWithBlocks_L4 d fu (nI (sm (wbI A) j + wbI A j)) (nI (j + 1))
    have hl := (hI.2.2.2 j hj).2
    rw [f_X0_filesWithBlocks_L4, if_neg (by rw [l_lit8 (by omega)]; omega), f_at_in (by decide) _ hj, gb_some, h.ln hj]
    unfold wbI
    by_cases c : 0 < A 4 j
    · rw [if_neg (nI_nle c (by omega)), glet_eq, glet_eq, nI_1, nI_1, if_pos c]
    · rw [show A 4 j = 0 by omega, if_pos (show nI 0 ≤ 0 by decide), glet_eq, nI_1, if_neg (Nat.lt_irrefl 0)]; rfl
  · show f_X0_filesWithBlocks_L4 d (fu + 1) _ _ = _
    rw [f_X0_filesWithBlocks_L4, if_pos (by decide)]
theorem ext_pos (A : Nat → Nat → Nat) (f : Nat) : 0 < sm (exJ A f) (A 4 f) ↔ 0 < A 4 f := by
  constructor
  · intro h
    rcases Nat.eq_zero_or_pos (A 4 f) with e | e
    · rw [e] at h; exact absurd h (Nat.lt_irrefl 0)
    · exact e
  · intro h
    have h1 := sm_mem (w := exJ A f) h
    have e : exJ A f 0 = 1 := by unfold exJ; rw [if_pos rfl]
    omega
theorem whole_pos (A : Nat → Nat → Nat) : 0 < sm (fun f => sm (exJ A f) (A 4 f)) 8 ↔ 0 < sm (wbI A) 8 := by
  constructor
  · intro h
    obtain ⟨f, hf, h1⟩ := sm_pos h
    have h2 := (ext_pos A f).1 h1
    have h3 := sm_mem (w := wbI A) hf
    have e : wbI A f = 1 := by unfold wbI; rw [if_pos h2]
    omega
  · intro h
    obtain ⟨f, hf, h1⟩ := sm_pos h
    have h2 : 0 < A 4 f := by
      by_cases c : 0 < A 4 f
      · exact c
      · have e : wbI A f = 0 := by unfold wbI; rw [if_neg c]
        omega
    have h3 := sm_mem (w := fun f => sm (exJ A f) (A 4 f)) hf
    have h4 := (ext_pos A f).2 h2
    exact Nat.lt_of_lt_of_le h4 h3
theorem ext_le (hI : IB A) : sm (fun f => sm (exJ A f) (A 4 f)) 8 ≤ 8 * 64 := by
  rw [← sm_const]
  refine sm_le (fun f hf => ?_)
  have h1 := sm_exJ_le A f (A 4 f)
  have h2 := (hI.2.2.2 f hf).2
  omega
theorem wb_le (A : Nat → Nat → Nat) : sm (wbI A) 8 ≤ 8 * 1 := by
  rw [← sm_const]
  refine sm_le (fun f hf => ?_)
  unfold wbI
  by_cases c : 0 < A 4 f
  · rw [if_pos c]; exact Nat.le_refl _
  · rw [if_neg c]; exact Nat.zero_le _
theorem C_lentTo (h : RC d A) (hI : IA A) (m : Nat) (hm : m < 3) : f_X0_lentToFilesThatAre d (nI m) = some (nI (sm (fun f => if A 3 f = m then A 4 f - A 5 f else 0) 8)) := by
  refine loopN (fun fu j => f_X0_lentToFilesThatAre_L4 d (nI m) fu (nI (sm (fun f => if A 3 f = m then A 4 f - A 5 f else 0) j)) (nI j)) 8 _ (fun fu j hj => ?_) (fun fu => ?_) gFu 0 (by omega) (by decide)
  · show f_X0_lentToFilesThatAre_L4 d (nI m) (fu + 1) _ (nI j) = f_X0_lentToFilesThatAre_L4 d (nI m) fu (nI (sm (fun f => if A 3 f = m then A 4 f - A 5 f else 0) j + if A 3 j = m then A 4 j - A 5 j else 0)) (nI (j + 1))
    have h3 := (hI.2.2.2.1 j hj).1
    rw [f_X0_lentToFilesThatAre_L4, if_neg (by rw [l_lit8 (by omega)]; omega)]
    by_cases e : A 3 j = m
    · rw [f_holds_t (by decide) _ hj (by rw [h.md hj, e]), gb_some, if_neg n10, C_lentOf h hI hj, gb_some, glet_eq, glet_eq, nI_1, nI_add, if_pos e]
    · rw [f_holds_f (by decide) _ hj (by rw [h.md hj, nI_eq (by omega) (by omega)]; exact e), gb_some, if_pos rfl, glet_eq, nI_1, if_neg e]; rfl
  · show f_X0_lentToFilesThatAre_L4 d (nI m) (fu + 1) _ _ = _
    rw [f_X0_lentToFilesThatAre_L4, if_pos (by decide)]
theorem two_modes (hI : IA A) : ct (fun f => A 3 f = 2) 8 + ct (fun f => A 3 f = 1) 8 = ct (fun f => A 3 f ≠ 0) 8 := by
  unfold ct
  rw [← sm_add]
  refine sm_congr (fun f hf => ?_)
  have h3 := (hI.2.2.2.1 f hf).1
  by_cases c : A 3 f = 2
  · rw [if_pos c, if_neg (show ¬ A 3 f = 1 by omega), if_pos (show A 3 f ≠ 0 by omega)]
  · by_cases c1 : A 3 f = 1
    · rw [if_neg c, if_pos c1, if_pos (show A 3 f ≠ 0 by omega)]
    · rw [if_neg c, if_neg c1, if_neg (show ¬ A 3 f ≠ 0 by omega)]
theorem two_lents (hI : IA A) : sm (fun f => if A 3 f = 2 then A 4 f - A 5 f else 0) 8 + sm (fun f => if A 3 f = 1 then A 4 f - A 5 f else 0) 8 = sm (fun f => A 4 f - A 5 f) 8 := by
  rw [← sm_add]
  refine sm_congr (fun f hf => ?_)
  have h3 := hI.2.2.2.1 f hf
  by_cases c : A 3 f = 2
  · rw [if_pos c, if_neg (show ¬ A 3 f = 1 by omega)]; rfl
  · by_cases c1 : A 3 f = 1
    · rw [if_neg c, if_pos c1]; omega
    · rw [if_neg c, if_neg c1]
      have := h3.2.2.2.2.2.2 (by omega)
      omega
end QUERY2
