/-! MATHEMATICS, 39: count, total, room, wholeness. -/
section QUERY2
variable {A : Nat → Nat → Nat} {s t g : Nat → Int32} {d : Nat → Nat → Int32}
theorem C_allExtents (h : RC d A) (hI : IB A) : f_X0_allExtents d = some (nI (sm (fun f => sm (exJ A f) (A 4 f)) 8)) := by
  refine loopN (fun fu j => f_X0_allExtents_L4 d fu (nI (sm (fun f => sm (exJ A f) (A 4 f)) j)) (nI j)) 8 _ (fun fu j hj => ?_) (fun fu => ?_) gFu 0 (by omega) (by decide)
  · show f_X0_allExtents_L4 d (fu + 1) _ (nI j) = f_X0_allExtents_L4 d fu (nI (sm (fun f => sm (exJ A f) (A 4 f)) j + sm (exJ A j) (A 4 j))) (nI (j + 1))
    rw [f_X0_allExtents_L4, if_neg (by rw [l_lit8 (by omega)]; omega), C_extentsOf h hI hj, gb_some, glet_eq, glet_eq, nI_1, nI_add]
  · show f_X0_allExtents_L4 d (fu + 1) _ _ = _
    rw [f_X0_allExtents_L4, if_pos (by decide)]
theorem M_allExtents (h : RM s 0 A) (hI : IA A) : f_X6_allExtents s t g = some (nI (sm (fun f => sm (exJ A f) (A 4 f)) 8)) := by
  refine loopN (fun fu j => f_X6_allExtents_L4 s t g fu (nI (sm (fun f => sm (exJ A f) (A 4 f)) j)) (nI j)) 8 _ (fun fu j hj => ?_) (fun fu => ?_) gFu 0 (by omega) (by decide)
  · show f_X6_allExtents_L4 s t g (fu + 1) _ (nI j) = f_X6_allExtents_L4 s t g fu (nI (sm (fun f => sm (exJ A f) (A 4 f)) j + sm (exJ A j) (A 4 j))) (nI (j + 1))
    have hm := hI.2.2.2.1 j hj
    have z0 : ∀ n : Nat, nI n + 0 = nI (n + 0) := fun n => nI_add n 0
    rw [f_X6_allExtents_L4, if_neg (by rw [l_lit8 (by omega)]; omega), M_isThere h hj, gb_some]
    by_cases e : A 3 j = 0
    · rw [if_pos e, if_pos rfl, glet_eq, glet_eq, nI_1, z0, hm.2.2.2.2.2.2 e]; rfl
    · rw [if_neg e, if_neg n10, show f_X6_extents s t g 0 (nI j) = some (nI (sm (exJ A j) (A 4 j))) from M_extents (b := 0) h hI.b (by omega) hj, gb_some, glet_eq, glet_eq, nI_1, nI_add]
  · show f_X6_allExtents_L4 s t g (fu + 1) _ _ = _
    rw [f_X6_allExtents_L4, if_pos (by decide)]
/-- files with blocks -/
def wbI (A : Nat → Nat → Nat) (f : Nat) : Nat := if 0 < A 4 f then 1 else 0
theorem C_filesWithBlocks (h : RC d A) (hI : IB A) : f_X0_filesWithBlocks d = some (nI (sm (wbI A) 8)) := by
  refine loopN (fun fu j => f_X0_filesWithBlocks_L4 d fu (nI (sm (wbI A) j)) (nI j)) 8 _ (fun fu j hj => ?_) (fun fu => ?_) gFu 0 (by omega) (by decide)
  · show f_X0_filesWithBlocks_L4 d (fu + 1) _ (nI j) = f_X0_filesWithBlocks_L4 d fu (nI (sm (wbI A) j + wbI A j)) (nI (j + 1))
    have hl := (hI.2.2.2 j hj).2
    rw [f_X0_filesWithBlocks_L4, if_neg (by rw [l_lit8 (by omega)]; omega), f_at_in (by decide) _ hj, gb_some, h.ln hj]
    unfold wbI
    by_cases c : 0 < A 4 j
    · rw [if_neg (nI_nle c (by omega)), glet_eq, glet_eq, nI_1, nI_1, if_pos c]
    · rw [show A 4 j = 0 by omega, if_pos (show nI 0 ≤ 0 by decide), glet_eq, nI_1, if_neg (Nat.lt_irrefl 0)]; rfl
  · show f_X0_filesWithBlocks_L4 d (fu + 1) _ _ = _
    rw [f_X0_filesWithBlocks_L4, if_pos (by decide)]
theorem M_wn (h : RM s 0 A) (hI : IA A) : f_X6_wn s t g = some (nI (sm (wbI A) 8)) := by
  refine loopN (fun fu j => f_X6_wnL s t g fu (nI (sm (wbI A) j)) (nI j)) 8 _ (fun fu j hj => ?_) (fun fu => ?_) gFu 0 (by omega) (by decide)
  · show f_X6_wnL s t g (fu + 1) _ (nI j) = f_X6_wnL s t g fu (nI (sm (wbI A) j + wbI A j)) (nI (j + 1))
    have hm := hI.2.2.2.1 j hj
    have z0 : ∀ n : Nat, nI n + 0 = nI (n + 0) := fun n => nI_add n 0
    have a1 : nI (0 + 192 + 6 * j) + 1 = nI (0 + 192 + 6 * j + 1) := nI_add _ 1
    rw [f_X6_wnL, if_neg (by rw [l_lit8 (by omega)]; omega), M_isThere h hj, gb_some]
    unfold wbI
    by_cases e : A 3 j = 0
    · rw [if_pos e, if_pos rfl, M_flag0, gb_some, z0, nI_1, hm.2.2.2.2.2.2 e, if_neg (Nat.lt_irrefl 0)]
    · rw [if_neg e, if_neg n10, show f_X6_at 0 (nI j) = some (nI (0 + 192 + 6 * j)) from M_at 0 j, gb_some, a1, m_rd (by omega), nI_clamp (by omega), h.ln hj]
      by_cases c : 0 < A 4 j
      · rw [if_neg (nI_nle c (by omega)), M_flag1, gb_some, nI_1, nI_1, if_pos c]
      · rw [show A 4 j = 0 by omega, if_pos (show nI 0 ≤ 0 by decide), M_flag0, gb_some, z0, nI_1, if_neg (Nat.lt_irrefl 0)]
  · show f_X6_wnL s t g (fu + 1) _ _ = _
    rw [f_X6_wnL, if_pos (by decide)]
theorem ext_pos (A : Nat → Nat → Nat) (f : Nat) : 0 < sm (exJ A f) (A 4 f) ↔ 0 < A 4 f := by
  constructor
  · intro h
    rcases Nat.eq_zero_or_pos (A 4 f) with e | e
    · rw [e] at h; exact absurd h (Nat.lt_irrefl 0)
    · exact e
  · intro h
    have h1 := sm_mem (w := exJ A f) h
    have e : exJ A f 0 = 1 := by unfold exJ; rw [if_pos rfl]
    omega
theorem whole_pos (A : Nat → Nat → Nat) : 0 < sm (fun f => sm (exJ A f) (A 4 f)) 8 ↔ 0 < sm (wbI A) 8 := by
  constructor
  · intro h
    obtain ⟨f, hf, h1⟩ := sm_pos h
    have h2 := (ext_pos A f).1 h1
    have h3 := sm_mem (w := wbI A) hf
    have e : wbI A f = 1 := by unfold wbI; rw [if_pos h2]
    omega
  · intro h
    obtain ⟨f, hf, h1⟩ := sm_pos h
    have h2 : 0 < A 4 f := by
      by_cases c : 0 < A 4 f
      · exact c
      · have e : wbI A f = 0 := by unfold wbI; rw [if_neg c]
        omega
    have h3 := sm_mem (w := fun f => sm (exJ A f) (A 4 f)) hf
    have h4 := (ext_pos A f).2 h2
    exact Nat.lt_of_lt_of_le h4 h3
theorem ext_le (hI : IB A) : sm (fun f => sm (exJ A f) (A 4 f)) 8 ≤ 8 * 64 := by
  rw [← sm_const]
  refine sm_le (fun f hf => ?_)
  have h1 := sm_exJ_le A f (A 4 f)
  have h2 := (hI.2.2.2 f hf).2
  omega
theorem wb_le (A : Nat → Nat → Nat) : sm (wbI A) 8 ≤ 8 * 1 := by
  rw [← sm_const]
  refine sm_le (fun f hf => ?_)
  unfold wbI
  by_cases c : 0 < A 4 f
  · rw [if_pos c]; exact Nat.le_refl _
  · rw [if_neg c]; exact Nat.zero_le _
theorem st_wholeness_RR : st_wholeness RR := by
  intro D sav old hsz cs len g s t g6 hR
  obtain ⟨⟨A, hc, hm, hI⟩, hH, hS, hT⟩ := hR
  refine ⟨_, _, _, _, C_allExtents hc hI.b, C_filesWithBlocks hc hI.b, M_wn hm hI, M_allExtents hm hI, ?_⟩
  have h1 := ext_le hI.b
  have h2 := wb_le A
  have h3 := whole_pos A
  unfold wholeV wholeM
  by_cases c : 0 < sm (wbI A) 8
  · rw [if_neg (nI_nle (h3.2 c) (by omega)), if_neg (nI_ne0 c (by omega))]
  · have c2 : sm (fun f => sm (exJ A f) (A 4 f)) 8 = 0 := by
      rcases Nat.eq_zero_or_pos (sm (fun f => sm (exJ A f) (A 4 f)) 8) with e | e
      · exact e
      · exact absurd (h3.1 e) c
    have c3 : sm (wbI A) 8 = 0 := by omega
    rw [c2, c3, if_pos (show nI 0 ≤ 0 by decide), if_pos (show nI 0 = 0 from rfl)]
theorem C_lentTo (h : RC d A) (hI : IA A) (m : Nat) (hm : m < 3) : f_X0_lentToFilesThatAre d (nI m) = some (nI (sm (fun f => if A 3 f = m then A 4 f - A 5 f else 0) 8)) := by
  refine loopN (fun fu j => f_X0_lentToFilesThatAre_L4 d (nI m) fu (nI (sm (fun f => if A 3 f = m then A 4 f - A 5 f else 0) j)) (nI j)) 8 _ (fun fu j hj => ?_) (fun fu => ?_) gFu 0 (by omega) (by decide)
  · show f_X0_lentToFilesThatAre_L4 d (nI m) (fu + 1) _ (nI j) = f_X0_lentToFilesThatAre_L4 d (nI m) fu (nI (sm (fun f => if A 3 f = m then A 4 f - A 5 f else 0) j + if A 3 j = m then A 4 j - A 5 j else 0)) (nI (j + 1))
    have h3 := (hI.2.2.2.1 j hj).1
    rw [f_X0_lentToFilesThatAre_L4, if_neg (by rw [l_lit8 (by omega)]; omega)]
    by_cases e : A 3 j = m
    · rw [f_holds_t (by decide) _ hj (by rw [h.md hj, e]), gb_some, if_neg n10, C_lentOf h hI hj, gb_some, glet_eq, glet_eq, nI_1, nI_add, if_pos e]
    · rw [f_holds_f (by decide) _ hj (by rw [h.md hj, nI_eq (by omega) (by omega)]; exact e), gb_some, if_pos rfl, glet_eq, nI_1, if_neg e]; rfl
  · show f_X0_lentToFilesThatAre_L4 d (nI m) (fu + 1) _ _ = _
    rw [f_X0_lentToFilesThatAre_L4, if_pos (by decide)]
theorem M_lentOfClosed (h : RM s 0 A) (hI : IA A) : f_X6_lentOfClosed s t g = some (nI (sm (fun f => if A 3 f = 1 then A 4 f - A 5 f else 0) 8)) := by
  refine loopN (fun fu j => f_X6_lentOfClosed_L4 s t g fu (nI (sm (fun f => if A 3 f = 1 then A 4 f - A 5 f else 0) j)) (nI j)) 8 _ (fun fu j hj => ?_) (fun fu => ?_) gFu 0 (by omega) (by decide)
  · show f_X6_lentOfClosed_L4 s t g (fu + 1) _ (nI j) = f_X6_lentOfClosed_L4 s t g fu (nI (sm (fun f => if A 3 f = 1 then A 4 f - A 5 f else 0) j + if A 3 j = 1 then A 4 j - A 5 j else 0)) (nI (j + 1))
    have hm := hI.2.2.2.1 j hj
    have z0 : ∀ n : Nat, nI n + 0 = nI (n + 0) := fun n => nI_add n 0
    rw [f_X6_lentOfClosed_L4, if_neg (by rw [l_lit8 (by omega)]; omega), M_isThere h hj, gb_some]
    by_cases e : A 3 j = 0
    · rw [if_pos e, if_pos rfl, glet_eq, glet_eq, nI_1, z0, if_neg (show ¬ A 3 j = 1 by omega)]
    · rw [if_neg e, if_neg n10, M_isOpen h hj e, gb_some]
      by_cases e2 : A 3 j = 2
      · rw [if_pos e2, if_neg n10, glet_eq, glet_eq, nI_1, z0, if_neg (show ¬ A 3 j = 1 by omega)]
      · rw [if_neg e2, if_pos rfl, show f_X6_lent s t g 0 (nI j) = some (nI (A 4 j - A 5 j)) from M_lent (b := 0) h hI (by omega) hj, gb_some, glet_eq, glet_eq, nI_1, nI_add, if_pos (show A 3 j = 1 by omega)]
  · show f_X6_lentOfClosed_L4 s t g (fu + 1) _ _ = _
    rw [f_X6_lentOfClosed_L4, if_pos (by decide)]
theorem two_modes (hI : IA A) : ct (fun f => A 3 f = 2) 8 + ct (fun f => A 3 f = 1) 8 = ct (fun f => A 3 f ≠ 0) 8 := by
  unfold ct
  rw [← sm_add]
  refine sm_congr (fun f hf => ?_)
  have h3 := (hI.2.2.2.1 f hf).1
  by_cases c : A 3 f = 2
  · rw [if_pos c, if_neg (show ¬ A 3 f = 1 by omega), if_pos (show A 3 f ≠ 0 by omega)]
  · by_cases c1 : A 3 f = 1
    · rw [if_neg c, if_pos c1, if_pos (show A 3 f ≠ 0 by omega)]
    · rw [if_neg c, if_neg c1, if_neg (show ¬ A 3 f ≠ 0 by omega)]
theorem two_lents (hI : IA A) : sm (fun f => if A 3 f = 2 then A 4 f - A 5 f else 0) 8 + sm (fun f => if A 3 f = 1 then A 4 f - A 5 f else 0) 8 = sm (fun f => A 4 f - A 5 f) 8 := by
  rw [← sm_add]
  refine sm_congr (fun f hf => ?_)
  have h3 := hI.2.2.2.1 f hf
  by_cases c : A 3 f = 2
  · rw [if_pos c, if_neg (show ¬ A 3 f = 1 by omega)]; rfl
  · by_cases c1 : A 3 f = 1
    · rw [if_neg c, if_pos c1]; omega
    · rw [if_neg c, if_neg c1]
      have := h3.2.2.2.2.2.2 (by omega)
      omega
theorem st_count_RR : st_count RR := by
  intro D sav old hsz cs len g s t g6 hR v1
  have hR2 := hR
  obtain ⟨⟨A, hc, hm, hI⟩, hH, hS, hT⟩ := hR2
  unfold f_X5_count f_X6_count
  have eL : f_X6_sumOfLent s t g6 0 = some (nI (sm (fun f => A 4 f - A 5 f) 8)) := M_sumOfLent (b := 0) hm hI (by omega)
  have eF : f_X6_free s t g6 0 = some (nI (fre A)) := M_free (b := 0) hm hI (by omega)
  have cF : f_X0_freeBlocks (D 0) = some (nI (fre A)) := C_freeBlocks hc hI
  have k2 : f_X0_filesThatAre (D 0) 2 = some (nI (ct (fun f => A 3 f = 2) 8)) := C_filesThatAre hc hI 2 (by decide)
  have k1 : f_X0_filesThatAre (D 0) 1 = some (nI (ct (fun f => A 3 f = 1) 8)) := C_filesThatAre hc hI 1 (by decide)
  have l2 : f_X0_lentToFilesThatAre (D 0) 2 = some (nI (sm (fun f => if A 3 f = 2 then A 4 f - A 5 f else 0) 8)) := C_lentTo hc hI 2 (by decide)
  have l1 : f_X0_lentToFilesThatAre (D 0) 1 = some (nI (sm (fun f => if A 3 f = 1 then A 4 f - A 5 f else 0) 8)) := C_lentTo hc hI 1 (by decide)
  have s64 := sum64 hI.b
  have ls := lent_sum hI
  by_cases w0 : v1 = 0
  · rw [if_pos w0, if_pos w0, k2, gb_some, k1, gb_some, nI_add, two_modes hI, M_many hm, gb_some]
    exact ⟨_, rfl, rfl, hR⟩
  · rw [if_neg w0, if_neg w0]
    by_cases w1 : v1 = 1
    · rw [if_pos w1, if_pos w1, k2, gb_some, M_opened hm, gb_some]
      exact ⟨_, rfl, rfl, hR⟩
    · rw [if_neg w1, if_neg w1]
      by_cases w2 : v1 = 2
      · rw [if_pos w2, if_pos w2, cF, gb_some, eF, gb_some]
        exact ⟨_, rfl, rfl, hR⟩
      · rw [if_neg w2, if_neg w2]
        by_cases w3 : v1 = 3
        · have e1 : (64 : Int32) - nI (fre A) = nI (64 - fre A) := nI_sub (a := 64) (by omega)
          rw [if_pos w3, if_pos w3, C_dataBlocks hc, gb_some, eF, gb_some, eL, gb_some, e1, nI_sub (by omega), show 64 - fre A - sm (fun f => A 4 f - A 5 f) 8 = sm (A 5) 8 by omega]
          exact ⟨_, rfl, rfl, hR⟩
        · rw [if_neg w3, if_neg w3]
          by_cases w4 : v1 = 4
          · rw [if_pos w4, if_pos w4, l2, gb_some, l1, gb_some, nI_add, two_lents hI, eL, gb_some]
            exact ⟨_, rfl, rfl, hR⟩
          · rw [if_neg w4, if_neg w4]
            by_cases w5 : v1 = 5
            · rw [if_pos w5, if_pos w5, l1, gb_some, M_lentOfClosed hm hI, gb_some]
              exact ⟨_, rfl, rfl, hR⟩
            · rw [if_neg w5, if_neg w5]
              by_cases w6 : v1 = 6
              · rw [if_pos w6, if_pos w6, C_freeRuns hc hI.b, gb_some, M_runs hm hI 0, gb_some, if_pos (show (0 : Int32) = 0 from rfl)]
                exact ⟨_, rfl, rfl, hR⟩
              · rw [if_neg w6, if_neg w6]
                by_cases w7 : v1 = 7
                · rw [if_pos w7, if_pos w7, C_longestRun hc hI.b, gb_some, M_runs hm hI 1, gb_some, if_neg n10]
                  exact ⟨_, rfl, rfl, hR⟩
                · rw [if_neg w7, if_neg w7]
                  by_cases w8 : v1 = 8
                  · rw [if_pos w8, if_pos w8, C_allExtents hc hI.b, gb_some, M_allExtents hm hI, gb_some]
                    exact ⟨_, rfl, rfl, hR⟩
                  · rw [if_neg w8, if_neg w8]
                    by_cases w9 : v1 = 9
                    · obtain ⟨o, n, -, -, -, h4, h5, -⟩ := hH
                      unfold f_X1_size
                      rw [if_pos w9, if_pos w9, gb_some, h4, h5]
                      exact ⟨_, rfl, rfl, by rw [← h4]; exact hR⟩
                    · rw [if_neg w9, if_neg w9]
                      by_cases w10 : v1 = 10
                      · obtain ⟨n, -, h4, h5, -⟩ := hT
                        unfold f_X4_length
                        rw [if_pos w10, if_pos w10, gb_some, h4, h5]
                        exact ⟨_, rfl, rfl, by rw [← h4]; exact hR⟩
                      · rw [if_neg w10, if_neg w10]
                        exact ⟨_, rfl, rfl, hR⟩
theorem st_total_RR : st_total RR := by
  intro D sav old hsz cs len g s t g6 hR v1
  have hR2 := hR
  obtain ⟨⟨A, hc, hm, hI⟩, hH, hS, hT⟩ := hR2
  unfold f_X5_total f_X6_total
  rw [M_in_if v1 0 3, gb_some]
  rcases i_split v1 with hv | ⟨i, hi, rfl⟩
  · rw [if_pos (show v1 < 0 from hv), if_pos (Or.inl hv), if_pos rfl]
    exact ⟨_, rfl, rfl, hR⟩
  · by_cases c : i < 4
    · have a0 : (242 : Int32) + nI i = nI (242 + i) := nI_add 242 i
      have e : s (242 + i) = nI (A 9 i) := by
        have := hm.2.2.2 i c
        rwa [Nat.zero_add] at this
      rw [if_neg (show ¬ nI i < 0 from nI_pos hi), if_neg (show ¬ (4 : Int32) ≤ nI i from nI_ge (b := 4) c (by decide)), if_neg (show ¬ (nI i < 0 ∨ (3 : Int32) < nI i) from fun q => q.elim (nI_pos hi) (nI_nlt (a := 3) (by omega) (by decide))), if_neg n10, a0, m_rd (by omega), nI_clamp (by omega), e]
      unfold f_X0_totalOf
      rw [f_at_in (by decide) _ c, gb_some, gb_some, hc.tt c]
      exact ⟨_, rfl, rfl, hR⟩
    · rw [if_neg (show ¬ nI i < 0 from nI_pos hi), if_pos (show (4 : Int32) ≤ nI i from nI_le (a := 4) (by omega) hi), if_pos (show nI i < 0 ∨ (3 : Int32) < nI i from Or.inr (nI_lt (a := 3) (by omega) hi)), if_pos rfl]
      exact ⟨_, rfl, rfl, hR⟩
theorem st_room_RR : st_room RR := by
  intro D sav old hsz cs len g s t g6 hR v1
  have hR2 := hR
  obtain ⟨⟨A, hc, hm, hI⟩, hH, hS, hT⟩ := hR2
  unfold f_X5_room f_X6_room
  rcases i_cases v1 8 (by decide) with ⟨f, hf, rfl⟩ | ho
  · by_cases e0 : A 3 f = 0
    · rw [C_isFile hc hI hf, gb_some, if_pos e0, if_pos rfl, M_isThere hm hf, gb_some, if_pos e0, if_pos rfl]
      exact ⟨_, rfl, rfl, hR⟩
    · rw [C_isFile hc hI hf, gb_some, if_neg e0, if_neg n10, M_isThere hm hf, gb_some, if_neg e0, if_neg n10, C_isOpen hc hI hf, gb_some, M_isOpen hm hf e0, gb_some]
      by_cases e2 : A 3 f = 2
      · have s64 := sum64 hI.b
        have ls := lent_sum hI
        rw [if_pos e2, if_neg n10, if_neg n10, C_blocksWithoutData hc hI, gb_some, show f_X6_sumOfLent s t g6 0 = some (nI (sm (fun f => A 4 f - A 5 f) 8)) from M_sumOfLent (b := 0) hm hI (by omega), gb_some, show f_X6_free s t g6 0 = some (nI (fre A)) from M_free (b := 0) hm hI (by omega), gb_some, nI_add, show sm (fun f => A 4 f - A 5 f) 8 + fre A = 64 - sm (A 5) 8 by omega]
        exact ⟨_, rfl, rfl, hR⟩
      · rw [if_neg e2, if_pos rfl, if_pos rfl]
        exact ⟨_, rfl, rfl, hR⟩
  · rw [C_isFile_out ho, gb_some, if_pos rfl, M_isThere_out ho, gb_some, if_pos rfl]
    exact ⟨_, rfl, rfl, hR⟩
end QUERY2
