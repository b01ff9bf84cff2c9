/-! MATHEMATICS, 38: the queries of blocks, files, extents, runs; read. -/
section QUERY1
variable {A : Nat → Nat → Nat} {s t g : Nat → Int32} {d : Nat → Nat → Int32}
theorem n10 : ¬ (1 : Int32) = 0 := by decide
theorem RM.own0 (h : RM s 0 A) {i : Nat} (hi : i < 64) : s (64 + i) = if A 1 i = 8 then -5 else nI (A 1 i) := by
  have := h.own hi
  rwa [Nat.zero_add] at this
theorem RM.ix0 (h : RM s 0 A) {i : Nat} (hi : i < 64) (h8 : A 1 i ≠ 8) : s (128 + i) = nI (A 2 i) := by
  have := h.ix hi h8
  rwa [Nat.zero_add] at this
theorem RM.st0 (h : RM s 0 A) {i : Nat} (hi : i < 64) : s i = nI (A 0 i) := by
  have := (h.1 i hi).1
  rwa [Nat.zero_add] at this
theorem M_free0 (h : RM s 0 A) (hI : IA A) {k : Nat} (hk : k < 64) : f_X6_isFree s t g 0 (nI k) = some (if A 1 k = 8 then 1 else 0) := M_isFree (b := 0) h hI (by omega) hk
theorem st_block_RR : st_block RR := by
  intro D sav old hsz cs len g s t g6 hR v1 v2
  have hR2 := hR
  obtain ⟨⟨A, hc, hm, hI⟩, hH, hS, hT⟩ := hR2
  rcases i_split v1 with hv | ⟨k, hk31, rfl⟩
  · exact ⟨-1, by unfold f_X5_block; rw [if_pos hv], by unfold f_X6_block; rw [M_in_if v1 0 63, if_pos (Or.inl hv), gb_some, if_pos rfl], hR⟩
  · by_cases hk : k < 64
    · have e1 : f_X6_in (nI k) 0 63 = some 1 := by
        have := M_in_n (m := k) (lo := 0) (hi := 63) hk31 (by decide) (by decide)
        rw [if_pos (by omega)] at this; exact this
      have c1 : nI k < 64 := nI_lt (b := 64) hk (by decide)
      have a64 : (64 : Int32) + nI k = nI (64 + k) := nI_add 64 k
      have a128 : (128 : Int32) + nI k = nI (128 + k) := nI_add 128 k
      have z := hI.1 k hk
      have p1 : f_X5_block D sav old hsz cs len g (nI k) v2 = if v2 = 0 then gb (f_X0_ownerOf (D 0) (nI k)) (fun r4 => some r4) else if v2 = 1 then gb (f_X0_useOf (D 0) (nI k)) (fun r6 => some r6) else if v2 = 2 then gb (f_X0_placeOf (D 0) (nI k)) (fun r8 => some r8) else if v2 = 3 then gb (f_X0_stampOf (D 0) (nI k)) (fun r10 => some r10) else some (-2) := by
        unfold f_X5_block
        rw [if_neg (nI_pos hk31), if_pos c1]
      rw [p1]
      unfold f_X6_block
      rw [e1, gb_some, if_neg n10]
      by_cases w0 : v2 = 0
      · rw [if_pos w0, if_pos w0, a64, m_rd (by omega), nI_clamp (by omega), hm.own0 hk]
        unfold f_X0_ownerOf
        rw [f_at_in (by decide) _ hk, gb_some, gb_some, hc.own hk]
        exact ⟨_, rfl, rfl, hR⟩
      · by_cases w1 : v2 = 1
        · rw [if_neg w0, if_neg w0, if_pos w1, if_pos w1, M_free0 hm hI hk, gb_some]
          unfold f_X0_useOf
          by_cases c8 : A 1 k = 8
          · rw [free_t hc hk c8, gb_some, if_neg n10, gb_some, if_pos c8, if_neg n10]
            exact ⟨_, rfl, rfl, hR⟩
          · have w := z.2.2 (by omega)
            have hl := hI.2.2.2.1 (A 1 k) (by omega)
            have eh : f_X6_hasData s t g6 (nI k) = some (if A 5 (A 1 k) ≤ A 2 k then 0 else 1) := by
              unfold f_X6_hasData
              rw [M_free0 hm hI hk, gb_some, if_neg c8, if_pos rfl, a128, a64, m_rd (by omega), m_rd (by omega), nI_clamp (by omega), nI_clamp (by omega), hm.own0 hk, if_neg c8, show f_X6_at 0 (nI (A 1 k)) = some (nI (0 + 192 + 6 * A 1 k)) from M_at 0 _, gb_some, show nI (0 + 192 + 6 * A 1 k) + 2 = nI (0 + 192 + 6 * A 1 k + 2) from nI_add _ 2, m_rd (by omega), nI_clamp (by omega), hm.sz (by omega) w.1, hm.ix0 hk c8]
              by_cases q : A 5 (A 1 k) ≤ A 2 k
              · rw [if_pos (nI_le q (by omega)), if_pos q]
              · rw [if_neg (nI_ge (by omega) (by omega)), if_neg q]
            rw [free_f hc hI.b hk c8, gb_some, if_pos rfl, if_neg c8, if_pos rfl, eh, gb_some, f_at_in (by decide) _ hk, gb_some, f_at_in (by decide) _ hk, gb_some, hc.own hk, if_neg c8, f_at_in (by decide) _ (show A 1 k < 8 by omega), gb_some, hc.sz (by omega), hc.ix hk, if_neg c8]
            by_cases q : A 5 (A 1 k) ≤ A 2 k
            · rw [if_pos (nI_le q (by omega)), if_pos q, if_pos rfl]
              exact ⟨_, rfl, rfl, hR⟩
            · rw [if_neg (nI_ge (by omega) (by omega)), if_neg q, if_neg n10]
              exact ⟨_, rfl, rfl, hR⟩
        · by_cases w2 : v2 = 2
          · rw [if_neg w0, if_neg w0, if_neg w1, if_neg w1, if_pos w2, if_pos w2, M_free0 hm hI hk, gb_some]
            unfold f_X0_placeOf
            rw [f_at_in (by decide) _ hk, gb_some, gb_some, hc.ix hk]
            by_cases c8 : A 1 k = 8
            · rw [if_pos c8, if_pos c8, if_neg n10]
              exact ⟨_, rfl, rfl, hR⟩
            · rw [if_neg c8, if_neg c8, if_pos rfl, a128, m_rd (by omega), nI_clamp (by omega), hm.ix0 hk c8]
              exact ⟨_, rfl, rfl, hR⟩
          · by_cases w3 : v2 = 3
            · rw [if_neg w0, if_neg w0, if_neg w1, if_neg w1, if_neg w2, if_neg w2, if_pos w3, if_pos w3, m_rd (by omega), nI_clamp (by omega), hm.st0 hk]
              unfold f_X0_stampOf
              rw [f_at_in (by decide) _ hk, gb_some, gb_some, hc.st hk]
              exact ⟨_, rfl, rfl, hR⟩
            · rw [if_neg w0, if_neg w0, if_neg w1, if_neg w1, if_neg w2, if_neg w2, if_neg w3, if_neg w3]
              exact ⟨_, rfl, rfl, hR⟩
    · refine ⟨-1, ?_, ?_, hR⟩
      · unfold f_X5_block
        rw [if_neg (nI_pos hk31), if_neg (show ¬ nI k < 64 from nI_nlt (b := 64) (by omega) hk31)]
      · unfold f_X6_block
        rw [M_in_if (nI k) 0 63, if_pos (Or.inr (show (63 : Int32) < nI k from nI_lt (a := 63) (by omega) hk31)), gb_some, if_pos rfl]
theorem st_file_RR : st_file RR := by
  intro D sav old hsz cs len g s t g6 hR v1 v2
  have hR2 := hR
  obtain ⟨⟨A, hc, hm, hI⟩, hH, hS, hT⟩ := hR2
  rcases i_cases v1 8 (by decide) with ⟨f, hf, rfl⟩ | ho
  · have hmd := hI.2.2.2.1 f hf
    by_cases e0 : A 3 f = 0
    · exact ⟨-1, by unfold f_X5_file; rw [C_isFile hc hI hf, gb_some, if_pos e0, if_pos rfl], by unfold f_X6_file; rw [M_isThere hm hf, gb_some, if_pos e0, if_pos rfl], hR⟩
    · have ea : f_X6_at 0 (nI f) = some (nI (0 + 192 + 6 * f)) := M_at 0 f
      have a2 : nI (0 + 192 + 6 * f) + 2 = nI (0 + 192 + 6 * f + 2) := nI_add _ 2
      have a3 : nI (0 + 192 + 6 * f) + 3 = nI (0 + 192 + 6 * f + 3) := nI_add _ 3
      have a4 : nI (0 + 192 + 6 * f) + 4 = nI (0 + 192 + 6 * f + 4) := nI_add _ 4
      have a5 : nI (0 + 192 + 6 * f) + 5 = nI (0 + 192 + 6 * f + 5) := nI_add _ 5
      unfold f_X5_file f_X6_file
      rw [C_isFile hc hI hf, gb_some, if_neg e0, if_neg n10, M_isThere hm hf, gb_some, if_neg e0, if_neg n10]
      by_cases w0 : v2 = 0
      · rw [if_pos w0, if_pos w0, ea, gb_some, a2, m_rd (by omega), nI_clamp (by omega), hm.sz hf e0]
        unfold f_X0_sizeOf
        rw [f_at_in (by decide) _ hf, gb_some, gb_some, hc.sz hf]
        exact ⟨_, rfl, rfl, hR⟩
      · rw [if_neg w0, if_neg w0]
        by_cases w1 : v2 = 1
        · rw [if_pos w1, if_pos w1, C_lentOf hc hI hf, gb_some, show f_X6_lent s t g6 0 (nI f) = some (nI (A 4 f - A 5 f)) from M_lent (b := 0) hm hI (by omega) hf, gb_some]
          exact ⟨_, rfl, rfl, hR⟩
        · rw [if_neg w1, if_neg w1]
          by_cases w2 : v2 = 2
          · rw [if_pos w2, if_pos w2, ea, gb_some, a3, m_rd (by omega), nI_clamp (by omega), hm.sf hf e0]
            unfold f_X0_safeSizeOf
            rw [f_at_in (by decide) _ hf, gb_some, gb_some, hc.sf hf]
            exact ⟨_, rfl, rfl, hR⟩
          · rw [if_neg w2, if_neg w2]
            by_cases w3 : v2 = 3
            · rw [if_pos w3, if_pos w3, ea, gb_some, a4, m_rd (by omega), nI_clamp (by omega), hm.op hf e0, C_isOpen hc hI hf, gb_some]
              by_cases e2 : A 3 f = 2
              · rw [if_pos e2, if_neg n10]
                exact ⟨_, rfl, rfl, hR⟩
              · rw [if_neg e2, if_pos rfl]
                exact ⟨_, rfl, rfl, hR⟩
            · rw [if_neg w3, if_neg w3]
              by_cases w4 : v2 = 4
              · rw [if_pos w4, if_pos w4, C_extentsOf hc hI.b hf, gb_some, show f_X6_extents s t g6 0 (nI f) = some (nI (sm (exJ A f) (A 4 f))) from M_extents (b := 0) hm hI.b (by omega) hf, gb_some]
                exact ⟨_, rfl, rfl, hR⟩
              · rw [if_neg w4, if_neg w4]
                by_cases w5 : v2 = 5
                · rw [if_pos w5, if_pos w5, ea, gb_some, a5, m_rd (by omega), nI_clamp (by omega), hm.ld hf e0]
                  unfold f_X0_lendOf
                  rw [f_at_in (by decide) _ hf, gb_some, gb_some, hc.ld hf]
                  exact ⟨_, rfl, rfl, hR⟩
                · rw [if_neg w5, if_neg w5]
                  exact ⟨_, rfl, rfl, hR⟩
  · exact ⟨-1, by unfold f_X5_file; rw [C_isFile_out ho, gb_some, if_pos rfl], by unfold f_X6_file; rw [M_isThere_out ho, gb_some, if_pos rfl], hR⟩
theorem st_extent_RR : st_extent RR := by
  intro D sav old hsz cs len g s t g6 hR v1 v2 v3
  have hR2 := hR
  obtain ⟨⟨A, hc, hm, hI⟩, hH, hS, hT⟩ := hR2
  rcases i_cases v1 8 (by decide) with ⟨f, hf, rfl⟩ | ho
  · have hmd := hI.2.2.2.1 f hf
    by_cases e0 : A 3 f = 0
    · exact ⟨-1, by unfold f_X5_extent; rw [C_isFile hc hI hf, gb_some, if_pos e0, if_pos rfl], by unfold f_X6_extent; rw [M_isThere hm hf, gb_some, if_pos e0, if_pos rfl], hR⟩
    · unfold f_X5_extent f_X6_extent
      rw [C_isFile hc hI hf, gb_some, if_neg e0, if_neg n10, M_isThere hm hf, gb_some, if_neg e0, if_neg n10]
      rcases i_split v2 with hv | ⟨e, he, rfl⟩
      · rw [if_pos hv, if_pos hv]
        exact ⟨_, rfl, rfl, hR⟩
      · rw [if_neg (nI_pos he), if_neg (nI_pos he), M_in_if v3 0 1, gb_some]
        by_cases hw : v3 < 0 ∨ 1 < v3
        · rw [if_pos hw, if_pos rfl]
          by_cases c : v3 < 0
          · rw [if_pos c]
            exact ⟨_, rfl, rfl, hR⟩
          · rw [if_neg c, if_neg (Int32.not_le.mpr (hw.resolve_left c))]
            exact ⟨_, rfl, rfl, hR⟩
        · rw [if_neg hw, if_neg n10, if_neg (fun q => hw (Or.inl q)), if_pos (Int32.not_lt.mp (fun q => hw (Or.inr q)))]
          rcases ex_find A f e (A 4 f) with ⟨p, hp, hb, hs⟩ | hn
          · obtain ⟨q, hpq, hq, h1, h2⟩ := ex_end A f p (A 4 f) hp
            rw [C_place hc hI.b hf he hp hb hs, gb_some, if_neg (nI_m5 (by omega)), C_blockAt hc hI.b hf hp, gb_some, C_extentFrom hc hI.b hf hpq hq h1 h2, gb_some, M_ext_some hm hI.b hf he hp hb hs hpq hq h1 h2]
            by_cases c : v3 = 0
            · rw [if_pos c, if_pos c]
              exact ⟨_, rfl, rfl, hR⟩
            · rw [if_neg c, if_neg c]
              exact ⟨_, rfl, rfl, hR⟩
          · rw [C_place_none hc hI.b hf he hn, gb_some, if_pos rfl, M_ext_none hm hI.b hf he hn]
            exact ⟨_, rfl, rfl, hR⟩
  · exact ⟨-1, by unfold f_X5_extent; rw [C_isFile_out ho, gb_some, if_pos rfl], by unfold f_X6_extent; rw [M_isThere_out ho, gb_some, if_pos rfl], hR⟩
theorem st_run_RR : st_run RR := by
  intro D sav old hsz cs len g s t g6 hR v1 v2
  have hR2 := hR
  obtain ⟨⟨A, hc, hm, hI⟩, hH, hS, hT⟩ := hR2
  unfold f_X5_run f_X6_run
  rcases i_split v1 with hv | ⟨e, he, rfl⟩
  · rw [if_pos hv, if_pos hv]
    exact ⟨_, rfl, rfl, hR⟩
  · rw [if_neg (nI_pos he), if_neg (nI_pos he), M_in_if v2 0 1, gb_some]
    by_cases hw : v2 < 0 ∨ 1 < v2
    · rw [if_pos hw, if_pos rfl]
      by_cases c : v2 < 0
      · rw [if_pos c]
        exact ⟨_, rfl, rfl, hR⟩
      · rw [if_neg c, if_neg (Int32.not_le.mpr (hw.resolve_left c))]
        exact ⟨_, rfl, rfl, hR⟩
    · rw [if_neg hw, if_neg n10, if_neg (fun q => hw (Or.inl q)), if_pos (Int32.not_lt.mp (fun q => hw (Or.inr q)))]
      rcases ru_find A e 64 with ⟨p, hp, h1, h2⟩ | hn
      · rw [C_run_some hc hI.b he hp h1 h2, gb_some, if_neg (nI_m5 (by omega)), C_runFrom hc hI.b hp, gb_some, M_run_some hm hI he hp h1 h2]
        by_cases c : v2 = 0
        · rw [if_pos c, if_pos c]
          exact ⟨_, rfl, rfl, hR⟩
        · rw [if_neg c, if_neg c]
          exact ⟨_, rfl, rfl, hR⟩
      · rw [C_run_none hc hI.b he hn, gb_some, if_pos rfl, M_run_none hm hI he hn]
        exact ⟨_, rfl, rfl, hR⟩
theorem st_read_RR : st_read RR := by
  intro D sav old hsz cs len g s t g6 hR v1 v2 v3 v4
  have hR2 := hR
  obtain ⟨⟨A, hc, hm, hI⟩, hH, hS, hT⟩ := hR2
  rcases i_cases v1 8 (by decide) with ⟨f, hf, rfl⟩ | ho
  · have hmd := hI.2.2.2.1 f hf
    by_cases e0 : A 3 f = 0
    · exact ⟨-1, by unfold f_X5_read; rw [C_isFile hc hI hf, gb_some, if_pos e0, if_pos rfl], by unfold f_X6_read; rw [M_isThere hm hf, gb_some, if_pos e0, if_pos rfl], hR⟩
    · unfold f_X5_read f_X6_read
      rw [C_isFile hc hI hf, gb_some, if_neg e0, if_neg n10, M_isThere hm hf, gb_some, if_neg e0, if_neg n10, M_in_if v2 0 63, gb_some]
      by_cases hv : v2 < 0 ∨ 63 < v2
      · rw [if_pos hv, if_pos rfl]
        by_cases c : v2 < 0
        · rw [if_pos c]
          exact ⟨_, rfl, rfl, hR⟩
        · have c2 : 64 ≤ v2 := by
            rcases i_split v2 with q | ⟨m, hm31, rfl⟩
            · exact absurd q c
            · have q := hv.resolve_left c
              have q2 : 63 < m := (nI_ltI (a := 63) (by decide) hm31).1 q
              exact nI_le (a := 64) (by omega) hm31
          rw [if_neg c, if_pos c2]
          exact ⟨_, rfl, rfl, hR⟩
      · obtain ⟨a, -, ha, rfl⟩ := i_range (lo := 0) (hi := 63) (by decide) (by decide) hv
        rw [if_neg hv, if_neg n10, if_neg (nI_pos (by omega)), if_neg (show ¬ (64 : Int32) ≤ nI a from nI_ge (b := 64) (by omega) (by decide)), M_in_if v3 1 64, gb_some]
        by_cases hw : v3 < 1 ∨ 64 < v3
        · rw [if_pos hw, if_pos rfl]
          by_cases c : v3 < 1
          · rw [if_pos c]
            exact ⟨_, rfl, rfl, hR⟩
          · rw [if_neg c, if_pos (hw.resolve_left c)]
            exact ⟨_, rfl, rfl, hR⟩
        · obtain ⟨m, hm1, hm64, rfl⟩ := i_range (lo := 1) (hi := 64) (by decide) (by decide) hw
          rw [if_neg hw, if_neg n10, if_neg (fun q => hw (Or.inl q)), if_neg (fun q => hw (Or.inr q)), M_in_if v4 0 1, gb_some]
          by_cases hx : v4 < 0 ∨ 1 < v4
          · rw [if_pos hx, if_pos rfl]
            by_cases c : v4 < 0
            · rw [if_pos c]
              exact ⟨_, rfl, rfl, hR⟩
            · rw [if_neg c, if_neg (Int32.not_le.mpr (hx.resolve_left c))]
              exact ⟨_, rfl, rfl, hR⟩
          · rw [if_neg hx, if_neg n10, if_neg (fun q => hx (Or.inl q)), if_pos (Int32.not_lt.mp (fun q => hx (Or.inr q))), show f_X6_at 0 (nI f) = some (nI (0 + 192 + 6 * f)) from M_at 0 f, gb_some, show nI (0 + 192 + 6 * f) + 2 = nI (0 + 192 + 6 * f + 2) from nI_add _ 2, m_rd (by omega), nI_clamp (by omega), hm.sz hf e0, glet_eq]
            have es : f_X0_sizeOf (D 0) (nI f) = some (nI (A 5 f)) := by
              unfold f_X0_sizeOf
              rw [f_at_in (by decide) _ hf, gb_some, hc.sz hf]
            rw [es, gb_some]
            by_cases c : a < A 5 f
            · have ee : (if nI (A 5 f) < nI a + nI m then nI (A 5 f) else nI a + nI m) = nI (if A 5 f < a + m then A 5 f else a + m) := by
                rw [nI_add]
                by_cases c2 : A 5 f < a + m
                · rw [if_pos (nI_lt c2 (by omega)), if_pos c2]
                · rw [if_neg (nI_nlt (by omega) (by omega)), if_neg c2]
              have hB : (if A 5 f < a + m then A 5 f else a + m) ≤ A 5 f ∧ a ≤ (if A 5 f < a + m then A 5 f else a + m) := by
                by_cases c2 : A 5 f < a + m
                · rw [if_pos c2]; omega
                · rw [if_neg c2]; omega
              rw [if_pos (nI_lt c (by omega)), if_pos (nI_lt c (by omega)), gb_some, ee, glet_eq, M_read_loop hm hI.b hf c hmd.2.1 hm1 hm64, C_sumOfStamps hc hI.b hf (by omega) (by omega), gb_some, sm_stpJ hI.b hf (by omega), nI_sub hB.2]
              by_cases c4 : v4 = 0
              · rw [if_pos c4, if_pos c4]
                exact ⟨_, rfl, rfl, hR⟩
              · rw [if_neg c4, if_neg c4]
                exact ⟨_, rfl, rfl, hR⟩
            · rw [if_neg (nI_nlt (by omega) (by omega)), if_neg (nI_nlt (by omega) (by omega))]
              exact ⟨_, rfl, rfl, hR⟩
  · exact ⟨-1, by unfold f_X5_read; rw [C_isFile_out ho, gb_some, if_pos rfl], by unfold f_X6_read; rw [M_isThere_out ho, gb_some, if_pos rfl], hR⟩
end QUERY1
