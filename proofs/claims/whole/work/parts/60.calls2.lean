/-! MATHEMATICS, 36: create, crash, mend, set, cut, append as calls. -/
section CALLS2
variable {A : Nat → Nat → Nat} {s t g : Nat → Int32}
theorem ct_all (P : Nat → Prop) [DecidablePred P] (n : Nat) (h : ∀ i, i < n → P i) : ct P n = n := by
  induction n with
  | zero => rfl
  | succ n ih => rw [ct_succ, ih (fun i hi => h i (by omega)), if_pos (h n (by omega))]
theorem first_free (A : Nat → Nat → Nat) : ∀ n, (∃ f, f < n ∧ A 3 f = 0 ∧ ∀ i, i < f → A 3 i ≠ 0) ∨ ∀ i, i < n → A 3 i ≠ 0 := by
  intro n
  induction n with
  | zero => exact Or.inr (fun i h => absurd h (Nat.not_lt_zero _))
  | succ n ih =>
    rcases ih with ⟨f, h1, h2, h3⟩ | h
    · exact Or.inl ⟨f, by omega, h2, h3⟩
    · by_cases c : A 3 n = 0
      · exact Or.inl ⟨n, by omega, c, h⟩
      · refine Or.inr (fun i hi => ?_)
        by_cases e : i = n
        · rw [e]; exact c
        · exact h i (by omega)
theorem M_createError_full (h : RM s 0 A) (hl : ∀ i, i < 8 → A 3 i ≠ 0) : f_X6_createError s t g = some (-3) := by
  unfold f_X6_createError
  rw [M_many h, gb_some, ct_all _ 8 hl, if_pos (by decide)]
theorem M_createError_room (h : RM s 0 A) {f : Nat} (hf : f < 8) (h0 : A 3 f = 0) : f_X6_createError s t g = some 0 := by
  have hc := ct_lt (fun f => A 3 f ≠ 0) hf (fun q => q h0)
  unfold f_X6_createError
  rw [M_many h, gb_some, if_neg (fun z => by have := (nI_eq (b := 8) (by omega) (by decide)).1 z; omega)]
theorem st_create_RR : st_create RR := by
  intro D sav old hsz cs len g s t g6 hR
  obtain ⟨⟨A, hc, hm, hI⟩, hH, hS, hT⟩ := hR
  rcases first_free A 8 with ⟨f, hf, h0, hl⟩ | hl
  · exact act_st hc hm hI hH hS hT f_X0_createFile f_X6_creates (by
      obtain ⟨d', c1, c2⟩ := C_create hc hI hf h0 hl
      exact ⟨f, d', neA A f, by omega, c1, c2, IA_create hI hf h0, fun s1 g1 hm1 => ⟨neS s1 f, M_create hm1 hf h0 hl⟩⟩) (by
      unfold f_X6_create
      rw [M_createError_room hm hf h0, gb_some, if_pos rfl])
  · exact refuse_st hc hm hI hH hS hT f_X0_createFile (r := -3) (by decide) (C_create_full hc hI hl) (by
      unfold f_X6_create
      rw [M_createError_full hm hl]
      exact M_ref (by decide))
theorem crN_le (hI : IA A) : ∀ j, j ≤ 8 → crN A j ≤ 64 * j := by
  intro j
  induction j with
  | zero => intro _; exact Nat.le_refl _
  | succ j ih =>
    intro h
    have q := ih (by omega)
    have z := (IA_crJ hI (j := j) (by omega)).2.2.2.1 j (by omega)
    show crN A j + (if crJ A j 3 j = 0 then 0 else crJ A j 5 j - crJ A j 6 j) ≤ 64 * (j + 1)
    by_cases c : crJ A j 3 j = 0
    · rw [if_pos c]; omega
    · rw [if_neg c]; omega
theorem mdN_le (hI : IA A) : ∀ j, j ≤ 8 → mdN A j ≤ 64 * j := by
  intro j
  induction j with
  | zero => intro _; exact Nat.le_refl _
  | succ j ih =>
    intro h
    have q := ih (by omega)
    have z := (IA_mend hI (j := j) (by omega)).2.2.2.1 j (by omega)
    show mdN A j + (if mdJ A j 3 j = 1 then mdJ A j 4 j - mdJ A j 5 j else 0) ≤ 64 * (j + 1)
    by_cases c : mdJ A j 3 j = 1
    · rw [if_pos c]; omega
    · rw [if_neg c]; omega
theorem st_crash_RR : st_crash RR := by
  intro D sav old hsz cs len g s t g6 hR
  obtain ⟨⟨A, hc, hm, hI⟩, hH, hS, hT⟩ := hR
  have hn := crN_le hI 8 (Nat.le_refl _)
  exact act_st hc hm hI hH hS hT f_X0_crashAll f_X6_crashes (by
    obtain ⟨d', c1, c2⟩ := C_crash hc hI
    exact ⟨crN A 8, d', crA A, by omega, c1, c2, IA_crash hI, fun s1 g1 hm1 => M_crash hm1 hI⟩) rfl
theorem st_mend_RR : st_mend RR := by
  intro D sav old hsz cs len g s t g6 hR
  obtain ⟨⟨A, hc, hm, hI⟩, hH, hS, hT⟩ := hR
  have hn := mdN_le hI 8 (Nat.le_refl _)
  exact act_st hc hm hI hH hS hT f_X0_mendAll f_X6_mends (by
    obtain ⟨d', c1, c2⟩ := C_mend hc hI
    exact ⟨mdN A 8, d', mdJ A 8, by omega, c1, c2, IA_mend hI (Nat.le_refl _), fun s1 g1 hm1 => M_mend hm1 hI⟩) rfl
theorem st_cut_RR : st_cut RR := by
  intro D sav old hsz cs len g s t g6 hR v1 v2
  obtain ⟨⟨A, hc, hm, hI⟩, hH, hS, hT⟩ := hR
  rcases i_cases v1 8 (by decide) with ⟨f, hf, rfl⟩ | ho
  · have hmd := hI.2.2.2.1 f hf
    by_cases e0 : A 3 f = 0
    · exact refuse_st hc hm hI hH hS hT (fun d => f_X0_cutFile d (nI f) v2) (r := -1) (by decide) (by
        show f_X0_cutFile (D 0) (nI f) v2 = _
        unfold f_X0_cutFile
        rw [C_isFile hc hI hf, gb_some, if_pos e0, if_pos rfl]) (by
        unfold f_X6_cut f_X6_cutError
        rw [M_isThere hm hf, gb_some, if_pos e0, if_pos rfl]
        exact M_ref (by decide))
    · rcases i_split v2 with hv | ⟨n, hn, rfl⟩
      · exact refuse_st hc hm hI hH hS hT (fun d => f_X0_cutFile d (nI f) v2) (r := -2) (by decide) (by
          show f_X0_cutFile (D 0) (nI f) v2 = _
          unfold f_X0_cutFile
          rw [C_isFile hc hI hf, gb_some, if_neg e0, if_neg (by decide), if_pos hv]) (by
          unfold f_X6_cut f_X6_cutError
          rw [M_isThere hm hf, gb_some, if_neg e0, if_neg (by decide), show f_X6_in v2 0 64 = some 0 from M_in_ng (lo := 0) (hi := 64) hv (by decide), gb_some, if_pos rfl]
          exact M_ref (by decide))
      · by_cases c64 : n ≤ 64
        · have ei : f_X6_in (nI n) 0 64 = some 1 := by
            have := M_in_n (m := n) (lo := 0) (hi := 64) hn (by decide) (by decide)
            rw [if_pos (by omega)] at this; exact this
          by_cases e2 : A 3 f = 2
          · by_cases c5 : n ≤ A 5 f
            · exact act_st hc hm hI hH hS hT (fun d => f_X0_cutFile d (nI f) (nI n)) (fun s t g => f_X6_cuts s t g (nI f) (nI n)) (by
                obtain ⟨d', c1, c2⟩ := C_cut hc hI hf e2 c5
                exact ⟨A 4 f - n, d', cuA A f n, by omega, c1, c2, IA_cut hI hf c5, fun s1 g1 hm1 => M_cut hm1 hI hf e2 c5⟩) (by
                unfold f_X6_cut f_X6_cutError
                rw [M_isThere hm hf, gb_some, if_neg e0, if_neg (by decide), ei, gb_some, if_neg (by decide), M_isOpen hm hf e0, gb_some, if_pos e2, if_neg (by decide), show f_X6_at 0 (nI f) = some (nI (0 + 192 + 6 * f)) from M_at 0 f, gb_some, show nI (0 + 192 + 6 * f) + 2 = nI (0 + 192 + 6 * f + 2) from nI_add _ 2, m_rd (by omega), nI_clamp (by omega), hm.sz hf e0, if_neg (nI_nlt c5 (by omega)), gb_some, if_pos rfl])
            · exact refuse_st hc hm hI hH hS hT (fun d => f_X0_cutFile d (nI f) (nI n)) (r := -4) (by decide) (by
                show f_X0_cutFile (D 0) (nI f) (nI n) = _
                unfold f_X0_cutFile
                rw [C_isFile hc hI hf, gb_some, if_neg e0, if_neg (by decide), if_neg (nI_pos hn), if_pos (show nI n ≤ (64 : Int32) from nI_le (b := 64) c64 (by decide)), C_isOpen hc hI hf, gb_some, if_pos e2, if_neg (by decide), f_at_in (by decide) _ hf, gb_some, hc.sz hf, if_neg (nI_ge (by omega) (by omega))]) (by
                unfold f_X6_cut f_X6_cutError
                rw [M_isThere hm hf, gb_some, if_neg e0, if_neg (by decide), ei, gb_some, if_neg (by decide), M_isOpen hm hf e0, gb_some, if_pos e2, if_neg (by decide), show f_X6_at 0 (nI f) = some (nI (0 + 192 + 6 * f)) from M_at 0 f, gb_some, show nI (0 + 192 + 6 * f) + 2 = nI (0 + 192 + 6 * f + 2) from nI_add _ 2, m_rd (by omega), nI_clamp (by omega), hm.sz hf e0, if_pos (nI_lt (by omega) (by omega))]
                exact M_ref (by decide))
          · exact refuse_st hc hm hI hH hS hT (fun d => f_X0_cutFile d (nI f) (nI n)) (r := -4) (by decide) (by
              show f_X0_cutFile (D 0) (nI f) (nI n) = _
              unfold f_X0_cutFile
              rw [C_isFile hc hI hf, gb_some, if_neg e0, if_neg (by decide), if_neg (nI_pos hn), if_pos (show nI n ≤ (64 : Int32) from nI_le (b := 64) c64 (by decide)), C_isOpen hc hI hf, gb_some, if_neg e2, if_pos rfl]) (by
              unfold f_X6_cut f_X6_cutError
              rw [M_isThere hm hf, gb_some, if_neg e0, if_neg (by decide), ei, gb_some, if_neg (by decide), M_isOpen hm hf e0, gb_some, if_neg e2, if_pos rfl]
              exact M_ref (by decide))
        · exact refuse_st hc hm hI hH hS hT (fun d => f_X0_cutFile d (nI f) (nI n)) (r := -2) (by decide) (by
            show f_X0_cutFile (D 0) (nI f) (nI n) = _
            unfold f_X0_cutFile
            rw [C_isFile hc hI hf, gb_some, if_neg e0, if_neg (by decide), if_neg (nI_pos hn), if_neg (show ¬ nI n ≤ (64 : Int32) from nI_ge (a := 64) (by omega) hn)]) (by
            have ei : f_X6_in (nI n) 0 64 = some 0 := by
              have := M_in_n (m := n) (lo := 0) (hi := 64) hn (by decide) (by decide)
              rw [if_neg (by omega)] at this; exact this
            unfold f_X6_cut f_X6_cutError
            rw [M_isThere hm hf, gb_some, if_neg e0, if_neg (by decide), ei, gb_some, if_pos rfl]
            exact M_ref (by decide))
  · exact refuse_st hc hm hI hH hS hT (fun d => f_X0_cutFile d v1 v2) (r := -1) (by decide) (by
      show f_X0_cutFile (D 0) v1 v2 = _
      unfold f_X0_cutFile
      rw [C_isFile_out ho, gb_some, if_pos rfl]) (by
      unfold f_X6_cut f_X6_cutError
      rw [M_isThere_out ho, gb_some, if_pos rfl]
      exact M_ref (by decide))
end CALLS2
