/-! MATHEMATICS, 12: crash, the reference's side. -/
section CRASHM
variable {A : Nat → Nat → Nat} {s t g : Nat → Int32}
theorem M_crash (h : RM s 0 A) (hI : IA A) : ∃ s', f_X6_crashes s t g = some (nI (crN A 8), s') ∧ RM s' 0 (crA A) ∧ Out 0 s s' := by
  have H : ∃ r, f_X6_crashes s t g = some r ∧ (∃ s', r = (nI (crN A 8), s') ∧ RM s' 0 (crA A) ∧ Out 0 s s') := by
    refine loopR (fun fu j x => f_X6_crashes_L4 t g fu (nI (crN A j)) (nI j) x) 8 (fun j x => RM x 0 (crJ A j) ∧ Out 0 s x) (fun r => ∃ s', r = (nI (crN A 8), s') ∧ RM s' 0 (crA A) ∧ Out 0 s s') (fun fu j x hj hx => ?_) (fun fu x hx => ?_) gFu 0 s (by omega) (by decide) ⟨h, Out.rf⟩
    · have q := IA_crJ hI (j := j) (by omega)
      have hm := q.2.2.2.1 j hj
      refine Or.inl ?_
      show ∃ x', f_X6_crashes_L4 t g (fu + 1) (nI (crN A j)) (nI j) x = f_X6_crashes_L4 t g fu (nI (crN A j + if crJ A j 3 j = 0 then 0 else crJ A j 5 j - crJ A j 6 j)) (nI (j + 1)) x' ∧ RM x' 0 (if crJ A j 3 j = 0 then crJ A j else cr1 (crJ A j) j) ∧ Out 0 s x'
      rw [f_X6_crashes_L4, if_neg (by rw [l_lit8 (by omega)]; omega), show f_X6_at 0 (nI j) = some (nI (0 + 192 + 6 * j)) from M_at 0 j, gb_some, M_isThere hx.1 hj, gb_some]
      by_cases e : crJ A j 3 j = 0
      · rw [if_pos e, if_pos e, if_pos e, if_pos rfl, glet_eq, nI_1]
        exact ⟨_, rfl, hx⟩
      · have a2 : nI (0 + 192 + 6 * j) + 2 = nI (0 + 192 + 6 * j + 2) := nI_add _ 2
        have a3 : nI (0 + 192 + 6 * j) + 3 = nI (0 + 192 + 6 * j + 3) := nI_add _ 3
        have a4 : nI (0 + 192 + 6 * j) + 4 = nI (0 + 192 + 6 * j + 4) := nI_add _ 4
        have a5 : nI (0 + 192 + 6 * j) + 5 = nI (0 + 192 + 6 * j + 5) := nI_add _ 5
        have h1 := RM_sz (B' := as (crJ A j) 5 j (crJ A j 6 j)) hx.1 hj (as_eq _ _ _ _) (fun k' i q => as_ne _ _ q)
        have h2 := RM_ld (B' := as (as (crJ A j) 5 j (crJ A j 6 j)) 7 j 1) h1 hj (as_eq _ _ _ _) (fun k' i q => as_ne _ _ q)
        have h3 := RM_mode (B' := cr1 (crJ A j) j) h2 hj (v := 0) (by rw [as_ne _ _ (by omega), as_ne _ _ (by omega)]; exact e) (by unfold cr1; rw [as_eq]; decide) (by unfold cr1; rw [as_eq]; rfl) (fun k' i q => as_ne _ _ q)
        rw [if_neg e, if_neg e, if_neg e, if_neg (by decide), a2, a3, a4, a5, m_rd (by omega), m_rd (by omega), glet_eq, m_rd (by omega), m_rd (by omega), glet_eq, m_rd (by omega), glet_eq, m_rd (by omega), glet_eq, glet_eq, nI_clamp (by omega), nI_clamp (by omega), nI_clamp (by omega), nI_clamp (by omega), hx.1.sz hj e, hx.1.sf hj e, nI_sub (hm.2.2.2.2.2.1 e), nI_add, nI_1]
        exact ⟨_, rfl, h3, ((hx.2.up (by omega) (by omega)).up (by omega) (by omega)).up (by omega) (by omega)⟩
    · have h3 := RM_tt (B' := crA A) hx.1 (j := 3) (v := crJ A 8 9 3 + crN A 8) (by decide) (as_eq _ _ _ _) (fun k' i q => as_ne _ _ q)
      refine ⟨_, ?_, _, rfl, h3, hx.2.up (by omega) (by omega)⟩
      show f_X6_crashes_L4 t g (fu + 1) _ _ _ = _
      have ev : x 245 = nI (crJ A 8 9 3) := hx.1.2.2.2 3 (by decide)
      have ec : ((245 : Int32)).toNatClampNeg = 245 := by decide
      rw [f_X6_crashes_L4, if_pos (by decide), if_pos (by decide), if_pos (by decide), glet_eq, ec, ev, nI_add]
  obtain ⟨r, e, s', rfl, p⟩ := H
  exact ⟨s', e, p⟩
end CRASHM
