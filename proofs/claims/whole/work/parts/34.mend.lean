/-! MATHEMATICS, 10: mend on both sides. -/
section MEND
variable {d : Nat → Nat → Int32} {A : Nat → Nat → Nat} {s t g : Nat → Int32}
def mdJ (A : Nat → Nat → Nat) : Nat → Nat → Nat → Nat
  | 0 => A
  | j + 1 => if mdJ A j 3 j = 1 then gv (mdJ A j) j else mdJ A j
def mdN (A : Nat → Nat → Nat) : Nat → Nat
  | 0 => 0
  | j + 1 => mdN A j + if mdJ A j 3 j = 1 then mdJ A j 4 j - mdJ A j 5 j else 0
theorem IA_mend (hI : IA A) : ∀ {j : Nat}, j ≤ 8 → IA (mdJ A j) := by
  intro j
  induction j with
  | zero => intro _; exact hI
  | succ j ih =>
    intro h
    have q := ih (by omega)
    show IA (if mdJ A j 3 j = 1 then gv (mdJ A j) j else mdJ A j)
    by_cases e : mdJ A j 3 j = 1
    · rw [if_pos e]; exact IA_gv q (by omega)
    · rw [if_neg e]; exact q
theorem C_mend (h : RC d A) (hI : IA A) : ∃ d', f_X0_mendAll d = some (nI (mdN A 8), d') ∧ RC d' (mdJ A 8) := by
  have H : ∃ r, f_X0_mendAll d = some r ∧ (∃ d', r = (nI (mdN A 8), d') ∧ RC d' (mdJ A 8)) := by
    refine loopR (fun fu j d => f_X0_mendAll_L4 fu (nI (mdN A j)) (nI j) d) 8 (fun j d => RC d (mdJ A j)) (fun r => ∃ d', r = (nI (mdN A 8), d') ∧ RC d' (mdJ A 8)) (fun fu j x hj hx => ?_) (fun fu x hx => ?_) gFu 0 d (by omega) (by decide) h
    · have q := IA_mend hI (j := j) (by omega)
      have hm := q.2.2.2.1 j hj
      refine Or.inl ?_
      show ∃ x', f_X0_mendAll_L4 (fu + 1) (nI (mdN A j)) (nI j) x = f_X0_mendAll_L4 fu (nI (mdN A j + if mdJ A j 3 j = 1 then mdJ A j 4 j - mdJ A j 5 j else 0)) (nI (j + 1)) x' ∧ RC x' (if mdJ A j 3 j = 1 then gv (mdJ A j) j else mdJ A j)
      rw [f_X0_mendAll_L4, if_neg (by rw [l_lit8 (by omega)]; omega)]
      by_cases e : mdJ A j 3 j = 1
      · obtain ⟨d1, e1, h1⟩ := C_giveBack hx q hj
        rw [if_pos e, if_pos e, f_holds_t (by decide) _ hj (by rw [hx.md hj, e]; rfl), gb_some, if_neg (by decide), e1, gbb2_some, glet_eq, glet_eq, nI_add, nI_1]
        exact ⟨_, rfl, h1⟩
      · rw [if_neg e, if_neg e, f_holds_f (by decide) _ hj (by rw [hx.md hj]; exact fun z => e ((nI_eq (b := 1) (by omega) (by decide)).1 z)), gb_some, if_pos rfl, glet_eq, nI_1]
        exact ⟨_, rfl, hx⟩
    · exact ⟨_, by
        show f_X0_mendAll_L4 (fu + 1) _ _ _ = _
        rw [f_X0_mendAll_L4, if_pos (by decide)], _, rfl, hx⟩
  obtain ⟨r, e, d', rfl, p⟩ := H
  exact ⟨d', e, p⟩
theorem M_mend (h : RM s 0 A) (hI : IA A) : ∃ s', f_X6_mends s t g = some (nI (mdN A 8), s') ∧ RM s' 0 (mdJ A 8) ∧ Out 0 s s' := by
  have H : ∃ r, f_X6_mends s t g = some r ∧ (∃ s', r = (nI (mdN A 8), s') ∧ RM s' 0 (mdJ A 8) ∧ Out 0 s s') := by
    refine loopR (fun fu j x => f_X6_mends_L4 t g fu (nI (mdN A j)) (nI j) x) 8 (fun j x => RM x 0 (mdJ A j) ∧ Out 0 s x) (fun r => ∃ s', r = (nI (mdN A 8), s') ∧ RM s' 0 (mdJ A 8) ∧ Out 0 s s') (fun fu j x hj hx => ?_) (fun fu x hx => ?_) gFu 0 s (by omega) (by decide) ⟨h, Out.rf⟩
    · have q := IA_mend hI (j := j) (by omega)
      have hm := q.2.2.2.1 j hj
      have z0 : ∀ n : Nat, nI n + 0 = nI (n + 0) := fun n => nI_add n 0
      refine Or.inl ?_
      show ∃ x', f_X6_mends_L4 t g (fu + 1) (nI (mdN A j)) (nI j) x = f_X6_mends_L4 t g fu (nI (mdN A j + if mdJ A j 3 j = 1 then mdJ A j 4 j - mdJ A j 5 j else 0)) (nI (j + 1)) x' ∧ RM x' 0 (if mdJ A j 3 j = 1 then gv (mdJ A j) j else mdJ A j) ∧ Out 0 s x'
      rw [f_X6_mends_L4, if_neg (by rw [l_lit8 (by omega)]; omega), M_isThere hx.1 hj, gb_some]
      by_cases e0 : mdJ A j 3 j = 0
      · rw [if_neg (show ¬ mdJ A j 3 j = 1 by omega), if_neg (show ¬ mdJ A j 3 j = 1 by omega), if_pos (by rw [if_pos e0]), glet_eq, glet_eq, nI_1, z0]
        exact ⟨_, rfl, hx⟩
      · rw [if_neg (by rw [if_neg e0]; decide), M_isOpen hx.1 hj e0, gb_some]
        by_cases e : mdJ A j 3 j = 1
        · obtain ⟨s1, e1, h1, o1⟩ := M_givesBack (t := t) (g := g) hx.1 q (by omega) hj e0
          have e3 : f_X6_givesBack x t g 0 (nI j) = some (nI (mdJ A j 4 j - mdJ A j 5 j), s1) := e1
          rw [if_pos e, if_pos e, if_pos (by rw [if_neg (by omega)]), e3, gbb2_some, glet_eq, glet_eq, nI_add, nI_1]
          exact ⟨_, rfl, h1, hx.2.tr o1⟩
        · rw [if_neg e, if_neg e, if_neg (by rw [if_pos (by omega)]; decide), glet_eq, glet_eq, nI_1, z0]
          exact ⟨_, rfl, hx⟩
    · exact ⟨_, by
        show f_X6_mends_L4 t g (fu + 1) _ _ _ = _
        rw [f_X6_mends_L4, if_pos (by decide)], _, rfl, hx⟩
  obtain ⟨r, e, s', rfl, p⟩ := H
  exact ⟨s', e, p⟩
end MEND
