/-! MATHEMATICS, 10: mend on both sides. -/
section MEND
variable {d : Nat → Nat → Int32} {A : Nat → Nat → Nat} {s t g : Nat → Int32}
def mdJ (A : Nat → Nat → Nat) : Nat → Nat → Nat → Nat
  | 0 => A
  | j + 1 => if mdJ A j 3 j = 1 then gv (mdJ A j) j else mdJ A j
def mdN (A : Nat → Nat → Nat) : Nat → Nat
  | 0 => 0
  | j + 1 => mdN A j + if mdJ A j 3 j = 1 then mdJ A j 4 j - mdJ A j 5 j else 0
theorem IA_mend (hI : IA A) : ∀ {j : Nat}, j ≤ 8 → IA (mdJ A j) := by
  intro j
  induction j with
  | zero => intro _; exact hI
  | succ j ih =>
    intro h
    have q := ih (by omega)
    show IA (if mdJ A j 3 j = 1 then gv (mdJ A j) j else mdJ A j)
    by_cases e : mdJ A j 3 j = 1
    · rw [if_pos e]; exact IA_gv q (by omega)
    · rw [if_neg e]; exact q
theorem C_mend (h : RC d A) (hI : IA A) : ∃ d', f_X0_mendAll d = some (nI (mdN A 8), d') ∧ RC d' (mdJ A 8) := by
  have H : ∃ r, f_X0_mendAll d = some r ∧ (∃ d', r = (nI (mdN A 8), d') ∧ RC d' (mdJ A 8)) := by
    refine loopR (fun fu j d => f_X0_mendAll_L4 fu (nI (mdN A j)) (nI j) d) 8 (fun j d => RC d (mdJ A j)) (fun r => ∃ d', r = (nI (mdN A 8), d') ∧ RC d' (mdJ A 8)) (fun fu j x hj hx => ?_) (fun fu x hx => ?_) gFu 0 d (by omega) (by decide) h
    · have q := IA_mend hI (j := j) (by omega)
      have hm := q.2.2.2.1 j hj
      refine Or.inl ?_
      show ∃ x', f_X0_mendAll_L4 (fu + 1) (nI (mdN A j)) (nI j) x = f_X0_mendAll_L4 fu (nI (mdN A j + if mdJ A j 3 j = 1 then mdJ A j 4 j - mdJ A j 5 j else 0)) (nI (j + 1)) x' ∧ RC x' (if mdJ A j 3 j = 1 then gv (mdJ A j) j else mdJ A j)
      rw [f_X0_mendAll_L4, if_neg (by rw [l_lit8 (by omega)]; omega)]
      by_cases e : mdJ A j 3 j = 1
      · obtain ⟨d1, e1, h1⟩ := C_giveBack hx q hj
        rw [if_pos e, if_pos e, f_holds_t (by decide) _ hj (by rw [hx.md hj, e]; rfl), gb_some, if_neg (by decide), e1, gbb2_some, glet_eq, glet_eq, nI_add, nI_1]
        exact ⟨_, rfl, h1⟩
      · rw [if_neg e, if_neg e, f_holds_f (by decide) _ hj (by rw [hx.md hj]; exact fun z => e ((nI_eq (b := 1) (by omega) (by decide)).1 z)), gb_some, if_pos rfl, glet_eq, nI_1]
        exact ⟨_, rfl, hx⟩
    · exact ⟨_, by
        show f_X0_mendAll_L4 (fu + 1) _ _ _ = _
        rw [f_X0_mendAll_L4, if_pos (by decide)], _, rfl, hx⟩
  obtain ⟨r, e, d', rfl, p⟩ := H
  exact ⟨d', e, p⟩
end MEND
