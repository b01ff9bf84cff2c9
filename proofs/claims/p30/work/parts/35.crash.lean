/-! MATHEMATICS, 11: crash on both sides. -/
section CRASH
variable {d : Nat → Nat → Int32} {A : Nat → Nat → Nat} {s t g : Nat → Int32}
theorem IA_lend (hI : IA A) {i v : Nat} (h1 : 1 ≤ v) (h2 : v ≤ 16) : IA (as A 7 i v) := by
  refine IA_of (hI.b.congr (fun k i hk => as_ne _ _ (by omega))) (fun q hq => ?_) ?_
  · have z := hI.2.2.2.1 q hq
    rw [as_ne (k' := 5) _ _ (by omega), as_ne (k' := 4) _ _ (by omega), as_ne (k' := 6) _ _ (by omega), as_ne (k' := 3) _ _ (by omega)]
    by_cases e : q = i
    · subst e; rw [as_eq]; exact ⟨z.2.1, h1, h2, z.2.2.2.2.2⟩
    · rw [as_ne _ _ (by omega)]; exact ⟨z.2.1, z.2.2.2⟩
  · rw [as_ne _ _ (by omega), as_ne _ _ (by omega)]; exact hI.2.2.2.2
def cr1 (A : Nat → Nat → Nat) (j : Nat) : Nat → Nat → Nat := as (as (as A 5 j (A 6 j)) 7 j 1) 3 j 1
def crJ (A : Nat → Nat → Nat) : Nat → Nat → Nat → Nat
  | 0 => A
  | j + 1 => if crJ A j 3 j = 0 then crJ A j else cr1 (crJ A j) j
def crN (A : Nat → Nat → Nat) : Nat → Nat
  | 0 => 0
  | j + 1 => crN A j + if crJ A j 3 j = 0 then 0 else crJ A j 5 j - crJ A j 6 j
def crA (A : Nat → Nat → Nat) : Nat → Nat → Nat := as (crJ A 8) 9 3 (crJ A 8 9 3 + crN A 8)
theorem IA_cr1 (hI : IA A) {j : Nat} (hj : j < 8) (h0 : A 3 j ≠ 0) : IA (cr1 A j) := by
  have z := hI.2.2.2.1 j hj
  refine IA_mode (IA_lend (IA_as hI (Or.inl rfl) (fun _ _ => ⟨?_, fun h => Nat.le_refl _⟩) (fun e => absurd e (by decide))) (by decide) (by decide)) ?_ (Or.inl rfl)
  · have := z.2.2.2.2.2.1 h0
    omega
  · rw [as_ne _ _ (by omega), as_ne _ _ (by omega)]; exact h0
theorem IA_crJ (hI : IA A) : ∀ {j : Nat}, j ≤ 8 → IA (crJ A j) := by
  intro j
  induction j with
  | zero => intro _; exact hI
  | succ j ih =>
    intro h
    have q := ih (by omega)
    show IA (if crJ A j 3 j = 0 then crJ A j else cr1 (crJ A j) j)
    by_cases e : crJ A j 3 j = 0
    · rw [if_pos e]; exact q
    · rw [if_neg e]; exact IA_cr1 q (by omega) e
theorem IA_crash (hI : IA A) : IA (crA A) := IA_as (IA_crJ hI (Nat.le_refl _)) (Or.inr (Or.inr rfl)) (fun e => absurd e (by decide)) (fun e => absurd e (by decide))
theorem C_crash (h : RC d A) (hI : IA A) : ∃ d', f_X0_crashAll d = some (nI (crN A 8), d') ∧ RC d' (crA A) := by
  have H : ∃ r, f_X0_crashAll d = some r ∧ (∃ d', r = (nI (crN A 8), d') ∧ RC d' (crA A)) := by
    refine loopR (fun fu j d => f_X0_crashAll_L4 fu (nI (crN A j)) (nI j) d) 8 (fun j d => RC d (crJ A j)) (fun r => ∃ d', r = (nI (crN A 8), d') ∧ RC d' (crA A)) (fun fu j x hj hx => ?_) (fun fu x hx => ?_) gFu 0 d (by omega) (by decide) h
    · have q := IA_crJ hI (j := j) (by omega)
      have hm := q.2.2.2.1 j hj
      refine Or.inl ?_
      show ∃ x', f_X0_crashAll_L4 (fu + 1) (nI (crN A j)) (nI j) x = f_X0_crashAll_L4 fu (nI (crN A j + if crJ A j 3 j = 0 then 0 else crJ A j 5 j - crJ A j 6 j)) (nI (j + 1)) x' ∧ RC x' (if crJ A j 3 j = 0 then crJ A j else cr1 (crJ A j) j)
      rw [f_X0_crashAll_L4, if_neg (by rw [l_lit8 (by omega)]; omega), C_isFile hx q hj, gb_some]
      by_cases e : crJ A j 3 j = 0
      · rw [if_pos e, if_pos e, if_pos e, if_pos rfl, glet_eq, nI_1]
        exact ⟨_, rfl, hx⟩
      · have h1 := RC_set (B' := as (crJ A j) 5 j (crJ A j 6 j)) hx (k := 5) (j := j) (v := crJ A j 6 j) (by decide) (by decide) (as_eq _ _ _ _) (fun k' i q => as_ne _ _ q)
        have h2 := RC_set (B' := as (as (crJ A j) 5 j (crJ A j 6 j)) 7 j 1) h1 (k := 7) (j := j) (v := 1) (by decide) (by decide) (as_eq _ _ _ _) (fun k' i q => as_ne _ _ q)
        have h3 := RC_set (B' := cr1 (crJ A j) j) h2 (k := 3) (j := j) (v := 1) (by decide) (by decide) (as_eq _ _ _ _) (fun k' i q => as_ne _ _ q)
        rw [if_neg e, if_neg e, if_neg e, if_neg (by decide), f_at_in (by decide) _ hj, gb_some, f_at_in (by decide) _ hj, gb_some, glet_eq, gb_some, f_put_in (by decide) _ hj, gb_some, glet_eq, f_put_in (by decide) _ hj, gb_some, glet_eq, f_put_in (by decide) _ hj, gb_some, glet_eq, glet_eq, hx.sz hj, hx.sf hj, nI_sub (hm.2.2.2.2.2.1 e), nI_add, nI_1]
        exact ⟨_, rfl, h3⟩
    · refine ⟨_, ?_, _, rfl, RC_set (B' := crA A) hx (k := 9) (j := 3) (v := crJ A 8 9 3 + crN A 8) (by decide) (by decide) (as_eq _ _ _ _) (fun k' i q => as_ne _ _ q)⟩
      show f_X0_crashAll_L4 (fu + 1) _ _ _ = _
      have eg : f_X3_grow 4 (x 9) 3 (nI (crN A 8)) = some (upd (x 9) 3 (x 9 3 + nI (crN A 8))) := f_grow_in (by decide) (x 9) (i := 3) (by decide) _
      rw [f_X0_crashAll_L4, if_pos (by decide), eg, gb_some, glet_eq, hx.tt (by decide), nI_add]
  obtain ⟨r, e, d', rfl, p⟩ := H
  exact ⟨d', e, p⟩
end CRASH
