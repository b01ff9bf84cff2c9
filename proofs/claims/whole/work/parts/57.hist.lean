/-! MATHEMATICS, 33: what is copied; the history, on both sides. -/
section HIST
variable {A : Nat → Nat → Nat} {s t g : Nat → Int32}
theorem RM.shift {s' : Nat → Int32} {b b' : Nat} (h : RM s b A) (e : ∀ x, x < 246 → s' (b' + x) = s (b + x)) : RM s' b' A := by
  have e2 : ∀ x y, x + y < 246 → s' (b' + x + y) = s (b + x + y) := fun x y h => by
    have := e (x + y) h
    rwa [← Nat.add_assoc, ← Nat.add_assoc] at this
  have e3 : ∀ x y z, x + y + z < 246 → s' (b' + x + y + z) = s (b + x + y + z) := fun x y z h => by
    have := e2 (x + y) z h
    rwa [← Nat.add_assoc, ← Nat.add_assoc] at this
  refine ⟨fun i hi => ⟨?_, ?_, fun h8 => ?_⟩, fun f hf => ⟨?_, ?_, fun h0 => ⟨?_, ?_, ?_, ?_⟩⟩, fun i hi => ?_, fun i hi => ?_⟩
  · rw [e i (by omega)]; exact (h.1 i hi).1
  · rw [e2 64 i (by omega)]; exact h.own hi
  · rw [e2 128 i (by omega)]; exact h.ix hi h8
  · rw [e2 192 (6 * f) (by omega)]; exact h.ex hf
  · rw [e3 192 (6 * f) 1 (by omega)]; exact h.ln hf
  · rw [e3 192 (6 * f) 2 (by omega)]; exact h.sz hf h0
  · rw [e3 192 (6 * f) 3 (by omega)]; exact h.sf hf h0
  · rw [e3 192 (6 * f) 4 (by omega)]; exact h.op hf h0
  · rw [e3 192 (6 * f) 5 (by omega)]; exact h.ld hf h0
  · rw [e2 240 i (by omega)]; exact h.2.2.1 i hi
  · rw [e2 242 i (by omega)]; exact h.2.2.2 i hi
/-- the row a copied over the row b -/
def cpS (s : Nat → Int32) (a b : Nat) : Nat → Int32 := fun k => if 246 * b ≤ k ∧ k < 246 * b + 246 then s (246 * a + (k - 246 * b)) else s k
def cpJ (s : Nat → Int32) (a b j : Nat) : Nat → Int32 := fun k => if 246 * b ≤ k ∧ k < 246 * b + j then s (246 * a + (k - 246 * b)) else s k
theorem cpS_in (s : Nat → Int32) (a b : Nat) {x : Nat} (h : x < 246) : cpS s a b (246 * b + x) = s (246 * a + x) := by
  unfold cpS
  rw [if_pos ⟨by omega, by omega⟩, show 246 * b + x - 246 * b = x by omega]
theorem cpS_out (s : Nat → Int32) (a : Nat) {b k : Nat} (h : k < 246 * b ∨ 246 * b + 246 ≤ k) : cpS s a b k = s k := by
  unfold cpS
  rw [if_neg (by omega)]
theorem M_copies (s t g : Nat → Int32) {a b : Nat} (hab : a ≠ b) (ha : a < 8) (hb : b < 8) : f_X6_copies s t g (nI a) (nI b) = some (cpS s a b) := by
  have ea : (246 : Int32) * nI a = nI (246 * a) := nI_mul 246 a
  have eb : (246 : Int32) * nI b = nI (246 * b) := nI_mul 246 b
  have e0 : cpJ s a b 0 = s := funext (fun k => by unfold cpJ; rw [if_neg (by omega)])
  have main : f_X6_copies_L2 t g (nI a) (nI b) gFu (nI 0) (cpJ s a b 0) = some (cpS s a b) := by
    refine loopN (fun fu j => f_X6_copies_L2 t g (nI a) (nI b) fu (nI j) (cpJ s a b j)) 246 _ (fun fu j hj => ?_) (fun fu => ?_) gFu 0 (by omega) (by decide)
    · show f_X6_copies_L2 t g (nI a) (nI b) (fu + 1) (nI j) (cpJ s a b j) = f_X6_copies_L2 t g (nI a) (nI b) fu (nI (j + 1)) (cpJ s a b (j + 1))
      have er : cpJ s a b j (246 * a + j) = s (246 * a + j) := by unfold cpJ; rw [if_neg (by omega)]
      have eu : upd (cpJ s a b j) (246 * b + j) (s (246 * a + j)) = cpJ s a b (j + 1) := funext (fun k => by
        by_cases c : k = 246 * b + j
        · subst c
          rw [upd_eq]
          unfold cpJ
          rw [if_pos ⟨by omega, by omega⟩, show 246 * b + j - 246 * b = j by omega]
        · rw [upd_ne _ _ c]
          unfold cpJ
          by_cases c2 : 246 * b ≤ k ∧ k < 246 * b + j
          · rw [if_pos c2, if_pos ⟨c2.1, by omega⟩]
          · rw [if_neg c2, if_neg (by omega)])
      rw [f_X6_copies_L2, if_neg (show ¬ (246 : Int32) ≤ nI j from nI_ge (b := 246) hj (by decide)), ea, eb, nI_add, nI_add, m_rd (by omega), m_rd (by omega), nI_clamp (by omega), nI_clamp (by omega), er, eu, glet_eq, glet_eq, nI_1]
    · show f_X6_copies_L2 t g (nI a) (nI b) (fu + 1) (nI 246) (cpJ s a b 246) = _
      rw [f_X6_copies_L2, if_pos (by decide)]
      rfl
  rw [e0] at main
  exact main
theorem RM_cp {a : Nat} (h : RM s (246 * a) A) (b : Nat) : RM (cpS s a b) (246 * b) A := h.shift (fun x hx => cpS_in s a b hx)
/-- what is behind: the entries of the history, the oldest one first -/
def hst (D : Nat → Nat → Nat → Int32) (o n : Nat) (s : Nat → Int32) : Prop := ∀ j, j < n → ∃ B, RC (D (3 + (o + j) % 5)) B ∧ RM s (246 * (j + 1)) B ∧ IA B
theorem sbI_mod {o k : Nat} (h : o + k < 10) : sbI (nI o) (nI k) = nI ((o + k) % 5) := by
  unfold sbI
  rw [nI_add]
  obtain ⟨m, hm, e⟩ : ∃ m, m < 10 ∧ o + k = m := ⟨o + k, h, rfl⟩
  rw [e]
  rcases (show m = 0 ∨ m = 1 ∨ m = 2 ∨ m = 3 ∨ m = 4 ∨ m = 5 ∨ m = 6 ∨ m = 7 ∨ m = 8 ∨ m = 9 by omega) with q | q | q | q | q | q | q | q | q | q <;> subst q <;> decide
theorem rec_few {D : Nat → Nat → Nat → Int32} {o n : Nat} (hh : hst D o n s) (ho : o < 5) (hn : n < 5) {q : Nat} (hq : q < 3) (hc : RC (D q) A) (hm : RM s 0 A) (hI : IA A) (hg : g 0 = nI n) (sav : Int32) (cs : Nat → Int32) (len : Int32) (gc : Nat → Int32) : ∃ D' s' g', f_X1_record D sav (nI o) (nI n) cs len gc q = some (D', nI o, nI (n + 1)) ∧ f_X6_records s t g = some (s', g') ∧ g' 0 = nI (n + 1) ∧ (∀ k, k ≠ 0 → g' k = g k) ∧ (∀ i, i < 3 → D' i = D i) ∧ (∀ x, x < 246 → s' x = s x) ∧ (∀ x, 1476 ≤ x → s' x = s x) ∧ hst D' o (n + 1) s' := by
  have es := sbI_mod (o := o) (k := n) (by omega)
  have hb : (o + n) % 5 < 5 := Nat.mod_lt _ (by decide)
  refine ⟨dcp D (3 + (o + n) % 5) q, cpS s 0 (n + 1), upd g 0 (nI (n + 1)), ?_, ?_, upd_eq _ _ _, fun k hk => upd_ne _ _ hk, fun i hi => ?_, fun x hx => cpS_out _ _ (by omega), fun x hx => cpS_out _ _ (by omega), fun j hj => ?_⟩
  · unfold f_X1_record
    rw [if_neg (fun z => by have := (nI_eq (a := n) (b := 5) (by omega) (by decide)).1 z; omega), es, if_pos ⟨nI_pos' (by omega), by rw [nI_clamp (by omega)]; exact hb⟩, nI_clamp (by omega), nI_1]
  · have ec : f_X6_copies s t (upd g 0 (nI (n + 1))) 0 (nI (n + 1)) = some (cpS s 0 (n + 1)) := M_copies s t _ (a := 0) (b := n + 1) (by omega) (by omega) (by omega)
    unfold f_X6_records
    rw [hg, if_neg (fun z => by have := (nI_eq (a := n) (b := 5) (by omega) (by decide)).1 z; omega), nI_1, glet_eq, upd_eq, ec, gb_some]
  · unfold dcp
    rw [up_ne _ _ (by omega)]
  · by_cases c : j = n
    · subst c
      refine ⟨A, ?_, RM_cp (a := 0) hm (j + 1), hI⟩
      unfold dcp
      rw [up_eq]; exact hc
    · obtain ⟨B, q1, q2, q3⟩ := hh j (by omega)
      refine ⟨B, ?_, q2.shift (fun x hx => cpS_out _ _ (by omega)), q3⟩
      unfold dcp
      rw [up_ne _ _ (by omega)]; exact q1
theorem rec_full {D : Nat → Nat → Nat → Int32} {o : Nat} (hh : hst D o 5 s) (ho : o < 5) {q : Nat} (hq : q < 3) (hc : RC (D q) A) (hm : RM s 0 A) (hI : IA A) (hg : g 0 = nI 5) (sav : Int32) (cs : Nat → Int32) (len : Int32) (gc : Nat → Int32) : ∃ D' s' g', f_X1_record D sav (nI o) (nI 5) cs len gc q = some (D', nI ((o + 1) % 5), nI 5) ∧ f_X6_records s t g = some (s', g') ∧ g' 0 = nI 5 ∧ (∀ k, k ≠ 0 → g' k = g k) ∧ (∀ i, i < 3 → D' i = D i) ∧ (∀ x, x < 246 → s' x = s x) ∧ (∀ x, 1476 ≤ x → s' x = s x) ∧ hst D' ((o + 1) % 5) 5 s' := by
  have e1 : (nI o + 1) - (nI o + 1) / 5 * 5 = nI ((o + 1) % 5) := sbI_mod (o := o) (k := 1) (by omega)
  have hb1 : (o + 1) % 5 < 5 := Nat.mod_lt _ (by decide)
  have es := sbI_mod (o := (o + 1) % 5) (k := 4) (by omega)
  have hb : ((o + 1) % 5 + 4) % 5 < 5 := Nat.mod_lt _ (by decide)
  have st : ∀ fu k y, 1 ≤ k → k < 5 → f_X6_records_L10 t (fu + 1) (nI k) y g = f_X6_records_L10 t fu (nI (k + 1)) (cpS y (k + 1) k) g := fun fu k y h1 h5 => by
    rw [f_X6_records_L10, if_neg (show ¬ (5 : Int32) ≤ nI k from nI_ge (b := 5) h5 (by decide)), nI_1, M_copies y t g (a := k + 1) (b := k) (by omega) (by omega) (by omega), gb_some, glet_eq]
  refine ⟨dcp D (3 + ((o + 1) % 5 + 4) % 5) q, cpS (cpS (cpS (cpS (cpS s 2 1) 3 2) 4 3) 5 4) 0 5, upd (upd g 0 (nI 4)) 0 (nI 5), ?_, ?_, upd_eq _ _ _, fun k hk => by rw [upd_ne _ _ hk, upd_ne _ _ hk], fun i hi => ?_, fun x hx => ?_, fun x hx => ?_, fun j hj => ?_⟩
  · have e4 : nI 5 - 1 = nI 4 := by decide
    unfold f_X1_record
    rw [if_pos (show nI 5 = 5 from rfl), e1, e4, glet_eq, glet_eq, es, if_pos ⟨nI_pos' (by omega), by rw [nI_clamp (by omega)]; exact hb⟩, nI_clamp (by omega), nI_1]
  · have e4 : nI 5 - 1 = nI 4 := by decide
    have e5 : nI 4 + 1 = nI 5 := by decide
    unfold f_X6_records
    rw [hg, if_pos (show nI 5 = 5 from rfl)]
    have s1 := st (gFu - 1) 1 s (by decide) (by decide)
    have s1' : f_X6_records_L10 t gFu 1 s g = f_X6_records_L10 t (gFu - 1) (nI 2) (cpS s 2 1) g := s1
    have s2 : f_X6_records_L10 t (gFu - 1) (nI 2) (cpS s 2 1) g = f_X6_records_L10 t (gFu - 2) (nI 3) (cpS (cpS s 2 1) 3 2) g := st (gFu - 2) 2 _ (by decide) (by decide)
    have s3 : f_X6_records_L10 t (gFu - 2) (nI 3) (cpS (cpS s 2 1) 3 2) g = f_X6_records_L10 t (gFu - 3) (nI 4) (cpS (cpS (cpS s 2 1) 3 2) 4 3) g := st (gFu - 3) 3 _ (by decide) (by decide)
    have s4 : f_X6_records_L10 t (gFu - 3) (nI 4) (cpS (cpS (cpS s 2 1) 3 2) 4 3) g = f_X6_records_L10 t (gFu - 5 + 1) (nI 5) (cpS (cpS (cpS (cpS s 2 1) 3 2) 4 3) 5 4) g := st (gFu - 4) 4 _ (by decide) (by decide)
    rw [s1', s2, s3, s4, f_X6_records_L10, if_pos (by decide), hg, e4, glet_eq, upd_eq, e5, glet_eq, upd_eq]
    have ec : f_X6_copies (cpS (cpS (cpS (cpS s 2 1) 3 2) 4 3) 5 4) t (upd (upd g 0 (nI 4)) 0 (nI 5)) 0 (nI 5) = some (cpS (cpS (cpS (cpS (cpS s 2 1) 3 2) 4 3) 5 4) 0 5) := M_copies _ t _ (a := 0) (b := 5) (by decide) (by decide) (by decide)
    rw [ec, gb_some]
  · unfold dcp
    rw [up_ne _ _ (by omega)]
  · rw [cpS_out _ _ (by omega), cpS_out _ _ (by omega), cpS_out _ _ (by omega), cpS_out _ _ (by omega), cpS_out _ _ (by omega)]
  · rw [cpS_out _ _ (by omega), cpS_out _ _ (by omega), cpS_out _ _ (by omega), cpS_out _ _ (by omega), cpS_out _ _ (by omega)]
  · by_cases c : j = 4
    · subst c
      refine ⟨A, ?_, hm.shift (fun x hx => ?_), hI⟩
      · unfold dcp
        rw [up_eq]; exact hc
      · rw [show 246 * (4 + 1) + x = 246 * 5 + x by omega, cpS_in _ _ _ hx, cpS_out _ _ (by omega), cpS_out _ _ (by omega), cpS_out _ _ (by omega), cpS_out _ _ (by omega)]
    · obtain ⟨B, q1, q2, q3⟩ := hh (j + 1) (by omega)
      refine ⟨B, ?_, q2.shift (fun x hx => ?_), q3⟩
      · unfold dcp
        rw [up_ne _ _ (by omega), show ((o + 1) % 5 + j) % 5 = (o + (j + 1)) % 5 by omega]; exact q1
      · rcases (show j = 0 ∨ j = 1 ∨ j = 2 ∨ j = 3 by omega) with e | e | e | e
        · subst e
          rw [cpS_out _ _ (by omega), cpS_out _ _ (by omega), cpS_out _ _ (by omega), cpS_out _ _ (by omega), show 246 * (0 + 1) + x = 246 * 1 + x by omega, cpS_in _ _ _ hx]
        · subst e
          rw [cpS_out _ _ (by omega), cpS_out _ _ (by omega), cpS_out _ _ (by omega), show 246 * (1 + 1) + x = 246 * 2 + x by omega, cpS_in _ _ _ hx, cpS_out _ _ (by omega)]
        · subst e
          rw [cpS_out _ _ (by omega), cpS_out _ _ (by omega), show 246 * (2 + 1) + x = 246 * 3 + x by omega, cpS_in _ _ _ hx, cpS_out _ _ (by omega), cpS_out _ _ (by omega)]
        · subst e
          rw [cpS_out _ _ (by omega), show 246 * (3 + 1) + x = 246 * 4 + x by omega, cpS_in _ _ _ hx, cpS_out _ _ (by omega), cpS_out _ _ (by omega), cpS_out _ _ (by omega)]
theorem rec_both {D : Nat → Nat → Nat → Int32} {o n : Nat} (hh : hst D o n s) (ho : o < 5) (hn : n ≤ 5) {q : Nat} (hq : q < 3) (hc : RC (D q) A) (hm : RM s 0 A) (hI : IA A) (hg : g 0 = nI n) (sav : Int32) (cs : Nat → Int32) (len : Int32) (gc : Nat → Int32) : ∃ D' o' n' s' g', o' < 5 ∧ n' ≤ 5 ∧ f_X1_record D sav (nI o) (nI n) cs len gc q = some (D', nI o', nI n') ∧ f_X6_records s t g = some (s', g') ∧ g' 0 = nI n' ∧ (∀ k, k ≠ 0 → g' k = g k) ∧ (∀ i, i < 3 → D' i = D i) ∧ (∀ x, x < 246 → s' x = s x) ∧ (∀ x, 1476 ≤ x → s' x = s x) ∧ hst D' o' n' s' := by
  by_cases c : n = 5
  · subst c
    obtain ⟨D', s', g', h⟩ := rec_full hh ho hq hc hm hI hg sav cs len gc
    exact ⟨D', (o + 1) % 5, 5, s', g', Nat.mod_lt _ (by decide), Nat.le_refl _, h⟩
  · obtain ⟨D', s', g', h⟩ := rec_few hh ho (by omega) hq hc hm hI hg sav cs len gc
    exact ⟨D', o, n + 1, s', g', ho, by omega, h⟩
end HIST
