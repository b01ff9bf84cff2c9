/-! MATHEMATICS, 23: free runs. -/
section RUNS
variable {d : Nat → Nat → Int32} {A : Nat → Nat → Nat} {s t g : Nat → Int32}
def rnF (A : Nat → Nat → Nat) : Nat → Nat → Nat
  | 0, _ => 0
  | n + 1, k => if A 1 k = 8 then rnF A n (k + 1) + 1 else 0
/-- how many blocks are free from k on -/
def rn (A : Nat → Nat → Nat) (k : Nat) : Nat := rnF A (64 - k) k
theorem rnF_spec (A : Nat → Nat → Nat) : ∀ n k, rnF A n k ≤ n ∧ (∀ i, i < rnF A n k → A 1 (k + i) = 8) ∧ (rnF A n k < n → A 1 (k + rnF A n k) ≠ 8) := by
  intro n
  induction n with
  | zero => intro k; exact ⟨Nat.le_refl _, fun i h => absurd h (Nat.not_lt_zero _), fun h => absurd h (Nat.lt_irrefl _)⟩
  | succ n ih =>
    intro k
    have q := ih (k + 1)
    show (if A 1 k = 8 then rnF A n (k + 1) + 1 else 0) ≤ n + 1 ∧ (∀ i, i < (if A 1 k = 8 then rnF A n (k + 1) + 1 else 0) → A 1 (k + i) = 8) ∧ ((if A 1 k = 8 then rnF A n (k + 1) + 1 else 0) < n + 1 → A 1 (k + (if A 1 k = 8 then rnF A n (k + 1) + 1 else 0)) ≠ 8)
    by_cases c : A 1 k = 8
    · rw [if_pos c]
      refine ⟨by omega, fun i hi => ?_, fun hn => ?_⟩
      · by_cases c0 : i = 0
        · rw [c0]; exact c
        · have := q.2.1 (i - 1) (by omega)
          rwa [show k + 1 + (i - 1) = k + i by omega] at this
      · have := q.2.2 (by omega)
        rwa [show k + 1 + rnF A n (k + 1) = k + (rnF A n (k + 1) + 1) by omega] at this
    · rw [if_neg c]
      exact ⟨by omega, fun i hi => absurd hi (Nat.not_lt_zero _), fun _ => c⟩
theorem rn_spec (A : Nat → Nat → Nat) {k : Nat} (hk : k ≤ 64) : k + rn A k ≤ 64 ∧ (∀ i, i < rn A k → A 1 (k + i) = 8) ∧ (k + rn A k < 64 → A 1 (k + rn A k) ≠ 8) := by
  have q := rnF_spec A (64 - k) k
  exact ⟨by show k + rnF A (64 - k) k ≤ 64; omega, q.2.1, fun h => q.2.2 (by have : k + rnF A (64 - k) k < 64 := h; omega)⟩
theorem rn_pos {k : Nat} (hk : k < 64) : 0 < rn A k ↔ A 1 k = 8 := by
  have q := rn_spec A (show k ≤ 64 by omega)
  constructor
  · intro h; exact q.2.1 0 h
  · intro h
    rcases Nat.eq_zero_or_pos (rn A k) with e | e
    · rw [e] at q; exact absurd h (q.2.2 (by omega))
    · exact e
/-- the length of the free run that begins at k -/
def rs (A : Nat → Nat → Nat) (k : Nat) : Nat := if A 1 k = 8 ∧ (k = 0 ∨ A 1 (k - 1) ≠ 8) then rn A k else 0
theorem free_t (h : RC d A) {k : Nat} (hk : k < 64) (e : A 1 k = 8) : f_X3_holds 64 (d 1) (nI k) (-5) = some 1 := f_holds_t (by decide) _ hk (by rw [h.own hk, if_pos e])
theorem free_f (h : RC d A) (hI : IB A) {k : Nat} (hk : k < 64) (e : A 1 k ≠ 8) : f_X3_holds 64 (d 1) (nI k) (-5) = some 0 := by
  have z := (hI.1 k hk).1
  exact f_holds_f (by decide) _ hk (by rw [h.own hk, if_neg e]; exact nI_m5 (by omega))
theorem free_out {k : Nat} (hk : 64 ≤ k) (h2 : k < 2 ^ 31) : f_X3_holds 64 (d 1) (nI k) (-5) = some 0 := f_holds_out _ (Or.inr (nI_le hk h2)) _
theorem C_runFrom (h : RC d A) (hI : IB A) {k : Nat} (hk : k < 64) : f_X0_runFrom d (nI k) = some (nI (rs A k)) := by
  have q := rn_spec A (show k ≤ 64 by omega)
  have loop : f_X0_runFrom_L19 d (nI k) gFu 0 = some (nI (rn A k)) := by
    refine loopN (fun fu j => f_X0_runFrom_L19 d (nI k) fu (nI j)) (rn A k) _ (fun fu j hj => ?_) (fun fu => ?_) gFu 0 (by omega) (by show rn A k < 0 + 1000; omega)
    · show f_X0_runFrom_L19 d (nI k) (fu + 1) (nI j) = f_X0_runFrom_L19 d (nI k) fu (nI (j + 1))
      rw [f_X0_runFrom_L19, if_neg (by rw [l_lit64 (by omega)]; omega), nI_add, free_t h (by omega) (q.2.1 j hj), gb_some, if_neg (by decide), glet_eq, nI_1]
    · show f_X0_runFrom_L19 d (nI k) (fu + 1) (nI (rn A k)) = _
      rw [f_X0_runFrom_L19]
      by_cases c : 64 ≤ rn A k
      · rw [if_pos (by rw [l_lit64 (by omega)]; exact c)]
      · rw [if_neg (by rw [l_lit64 (by omega)]; omega), nI_add]
        by_cases c2 : k + rn A k < 64
        · rw [free_f h hI c2 (q.2.2 c2), gb_some, if_pos rfl]
        · rw [free_out (by omega) (by omega), gb_some, if_pos rfl]
  have none0 : A 1 k ≠ 8 → rn A k = 0 := fun e => by
    rcases Nat.eq_zero_or_pos (rn A k) with z | z
    · exact z
    · exact absurd ((rn_pos hk).1 z) e
  unfold f_X0_runFrom rs
  by_cases k0 : k = 0
  · subst k0
    rw [f_holds_out (d 1) (v := nI 0 - 1) (Or.inl (by decide)), gb_some, if_pos rfl, loop]
    by_cases c : A 1 0 = 8
    · rw [if_pos ⟨c, Or.inl rfl⟩]
    · rw [if_neg (fun z => c z.1), none0 c]
  · have e1 : nI k - 1 = nI (k - 1) := nI_sub (a := k) (b := 1) (by omega)
    rw [e1]
    by_cases c1 : A 1 (k - 1) = 8
    · rw [free_t h (by omega) c1, gb_some, if_neg (by decide), if_neg (fun z => z.2.elim (fun w => k0 w) (fun w => w c1))]; rfl
    · rw [free_f h hI (by omega) c1, gb_some, if_pos rfl, loop]
      by_cases c : A 1 k = 8
      · rw [if_pos ⟨c, Or.inr c1⟩]
      · rw [if_neg (fun z => c z.1), none0 c]
theorem rs_yes {k : Nat} (h : A 1 k = 8) (h2 : k = 0 ∨ A 1 (k - 1) ≠ 8) : rs A k = rn A k := by unfold rs; rw [if_pos ⟨h, h2⟩]
theorem rs_no {k : Nat} (h : ¬ (A 1 k = 8 ∧ (k = 0 ∨ A 1 (k - 1) ≠ 8))) : rs A k = 0 := by unfold rs; rw [if_neg h]
theorem rs_le (A : Nat → Nat → Nat) {k : Nat} (hk : k < 64) : rs A k ≤ 64 ∧ (0 < rs A k → rs A k = rn A k ∧ A 1 k = 8) := by
  have q := rn_spec A (show k ≤ 64 by omega)
  unfold rs
  by_cases c : A 1 k = 8 ∧ (k = 0 ∨ A 1 (k - 1) ≠ 8)
  · rw [if_pos c]; exact ⟨by omega, fun _ => ⟨rfl, c.1⟩⟩
  · rw [if_neg c]; exact ⟨by omega, fun h => absurd h (Nat.lt_irrefl 0)⟩
/-- where there is a free block, a free run begins -/
theorem rs_some {k : Nat} (hk : k < 64) (h : A 1 k = 8) : ∃ j, j ≤ k ∧ 0 < rs A j := by
  induction k with
  | zero =>
    refine ⟨0, Nat.le_refl _, ?_⟩
    unfold rs
    rw [if_pos ⟨h, Or.inl rfl⟩]
    exact (rn_pos hk).2 h
  | succ k ih =>
    by_cases c : A 1 k = 8
    · obtain ⟨j, h1, h2⟩ := ih (by omega) c
      exact ⟨j, by omega, h2⟩
    · refine ⟨k + 1, Nat.le_refl _, ?_⟩
      unfold rs
      rw [if_pos ⟨h, Or.inr c⟩]
      exact (rn_pos hk).2 h
end RUNS
