/-! MATHEMATICS, 25: the free run that is chosen, on both sides. -/
section CHOOSE
variable {d : Nat → Nat → Int32} {A : Nat → Nat → Nat} {s t g : Nat → Int32}
abbrev btr (A : Nat → Nat → Nat) (m l than : Nat) : Prop := (than < m ∧ than < l) ∨ (m ≤ than ∧ A 8 1 = 0 ∧ m ≤ l ∧ l < than)
/-- the block that is chosen among those below j (64: none), and how long its run is -/
def chJ (A : Nat → Nat → Nat) (m : Nat) : Nat → Nat × Nat
  | 0 => (64, 0)
  | j + 1 => if btr A m (rs A j) (chJ A m j).2 then (j, rs A j) else chJ A m j
theorem chJ_succ (A : Nat → Nat → Nat) (m j : Nat) : chJ A m (j + 1) = if btr A m (rs A j) (chJ A m j).2 then (j, rs A j) else chJ A m j := rfl
theorem chJ_inv (A : Nat → Nat → Nat) {m : Nat} (hm : 0 < m) : ∀ j, j ≤ 64 → (chJ A m j = (64, 0) ∧ ∀ k, k < j → rs A k = 0) ∨ ((chJ A m j).1 < j ∧ (chJ A m j).2 = rs A (chJ A m j).1 ∧ 0 < (chJ A m j).2) := by
  intro j
  induction j with
  | zero => intro _; exact Or.inl ⟨rfl, fun k h => absurd h (Nat.not_lt_zero _)⟩
  | succ j ih =>
    intro hj
    rw [chJ_succ]
    rcases ih (by omega) with ⟨h1, h2⟩ | ⟨h1, h2, h3⟩
    · rw [h1]
      by_cases c : 0 < rs A j
      · rw [if_pos (Or.inl ⟨hm, c⟩)]
        exact Or.inr ⟨Nat.lt_succ_self j, rfl, c⟩
      · rw [if_neg (by rintro (q | q); · exact c q.2
                       · exact absurd q.1 (by show ¬ m ≤ 0; omega))]
        refine Or.inl ⟨rfl, fun k hk => ?_⟩
        by_cases e : k = j
        · rw [e]; omega
        · exact h2 k (by omega)
    · by_cases c : btr A m (rs A j) (chJ A m j).2
      · rw [if_pos c]
        refine Or.inr ⟨Nat.lt_succ_self j, rfl, ?_⟩
        show 0 < rs A j
        rcases c with q | q <;> omega
      · rw [if_neg c]
        exact Or.inr ⟨by omega, h2, h3⟩
theorem chJ_le (A : Nat → Nat → Nat) {m : Nat} (hm : 0 < m) {j : Nat} (hj : j ≤ 64) : (chJ A m j).2 ≤ 64 ∧ (chJ A m j).1 ≤ 64 := by
  rcases chJ_inv A hm j hj with ⟨h1, h2⟩ | ⟨h1, h2, h3⟩
  · rw [h1]; exact ⟨Nat.zero_le _, Nat.le_refl _⟩
  · rw [h2]; exact ⟨(rs_le A (by omega)).1, by omega⟩
def cI (x : Nat) : Int32 := if x = 64 then -5 else nI x
theorem cI_64 : cI 64 = -5 := rfl
theorem cI_lt {x : Nat} (h : x < 64) : cI x = nI x := by unfold cI; rw [if_neg (by omega)]
theorem C_isBetter (h : RC d A) (hI : IA A) {l than m : Nat} (h1 : l < 2 ^ 31) (h2 : than < 2 ^ 31) (h3 : m < 2 ^ 31) : f_X0_isBetter d (nI l) (nI than) (nI m) = some (if btr A m l than then 1 else 0) := by
  have hp := hI.2.2.2.2.2
  unfold f_X0_isBetter
  by_cases c : m ≤ than
  · rw [if_pos (nI_le c h2)]
    by_cases c2 : A 8 1 = 0
    · have eh : f_X3_holds 2 (d 8) 1 0 = some 1 := f_holds_t (n := 2) (by decide) (d 8) (i := 1) (by decide) (by rw [h.sg (by decide), c2]; rfl)
      rw [eh, gb_some, if_neg (by decide)]
      by_cases c3 : l < m
      · rw [if_pos (nI_lt c3 h3), if_neg (by rintro (q | q) <;> omega)]
      · rw [if_neg (nI_nlt (by omega) h1)]
        by_cases c4 : than ≤ l
        · rw [if_pos (nI_le c4 h1), if_neg (by rintro (q | q) <;> omega)]
        · rw [if_neg (nI_ge (by omega) h2), if_pos (Or.inr ⟨c, c2, by omega, by omega⟩)]
    · have eh : f_X3_holds 2 (d 8) 1 0 = some 0 := f_holds_f (n := 2) (by decide) (d 8) (i := 1) (by decide) (by rw [h.sg (by decide)]; exact nI_ne0 (by omega) (by omega))
      rw [eh, gb_some, if_pos rfl, if_neg (by rintro (q | q); · omega
                                              · exact c2 q.2.1)]
  · rw [if_neg (nI_ge (by omega) h3)]
    by_cases c2 : l ≤ than
    · rw [if_pos (nI_le c2 h2), if_neg (by rintro (q | q) <;> omega)]
    · rw [if_neg (nI_ge (by omega) h1), if_pos (Or.inl ⟨by omega, by omega⟩)]
theorem C_chosenRun (h : RC d A) (hI : IA A) {m : Nat} (hm : 0 < m) (hm2 : m ≤ 64) : f_X0_chosenRun d (nI m) = some (cI (chJ A m 64).1) := by
  refine loopN (fun fu j => f_X0_chosenRun_L8 d (nI m) fu (cI (chJ A m j).1) (nI (chJ A m j).2) (nI j)) 64 _ (fun fu j hj => ?_) (fun fu => ?_) gFu 0 (by omega) (by decide)
  · show f_X0_chosenRun_L8 d (nI m) (fu + 1) (cI (chJ A m j).1) (nI (chJ A m j).2) (nI j) = f_X0_chosenRun_L8 d (nI m) fu (cI (chJ A m (j + 1)).1) (nI (chJ A m (j + 1)).2) (nI (j + 1))
    have q := rs_le A hj
    have q2 := (chJ_le A hm (j := j) (by omega)).1
    rw [f_X0_chosenRun_L8, if_neg (by rw [l_lit64 (by omega)]; omega), C_runFrom h hI.b hj, gb_some, C_isBetter h hI (by omega) (by omega) (by omega), gb_some, chJ_succ]
    by_cases c : btr A m (rs A j) (chJ A m j).2
    · rw [if_pos c, if_pos c, if_neg (by decide), glet_eq, nI_1, cI_lt hj]
    · rw [if_neg c, if_neg c, if_pos rfl, glet_eq, nI_1]
  · show f_X0_chosenRun_L8 d (nI m) (fu + 1) _ _ _ = _
    rw [f_X0_chosenRun_L8, if_pos (by decide)]
/-- where a block is free, one is chosen, and it is free -/
theorem ch_free (A : Nat → Nat → Nat) {m : Nat} (hm : 0 < m) {k : Nat} (hk : k < 64) (h8 : A 1 k = 8) : (chJ A m 64).1 < 64 ∧ A 1 (chJ A m 64).1 = 8 := by
  rcases chJ_inv A hm 64 (Nat.le_refl _) with ⟨h1, h2⟩ | ⟨h1, h2, h3⟩
  · obtain ⟨j, hj, h4⟩ := rs_some hk h8
    have := h2 j (by omega)
    omega
  · refine ⟨h1, ?_⟩
    rw [h2] at h3
    exact ((rs_le A h1).2 h3).2
end CHOOSE
