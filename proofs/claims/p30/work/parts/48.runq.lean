/-! MATHEMATICS, 24: how many free runs there are, the longest, and the one with a number, on both sides. -/
section RUNQ
variable {d : Nat → Nat → Int32} {A : Nat → Nat → Nat} {s t g : Nat → Int32}
def sI (A : Nat → Nat → Nat) (k : Nat) : Nat := if 0 < rs A k then 1 else 0
theorem nI_m1 {x : Nat} (h : 1 ≤ x) : nI x + (-1) = nI (x - 1) := by
  have e : nI x - 1 = nI (x - 1) := nI_sub (b := 1) h
  rw [Int32.sub_eq_add_neg] at e
  exact e
theorem sI_le (A : Nat → Nat → Nat) (n : Nat) : sm (sI A) n ≤ n := by
  induction n with
  | zero => exact Nat.le_refl _
  | succ n ih =>
    rw [sm_succ]
    unfold sI
    by_cases c : 0 < rs A n
    · rw [if_pos c]; exact Nat.succ_le_succ ih
    · rw [if_neg c]; exact Nat.le_succ_of_le ih
theorem C_freeRuns (h : RC d A) (hI : IB A) : f_X0_freeRuns d = some (nI (sm (sI A) 64)) := by
  refine loopN (fun fu j => f_X0_freeRuns_L4 d fu (nI (sm (sI A) j)) (nI j)) 64 _ (fun fu j hj => ?_) (fun fu => ?_) gFu 0 (by omega) (by decide)
  · show f_X0_freeRuns_L4 d (fu + 1) _ (nI j) = f_X0_freeRuns_L4 d fu (nI (sm (sI A) j + sI A j)) (nI (j + 1))
    have q := rs_le A hj
    rw [f_X0_freeRuns_L4, if_neg (by rw [l_lit64 (by omega)]; omega), C_runFrom h hI hj, gb_some]
    unfold sI
    by_cases c : 0 < rs A j
    · rw [if_neg (nI_nle c (by omega)), glet_eq, glet_eq, nI_1, nI_1, if_pos c]
    · rw [show rs A j = 0 by omega, if_pos (show nI 0 ≤ 0 by decide), glet_eq, nI_1, if_neg (Nat.lt_irrefl 0)]; rfl
  · show f_X0_freeRuns_L4 d (fu + 1) _ _ = _
    rw [f_X0_freeRuns_L4, if_pos (by decide)]
def mxJ (A : Nat → Nat → Nat) : Nat → Nat
  | 0 => 0
  | j + 1 => if mxJ A j < rs A j then rs A j else mxJ A j
theorem mxJ_le (A : Nat → Nat → Nat) : ∀ j, j ≤ 64 → mxJ A j ≤ 64 := by
  intro j
  induction j with
  | zero => intro _; exact Nat.zero_le _
  | succ j ih =>
    intro h
    show (if mxJ A j < rs A j then rs A j else mxJ A j) ≤ 64
    by_cases c : mxJ A j < rs A j
    · rw [if_pos c]; exact (rs_le A (by omega)).1
    · rw [if_neg c]; exact ih (by omega)
theorem C_longestRun (h : RC d A) (hI : IB A) : f_X0_longestRun d = some (nI (mxJ A 64)) := by
  refine loopN (fun fu j => f_X0_longestRun_L4 d fu (nI (mxJ A j)) (nI j)) 64 _ (fun fu j hj => ?_) (fun fu => ?_) gFu 0 (by omega) (by decide)
  · show f_X0_longestRun_L4 d (fu + 1) _ (nI j) = f_X0_longestRun_L4 d fu (nI (if mxJ A j < rs A j then rs A j else mxJ A j)) (nI (j + 1))
    have q := rs_le A hj
    have q2 := mxJ_le A j (by omega)
    rw [f_X0_longestRun_L4, if_neg (by rw [l_lit64 (by omega)]; omega), C_runFrom h hI hj, gb_some, glet_eq, glet_eq, nI_1]
    by_cases c : mxJ A j < rs A j
    · rw [if_pos (nI_lt c (by omega)), if_pos c]
    · rw [if_neg (nI_nlt (by omega) (by omega)), if_neg c]
  · show f_X0_longestRun_L4 d (fu + 1) _ _ = _
    rw [f_X0_longestRun_L4, if_pos (by decide)]
theorem ru_find (A : Nat → Nat → Nat) (e : Nat) : ∀ n, (∃ p, p < n ∧ 0 < rs A p ∧ sm (sI A) p = e) ∨ sm (sI A) n ≤ e := by
  intro n
  induction n with
  | zero => exact Or.inr (Nat.zero_le _)
  | succ n ih =>
    rcases ih with ⟨p, h1, h2⟩ | h
    · exact Or.inl ⟨p, by omega, h2⟩
    · by_cases q : 0 < rs A n
      · by_cases c : sm (sI A) n = e
        · exact Or.inl ⟨n, by omega, q, c⟩
        · have : sI A n = 1 := by unfold sI; rw [if_pos q]
          exact Or.inr (by rw [sm_succ]; omega)
      · have : sI A n = 0 := by unfold sI; rw [if_neg q]
        exact Or.inr (by rw [sm_succ]; omega)
theorem C_run_step (h : RC d A) (hI : IB A) {e j : Nat} (he : e < 2 ^ 31) (hj : j < 64) (hn : 0 < rs A j → sm (sI A) j ≠ e) (fu : Nat) : f_X0_firstOfRun_L4 d (nI e) (fu + 1) (nI (sm (sI A) j)) (nI j) = f_X0_firstOfRun_L4 d (nI e) fu (nI (sm (sI A) (j + 1))) (nI (j + 1)) := by
  have q := rs_le A hj
  have q2 := sI_le A j
  rw [f_X0_firstOfRun_L4, if_neg (by rw [l_lit64 (by omega)]; omega), C_runFrom h hI hj, gb_some, sm_succ]
  by_cases c : 0 < rs A j
  · have : sI A j = 1 := by unfold sI; rw [if_pos c]
    rw [if_neg (nI_nle c (by omega)), if_neg (fun z => hn c ((nI_eq (by omega) he).1 z)), glet_eq, glet_eq, nI_1, nI_1, this]
  · have : sI A j = 0 := by unfold sI; rw [if_neg c]
    rw [show rs A j = 0 by omega, if_pos (show nI 0 ≤ 0 by decide), glet_eq, nI_1, this]; rfl
theorem C_run_none (h : RC d A) (hI : IB A) {e : Nat} (he : e < 2 ^ 31) (hn : sm (sI A) 64 ≤ e) : f_X0_firstOfRun d (nI e) = some (-5) := by
  refine loopN (fun fu j => f_X0_firstOfRun_L4 d (nI e) fu (nI (sm (sI A) j)) (nI j)) 64 _ (fun fu j hj => C_run_step h hI he hj (fun c => ?_) fu) (fun fu => ?_) gFu 0 (by omega) (by decide)
  · have hm := sm_mono (sI A) (show j + 1 ≤ 64 by omega)
    rw [sm_succ] at hm
    have : sI A j = 1 := by unfold sI; rw [if_pos c]
    omega
  · show f_X0_firstOfRun_L4 d (nI e) (fu + 1) _ _ = _
    rw [f_X0_firstOfRun_L4, if_pos (by decide)]
theorem C_run_some (h : RC d A) (hI : IB A) {e p : Nat} (he : e < 2 ^ 31) (hp : p < 64) (h1 : 0 < rs A p) (h2 : sm (sI A) p = e) : f_X0_firstOfRun d (nI e) = some (nI p) := by
  refine loopN (fun fu j => f_X0_firstOfRun_L4 d (nI e) fu (nI (sm (sI A) j)) (nI j)) p _ (fun fu j hj => C_run_step h hI he (by omega) (fun c => ?_) fu) (fun fu => ?_) gFu 0 (by omega) (by show p < 0 + 1000; omega)
  · have hm := sm_mono (sI A) (show j + 1 ≤ p by omega)
    rw [sm_succ] at hm
    have : sI A j = 1 := by unfold sI; rw [if_pos c]
    omega
  · show f_X0_firstOfRun_L4 d (nI e) (fu + 1) (nI (sm (sI A) p)) (nI p) = _
    have q := rs_le A hp
    rw [f_X0_firstOfRun_L4, if_neg (by rw [l_lit64 (by omega)]; omega), C_runFrom h hI hp, gb_some, if_neg (nI_nle h1 (by omega)), if_pos (by rw [h2])]
end RUNQ
