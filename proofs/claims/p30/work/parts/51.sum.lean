/-! MATHEMATICS, 27: what is free, lent and full is 64; who gives back first. -/
section SUM
variable {d : Nat → Nat → Int32} {A : Nat → Nat → Nat} {s t g : Nat → Int32}
/-- how many blocks are free -/
def fre (A : Nat → Nat → Nat) : Nat := ct (fun k => A 1 k = 8) 64
theorem ct_own (hI : IB A) {f : Nat} (hf : f < 8) : A 4 f = ct (fun k => A 1 k = f) 64 := by
  have e := ct_from hI hf 0
  rw [Nat.sub_zero] at e
  rw [← e]
  refine sm_congr (fun k _ => ?_)
  by_cases c : A 1 k = f
  · rw [if_pos c, if_pos ⟨c, Nat.zero_le _⟩]
  · rw [if_neg c, if_neg (fun q => c q.1)]
theorem sum64 (hI : IB A) : fre A + sm (A 4) 8 = 64 := by
  have e1 : sm (A 4) 8 = sm (fun f => sm (fun k => if A 1 k = f then 1 else 0) 64) 8 := sm_congr (fun f hf => ct_own hI hf)
  have e2 : sm (fun f => sm (fun k => if A 1 k = f then 1 else 0) 64) 8 = sm (fun k => sm (fun f => if A 1 k = f then 1 else 0) 8) 64 := (sm_swap (fun k f => if A 1 k = f then 1 else 0) 8 64).symm
  have e3 : fre A = sm (fun k => if A 1 k = 8 then 1 else 0) 64 := rfl
  rw [e1, e2, e3, ← sm_add]
  have e4 : sm (fun k => (if A 1 k = 8 then 1 else 0) + sm (fun f => if A 1 k = f then 1 else 0) 8) 64 = sm (fun _ => 1) 64 := by
    refine sm_congr (fun k hk => ?_)
    have z := (hI.1 k hk).1
    have e5 : sm (fun f => if A 1 k = f then 1 else 0) 8 = sm (fun f => if f = A 1 k then 1 else 0) 8 := by
      refine sm_congr (fun f _ => ?_)
      by_cases c : A 1 k = f
      · rw [if_pos c, if_pos c.symm]
      · rw [if_neg c, if_neg (fun q => c q.symm)]
    rw [e5]
    by_cases c : A 1 k = 8
    · rw [if_pos c, sm_congr (v := fun _ => 0) (fun i hi => by rw [if_neg (by omega)]), sm_zero]
    · rw [if_neg c, sm_single (show A 1 k < 8 by omega) (fun _ => 1)]
  rw [e4, sm_const]
theorem lent_sum (hI : IA A) : sm (A 5) 8 + sm (fun f => A 4 f - A 5 f) 8 = sm (A 4) 8 := by
  rw [← sm_add]
  exact sm_congr (fun f hf => by have := (hI.2.2.2.1 f hf).2.1; omega)
theorem C_blocksWithoutData (h : RC d A) (hI : IA A) : f_X0_blocksWithoutData d = some (nI (64 - sm (A 5) 8)) := by
  have e1 := sum64 hI.b
  have e2 := lent_sum hI
  unfold f_X0_blocksWithoutData
  rw [C_dataBlocks h, gb_some, show (64 : Int32) - nI (sm (A 5) 8) = nI (64 - sm (A 5) 8) from nI_sub (a := 64) (by omega)]
/-- the file with the most lent blocks but f, among those below j (8: none), and how many -/
def glJ (A : Nat → Nat → Nat) (f : Nat) : Nat → Nat × Nat
  | 0 => (8, 0)
  | j + 1 => if j ≠ f ∧ (glJ A f j).2 < A 4 j - A 5 j then (j, A 4 j - A 5 j) else glJ A f j
theorem glJ_succ (A : Nat → Nat → Nat) (f j : Nat) : glJ A f (j + 1) = if j ≠ f ∧ (glJ A f j).2 < A 4 j - A 5 j then (j, A 4 j - A 5 j) else glJ A f j := rfl
theorem glJ_inv (A : Nat → Nat → Nat) (f : Nat) : ∀ j, (glJ A f j = (8, 0) ∧ ∀ i, i < j → i ≠ f → A 4 i - A 5 i = 0) ∨ ((glJ A f j).1 < j ∧ (glJ A f j).1 ≠ f ∧ (glJ A f j).2 = A 4 (glJ A f j).1 - A 5 (glJ A f j).1 ∧ 0 < (glJ A f j).2) := by
  intro j
  induction j with
  | zero => exact Or.inl ⟨rfl, fun i h => absurd h (Nat.not_lt_zero _)⟩
  | succ j ih =>
    rw [glJ_succ]
    by_cases c : j ≠ f ∧ (glJ A f j).2 < A 4 j - A 5 j
    · rw [if_pos c]
      exact Or.inr ⟨Nat.lt_succ_self j, c.1, rfl, by show 0 < A 4 j - A 5 j; omega⟩
    · rw [if_neg c]
      rcases ih with ⟨h1, h2⟩ | ⟨h1, h2⟩
      · refine Or.inl ⟨h1, fun i hi hn => ?_⟩
        by_cases e : i = j
        · subst e
          rw [h1] at c
          have : ¬ (0 < A 4 i - A 5 i) := fun q => c ⟨hn, q⟩
          omega
        · exact h2 i (by omega) hn
      · exact Or.inr ⟨by omega, h2⟩
def gvI (x : Nat) : Int32 := if x = 8 then -5 else nI x
theorem gvI_lt {x : Nat} (h : x < 8) : gvI x = nI x := by unfold gvI; rw [if_neg (by omega)]
theorem glJ_le (hI : IA A) (f : Nat) {j : Nat} (hj : j ≤ 8) : (glJ A f j).2 ≤ 64 := by
  rcases glJ_inv A f j with ⟨h1, h2⟩ | ⟨h1, h2, h3, h4⟩
  · rw [h1]; exact Nat.zero_le _
  · have := (hI.2.2.2.1 _ (show (glJ A f j).1 < 8 by omega)).2.2.1
    omega
theorem C_greatestLender (h : RC d A) (hI : IA A) {f : Nat} (hf : f < 8) : f_X0_greatestLender d (nI f) = some (gvI (glJ A f 8).1) := by
  refine loopN (fun fu j => f_X0_greatestLender_L8 d (nI f) fu (gvI (glJ A f j).1) (nI (glJ A f j).2) (nI j)) 8 _ (fun fu j hj => ?_) (fun fu => ?_) gFu 0 (by omega) (by decide)
  · show f_X0_greatestLender_L8 d (nI f) (fu + 1) (gvI (glJ A f j).1) (nI (glJ A f j).2) (nI j) = f_X0_greatestLender_L8 d (nI f) fu (gvI (glJ A f (j + 1)).1) (nI (glJ A f (j + 1)).2) (nI (j + 1))
    have q := glJ_le hI f (j := j) (by omega)
    have z := (hI.2.2.2.1 j hj).2.2.1
    rw [f_X0_greatestLender_L8, if_neg (by rw [l_lit8 (by omega)]; omega), glJ_succ]
    by_cases c : j = f
    · rw [if_pos (by rw [c]), if_neg (fun w => w.1 c), glet_eq, nI_1]
    · rw [if_neg (fun w => c ((nI_eq (by omega) (by omega)).1 w)), C_lentOf h hI hj, gb_some, gb_some]
      by_cases c2 : (glJ A f j).2 < A 4 j - A 5 j
      · rw [if_neg (nI_ge c2 (by omega)), if_pos ⟨c, c2⟩, glet_eq, nI_1, gvI_lt hj]
      · rw [if_pos (nI_le (by omega) (by omega)), if_neg (fun w => c2 w.2), glet_eq, nI_1]
  · show f_X0_greatestLender_L8 d (nI f) (fu + 1) _ _ _ = _
    rw [f_X0_greatestLender_L8, if_pos (by decide)]
/-- what is lent to others -/
def LOt (A : Nat → Nat → Nat) (f : Nat) : Nat := sm (fun q => if q = f then 0 else A 4 q - A 5 q) 8
theorem LOt_sum (hI : IA A) {f : Nat} (hf : f < 8) : fre A + LOt A f + A 4 f + sm (fun q => if q = f then 0 else A 5 q) 8 = 64 := by
  have e1 := sum64 hI.b
  have e2 : sm (fun q => if q = f then A 4 q else 0) 8 = A 4 f := sm_single hf (A 4)
  have e3 : LOt A f + sm (fun q => if q = f then A 4 q else 0) 8 + sm (fun q => if q = f then 0 else A 5 q) 8 = sm (A 4) 8 := by
    unfold LOt
    rw [← sm_add, ← sm_add]
    refine sm_congr (fun q hq => ?_)
    have := (hI.2.2.2.1 q hq).2.1
    by_cases c : q = f
    · rw [if_pos c, if_pos c, if_pos c]; omega
    · rw [if_neg c, if_neg c, if_neg c]; omega
  omega
theorem LOt_lent (hI : IA A) {f : Nat} (hf : f < 8) : sm (fun q => A 4 q - A 5 q) 8 = LOt A f + (A 4 f - A 5 f) := by
  have e2 : sm (fun q => if q = f then A 4 q - A 5 q else 0) 8 = A 4 f - A 5 f := sm_single hf (fun q => A 4 q - A 5 q)
  rw [← e2]
  unfold LOt
  rw [← sm_add]
  refine sm_congr (fun q hq => ?_)
  by_cases c : q = f
  · rw [if_pos c, if_pos c]; omega
  · rw [if_neg c, if_neg c]; omega
end SUM
