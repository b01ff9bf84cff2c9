/-! MATHEMATICS, 28: others give back until enough is free, on both sides. -/
section TAKE
variable {s t g : Nat → Int32}
/-- the one who gives back next gives back -/
def tb1 (A : Nat → Nat → Nat) (f : Nat) : Nat → Nat → Nat := as (gv A (glJ A f 8).1) 9 2 (A 9 2 + 1)
def tbJ (f need : Nat) : Nat → (Nat → Nat → Nat) → (Nat → Nat → Nat)
  | 0, A => A
  | n + 1, A => if need ≤ fre A then A else tbJ f need n (tb1 A f)
theorem tbJ_succ (f need n : Nat) (A : Nat → Nat → Nat) : tbJ f need (n + 1) A = if need ≤ fre A then A else tbJ f need n (tb1 A f) := rfl
/-- how many others have something lent -/
def nl (A : Nat → Nat → Nat) (f : Nat) : Nat := ct (fun q => q ≠ f ∧ A 5 q < A 4 q) 8
section ONE
variable {A : Nat → Nat → Nat}
theorem gv_len (A : Nat → Nat → Nat) (f i : Nat) : gv A f 4 i = if i = f then A 5 f else A 4 i := by
  rw [gv_low _ _ (by decide) (by decide), fr_len]
theorem tb1_len (A : Nat → Nat → Nat) (f i : Nat) : tb1 A f 4 i = if i = (glJ A f 8).1 then A 5 i else A 4 i := by
  unfold tb1
  rw [as_ne _ _ (by omega), gv_len]
  by_cases c : i = (glJ A f 8).1
  · rw [if_pos c, if_pos c, c]
  · rw [if_neg c, if_neg c]
theorem tb1_sz (A : Nat → Nat → Nat) (f i : Nat) : tb1 A f 5 i = A 5 i := by
  unfold tb1
  rw [as_ne _ _ (by omega), gv_sz]
theorem tb1_md (A : Nat → Nat → Nat) (f i : Nat) : tb1 A f 3 i = A 3 i := by
  unfold tb1
  rw [as_ne _ _ (by omega), gv_md]
theorem tb1_sf (A : Nat → Nat → Nat) (f i : Nat) : tb1 A f 6 i = A 6 i := by
  unfold tb1
  rw [as_ne _ _ (by omega), gv_low _ _ (by decide) (by decide), fr_row (by decide) (by decide)]
theorem tb1_sg (A : Nat → Nat → Nat) (f i : Nat) : tb1 A f 8 i = A 8 i := by
  unfold tb1
  rw [as_ne _ _ (by omega), gv_low _ _ (by decide) (by decide), fr_row (by decide) (by decide)]
theorem IA_tb1 (hI : IA A) {f : Nat} (hg : (glJ A f 8).1 < 8) : IA (tb1 A f) := IA_as (IA_gv hI hg) (Or.inr (Or.inr rfl)) (fun e => absurd e (by decide)) (fun e => absurd e (by decide))
/-- where something is lent to others, one of them gives back -/
theorem gl_some {f : Nat} (h : 0 < LOt A f) : (glJ A f 8).1 < 8 ∧ (glJ A f 8).1 ≠ f ∧ 0 < A 4 (glJ A f 8).1 - A 5 (glJ A f 8).1 := by
  rcases glJ_inv A f 8 with ⟨h1, h2⟩ | ⟨h1, h2, h3, h4⟩
  · exfalso
    obtain ⟨q, hq, hw⟩ := sm_pos h
    by_cases c : q = f
    · rw [if_pos c] at hw; exact absurd hw (Nat.lt_irrefl 0)
    · rw [if_neg c, h2 q hq c] at hw; exact absurd hw (Nat.lt_irrefl 0)
  · exact ⟨h1, h2, by omega⟩
theorem nl_zero {f : Nat} (h : nl A f = 0) : LOt A f = 0 := by
  rcases Nat.eq_zero_or_pos (LOt A f) with e | e
  · exact e
  · obtain ⟨h1, h2, h3⟩ := gl_some e
    have := sm_mem (w := fun q => if q ≠ f ∧ A 5 q < A 4 q then 1 else 0) h1
    have e2 : sm (fun q => if q ≠ f ∧ A 5 q < A 4 q then 1 else 0) 8 = 0 := h
    rw [e2] at this
    have e3 : (if (glJ A f 8).1 ≠ f ∧ A 5 (glJ A f 8).1 < A 4 (glJ A f 8).1 then 1 else 0) ≤ 0 := this
    rw [if_pos ⟨h2, by omega⟩] at e3
    omega
theorem ct_less {P Q : Nat → Prop} [DecidablePred P] [DecidablePred Q] {n k : Nat} (hk : k < n) (h : ∀ i, i < n → Q i → P i) (hp : P k) (hq : ¬ Q k) : ct Q n < ct P n := by
  induction n with
  | zero => omega
  | succ n ih =>
    rw [ct_succ, ct_succ]
    have le : ct Q n ≤ ct P n := sm_le (fun i hi => by
      by_cases c : Q i
      · rw [if_pos c, if_pos (h i (by omega) c)]; exact Nat.le_refl _
      · rw [if_neg c]; exact Nat.zero_le _)
    by_cases e : k = n
    · subst e
      rw [if_neg hq, if_pos hp]; omega
    · have := ih (by omega) (fun i hi => h i (by omega))
      by_cases c : Q n
      · rw [if_pos c, if_pos (h n (by omega) c)]; omega
      · rw [if_neg c]; omega
theorem nl_less (hI : IA A) {f : Nat} (h : 0 < LOt A f) : nl (tb1 A f) f < nl A f := by
  obtain ⟨h1, h2, h3⟩ := gl_some h
  refine ct_less h1 (fun i hi q => ?_) ⟨h2, by omega⟩ (fun q => ?_)
  · rw [tb1_sz, tb1_len] at q
    by_cases c : i = (glJ A f 8).1
    · rw [if_pos c] at q; omega
    · rw [if_neg c] at q; exact q
  · have q2 := q.2
    rw [tb1_sz, tb1_len, if_pos rfl] at q2
    omega
theorem tb1_keep (hI : IA A) {f : Nat} (hf : f < 8) (h : 0 < LOt A f) : fre (tb1 A f) + LOt (tb1 A f) f = fre A + LOt A f := by
  obtain ⟨h1, h2, h3⟩ := gl_some h
  have e1 := LOt_sum hI hf
  have e2 := LOt_sum (IA_tb1 hI h1) hf
  have e3 : sm (fun q => if q = f then 0 else tb1 A f 5 q) 8 = sm (fun q => if q = f then 0 else A 5 q) 8 := sm_congr (fun q _ => by rw [tb1_sz])
  have e4 : tb1 A f 4 f = A 4 f := by rw [tb1_len, if_neg (fun q => h2 q.symm)]
  omega
theorem C_tb1 {d : Nat → Nat → Int32} (h : RC d A) (hI : IA A) {f : Nat} (hg : (glJ A f 8).1 < 8) : ∃ r d', f_X0_giveBack d (nI (glJ A f 8).1) = some (r, d') ∧ RC (va_up d' 9 (upd (d' 9) 2 (d' 9 2 + 1))) (tb1 A f) := by
  obtain ⟨d1, e1, r1⟩ := C_giveBack h hI hg
  refine ⟨_, d1, e1, ?_⟩
  have e9 : gv A (glJ A f 8).1 9 2 = A 9 2 := by
    unfold gv
    rw [as_ne _ _ (by omega), as_ne _ _ (by omega), fr_row (by decide) (by decide)]
  have e := r1.tt (i := 2) (by decide)
  rw [e9] at e
  rw [e, nI_1]
  exact RC_set (B' := tb1 A f) r1 (k := 9) (j := 2) (v := A 9 2 + 1) (by decide) (by decide) (as_eq _ _ _ _) (fun k' i q => as_ne _ _ q)
end ONE
theorem IA_take {f need : Nat} (hf : f < 8) : ∀ (n : Nat) (A : Nat → Nat → Nat), IA A → need ≤ fre A + LOt A f → nl A f ≤ n → IA (tbJ f need n A) ∧ need ≤ fre (tbJ f need n A) ∧ tbJ f need n A 4 f = A 4 f ∧ (∀ i, tbJ f need n A 5 i = A 5 i) ∧ (∀ i, tbJ f need n A 3 i = A 3 i) := by
  intro n
  induction n with
  | zero =>
    intro A hI h1 h2
    have := nl_zero (A := A) (f := f) (by omega)
    exact ⟨hI, by show need ≤ fre A; omega, rfl, fun _ => rfl, fun _ => rfl⟩
  | succ n ih =>
    intro A hI h1 h2
    rw [tbJ_succ]
    by_cases c : need ≤ fre A
    · rw [if_pos c]; exact ⟨hI, c, rfl, fun _ => rfl, fun _ => rfl⟩
    · rw [if_neg c]
      have hL : 0 < LOt A f := by omega
      have hg := gl_some hL
      have hn := nl_less hI hL
      have hk := tb1_keep hI hf hL
      obtain ⟨q1, q2, q3, q4, q5⟩ := ih (tb1 A f) (IA_tb1 hI hg.1) (by omega) (by omega)
      refine ⟨q1, q2, ?_, fun i => ?_, fun i => ?_⟩
      · rw [q3, tb1_len, if_neg (fun z => hg.2.1 z.symm)]
      · rw [q4, tb1_sz]
      · rw [q5, tb1_md]
theorem C_take {f need : Nat} (hf : f < 8) (hneed : need < 2 ^ 31) : ∀ (n : Nat) (A : Nat → Nat → Nat) (d : Nat → Nat → Int32) (turn fu : Nat), IA A → RC d A → need ≤ fre A + LOt A f → nl A f ≤ n → turn + n ≤ 8 → n < fu → ∃ d', f_X0_takeBack_L2 (nI f) (nI need) fu (nI turn) d = some d' ∧ RC d' (tbJ f need n A) := by
  intro n
  induction n with
  | zero =>
    intro A d turn fu hI h h1 h2 h3 h4
    have hz := nl_zero (A := A) (f := f) (by omega)
    have hs := sum64 hI.b
    have ef : f_X0_freeBlocks d = some (nI (fre A)) := C_freeBlocks h hI
    obtain ⟨fu, rfl⟩ : ∃ k, fu = k + 1 := ⟨fu - 1, by omega⟩
    refine ⟨d, ?_, h⟩
    rw [f_X0_takeBack_L2]
    by_cases c : 8 ≤ turn
    · rw [if_pos (by rw [l_lit8 (by omega)]; exact c)]
    · rw [if_neg (by rw [l_lit8 (by omega)]; exact c), ef, gb_some, if_pos (nI_le (by omega) (by omega))]
  | succ n ih =>
    intro A d turn fu hI h h1 h2 h3 h4
    have hs := sum64 hI.b
    have ef : f_X0_freeBlocks d = some (nI (fre A)) := C_freeBlocks h hI
    obtain ⟨fu, rfl⟩ : ∃ k, fu = k + 1 := ⟨fu - 1, by omega⟩
    rw [f_X0_takeBack_L2, if_neg (by rw [l_lit8 (by omega)]; omega), ef, gb_some, tbJ_succ]
    by_cases c : need ≤ fre A
    · rw [if_pos (nI_le c (by omega)), if_pos c]
      exact ⟨d, rfl, h⟩
    · have hL : 0 < LOt A f := by omega
      have hg := gl_some hL
      have hn := nl_less hI hL
      have hk := tb1_keep hI hf hL
      obtain ⟨r, d1, e1, r1⟩ := C_tb1 h hI hg.1
      have eg : f_X3_grow 4 (d1 9) 2 1 = some (upd (d1 9) 2 (d1 9 2 + 1)) := f_grow_in (by decide) (d1 9) (i := 2) (by decide) 1
      rw [if_neg (nI_ge (by omega) hneed), if_neg c, C_greatestLender h hI hf, gb_some, gvI_lt hg.1, if_neg (nI_m5 (by omega)), e1, gbb2_some, eg, gb_some, glet_eq, glet_eq, nI_1]
      exact ih (tb1 A f) _ (turn + 1) fu (IA_tb1 hI hg.1) r1 (by omega) (by omega) (by omega) (by omega)
end TAKE
