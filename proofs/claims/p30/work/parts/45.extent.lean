/-! MATHEMATICS, 21: the query extent. -/
section EXTENT
variable {d : Nat → Nat → Int32} {A : Nat → Nat → Nat} {s t g : Nat → Int32}
theorem exJ_01 (A : Nat → Nat → Nat) (f i : Nat) : exJ A f i = 0 ∨ exJ A f i = 1 := by
  unfold exJ
  by_cases c : i = 0
  · rw [if_pos c]; exact Or.inr rfl
  · rw [if_neg c]
    by_cases c2 : bk A f i = bk A f (i - 1) + 1
    · rw [if_pos c2]; exact Or.inl rfl
    · rw [if_neg c2]; exact Or.inr rfl
theorem sm_exJ_le (A : Nat → Nat → Nat) (f n : Nat) : sm (exJ A f) n ≤ n := by
  induction n with
  | zero => exact Nat.le_refl _
  | succ n ih => rw [sm_succ]; rcases exJ_01 A f n with e | e <;> omega
theorem sm_mono (w : Nat → Nat) {m n : Nat} (h : m ≤ n) : sm w m ≤ sm w n := by
  induction n with
  | zero => rw [show m = 0 by omega]; exact Nat.le_refl _
  | succ n ih =>
    by_cases e : m = n + 1
    · rw [e]; exact Nat.le_refl _
    · rw [sm_succ]; have := ih (by omega); omega
/-- the place at which the extent e begins, if there is one -/
theorem ex_find (A : Nat → Nat → Nat) (f e : Nat) : ∀ n, (∃ p, p < n ∧ exJ A f p = 1 ∧ sm (exJ A f) p = e) ∨ sm (exJ A f) n ≤ e := by
  intro n
  induction n with
  | zero => exact Or.inr (Nat.zero_le _)
  | succ n ih =>
    rcases ih with ⟨p, h1, h2⟩ | h
    · exact Or.inl ⟨p, by omega, h2⟩
    · rcases exJ_01 A f n with q | q
      · exact Or.inr (by rw [sm_succ]; omega)
      · by_cases c : sm (exJ A f) n = e
        · exact Or.inl ⟨n, by omega, q, c⟩
        · exact Or.inr (by rw [sm_succ]; omega)
/-- where the extent that begins at p ends -/
theorem ex_end (A : Nat → Nat → Nat) (f p : Nat) : ∀ n, p < n → ∃ q, p < q ∧ q ≤ n ∧ (∀ j, p < j → j < q → exJ A f j = 0) ∧ (q < n → exJ A f q = 1) := by
  intro n
  induction n with
  | zero => omega
  | succ n ih =>
    intro h
    by_cases c : p = n
    · exact ⟨n + 1, by omega, by omega, fun j h1 h2 => by omega, fun h => by omega⟩
    · obtain ⟨q, h1, h2, h3, h4⟩ := ih (by omega)
      by_cases c2 : q < n
      · exact ⟨q, h1, by omega, h3, fun _ => h4 c2⟩
      · rcases exJ_01 A f n with e | e
        · refine ⟨n + 1, by omega, by omega, fun j h5 h6 => ?_, fun h => by omega⟩
          by_cases c3 : j = n
          · rw [c3]; exact e
          · exact h3 j h5 (by omega)
        · exact ⟨n, by omega, by omega, fun j h5 h6 => h3 j h5 (by omega), fun _ => e⟩
/-- a loop over a counter that begins at m -/
theorem loopB {ρ : Type} (F : Nat → Nat → Option ρ) (m N : Nat) (r : ρ) (hs : ∀ fu j, m ≤ j → j < N → F (fu + 1) j = F fu (j + 1)) (he : ∀ fu, F (fu + 1) N = some r) : ∀ (fu j : Nat), m ≤ j → j ≤ N → N < j + fu → F fu j = some r := by
  intro fu
  induction fu with
  | zero => intro j h0 h1 h2; omega
  | succ fu ih =>
    intro j h0 h1 h2
    by_cases hj : j < N
    · rw [hs fu j h0 hj]; exact ih (j + 1) (by omega) hj (by omega)
    · obtain rfl : j = N := by omega
      exact he fu
theorem nI_of1 (x : Nat) (h : x = 0 ∨ x = 1) : (if nI x = 0 then (0 : Nat) else 1) = x := by
  rcases h with e | e <;> subst e <;> decide
theorem C_place_none (h : RC d A) (hI : IB A) {f e : Nat} (hf : f < 8) (he : e < 2 ^ 31) (hn : sm (exJ A f) (A 4 f) ≤ e) : f_X0_placeOfExtent d (nI f) (nI e) = some (-5) := by
  have hl := (hI.2.2.2 f hf).2
  refine loopN (fun fu j => f_X0_placeOfExtent_L5 d (nI f) (nI e) fu (nI (sm (exJ A f) j)) (nI j)) (A 4 f) _ (fun fu j hj => ?_) (fun fu => ?_) gFu 0 (by omega) (Nat.lt_of_le_of_lt hl (by decide))
  · show f_X0_placeOfExtent_L5 d (nI f) (nI e) (fu + 1) _ (nI j) = f_X0_placeOfExtent_L5 d (nI f) (nI e) fu (nI (sm (exJ A f) j + exJ A f j)) (nI (j + 1))
    have hk := bk_spec hI hf hj
    have hm := sm_mono (exJ A f) (show j + 1 ≤ A 4 f by omega)
    rw [sm_succ] at hm
    have hs := sm_exJ_le A f j
    rw [f_X0_placeOfExtent_L5, f_at_in (by decide) _ hf, gb_some, h.ln hf, if_neg (nI_ge hj (by omega)), C_blockAt h hI hf hj, gb_some, C_beginsExtent h hI hk.1 (by omega), gb_some, be_exJ hI hf hj]
    rcases exJ_01 A f j with q | q
    · rw [q, if_pos (show nI 0 = 0 from rfl), glet_eq, nI_1]; rfl
    · rw [q, if_neg (show ¬ nI 1 = 0 from by decide), if_neg (fun z => by have := (nI_eq (by omega) (by omega)).1 z; omega), glet_eq, glet_eq, nI_1, nI_1]
  · show f_X0_placeOfExtent_L5 d (nI f) (nI e) (fu + 1) _ (nI (A 4 f)) = _
    rw [f_X0_placeOfExtent_L5, f_at_in (by decide) _ hf, gb_some, h.ln hf, if_pos (nI_le (Nat.le_refl _) (by omega))]
theorem C_place (h : RC d A) (hI : IB A) {f e p : Nat} (hf : f < 8) (he : e < 2 ^ 31) (hp : p < A 4 f) (h1 : exJ A f p = 1) (h2 : sm (exJ A f) p = e) : f_X0_placeOfExtent d (nI f) (nI e) = some (nI p) := by
  have hl := (hI.2.2.2 f hf).2
  refine loopN (fun fu j => f_X0_placeOfExtent_L5 d (nI f) (nI e) fu (nI (sm (exJ A f) j)) (nI j)) p _ (fun fu j hj => ?_) (fun fu => ?_) gFu 0 (by omega) (Nat.lt_trans (Nat.lt_of_lt_of_le hp hl) (by decide))
  · show f_X0_placeOfExtent_L5 d (nI f) (nI e) (fu + 1) _ (nI j) = f_X0_placeOfExtent_L5 d (nI f) (nI e) fu (nI (sm (exJ A f) j + exJ A f j)) (nI (j + 1))
    have hj4 : j < A 4 f := by omega
    have hk := bk_spec hI hf hj4
    have hm := sm_mono (exJ A f) (show j + 1 ≤ p by omega)
    rw [sm_succ] at hm
    have hs := sm_exJ_le A f j
    rw [f_X0_placeOfExtent_L5, f_at_in (by decide) _ hf, gb_some, h.ln hf, if_neg (nI_ge hj4 (by omega)), C_blockAt h hI hf hj4, gb_some, C_beginsExtent h hI hk.1 (by omega), gb_some, be_exJ hI hf hj4]
    rcases exJ_01 A f j with q | q
    · rw [q, if_pos (show nI 0 = 0 from rfl), glet_eq, nI_1]; rfl
    · rw [q, if_neg (show ¬ nI 1 = 0 from by decide), if_neg (fun z => by have := (nI_eq (by omega) (by omega)).1 z; omega), glet_eq, glet_eq, nI_1, nI_1]
  · show f_X0_placeOfExtent_L5 d (nI f) (nI e) (fu + 1) _ (nI p) = _
    have hk := bk_spec hI hf hp
    rw [f_X0_placeOfExtent_L5, f_at_in (by decide) _ hf, gb_some, h.ln hf, if_neg (nI_ge hp (by omega)), C_blockAt h hI hf hp, gb_some, C_beginsExtent h hI hk.1 (by omega), gb_some, be_exJ hI hf hp, h1, if_neg (show ¬ nI 1 = 0 from by decide), if_pos (by rw [h2])]
theorem C_extentFrom (h : RC d A) (hI : IB A) {f p q : Nat} (hf : f < 8) (hpq : p < q) (hq : q ≤ A 4 f) (h1 : ∀ j, p < j → j < q → exJ A f j = 0) (h2 : q < A 4 f → exJ A f q = 1) : f_X0_extentFrom d (nI f) (nI p) = some (nI (q - p)) := by
  have hl := (hI.2.2.2 f hf).2
  unfold f_X0_extentFrom
  rw [glet_eq, nI_1]
  refine loopB (fun fu j => f_X0_extentFrom_L4 d (nI f) (nI p) fu (nI j)) (p + 1) q _ (fun fu j hm hj => ?_) (fun fu => ?_) gFu (p + 1) (by omega) (by omega) (by show q < p + 1 + 1000; omega)
  · show f_X0_extentFrom_L4 d (nI f) (nI p) (fu + 1) (nI j) = f_X0_extentFrom_L4 d (nI f) (nI p) fu (nI (j + 1))
    have hj4 : j < A 4 f := by omega
    have hk := bk_spec hI hf hj4
    rw [f_X0_extentFrom_L4, f_at_in (by decide) _ hf, gb_some, h.ln hf, if_neg (nI_ge hj4 (by omega)), C_blockAt h hI hf hj4, gb_some, C_beginsExtent h hI hk.1 (by omega), gb_some, be_exJ hI hf hj4, h1 j (by omega) hj, if_pos (show nI 0 = 0 from rfl), glet_eq, nI_1]
  · show f_X0_extentFrom_L4 d (nI f) (nI p) (fu + 1) (nI q) = _
    rw [f_X0_extentFrom_L4, f_at_in (by decide) _ hf, gb_some, h.ln hf]
    by_cases c : q < A 4 f
    · have hk := bk_spec hI hf c
      rw [if_neg (nI_ge c (by omega)), C_blockAt h hI hf c, gb_some, C_beginsExtent h hI hk.1 (by omega), gb_some, be_exJ hI hf c, h2 c, if_neg (show ¬ nI 1 = 0 from by decide), nI_sub (by omega)]
    · rw [if_pos (nI_le (by omega) (by omega)), nI_sub (by omega)]
-- the reference
noncomputable def rkv (A : Nat → Nat → Nat) (f j : Nat) : Int32 := if j = 0 then -1 else nI (sm (exJ A f) j - 1)
theorem rkv_succ (A : Nat → Nat → Nat) (f j : Nat) : rkv A f j + nI (exJ A f j) = nI (sm (exJ A f) (j + 1) - 1) ∧ 1 ≤ sm (exJ A f) (j + 1) := by
  have h1 : 1 ≤ sm (exJ A f) 1 := by
    rw [sm_succ]
    have : exJ A f 0 = 1 := by unfold exJ; rw [if_pos rfl]
    omega
  have h2 := sm_mono (exJ A f) (show 1 ≤ j + 1 by omega)
  refine ⟨?_, by omega⟩
  unfold rkv
  by_cases c : j = 0
  · subst c
    rw [if_pos rfl, sm_succ]
    have e0 : exJ A f 0 = 1 := by unfold exJ; rw [if_pos rfl]
    rw [e0]
    show -1 + nI 1 = nI (0 + 1 - 1)
    decide
  · have h3 := sm_mono (exJ A f) (show 1 ≤ j by omega)
    rw [if_neg c, nI_add, sm_succ]
    congr 1
    omega
theorem sm_flat {A : Nat → Nat → Nat} {f p q : Nat} (h1 : ∀ j, p < j → j < q → exJ A f j = 0) : ∀ j, p ≤ j → j < q → sm (exJ A f) (j + 1) = sm (exJ A f) (p + 1) := by
  intro j
  induction j with
  | zero => intro h _; rw [show p = 0 by omega]
  | succ j ih =>
    intro h2 h3
    by_cases c : p = j + 1
    · rw [c]
    · rw [sm_succ, ih (by omega) (by omega), h1 (j + 1) (by omega) h3]; rfl
end EXTENT
