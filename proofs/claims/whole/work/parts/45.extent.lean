/-! MATHEMATICS, 21: the query extent. -/
section EXTENT
variable {d : Nat → Nat → Int32} {A : Nat → Nat → Nat} {s t g : Nat → Int32}
theorem exJ_01 (A : Nat → Nat → Nat) (f i : Nat) : exJ A f i = 0 ∨ exJ A f i = 1 := by
  unfold exJ
  by_cases c : i = 0
  · rw [if_pos c]; exact Or.inr rfl
  · rw [if_neg c]
    by_cases c2 : bk A f i = bk A f (i - 1) + 1
    · rw [if_pos c2]; exact Or.inl rfl
    · rw [if_neg c2]; exact Or.inr rfl
theorem sm_exJ_le (A : Nat → Nat → Nat) (f n : Nat) : sm (exJ A f) n ≤ n := by
  induction n with
  | zero => exact Nat.le_refl _
  | succ n ih => rw [sm_succ]; rcases exJ_01 A f n with e | e <;> omega
theorem sm_mono (w : Nat → Nat) {m n : Nat} (h : m ≤ n) : sm w m ≤ sm w n := by
  induction n with
  | zero => rw [show m = 0 by omega]; exact Nat.le_refl _
  | succ n ih =>
    by_cases e : m = n + 1
    · rw [e]; exact Nat.le_refl _
    · rw [sm_succ]; have := ih (by omega); omega
/-- the place at which the extent e begins, if there is one -/
theorem ex_find (A : Nat → Nat → Nat) (f e : Nat) : ∀ n, (∃ p, p < n ∧ exJ A f p = 1 ∧ sm (exJ A f) p = e) ∨ sm (exJ A f) n ≤ e := by
  intro n
  induction n with
  | zero => exact Or.inr (Nat.zero_le _)
  | succ n ih =>
    rcases ih with ⟨p, h1, h2⟩ | h
    · exact Or.inl ⟨p, by omega, h2⟩
    · rcases exJ_01 A f n with q | q
      · exact Or.inr (by rw [sm_succ]; omega)
      · by_cases c : sm (exJ A f) n = e
        · exact Or.inl ⟨n, by omega, q, c⟩
        · exact Or.inr (by rw [sm_succ]; omega)
/-- where the extent that begins at p ends -/
theorem ex_end (A : Nat → Nat → Nat) (f p : Nat) : ∀ n, p < n → ∃ q, p < q ∧ q ≤ n ∧ (∀ j, p < j → j < q → exJ A f j = 0) ∧ (q < n → exJ A f q = 1) := by
  intro n
  induction n with
  | zero => omega
  | succ n ih =>
    intro h
    by_cases c : p = n
    · exact ⟨n + 1, by omega, by omega, fun j h1 h2 => by omega, fun h => by omega⟩
    · obtain ⟨q, h1, h2, h3, h4⟩ := ih (by omega)
      by_cases c2 : q < n
      · exact ⟨q, h1, by omega, h3, fun _ => h4 c2⟩
      · rcases exJ_01 A f n with e | e
        · refine ⟨n + 1, by omega, by omega, fun j h5 h6 => ?_, fun h => by omega⟩
          by_cases c3 : j = n
          · rw [c3]; exact e
          · exact h3 j h5 (by omega)
        · exact ⟨n, by omega, by omega, fun j h5 h6 => h3 j h5 (by omega), fun _ => e⟩
/-- a loop over a counter that begins at m -/
theorem loopB {ρ : Type} (F : Nat → Nat → Option ρ) (m N : Nat) (r : ρ) (hs : ∀ fu j, m ≤ j → j < N → F (fu + 1) j = F fu (j + 1)) (he : ∀ fu, F (fu + 1) N = some r) : ∀ (fu j : Nat), m ≤ j → j ≤ N → N < j + fu → F fu j = some r := by
  intro fu
  induction fu with
  | zero => intro j h0 h1 h2; omega
  | succ fu ih =>
    intro j h0 h1 h2
    by_cases hj : j < N
    · rw [hs fu j h0 hj]; exact ih (j + 1) (by omega) hj (by omega)
    · obtain rfl : j = N := by omega
      exact he fu
theorem nI_of1 (x : Nat) (h : x = 0 ∨ x = 1) : (if nI x = 0 then (0 : Nat) else 1) = x := by
  rcases h with e | e <;> subst e <;> decide
theorem C_place_none (h : RC d A) (hI : IB A) {f e : Nat} (hf : f < 8) (he : e < 2 ^ 31) (hn : sm (exJ A f) (A 4 f) ≤ e) : f_X0_placeOfExtent d (nI f) (nI e) = some (-5) := by
  have hl := (hI.2.2.2 f hf).2
  refine loopN (fun fu j => f_X0_placeOfExtent_L5 d (nI f) (nI e) fu (nI (sm (exJ A f) j)) (nI j)) (A 4 f) _ (fun fu j hj => ?_) (fun fu => ?_) gFu 0 (by omega) (Nat.lt_of_le_of_lt hl (by decide))
  · show f_X0_placeOfExtent_L5 d (nI f) (nI e) (fu + 1) _ (nI j) = f_X0_placeOfExtent_L5 d (nI f) (nI e) fu (nI (sm (exJ A f) j + exJ A f j)) (nI (j + 1))
    have hk := bk_spec hI hf hj
    have hm := sm_mono (exJ A f) (show j + 1 ≤ A 4 f by omega)
    rw [sm_succ] at hm
    have hs := sm_exJ_le A f j
    rw [f_X0_placeOfExtent_L5, f_at_in (by decide) _ hf, gb_some, h.ln hf, if_neg (nI_ge hj (by omega)), C_blockAt h hI hf hj, gb_some, C_beginsExtent h hI hk.1 (by omega), gb_some, be_exJ hI hf hj]
    rcases exJ_01 A f j with q | q
    · rw [q, if_pos (show nI 0 = 0 from rfl), glet_eq, nI_1]; rfl
    · rw [q, if_neg (show ¬ nI 1 = 0 from by decide), if_neg (fun z => by have := (nI_eq (by omega) (by omega)).1 z; omega), glet_eq, glet_eq, nI_1, nI_1]
  · show f_X0_placeOfExtent_L5 d (nI f) (nI e) (fu + 1) _ (nI (A 4 f)) = _
    rw [f_X0_placeOfExtent_L5, f_at_in (by decide) _ hf, gb_some, h.ln hf, if_pos (nI_le (Nat.le_refl _) (by omega))]
theorem C_place (h : RC d A) (hI : IB A) {f e p : Nat} (hf : f < 8) (he : e < 2 ^ 31) (hp : p < A 4 f) (h1 : exJ A f p = 1) (h2 : sm (exJ A f) p = e) : f_X0_placeOfExtent d (nI f) (nI e) = some (nI p) := by
  have hl := (hI.2.2.2 f hf).2
  refine loopN (fun fu j => f_X0_placeOfExtent_L5 d (nI f) (nI e) fu (nI (sm (exJ A f) j)) (nI j)) p _ (fun fu j hj => ?_) (fun fu => ?_) gFu 0 (by omega) (Nat.lt_trans (Nat.lt_of_lt_of_le hp hl) (by decide))
  · show f_X0_placeOfExtent_L5 d (nI f) (nI e) (fu + 1) _ (nI j) = f_X0_placeOfExtent_L5 d (nI f) (nI e) fu (nI (sm (exJ A f) j + exJ A f j)) (nI (j + 1))
    have hj4 : j < A 4 f := by omega
    have hk := bk_spec hI hf hj4
    have hm := sm_mono (exJ A f) (show j + 1 ≤ p by omega)
    rw [sm_succ] at hm
    have hs := sm_exJ_le A f j
    rw [f_X0_placeOfExtent_L5, f_at_in (by decide) _ hf, gb_some, h.ln hf, if_neg (nI_ge hj4 (by omega)), C_blockAt h hI hf hj4, gb_some, C_beginsExtent h hI hk.1 (by omega), gb_some, be_exJ hI hf hj4]
    rcases exJ_01 A f j with q | q
    · rw [q, if_pos (show nI 0 = 0 from rfl), glet_eq, nI_1]; rfl
    · rw [q, if_neg (show ¬ nI 1 = 0 from by decide), if_neg (fun z => by have := (nI_eq (by omega) (by omega)).1 z; omega), glet_eq, glet_eq, nI_1, nI_1]
  · show f_X0_placeOfExtent_L5 d (nI f) (nI e) (fu + 1) _ (nI p) = _
    have hk := bk_spec hI hf hp
    rw [f_X0_placeOfExtent_L5, f_at_in (by decide) _ hf, gb_some, h.ln hf, if_neg (nI_ge hp (by omega)), C_blockAt h hI hf hp, gb_some, C_beginsExtent h hI hk.1 (by omega), gb_some, be_exJ hI hf hp, h1, if_neg (show ¬ nI 1 = 0 from by decide), if_pos (by rw [h2])]
theorem C_extentFrom (h : RC d A) (hI : IB A) {f p q : Nat} (hf : f < 8) (hpq : p < q) (hq : q ≤ A 4 f) (h1 : ∀ j, p < j → j < q → exJ A f j = 0) (h2 : q < A 4 f → exJ A f q = 1) : f_X0_extentFrom d (nI f) (nI p) = some (nI (q - p)) := by
  have hl := (hI.2.2.2 f hf).2
  unfold f_X0_extentFrom
  rw [glet_eq, nI_1]
  refine loopB (fun fu j => f_X0_extentFrom_L4 d (nI f) (nI p) fu (nI j)) (p + 1) q _ (fun fu j hm hj => ?_) (fun fu => ?_) gFu (p + 1) (by omega) (by omega) (by show q < p + 1 + 1000; omega)
  · show f_X0_extentFrom_L4 d (nI f) (nI p) (fu + 1) (nI j) = f_X0_extentFrom_L4 d (nI f) (nI p) fu (nI (j + 1))
    have hj4 : j < A 4 f := by omega
    have hk := bk_spec hI hf hj4
    rw [f_X0_extentFrom_L4, f_at_in (by decide) _ hf, gb_some, h.ln hf, if_neg (nI_ge hj4 (by omega)), C_blockAt h hI hf hj4, gb_some, C_beginsExtent h hI hk.1 (by omega), gb_some, be_exJ hI hf hj4, h1 j (by omega) hj, if_pos (show nI 0 = 0 from rfl), glet_eq, nI_1]
  · show f_X0_extentFrom_L4 d (nI f) (nI p) (fu + 1) (nI q) = _
    rw [f_X0_extentFrom_L4, f_at_in (by decide) _ hf, gb_some, h.ln hf]
    by_cases c : q < A 4 f
    · have hk := bk_spec hI hf c
      rw [if_neg (nI_ge c (by omega)), C_blockAt h hI hf c, gb_some, C_beginsExtent h hI hk.1 (by omega), gb_some, be_exJ hI hf c, h2 c, if_neg (show ¬ nI 1 = 0 from by decide), nI_sub (by omega)]
    · rw [if_pos (nI_le (by omega) (by omega)), nI_sub (by omega)]
-- the reference
noncomputable def rkv (A : Nat → Nat → Nat) (f j : Nat) : Int32 := if j = 0 then -1 else nI (sm (exJ A f) j - 1)
theorem rkv_succ (A : Nat → Nat → Nat) (f j : Nat) : rkv A f j + nI (exJ A f j) = nI (sm (exJ A f) (j + 1) - 1) ∧ 1 ≤ sm (exJ A f) (j + 1) := by
  have h1 : 1 ≤ sm (exJ A f) 1 := by
    rw [sm_succ]
    have : exJ A f 0 = 1 := by unfold exJ; rw [if_pos rfl]
    omega
  have h2 := sm_mono (exJ A f) (show 1 ≤ j + 1 by omega)
  refine ⟨?_, by omega⟩
  unfold rkv
  by_cases c : j = 0
  · subst c
    rw [if_pos rfl, sm_succ]
    have e0 : exJ A f 0 = 1 := by unfold exJ; rw [if_pos rfl]
    rw [e0]
    show -1 + nI 1 = nI (0 + 1 - 1)
    decide
  · have h3 := sm_mono (exJ A f) (show 1 ≤ j by omega)
    rw [if_neg c, nI_add, sm_succ]
    congr 1
    omega
theorem M_ext_step (h : RM s 0 A) (hI : IB A) {f j : Nat} (hf : f < 8) (hj : j < A 4 f) (v2 v3 v4 v5 v6 : Int32) (fu : Nat) : f_X6_extent_L43 s t g (nI f) v2 v3 (fu + 1) v4 v5 v6 (if j = 0 then -5 else nI (bk A f (j - 1))) (nI j) = f_X6_extent_L43 s t g (nI f) v2 v3 fu (v4 + nI (exJ A f j)) (if exJ A f j = 1 ∧ v4 + nI (exJ A f j) = v2 then nI (bk A f j) else v5) (v6 + if v4 + nI (exJ A f j) = v2 then 1 else 0) (nI (bk A f j)) (nI (j + 1)) := by
  have hl := (hI.2.2.2 f hf).2
  have hk := bk_spec hI hf hj
  have a1 : nI (0 + 192 + 6 * f) + 1 = nI (0 + 192 + 6 * f + 1) := nI_add _ 1
  have eb : f_X6_blockOf s t g 0 (nI f) (nI j) = some (nI (bk A f j)) := M_blockOf h hI (by omega) hf hj
  have fin : ∀ (r : Int32) (x : Nat), (x = 0 ∨ x = 1) → f_X6_flag (if x = 1 then 1 else 0) = some (nI x) := by
    rintro r x (e | e) <;> subst e <;> decide
  rw [f_X6_extent_L43, show f_X6_at 0 (nI f) = some (nI (0 + 192 + 6 * f)) from M_at 0 f, gb_some, a1, m_rd (by omega), nI_clamp (by omega), h.ln hf, if_neg (nI_ge hj (by omega)), eb, gb_some]
  by_cases e0 : j = 0
  · subst e0
    have ee : exJ A f 0 = 1 := by unfold exJ; rw [if_pos rfl]
    rw [if_pos (show nI 0 = 0 from rfl), M_flag1, gb_some, glet_eq, ee]
    by_cases c : v4 + 1 = v2
    · rw [if_pos c, gb_some, glet_eq, glet_eq, nI_1, if_pos (show 1 = 1 ∧ v4 + nI 1 = v2 from ⟨rfl, c⟩), if_pos (show v4 + nI 1 = v2 from c)]; rfl
    · rw [if_neg c, M_flag0, gb_some, glet_eq, glet_eq, nI_1, if_neg (show ¬ (1 = 1 ∧ v4 + nI 1 = v2) from fun q => c q.2), if_neg (show ¬ v4 + nI 1 = v2 from c)]; rfl
  · have hk2 := bk_spec hI hf (i := j - 1) (by omega)
    rw [if_neg (show ¬ nI j = 0 from fun q => e0 ((nI_eq (b := 0) (by omega) (by decide)).1 q)), if_neg e0, nI_1]
    by_cases cb : bk A f j = bk A f (j - 1) + 1
    · have ee : exJ A f j = 0 := by unfold exJ; rw [if_neg e0, if_pos cb]
      rw [if_pos (by rw [cb]), M_flag0, gb_some, glet_eq, ee]
      by_cases c : v4 + 0 = v2
      · rw [if_pos c, M_flag1, gb_some, glet_eq, glet_eq, nI_1, if_neg (show ¬ (0 = 1 ∧ v4 + nI 0 = v2) from fun q => absurd q.1 (by decide)), if_pos (show v4 + nI 0 = v2 from c)]; rfl
      · rw [if_neg c, gb_some, glet_eq, glet_eq, nI_1, if_neg (show ¬ (0 = 1 ∧ v4 + nI 0 = v2) from fun q => c q.2), if_neg (show ¬ v4 + nI 0 = v2 from c)]; rfl
    · have ee : exJ A f j = 1 := by unfold exJ; rw [if_neg e0, if_neg cb]
      rw [if_neg (fun q => cb ((nI_eq (by omega) (by omega)).1 q)), M_flag1, gb_some, glet_eq, ee]
      by_cases c : v4 + 1 = v2
      · rw [if_pos c, gb_some, glet_eq, glet_eq, nI_1, if_pos (show 1 = 1 ∧ v4 + nI 1 = v2 from ⟨rfl, c⟩), if_pos (show v4 + nI 1 = v2 from c)]; rfl
      · rw [if_neg c, M_flag0, gb_some, glet_eq, glet_eq, nI_1, if_neg (show ¬ (1 = 1 ∧ v4 + nI 1 = v2) from fun q => c q.2), if_neg (show ¬ v4 + nI 1 = v2 from c)]; rfl
theorem M_ext_end (h : RM s 0 A) (hI : IB A) {f : Nat} (hf : f < 8) (v2 v3 v4 v5 v6 v7 : Int32) (fu : Nat) : f_X6_extent_L43 s t g (nI f) v2 v3 (fu + 1) v4 v5 v6 v7 (nI (A 4 f)) = if v5 = -5 then some (-5) else if v3 = 0 then some v5 else some v6 := by
  have hl := (hI.2.2.2 f hf).2
  have a1 : nI (0 + 192 + 6 * f) + 1 = nI (0 + 192 + 6 * f + 1) := nI_add _ 1
  rw [f_X6_extent_L43, show f_X6_at 0 (nI f) = some (nI (0 + 192 + 6 * f)) from M_at 0 f, gb_some, a1, m_rd (by omega), nI_clamp (by omega), h.ln hf, if_pos (nI_le (Nat.le_refl _) (by omega))]
theorem M_ext_none (h : RM s 0 A) (hI : IB A) {f e : Nat} (hf : f < 8) (he : e < 2 ^ 31) (hn : sm (exJ A f) (A 4 f) ≤ e) (v3 : Int32) : f_X6_extent_L43 s t g (nI f) (nI e) v3 gFu (-1) (-5) 0 (-5) 0 = some (-5) := by
  have hl := (hI.2.2.2 f hf).2
  refine loopN (fun fu j => f_X6_extent_L43 s t g (nI f) (nI e) v3 fu (rkv A f j) (-5) 0 (if j = 0 then -5 else nI (bk A f (j - 1))) (nI j)) (A 4 f) _ (fun fu j hj => ?_) (fun fu => ?_) gFu 0 (by omega) (Nat.lt_of_le_of_lt hl (by decide))
  · show f_X6_extent_L43 s t g (nI f) (nI e) v3 (fu + 1) (rkv A f j) (-5) 0 (if j = 0 then -5 else nI (bk A f (j - 1))) (nI j) = f_X6_extent_L43 s t g (nI f) (nI e) v3 fu (nI (sm (exJ A f) (j + 1) - 1)) (-5) 0 (nI (bk A f j)) (nI (j + 1))
    have q := rkv_succ A f j
    have hm := sm_mono (exJ A f) (show j + 1 ≤ A 4 f by omega)
    have hs := sm_exJ_le A f (j + 1)
    have ne : ¬ nI (sm (exJ A f) (j + 1) - 1) = nI e := fun z => by have := (nI_eq (by omega) (by omega)).1 z; omega
    rw [M_ext_step h hI hf hj, q.1, if_neg (fun z => ne z.2), if_neg ne]
    rfl
  · show f_X6_extent_L43 s t g (nI f) (nI e) v3 (fu + 1) _ _ _ _ (nI (A 4 f)) = _
    rw [M_ext_end h hI hf, if_pos rfl]
theorem sm_flat {A : Nat → Nat → Nat} {f p q : Nat} (h1 : ∀ j, p < j → j < q → exJ A f j = 0) : ∀ j, p ≤ j → j < q → sm (exJ A f) (j + 1) = sm (exJ A f) (p + 1) := by
  intro j
  induction j with
  | zero => intro h _; rw [show p = 0 by omega]
  | succ j ih =>
    intro h2 h3
    by_cases c : p = j + 1
    · rw [c]
    · rw [sm_succ, ih (by omega) (by omega), h1 (j + 1) (by omega) h3]; rfl
theorem M_ext_some (h : RM s 0 A) (hI : IB A) {f e p q : Nat} (hf : f < 8) (he : e < 2 ^ 31) (hp : p < A 4 f) (hb : exJ A f p = 1) (hs : sm (exJ A f) p = e) (hpq : p < q) (hq : q ≤ A 4 f) (h1 : ∀ j, p < j → j < q → exJ A f j = 0) (h2 : q < A 4 f → exJ A f q = 1) (v3 : Int32) : f_X6_extent_L43 s t g (nI f) (nI e) v3 gFu (-1) (-5) 0 (-5) 0 = some (if v3 = 0 then nI (bk A f p) else nI (q - p)) := by
  have hl := (hI.2.2.2 f hf).2
  have hkp := bk_spec hI hf hp
  refine loopN (fun fu j => f_X6_extent_L43 s t g (nI f) (nI e) v3 fu (rkv A f j) (if p < j then nI (bk A f p) else -5) (nI (if j ≤ p then 0 else if j ≤ q then j - p else q - p)) (if j = 0 then -5 else nI (bk A f (j - 1))) (nI j)) (A 4 f) _ (fun fu j hj => ?_) (fun fu => ?_) gFu 0 (by omega) (Nat.lt_of_le_of_lt hl (by decide))
  · show f_X6_extent_L43 s t g (nI f) (nI e) v3 (fu + 1) (rkv A f j) (if p < j then nI (bk A f p) else -5) (nI (if j ≤ p then 0 else if j ≤ q then j - p else q - p)) (if j = 0 then -5 else nI (bk A f (j - 1))) (nI j) = f_X6_extent_L43 s t g (nI f) (nI e) v3 fu (nI (sm (exJ A f) (j + 1) - 1)) (if p < j + 1 then nI (bk A f p) else -5) (nI (if j + 1 ≤ p then 0 else if j + 1 ≤ q then j + 1 - p else q - p)) (nI (bk A f j)) (nI (j + 1))
    have k := rkv_succ A f j
    have hs2 := sm_exJ_le A f (j + 1)
    have z0 : ∀ n : Nat, nI n + 0 = nI n := fun n => nI_add n 0
    rw [M_ext_step h hI hf hj, k.1]
    by_cases c1 : j < p
    · have hm := sm_mono (exJ A f) (show j + 1 ≤ p by omega)
      have ne : ¬ nI (sm (exJ A f) (j + 1) - 1) = nI e := fun z => by have := (nI_eq (by omega) (by omega)).1 z; omega
      rw [if_neg (fun z => ne z.2), if_neg ne, if_neg (show ¬ p < j by omega), if_neg (show ¬ p < j + 1 by omega), if_pos (show j ≤ p by omega), if_pos (show j + 1 ≤ p by omega), z0]
    · by_cases c2 : j < q
      · have e1 := sm_flat h1 j (by omega) c2
        rw [sm_succ (exJ A f) p, hb, hs] at e1
        have ye : nI (sm (exJ A f) (j + 1) - 1) = nI e := by rw [e1]; rfl
        rw [if_pos ye, if_pos (show p < j + 1 by omega), nI_1, if_neg (show ¬ j + 1 ≤ p by omega), if_pos (show j + 1 ≤ q by omega)]
        by_cases c3 : p = j
        · subst c3
          rw [if_pos ⟨hb, ye⟩, if_pos (Nat.le_refl p), show 0 + 1 = p + 1 - p by omega]
        · rw [if_neg (fun z => by have := h1 j (by omega) c2; omega), if_pos (show p < j by omega), if_neg (show ¬ j ≤ p by omega), if_pos (show j ≤ q by omega), show j - p + 1 = j + 1 - p by omega]
      · have e1 := sm_flat h1 (q - 1) (by omega) (by omega)
        rw [show q - 1 + 1 = q by omega, sm_succ (exJ A f) p, hb, hs] at e1
        have hm := sm_mono (exJ A f) (show q + 1 ≤ j + 1 by omega)
        rw [sm_succ (exJ A f) q, h2 (by omega)] at hm
        have ne : ¬ nI (sm (exJ A f) (j + 1) - 1) = nI e := fun z => by have := (nI_eq (by omega) (by omega)).1 z; omega
        rw [if_neg (fun z => ne z.2), if_neg ne, if_pos (show p < j by omega), if_pos (show p < j + 1 by omega), if_neg (show ¬ j ≤ p by omega), if_neg (show ¬ j + 1 ≤ p by omega), if_neg (show ¬ j + 1 ≤ q by omega), z0]
        by_cases c3 : j ≤ q
        · rw [if_pos c3, show j - p = q - p by omega]
        · rw [if_neg c3]
  · show f_X6_extent_L43 s t g (nI f) (nI e) v3 (fu + 1) _ _ _ _ (nI (A 4 f)) = _
    rw [M_ext_end h hI hf, if_pos hp, if_neg (nI_m5 (by omega)), if_neg (show ¬ A 4 f ≤ p by omega)]
    have e3 : (if A 4 f ≤ q then A 4 f - p else q - p) = q - p := by
      by_cases c3 : A 4 f ≤ q
      · rw [if_pos c3]; omega
      · rw [if_neg c3]
    rw [e3]
    by_cases c4 : v3 = 0
    · rw [if_pos c4, if_pos c4]
    · rw [if_neg c4, if_neg c4]
end EXTENT
