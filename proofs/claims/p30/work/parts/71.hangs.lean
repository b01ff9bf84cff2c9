/-! FILES, FREE RUNS, COUNTS HANG TOGETHER: the law's check of the whole disk. -/
section LHANGS
variable {A : Nat → Nat → Nat} {D : Nat → Nat → Nat → Int32} {sav old hsz : Int32} {cs : Nat → Int32} {len : Int32} {g : Nat → Int32} {T : Nat}
theorem h_files (hc : RC (D 0) A) (hG : GA A T) : f_L_hangs_L21 D sav old hsz cs len g gFu 0 0 0 0 0 0 0 0 = some (nI (ct (fun f => A 3 f ≠ 0) 8), nI (ct (fun f => A 3 f = 2) 8), nI (sm (A 5) 8), nI (sm (fun f => A 4 f - A 5 f) 8), nI (sm (leI A) 8), nI (sm (fun f => sm (exJ A f) (A 4 f)) 8), nI (sm (wbI A) 8), nI 8) := by
  have hI := hG.1
  have z0 : ∀ n : Nat, nI n + 0 = nI (n + 0) := fun n => nI_add n 0
  refine loopN (fun fu j => f_L_hangs_L21 D sav old hsz cs len g fu (nI (ct (fun f => A 3 f ≠ 0) j)) (nI (ct (fun f => A 3 f = 2) j)) (nI (sm (A 5) j)) (nI (sm (fun f => A 4 f - A 5 f) j)) (nI (sm (leI A) j)) (nI (sm (fun f => sm (exJ A f) (A 4 f)) j)) (nI (sm (wbI A) j)) (nI j)) 8 _ (fun fu j hj => ?_) (fun fu => ?_) gFu 0 (by omega) (by decide)
  · show f_L_hangs_L21 D sav old hsz cs len g (fu + 1) (nI (ct (fun f => A 3 f ≠ 0) j)) (nI (ct (fun f => A 3 f = 2) j)) (nI (sm (A 5) j)) (nI (sm (fun f => A 4 f - A 5 f) j)) (nI (sm (leI A) j)) (nI (sm (fun f => sm (exJ A f) (A 4 f)) j)) (nI (sm (wbI A) j)) (nI j) = f_L_hangs_L21 D sav old hsz cs len g fu (nI (ct (fun f => A 3 f ≠ 0) j + if A 3 j ≠ 0 then 1 else 0)) (nI (ct (fun f => A 3 f = 2) j + if A 3 j = 2 then 1 else 0)) (nI (sm (A 5) j + A 5 j)) (nI (sm (fun f => A 4 f - A 5 f) j + (A 4 j - A 5 j))) (nI (sm (leI A) j + leI A j)) (nI (sm (fun f => sm (exJ A f) (A 4 f)) j + sm (exJ A j) (A 4 j))) (nI (sm (wbI A) j + wbI A j)) (nI (j + 1))
    have hl := hI.2.2.2.1 j hj
    rw [f_L_hangs_L21, if_neg (by rw [l_lit8 (by omega)]; omega)]
    by_cases e0 : A 3 j = 0
    · have e4 : A 4 j = 0 := hl.2.2.2.2.2.2 e0
      have e5 : A 5 j = 0 := by omega
      have el : leI A j = 0 := by unfold leI; rw [if_neg (by omega)]
      have ew : wbI A j = 0 := by unfold wbI; rw [if_neg (by omega)]
      rw [q_file_no hc hI hj e0, gb_some, if_pos rfl, glet_eq, nI_1, if_neg (show ¬ A 3 j ≠ 0 from fun q => q e0), if_neg (show ¬ A 3 j = 2 by omega), el, ew, e4, e5]
      rfl
    · have ex := ext_pos A j
      have hse := sm_exJ_le A j (A 4 j)
      rw [q_file0 hc hI hj e0, gb_some, if_neg (nI_nm1 (by omega)), file_ok hc hG hj e0, gb_some, if_neg n10, glet_eq, nI_1, q_file3 hc hI hj e0, gb_some, glet_eq, gb_some, glet_eq, nI_add, q_file1 hc hI hj e0, gb_some, glet_eq, nI_add, gb_some, q_file4 hc hI hj e0, if_pos (show A 3 j ≠ 0 from e0)]
      by_cases e2 : A 3 j = 2
      · have el : leI A j = 0 := by unfold leI; rw [if_neg (by omega)]
        rw [if_pos e2, if_pos rfl, glet_eq, z0, gb_some, glet_eq, nI_add, gb_some, nI_1, if_pos e2, el]
        by_cases c : 0 < A 4 j
        · have ew : wbI A j = 1 := by unfold wbI; rw [if_pos c]
          rw [if_neg (nI_nle (ex.2 c) (by omega)), glet_eq, glet_eq, nI_1, nI_1, ew, z0]
        · have ew : wbI A j = 0 := by unfold wbI; rw [if_neg c]
          have e00 : sm (exJ A j) (A 4 j) = 0 := by rw [show A 4 j = 0 by omega]; rfl
          rw [e00, if_pos (show nI 0 ≤ 0 by decide), glet_eq, glet_eq, z0, nI_1, ew]
      · have el : leI A j = A 4 j - A 5 j := by unfold leI; rw [if_pos (by omega)]
        rw [if_neg e2, if_neg (show ¬ (0 : Int32) = 1 by decide), gb_some, glet_eq, nI_add, gb_some, glet_eq, nI_add, gb_some, z0, if_neg e2, el]
        by_cases c : 0 < A 4 j
        · have ew : wbI A j = 1 := by unfold wbI; rw [if_pos c]
          rw [if_neg (nI_nle (ex.2 c) (by omega)), glet_eq, glet_eq, nI_1, nI_1, ew, z0]
        · have ew : wbI A j = 0 := by unfold wbI; rw [if_neg c]
          have e00 : sm (exJ A j) (A 4 j) = 0 := by rw [show A 4 j = 0 by omega]; rfl
          rw [e00, if_pos (show nI 0 ≤ 0 by decide), glet_eq, glet_eq, z0, nI_1, ew]
  · show f_L_hangs_L21 D sav old hsz cs len g (fu + 1) _ _ _ _ _ _ _ (nI 8) = _
    rw [f_L_hangs_L21, if_pos (by decide)]
-- free runs
theorem rn_step (A : Nat → Nat → Nat) {k : Nat} (hk : k < 64) : rn A k = if A 1 k = 8 then rn A (k + 1) + 1 else 0 := by
  unfold rn
  rw [show 64 - k = (64 - (k + 1)) + 1 by omega]
  rfl
theorem rs_sum (A : Nat → Nat → Nat) : ∀ k, k ≤ 64 → sm (rs A) k = ct (fun i => A 1 i = 8) k + if 0 < k ∧ A 1 (k - 1) = 8 then rn A k else 0 := by
  intro k
  induction k with
  | zero => intro _; rw [if_neg (by omega)]; rfl
  | succ k ih =>
    intro h
    have e := ih (by omega)
    have st := rn_step A (show k < 64 by omega)
    rw [sm_succ, e, ct_succ, Nat.add_sub_cancel]
    unfold rs
    by_cases c : A 1 k = 8
    · rw [if_pos c] at st
      rw [if_pos (show 0 < k + 1 ∧ A 1 k = 8 from ⟨by omega, c⟩), if_pos c]
      by_cases c0 : 0 < k ∧ A 1 (k - 1) = 8
      · rw [if_pos c0, if_neg (show ¬ (A 1 k = 8 ∧ (k = 0 ∨ A 1 (k - 1) ≠ 8)) from fun q => q.2.elim (fun w => by omega) (fun w => w c0.2))]
        omega
      · rw [if_neg c0, if_pos (show A 1 k = 8 ∧ (k = 0 ∨ A 1 (k - 1) ≠ 8) from ⟨c, by
          by_cases w : k = 0
          · exact Or.inl w
          · exact Or.inr (fun q => c0 ⟨by omega, q⟩)⟩)]
        omega
    · rw [if_neg c] at st
      rw [if_neg (show ¬ (0 < k + 1 ∧ A 1 k = 8) from fun q => c q.2), if_neg c, if_neg (show ¬ (A 1 k = 8 ∧ (k = 0 ∨ A 1 (k - 1) ≠ 8)) from fun q => c q.1), st]
      by_cases c0 : 0 < k ∧ A 1 (k - 1) = 8
      · rw [if_pos c0]
      · rw [if_neg c0]
theorem rs_fre (A : Nat → Nat → Nat) : sm (rs A) 64 = fre A := by
  have e := rs_sum A 64 (Nat.le_refl _)
  have z : rn A 64 = 0 := rfl
  rw [z] at e
  rw [e]
  by_cases c : 0 < 64 ∧ A 1 (64 - 1) = 8
  · rw [if_pos c]; rfl
  · rw [if_neg c]; rfl
/-- the last block of the last run that begins below k -/
def bfI (A : Nat → Nat → Nat) : Nat → Int32
  | 0 => -2
  | k + 1 => if 0 < rs A k then nI (k + rs A k - 1) else bfI A k
theorem bf_ok (A : Nat → Nat → Nat) : ∀ k, k ≤ 64 → bfI A k = -2 ∨ ∃ b e, b < k ∧ b ≤ e ∧ e < 64 ∧ bfI A k = nI e ∧ (∀ i, b ≤ i → i ≤ e → A 1 i = 8) ∧ (e + 1 < 64 → A 1 (e + 1) ≠ 8) := by
  intro k
  induction k with
  | zero => intro _; exact Or.inl rfl
  | succ k ih =>
    intro h
    by_cases c : 0 < rs A k
    · obtain ⟨q1, q2⟩ := (rs_le A (show k < 64 by omega)).2 c
      have w := rn_spec A (show k ≤ 64 by omega)
      rw [← q1] at w
      refine Or.inr ⟨k, k + rs A k - 1, by omega, by omega, by omega, ?_, fun i h1 h2 => ?_, fun h1 => ?_⟩
      · show (if 0 < rs A k then nI (k + rs A k - 1) else bfI A k) = _
        rw [if_pos c]
      · have := w.2.1 (i - k) (by omega)
        rwa [show k + (i - k) = i by omega] at this
      · have := w.2.2 (by omega)
        rwa [show k + rs A k - 1 + 1 = k + rs A k by omega]
    · have e : bfI A (k + 1) = bfI A k := by
        show (if 0 < rs A k then nI (k + rs A k - 1) else bfI A k) = _
        rw [if_neg c]
      rw [e]
      rcases ih (by omega) with q | ⟨b, e', h1, h2⟩
      · exact Or.inl q
      · exact Or.inr ⟨b, e', by omega, h2⟩
theorem bf_lt {k : Nat} (hk : k < 64) (h : 0 < rs A k) : ¬ nI k < bfI A k + 2 := by
  obtain ⟨q1, q2⟩ := (rs_le A hk).2 h
  have hs : k = 0 ∨ A 1 (k - 1) ≠ 8 := by
    unfold rs at h
    by_cases c : A 1 k = 8 ∧ (k = 0 ∨ A 1 (k - 1) ≠ 8)
    · exact c.2
    · rw [if_neg c] at h; omega
  rcases bf_ok A k (by omega) with q | ⟨b, e, h1, h2, h3, h4, h5, h6⟩
  · rw [q, show (-2 : Int32) + 2 = 0 by decide]
    exact nI_pos (by omega)
  · have g1 : e < k := by
      by_cases c : k ≤ e
      · exfalso
        have z := h5 (k - 1) (by omega) (by omega)
        rcases hs with w | w
        · omega
        · exact w z
      · omega
    have g2 : k ≠ e + 1 := fun w => by
      have z := h6 (by omega)
      rw [← w] at z
      exact z q2
    rw [h4, show nI e + 2 = nI (e + 2) from nI_add e 2]
    exact nI_nlt (by omega) (by omega)
theorem h_runs (hc : RC (D 0) A) (hI : IA A) (v1 v2 v3 v4 v5 v6 v7 : Int32) : ∀ (m k fu : Nat), 64 - k ≤ m → k ≤ 64 → m < fu → f_L_hangs_L166 D sav old hsz cs len g v1 v2 v3 v4 v5 v6 v7 fu (nI (sm (rs A) k)) (nI (mxJ A k)) (bfI A k) (nI (sm (sI A) k)) = some (nI (sm (rs A) 64), nI (mxJ A 64), bfI A 64, nI (sm (sI A) 64)) := by
  have c6 : f_X5_count D sav old hsz cs len g 6 = some (nI (sm (sI A) 64)) := q_count hc hI (w := 6) (by decide)
  have hs64 := sI_le A 64
  have fin : ∀ fu, f_L_hangs_L166 D sav old hsz cs len g v1 v2 v3 v4 v5 v6 v7 (fu + 1) (nI (sm (rs A) 64)) (nI (mxJ A 64)) (bfI A 64) (nI (sm (sI A) 64)) = some (nI (sm (rs A) 64), nI (mxJ A 64), bfI A 64, nI (sm (sI A) 64)) := fun fu => by
    rw [f_L_hangs_L166, c6, gb_some, if_pos (nI_le (Nat.le_refl _) (by omega))]
  intro m
  induction m with
  | zero =>
    intro k fu h1 h2 h3
    obtain rfl : k = 64 := by omega
    obtain ⟨fu, rfl⟩ : ∃ z, fu = z + 1 := ⟨fu - 1, by omega⟩
    exact fin fu
  | succ m ih =>
    intro k fu h1 h2 h3
    by_cases c : k = 64
    · obtain ⟨fu, rfl⟩ : ∃ z, fu = z + 1 := ⟨fu - 1, by omega⟩
      rw [c]; exact fin fu
    · have hk : k < 64 := by omega
      by_cases hr : 0 < rs A k
      · obtain ⟨fu, rfl⟩ : ∃ z, fu = z + 1 := ⟨fu - 1, by omega⟩
        obtain ⟨q1, q2⟩ := (rs_le A hk).2 hr
        have w := rn_spec A (show k ≤ 64 by omega)
        rw [← q1] at w
        have e1 : sI A k = 1 := by unfold sI; rw [if_pos hr]
        have hm := sm_mono (sI A) (show k + 1 ≤ 64 by omega)
        rw [sm_succ, e1] at hm
        have hmx := mxJ_le A k (by omega)
        have nx := ih (k + 1) fu (by omega) (by omega) (by omega)
        have eb : bfI A (k + 1) = nI (k + rs A k - 1) := by
          show (if 0 < rs A k then nI (k + rs A k - 1) else bfI A k) = _
          rw [if_pos hr]
        have em : mxJ A (k + 1) = if mxJ A k < rs A k then rs A k else mxJ A k := rfl
        rw [sm_succ, sm_succ, e1, eb, em] at nx
        have b1 : f_X5_block D sav old hsz cs len g (nI k) 1 = some 0 := by
          rw [q_block1 hc hI hk]
          unfold usV
          rw [if_pos q2]; rfl
        have l8 : A 1 (k + rs A k - 1) = 8 := by
          have := w.2.1 (rs A k - 1) (by omega)
          rwa [show k + (rs A k - 1) = k + rs A k - 1 by omega] at this
        have b0 : f_X5_block D sav old hsz cs len g (nI (k + rs A k - 1)) 0 = some (-5) := by
          rw [q_block0 hc (by omega), if_pos l8]
        have es : nI (k + rs A k) - 1 = nI (k + rs A k - 1) := nI_sub (b := 1) (by omega)
        have tail : ∀ x y : Int32, (if nI (rs A k) ≤ nI (mxJ A k) then glet (nI (sm (sI A) k) + 1) (fun x351 => f_L_hangs_L166 D sav old hsz cs len g v1 v2 v3 v4 v5 v6 v7 fu x (nI (mxJ A k)) y x351) else glet (nI (sm (sI A) k) + 1) (fun x352 => f_L_hangs_L166 D sav old hsz cs len g v1 v2 v3 v4 v5 v6 v7 fu x (nI (rs A k)) y x352)) = f_L_hangs_L166 D sav old hsz cs len g v1 v2 v3 v4 v5 v6 v7 fu x (nI (if mxJ A k < rs A k then rs A k else mxJ A k)) y (nI (sm (sI A) k + 1)) := fun x y => by
          by_cases cm : mxJ A k < rs A k
          · rw [if_neg (nI_ge cm (by omega)), if_pos cm, glet_eq, nI_1]
          · rw [if_pos (nI_le (by omega) (by omega)), if_neg cm, glet_eq, nI_1]
        rw [f_L_hangs_L166, c6, gb_some, if_neg (nI_ge (by omega) (by omega)), q_run0 hc hI (by omega) hk hr rfl, gb_some, q_run1 hc hI (by omega) hk hr rfl, gb_some, if_neg (show ¬ nI (rs A k) < 1 from nI_nlt (b := 1) hr (by omega)), if_neg (bf_lt hk hr), b1, gb_some, if_pos rfl, nI_add, es, b0, gb_some, if_pos rfl]
        by_cases c64 : k + rs A k < 64
        · have nf := w.2.2 c64
          have bx : ∃ u : Nat, f_X5_block D sav old hsz cs len g (nI (k + rs A k)) 1 = some (nI u) ∧ ¬ nI u = 0 := by
            refine ⟨usV A (k + rs A k), q_block1 hc hI c64, ?_⟩
            unfold usV
            rw [if_neg nf]
            by_cases cu : A 5 (A 1 (k + rs A k)) ≤ A 2 (k + rs A k)
            · rw [if_pos cu]; decide
            · rw [if_neg cu]; decide
          obtain ⟨u, u1, u2⟩ := bx
          rw [if_neg (show ¬ (64 : Int32) ≤ nI (k + rs A k) from nI_ge (b := 64) c64 (by decide)), u1, gb_some, if_neg u2, glet_eq, glet_eq, nI_add, tail]
          exact nx
        · rw [if_pos (show (64 : Int32) ≤ nI (k + rs A k) from nI_le (a := 64) (by omega) (by omega)), glet_eq, glet_eq, nI_add, tail]
          exact nx
      · have e0 : rs A k = 0 := by omega
        have e1 : sI A k = 0 := by unfold sI; rw [if_neg hr]
        have nx := ih (k + 1) fu (by omega) (by omega) (by omega)
        have eb : bfI A (k + 1) = bfI A k := by
          show (if 0 < rs A k then nI (k + rs A k - 1) else bfI A k) = _
          rw [if_neg hr]
        have em : mxJ A (k + 1) = mxJ A k := by
          show (if mxJ A k < rs A k then rs A k else mxJ A k) = _
          rw [if_neg (by omega)]
        rw [sm_succ, sm_succ, e1, e0, eb, em] at nx
        exact nx
-- wholeness
theorem div_ok : ∀ a, a < 9 → ∀ b, b < 65 → 0 < b → vf_b64 (FP.ddiv (FP.i2d (nI a)) (FP.i2d (nI b))) = true ∧ Op.cmpValue (FP.dcmp (FP.ddiv (FP.i2d (nI a)) (FP.i2d (nI b))) (FP.ddiv (FP.i2d (nI a)) (FP.i2d (nI b)))) CmpOp.l = 0 := by decide +kernel
theorem one_ok : Op.cmpValue (FP.dcmp FP.dconst1 FP.dconst1) CmpOp.l = 0 := by decide +kernel
theorem ext_le64 (hI : IB A) : sm (fun f => sm (exJ A f) (A 4 f)) 8 ≤ 64 := by
  have h1 := sm_le (w := fun f => sm (exJ A f) (A 4 f)) (v := A 4) (n := 8) (fun f _ => sm_exJ_le A f (A 4 f))
  have h2 := sum64 hI
  omega
theorem hangs_ok (hc : RC (D 0) A) (hG : GA A T) (hT : T < 2 ^ 31) : f_L_hangs D sav old hsz cs len g = some 1 := by
  have hI := hG.1
  have c0 : f_X5_count D sav old hsz cs len g 0 = some (nI (ct (fun f => A 3 f ≠ 0) 8)) := q_count hc hI (w := 0) (by decide)
  have c1 : f_X5_count D sav old hsz cs len g 1 = some (nI (ct (fun f => A 3 f = 2) 8)) := q_count hc hI (w := 1) (by decide)
  have c2 : f_X5_count D sav old hsz cs len g 2 = some (nI (fre A)) := q_count hc hI (w := 2) (by decide)
  have c3 : f_X5_count D sav old hsz cs len g 3 = some (nI (sm (A 5) 8)) := q_count hc hI (w := 3) (by decide)
  have c4 : f_X5_count D sav old hsz cs len g 4 = some (nI (sm (fun f => A 4 f - A 5 f) 8)) := q_count hc hI (w := 4) (by decide)
  have c5 : f_X5_count D sav old hsz cs len g 5 = some (nI (sm (leI A) 8)) := q_count hc hI (w := 5) (by decide)
  have c7 : f_X5_count D sav old hsz cs len g 7 = some (nI (mxJ A 64)) := q_count hc hI (w := 7) (by decide)
  have c8 : f_X5_count D sav old hsz cs len g 8 = some (nI (sm (fun f => sm (exJ A f) (A 4 f)) 8)) := q_count hc hI (w := 8) (by decide)
  have t0 : f_X5_total D sav old hsz cs len g 0 = some (nI (A 9 0)) := q_total hc (i := 0) (by decide)
  have t1 : f_X5_total D sav old hsz cs len g 1 = some (nI (A 9 1)) := q_total hc (i := 1) (by decide)
  have t2 : f_X5_total D sav old hsz cs len g 2 = some (nI (A 9 2)) := q_total hc (i := 2) (by decide)
  have runs : f_L_hangs_L166 D sav old hsz cs len g (nI (ct (fun f => A 3 f ≠ 0) 8)) (nI (ct (fun f => A 3 f = 2) 8)) (nI (sm (A 5) 8)) (nI (sm (fun f => A 4 f - A 5 f) 8)) (nI (sm (leI A) 8)) (nI (sm (fun f => sm (exJ A f) (A 4 f)) 8)) (nI (sm (wbI A) 8)) gFu 0 0 (-2) 0 = some (nI (sm (rs A) 64), nI (mxJ A 64), bfI A 64, nI (sm (sI A) 64)) :=
    h_runs hc hI _ _ _ _ _ _ _ 64 0 gFu (by omega) (by omega) (by decide)
  have s64 := sum64 hI.b
  have ls := lent_sum hI
  have b0 := hG.2.2.2.1 0 (by decide)
  have b1 := hG.2.2.2.1 1 (by decide)
  have b2 := hG.2.2.2.1 2 (by decide)
  have e64 := ext_le64 hI.b
  have w8 := wb_le A
  have h3 := whole_pos A
  have tl : (gb (f_X5_total D sav old hsz cs len g 0) (fun r399 => if r399 < nI (sm (A 5) 8) then none else gb (f_X5_total D sav old hsz cs len g 2) (fun r401 => gb (f_X5_total D sav old hsz cs len g 1) (fun r402 => if r402 < r401 then none else some (1 : Int32))))) = some 1 := by
    rw [t0, gb_some, if_neg (nI_nlt hG.2.1 (by omega)), t2, gb_some, t1, gb_some, if_neg (nI_nlt hG.2.2.1 (by omega))]
  unfold f_L_hangs
  rw [h_files hc hG, gbb8_some, runs, gbb4_some, c0, gb_some, if_pos rfl, c1, gb_some, if_pos rfl, c2, gb_some, if_pos (by rw [rs_fre]), c3, gb_some, if_pos rfl, c4, gb_some, if_pos rfl, c5, gb_some, if_pos rfl, c7, gb_some, if_pos rfl, c8, gb_some, if_pos rfl, nI_add, nI_add, if_pos (show nI (sm (rs A) 64 + sm (A 5) 8 + sm (fun f => A 4 f - A 5 f) 8) = 64 by rw [rs_fre, show fre A + sm (A 5) 8 + sm (fun f => A 4 f - A 5 f) 8 = 64 by omega]; rfl)]
  unfold f_X5_wholeness
  rw [C_allExtents hc hI.b, gb_some, C_filesWithBlocks hc hI.b, gb_some]
  by_cases c : 0 < sm (wbI A) 8
  · have d := div_ok (sm (wbI A) 8) (by omega) (sm (fun f => sm (exJ A f) (A 4 f)) 8) (by omega) (h3.2 c)
    rw [if_neg (nI_nle (h3.2 c) (by omega)), if_pos d.1, gb_some, if_neg (nI_ne0 c (by omega)), if_pos d.1, if_pos d.2]
    exact tl
  · have cz : sm (fun f => sm (exJ A f) (A 4 f)) 8 = 0 := by
      rcases Nat.eq_zero_or_pos (sm (fun f => sm (exJ A f) (A 4 f)) 8) with e | e
      · exact e
      · exact absurd (h3.1 e) c
    rw [cz, show sm (wbI A) 8 = 0 by omega, if_pos (show nI 0 ≤ 0 by decide), gb_some, if_pos (show nI 0 = 0 from rfl), if_pos one_ok]
    exact tl
end LHANGS
