/-! A FILE'S EXTENTS TELL ITS BLOCKS: the law's own check of a file. -/
section LFILE
variable {A : Nat → Nat → Nat} {D : Nat → Nat → Nat → Int32} {sav old hsz : Int32} {cs : Nat → Int32} {len : Int32} {g : Nat → Int32} {T : Nat}
noncomputable def stDv (A : Nat → Nat → Nat) (f i : Nat) : Nat := if i < A 5 f then A 0 (bk A f i) else 0
noncomputable def afI (A : Nat → Nat → Nat) (f p : Nat) : Int32 := if p = 0 then -1 else nI (bk A f (p - 1) + 1)
theorem nI_nm1 {k : Nat} (h : k < 2 ^ 31) : ¬ nI k = -1 := by
  intro e
  exact nI_pos h (by rw [e]; decide)
theorem fl_inner (hc : RC (D 0) A) (hI : IA A) {f p q : Nat} (hf : f < 8) (hpq : p < q) (hq : q ≤ A 4 f) (hk : ∀ j, p ≤ j → j < q → bk A f j = bk A f p + (j - p)) (v3 v5 v7 : Int32) : f_L_file_L76 D sav old hsz cs len g (nI f) (nI (A 5 f)) v3 v5 v7 (nI (bk A f p)) (nI (q - p)) gFu (nI p) (nI (sm (stDv A f) p)) (nI (bk A f p)) = some (nI q, nI (sm (stDv A f) q), nI (bk A f p + (q - p))) := by
  have hl := hI.2.2.2.1 f hf
  have hkp := bk_spec hI.b hf (i := p) (by omega)
  have main : f_L_file_L76 D sav old hsz cs len g (nI f) (nI (A 5 f)) v3 v5 v7 (nI (bk A f p)) (nI (q - p)) gFu (nI p) (nI (sm (stDv A f) p)) (nI (bk A f p + (p - p))) = some (nI q, nI (sm (stDv A f) q), nI (bk A f p + (q - p))) := by
    refine loopB (fun fu j => f_L_file_L76 D sav old hsz cs len g (nI f) (nI (A 5 f)) v3 v5 v7 (nI (bk A f p)) (nI (q - p)) fu (nI j) (nI (sm (stDv A f) j)) (nI (bk A f p + (j - p)))) p q _ (fun fu j hm hj => ?_) (fun fu => ?_) gFu p (Nat.le_refl _) (by omega) (by show q < p + 1000; omega)
    · show f_L_file_L76 D sav old hsz cs len g (nI f) (nI (A 5 f)) v3 v5 v7 (nI (bk A f p)) (nI (q - p)) (fu + 1) (nI j) (nI (sm (stDv A f) j)) (nI (bk A f p + (j - p))) = f_L_file_L76 D sav old hsz cs len g (nI f) (nI (A 5 f)) v3 v5 v7 (nI (bk A f p)) (nI (q - p)) fu (nI (j + 1)) (nI (sm (stDv A f) j + stDv A f j)) (nI (bk A f p + (j + 1 - p)))
      have e := hk j hm hj
      have e1 : bk A f p + (j + 1 - p) = bk A f j + 1 := by omega
      have hb := bk_spec hI.b hf (i := j) (by omega)
      have b0 : f_X5_block D sav old hsz cs len g (nI (bk A f j)) 0 = some (nI f) := by rw [q_block0 hc hb.1, hb.2.1, if_neg (by omega)]
      have b2 : f_X5_block D sav old hsz cs len g (nI (bk A f j)) 2 = some (nI j) := by rw [q_block2 hc hb.1, hb.2.1, hb.2.2, if_neg (by omega)]
      have b1 : f_X5_block D sav old hsz cs len g (nI (bk A f j)) 1 = some (if A 5 f ≤ j then 2 else 1) := by
        rw [q_block1 hc hI hb.1]
        unfold usV
        rw [hb.2.1, hb.2.2, if_neg (by omega)]
        by_cases c : A 5 f ≤ j
        · rw [if_pos c, if_pos c]; rfl
        · rw [if_neg c, if_neg c]; rfl
      have hz : bk A f p + (q - p) ≤ 64 := by
        have q1 := hk (q - 1) (by omega) (by omega)
        have q2 := bk_spec hI.b hf (i := q - 1) (by omega)
        omega
      rw [f_L_file_L76, nI_add, if_neg (nI_ge (by omega) (by omega)), e1, ← e, b0, gb_some, if_pos rfl, b2, gb_some, if_pos rfl, b1, gb_some]
      by_cases c : A 5 f ≤ j
      · have es : stDv A f j = 0 := by unfold stDv; rw [if_neg (by omega)]
        rw [if_pos (nI_le c (by omega)), if_pos (by rw [if_pos c]), glet_eq, glet_eq, glet_eq, nI_1, nI_1, es, show nI (sm (stDv A f) j) + 0 = nI (sm (stDv A f) j + 0) from nI_add _ 0]
      · have es : stDv A f j = A 0 (bk A f j) := by unfold stDv; rw [if_pos (by omega)]
        rw [if_neg (nI_ge (by omega) (by omega)), if_pos (by rw [if_neg c]), q_block3 hc hb.1, gb_some, glet_eq, glet_eq, glet_eq, nI_1, nI_1, es, nI_add]
    · show f_L_file_L76 D sav old hsz cs len g (nI f) (nI (A 5 f)) v3 v5 v7 (nI (bk A f p)) (nI (q - p)) (fu + 1) (nI q) (nI (sm (stDv A f) q)) (nI (bk A f p + (q - p))) = _
      have q1 := hk (q - 1) (by omega) (by omega)
      have q2 := bk_spec hI.b hf (i := q - 1) (by omega)
      rw [f_L_file_L76, nI_add, if_pos (nI_le (Nat.le_refl _) (by omega))]
  rw [Nat.sub_self, Nat.add_zero] at main
  exact main
theorem fl_outer (hc : RC (D 0) A) (hI : IA A) {f : Nat} (hf : f < 8) (e0 : A 3 f ≠ 0) (v3 : Int32) : ∀ (m p fu : Nat), A 4 f - p ≤ m → p ≤ A 4 f → (p < A 4 f → exJ A f p = 1) → m < fu → f_L_file_L26 D sav old hsz cs len g (nI f) (nI (A 5 f)) v3 fu (nI p) (afI A f p) (nI (sm (stDv A f) p)) (nI (sm (exJ A f) p)) = some (nI (A 4 f), afI A f (A 4 f), nI (sm (stDv A f) (A 4 f)), nI (sm (exJ A f) (A 4 f))) := by
  have hl := hI.2.2.2.1 f hf
  have hse := sm_exJ_le A f (A 4 f)
  have fin : ∀ fu, f_L_file_L26 D sav old hsz cs len g (nI f) (nI (A 5 f)) v3 (fu + 1) (nI (A 4 f)) (afI A f (A 4 f)) (nI (sm (stDv A f) (A 4 f))) (nI (sm (exJ A f) (A 4 f))) = some (nI (A 4 f), afI A f (A 4 f), nI (sm (stDv A f) (A 4 f)), nI (sm (exJ A f) (A 4 f))) := fun fu => by
    rw [f_L_file_L26, q_file4 hc hI hf e0, gb_some, if_pos (nI_le (Nat.le_refl _) (by omega))]
  intro m
  induction m with
  | zero =>
    intro p fu h1 h2 h3 h4
    obtain rfl : p = A 4 f := by omega
    obtain ⟨fu, rfl⟩ : ∃ k, fu = k + 1 := ⟨fu - 1, by omega⟩
    exact fin fu
  | succ m ih =>
    intro p fu h1 h2 h3 h4
    obtain ⟨fu, rfl⟩ : ∃ k, fu = k + 1 := ⟨fu - 1, by omega⟩
    by_cases c : p = A 4 f
    · rw [c]; exact fin fu
    · have hp : p < A 4 f := by omega
      have hb := h3 hp
      obtain ⟨q, hpq, hq, g1, g2⟩ := ex_end A f p (A 4 f) hp
      have hm := sm_mono (exJ A f) (show p + 1 ≤ A 4 f by omega)
      rw [sm_succ, hb] at hm
      have hkp := bk_spec hI.b hf hp
      have hk : ∀ n, p + n < q → bk A f (p + n) = bk A f p + n := by
        intro n
        induction n with
        | zero => intro _; rfl
        | succ n ihn =>
          intro hn
          have z := g1 (p + (n + 1)) (by omega) hn
          have z2 := ihn (by omega)
          unfold exJ at z
          rw [if_neg (by omega)] at z
          by_cases cc : bk A f (p + (n + 1)) = bk A f (p + (n + 1) - 1) + 1
          · rw [show p + (n + 1) - 1 = p + n by omega] at cc
            omega
          · rw [if_neg cc] at z; omega
      have hk2 : ∀ j, p ≤ j → j < q → bk A f j = bk A f p + (j - p) := fun j q1 q2 => by
        have := hk (j - p) (by omega)
        rwa [show p + (j - p) = j by omega] at this
      have hkq := bk_spec hI.b hf (i := q - 1) (by omega)
      have eq1 := hk2 (q - 1) (by omega) (by omega)
      have ne : ¬ nI (bk A f p) = afI A f p := by
        unfold afI
        by_cases c0 : p = 0
        · rw [if_pos c0]; exact nI_nm1 (by omega)
        · have hk3 := bk_spec hI.b hf (i := p - 1) (by omega)
          rw [if_neg c0]
          intro z
          have z2 := (nI_eq (by omega) (by omega)).1 z
          unfold exJ at hb
          rw [if_neg c0, if_pos z2] at hb
          omega
      have ef : nI (bk A f p) + nI (q - p) = afI A f q := by
        unfold afI
        rw [if_neg (by omega), nI_add, show bk A f p + (q - p) = bk A f (q - 1) + 1 by omega]
      have es : sm (exJ A f) p + 1 = sm (exJ A f) q := by
        have z := sm_flat g1 (q - 1) (by omega) (by omega)
        rw [show q - 1 + 1 = q by omega, sm_succ (exJ A f) p, hb] at z
        exact z.symm
      rw [f_L_file_L26, q_file4 hc hI hf e0, gb_some, if_neg (nI_ge (by omega) (by omega)), q_ext0 hc hI hf e0 (by omega) hp hb rfl, gb_some, q_ext1 hc hI hf e0 (by omega) hp hb rfl hpq hq g1 g2, gb_some, if_neg (show ¬ nI (q - p) < 1 from nI_nlt (b := 1) (by omega) (by omega)), if_neg ne, fl_inner hc hI hf hpq hq hk2, gbb3_some, glet_eq, glet_eq, ef, nI_1, es]
      exact ih q fu (by omega) hq g2 (by omega)
theorem stD_all (A : Nat → Nat → Nat) (f : Nat) : ∀ n, sm (stDv A f) (A 5 f + n) = sm (stpJ A f 0) (A 5 f) := by
  intro n
  induction n with
  | zero =>
    rw [Nat.add_zero]
    exact sm_congr (fun i hi => by unfold stDv stpJ; rw [if_pos hi, if_pos (Nat.zero_le _)])
  | succ n ih =>
    rw [← Nat.add_assoc, sm_succ, ih]
    unfold stDv
    rw [if_neg (by omega)]; rfl
theorem file_ok (hc : RC (D 0) A) (hG : GA A T) {f : Nat} (hf : f < 8) (e0 : A 3 f ≠ 0) : f_L_file D sav old hsz cs len g (nI f) = some 1 := by
  have hI := hG.1
  have hl := hI.2.2.2.1 f hf
  have s64 := sum64 hI.b
  have ls := lent_sum hI
  have loop : f_L_file_L26 D sav old hsz cs len g (nI f) (nI (A 5 f)) (nI (A 4 f - A 5 f)) gFu 0 (-1) 0 0 = some (nI (A 4 f), afI A f (A 4 f), nI (sm (stDv A f) (A 4 f)), nI (sm (exJ A f) (A 4 f))) := by
    have z := fl_outer (sav := sav) (old := old) (hsz := hsz) (cs := cs) (len := len) (g := g) hc hI hf e0 (nI (A 4 f - A 5 f)) 64 0 gFu (by omega) (Nat.zero_le _) (fun _ => by unfold exJ; rw [if_pos rfl]) (by decide)
    exact z
  have c2 : f_X5_count D sav old hsz cs len g 2 = some (nI (fre A)) := q_count hc hI (w := 2) (by decide)
  have c4 : f_X5_count D sav old hsz cs len g 4 = some (nI (sm (fun f => A 4 f - A 5 f) 8)) := q_count hc hI (w := 4) (by decide)
  have es : sm (stDv A f) (A 4 f) = sm (stpJ A f 0) (A 5 f) := by
    have := stD_all A f (A 4 f - A 5 f)
    rwa [show A 5 f + (A 4 f - A 5 f) = A 4 f by omega] at this
  have hse := sm_exJ_le A f (A 4 f)
  have endT : (gb (f_X5_file D sav old hsz cs len g (nI f) 3) (fun r134 => if r134 = 1 then gb (f_X5_room D sav old hsz cs len g (nI f)) (fun r144 => gb (f_X5_count D sav old hsz cs len g 2) (fun r145 => gb (f_X5_count D sav old hsz cs len g 4) (fun r146 => if r144 = (r145 + r146) then some (1 : Int32) else none))) else gb (f_X5_room D sav old hsz cs len g (nI f)) (fun r148 => if r148 = (-4) then gb (f_X5_file D sav old hsz cs len g (nI f) 5) (fun r150 => if r150 = 1 then some 1 else none) else none))) = some 1 := by
    rw [q_file3 hc hI hf e0, gb_some, q_room hc hI hf e0, c2, c4, q_file5 hc hI hf e0]
    by_cases e2 : A 3 f = 2
    · rw [if_pos e2, if_pos e2, if_pos rfl, gb_some, gb_some, gb_some, nI_add, if_pos (by rw [show 64 - sm (A 5) 8 = fre A + sm (fun f => A 4 f - A 5 f) 8 by omega])]
    · rw [if_neg e2, if_neg e2, if_neg (show ¬ (0 : Int32) = 1 by decide), gb_some, if_pos rfl, gb_some, hG.2.2.2.2 f hf (by omega), if_pos (show nI 1 = 1 from rfl)]
  rw [q_file5 hc hI hf e0] at endT
  unfold f_L_file
  rw [q_file0 hc hI hf e0, gb_some, q_file1 hc hI hf e0, gb_some, loop, gbb4_some, nI_add, if_pos (by rw [show A 5 f + (A 4 f - A 5 f) = A 4 f by omega]), if_neg (nI_pos (by omega)), q_file4 hc hI hf e0, gb_some, q_extN hc hI hf e0 (by omega) (Nat.le_refl _), gb_some, if_pos rfl, q_file2 hc hI hf e0, gb_some, if_neg (nI_pos (by have := hl.2.2.2.2.2.1 e0; omega)), gb_some, if_neg (nI_nlt (hl.2.2.2.2.2.1 e0) (by omega)), q_file5 hc hI hf e0, gb_some, if_neg (nI_nle (by omega) (by omega)), gb_some, if_neg (show ¬ (17 : Int32) ≤ nI (A 7 f) from nI_ge (b := 17) (by omega) (by decide))]
  by_cases z : A 5 f = 0
  · have rd : f_X5_read D sav old hsz cs len g (nI f) 0 64 0 = some (-5) := q_readN hc hI hf e0 (a := 0) (m := 64) (by decide) (by decide) (by decide) (by omega)
    rw [if_pos (by rw [z]; rfl), rd, gb_some, if_pos rfl]
    exact endT
  · have w : mnN (A 5 f) (0 + 64) = A 5 f := by
      have := mnN_le (A 5 f) (0 + 64)
      omega
    have rd0 : f_X5_read D sav old hsz cs len g (nI f) 0 64 0 = some (nI (sm (stpJ A f 0) (A 5 f))) := by
      have := q_read (sav := sav) (old := old) (hsz := hsz) (cs := cs) (len := len) (g := g) hc hI hf e0 (a := 0) (m := 64) (by decide) (by decide) (by decide) (by omega) 0 (Or.inl rfl)
      rw [if_pos rfl, w] at this
      exact this
    have rd1 : f_X5_read D sav old hsz cs len g (nI f) 0 64 1 = some (nI (A 5 f)) := by
      have := q_read (sav := sav) (old := old) (hsz := hsz) (cs := cs) (len := len) (g := g) hc hI hf e0 (a := 0) (m := 64) (by decide) (by decide) (by decide) (by omega) 1 (Or.inr rfl)
      rw [if_neg n10, w, Nat.sub_zero] at this
      exact this
    rw [if_neg (nI_ne0 (by omega) (by omega)), rd0, gb_some, if_pos (by rw [es]), rd1, gb_some, if_pos rfl]
    exact endT
end LFILE
