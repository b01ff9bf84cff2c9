/-! MATHEMATICS, 46: the fault of the text; type, clearText. -/
section FAULT
variable {n : Nat} {ch : Nat → Nat}
noncomputable def od (n : Nat) (ch : Nat → Nat) (p : Nat) : Nat × Nat := Classical.epsilon (fun x : Nat × Nat => OrdR n ch p x.1 x.2)
theorem od_spec {p : Nat} (hp : p ≤ n) (hn : n ≤ 80) : OrdR n ch p (od n ch p).1 (od n ch p).2 := by
  obtain ⟨r, q, h⟩ := ord_ex (ch := ch) hp hn
  exact Classical.epsilon_spec (p := fun x : Nat × Nat => OrdR n ch p x.1 x.2) ⟨(r, q), h⟩
/-- from p on the text is a whole script -/
def fnS (n : Nat) (ch : Nat → Nat) : Nat → Nat → Prop
  | 0, _ => False
  | m + 1, p => (od n ch p).1 = 1 ∧ ((od n ch p).2 = n ∨ ((od n ch p).2 < n ∧ ch (od n ch p).2 = 59 ∧ fnS n ch m ((od n ch p).2 + 1)))
theorem L6_step {cs t g g' : Nat → Int32} (hT : TX cs t n ch) {q : Nat} (hq : q < n) (e : f_X2_takes g (cs q) = some (1, g')) (fu : Nat) : f_X4_firstFault_L6 cs (nI n) (fu + 1) (nI q) g = f_X4_firstFault_L6 cs (nI n) fu (nI (q + 1)) g' := by
  have h80 := hT.1
  rw [f_X4_firstFault_L6, if_neg (nI_ge hq (by omega)), f_at_in (by decide) _ (show q < 80 by omega), gb_some, e, gbb2_some, if_neg n10, glet_eq, nI_1]
theorem L6_go {cs t : Nat → Int32} (hT : TX cs t n ch) {p : Nat} {g : Nat → Int32} : ∀ (k : Nat) (g' : Nat → Int32), goC cs p g k g' → p + k ≤ n → ∀ fu, f_X4_firstFault_L6 cs (nI n) (fu + k) (nI p) g = f_X4_firstFault_L6 cs (nI n) fu (nI (p + k)) g' := by
  intro k
  induction k with
  | zero => intro g' h _ fu; have h' : g' = g := h; rw [h']; rfl
  | succ k ih =>
    intro g' h hk fu
    obtain ⟨g1, h1, h2, h3⟩ := h
    have e := ih g1 h1 (by omega) (fu + 1)
    rw [show fu + (k + 1) = fu + 1 + k by omega, e, L6_step hT (show p + k < n by omega) h3 fu, Nat.add_assoc]
theorem flt_both {cs t s : Nat → Int32} (hT : TX cs t n ch) : ∀ (m p : Nat), p ≤ n → n < p + m → ∀ (g h : Nat → Int32) (fu fu' : Nat), g 0 = 0 → Sp h n p → n < p + fu → n + 2 < p + fu' → ∃ (r : Int32) (g' h' : Nat → Int32), f_X4_firstFault_L6 cs (nI n) fu (nI p) g = some (r, g') ∧ f_X6_fault_L7 s t fu' 1 h = some (r, h') ∧ (∀ k, k < 3 → h' k = h k) ∧ (r = -5 → fnS n ch m p) ∧ (r = -5 ∨ ∃ e, e ≤ n ∧ r = nI e) := by
  have h80 := hT.1
  intro m
  induction m with
  | zero => intro p hp hm; omega
  | succ m ih =>
    intro p hp hm g h fu fu' g0 hs hf hf'
    obtain ⟨o1, o2, o3, H⟩ := od_spec (ch := ch) hp h80
    obtain ⟨h1, g1, e1, e2, e3, ⟨k, hk, hgo⟩, e5, e6⟩ := H cs t s g h hT hs g0
    obtain ⟨fu', rfl⟩ : ∃ x, fu' = x + 1 := ⟨fu' - 1, by omega⟩
    obtain ⟨x, hx⟩ : ∃ x, fu = x + 1 + k := ⟨fu - k - 1, by omega⟩
    have c1 : f_X4_firstFault_L6 cs (nI n) fu (nI p) g = f_X4_firstFault_L6 cs (nI n) (x + 1) (nI (od n ch p).2) g1 := by
      rw [hx, L6_go hT k g1 hgo (by omega) (x + 1), ← hk]
    have low : ∀ k, k < 3 → h1 k = h k := fun k hk => by
      by_cases c : k = 2
      · rw [c, e2.1, hs.1]
      · exact e3 k (by omega)
    rw [c1, f_X6_fault_L7, if_neg n10, e1, gbb2_some]
    rcases o3 with o3 | ⟨o3, o4⟩
    · obtain ⟨b1, b2⟩ := e6 o3
      have b1' : f_X2_isWhole g1 = some 0 := b1
      rw [o3, if_pos (show nI 0 = 0 from rfl), e2.2]
      by_cases c : (od n ch p).2 < n
      · obtain ⟨g2, t1⟩ := b2 c
        refine ⟨nI (od n ch p).2, g2, h1, ?_, rfl, low, fun w => absurd w (nI_m5 (by omega)), Or.inr ⟨_, o2, rfl⟩⟩
        rw [f_X4_firstFault_L6, if_neg (nI_ge c (by omega)), f_at_in (by decide) _ (show (od n ch p).2 < 80 by omega), gb_some, t1, gbb2_some, if_pos rfl]
      · have cn : (od n ch p).2 = n := by omega
        refine ⟨nI (od n ch p).2, g1, h1, ?_, rfl, low, fun w => absurd w (nI_m5 (by omega)), Or.inr ⟨_, o2, rfl⟩⟩
        rw [cn, f_X4_firstFault_L6, if_pos (nI_le (Nat.le_refl _) (by omega)), b1', gb_some, if_pos rfl]
    · obtain ⟨⟨b1, b2⟩, ag⟩ := e5 o3
      have b1' : f_X2_isWhole g1 = some 1 := b1
      rw [o3, if_neg (show ¬ nI 1 = 0 by decide)]
      by_cases c : (od n ch p).2 < n ∧ ch (od n ch p).2 = 59
      · have z := hT.2 _ c.1
        obtain ⟨h2, m1, m2, m3⟩ := M_mark_yes (s := s) hT e2 c.1 (c := 59) (by decide) c.2
        have m1' : f_X6_takes s t h1 59 = some (1, h2) := m1
        obtain ⟨g2, t1, t2⟩ := semi_yes b1
        obtain ⟨r, g', h', r1, r2, r3, r4, r5⟩ := ih ((od n ch p).2 + 1) (by omega) (by omega) g2 h2 x fu' t2 m2 (by omega) (by omega)
        rw [m1', gbb2_some, L6_step hT c.1 (by rw [z.1, c.2]; exact t1) x]
        exact ⟨r, g', h', r1, r2, fun k hk => by rw [r3 k hk, m3 k (by omega), low k hk], fun w => ⟨o3, Or.inr ⟨c.1, c.2, r4 w⟩⟩, r5⟩
      · obtain ⟨h2, m1, m2, m3⟩ := M_mark_no (s := s) hT e2 o2 (c := 59) (by decide) c
        have m1' : f_X6_takes s t h1 59 = some (0, h2) := m1
        obtain ⟨fu', rfl⟩ : ∃ x, fu' = x + 1 := ⟨fu' - 1, by omega⟩
        rw [m1', gbb2_some, f_X6_fault_L7, if_pos rfl, m2.1, m2.2]
        have lw : ∀ k, k < 3 → h2 k = h k := fun k hk => by rw [m3 k (by omega), low k hk]
        by_cases cn : (od n ch p).2 = n
        · refine ⟨-5, g1, h2, ?_, by rw [if_pos (by rw [cn])], lw, fun _ => ⟨o3, Or.inl cn⟩, Or.inl rfl⟩
          rw [cn, f_X4_firstFault_L6, if_pos (nI_le (Nat.le_refl _) (by omega)), b1', gb_some, if_neg n10]
        · have clt : (od n ch p).2 < n := by omega
          have c59 : cs (od n ch p).2 ≠ 59 := ch59 hT clt (fun e => c ⟨clt, e⟩)
          obtain ⟨g2, t1⟩ := b2 clt c59
          refine ⟨nI (od n ch p).2, g2, h2, ?_, by rw [if_neg (nI_lit_ne (by omega) (by omega) cn)], lw, fun w => absurd w (nI_m5 (by omega)), Or.inr ⟨_, o2, rfl⟩⟩
          rw [f_X4_firstFault_L6, if_neg (nI_ge clt (by omega)), f_at_in (by decide) _ (show (od n ch p).2 < 80 by omega), gb_some, t1, gbb2_some, if_pos rfl]
theorem flt_top {cs t : Nat → Int32} (hT : TX cs t n ch) (s g h : Nat → Int32) (h2 : h 2 = nI n) : ∃ (r : Int32) (g' h' : Nat → Int32), f_X4_firstFault cs (nI n) g = some (r, g') ∧ f_X6_fault s t h = some (r, h') ∧ (∀ k, k < 3 → h' k = h k) ∧ (r = -5 → fnS n ch (n + 1) 0) ∧ (r = -5 ∨ ∃ e, e ≤ n ∧ r = nI e) := by
  have h80 := hT.1
  obtain ⟨r, g', h', r1, r2, r3, r4, r5⟩ := flt_both (s := s) hT (n + 1) 0 (Nat.zero_le _) (by omega) (upd g 0 0) (upd h 3 0) gFu gFu (upd_eq _ _ _) ⟨by rw [upd_ne _ _ (by decide)]; exact h2, upd_eq _ _ _⟩ (by show n < 0 + 1000; omega) (by show n + 2 < 0 + 1000; omega)
  refine ⟨r, g', h', ?_, ?_, fun k hk => by rw [r3 k hk, upd_ne _ _ (by omega)], r4, r5⟩
  · unfold f_X4_firstFault f_X2_begin
    rw [glet_eq, gb_some]
    exact r1
  · unfold f_X6_fault
    rw [glet_eq]
    exact r2
theorem rT_TX {cs : Nat → Int32} {len : Int32} {t g6 : Nat → Int32} (h : rT cs len t g6) : ∃ (n : Nat) (ch : Nat → Nat), TX cs t n ch ∧ len = nI n ∧ g6 2 = nI n := by
  obtain ⟨n, h1, h2, h3, h4⟩ := h
  refine ⟨n, fun i => (t i).toNatClampNeg, ⟨h1, fun i hi => ?_⟩, h2, h3⟩
  obtain ⟨e1, c, c1, c2, e2⟩ := h4 i hi
  have ec : (t i).toNatClampNeg = c := by rw [e2, nI_clamp (by omega)]
  show cs i = nI (t i).toNatClampNeg ∧ t i = nI (t i).toNatClampNeg ∧ 32 ≤ (t i).toNatClampNeg ∧ (t i).toNatClampNeg ≤ 126
  rw [ec]
  exact ⟨e1.trans e2, e2, c1, c2⟩
theorem st_fault_RR : st_fault RR := by
  intro D sav old hsz cs len g s t g6 hR
  obtain ⟨hA, hH, hS, hT⟩ := hR
  obtain ⟨n, ch, hX, e1, e2⟩ := rT_TX hT
  obtain ⟨r, g', h', r1, r2, r3, -⟩ := flt_top hX s g g6 e2
  unfold f_X5_fault
  rw [e1, r1, gbb2_some]
  exact ⟨_, _, _, rfl, r2, hA, hH.congr (fun _ _ => rfl) (fun _ _ _ => rfl) (r3 0 (by decide)), hS.congr rfl (fun _ _ _ => rfl) (r3 1 (by decide)), by rw [← e1]; exact hT.congr (r3 2 (by decide))⟩
theorem st_clearText_RR : st_clearText RR := by
  intro D sav old hsz cs len g s t g6 hR
  obtain ⟨hA, hH, hS, ⟨n, h1, h2, h3, h4⟩⟩ := hR
  unfold f_X5_clearText f_X4_length f_X4_empty f_X6_clearText
  rw [gb_some, glet_eq, gb_some, glet_eq, glet_eq, h2, h3]
  exact ⟨_, _, _, rfl, rfl, hA, hH.congr (fun _ _ => rfl) (fun _ _ _ => rfl) (upd_ne _ _ (by decide)), hS.congr rfl (fun _ _ _ => rfl) (upd_ne _ _ (by decide)), ⟨0, Nat.zero_le _, rfl, upd_eq _ _ _, fun i hi => absurd hi (Nat.not_lt_zero _)⟩⟩
theorem st_type_RR : st_type RR := by
  intro D sav old hsz cs len g s t g6 hR v1
  have hR2 := hR
  obtain ⟨hA, hH, hS, ⟨n, h1, h2, h3, h4⟩⟩ := hR2
  unfold f_X5_type f_X6_type
  rw [M_in_if v1 32 126, gb_some]
  by_cases hv : v1 < 32 ∨ 126 < v1
  · rw [if_pos hv, if_pos rfl]
    by_cases c : v1 < 32
    · rw [if_pos c]
      exact ⟨_, _, _, _, _, rfl, rfl, hR⟩
    · rw [if_neg c, if_neg (Int32.not_le.mpr (hv.resolve_left c))]
      exact ⟨_, _, _, _, _, rfl, rfl, hR⟩
  · obtain ⟨c, c1, c2, e⟩ := i_range (lo := 32) (hi := 126) (by decide) (by decide) hv
    unfold f_X4_addCharacter
    rw [if_neg hv, if_neg n10, if_neg (fun w => hv (Or.inl w)), if_pos (Int32.not_lt.mp (fun w => hv (Or.inr w))), h2, h3]
    by_cases c80 : n = 80
    · subst c80
      rw [if_neg (show ¬ nI 80 < 80 by decide), gbb3_some, if_pos rfl, if_pos (show nI 80 = 80 from rfl)]
      exact ⟨_, _, _, _, _, rfl, rfl, hA, hH, hS, ⟨80, h1, rfl, h3, h4⟩⟩
    · rw [if_pos (show nI n < 80 from nI_lt (b := 80) (by omega) (by decide)), f_put_in (by decide) _ (show n < 80 by omega), gb_some, glet_eq, gbb3_some, if_neg n10, if_neg (show ¬ nI n = 80 from nI_lit_ne (b := 80) (by omega) (by decide) c80), if_pos ⟨nI_pos' (by omega), by rw [nI_clamp (by omega)]; omega⟩, nI_clamp (by omega), glet_eq, glet_eq, upd_eq]
      unfold f_X4_length
      rw [gb_some, nI_1]
      refine ⟨_, _, _, _, _, rfl, rfl, hA, hH.congr (fun _ _ => rfl) (fun _ _ _ => rfl) (upd_ne _ _ (by decide)), hS.congr rfl (fun _ _ _ => rfl) (upd_ne _ _ (by decide)), ⟨n + 1, by omega, rfl, upd_eq _ _ _, fun i hi => ?_⟩⟩
      by_cases ci : i = n
      · subst ci
        rw [upd_eq, upd_eq]
        exact ⟨rfl, c, c1, c2, e⟩
      · rw [upd_ne _ _ ci, upd_ne _ _ ci]
        exact h4 i (by omega)
end FAULT
