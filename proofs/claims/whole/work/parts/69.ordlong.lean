/-! MATHEMATICS, 45: the orders with numbers are read alike. -/
section ORDLONG
variable {n : Nat} {ch : Nat → Nat}
theorem Sp_up {h : Nat → Int32} {p k : Nat} (hs : Sp h n p) (v : Int32) (h2 : k ≠ 2) (h3 : k ≠ 3) : Sp (upd h k v) n p := ⟨by rw [upd_ne _ _ (fun e => h2 e.symm)]; exact hs.1, by rw [upd_ne _ _ (fun e => h3 e.symm)]; exact hs.2⟩
theorem more1_no {cs t g : Nat → Int32} (hT : TX cs t n ch) {q v : Nat} (g0 : g 0 = 4) (g3 : g 3 = nI v) (hv : v ≤ 99) (hx : ¬ (q < n ∧ 48 ≤ ch q ∧ ch q ≤ 57 ∧ 0 < v ∧ 10 * v + (ch q - 48) ≤ 64)) (hq : q < n) (h59 : cs q ≠ 59) (h61 : g 1 = 97 → ch q ≠ 61) : ∃ g', f_X2_takes g (cs q) = some (0, g') := by
  have z := hT.2 q hq
  have c59 : ch q ≠ 59 := fun e => h59 (by rw [z.1, e]; rfl)
  obtain ⟨g', e, -⟩ := T_more1 (g := g) (c := ch q) g0 g3 hv z.2.2.2 c59 h61
  rw [if_neg (fun w => hx ⟨hq, w⟩)] at e
  exact ⟨g', by rw [z.1]; exact e⟩
theorem more2_no {cs t g : Nat → Int32} (hT : TX cs t n ch) {q v : Nat} (g0 : g 0 = 6) (g4 : g 4 = nI v) (hv : v ≤ 99) (hx : ¬ (q < n ∧ 48 ≤ ch q ∧ ch q ≤ 57 ∧ 0 < v ∧ 10 * v + (ch q - 48) ≤ 99)) (hq : q < n) (h59 : cs q ≠ 59) : ∃ g', f_X2_takes g (cs q) = some (0, g') := by
  have z := hT.2 q hq
  have c59 : ch q ≠ 59 := fun e => h59 (by rw [z.1, e]; rfl)
  obtain ⟨g', e, -⟩ := T_more2 (g := g) (c := ch q) g0 g4 hv z.2.2.2 c59
  rw [if_neg (fun w => hx ⟨hq, w⟩)] at e
  exact ⟨g', by rw [z.1]; exact e⟩
theorem ord_cut {p : Nat} (hp : p < n) (hl : ch p = 116) : ∃ r q, OrdR n ch p r q := by
  by_cases hf : p + 1 < n ∧ 48 ≤ ch (p + 1) ∧ ch (p + 1) ≤ 55
  · have pos : (if nI (ch p) = 97 ∨ nI (ch p) = 116 then (2 : Int32) else 7) = 2 := by rw [hl]; decide
    by_cases hc : p + 2 < n ∧ ch (p + 2) = 58
    · rcases P_first (n := n) (ch := ch) (q0 := p + 3) (l := 116) (least := 0) (by omega) (Or.inr ⟨rfl, rfl⟩) with H | ⟨q, v, q1, q2, q3, q4, H⟩
      · refine ⟨0, p + 3, by omega, by omega, Or.inl rfl, fun cs t s g h hT hs g0 => ?_⟩
        obtain ⟨h1, g1, e1, e2, e3, e4, e5, e6, e7, e8⟩ := fl_yes (s := s) hT hs g0 hp (by omega) hf
        have z2 := hT.2 (p + 2) hc.1
        rw [pos] at e6
        obtain ⟨h2, m1, m2, m3⟩ := M_mark_yes (s := s) hT e2 hc.1 (c := 58) (by decide) hc.2
        have m1' : f_X6_takes s t h1 58 = some (1, h2) := m1
        obtain ⟨g2, t1, t2, t3⟩ := T_colon (g := g1) e6
        obtain ⟨k1, k2⟩ := H cs t s h2 g2 hT m2 t2 (by rw [t3 1 (by decide), e7, hl])
        have k1' : f_X6_number s t h2 0 64 = some (-5, h2) := k1
        refine ⟨upd h2 6 (-5), g2, rd_cut hT hs hp hl (Or.inl rfl) ?_, Sp_up m2 _ (by decide) (by decide), fun k hk => by rw [upd_ne _ _ (by omega), m3 k (by omega), e3 k hk], RdC_st e5 (ch59 hT hc.1 (by omega)) (by rw [z2.1, hc.2]; exact t1), fun w => absurd w (by decide), fun _ => k2⟩
        unfold f_X6_readsCut
        rw [e1, gbb2_some, if_neg n10, m1', gbb2_some, if_neg n10, k1', gbb2_some, glet_eq, upd_eq, if_pos rfl]
        rfl
      · refine ⟨1, q, by omega, q2, Or.inr ⟨rfl, by omega⟩, fun cs t s g h hT hs g0 => ?_⟩
        obtain ⟨h1, g1, e1, e2, e3, e4, e5, e6, e7, e8⟩ := fl_yes (s := s) hT hs g0 hp (by omega) hf
        have z2 := hT.2 (p + 2) hc.1
        rw [pos] at e6
        obtain ⟨h2, m1, m2, m3⟩ := M_mark_yes (s := s) hT e2 hc.1 (c := 58) (by decide) hc.2
        have m1' : f_X6_takes s t h1 58 = some (1, h2) := m1
        obtain ⟨g2, t1, t2, t3⟩ := T_colon (g := g1) e6
        obtain ⟨h3, g3, k1, k2, k3, k4, k5, k6, k7⟩ := H cs t s h2 g2 p g hT m2 t2 (by rw [t3 1 (by decide), e7, hl]) (RdC_st e5 (ch59 hT hc.1 (by omega)) (by rw [z2.1, hc.2]; exact t1))
        have k1' : f_X6_number s t h2 0 64 = some (nI v, h3) := k1
        have x1 : g3 1 = 116 := by rw [k7 1 (by decide) (by decide), t3 1 (by decide), e7, hl]; rfl
        have y4 : upd h3 6 (nI v) 4 = 116 := by rw [upd_ne _ _ (by decide), k3 4 (by decide), m3 4 (by decide), e4, hl]; rfl
        refine ⟨upd h3 6 (nI v), g3, rd_cut hT hs hp hl (Or.inr rfl) ?_, Sp_up k2 _ (by decide) (by decide), fun k hk => by rw [upd_ne _ _ (by omega), k3 k (by omega), m3 k (by omega), e3 k hk], k4, fun _ => ⟨⟨wh_4 k5 x1, fun hq h59 => more1_no hT k5 k6 q3 q4 hq h59 (fun w => by rw [x1] at w; exact absurd w (by decide))⟩, by rw [x1, y4], Or.inr (Or.inr (Or.inr ⟨y4, ?_, by rw [k6, upd_eq]⟩))⟩, fun w => absurd w (by decide)⟩
        · unfold f_X6_readsCut
          rw [e1, gbb2_some, if_neg n10, m1', gbb2_some, if_neg n10, k1', gbb2_some, glet_eq, upd_eq, if_neg (nI_m5 (by omega))]
          rfl
        · rw [k7 2 (by decide) (by decide), t3 2 (by decide), e8, upd_ne _ _ (by decide), k3 5 (by decide), m3 5 (by decide)]
    · refine ⟨0, p + 2, by omega, by omega, Or.inl rfl, fun cs t s g h hT hs g0 => ?_⟩
      obtain ⟨h1, g1, e1, e2, e3, e4, e5, e6, e7, e8⟩ := fl_yes (s := s) hT hs g0 hp (by omega) hf
      rw [pos] at e6
      obtain ⟨h2, m1, m2, m3⟩ := M_mark_no (s := s) hT e2 (by omega) (c := 58) (by decide) hc
      have m1' : f_X6_takes s t h1 58 = some (0, h2) := m1
      refine ⟨upd h2 6 (-5), g1, rd_cut hT hs hp hl (Or.inl rfl) ?_, Sp_up m2 _ (by decide) (by decide), fun k hk => by rw [upd_ne _ _ (by omega), m3 k (by omega), e3 k hk], e5, fun w => absurd w (by decide), fun _ => ⟨nwh_low (k := 2) e6 (by omega), fun w => ?_⟩⟩
      · unfold f_X6_readsCut
        rw [e1, gbb2_some, if_neg n10, m1', gbb2_some, if_pos rfl, glet_eq, upd_eq, if_pos rfl]
        rfl
      · have z2 := hT.2 (p + 2) w
        rw [z2.1]
        exact T_colon_no e6 z2.2.2.2 (fun e => hc ⟨w, e⟩)
  · refine ⟨0, p + 1, by omega, by omega, Or.inl rfl, fun cs t s g h hT hs g0 => ?_⟩
    obtain ⟨h1, g1, e1, e2, e3, e4, e5⟩ := fl_no (s := s) hT hs g0 hp (by omega) hf
    refine ⟨upd h1 6 (-5), g1, rd_cut hT hs hp hl (Or.inl rfl) ?_, Sp_up e2 _ (by decide) (by decide), fun k hk => by rw [upd_ne _ _ (by omega), e3 k hk], e4, fun w => absurd w (by decide), fun _ => e5⟩
    unfold f_X6_readsCut
    rw [e1, gbb2_some, if_pos rfl, glet_eq, upd_eq, if_pos rfl]
    rfl
theorem ord_app {p : Nat} (hp : p < n) (hl : ch p = 97) : ∃ r q, OrdR n ch p r q := by
  by_cases hf : p + 1 < n ∧ 48 ≤ ch (p + 1) ∧ ch (p + 1) ≤ 55
  · have pos : (if nI (ch p) = 97 ∨ nI (ch p) = 116 then (2 : Int32) else 7) = 2 := by rw [hl]; decide
    by_cases hc : p + 2 < n ∧ ch (p + 2) = 58
    · rcases P_first (n := n) (ch := ch) (q0 := p + 3) (l := 97) (least := 1) (by omega) (Or.inl ⟨rfl, rfl⟩) with H | ⟨q, v, q1, q2, q3, q4, H⟩
      · refine ⟨0, p + 3, by omega, by omega, Or.inl rfl, fun cs t s g h hT hs g0 => ?_⟩
        obtain ⟨h1, g1, e1, e2, e3, e4, e5, e6, e7, e8⟩ := fl_yes (s := s) hT hs g0 hp (by omega) hf
        have z2 := hT.2 (p + 2) hc.1
        rw [pos] at e6
        obtain ⟨h2, m1, m2, m3⟩ := M_mark_yes (s := s) hT e2 hc.1 (c := 58) (by decide) hc.2
        have m1' : f_X6_takes s t h1 58 = some (1, h2) := m1
        obtain ⟨g2, t1, t2, t3⟩ := T_colon (g := g1) e6
        obtain ⟨k1, k2⟩ := H cs t s h2 g2 hT m2 t2 (by rw [t3 1 (by decide), e7, hl])
        have k1' : f_X6_number s t h2 1 64 = some (-5, h2) := k1
        refine ⟨upd (upd h2 6 (-5)) 7 (-5), g2, rd_app hT hs hp hl (Or.inl rfl) ?_, Sp_up (Sp_up m2 _ (by decide) (by decide)) _ (by decide) (by decide), fun k hk => by rw [upd_ne _ _ (by omega), upd_ne _ _ (by omega), m3 k (by omega), e3 k hk], RdC_st e5 (ch59 hT hc.1 (by omega)) (by rw [z2.1, hc.2]; exact t1), fun w => absurd w (by decide), fun _ => k2⟩
        unfold f_X6_readsAppend
        rw [e1, gbb2_some, if_neg n10, m1', gbb2_some, if_neg n10, k1', gbb2_some, glet_eq, upd_eq, if_pos rfl, glet_eq, upd_eq, if_pos rfl]
        rfl
      · by_cases h61 : q < n ∧ ch q = 61
        · rcases P_second (n := n) (ch := ch) (q0 := q + 1) (by omega) with H2 | ⟨q', w, r1, r2, r3, r4, H2⟩
          · refine ⟨0, q + 1, by omega, by omega, Or.inl rfl, fun cs t s g h hT hs g0 => ?_⟩
            obtain ⟨h1, g1, e1, e2, e3, e4, e5, e6, e7, e8⟩ := fl_yes (s := s) hT hs g0 hp (by omega) hf
            have z2 := hT.2 (p + 2) hc.1
            have zq := hT.2 q h61.1
            rw [pos] at e6
            obtain ⟨h2, m1, m2, m3⟩ := M_mark_yes (s := s) hT e2 hc.1 (c := 58) (by decide) hc.2
            have m1' : f_X6_takes s t h1 58 = some (1, h2) := m1
            obtain ⟨g2, t1, t2, t3⟩ := T_colon (g := g1) e6
            obtain ⟨h3, g3, k1, k2, k3, k4, k5, k6, k7⟩ := H cs t s h2 g2 p g hT m2 t2 (by rw [t3 1 (by decide), e7, hl]) (RdC_st e5 (ch59 hT hc.1 (by omega)) (by rw [z2.1, hc.2]; exact t1))
            have k1' : f_X6_number s t h2 1 64 = some (nI v, h3) := k1
            have x1 : g3 1 = 97 := by rw [k7 1 (by decide) (by decide), t3 1 (by decide), e7, hl]; rfl
            obtain ⟨h4, a1, a2, a3⟩ := M_mark_yes (s := s) hT (Sp_up k2 (nI v) (k := 6) (by decide) (by decide)) h61.1 (c := 61) (by decide) h61.2
            have a1' : f_X6_takes s t (upd h3 6 (nI v)) 61 = some (1, h4) := a1
            obtain ⟨g4, u1, u2, u3⟩ := T_equals (g := g3) k5 x1
            obtain ⟨b1, b2⟩ := H2 cs t s h4 g4 hT a2 u2
            refine ⟨upd h4 7 (-5), g4, rd_app hT hs hp hl (Or.inl rfl) ?_, Sp_up a2 _ (by decide) (by decide), fun k hk => by rw [upd_ne _ _ (by omega), a3 k (by omega), upd_ne _ _ (by omega), k3 k (by omega), m3 k (by omega), e3 k hk], RdC_st k4 (ch59 hT h61.1 (by omega)) (by rw [zq.1, h61.2]; exact u1), fun w => absurd w (by decide), fun _ => b2⟩
            unfold f_X6_readsAppend
            rw [e1, gbb2_some, if_neg n10, m1', gbb2_some, if_neg n10, k1', gbb2_some, glet_eq, upd_eq, if_neg (nI_m5 (by omega)), a1', gbb2_some, if_neg n10, b1, gbb2_some, glet_eq, upd_eq, if_pos rfl]
            rfl
          · refine ⟨1, q', by omega, r2, Or.inr ⟨rfl, by omega⟩, fun cs t s g h hT hs g0 => ?_⟩
            obtain ⟨h1, g1, e1, e2, e3, e4, e5, e6, e7, e8⟩ := fl_yes (s := s) hT hs g0 hp (by omega) hf
            have z2 := hT.2 (p + 2) hc.1
            have zq := hT.2 q h61.1
            rw [pos] at e6
            obtain ⟨h2, m1, m2, m3⟩ := M_mark_yes (s := s) hT e2 hc.1 (c := 58) (by decide) hc.2
            have m1' : f_X6_takes s t h1 58 = some (1, h2) := m1
            obtain ⟨g2, t1, t2, t3⟩ := T_colon (g := g1) e6
            obtain ⟨h3, g3, k1, k2, k3, k4, k5, k6, k7⟩ := H cs t s h2 g2 p g hT m2 t2 (by rw [t3 1 (by decide), e7, hl]) (RdC_st e5 (ch59 hT hc.1 (by omega)) (by rw [z2.1, hc.2]; exact t1))
            have k1' : f_X6_number s t h2 1 64 = some (nI v, h3) := k1
            have x1 : g3 1 = 97 := by rw [k7 1 (by decide) (by decide), t3 1 (by decide), e7, hl]; rfl
            obtain ⟨h4, a1, a2, a3⟩ := M_mark_yes (s := s) hT (Sp_up k2 (nI v) (k := 6) (by decide) (by decide)) h61.1 (c := 61) (by decide) h61.2
            have a1' : f_X6_takes s t (upd h3 6 (nI v)) 61 = some (1, h4) := a1
            obtain ⟨g4, u1, u2, u3⟩ := T_equals (g := g3) k5 x1
            obtain ⟨h5, g5, b1, b2, b3, b4, b5, b6, b7⟩ := H2 cs t s h4 g4 p g hT a2 u2 (RdC_st k4 (ch59 hT h61.1 (by omega)) (by rw [zq.1, h61.2]; exact u1))
            have y1 : g5 1 = 97 := by rw [b7 1 (by decide) (by decide), u3 1 (by decide), x1]
            have y4 : upd h5 7 (nI w) 4 = 97 := by rw [upd_ne _ _ (by decide), b3 4 (by decide), a3 4 (by decide), upd_ne _ _ (by decide), k3 4 (by decide), m3 4 (by decide), e4, hl]; rfl
            refine ⟨upd h5 7 (nI w), g5, rd_app hT hs hp hl (Or.inr rfl) ?_, Sp_up b2 _ (by decide) (by decide), fun k hk => by rw [upd_ne _ _ (by omega), b3 k (by omega), a3 k (by omega), upd_ne _ _ (by omega), k3 k (by omega), m3 k (by omega), e3 k hk], b4, fun _ => ⟨⟨wh_6 b5, fun hq h59 => more2_no hT b5 b6 r3 r4 hq h59⟩, by rw [y1, y4], Or.inr (Or.inr (Or.inl ⟨y4, ?_, ?_, by rw [b6, upd_eq]⟩))⟩, fun w => absurd w (by decide)⟩
            · unfold f_X6_readsAppend
              rw [e1, gbb2_some, if_neg n10, m1', gbb2_some, if_neg n10, k1', gbb2_some, glet_eq, upd_eq, if_neg (nI_m5 (by omega)), a1', gbb2_some, if_neg n10, b1, gbb2_some, glet_eq, upd_eq, if_neg (nI_m5 (by omega))]
              rfl
            · rw [b7 2 (by decide) (by decide), u3 2 (by decide), k7 2 (by decide) (by decide), t3 2 (by decide), e8, upd_ne _ _ (by decide), b3 5 (by decide), a3 5 (by decide), upd_ne _ _ (by decide), k3 5 (by decide), m3 5 (by decide)]
            · rw [b7 3 (by decide) (by decide), u3 3 (by decide), k6, upd_ne _ _ (by decide), b3 6 (by decide), a3 6 (by decide), upd_eq]
        · refine ⟨0, q, by omega, q2, Or.inl rfl, fun cs t s g h hT hs g0 => ?_⟩
          obtain ⟨h1, g1, e1, e2, e3, e4, e5, e6, e7, e8⟩ := fl_yes (s := s) hT hs g0 hp (by omega) hf
          have z2 := hT.2 (p + 2) hc.1
          rw [pos] at e6
          obtain ⟨h2, m1, m2, m3⟩ := M_mark_yes (s := s) hT e2 hc.1 (c := 58) (by decide) hc.2
          have m1' : f_X6_takes s t h1 58 = some (1, h2) := m1
          obtain ⟨g2, t1, t2, t3⟩ := T_colon (g := g1) e6
          obtain ⟨h3, g3, k1, k2, k3, k4, k5, k6, k7⟩ := H cs t s h2 g2 p g hT m2 t2 (by rw [t3 1 (by decide), e7, hl]) (RdC_st e5 (ch59 hT hc.1 (by omega)) (by rw [z2.1, hc.2]; exact t1))
          have k1' : f_X6_number s t h2 1 64 = some (nI v, h3) := k1
          have x1 : g3 1 = 97 := by rw [k7 1 (by decide) (by decide), t3 1 (by decide), e7, hl]; rfl
          obtain ⟨h4, a1, a2, a3⟩ := M_mark_no (s := s) hT (Sp_up k2 (nI v) (k := 6) (by decide) (by decide)) q2 (c := 61) (by decide) h61
          have a1' : f_X6_takes s t (upd h3 6 (nI v)) 61 = some (0, h4) := a1
          refine ⟨upd h4 7 (-5), g3, rd_app hT hs hp hl (Or.inl rfl) ?_, Sp_up a2 _ (by decide) (by decide), fun k hk => by rw [upd_ne _ _ (by omega), a3 k (by omega), upd_ne _ _ (by omega), k3 k (by omega), m3 k (by omega), e3 k hk], k4, fun w => absurd w (by decide), fun _ => ⟨nwh_4 k5 x1, fun hq => ?_⟩⟩
          · unfold f_X6_readsAppend
            rw [e1, gbb2_some, if_neg n10, m1', gbb2_some, if_neg n10, k1', gbb2_some, glet_eq, upd_eq, if_neg (nI_m5 (by omega)), a1', gbb2_some, if_pos rfl, glet_eq, upd_eq, if_pos rfl]
            rfl
          · by_cases h59 : cs q = 59
            · rw [h59]; exact semi_no (nwh_4 k5 x1)
            · exact more1_no hT k5 k6 q3 q4 hq h59 (fun _ e => h61 ⟨hq, e⟩)
    · refine ⟨0, p + 2, by omega, by omega, Or.inl rfl, fun cs t s g h hT hs g0 => ?_⟩
      obtain ⟨h1, g1, e1, e2, e3, e4, e5, e6, e7, e8⟩ := fl_yes (s := s) hT hs g0 hp (by omega) hf
      rw [pos] at e6
      obtain ⟨h2, m1, m2, m3⟩ := M_mark_no (s := s) hT e2 (by omega) (c := 58) (by decide) hc
      have m1' : f_X6_takes s t h1 58 = some (0, h2) := m1
      refine ⟨h2, g1, rd_app hT hs hp hl (Or.inl rfl) ?_, m2, fun k hk => by rw [m3 k (by omega), e3 k hk], e5, fun w => absurd w (by decide), fun _ => ⟨nwh_low (k := 2) e6 (by omega), fun w => ?_⟩⟩
      · unfold f_X6_readsAppend
        rw [e1, gbb2_some, if_neg n10, m1', gbb2_some, if_pos rfl]
        rfl
      · have z2 := hT.2 (p + 2) w
        rw [z2.1]
        exact T_colon_no e6 z2.2.2.2 (fun e => hc ⟨w, e⟩)
  · refine ⟨0, p + 1, by omega, by omega, Or.inl rfl, fun cs t s g h hT hs g0 => ?_⟩
    obtain ⟨h1, g1, e1, e2, e3, e4, e5⟩ := fl_no (s := s) hT hs g0 hp (by omega) hf
    refine ⟨h1, g1, rd_app hT hs hp hl (Or.inl rfl) ?_, e2, e3, e4, fun w => absurd w (by decide), fun _ => e5⟩
    unfold f_X6_readsAppend
    rw [e1, gbb2_some, if_pos rfl]
    rfl
theorem ord_ex {p : Nat} (hp : p ≤ n) (hn : n ≤ 80) : ∃ r q, OrdR n ch p r q := by
  by_cases c : p < n
  · by_cases l1 : ch p = 33 ∨ ch p = 109 ∨ ch p = 110
    · exact ⟨1, p + 1, ord_one c l1⟩
    · by_cases l2 : ch p = 97
      · exact ord_app c l2
      · by_cases l3 : ch p = 116
        · exact ord_cut c l3
        · by_cases l4 : ch p = 100 ∨ ch p = 111 ∨ ch p = 115 ∨ ch p = 120
          · exact ord_file c l4
          · exact ⟨0, p, ord_no c l1 (by omega)⟩
  · exact ⟨0, p, ord_end (by omega) hn⟩
end ORDLONG
