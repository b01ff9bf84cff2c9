/-! MATHEMATICS, 44: an order is read alike, put together. -/
section ORDERS
variable {n : Nat} {ch : Nat → Nat}
/-- the two have read the same order -/
def Ag (g' h' : Nat → Int32) : Prop := g' 1 = h' 4 ∧ ((h' 4 = 33 ∨ h' 4 = 109 ∨ h' 4 = 110) ∨ ((h' 4 = 100 ∨ h' 4 = 111 ∨ h' 4 = 115 ∨ h' 4 = 120) ∧ g' 2 = h' 5) ∨ (h' 4 = 97 ∧ g' 2 = h' 5 ∧ g' 3 = h' 6 ∧ g' 4 = h' 7) ∨ (h' 4 = 116 ∧ g' 2 = h' 5 ∧ g' 3 = h' 6))
/-- what reading an order at p comes to: whether it is one, and where it ends -/
def OrdR (n : Nat) (ch : Nat → Nat) (p r q : Nat) : Prop := p ≤ q ∧ q ≤ n ∧ (r = 0 ∨ (r = 1 ∧ p < q)) ∧ ∀ cs t s g h : Nat → Int32, TX cs t n ch → Sp h n p → g 0 = 0 → ∃ h' g', f_X6_readsOrder s t h = some (nI r, h') ∧ Sp h' n q ∧ (∀ k, k < 2 → h' k = h k) ∧ RdC cs p g q g' ∧ (r = 1 → GoodC cs n q g' ∧ Ag g' h') ∧ (r = 0 → BadC cs n q g')
/-- behind the letter -/
def hL (h : Nat → Int32) (c p : Nat) : Nat → Int32 := upd (upd h 4 (nI c)) 3 (nI (p + 1))
section H
variable {s t cs h : Nat → Int32} {p : Nat}
theorem hL_sp (hs : Sp h n p) (c : Nat) : Sp (hL h c p) n (p + 1) := ⟨by unfold hL; rw [upd_ne _ _ (by decide), upd_ne _ _ (by decide)]; exact hs.1, by unfold hL; rw [upd_eq]⟩
theorem hL_4 (h : Nat → Int32) (c p : Nat) : hL h c p 4 = nI c := by unfold hL; rw [upd_ne _ _ (by decide), upd_eq]
theorem hL_low (h : Nat → Int32) (c p : Nat) {k : Nat} (hk : k < 2) : hL h c p k = h k := by unfold hL; rw [upd_ne _ _ (by omega), upd_ne _ _ (by omega)]
theorem rd_head (hT : TX cs t n ch) (hs : Sp h n p) (hp : p < n) : f_X6_readsOrder s t h = (if hL h (ch p) p 4 = 33 then some (1, hL h (ch p) p) else if hL h (ch p) p 4 = 97 then gbb2 (f_X6_readsAppend s t (hL h (ch p) p)) (fun r36 g37 => if r36 = 0 ∨ r36 = 1 then some (r36, g37) else none) else if hL h (ch p) p 4 = 100 then gbb2 (f_X6_readsFile s t (hL h (ch p) p)) (fun r40 g41 => if r40 = 0 ∨ r40 = 1 then some (r40, g41) else none) else if hL h (ch p) p 4 = 109 then some (1, hL h (ch p) p) else if hL h (ch p) p 4 = 110 then some (1, hL h (ch p) p) else if hL h (ch p) p 4 = 111 then gbb2 (f_X6_readsFile s t (hL h (ch p) p)) (fun r46 g47 => if r46 = 0 ∨ r46 = 1 then some (r46, g47) else none) else if hL h (ch p) p 4 = 115 then gbb2 (f_X6_readsFile s t (hL h (ch p) p)) (fun r50 g51 => if r50 = 0 ∨ r50 = 1 then some (r50, g51) else none) else if hL h (ch p) p 4 = 116 then gbb2 (f_X6_readsCut s t (hL h (ch p) p)) (fun r54 g55 => if r54 = 0 ∨ r54 = 1 then some (r54, g55) else none) else if hL h (ch p) p 4 = 120 then gbb2 (f_X6_readsFile s t (hL h (ch p) p)) (fun r58 g59 => if r58 = 0 ∨ r58 = 1 then some (r58, g59) else none) else glet (upd (hL h (ch p) p) 3 ((hL h (ch p) p 3) - 1)) (fun g61 => some (0, g61))) := by
  have h80 := hT.1
  have z := hT.2 p hp
  have e3 : upd h 4 (nI (ch p)) 3 + 1 = nI (p + 1) := by rw [upd_ne _ _ (by decide), hs.2, nI_1]
  unfold f_X6_readsOrder
  rw [hs.1, hs.2, if_neg (nI_ge hp (by omega)), if_pos ⟨nI_pos' (by omega), by rw [nI_clamp (by omega)]; omega⟩, nI_clamp (by omega), z.2.1, glet_eq, e3, glet_eq]
  rfl
theorem rd_file (hT : TX cs t n ch) (hs : Sp h n p) (hp : p < n) (hl : ch p = 100 ∨ ch p = 111 ∨ ch p = 115 ∨ ch p = 120) {r : Int32} {h' : Nat → Int32} (hr : r = 0 ∨ r = 1) (e : f_X6_readsFile s t (hL h (ch p) p) = some (r, h')) : f_X6_readsOrder s t h = some (r, h') := by
  rw [rd_head hT hs hp, hL_4, e, gbb2_some, if_pos hr]
  rcases hl with q | q | q | q
  · rw [q, if_neg (by decide), if_neg (by decide), if_pos (by decide)]
  · rw [q, if_neg (by decide), if_neg (by decide), if_neg (by decide), if_neg (by decide), if_neg (by decide), if_pos (by decide)]
  · rw [q, if_neg (by decide), if_neg (by decide), if_neg (by decide), if_neg (by decide), if_neg (by decide), if_neg (by decide), if_pos (by decide)]
  · rw [q, if_neg (by decide), if_neg (by decide), if_neg (by decide), if_neg (by decide), if_neg (by decide), if_neg (by decide), if_neg (by decide), if_neg (by decide), if_pos (by decide)]
theorem rd_app (hT : TX cs t n ch) (hs : Sp h n p) (hp : p < n) (hl : ch p = 97) {r : Int32} {h' : Nat → Int32} (hr : r = 0 ∨ r = 1) (e : f_X6_readsAppend s t (hL h (ch p) p) = some (r, h')) : f_X6_readsOrder s t h = some (r, h') := by
  rw [rd_head hT hs hp, hL_4, e, gbb2_some, if_pos hr, hl, if_neg (by decide), if_pos (by decide)]
theorem rd_cut (hT : TX cs t n ch) (hs : Sp h n p) (hp : p < n) (hl : ch p = 116) {r : Int32} {h' : Nat → Int32} (hr : r = 0 ∨ r = 1) (e : f_X6_readsCut s t (hL h (ch p) p) = some (r, h')) : f_X6_readsOrder s t h = some (r, h') := by
  rw [rd_head hT hs hp, hL_4, e, gbb2_some, if_pos hr, hl, if_neg (by decide), if_neg (by decide), if_neg (by decide), if_neg (by decide), if_neg (by decide), if_neg (by decide), if_neg (by decide), if_pos (by decide)]
theorem rd_one (hT : TX cs t n ch) (hs : Sp h n p) (hp : p < n) (hl : ch p = 33 ∨ ch p = 109 ∨ ch p = 110) : f_X6_readsOrder s t h = some (1, hL h (ch p) p) := by
  rw [rd_head hT hs hp, hL_4]
  rcases hl with q | q | q
  · rw [q, if_pos (by decide)]
  · rw [q, if_neg (by decide), if_neg (by decide), if_neg (by decide), if_pos (by decide)]
  · rw [q, if_neg (by decide), if_neg (by decide), if_neg (by decide), if_neg (by decide), if_pos (by decide)]
theorem rd_no (hT : TX cs t n ch) (hs : Sp h n p) (hp : p < n) (hl : ¬ (ch p = 33 ∨ ch p = 109 ∨ ch p = 110)) (hl2 : ¬ (ch p = 97 ∨ ch p = 100 ∨ ch p = 111 ∨ ch p = 115 ∨ ch p = 116 ∨ ch p = 120)) : ∃ h', f_X6_readsOrder s t h = some (0, h') ∧ Sp h' n p ∧ ∀ k, k < 2 → h' k = h k := by
  have h80 := hT.1
  have z := hT.2 p hp
  have e3 : hL h (ch p) p 3 - 1 = nI p := by
    rw [(hL_sp hs (ch p)).2]
    exact nI_sub (a := p + 1) (b := 1) (by omega)
  have b : ch p < 2 ^ 31 := by omega
  refine ⟨upd (hL h (ch p) p) 3 (nI p), ?_, ⟨by rw [upd_ne _ _ (by decide)]; exact (hL_sp hs _).1, upd_eq _ _ _⟩, fun k hk => by rw [upd_ne _ _ (by omega), hL_low h _ p hk]⟩
  rw [rd_head hT hs hp, hL_4, e3, if_neg (show ¬ nI (ch p) = 33 from nI_lit_ne (b := 33) b (by decide) (by omega)), if_neg (show ¬ nI (ch p) = 97 from nI_lit_ne (b := 97) b (by decide) (by omega)), if_neg (show ¬ nI (ch p) = 100 from nI_lit_ne (b := 100) b (by decide) (by omega)), if_neg (show ¬ nI (ch p) = 109 from nI_lit_ne (b := 109) b (by decide) (by omega)), if_neg (show ¬ nI (ch p) = 110 from nI_lit_ne (b := 110) b (by decide) (by omega)), if_neg (show ¬ nI (ch p) = 111 from nI_lit_ne (b := 111) b (by decide) (by omega)), if_neg (show ¬ nI (ch p) = 115 from nI_lit_ne (b := 115) b (by decide) (by omega)), if_neg (show ¬ nI (ch p) = 116 from nI_lit_ne (b := 116) b (by decide) (by omega)), if_neg (show ¬ nI (ch p) = 120 from nI_lit_ne (b := 120) b (by decide) (by omega)), glet_eq]
theorem rd_end (hs : Sp h n p) (hp : p = n) (hn : n ≤ 80) : ∃ h', f_X6_readsOrder s t h = some (0, h') ∧ Sp h' n p ∧ ∀ k, k < 2 → h' k = h k := by
  have e3 : upd h 4 0 3 + 1 = nI (p + 1) := by rw [upd_ne _ _ (by decide), hs.2, nI_1]
  have e4 : upd (upd h 4 0) 3 (nI (p + 1)) 4 = 0 := by rw [upd_ne _ _ (by decide), upd_eq]
  have e5 : upd (upd h 4 0) 3 (nI (p + 1)) 3 - 1 = nI p := by
    rw [upd_eq]
    exact nI_sub (a := p + 1) (b := 1) (by omega)
  refine ⟨upd (upd (upd h 4 0) 3 (nI (p + 1))) 3 (nI p), ?_, ⟨by rw [upd_ne _ _ (by decide), upd_ne _ _ (by decide), upd_ne _ _ (by decide)]; exact hs.1, upd_eq _ _ _⟩, fun k hk => by rw [upd_ne _ _ (by omega), upd_ne _ _ (by omega), upd_ne _ _ (by omega)]⟩
  unfold f_X6_readsOrder
  rw [hs.1, hs.2, if_pos (nI_le (by omega) (by omega)), glet_eq, e3, glet_eq, e4, e5, if_neg (by decide), if_neg (by decide), if_neg (by decide), if_neg (by decide), if_neg (by decide), if_neg (by decide), if_neg (by decide), if_neg (by decide), if_neg (by decide), glet_eq]
end H
theorem ord_end {p : Nat} (hp : p = n) (hn : n ≤ 80) : OrdR n ch p 0 p := by
  refine ⟨Nat.le_refl _, by omega, Or.inl rfl, fun cs t s g h hT hs g0 => ?_⟩
  obtain ⟨h', e1, e2, e3⟩ := rd_end (s := s) (t := t) hs hp hn
  exact ⟨h', g, e1, e2, e3, RdC_rf _ _ _, fun q => absurd q (by decide), fun _ => ⟨nwh_low (k := 0) g0 (by omega), fun q => by omega⟩⟩
theorem ord_one {p : Nat} (hp : p < n) (hl : ch p = 33 ∨ ch p = 109 ∨ ch p = 110) : OrdR n ch p 1 (p + 1) := by
  refine ⟨by omega, hp, Or.inr ⟨rfl, by omega⟩, fun cs t s g h hT hs g0 => ?_⟩
  have z := hT.2 p hp
  obtain ⟨g', t1, t2, t3⟩ := T_one (g := g) (c := ch p) g0 hl
  refine ⟨hL h (ch p) p, g', rd_one hT hs hp hl, hL_sp hs _, fun k hk => hL_low h _ p hk, RdC_st (RdC_rf _ _ _) (ch59 hT hp (by omega)) (by rw [z.1]; exact t1), fun _ => ⟨⟨wh_7 t2, fun q h59 => ?_⟩, by rw [t3, hL_4], Or.inl ?_⟩, fun q => absurd q (by decide)⟩
  · have z1 := hT.2 (p + 1) q
    rw [z1.1]
    exact T_end t2 z1.2.2.2 (fun e => h59 (by rw [z1.1, e]; rfl))
  · rw [hL_4]
    rcases hl with e | e | e
    · exact Or.inl (by rw [e]; rfl)
    · exact Or.inr (Or.inl (by rw [e]; rfl))
    · exact Or.inr (Or.inr (by rw [e]; rfl))
theorem ord_no {p : Nat} (hp : p < n) (hl : ¬ (ch p = 33 ∨ ch p = 109 ∨ ch p = 110)) (hl2 : ¬ (ch p = 97 ∨ ch p = 100 ∨ ch p = 111 ∨ ch p = 115 ∨ ch p = 116 ∨ ch p = 120)) : OrdR n ch p 0 p := by
  refine ⟨Nat.le_refl _, by omega, Or.inl rfl, fun cs t s g h hT hs g0 => ?_⟩
  have z := hT.2 p hp
  obtain ⟨h', e1, e2, e3⟩ := rd_no (s := s) hT hs hp hl hl2
  exact ⟨h', g, e1, e2, e3, RdC_rf _ _ _, fun q => absurd q (by decide), fun _ => ⟨nwh_low (k := 0) g0 (by omega), fun q => by rw [z.1]; exact T_letter_no g0 z.2.2.2 hl hl2⟩⟩
/-- letter and file, in both -/
theorem fl_yes {p : Nat} {cs t s g h : Nat → Int32} (hT : TX cs t n ch) (hs : Sp h n p) (g0 : g 0 = 0) (hp : p < n) (hl : ch p = 97 ∨ ch p = 100 ∨ ch p = 111 ∨ ch p = 115 ∨ ch p = 116 ∨ ch p = 120) (hf : p + 1 < n ∧ 48 ≤ ch (p + 1) ∧ ch (p + 1) ≤ 55) : ∃ h' g', f_X6_readsFile s t (hL h (ch p) p) = some (1, h') ∧ Sp h' n (p + 2) ∧ (∀ k, k < 2 → h' k = h k) ∧ h' 4 = nI (ch p) ∧ RdC cs p g (p + 2) g' ∧ g' 0 = (if nI (ch p) = 97 ∨ nI (ch p) = 116 then 2 else 7) ∧ g' 1 = nI (ch p) ∧ g' 2 = h' 5 := by
  have z := hT.2 p hp
  have z1 := hT.2 (p + 1) hf.1
  obtain ⟨g1, t1, t2, t3⟩ := T_two (g := g) (c := ch p) g0 hl
  obtain ⟨h', e1, e2, e3, e4⟩ := M_file_yes (s := s) hT (hL_sp hs (ch p)) hf.1 hf.2.1 hf.2.2
  obtain ⟨g2, u1, u2, u3, u4⟩ := T_file_yes (g := g1) (c := ch (p + 1)) t2 hf.2.1 hf.2.2
  rw [t3] at u2 u3
  exact ⟨h', g2, e1, e2, fun k hk => by rw [e4 k (by omega) (by omega), hL_low h _ p hk], by rw [e4 4 (by decide) (by decide), hL_4], RdC_st (RdC_st (RdC_rf _ _ _) (ch59 hT hp (by omega)) (by rw [z.1]; exact t1)) (ch59 hT hf.1 (by omega)) (by rw [z1.1]; exact u1), u2, u3, by rw [u4, e3]⟩
theorem fl_no {p : Nat} {cs t s g h : Nat → Int32} (hT : TX cs t n ch) (hs : Sp h n p) (g0 : g 0 = 0) (hp : p < n) (hl : ch p = 97 ∨ ch p = 100 ∨ ch p = 111 ∨ ch p = 115 ∨ ch p = 116 ∨ ch p = 120) (hf : ¬ (p + 1 < n ∧ 48 ≤ ch (p + 1) ∧ ch (p + 1) ≤ 55)) : ∃ h' g', f_X6_readsFile s t (hL h (ch p) p) = some (0, h') ∧ Sp h' n (p + 1) ∧ (∀ k, k < 2 → h' k = h k) ∧ RdC cs p g (p + 1) g' ∧ BadC cs n (p + 1) g' := by
  have z := hT.2 p hp
  obtain ⟨g1, t1, t2, t3⟩ := T_two (g := g) (c := ch p) g0 hl
  obtain ⟨h', e1, e2, e4⟩ := M_file_no (s := s) hT (hL_sp hs (ch p)) (by omega) hf
  refine ⟨h', g1, e1, e2, fun k hk => by rw [e4 k (by omega) (by omega), hL_low h _ p hk], RdC_st (RdC_rf _ _ _) (ch59 hT hp (by omega)) (by rw [z.1]; exact t1), nwh_low (k := 1) t2 (by omega), fun q => ?_⟩
  have z1 := hT.2 (p + 1) q
  rw [z1.1]
  exact T_file_no t2 z1.2.2.2 (fun w => hf ⟨q, w⟩)
theorem ord_file {p : Nat} (hp : p < n) (hl : ch p = 100 ∨ ch p = 111 ∨ ch p = 115 ∨ ch p = 120) : ∃ r q, OrdR n ch p r q := by
  by_cases hf : p + 1 < n ∧ 48 ≤ ch (p + 1) ∧ ch (p + 1) ≤ 55
  · refine ⟨1, p + 2, by omega, by omega, Or.inr ⟨rfl, by omega⟩, fun cs t s g h hT hs g0 => ?_⟩
    have z := hT.2 p hp
    obtain ⟨h', g', e1, e2, e3, e4, e5, e6, e7, e8⟩ := fl_yes (s := s) hT hs g0 hp (by omega) hf
    have n97 : ¬ nI (ch p) = 97 := nI_lit_ne (b := 97) (by omega) (by decide) (by omega)
    have n116 : ¬ nI (ch p) = 116 := nI_lit_ne (b := 116) (by omega) (by decide) (by omega)
    rw [if_neg (fun w => w.elim n97 n116)] at e6
    refine ⟨h', g', rd_file hT hs hp hl (Or.inr rfl) e1, e2, e3, e5, fun _ => ⟨⟨wh_7 e6, fun q h59 => ?_⟩, by rw [e7, e4], Or.inr (Or.inl ⟨?_, e8⟩)⟩, fun q => absurd q (by decide)⟩
    · have z1 := hT.2 (p + 2) q
      rw [z1.1]
      exact T_end e6 z1.2.2.2 (fun e => h59 (by rw [z1.1, e]; rfl))
    · rw [e4]
      rcases hl with e | e | e | e
      · exact Or.inl (by rw [e]; rfl)
      · exact Or.inr (Or.inl (by rw [e]; rfl))
      · exact Or.inr (Or.inr (Or.inl (by rw [e]; rfl)))
      · exact Or.inr (Or.inr (Or.inr (by rw [e]; rfl)))
  · refine ⟨0, p + 1, by omega, by omega, Or.inl rfl, fun cs t s g h hT hs g0 => ?_⟩
    obtain ⟨h', g', e1, e2, e3, e4, e5⟩ := fl_no (s := s) hT hs g0 hp (by omega) hf
    exact ⟨h', g', rd_file hT hs hp hl (Or.inl rfl) e1, e2, e3, e4, fun q => absurd q (by decide), fun _ => e5⟩
end ORDERS
