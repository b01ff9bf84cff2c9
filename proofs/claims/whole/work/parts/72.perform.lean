/-! MATHEMATICS, 48: the orders of a text are carried out alike. -/
section PERFORM
variable {n : Nat} {ch : Nat → Nat}
theorem gb_id {α : Type} (o : Option α) : gb o (fun r => some r) = o := by cases o <;> rfl
theorem gbb2_id {α β : Type} (o : Option (α × β)) : gbb2 o (fun r s => some (r, s)) = o := by cases o <;> rfl
/-- what comes of an order that both have read -/
def DoneO (A : Nat → Nat → Nat) (D : Nat → Nat → Nat → Int32) (t : Nat → Int32) (K : Option (Int32 × (Nat → Nat → Nat → Int32))) (h' : Nat → Int32) : Prop :=
  (∃ r : Int32, r < 0 ∧ K = some (r, va_up D 0 (D 0)) ∧ ∀ s1, RM s1 0 A → ∃ e : Int32, e ≠ 0 ∧ f_X6_orderError s1 t h' = some e) ∨
  (∃ (r : Nat) (d' : Nat → Nat → Int32) (A' : Nat → Nat → Nat), r < 2 ^ 31 ∧ K = some (nI r, va_up D 0 d') ∧ RC d' A' ∧ IA A' ∧ ∀ s1, RM s1 0 A → f_X6_orderError s1 t h' = some 0 ∧ ∃ s2, f_X6_does s1 t h' = some (nI r, s2) ∧ RM s2 0 A' ∧ Out 0 s1 s2)
theorem pair_out {A : Nat → Nat → Nat} {D : Nat → Nat → Nat → Int32} {t h' : Nat → Int32} {F : (Nat → Nat → Int32) → Option (Int32 × (Nat → Nat → Int32))} {E : (Nat → Int32) → (Nat → Int32) → (Nat → Int32) → Option Int32} {G : (Nat → Int32) → (Nat → Int32) → (Nat → Int32) → Option (Int32 × (Nat → Int32))} (hP : Pair A (D 0) t F E G) {K : Option (Int32 × (Nat → Nat → Nat → Int32))} (hK : K = gbb2 (F (D 0)) (fun r w => glet (va_up D 0 w) (fun D6 => some (r, D6)))) (hE : ∀ s1, f_X6_orderError s1 t h' = E s1 t h') (hG : ∀ s1, f_X6_does s1 t h' = G s1 t h') : DoneO A D t K h' := by
  rcases hP with ⟨r, h1, h2, h3⟩ | ⟨r, d', A', h1, h2, h3, h4, h5⟩
  · refine Or.inl ⟨r, h1, by rw [hK, h2, gbb2_some, glet_eq], fun s1 hm => ?_⟩
    rw [hE]; exact h3 s1 h' hm
  · refine Or.inr ⟨r, d', A', h1, by rw [hK, h2, gbb2_some, glet_eq], h3, h4, fun s1 hm => ?_⟩
    rw [hE, hG]; exact h5 s1 h' hm
theorem ord_done {A : Nat → Nat → Nat} {D : Nat → Nat → Nat → Int32} (hc : RC (D 0) A) (hI : IA A) (t : Nat → Int32) {g' h' : Nat → Int32} (hA : Ag g' h') (sav old hsz : Int32) (cs : Nat → Int32) (len : Int32) : DoneO A D t (f_X5_carryOut D sav old hsz cs len g') h' := by
  obtain ⟨h1, hl⟩ := hA
  have eF : f_X2_fileNumber g' = some (g' 2) := rfl
  have eL : f_X2_letter g' = some (h' 4) := by rw [← h1]; rfl
  have e3 : f_X2_firstNumber g' = some (g' 3) := rfl
  have e4 : f_X2_secondNumber g' = some (g' 4) := rfl
  rcases hl with (e | e | e) | ⟨e | e | e | e, h2⟩ | ⟨e, h2, h3, h4⟩ | ⟨e, h2, h3⟩
  · refine pair_out (pr_crash hc hI) ?_ (fun s1 => ?_) (fun s1 => ?_)
    · unfold f_X5_carryOut
      rw [eF, gb_some, eL, gb_some, e, if_pos rfl]
    · unfold f_X6_orderError
      rw [e, if_neg (by decide), if_neg (by decide), if_neg (by decide), if_neg (by decide), if_neg (by decide), if_neg (by decide), if_neg (by decide)]
    · unfold f_X6_does
      rw [e, if_pos rfl, gbb2_id]
  · refine pair_out (pr_mend hc hI) ?_ (fun s1 => ?_) (fun s1 => ?_)
    · unfold f_X5_carryOut
      rw [eF, gb_some, eL, gb_some, e, if_neg (by decide), if_neg (by decide), if_neg (by decide), if_pos rfl]
    · unfold f_X6_orderError
      rw [e, if_neg (by decide), if_neg (by decide), if_neg (by decide), if_neg (by decide), if_neg (by decide), if_neg (by decide), if_neg (by decide)]
    · unfold f_X6_does
      rw [e, if_neg (by decide), if_neg (by decide), if_neg (by decide), if_neg (by decide), if_neg (by decide), if_neg (by decide), if_neg (by decide), if_neg (by decide), gbb2_id]
  · refine pair_out (pr_create hc hI) ?_ (fun s1 => ?_) (fun s1 => ?_)
    · unfold f_X5_carryOut
      rw [eF, gb_some, eL, gb_some, e, if_neg (by decide), if_neg (by decide), if_neg (by decide), if_neg (by decide), if_pos rfl]
    · unfold f_X6_orderError
      rw [e, if_neg (by decide), if_neg (by decide), if_pos rfl, gb_id]
    · unfold f_X6_does
      rw [e, if_neg (by decide), if_neg (by decide), if_neg (by decide), if_pos rfl, gbb2_id]
  · refine pair_out (pr_remove hc hI (g' 2)) ?_ (fun s1 => ?_) (fun s1 => ?_)
    · unfold f_X5_carryOut
      rw [eF, gb_some, eL, gb_some, e, if_neg (by decide), if_neg (by decide), if_pos rfl]
    · unfold f_X6_orderError
      rw [e, if_neg (by decide), if_pos rfl, gb_id, h2]
    · unfold f_X6_does
      rw [e, if_neg (by decide), if_neg (by decide), if_pos rfl, gbb2_id, h2]
  · refine pair_out (pr_open hc hI (g' 2)) ?_ (fun s1 => ?_) (fun s1 => ?_)
    · unfold f_X5_carryOut
      rw [eF, gb_some, eL, gb_some, e, if_neg (by decide), if_neg (by decide), if_neg (by decide), if_neg (by decide), if_neg (by decide), if_pos rfl]
    · unfold f_X6_orderError
      rw [e, if_neg (by decide), if_neg (by decide), if_neg (by decide), if_pos rfl, gb_id, h2]
    · unfold f_X6_does
      rw [e, if_neg (by decide), if_neg (by decide), if_neg (by decide), if_neg (by decide), if_pos rfl, gbb2_id, h2]
  · refine pair_out (pr_sync hc hI (g' 2)) ?_ (fun s1 => ?_) (fun s1 => ?_)
    · unfold f_X5_carryOut
      rw [eF, gb_some, eL, gb_some, e, if_neg (by decide), if_neg (by decide), if_neg (by decide), if_neg (by decide), if_neg (by decide), if_neg (by decide), if_pos rfl]
    · unfold f_X6_orderError
      rw [e, if_neg (by decide), if_neg (by decide), if_neg (by decide), if_neg (by decide), if_pos rfl, gb_id, h2]
    · unfold f_X6_does
      rw [e, if_neg (by decide), if_neg (by decide), if_neg (by decide), if_neg (by decide), if_neg (by decide), if_pos rfl, gbb2_id, h2]
  · refine pair_out (pr_close hc hI (g' 2)) ?_ (fun s1 => ?_) (fun s1 => ?_)
    · unfold f_X5_carryOut
      rw [eF, gb_some, eL, gb_some, e, if_neg (by decide), if_neg (by decide), if_neg (by decide), if_neg (by decide), if_neg (by decide), if_neg (by decide), if_neg (by decide), if_neg (by decide), if_pos rfl]
    · unfold f_X6_orderError
      rw [e, if_neg (by decide), if_neg (by decide), if_neg (by decide), if_neg (by decide), if_neg (by decide), if_neg (by decide), if_pos rfl, gb_id, h2]
    · unfold f_X6_does
      rw [e, if_neg (by decide), if_neg (by decide), if_neg (by decide), if_neg (by decide), if_neg (by decide), if_neg (by decide), if_neg (by decide), if_pos rfl, gbb2_id, h2]
  · refine pair_out (pr_append hc hI (g' 2) (g' 3) (g' 4)) ?_ (fun s1 => ?_) (fun s1 => ?_)
    · unfold f_X5_carryOut
      rw [eF, gb_some, eL, gb_some, e, if_neg (by decide), if_pos rfl, e3, gb_some, e4, gb_some]
    · unfold f_X6_orderError
      rw [e, if_pos rfl, gb_id, h2, h3, h4]
    · unfold f_X6_does
      rw [e, if_neg (by decide), if_pos rfl, gbb2_id, h2, h3, h4]
  · refine pair_out (pr_cut hc hI (g' 2) (g' 3)) ?_ (fun s1 => ?_) (fun s1 => ?_)
    · unfold f_X5_carryOut
      rw [eF, gb_some, eL, gb_some, e, if_neg (by decide), if_neg (by decide), if_neg (by decide), if_neg (by decide), if_neg (by decide), if_neg (by decide), if_neg (by decide), if_pos rfl, e3, gb_some]
    · unfold f_X6_orderError
      rw [e, if_neg (by decide), if_neg (by decide), if_neg (by decide), if_neg (by decide), if_neg (by decide), if_pos rfl, gb_id, h2, h3]
    · unfold f_X6_does
      rw [e, if_neg (by decide), if_neg (by decide), if_neg (by decide), if_neg (by decide), if_neg (by decide), if_neg (by decide), if_pos rfl, gbb2_id, h2, h3]
theorem p_len (cs : Nat → Int32) (len : Int32) (g : Nat → Int32) : f_X4_length cs len g = some len := rfl
theorem p_char {cs t : Nat → Int32} (hT : TX cs t n ch) {q : Nat} (hq : q < n) (g : Nat → Int32) : f_X4_characterAt cs (nI n) g (nI q) = some (cs q) := by
  have h80 := hT.1
  unfold f_X4_characterAt
  rw [f_at_in (by decide) _ (show q < 80 by omega), gb_some]
theorem L45_go {cs t : Nat → Int32} (hT : TX cs t n ch) {p : Nat} {g : Nat → Int32} (sav v1 v2 old hsz : Int32) (D : Nat → Nat → Nat → Int32) : ∀ (k : Nat) (g' : Nat → Int32), goC cs p g k g' → p + k ≤ n → ∀ fu, f_X5_perform_L45 sav cs (nI n) v1 (fu + k) v2 (nI p) D old hsz g = f_X5_perform_L45 sav cs (nI n) v1 fu v2 (nI (p + k)) D old hsz g' := by
  have h80 := hT.1
  intro k
  induction k with
  | zero => intro g' h _ fu; have h' : g' = g := h; rw [h']; rfl
  | succ k ih =>
    intro g' h hk fu
    obtain ⟨g1, h1, h2, h3⟩ := h
    have e := ih g1 h1 (by omega) (fu + 1)
    rw [show fu + (k + 1) = fu + 1 + k by omega, e, f_X5_perform_L45, p_len, gb_some, if_neg (nI_ge (show p + k < n by omega) (by omega)), p_char hT (show p + k < n by omega), gb_some, if_neg h2, gb_some, h3, gbb2_some, glet_eq, nI_1, Nat.add_assoc]
theorem pf_both {cs t : Nat → Int32} (hT : TX cs t n ch) (sav v1 old hsz : Int32) : ∀ (m p : Nat), p ≤ n → fnS n ch m p → ∀ (A : Nat → Nat → Nat) (D : Nat → Nat → Nat → Int32) (s g h : Nat → Int32) (c fu fu' : Nat), RC (D 0) A → RM s 0 A → IA A → g 0 = 0 → Sp h n p → n < p + fu → n + 2 < p + fu' → ∃ (r : Int32) (D' : Nat → Nat → Nat → Int32) (g' s' h' : Nat → Int32) (A' : Nat → Nat → Nat), f_X5_perform_L45 sav cs (nI n) v1 fu (nI c) (nI p) D old hsz g = some (r, D', old, hsz, g') ∧ f_X6_perform_L29 t v1 fu' (nI c) 1 s h = some (r, s', h') ∧ RC (D' 0) A' ∧ RM s' 0 A' ∧ IA A' ∧ (∀ i, i ≠ 0 → D' i = D i) ∧ Out 0 s s' ∧ ∀ k, k < 3 → h' k = h k := by
  have h80 := hT.1
  intro m
  induction m with
  | zero => intro p hp hf; exact absurd hf (fun z => z)
  | succ m ih =>
    intro p hp hf A D s g h c fu fu' hc hm hI g0 hs hfu hfu'
    obtain ⟨f1, f2⟩ := hf
    obtain ⟨o1, o2, o3, H⟩ := od_spec (ch := ch) hp h80
    obtain ⟨h1, g1, e1, e2, e3, ⟨k, hk, hgo⟩, e5, e6⟩ := H cs t s g h hT hs g0
    obtain ⟨⟨b1, b2⟩, ag⟩ := e5 f1
    obtain ⟨fu', rfl⟩ : ∃ x, fu' = x + 1 := ⟨fu' - 1, by omega⟩
    obtain ⟨x, hx⟩ : ∃ x, fu = x + 1 + k := ⟨fu - k - 1, by omega⟩
    have hpq : p < (od n ch p).2 := by rcases o3 with z | z <;> omega
    have c1 : f_X5_perform_L45 sav cs (nI n) v1 fu (nI c) (nI p) D old hsz g = f_X5_perform_L45 sav cs (nI n) v1 (x + 1) (nI c) (nI (od n ch p).2) D old hsz g1 := by
      rw [hx, L45_go hT sav v1 (nI c) old hsz D k g1 hgo (by omega) (x + 1), ← hk]
    have low : ∀ k, k < 3 → h1 k = h k := fun k hk => by
      by_cases c : k = 2
      · rw [c, e2.1, hs.1]
      · exact e3 k (by omega)
    have hdone := ord_done (D := D) hc hI t ag sav old hsz cs (nI n)
    rw [f1] at e1
    rw [c1, f_X6_perform_L29, if_neg n10, e1, gbb2_some, if_neg (show ¬ nI 1 = 0 by decide), f_X5_perform_L45, p_len, gb_some]
    rcases hdone with ⟨r, r1, r2, r3⟩ | ⟨r, d', A', r1, r2, r3, r4, r5⟩
    · obtain ⟨e, he, hE⟩ := r3 s hm
      obtain ⟨y, rfl⟩ : ∃ x, fu' = x + 1 := ⟨fu' - 1, by omega⟩
      have hr0 : ¬ (0 : Int32) ≤ r := Int32.not_le.mpr r1
      rw [hE, gb_some, if_neg he, M_flag0, gb_some, glet_eq, f_X6_perform_L29, if_pos rfl, show nI c + 0 = nI (c + 0) from nI_add c 0]
      rcases f2 with f2 | ⟨f2, f3, f4⟩
      · rw [f2, if_pos (nI_le (Nat.le_refl _) (by omega)), r2, gbb2_some, if_neg hr0]
        exact ⟨_, _, _, _, _, A, rfl, rfl, by rw [up_eq]; exact hc, hm, hI, fun i hi => up_ne _ _ hi, Out.rf, low⟩
      · have z := hT.2 _ f2
        rw [if_neg (nI_ge f2 (by omega)), p_char hT f2, gb_some, if_pos (show cs (od n ch p).2 = 59 by rw [z.1, f3]; rfl), r2, gbb2_some, if_neg hr0]
        exact ⟨_, _, _, _, _, A, rfl, rfl, by rw [up_eq]; exact hc, hm, hI, fun i hi => up_ne _ _ hi, Out.rf, low⟩
    · obtain ⟨hE, s2, hG, hm2, hO⟩ := r5 s hm
      have hr0 : (0 : Int32) ≤ nI r := nI_pos' r1
      have ec : nI c + 1 = nI (c + 1) := nI_1 c
      rw [hE, gb_some, if_pos rfl, hG, gbb2_some, M_flag1, gb_some, glet_eq, ec]
      rcases f2 with f2 | ⟨f2, f3, f4⟩
      · obtain ⟨h2, m1, m2, m3⟩ := M_mark_no (s := s2) hT e2 o2 (c := 59) (by decide) (fun w => by omega)
        have m1' : f_X6_takes s2 t h1 59 = some (0, h2) := m1
        obtain ⟨y, rfl⟩ : ∃ x, fu' = x + 1 := ⟨fu' - 1, by omega⟩
        rw [f2, if_pos (nI_le (Nat.le_refl _) (by omega)), r2, gbb2_some, if_pos hr0, m1', gbb2_some, if_pos rfl, f_X6_perform_L29, if_pos rfl]
        exact ⟨_, _, _, _, _, A', rfl, rfl, by rw [up_eq]; exact r3, hm2, r4, fun i hi => up_ne _ _ hi, hO, fun k hk => by rw [m3 k (by omega), low k hk]⟩
      · have z := hT.2 _ f2
        have c59 : cs (od n ch p).2 = 59 := by rw [z.1, f3]; rfl
        obtain ⟨h2, m1, m2, m3⟩ := M_mark_yes (s := s2) hT e2 f2 (c := 59) (by decide) f3
        have m1' : f_X6_takes s2 t h1 59 = some (1, h2) := m1
        obtain ⟨g2, t1, t2⟩ := semi_yes b1
        have t1' : f_X2_takes g1 59 = some (1, g2) := t1
        rw [if_neg (nI_ge f2 (by omega)), p_char hT f2, gb_some, if_pos c59, r2, gbb2_some, if_pos hr0, glet_eq, gb_some, c59, t1', gbb2_some, glet_eq, nI_1, m1', gbb2_some, if_neg n10]
        obtain ⟨q, D', g', s', h', A'', w1, w2, w3, w4, w5, w6, w7, w8⟩ := ih ((od n ch p).2 + 1) (by omega) f4 A' (va_up D 0 d') s2 g2 h2 (c + 1) x fu' (by rw [up_eq]; exact r3) hm2 r4 t2 m2 (by omega) (by omega)
        exact ⟨q, D', g', s', h', A'', w1, w2, w3, w4, w5, fun i hi => by rw [w6 i hi, up_ne _ _ hi], hO.tr w7, fun k hk => by rw [w8 k hk, m3 k (by omega), low k hk]⟩
theorem st_perform_RR : st_perform RR := by
  intro D sav old hsz cs len g s t g6 hR
  obtain ⟨⟨A, hc, hm, hI⟩, hH, hS, hT⟩ := hR
  obtain ⟨n, ch, hX, e1, e2⟩ := rT_TX hT
  have h80 := hX.1
  obtain ⟨r, g', h', r1, r2, r3, r4, -⟩ := flt_top hX s g g6 e2
  unfold f_X5_perform f_X6_perform
  rw [e1, r1, gbb2_some, r2, gbb2_some]
  by_cases c : r = -5
  · obtain ⟨o, k, h1, h2, h3, h4, h5, h6⟩ := hH
    obtain ⟨D', o', k', s', q', q1, q2, q3, q4, q5, q6, q7, q8, q9, q10⟩ := rec_both (g := h') h6 h1 h2 (q := 0) (by decide) hc hm hI (by rw [r3 0 (by decide)]; exact h5) sav cs (nI n) g'
    obtain ⟨v, D2, g2, s2, h2', A2, w1, w2, w3, w4, w5, w6, w7, w8⟩ := pf_both hX sav r (nI o') (nI k') (n + 1) 0 (Nat.zero_le _) (r4 c) A D' s' (upd g' 0 0) (upd q' 3 0) 0 gFu gFu (by rw [q7 0 (by decide)]; exact hc) (hm.keep q8) hI (upd_eq _ _ _) ⟨by rw [upd_ne _ _ (by decide), q6 2 (by decide), r3 2 (by decide)]; exact e2, upd_eq _ _ _⟩ (by show n < 0 + 1000; omega) (by show n + 2 < 0 + 1000; omega)
    have w1' : f_X5_perform_L45 sav cs (nI n) r gFu 0 0 D' (nI o') (nI k') (upd g' 0 0) = some (v, D2, nI o', nI k', g2) := w1
    have w2' : f_X6_perform_L29 t r gFu 0 1 s' (upd q' 3 0) = some (v, s2, h2') := w2
    unfold f_X2_begin
    rw [if_pos c, if_pos c, h3, h4, q3, gbb3_some, glet_eq, gb_some, w1', q4, gbb2_some, glet_eq, w2']
    have x0 : h2' 0 = nI k' := by rw [w8 0 (by decide), upd_ne _ _ (by decide)]; exact q5
    have x1 : h2' 1 = g6 1 := by rw [w8 1 (by decide), upd_ne _ _ (by decide), q6 1 (by decide), r3 1 (by decide)]
    have x2 : h2' 2 = g6 2 := by rw [w8 2 (by decide), upd_ne _ _ (by decide), q6 2 (by decide), r3 2 (by decide)]
    exact ⟨_, _, _, _, _, _, _, rfl, rfl, ⟨A2, w3, w4, w5⟩, ⟨o', k', q1, q2, rfl, rfl, x0, q10.congr (fun i hi => w6 i (by omega)) (fun x hx _ => w7 x (by omega)) q2⟩, hS.congr (by rw [w6 2 (by decide), q7 2 (by decide)]) (fun x hx _ => (w7 x (by omega)).trans (q9 x hx)) x1, by rw [← e1]; exact hT.congr x2⟩
  · rw [if_neg c, if_neg c]
    exact ⟨_, _, _, _, _, _, _, rfl, rfl, ⟨A, hc, hm, hI⟩, hH.congr (fun _ _ => rfl) (fun _ _ _ => rfl) (r3 0 (by decide)), hS.congr rfl (fun _ _ _ => rfl) (r3 1 (by decide)), by rw [← e1]; exact hT.congr (r3 2 (by decide))⟩
end PERFORM
