/-! MATHEMATICS, 43: an order is read alike. -/
section ORDER
/-- k characters are taken from p on, none of them a semicolon -/
def goC (cs : Nat → Int32) (p : Nat) (g : Nat → Int32) : Nat → (Nat → Int32) → Prop
  | 0, g' => g' = g
  | k + 1, g' => ∃ g1, goC cs p g k g1 ∧ cs (p + k) ≠ 59 ∧ f_X2_takes g1 (cs (p + k)) = some (1, g')
def RdC (cs : Nat → Int32) (p : Nat) (g : Nat → Int32) (q : Nat) (g' : Nat → Int32) : Prop := ∃ k, q = p + k ∧ goC cs p g k g'
theorem RdC_rf (cs : Nat → Int32) (p : Nat) (g : Nat → Int32) : RdC cs p g p g := ⟨0, rfl, rfl⟩
theorem RdC_st {cs : Nat → Int32} {p q : Nat} {g g1 g' : Nat → Int32} (h : RdC cs p g q g1) (h59 : cs q ≠ 59) (e : f_X2_takes g1 (cs q) = some (1, g')) : RdC cs p g (q + 1) g' := by
  obtain ⟨k, rfl, hk⟩ := h
  exact ⟨k + 1, rfl, g1, hk, h59, e⟩
def BadC (cs : Nat → Int32) (n q : Nat) (g : Nat → Int32) : Prop := nwh g ∧ (q < n → ∃ g', f_X2_takes g (cs q) = some (0, g'))
def GoodC (cs : Nat → Int32) (n q : Nat) (g : Nat → Int32) : Prop := wh g ∧ (q < n → cs q ≠ 59 → ∃ g', f_X2_takes g (cs q) = some (0, g'))
variable {n : Nat} {ch : Nat → Nat}
theorem ch59 {cs t : Nat → Int32} (hT : TX cs t n ch) {q : Nat} (hq : q < n) (h : ch q ≠ 59) : cs q ≠ 59 := by
  have z := hT.2 q hq
  rw [z.1]
  exact nI_lit_ne (b := 59) (by omega) (by decide) h
theorem P_num {q0 least top : Nat} (hl : least = 0 ∨ least = 1) (ht : top ≤ 99) : (¬ (q0 < n ∧ 48 + least ≤ ch q0 ∧ ch q0 ≤ 57) ∧ ∀ cs t s h : Nat → Int32, TX cs t n ch → Sp h n q0 → q0 ≤ n → f_X6_number s t h (nI least) (nI top) = some (-5, h)) ∨ ((q0 < n ∧ 48 + least ≤ ch q0 ∧ ch q0 ≤ 57) ∧ ((nmX n q0 top ch ∧ ∀ cs t s h : Nat → Int32, TX cs t n ch → Sp h n q0 → ∃ h', f_X6_number s t h (nI least) (nI top) = some (nI (10 * (ch q0 - 48) + (ch (q0 + 1) - 48)), h') ∧ Sp h' n (q0 + 2) ∧ ∀ k, k ≠ 3 → h' k = h k) ∨ (¬ nmX n q0 top ch ∧ ∀ cs t s h : Nat → Int32, TX cs t n ch → Sp h n q0 → ∃ h', f_X6_number s t h (nI least) (nI top) = some (nI (ch q0 - 48), h') ∧ Sp h' n (q0 + 1) ∧ ∀ k, k ≠ 3 → h' k = h k))) := by
  have wrap : ∀ (cs t s h : Nat → Int32), TX cs t n ch → Sp h n q0 → q0 ≤ n → f_X6_number s t h (nI least) (nI top) = f_X6_number_L22 s t (nI least) (nI top) gFu (-5) (if q0 < n ∧ 48 + least ≤ ch q0 ∧ ch q0 ≤ 57 then 1 else 0) h := by
    intro cs t s h hT hs hq
    have e := M_isHere (s := s) hT hs hq (lo := 48 + least) (hi := 57) (by omega) (by decide)
    unfold f_X6_number
    rcases hl with z | z
    · subst z
      have e' : f_X6_isHere s t h 48 57 = _ := e
      rw [if_pos (show nI 0 = 0 from rfl), e', gb_some]
    · subst z
      have e' : f_X6_isHere s t h 49 57 = _ := e
      rw [if_neg (show ¬ nI 1 = 0 by decide), e', gb_some]
  by_cases c : q0 < n ∧ 48 + least ≤ ch q0 ∧ ch q0 ≤ 57
  · refine Or.inr ⟨c, ?_⟩
    by_cases cx : nmX n q0 top ch
    · refine Or.inl ⟨cx, fun cs t s h hT hs => ?_⟩
      rw [wrap cs t s h hT hs (by omega), if_pos c]
      exact M_num_two hT hs c.1 (by omega) c.2.2 ht cx (nI least) (gFu - 3)
    · refine Or.inr ⟨cx, fun cs t s h hT hs => ?_⟩
      rw [wrap cs t s h hT hs (by omega), if_pos c]
      exact M_num_one hT hs c.1 (by omega) c.2.2 ht cx (nI least) (gFu - 2)
  · refine Or.inl ⟨c, fun cs t s h hT hs hq => ?_⟩
    rw [wrap cs t s h hT hs hq, if_neg c]
    exact M_num_none (nI least) (nI top) (gFu - 1)
/-- the first number of an order: both read it alike -/
theorem P_first {q0 l least : Nat} (hq : q0 ≤ n) (hl : (l = 97 ∧ least = 1) ∨ (l = 116 ∧ least = 0)) : (∀ cs t s h g1 : Nat → Int32, TX cs t n ch → Sp h n q0 → g1 0 = 3 → g1 1 = nI l → f_X6_number s t h (nI least) 64 = some (-5, h) ∧ BadC cs n q0 g1) ∨ (∃ q v : Nat, q0 < q ∧ q ≤ n ∧ v ≤ 99 ∧ ¬ (q < n ∧ 48 ≤ ch q ∧ ch q ≤ 57 ∧ 0 < v ∧ 10 * v + (ch q - 48) ≤ 64) ∧ ∀ (cs t s h g1 : Nat → Int32) (p : Nat) (g : Nat → Int32), TX cs t n ch → Sp h n q0 → g1 0 = 3 → g1 1 = nI l → RdC cs p g q0 g1 → ∃ h' g', f_X6_number s t h (nI least) 64 = some (nI v, h') ∧ Sp h' n q ∧ (∀ k, k ≠ 3 → h' k = h k) ∧ RdC cs p g q g' ∧ g' 0 = 4 ∧ g' 3 = nI v ∧ ∀ k, k ≠ 0 → k ≠ 3 → g' k = g1 k) := by
  have hll : least = 0 ∨ least = 1 := by omega
  have h97 : ∀ x : Int32, x = nI l → (x = 97 → least = 1) := fun x e z => by
    rcases hl with w | w
    · exact w.2
    · rw [e, w.1] at z; exact absurd z (by decide)
  rcases P_num (n := n) (ch := ch) (q0 := q0) hll (show 64 ≤ 99 by decide) with ⟨c, H⟩ | ⟨c, ⟨cx, H⟩ | ⟨cx, H⟩⟩
  · refine Or.inl (fun cs t s h g1 hT hs g0 gl => ⟨H cs t s h hT hs hq, nwh_low (k := 3) g0 (by omega), fun hlt => ?_⟩)
    have z := hT.2 q0 hlt
    rw [z.1]
    refine T_first_no g0 z.2.2.2 (fun w => c ⟨hlt, ?_, w.2.1⟩)
    rcases hl with v | v
    · have := w.2.2 (by rw [gl, v.1]; rfl)
      omega
    · omega
  · obtain ⟨x1, x2, x3, x4, x5⟩ := cx
    refine Or.inr ⟨q0 + 2, 10 * (ch q0 - 48) + (ch (q0 + 1) - 48), by omega, by omega, by omega, fun w => by omega, fun cs t s h g1 p g hT hs g0 gl hR => ?_⟩
    obtain ⟨h', e1, e2, e3⟩ := H cs t s h hT hs
    have z := hT.2 q0 c.1
    have z1 := hT.2 (q0 + 1) x2
    obtain ⟨g2, t1, t2, t3, t4⟩ := T_first_yes (g := g1) (c := ch q0) g0 (by omega) c.2.2 (fun w => by have := h97 _ gl w; omega)
    obtain ⟨g3, u1, u2, u3, u4⟩ := T_more1 (g := g2) (a := ch q0 - 48) (c := ch (q0 + 1)) t2 t3 (by omega) z1.2.2.2 (by omega) (fun _ => by omega)
    rw [if_pos ⟨x3, x4, x1, x5⟩] at u1
    refine ⟨h', g3, e1, e2, e3, RdC_st (RdC_st hR (ch59 hT c.1 (by omega)) (by rw [z.1]; exact t1)) (ch59 hT x2 (by omega)) (by rw [z1.1]; exact u1), u2, u3 x3, fun k k0 k3 => by rw [u4 k k3, t4 k k0 k3]⟩
  · refine Or.inr ⟨q0 + 1, ch q0 - 48, by omega, by omega, by omega, fun w => cx ⟨w.2.2.2.1, w.1, w.2.1, w.2.2.1, w.2.2.2.2⟩, fun cs t s h g1 p g hT hs g0 gl hR => ?_⟩
    obtain ⟨h', e1, e2, e3⟩ := H cs t s h hT hs
    have z := hT.2 q0 c.1
    obtain ⟨g2, t1, t2, t3, t4⟩ := T_first_yes (g := g1) (c := ch q0) g0 (by omega) c.2.2 (fun w => by have := h97 _ gl w; omega)
    exact ⟨h', g2, e1, e2, e3, RdC_st hR (ch59 hT c.1 (by omega)) (by rw [z.1]; exact t1), t2, t3, t4⟩
theorem P_second {q0 : Nat} (hq : q0 ≤ n) : (∀ cs t s h g1 : Nat → Int32, TX cs t n ch → Sp h n q0 → g1 0 = 5 → f_X6_number s t h 0 99 = some (-5, h) ∧ BadC cs n q0 g1) ∨ (∃ q v : Nat, q0 < q ∧ q ≤ n ∧ v ≤ 99 ∧ ¬ (q < n ∧ 48 ≤ ch q ∧ ch q ≤ 57 ∧ 0 < v ∧ 10 * v + (ch q - 48) ≤ 99) ∧ ∀ (cs t s h g1 : Nat → Int32) (p : Nat) (g : Nat → Int32), TX cs t n ch → Sp h n q0 → g1 0 = 5 → RdC cs p g q0 g1 → ∃ h' g', f_X6_number s t h 0 99 = some (nI v, h') ∧ Sp h' n q ∧ (∀ k, k ≠ 3 → h' k = h k) ∧ RdC cs p g q g' ∧ g' 0 = 6 ∧ g' 4 = nI v ∧ ∀ k, k ≠ 0 → k ≠ 4 → g' k = g1 k) := by
  rcases P_num (n := n) (ch := ch) (q0 := q0) (least := 0) (Or.inl rfl) (show 99 ≤ 99 by decide) with ⟨c, H⟩ | ⟨c, ⟨cx, H⟩ | ⟨cx, H⟩⟩
  · refine Or.inl (fun cs t s h g1 hT hs g0 => ⟨H cs t s h hT hs hq, nwh_low (k := 5) g0 (by omega), fun hlt => ?_⟩)
    have z := hT.2 q0 hlt
    rw [z.1]
    exact T_second_no g0 z.2.2.2 (fun w => c ⟨hlt, by omega, w.2⟩)
  · obtain ⟨x1, x2, x3, x4, x5⟩ := cx
    refine Or.inr ⟨q0 + 2, 10 * (ch q0 - 48) + (ch (q0 + 1) - 48), by omega, by omega, by omega, fun w => by omega, fun cs t s h g1 p g hT hs g0 hR => ?_⟩
    obtain ⟨h', e1, e2, e3⟩ := H cs t s h hT hs
    have z := hT.2 q0 c.1
    have z1 := hT.2 (q0 + 1) x2
    obtain ⟨g2, t1, t2, t3, t4⟩ := T_second_yes (g := g1) (c := ch q0) g0 (by omega) c.2.2
    obtain ⟨g3, u1, u2, u3, u4⟩ := T_more2 (g := g2) (a := ch q0 - 48) (c := ch (q0 + 1)) t2 t3 (by omega) z1.2.2.2 (by omega)
    rw [if_pos ⟨x3, x4, x1, x5⟩] at u1
    refine ⟨h', g3, e1, e2, e3, RdC_st (RdC_st hR (ch59 hT c.1 (by omega)) (by rw [z.1]; exact t1)) (ch59 hT x2 (by omega)) (by rw [z1.1]; exact u1), u2, u3 x3, fun k k0 k4 => by rw [u4 k k4, t4 k k0 k4]⟩
  · refine Or.inr ⟨q0 + 1, ch q0 - 48, by omega, by omega, by omega, fun w => cx ⟨w.2.2.2.1, w.1, w.2.1, w.2.2.1, w.2.2.2.2⟩, fun cs t s h g1 p g hT hs g0 hR => ?_⟩
    obtain ⟨h', e1, e2, e3⟩ := H cs t s h hT hs
    have z := hT.2 q0 c.1
    obtain ⟨g2, t1, t2, t3, t4⟩ := T_second_yes (g := g1) (c := ch q0) g0 (by omega) c.2.2
    exact ⟨h', g2, e1, e2, e3, RdC_st hR (ch59 hT c.1 (by omega)) (by rw [z.1]; exact t1), t2, t3, t4⟩
end ORDER
