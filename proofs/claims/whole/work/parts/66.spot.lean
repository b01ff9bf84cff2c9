/-! MATHEMATICS, 42: how the reference reads files, marks and numbers. -/
section SPOT
/-- the text: n characters, ch -/
def TX (cs t : Nat → Int32) (n : Nat) (ch : Nat → Nat) : Prop := n ≤ 80 ∧ ∀ i, i < n → cs i = nI (ch i) ∧ t i = nI (ch i) ∧ 32 ≤ ch i ∧ ch i ≤ 126
/-- where the reference stands -/
def Sp (h : Nat → Int32) (n p : Nat) : Prop := h 2 = nI n ∧ h 3 = nI p
variable {s t cs h : Nat → Int32} {n p : Nat} {ch : Nat → Nat}
theorem M_isHere (hT : TX cs t n ch) (hs : Sp h n p) (hp : p ≤ n) {lo hi : Nat} (hlo : lo < 2 ^ 31) (hhi : hi < 2 ^ 31) : f_X6_isHere s t h (nI lo) (nI hi) = some (if p < n ∧ lo ≤ ch p ∧ ch p ≤ hi then 1 else 0) := by
  have h80 := hT.1
  unfold f_X6_isHere
  rw [hs.1, hs.2]
  by_cases c : p < n
  · have z := hT.2 p c
    rw [if_neg (nI_ge c (by omega)), if_pos ⟨nI_pos' (by omega), by rw [nI_clamp (by omega)]; omega⟩, nI_clamp (by omega), z.2.1, M_in_n (by omega) hlo hhi, gb_some]
    by_cases q : lo ≤ ch p ∧ ch p ≤ hi
    · rw [if_pos q, if_neg n10, if_pos ⟨c, q⟩]
    · rw [if_neg q, if_pos rfl, if_neg (fun w => q w.2)]
  · rw [if_pos (nI_le (by omega) (by omega)), if_neg (fun w => c w.1)]
theorem M_mark_yes (hT : TX cs t n ch) (hs : Sp h n p) (hp : p < n) {c : Nat} (hc : c ≤ 126) (e : ch p = c) : ∃ h', f_X6_takes s t h (nI c) = some (1, h') ∧ Sp h' n (p + 1) ∧ ∀ k, k ≠ 3 → h' k = h k := by
  have h80 := hT.1
  refine ⟨upd h 3 (nI (p + 1)), ?_, ⟨by rw [upd_ne _ _ (by decide)]; exact hs.1, upd_eq _ _ _⟩, fun k hk => upd_ne _ _ hk⟩
  unfold f_X6_takes
  rw [M_isHere hT hs (by omega) (by omega) (by omega), if_pos ⟨hp, by omega, by omega⟩, gb_some, M_flag1, gb_some, hs.2, nI_1, glet_eq, if_pos (Or.inr rfl)]
theorem M_mark_no (hT : TX cs t n ch) (hs : Sp h n p) (hp : p ≤ n) {c : Nat} (hc : c ≤ 126) (e : ¬ (p < n ∧ ch p = c)) : ∃ h', f_X6_takes s t h (nI c) = some (0, h') ∧ Sp h' n p ∧ ∀ k, k ≠ 3 → h' k = h k := by
  have h80 := hT.1
  refine ⟨upd h 3 (nI (p + 0)), ?_, ⟨by rw [upd_ne _ _ (by decide)]; exact hs.1, upd_eq _ _ _⟩, fun k hk => upd_ne _ _ hk⟩
  unfold f_X6_takes
  rw [M_isHere hT hs hp (by omega) (by omega), if_neg (fun w => e ⟨w.1, by omega⟩), gb_some, M_flag0, gb_some, hs.2, show nI p + 0 = nI (p + 0) from nI_add p 0, glet_eq, if_pos (Or.inl rfl)]
theorem M_file_yes (hT : TX cs t n ch) (hs : Sp h n p) (hp : p < n) (h1 : 48 ≤ ch p) (h2 : ch p ≤ 55) : ∃ h', f_X6_readsFile s t h = some (1, h') ∧ Sp h' n (p + 1) ∧ h' 5 = nI (ch p - 48) ∧ ∀ k, k ≠ 3 → k ≠ 5 → h' k = h k := by
  have h80 := hT.1
  have z := hT.2 p hp
  have e0 : f_X6_isHere s t h 48 55 = some 1 := by
    have := M_isHere (s := s) hT hs (by omega) (lo := 48) (hi := 55) (by decide) (by decide)
    rw [if_pos ⟨hp, h1, h2⟩] at this; exact this
  have e5 : upd h 5 (nI (ch p - 48)) 5 = nI (ch p - 48) := upd_eq _ _ _
  have e3 : upd h 5 (nI (ch p - 48)) 3 = nI p := by rw [upd_ne _ _ (by decide)]; exact hs.2
  refine ⟨upd (upd h 5 (nI (ch p - 48))) 3 (nI (p + 1)), ?_, ⟨by rw [upd_ne _ _ (by decide), upd_ne _ _ (by decide)]; exact hs.1, upd_eq _ _ _⟩, by rw [upd_ne _ _ (by decide), upd_eq], fun k k3 k5 => by rw [upd_ne _ _ k3, upd_ne _ _ k5]⟩
  unfold f_X6_readsFile
  rw [e0, gb_some, if_neg n10, hs.2, if_pos ⟨nI_pos' (by omega), by rw [nI_clamp (by omega)]; omega⟩, nI_clamp (by omega), z.2.1, sub48 h1, glet_eq, e5, if_neg (nI_m5 (by omega)), M_flag1, gb_some, e3, nI_1, glet_eq, upd_ne (k := 3) (i := 5) _ _ (by decide), e5, if_neg (nI_m5 (by omega))]
theorem M_file_no (hT : TX cs t n ch) (hs : Sp h n p) (hp : p ≤ n) (hn : ¬ (p < n ∧ 48 ≤ ch p ∧ ch p ≤ 55)) : ∃ h', f_X6_readsFile s t h = some (0, h') ∧ Sp h' n p ∧ ∀ k, k ≠ 3 → k ≠ 5 → h' k = h k := by
  have e0 : f_X6_isHere s t h 48 55 = some 0 := by
    have := M_isHere (s := s) hT hs hp (lo := 48) (hi := 55) (by decide) (by decide)
    rw [if_neg hn] at this; exact this
  have e3 : upd h 5 (-5) 3 = nI p := by rw [upd_ne _ _ (by decide)]; exact hs.2
  refine ⟨upd (upd h 5 (-5)) 3 (nI (p + 0)), ?_, ⟨by rw [upd_ne _ _ (by decide), upd_ne _ _ (by decide)]; exact hs.1, upd_eq _ _ _⟩, fun k k3 k5 => by rw [upd_ne _ _ k3, upd_ne _ _ k5]⟩
  unfold f_X6_readsFile
  rw [e0, gb_some, if_pos rfl, glet_eq, upd_eq, if_pos rfl, M_flag0, gb_some, e3, show nI p + 0 = nI (p + 0) from nI_add p 0, glet_eq, upd_ne (k := 3) (i := 5) _ _ (by decide), upd_eq, if_pos rfl]
/-- whether the number that begins at p goes on -/
def nmX (n p top : Nat) (ch : Nat → Nat) : Prop := 0 < ch p - 48 ∧ p + 1 < n ∧ 48 ≤ ch (p + 1) ∧ ch (p + 1) ≤ 57 ∧ 10 * (ch p - 48) + (ch (p + 1) - 48) ≤ top
theorem M_num_none (least top : Int32) (fu : Nat) : f_X6_number_L22 s t least top (fu + 1) (-5) 0 h = some (-5, h) := by
  rw [f_X6_number_L22, if_pos rfl]
theorem M_num_one (hT : TX cs t n ch) (hs : Sp h n p) (hp : p < n) (h1 : 48 ≤ ch p) (h2 : ch p ≤ 57) {top : Nat} (ht : top ≤ 99) (hx : ¬ nmX n p top ch) (least : Int32) (fu : Nat) : ∃ h', f_X6_number_L22 s t least (nI top) (fu + 2) (-5) 1 h = some (nI (ch p - 48), h') ∧ Sp h' n (p + 1) ∧ ∀ k, k ≠ 3 → h' k = h k := by
  have h80 := hT.1
  have z := hT.2 p hp
  have hs' : Sp (upd h 3 (nI (p + 1))) n (p + 1) := ⟨by rw [upd_ne _ _ (by decide)]; exact hs.1, upd_eq _ _ _⟩
  refine ⟨upd h 3 (nI (p + 1)), ?_, hs', fun k hk => upd_ne _ _ hk⟩
  have done : ∀ y : Nat → Int32, f_X6_number_L22 s t least (nI top) (fu + 1) (nI (ch p - 48)) 0 y = some (nI (ch p - 48), y) := fun y => by rw [f_X6_number_L22, if_pos rfl]
  rw [f_X6_number_L22, if_neg n10, if_pos rfl, hs.2, if_pos ⟨nI_pos' (by omega), by rw [nI_clamp (by omega)]; omega⟩, nI_clamp (by omega), z.2.1, sub48 h1, glet_eq, nI_1, glet_eq, done]
  by_cases c0 : ch p - 48 = 0
  · rw [if_pos (show nI (ch p - 48) ≤ 0 by rw [c0]; decide)]
  · have e0 := M_isHere (s := s) hT hs' (by omega) (lo := 48) (hi := 57) (by decide) (by decide)
    have e0' : f_X6_isHere s t (upd h 3 (nI (p + 1))) 48 57 = some (if p + 1 < n ∧ 48 ≤ ch (p + 1) ∧ ch (p + 1) ≤ 57 then 1 else 0) := e0
    rw [if_neg (nI_nle (by omega) (by omega)), e0', gb_some]
    by_cases c1 : p + 1 < n ∧ 48 ≤ ch (p + 1) ∧ ch (p + 1) ≤ 57
    · have z1 := hT.2 (p + 1) c1.1
      have e10 : (10 : Int32) * nI (ch p - 48) = nI (10 * (ch p - 48)) := nI_mul 10 _
      have c2 : top < 10 * (ch p - 48) + (ch (p + 1) - 48) := by
        by_cases q : 10 * (ch p - 48) + (ch (p + 1) - 48) ≤ top
        · exact absurd ⟨by omega, c1.1, c1.2.1, c1.2.2, q⟩ hx
        · omega
      rw [if_pos c1, if_neg n10, upd_eq, if_pos ⟨nI_pos' (by omega), by rw [nI_clamp (by omega)]; omega⟩, nI_clamp (by omega), z1.2.1, e10, nI_add, sub48 (by omega), if_pos (nI_lt (by omega) (by omega))]
    · rw [if_neg c1, if_pos rfl]
theorem M_num_two (hT : TX cs t n ch) (hs : Sp h n p) (hp : p < n) (h1 : 48 ≤ ch p) (h2 : ch p ≤ 57) {top : Nat} (ht : top ≤ 99) (hx : nmX n p top ch) (least : Int32) (fu : Nat) : ∃ h', f_X6_number_L22 s t least (nI top) (fu + 3) (-5) 1 h = some (nI (10 * (ch p - 48) + (ch (p + 1) - 48)), h') ∧ Sp h' n (p + 2) ∧ ∀ k, k ≠ 3 → h' k = h k := by
  obtain ⟨x1, x2, x3, x4, x5⟩ := hx
  have h80 := hT.1
  have z := hT.2 p hp
  have z1 := hT.2 (p + 1) x2
  have hs' : Sp (upd h 3 (nI (p + 1))) n (p + 1) := ⟨by rw [upd_ne _ _ (by decide)]; exact hs.1, upd_eq _ _ _⟩
  have hs'' : Sp (upd (upd h 3 (nI (p + 1))) 3 (nI (p + 1 + 1))) n (p + 1 + 1) := ⟨by rw [upd_ne _ _ (by decide), upd_ne _ _ (by decide)]; exact hs.1, upd_eq _ _ _⟩
  refine ⟨upd (upd h 3 (nI (p + 1))) 3 (nI (p + 1 + 1)), ?_, hs'', fun k hk => by rw [upd_ne _ _ hk, upd_ne _ _ hk]⟩
  have e10 : (10 : Int32) * nI (ch p - 48) = nI (10 * (ch p - 48)) := nI_mul 10 _
  have e0 : f_X6_isHere s t (upd h 3 (nI (p + 1))) 48 57 = some 1 := by
    have := M_isHere (s := s) hT hs' (by omega) (lo := 48) (hi := 57) (by decide) (by decide)
    rw [if_pos ⟨x2, x3, x4⟩] at this; exact this
  have first : f_X6_number_L22 s t least (nI top) (fu + 3) (-5) 1 h = f_X6_number_L22 s t least (nI top) (fu + 2) (nI (ch p - 48)) 1 (upd h 3 (nI (p + 1))) := by
    rw [f_X6_number_L22, if_neg n10, if_pos rfl, hs.2, if_pos ⟨nI_pos' (by omega), by rw [nI_clamp (by omega)]; omega⟩, nI_clamp (by omega), z.2.1, sub48 h1, glet_eq, nI_1, glet_eq, if_neg (nI_nle x1 (by omega)), e0, gb_some, if_neg n10, upd_eq, if_pos ⟨nI_pos' (by omega), by rw [nI_clamp (by omega)]; omega⟩, nI_clamp (by omega), z1.2.1, e10, nI_add, sub48 (by omega), if_neg (nI_nlt (by omega) (by omega))]
  have done : ∀ (v : Int32) (y : Nat → Int32), f_X6_number_L22 s t least (nI top) (fu + 1) v 0 y = some (v, y) := fun v y => by rw [f_X6_number_L22, if_pos rfl]
  have ev : 10 * (ch p - 48) + ch (p + 1) - 48 = 10 * (ch p - 48) + (ch (p + 1) - 48) := by omega
  rw [first, f_X6_number_L22, if_neg n10, if_neg (nI_m5 (by omega)), upd_eq, if_pos ⟨nI_pos' (by omega), by rw [nI_clamp (by omega)]; omega⟩, nI_clamp (by omega), z1.2.1, e10, nI_add, sub48 (by omega), ev, glet_eq, nI_1, glet_eq, done, if_neg (nI_nle (by omega) (by omega))]
  have e1 := M_isHere (s := s) hT hs'' (by omega) (lo := 48) (hi := 57) (by decide) (by decide)
  have e1' : f_X6_isHere s t (upd (upd h 3 (nI (p + 1))) 3 (nI (p + 1 + 1))) 48 57 = some (if p + 1 + 1 < n ∧ 48 ≤ ch (p + 1 + 1) ∧ ch (p + 1 + 1) ≤ 57 then 1 else 0) := e1
  rw [e1', gb_some]
  by_cases c1 : p + 1 + 1 < n ∧ 48 ≤ ch (p + 1 + 1) ∧ ch (p + 1 + 1) ≤ 57
  · have z2 := hT.2 (p + 1 + 1) c1.1
    have e10' : (10 : Int32) * nI (10 * (ch p - 48) + (ch (p + 1) - 48)) = nI (10 * (10 * (ch p - 48) + (ch (p + 1) - 48))) := nI_mul 10 _
    rw [if_pos c1, if_neg n10, upd_eq, if_pos ⟨nI_pos' (by omega), by rw [nI_clamp (by omega)]; omega⟩, nI_clamp (by omega), z2.2.1, e10', nI_add, sub48 (by omega), if_pos (nI_lt (by omega) (by omega))]
  · rw [if_neg c1, if_pos rfl]
end SPOT
