/-! MATHEMATICS, 41: the reader of orders, a character at a time. -/
section READER
variable {g : Nat → Int32}
theorem nI_sub_lt {a b : Nat} (h : a < b) (hb : b < 2 ^ 31) : nI a - nI b < 0 := by
  rw [Int32.lt_iff_toInt_lt, Int32.toInt_sub, nI_toInt (show a < 2 ^ 31 by omega), nI_toInt hb, Int.bmod_eq_of_le_mul_two (by omega) (by omega)]
  have e : (0 : Int32).toInt = 0 := by decide
  omega
theorem nI_lit_ne {a b : Nat} (ha : a < 2 ^ 31) (hb : b < 2 ^ 31) (h : a ≠ b) : ¬ nI a = nI b := fun q => h ((nI_eq ha hb).1 q)
theorem sub48 {c : Nat} (h : 48 ≤ c) : nI c - 48 = nI (c - 48) := nI_sub (b := 48) h
theorem sub48_ng {c : Nat} (h : c < 48) : nI c - 48 < 0 := nI_sub_lt (b := 48) h (by decide)
/-- whether a script may end here -/
def wh (g : Nat → Int32) : Prop := f_X2_isWhole g = some 1
def nwh (g : Nat → Int32) : Prop := f_X2_isWhole g = some 0
theorem wh_7 (h : g 0 = 7) : wh g := by
  unfold wh f_X2_isWhole
  rw [h, if_pos rfl]
theorem wh_6 (h : g 0 = 6) : wh g := by
  unfold wh f_X2_isWhole
  rw [h, if_neg (by decide), if_pos rfl]
theorem wh_4 (h : g 0 = 4) (h1 : g 1 = 116) : wh g := by
  unfold wh f_X2_isWhole
  rw [h, if_neg (by decide), if_neg (by decide), if_pos rfl, h1, if_pos rfl]
theorem nwh_4 (h : g 0 = 4) (h1 : g 1 = 97) : nwh g := by
  unfold nwh f_X2_isWhole
  rw [h, if_neg (by decide), if_neg (by decide), if_pos rfl, h1, if_neg (by decide)]
theorem nwh_low {k : Nat} (h : g 0 = nI k) (hk : k = 0 ∨ k = 1 ∨ k = 2 ∨ k = 3 ∨ k = 5) : nwh g := by
  unfold nwh f_X2_isWhole
  rw [h]
  rcases hk with e | e | e | e | e <;> subst e <;> rw [if_neg (by decide), if_neg (by decide), if_neg (by decide)]
theorem semi_no (h : nwh g) : ∃ g', f_X2_takes g (nI 59) = some (0, g') := by
  have h' : f_X2_isWhole g = some 0 := h
  refine ⟨upd g 0 (g 0), ?_⟩
  unfold f_X2_takes
  rw [if_pos (show nI 59 = 59 from rfl), h', gb_some, if_pos rfl, glet_eq, if_pos (Or.inl rfl)]
theorem semi_yes (h : wh g) : ∃ g', f_X2_takes g (nI 59) = some (1, g') ∧ g' 0 = 0 := by
  have h' : f_X2_isWhole g = some 1 := h
  refine ⟨upd g 0 0, ?_, upd_eq _ _ _⟩
  unfold f_X2_takes
  rw [if_pos (show nI 59 = 59 from rfl), h', gb_some, if_neg n10, glet_eq, if_pos (Or.inr rfl)]
/-- what is taken at a step, where the character is no semicolon -/
theorem takes_at {k c : Nat} (h : g 0 = nI k) (hk : k < 7) (hc : c ≤ 126) (h59 : c ≠ 59) {r : Int32} {g' : Nat → Int32} (hr : r = 0 ∨ r = 1) (e : (if k = 0 then f_X2_takesLetter g (nI c) else if k = 1 then f_X2_takesFile g (nI c) else if k = 2 then f_X2_takesMark g (nI c) 58 3 else if k = 3 then f_X2_takesFirst g (nI c) else if k = 4 then f_X2_takesMoreOfFirst g (nI c) else if k = 5 then f_X2_takesSecond g (nI c) else f_X2_takesMoreOfSecond g (nI c)) = some (r, g')) : f_X2_takes g (nI c) = some (r, g') := by
  unfold f_X2_takes
  rw [if_neg (show ¬ nI c = 59 from nI_lit_ne (b := 59) (by omega) (by decide) h59), h]
  rcases (show k = 0 ∨ k = 1 ∨ k = 2 ∨ k = 3 ∨ k = 4 ∨ k = 5 ∨ k = 6 by omega) with z | z | z | z | z | z | z
  · subst z
    rw [if_pos rfl] at e
    rw [if_pos (show nI 0 = 0 from rfl), e, gbb2_some, if_pos hr]
  · subst z
    rw [if_neg (by decide), if_pos rfl] at e
    rw [if_neg (show ¬ nI 1 = 0 by decide), if_pos (show nI 1 = 1 from rfl), e, gbb2_some, if_pos hr]
  · subst z
    rw [if_neg (by decide), if_neg (by decide), if_pos rfl] at e
    rw [if_neg (show ¬ nI 2 = 0 by decide), if_neg (show ¬ nI 2 = 1 by decide), if_pos (show nI 2 = 2 from rfl), e, gbb2_some, if_pos hr]
  · subst z
    rw [if_neg (by decide), if_neg (by decide), if_neg (by decide), if_pos rfl] at e
    rw [if_neg (show ¬ nI 3 = 0 by decide), if_neg (show ¬ nI 3 = 1 by decide), if_neg (show ¬ nI 3 = 2 by decide), if_pos (show nI 3 = 3 from rfl), e, gbb2_some, if_pos hr]
  · subst z
    rw [if_neg (by decide), if_neg (by decide), if_neg (by decide), if_neg (by decide), if_pos rfl] at e
    rw [if_neg (show ¬ nI 4 = 0 by decide), if_neg (show ¬ nI 4 = 1 by decide), if_neg (show ¬ nI 4 = 2 by decide), if_neg (show ¬ nI 4 = 3 by decide), if_pos (show nI 4 = 4 from rfl), e, gbb2_some, if_pos hr]
  · subst z
    rw [if_neg (by decide), if_neg (by decide), if_neg (by decide), if_neg (by decide), if_neg (by decide), if_pos rfl] at e
    rw [if_neg (show ¬ nI 5 = 0 by decide), if_neg (show ¬ nI 5 = 1 by decide), if_neg (show ¬ nI 5 = 2 by decide), if_neg (show ¬ nI 5 = 3 by decide), if_neg (show ¬ nI 5 = 4 by decide), if_pos (show nI 5 = 5 from rfl), e, gbb2_some, if_pos hr]
  · subst z
    rw [if_neg (by decide), if_neg (by decide), if_neg (by decide), if_neg (by decide), if_neg (by decide), if_neg (by decide)] at e
    rw [if_neg (show ¬ nI 6 = 0 by decide), if_neg (show ¬ nI 6 = 1 by decide), if_neg (show ¬ nI 6 = 2 by decide), if_neg (show ¬ nI 6 = 3 by decide), if_neg (show ¬ nI 6 = 4 by decide), if_neg (show ¬ nI 6 = 5 by decide), if_pos (show nI 6 = 6 from rfl), e, gbb2_some, if_pos hr]
/-- after an order without more, nothing but a semicolon -/
theorem T_end {c : Nat} (h : g 0 = 7) (hc : c ≤ 126) (h59 : c ≠ 59) : ∃ g', f_X2_takes g (nI c) = some (0, g') := by
  refine ⟨g, ?_⟩
  unfold f_X2_takes
  rw [if_neg (show ¬ nI c = 59 from nI_lit_ne (b := 59) (by omega) (by decide) h59), h, if_neg (by decide), if_neg (by decide), if_neg (by decide), if_neg (by decide), if_neg (by decide), if_neg (by decide), if_neg (by decide)]
-- the letter
theorem T_one {c : Nat} (h : g 0 = 0) (hl : c = 33 ∨ c = 109 ∨ c = 110) : ∃ g', f_X2_takes g (nI c) = some (1, g') ∧ g' 0 = 7 ∧ g' 1 = nI c := by
  refine ⟨upd (upd g 1 (nI c)) 0 7, takes_at (k := 0) h (by decide) (by omega) (by omega) (Or.inr rfl) ?_, upd_eq _ _ _, by rw [upd_ne _ _ (by decide), upd_eq]⟩
  rw [if_pos rfl]
  unfold f_X2_takesLetter
  rcases hl with e | e | e <;> subst e <;> rfl
theorem T_two {c : Nat} (h : g 0 = 0) (hl : c = 97 ∨ c = 100 ∨ c = 111 ∨ c = 115 ∨ c = 116 ∨ c = 120) : ∃ g', f_X2_takes g (nI c) = some (1, g') ∧ g' 0 = 1 ∧ g' 1 = nI c := by
  refine ⟨upd (upd g 1 (nI c)) 0 1, takes_at (k := 0) h (by decide) (by omega) (by omega) (Or.inr rfl) ?_, upd_eq _ _ _, by rw [upd_ne _ _ (by decide), upd_eq]⟩
  rw [if_pos rfl]
  unfold f_X2_takesLetter
  rcases hl with e | e | e | e | e | e <;> subst e <;> rfl
theorem T_letter_no {c : Nat} (h : g 0 = 0) (hc : c ≤ 126) (hl : ¬ (c = 33 ∨ c = 109 ∨ c = 110)) (hl2 : ¬ (c = 97 ∨ c = 100 ∨ c = 111 ∨ c = 115 ∨ c = 116 ∨ c = 120)) : ∃ g', f_X2_takes g (nI c) = some (0, g') := by
  by_cases h59 : c = 59
  · subst h59; exact semi_no (nwh_low (k := 0) h (Or.inl rfl))
  · refine ⟨upd g 1 (nI c), takes_at (k := 0) h (by decide) hc h59 (Or.inl rfl) ?_⟩
    rw [if_pos rfl]
    unfold f_X2_takesLetter
    rw [glet_eq, if_neg (show ¬ nI c = 33 from nI_lit_ne (b := 33) (by omega) (by decide) (by omega)), if_neg (show ¬ nI c = 97 from nI_lit_ne (b := 97) (by omega) (by decide) (by omega)), if_neg (show ¬ nI c = 100 from nI_lit_ne (b := 100) (by omega) (by decide) (by omega)), if_neg (show ¬ nI c = 109 from nI_lit_ne (b := 109) (by omega) (by decide) (by omega)), if_neg (show ¬ nI c = 110 from nI_lit_ne (b := 110) (by omega) (by decide) (by omega)), if_neg (show ¬ nI c = 111 from nI_lit_ne (b := 111) (by omega) (by decide) (by omega)), if_neg (show ¬ nI c = 115 from nI_lit_ne (b := 115) (by omega) (by decide) (by omega)), if_neg (show ¬ nI c = 116 from nI_lit_ne (b := 116) (by omega) (by decide) (by omega)), if_neg (show ¬ nI c = 120 from nI_lit_ne (b := 120) (by omega) (by decide) (by omega))]
-- the file
theorem T_file_yes {c : Nat} (h : g 0 = 1) (h1 : 48 ≤ c) (h2 : c ≤ 55) : ∃ g', f_X2_takes g (nI c) = some (1, g') ∧ g' 0 = (if g 1 = 97 ∨ g 1 = 116 then 2 else 7) ∧ g' 1 = g 1 ∧ g' 2 = nI (c - 48) := by
  have w : ∀ st : Int32, (if upd (upd g 2 (nI (c - 48))) 0 st 2 < 0 then some ((0 : Int32), upd (upd g 2 (nI (c - 48))) 0 st) else if 8 ≤ upd (upd g 2 (nI (c - 48))) 0 st 2 then some (0, upd (upd g 2 (nI (c - 48))) 0 st) else some (1, upd (upd g 2 (nI (c - 48))) 0 st)) = some (1, upd (upd g 2 (nI (c - 48))) 0 st) := fun st => by
    rw [upd_ne _ _ (by decide), upd_eq, if_neg (nI_pos (by omega)), if_neg (show ¬ (8 : Int32) ≤ nI (c - 48) from nI_ge (b := 8) (by omega) (by decide))]
  refine ⟨upd (upd g 2 (nI (c - 48))) 0 (if g 1 = 97 ∨ g 1 = 116 then 2 else 7), takes_at (k := 1) h (by decide) (by omega) (by omega) (Or.inr rfl) ?_, upd_eq _ _ _, by rw [upd_ne _ _ (by decide), upd_ne _ _ (by decide)], by rw [upd_ne _ _ (by decide), upd_eq]⟩
  rw [if_neg (by decide), if_pos rfl]
  unfold f_X2_takesFile
  rw [sub48 h1, glet_eq, upd_ne (k := 2) (i := 1) _ _ (by decide)]
  by_cases c1 : g 1 = 97
  · rw [if_pos c1, if_pos (Or.inl c1), glet_eq, w]
  · by_cases c2 : g 1 = 116
    · rw [if_neg c1, if_pos c2, if_pos (Or.inr c2), glet_eq, w]
    · rw [if_neg c1, if_neg c2, if_neg (fun q => q.elim c1 c2), glet_eq, w]
theorem T_file_no {c : Nat} (h : g 0 = 1) (hc : c ≤ 126) (hn : ¬ (48 ≤ c ∧ c ≤ 55)) : ∃ g', f_X2_takes g (nI c) = some (0, g') := by
  by_cases h59 : c = 59
  · subst h59; exact semi_no (nwh_low (k := 1) h (Or.inr (Or.inl rfl)))
  · have w : ∀ st : Int32, (if upd (upd g 2 (nI c - 48)) 0 st 2 < 0 then some ((0 : Int32), upd (upd g 2 (nI c - 48)) 0 st) else if 8 ≤ upd (upd g 2 (nI c - 48)) 0 st 2 then some (0, upd (upd g 2 (nI c - 48)) 0 st) else some (1, upd (upd g 2 (nI c - 48)) 0 st)) = some (0, upd (upd g 2 (nI c - 48)) 0 st) := fun st => by
      rw [upd_ne _ _ (by decide), upd_eq]
      by_cases c1 : c < 48
      · rw [if_pos (sub48_ng c1)]
      · rw [sub48 (by omega), if_neg (nI_pos (by omega)), if_pos (show (8 : Int32) ≤ nI (c - 48) from nI_le (a := 8) (by omega) (by omega))]
    refine ⟨upd (upd g 2 (nI c - 48)) 0 (if g 1 = 97 ∨ g 1 = 116 then 2 else 7), takes_at (k := 1) h (by decide) hc h59 (Or.inl rfl) ?_⟩
    rw [if_neg (by decide), if_pos rfl]
    unfold f_X2_takesFile
    rw [glet_eq, upd_ne (k := 2) (i := 1) _ _ (by decide)]
    by_cases c1 : g 1 = 97
    · rw [if_pos c1, if_pos (Or.inl c1), glet_eq, w]
    · by_cases c2 : g 1 = 116
      · rw [if_neg c1, if_pos c2, if_pos (Or.inr c2), glet_eq, w]
      · rw [if_neg c1, if_neg c2, if_neg (fun q => q.elim c1 c2), glet_eq, w]
-- the colon
theorem T_colon (h : g 0 = 2) : ∃ g', f_X2_takes g (nI 58) = some (1, g') ∧ g' 0 = 3 ∧ ∀ k, k ≠ 0 → g' k = g k := by
  refine ⟨upd g 0 3, takes_at (k := 2) h (by decide) (by decide) (by decide) (Or.inr rfl) ?_, upd_eq _ _ _, fun k hk => upd_ne _ _ hk⟩
  rfl
theorem T_colon_no {c : Nat} (h : g 0 = 2) (hc : c ≤ 126) (hn : c ≠ 58) : ∃ g', f_X2_takes g (nI c) = some (0, g') := by
  by_cases h59 : c = 59
  · subst h59; exact semi_no (nwh_low (k := 2) h (by omega))
  · refine ⟨upd g 0 3, takes_at (k := 2) h (by decide) hc h59 (Or.inl rfl) ?_⟩
    rw [if_neg (by decide), if_neg (by decide), if_pos rfl]
    unfold f_X2_takesMark
    rw [glet_eq, if_neg (show ¬ nI c = 58 from nI_lit_ne (b := 58) (by omega) (by decide) hn)]
-- the numbers
theorem T_isMore {a c top : Nat} (ha : a ≤ 99) (hc : c ≤ 126) (ht : top ≤ 99) : f_X2_isMore (nI a) (nI c) (nI top) = some (if 48 ≤ c ∧ c ≤ 57 ∧ 0 < a ∧ 10 * a + (c - 48) ≤ top then 1 else 0) := by
  unfold f_X2_isMore
  rw [glet_eq]
  by_cases c1 : c < 48
  · rw [if_pos (sub48_ng c1), if_neg (fun q => by omega)]
  · rw [sub48 (by omega), if_neg (nI_pos (by omega))]
    by_cases c2 : 57 < c
    · rw [if_pos (show (9 : Int32) < nI (c - 48) from nI_lt (a := 9) (by omega) (by omega)), if_neg (fun q => by omega)]
    · rw [if_neg (show ¬ (9 : Int32) < nI (c - 48) from nI_nlt (a := 9) (by omega) (by decide))]
      by_cases c3 : a = 0
      · rw [c3, if_pos (show nI 0 ≤ 0 by decide), if_neg (fun q => by omega)]
      · have e : (10 : Int32) * nI a = nI (10 * a) := nI_mul 10 a
        rw [if_neg (nI_nle (by omega) (by omega)), e, nI_add]
        by_cases c4 : top < 10 * a + (c - 48)
        · rw [if_pos (nI_lt c4 (by omega)), if_neg (fun q => by omega)]
        · rw [if_neg (nI_nlt (by omega) (by omega)), if_pos ⟨by omega, by omega, by omega, by omega⟩]
theorem T_first_yes {c : Nat} (h : g 0 = 3) (h1 : 48 ≤ c) (h2 : c ≤ 57) (h3 : g 1 = 97 → 49 ≤ c) : ∃ g', f_X2_takes g (nI c) = some (1, g') ∧ g' 0 = 4 ∧ g' 3 = nI (c - 48) ∧ ∀ k, k ≠ 0 → k ≠ 3 → g' k = g k := by
  refine ⟨upd (upd g 3 (nI (c - 48))) 0 4, takes_at (k := 3) h (by decide) (by omega) (by omega) (Or.inr rfl) ?_, upd_eq _ _ _, by rw [upd_ne _ _ (by decide), upd_eq], fun k k0 k3 => by rw [upd_ne _ _ k0, upd_ne _ _ k3]⟩
  rw [if_neg (by decide), if_neg (by decide), if_neg (by decide), if_pos rfl]
  unfold f_X2_takesFirst
  have e1 : upd (upd g 3 (nI (c - 48))) 0 4 1 = g 1 := by rw [upd_ne _ _ (by decide), upd_ne _ _ (by decide)]
  have e3 : upd (upd g 3 (nI (c - 48))) 0 4 3 = nI (c - 48) := by rw [upd_ne _ _ (by decide), upd_eq]
  have l9 : ¬ (9 : Int32) < nI (c - 48) := nI_nlt (a := 9) (by omega) (by decide)
  rw [sub48 h1, glet_eq, glet_eq, e1, e3]
  by_cases c1 : g 1 = 97
  · have := h3 c1
    rw [if_pos c1, if_neg (show ¬ nI (c - 48) < 1 from nI_nlt (b := 1) (by omega) (by omega)), if_neg l9]
  · rw [if_neg c1, if_neg (nI_pos (by omega)), if_neg l9]
theorem T_first_no {c : Nat} (h : g 0 = 3) (hc : c ≤ 126) (hn : ¬ (48 ≤ c ∧ c ≤ 57 ∧ (g 1 = 97 → 49 ≤ c))) : ∃ g', f_X2_takes g (nI c) = some (0, g') := by
  by_cases h59 : c = 59
  · subst h59; exact semi_no (nwh_low (k := 3) h (by omega))
  · refine ⟨upd (upd g 3 (nI c - 48)) 0 4, takes_at (k := 3) h (by decide) hc h59 (Or.inl rfl) ?_⟩
    rw [if_neg (by decide), if_neg (by decide), if_neg (by decide), if_pos rfl]
    unfold f_X2_takesFirst
    have e1 : upd (upd g 3 (nI c - 48)) 0 4 1 = g 1 := by rw [upd_ne _ _ (by decide), upd_ne _ _ (by decide)]
    have e3 : upd (upd g 3 (nI c - 48)) 0 4 3 = nI c - 48 := by rw [upd_ne _ _ (by decide), upd_eq]
    rw [glet_eq, glet_eq, e1, e3]
    by_cases c0 : c < 48
    · have l0 := sub48_ng c0
      by_cases c1 : g 1 = 97
      · rw [if_pos c1, if_pos (show nI c - 48 < 1 from ng_lt (j := 1) l0 (by decide))]
      · rw [if_neg c1, if_pos l0]
    · rw [sub48 (by omega)]
      by_cases c9 : 57 < c
      · have l9 : (9 : Int32) < nI (c - 48) := nI_lt (a := 9) (by omega) (by omega)
        by_cases c1 : g 1 = 97
        · rw [if_pos c1, if_neg (show ¬ nI (c - 48) < 1 from nI_nlt (b := 1) (by omega) (by omega)), if_pos l9]
        · rw [if_neg c1, if_neg (nI_pos (by omega)), if_pos l9]
      · have c1 : g 1 = 97 := by
          by_cases c1 : g 1 = 97
          · exact c1
          · exact absurd ⟨by omega, by omega, fun q => absurd q c1⟩ hn
        have c2 : c = 48 := by
          by_cases c2 : c = 48
          · exact c2
          · exact absurd ⟨by omega, by omega, fun _ => by omega⟩ hn
        rw [if_pos c1, c2, if_pos (show nI (48 - 48) < 1 by decide)]
theorem T_equals (h : g 0 = 4) (h1 : g 1 = 97) : ∃ g', f_X2_takes g (nI 61) = some (1, g') ∧ g' 0 = 5 ∧ ∀ k, k ≠ 0 → g' k = g k := by
  refine ⟨upd g 0 5, takes_at (k := 4) h (by decide) (by decide) (by decide) (Or.inr rfl) ?_, upd_eq _ _ _, fun k hk => upd_ne _ _ hk⟩
  rw [if_neg (by decide), if_neg (by decide), if_neg (by decide), if_neg (by decide), if_pos rfl]
  unfold f_X2_takesMoreOfFirst
  rw [if_pos h1, if_pos (show nI 61 = 61 from rfl)]
  rfl
theorem T_more1 {a c : Nat} (h : g 0 = 4) (h3 : g 3 = nI a) (ha : a ≤ 99) (hc : c ≤ 126) (h59 : c ≠ 59) (h61 : g 1 = 97 → c ≠ 61) : ∃ g', f_X2_takes g (nI c) = some (if 48 ≤ c ∧ c ≤ 57 ∧ 0 < a ∧ 10 * a + (c - 48) ≤ 64 then 1 else 0, g') ∧ g' 0 = 4 ∧ (48 ≤ c → g' 3 = nI (10 * a + (c - 48))) ∧ ∀ k, k ≠ 3 → g' k = g k := by
  have em : f_X2_isMore (nI a) (nI c) 64 = some (if 48 ≤ c ∧ c ≤ 57 ∧ 0 < a ∧ 10 * a + (c - 48) ≤ 64 then 1 else 0) := T_isMore (top := 64) ha hc (by decide)
  have er : (if 48 ≤ c ∧ c ≤ 57 ∧ 0 < a ∧ 10 * a + (c - 48) ≤ 64 then (1 : Int32) else 0) = 0 ∨ (if 48 ≤ c ∧ c ≤ 57 ∧ 0 < a ∧ 10 * a + (c - 48) ≤ 64 then (1 : Int32) else 0) = 1 := by
    by_cases q : 48 ≤ c ∧ c ≤ 57 ∧ 0 < a ∧ 10 * a + (c - 48) ≤ 64
    · rw [if_pos q]; exact Or.inr rfl
    · rw [if_neg q]; exact Or.inl rfl
  refine ⟨upd g 3 (((10 * nI a) + nI c) - 48), takes_at (k := 4) h (by decide) hc h59 er ?_, by rw [upd_ne _ _ (by decide)]; exact h, fun h48 => ?_, fun k hk => upd_ne _ _ hk⟩
  · rw [if_neg (by decide), if_neg (by decide), if_neg (by decide), if_neg (by decide), if_pos rfl]
    unfold f_X2_takesMoreOfFirst
    rw [h3, em, gb_some, glet_eq, if_pos er]
    by_cases c1 : g 1 = 97
    · rw [if_pos c1, if_neg (show ¬ nI c = 61 from nI_lit_ne (b := 61) (by omega) (by decide) (h61 c1))]
    · rw [if_neg c1]
  · have e : (10 : Int32) * nI a = nI (10 * a) := nI_mul 10 a
    rw [upd_eq, e, nI_add, sub48 (by omega), show 10 * a + c - 48 = 10 * a + (c - 48) by omega]
theorem T_second_yes {c : Nat} (h : g 0 = 5) (h1 : 48 ≤ c) (h2 : c ≤ 57) : ∃ g', f_X2_takes g (nI c) = some (1, g') ∧ g' 0 = 6 ∧ g' 4 = nI (c - 48) ∧ ∀ k, k ≠ 0 → k ≠ 4 → g' k = g k := by
  refine ⟨upd (upd g 4 (nI (c - 48))) 0 6, takes_at (k := 5) h (by decide) (by omega) (by omega) (Or.inr rfl) ?_, upd_eq _ _ _, by rw [upd_ne _ _ (by decide), upd_eq], fun k k0 k4 => by rw [upd_ne _ _ k0, upd_ne _ _ k4]⟩
  rw [if_neg (by decide), if_neg (by decide), if_neg (by decide), if_neg (by decide), if_neg (by decide), if_pos rfl]
  unfold f_X2_takesSecond
  have e4 : upd (upd g 4 (nI (c - 48))) 0 6 4 = nI (c - 48) := by rw [upd_ne _ _ (by decide), upd_eq]
  rw [sub48 h1, glet_eq, glet_eq, e4, if_neg (nI_pos (by omega)), if_neg (show ¬ (9 : Int32) < nI (c - 48) from nI_nlt (a := 9) (by omega) (by decide))]
theorem T_second_no {c : Nat} (h : g 0 = 5) (hc : c ≤ 126) (hn : ¬ (48 ≤ c ∧ c ≤ 57)) : ∃ g', f_X2_takes g (nI c) = some (0, g') := by
  by_cases h59 : c = 59
  · subst h59; exact semi_no (nwh_low (k := 5) h (by omega))
  · refine ⟨upd (upd g 4 (nI c - 48)) 0 6, takes_at (k := 5) h (by decide) hc h59 (Or.inl rfl) ?_⟩
    rw [if_neg (by decide), if_neg (by decide), if_neg (by decide), if_neg (by decide), if_neg (by decide), if_pos rfl]
    unfold f_X2_takesSecond
    have e4 : upd (upd g 4 (nI c - 48)) 0 6 4 = nI c - 48 := by rw [upd_ne _ _ (by decide), upd_eq]
    rw [glet_eq, glet_eq, e4]
    by_cases c0 : c < 48
    · rw [if_pos (sub48_ng c0)]
    · rw [sub48 (by omega), if_neg (nI_pos (by omega)), if_pos (show (9 : Int32) < nI (c - 48) from nI_lt (a := 9) (by omega) (by omega))]
theorem T_more2 {a c : Nat} (h : g 0 = 6) (h4 : g 4 = nI a) (ha : a ≤ 99) (hc : c ≤ 126) (h59 : c ≠ 59) : ∃ g', f_X2_takes g (nI c) = some (if 48 ≤ c ∧ c ≤ 57 ∧ 0 < a ∧ 10 * a + (c - 48) ≤ 99 then 1 else 0, g') ∧ g' 0 = 6 ∧ (48 ≤ c → g' 4 = nI (10 * a + (c - 48))) ∧ ∀ k, k ≠ 4 → g' k = g k := by
  have em : f_X2_isMore (nI a) (nI c) 99 = some (if 48 ≤ c ∧ c ≤ 57 ∧ 0 < a ∧ 10 * a + (c - 48) ≤ 99 then 1 else 0) := T_isMore (top := 99) ha hc (by decide)
  have er : (if 48 ≤ c ∧ c ≤ 57 ∧ 0 < a ∧ 10 * a + (c - 48) ≤ 99 then (1 : Int32) else 0) = 0 ∨ (if 48 ≤ c ∧ c ≤ 57 ∧ 0 < a ∧ 10 * a + (c - 48) ≤ 99 then (1 : Int32) else 0) = 1 := by
    by_cases q : 48 ≤ c ∧ c ≤ 57 ∧ 0 < a ∧ 10 * a + (c - 48) ≤ 99
    · rw [if_pos q]; exact Or.inr rfl
    · rw [if_neg q]; exact Or.inl rfl
  refine ⟨upd g 4 (((10 * nI a) + nI c) - 48), takes_at (k := 6) h (by decide) hc h59 er ?_, by rw [upd_ne _ _ (by decide)]; exact h, fun h48 => ?_, fun k hk => upd_ne _ _ hk⟩
  · rw [if_neg (by decide), if_neg (by decide), if_neg (by decide), if_neg (by decide), if_neg (by decide), if_neg (by decide)]
    unfold f_X2_takesMoreOfSecond
    rw [h4, em, gb_some, glet_eq, if_pos er]
  · have e : (10 : Int32) * nI a = nI (10 * a) := nI_mul 10 a
    rw [upd_eq, e, nI_add, sub48 (by omega), show 10 * a + c - 48 = 10 * a + (c - 48) by omega]
end READER
