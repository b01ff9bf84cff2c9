/-! MATHEMATICS, 26: free blocks come to a file, on both sides. -/
section ADD
variable {d : Nat → Nat → Int32} {A : Nat → Nat → Nat} {s t g : Nat → Int32}
/-- the block k comes to the end of the file f -/
def ad1 (A : Nat → Nat → Nat) (f k : Nat) : Nat → Nat → Nat := as (as (as A 1 k f) 2 k (A 4 f)) 4 f (A 4 f + 1)
def adJ (A : Nat → Nat → Nat) (f first : Nat) : Nat → Nat → Nat → Nat
  | 0 => A
  | j + 1 => ad1 (adJ A f first j) f (first + j)
theorem adJ_succ (A : Nat → Nat → Nat) (f first j : Nat) : adJ A f first (j + 1) = ad1 (adJ A f first j) f (first + j) := rfl
theorem ad1_row {f k k' i : Nat} (h1 : k' ≠ 1) (h2 : k' ≠ 2) (h4 : k' ≠ 4) : ad1 A f k k' i = A k' i := by
  unfold ad1
  rw [as_ne _ _ (fun q => h4 q.1), as_ne _ _ (fun q => h2 q.1), as_ne _ _ (fun q => h1 q.1)]
theorem ad1_own (A : Nat → Nat → Nat) (f k : Nat) : ad1 A f k 1 k = f := by
  unfold ad1
  rw [as_ne _ _ (by omega), as_ne _ _ (by omega), as_eq]
theorem ad1_ix (A : Nat → Nat → Nat) (f k : Nat) : ad1 A f k 2 k = A 4 f := by
  unfold ad1
  rw [as_ne _ _ (by omega), as_eq]
theorem ad1_far {f k k' i : Nat} (hi : i ≠ k) (h4 : k' ≠ 4) : ad1 A f k k' i = A k' i := by
  unfold ad1
  rw [as_ne _ _ (by omega), as_ne _ _ (by omega), as_ne _ _ (by omega)]
theorem ad1_len (A : Nat → Nat → Nat) (f k : Nat) : ad1 A f k 4 f = A 4 f + 1 := by
  unfold ad1
  rw [as_eq]
theorem ad1_len' {f k i : Nat} (h : i ≠ f) : ad1 A f k 4 i = A 4 i := by
  unfold ad1
  rw [as_ne _ _ (by omega), as_ne _ _ (by omega), as_ne _ _ (by omega)]
theorem adJ_row {f first k' i : Nat} (h1 : k' ≠ 1) (h2 : k' ≠ 2) (h4 : k' ≠ 4) (j : Nat) : adJ A f first j k' i = A k' i := by
  induction j with
  | zero => rfl
  | succ j ih => rw [adJ_succ, ad1_row h1 h2 h4, ih]
theorem adJ_far {f first k' i j : Nat} (hi : i < first ∨ first + j ≤ i) (h4 : k' ≠ 4) : adJ A f first j k' i = A k' i := by
  induction j with
  | zero => rfl
  | succ j ih => rw [adJ_succ, ad1_far (by omega) h4, ih (by omega)]
theorem adJ_len (A : Nat → Nat → Nat) (f first j : Nat) : adJ A f first j 4 f = A 4 f + j := by
  induction j with
  | zero => rfl
  | succ j ih => rw [adJ_succ, ad1_len, ih, Nat.add_assoc]
theorem adJ_len' {f first i : Nat} (h : i ≠ f) (j : Nat) : adJ A f first j 4 i = A 4 i := by
  induction j with
  | zero => rfl
  | succ j ih => rw [adJ_succ, ad1_len' h, ih]
theorem ct_lt (P : Nat → Prop) [DecidablePred P] {n k : Nat} (hk : k < n) (h : ¬ P k) : ct P n < n := by
  induction n with
  | zero => omega
  | succ n ih =>
    rw [ct_succ]
    by_cases e : k = n
    · subst e
      have := ct_le P k
      rw [if_neg h]; omega
    · have := ih (by omega)
      by_cases c : P n
      · rw [if_pos c]; omega
      · rw [if_neg c]; omega
theorem len_lt (hI : IB A) {f k : Nat} (hf : f < 8) (hk : k < 64) (h : A 1 k ≠ f) : A 4 f < 64 := by
  have e := ct_from hI hf 0
  rw [Nat.sub_zero] at e
  rw [← e]
  exact ct_lt _ hk (fun q => h q.1)
theorem IA_ad1 (hI : IA A) {f k : Nat} (hf : f < 8) (hk : k < 64) (h8 : A 1 k = 8) (h0 : A 3 f ≠ 0) : IA (ad1 A f k) := by
  have hl := len_lt hI.b hf hk (by omega)
  have r3 : ∀ i, ad1 A f k 3 i = A 3 i := fun i => ad1_row (by decide) (by decide) (by decide)
  have r0 : ∀ i, ad1 A f k 0 i = A 0 i := fun i => ad1_row (by decide) (by decide) (by decide)
  refine IA_of ⟨fun x hx => ?_, fun q i hq hi => ?_, fun x y hx hy ho e1 e2 => ?_, fun q hq => ?_⟩ (fun q hq => ?_) ?_
  · have z := hI.1 x hx
    rw [r0]
    by_cases c : x = k
    · subst c
      rw [ad1_own, r3, ad1_ix, ad1_len]
      exact ⟨by omega, z.2.1, fun _ => ⟨h0, by omega⟩⟩
    · rw [ad1_far c (by decide), ad1_far c (by decide), r3]
      refine ⟨z.1, z.2.1, fun h => ⟨(z.2.2 h).1, ?_⟩⟩
      have w := (z.2.2 h).2
      by_cases c2 : A 1 x = f
      · rw [c2, ad1_len]; rw [c2] at w; omega
      · rw [ad1_len' c2]; exact w
  · by_cases c : q = f ∧ i = A 4 f
    · exact ⟨k, hk, by rw [c.1, ad1_own], by rw [c.2, ad1_ix]⟩
    · have hi2 : i < A 4 q := by
        by_cases c2 : q = f
        · subst c2; rw [ad1_len] at hi; omega
        · rw [ad1_len' c2] at hi; exact hi
      obtain ⟨x, hx, ho, hxi⟩ := hI.2.1 q i hq hi2
      have xk : x ≠ k := fun e => by rw [e] at ho; omega
      exact ⟨x, hx, by rw [ad1_far xk (by decide)]; exact ho, by rw [ad1_far xk (by decide)]; exact hxi⟩
  · by_cases cx : x = k
    · by_cases cy : y = k
      · omega
      · subst cx
        rw [ad1_own, ad1_far cy (by decide)] at e1
        rw [ad1_ix, ad1_far cy (by decide)] at e2
        have := ((hI.1 y hy).2.2 (by omega)).2
        rw [e1] at this; omega
    · rw [ad1_far cx (by decide)] at ho
      by_cases cy : y = k
      · subst cy
        rw [ad1_own, ad1_far cx (by decide)] at e1
        rw [ad1_ix, ad1_far cx (by decide)] at e2
        have := ((hI.1 x hx).2.2 ho).2
        rw [← e1] at this; omega
      · rw [ad1_far cx (by decide), ad1_far cy (by decide)] at e1 e2
        exact hI.2.2.1 x y hx hy ho e1 e2
  · have z := hI.2.2.2.1 q hq
    rw [r3]
    refine ⟨z.1, ?_⟩
    by_cases c : q = f
    · subst c; rw [ad1_len]; omega
    · rw [ad1_len' c]; exact z.2.2.1
  · have z := hI.2.2.2.1 q hq
    rw [r3, ad1_row (k' := 5) (by decide) (by decide) (by decide), ad1_row (k' := 6) (by decide) (by decide) (by decide), ad1_row (k' := 7) (by decide) (by decide) (by decide)]
    by_cases c : q = f
    · subst c; rw [ad1_len]; omega
    · rw [ad1_len' c]; omega
  · rw [ad1_row (by decide) (by decide) (by decide), ad1_row (by decide) (by decide) (by decide)]; exact hI.2.2.2.2
theorem IA_adJ (hI : IA A) {f first : Nat} (hf : f < 8) (h0 : A 3 f ≠ 0) (hk : first ≤ 64) : ∀ {j : Nat}, j ≤ rn A first → IA (adJ A f first j) := by
  have q := rn_spec A hk
  intro j
  induction j with
  | zero => intro _; exact hI
  | succ j ih =>
    intro hj
    rw [adJ_succ]
    exact IA_ad1 (ih (by omega)) hf (by omega) (by rw [adJ_far (Or.inr (Nat.le_refl _)) (by decide)]; exact q.2.1 j (by omega)) (by rw [adJ_row (by decide) (by decide) (by decide)]; exact h0)
/-- how many blocks are added, from first on, if at most so many are wanted -/
def mnN (a b : Nat) : Nat := if a < b then a else b
theorem mnN_le (a b : Nat) : mnN a b ≤ a ∧ mnN a b ≤ b ∧ (mnN a b = a ∨ (mnN a b = b ∧ b ≤ a)) := by
  unfold mnN
  by_cases c : a < b
  · rw [if_pos c]; omega
  · rw [if_neg c]; omega
theorem C_addFrom (h : RC d A) (hI : IA A) {f first most : Nat} (hf : f < 8) (h0 : A 3 f ≠ 0) (hk : first ≤ 64) (hm : most ≤ 64) : ∃ d', f_X0_addFrom d (nI f) (nI first) (nI most) = some (nI (mnN most (rn A first)), d') ∧ RC d' (adJ A f first (mnN most (rn A first))) := by
  have q := rn_spec A hk
  have w := mnN_le most (rn A first)
  have H : ∃ r, f_X0_addFrom d (nI f) (nI first) (nI most) = some r ∧ (∃ d', r = (nI (mnN most (rn A first)), d') ∧ RC d' (adJ A f first (mnN most (rn A first)))) := by
    refine loopR (fun fu j x => f_X0_addFrom_L3 (nI f) (nI first) (nI most) fu (nI j) x) (mnN most (rn A first)) (fun j x => RC x (adJ A f first j)) _ (fun fu j x hj hx => Or.inl ?_) (fun fu x hx => ?_) gFu 0 d (Nat.zero_le _) (by show mnN most (rn A first) < 0 + 1000; omega) h
    · show ∃ x', f_X0_addFrom_L3 (nI f) (nI first) (nI most) (fu + 1) (nI j) x = f_X0_addFrom_L3 (nI f) (nI first) (nI most) fu (nI (j + 1)) x' ∧ RC x' (adJ A f first (j + 1))
      have e8 : adJ A f first j 1 (first + j) = 8 := by rw [adJ_far (Or.inr (Nat.le_refl _)) (by decide)]; exact q.2.1 j (by omega)
      have h1 := RC_add (B' := as (as (adJ A f first j) 1 (first + j) f) 2 (first + j) (adJ A f first j 4 f)) hx (j := first + j) (f := f) (p := adJ A f first j 4 f) hf (by rw [as_ne _ _ (by omega), as_eq]) (as_eq _ _ _ _) (fun k' i z => by rw [as_ne _ _ (fun u => z ⟨Or.inr u.1, u.2⟩), as_ne _ _ (fun u => z ⟨Or.inl u.1, u.2⟩)])
      have h2 := RC_set (B' := adJ A f first (j + 1)) h1 (k := 4) (j := f) (v := adJ A f first j 4 f + 1) (by decide) (by decide) (by rw [adJ_succ, ad1_len]) (fun k' i z => by rw [adJ_succ]; unfold ad1; rw [as_ne _ _ z])
      have e4 := h1.ln hf
      rw [as_ne _ _ (by omega), as_ne _ _ (by omega)] at e4
      rw [f_X0_addFrom_L3, if_neg (nI_ge (by omega) (by omega)), nI_add, free_t hx (by omega) e8, gb_some, if_neg (by decide), f_put_in (by decide) _ (show first + j < 64 by omega), gb_some, glet_eq, up_ne _ _ (show (4 : Nat) ≠ 1 by decide), f_at_in (by decide) _ hf, gb_some, up_ne _ _ (show (2 : Nat) ≠ 1 by decide), f_put_in (by decide) _ (show first + j < 64 by omega), gb_some, glet_eq, hx.ln hf, f_grow_in (by decide) _ hf, gb_some, glet_eq, glet_eq, nI_1, e4, nI_1]
      exact ⟨_, rfl, h2⟩
    · refine ⟨_, ?_, x, rfl, hx⟩
      show f_X0_addFrom_L3 (nI f) (nI first) (nI most) (fu + 1) (nI (mnN most (rn A first))) x = _
      rw [f_X0_addFrom_L3]
      by_cases c : mnN most (rn A first) = most
      · rw [if_pos (nI_le (by omega) (by omega))]
      · rw [if_neg (nI_ge (by omega) (by omega)), nI_add]
        by_cases c2 : first + mnN most (rn A first) < 64
        · have e8 : adJ A f first (mnN most (rn A first)) 1 (first + mnN most (rn A first)) ≠ 8 := by
            rw [adJ_far (Or.inr (Nat.le_refl _)) (by decide)]
            rcases w.2.2 with z | z
            · exact absurd z c
            · rw [z.1] at c2 ⊢; exact q.2.2 c2
          rw [free_f hx (IA_adJ hI hf h0 hk w.2.1).b c2 e8, gb_some, if_pos rfl]
        · rw [free_out (by omega) (by omega), gb_some, if_pos rfl]
  obtain ⟨r, e, d', rfl, p⟩ := H
  exact ⟨d', e, p⟩
end ADD
