/-! MATHEMATICS, 6: the invariant behind freeing and giving back. -/
section INV
variable {A : Nat → Nat → Nat}
theorem fr_own (A : Nat → Nat → Nat) (f n k : Nat) : fr A f n 1 k = if A 1 k = f ∧ n ≤ A 2 k then 8 else A 1 k := by
  unfold fr
  by_cases e : A 1 k = f ∧ n ≤ A 2 k
  · rw [if_pos ⟨rfl, e⟩, if_pos e]
  · rw [if_neg (fun q => e q.2), if_neg e, if_neg (fun q => absurd q.1 (by decide))]
theorem fr_len (A : Nat → Nat → Nat) (f n g : Nat) : fr A f n 4 g = if g = f then n else A 4 g := by
  unfold fr
  rw [if_neg (fun q => absurd q.1 (by decide))]
  by_cases e : g = f
  · rw [if_pos ⟨rfl, e⟩, if_pos e]
  · rw [if_neg (fun q => e q.2), if_neg e]
theorem IB_fr (hI : IB A) {f n : Nat} (hf : f < 8) (hn : n ≤ A 4 f) : IB (fr A f n) := by
  obtain ⟨h1, h2, h3, h4⟩ := hI
  refine ⟨fun k hk => ?_, fun g i hg hi => ?_, fun k j hk hj ho e1 e2 => ?_, fun g hg => ?_⟩
  · have q := h1 k hk
    rw [fr_own, fr_row (by decide) (by decide), fr_row (k := 2) (by decide) (by decide)]
    by_cases e : A 1 k = f ∧ n ≤ A 2 k
    · rw [if_pos e]; exact ⟨by omega, q.2.1, fun h => absurd h (by omega)⟩
    · rw [if_neg e]
      refine ⟨q.1, q.2.1, fun h => ?_⟩
      have q2 := q.2.2 h
      rw [fr_row (by decide) (by decide), fr_len]
      refine ⟨q2.1, ?_⟩
      by_cases e1 : A 1 k = f
      · rw [if_pos e1]; omega
      · rw [if_neg e1]; exact q2.2
  · rw [fr_len] at hi
    by_cases e : g = f
    · rw [if_pos e] at hi
      obtain ⟨k, hk, ho, hx⟩ := h2 g i hg (by rw [e]; omega)
      refine ⟨k, hk, ?_, ?_⟩
      · rw [fr_own, if_neg (by omega)]; exact ho
      · rw [fr_row (by decide) (by decide)]; exact hx
    · rw [if_neg e] at hi
      obtain ⟨k, hk, ho, hx⟩ := h2 g i hg hi
      refine ⟨k, hk, ?_, ?_⟩
      · rw [fr_own, if_neg (by omega)]; exact ho
      · rw [fr_row (by decide) (by decide)]; exact hx
  · rw [fr_own] at ho
    rw [fr_own, fr_own] at e1
    rw [fr_row (by decide) (by decide), fr_row (by decide) (by decide)] at e2
    by_cases ek : A 1 k = f ∧ n ≤ A 2 k
    · rw [if_pos ek] at ho; omega
    · rw [if_neg ek] at ho e1
      by_cases ej : A 1 j = f ∧ n ≤ A 2 j
      · rw [if_pos ej] at e1; omega
      · rw [if_neg ej] at e1
        exact h3 k j hk hj ho e1 e2
  · have q := h4 g hg
    rw [fr_row (by decide) (by decide), fr_len]
    refine ⟨q.1, ?_⟩
    by_cases e : g = f
    · rw [if_pos e]; have := (h4 f hf).2; omega
    · rw [if_neg e]; exact q.2
/-- the invariant from its parts -/
theorem IA_of (h : IB A) (h2 : ∀ f, f < 8 → A 5 f ≤ A 4 f ∧ 1 ≤ A 7 f ∧ A 7 f ≤ 16 ∧ (A 3 f ≠ 0 → A 6 f ≤ A 5 f) ∧ (A 3 f = 0 → A 4 f = 0)) (h3 : A 8 0 ≤ 16 ∧ A 8 1 ≤ 1) : IA A :=
  ⟨h.1, h.2.1, h.2.2.1, fun f hf => ⟨(h.2.2.2 f hf).1, (h2 f hf).1, (h.2.2.2 f hf).2, (h2 f hf).2.1, (h2 f hf).2.2.1, (h2 f hf).2.2.2.1, (h2 f hf).2.2.2.2⟩, h3⟩
theorem IB.congr {B : Nat → Nat → Nat} (h : IB A) (h' : ∀ k i, k < 5 → B k i = A k i) : IB B := by
  obtain ⟨h1, h2, h3, h4⟩ := h
  refine ⟨fun k hk => ?_, fun g i hg hi => ?_, fun k j hk hj ho e1 e2 => ?_, fun g hg => ?_⟩
  · rw [h' 1 k (by omega), h' 0 k (by omega), h' 3 _ (by omega), h' 2 k (by omega), h' 4 _ (by omega)]; exact h1 k hk
  · rw [h' 4 g (by omega)] at hi
    obtain ⟨k, hk, ho, hx⟩ := h2 g i hg hi
    exact ⟨k, hk, by rw [h' 1 k (by omega)]; exact ho, by rw [h' 2 k (by omega)]; exact hx⟩
  · rw [h' 1 k (by omega)] at ho
    rw [h' 1 k (by omega), h' 1 j (by omega)] at e1
    rw [h' 2 k (by omega), h' 2 j (by omega)] at e2
    exact h3 k j hk hj ho e1 e2
  · rw [h' 3 g (by omega), h' 4 g (by omega)]; exact h4 g hg
theorem gv_low (A : Nat → Nat → Nat) (f : Nat) {k i : Nat} (h7 : k ≠ 7) (h9 : k ≠ 9) : gv A f k i = fr A f (A 5 f) k i := by
  unfold gv
  rw [as_ne _ _ (fun q => h9 q.1), as_ne _ _ (fun q => h7 q.1)]
theorem gv_lend (A : Nat → Nat → Nat) (f i : Nat) : gv A f 7 i = if i = f then 1 else A 7 i := by
  unfold gv
  rw [as_ne _ _ (by omega)]
  by_cases e : i = f
  · subst e; rw [as_eq, if_pos rfl]
  · rw [as_ne _ _ (fun q => e q.2), fr_row (by decide) (by decide), if_neg e]
theorem IA_gv (hI : IA A) {f : Nat} (hf : f < 8) : IA (gv A f) := by
  have hm := hI.2.2.2.1 f hf
  refine IA_of ((IB_fr hI.b hf (n := A 5 f) hm.2.1).congr (fun k i hk => gv_low A f (by omega) (by omega))) (fun g hg => ?_) ?_
  · have q := hI.2.2.2.1 g hg
    rw [gv_low _ _ (by decide) (by decide), gv_low _ _ (by decide) (by decide), gv_lend, gv_low _ _ (by decide) (by decide), gv_low _ _ (by decide) (by decide), fr_row (k := 5) (by decide) (by decide), fr_len, fr_row (k := 3) (by decide) (by decide), fr_row (k := 6) (by decide) (by decide)]
    by_cases e : g = f
    · subst e; rw [if_pos rfl, if_pos rfl]; omega
    · rw [if_neg e, if_neg e]; omega
  · rw [gv_low _ _ (by decide) (by decide), gv_low _ _ (by decide) (by decide), fr_row (by decide) (by decide), fr_row (by decide) (by decide)]
    exact hI.2.2.2.2
theorem IA_as (hI : IA A) {k i v : Nat} (hk : k = 5 ∨ k = 6 ∨ k = 9) (h5 : k = 5 → i < 8 → v ≤ A 4 i ∧ (A 3 i ≠ 0 → A 6 i ≤ v)) (h6 : k = 6 → i < 8 → A 3 i ≠ 0 → v ≤ A 5 i) : IA (as A k i v) := by
  refine IA_of (hI.b.congr (fun k' i' h => as_ne _ _ (by omega))) (fun g hg => ?_) ?_
  · have q := hI.2.2.2.1 g hg
    rw [as_ne (k' := 4) _ _ (by omega), as_ne (k' := 7) _ _ (by omega), as_ne (k' := 3) _ _ (by omega)]
    rcases hk with rfl | rfl | rfl
    · rw [as_ne (k' := 6) _ _ (by omega)]
      by_cases e : g = i
      · subst e; rw [as_eq]; have := h5 rfl hg; omega
      · rw [as_ne _ _ (by omega)]; omega
    · rw [as_ne (k' := 5) _ _ (by omega)]
      by_cases e : g = i
      · subst e; rw [as_eq]; have := h6 rfl hg; omega
      · rw [as_ne _ _ (by omega)]; omega
    · rw [as_ne (k' := 5) _ _ (by omega), as_ne (k' := 6) _ _ (by omega)]; omega
  · rw [as_ne (k' := 8) _ _ (by omega), as_ne (k' := 8) _ _ (by omega)]; exact hI.2.2.2.2
end INV
