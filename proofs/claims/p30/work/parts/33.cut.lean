/-! MATHEMATICS, 9: cut on both sides. -/
section CUT
variable {d : Nat → Nat → Int32} {A : Nat → Nat → Nat} {s t g : Nat → Int32}
def mn (a b : Nat) : Nat := if a < b then a else b
def cuA (A : Nat → Nat → Nat) (f n : Nat) : Nat → Nat → Nat := as (as (fr (gv A f) f n) 5 f n) 6 f (mn n (A 6 f))
theorem gv_ln (A : Nat → Nat → Nat) (f g : Nat) : gv A f 4 g = if g = f then A 5 f else A 4 g := by
  rw [gv_low _ _ (by decide) (by decide), fr_len]
theorem gv_sf (A : Nat → Nat → Nat) (f i : Nat) : gv A f 6 i = A 6 i := by rw [gv_low _ _ (by decide) (by decide), fr_row (by decide) (by decide)]
theorem IA_cut (hI : IA A) {f n : Nat} (hf : f < 8) (hn : n ≤ A 5 f) : IA (cuA A f n) := by
  have hG := IA_gv hI hf
  have hB := IB_fr hG.b hf (n := n) (by rw [gv_ln, if_pos rfl]; exact hn)
  have r : ∀ k i, k ≠ 5 → k ≠ 6 → cuA A f n k i = fr (gv A f) f n k i := fun k i h5 h6 => by
    unfold cuA; rw [as_ne _ _ (fun q => h6 q.1), as_ne _ _ (fun q => h5 q.1)]
  have r5 : ∀ i, cuA A f n 5 i = if i = f then n else A 5 i := fun i => by
    unfold cuA
    rw [as_ne _ _ (by omega)]
    by_cases e : i = f
    · subst e; rw [as_eq, if_pos rfl]
    · rw [as_ne _ _ (by omega), fr_row (by decide) (by decide), gv_sz, if_neg e]
  have r6 : ∀ i, cuA A f n 6 i = if i = f then mn n (A 6 f) else A 6 i := fun i => by
    unfold cuA
    by_cases e : i = f
    · subst e; rw [as_eq, if_pos rfl]
    · rw [as_ne _ _ (by omega), as_ne _ _ (by omega), fr_row (by decide) (by decide), gv_sf, if_neg e]
  refine IA_of (hB.congr (fun k i hk => r k i (by omega) (by omega))) (fun q hq => ?_) ?_
  · have z := hG.2.2.2.1 q hq
    have z2 := hI.2.2.2.1 q hq
    rw [gv_sz, gv_sf, gv_md] at z
    rw [r5, r6, r 4 q (by decide) (by decide), r 7 q (by decide) (by decide), r 3 q (by decide) (by decide), fr_len, fr_row (k := 7) (by decide) (by decide), fr_row (k := 3) (by decide) (by decide), gv_md]
    by_cases e : q = f
    · rw [if_pos e, if_pos e, if_pos e]
      subst e
      have w : mn n (A 6 q) ≤ n := by unfold mn; split <;> omega
      have h0 : A 3 q = 0 → n = 0 := fun h => by omega
      exact ⟨Nat.le_refl _, z.2.2.2.1, z.2.2.2.2.1, fun _ => w, h0⟩
    · rw [if_neg e, if_neg e, if_neg e]; exact ⟨z.2.1, z.2.2.2⟩
  · rw [r 8 0 (by decide) (by decide), r 8 1 (by decide) (by decide), fr_row (by decide) (by decide), fr_row (by decide) (by decide)]
    exact hG.2.2.2.2
theorem C_cut (h : RC d A) (hI : IA A) {f n : Nat} (hf : f < 8) (h2 : A 3 f = 2) (hn : n ≤ A 5 f) : ∃ d', f_X0_cutFile d (nI f) (nI n) = some (nI (A 4 f - n), d') ∧ RC d' (cuA A f n) := by
  have hm := hI.2.2.2.1 f hf
  have hl := hm.2.2.1
  have hG := IA_gv hI hf
  obtain ⟨d1, e1, h1⟩ := C_giveBack h hI hf
  obtain ⟨d2, e2, h2'⟩ := C_freeFrom h1 hG.b hf (n := n) (by omega)
  have l0 : ¬ nI n < 0 := nI_pos (by omega)
  have l1 : nI n ≤ (64 : Int32) := nI_le (b := 64) (by omega) (by decide)
  unfold f_X0_cutFile
  rw [C_isFile h hI hf, gb_some, if_neg (by rw [if_neg (by omega)]; decide), if_neg l0, if_pos l1, C_isOpen h hI hf, gb_some, if_neg (by rw [if_pos h2]; decide), f_at_in (by decide) _ hf, gb_some, h.sz hf, if_pos (nI_le hn (by omega)), f_at_in (by decide) _ hf, gb_some, glet_eq, h.ln hf, nI_sub (by omega), e1, gbb2_some, e2, gb_some, f_put_in (by decide) _ hf, gb_some, glet_eq]
  have h3 := RC_set (B' := as (fr (gv A f) f n) 5 f n) h2' (k := 5) (j := f) (v := n) (by decide) (by decide) (as_eq _ _ _ _) (fun k' i q => as_ne _ _ q)
  rw [f_at_in (by decide) _ hf, gb_some, glet_eq, f_put_in (by decide) _ hf, gb_some, glet_eq, h3.sf hf, as_ne _ _ (by omega), fr_row (by decide) (by decide), gv_sf]
  have e : (if nI n < nI (A 6 f) then nI n else nI (A 6 f)) = nI (mn n (A 6 f)) := by
    unfold mn
    by_cases c : n < A 6 f
    · rw [if_pos c, if_pos (nI_lt c (by omega))]
    · rw [if_neg c, if_neg (nI_nlt (by omega) (by omega))]
  rw [e]
  exact ⟨_, rfl, RC_set (B' := cuA A f n) h3 (k := 6) (j := f) (by decide) (by decide) (as_eq _ _ _ _) (fun k' i q => as_ne _ _ q)⟩
end CUT
