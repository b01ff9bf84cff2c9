/-! MATHEMATICS, 8: remove, set, on both sides. -/
section REM
variable {d : Nat → Nat → Int32} {A : Nat → Nat → Nat} {s t g : Nat → Int32}
def rmA (A : Nat → Nat → Nat) (f : Nat) : Nat → Nat → Nat := as (as (fr A f 0) 5 f 0) 3 f 0
theorem IA_remove (hI : IA A) {f : Nat} (hf : f < 8) : IA (rmA A f) := by
  have hB := IB_fr hI.b hf (n := 0) (Nat.zero_le _)
  have hown : ∀ k, fr A f 0 1 k < 8 → fr A f 0 1 k ≠ f := by
    intro k h
    rw [fr_own] at h ⊢
    by_cases e : A 1 k = f ∧ 0 ≤ A 2 k
    · rw [if_pos e] at h; omega
    · rw [if_neg e]; omega
  have r1 : ∀ k i, k ≠ 3 → k ≠ 5 → rmA A f k i = fr A f 0 k i := fun k i h3 h5 => by
    unfold rmA; rw [as_ne _ _ (fun q => h3 q.1), as_ne _ _ (fun q => h5 q.1)]
  have r3 : ∀ i, rmA A f 3 i = if i = f then 0 else A 3 i := fun i => by
    unfold rmA
    by_cases e : i = f
    · subst e; rw [as_eq, if_pos rfl]
    · rw [as_ne _ _ (by omega), as_ne _ _ (by omega), fr_row (by decide) (by decide), if_neg e]
  have r5 : ∀ i, rmA A f 5 i = if i = f then 0 else A 5 i := fun i => by
    unfold rmA
    rw [as_ne _ _ (by omega)]
    by_cases e : i = f
    · subst e; rw [as_eq, if_pos rfl]
    · rw [as_ne _ _ (by omega), fr_row (by decide) (by decide), if_neg e]
  refine IA_of ⟨fun k hk => ?_, fun q i hq hi => ?_, fun k j hk hj ho e1 e2 => ?_, fun q hq => ?_⟩ (fun q hq => ?_) ?_
  · have q := hB.1 k hk
    rw [r1 1 k (by decide) (by decide), r1 0 k (by decide) (by decide), r1 2 k (by decide) (by decide), r1 4 _ (by decide) (by decide), r3]
    refine ⟨q.1, q.2.1, fun h => ?_⟩
    have q2 := q.2.2 h
    rw [fr_row (k := 3) (by decide) (by decide)] at q2
    rw [if_neg (hown k h)]
    exact q2
  · rw [r1 4 q (by decide) (by decide)] at hi
    obtain ⟨k, hk, ho, hx⟩ := hB.2.1 q i hq hi
    exact ⟨k, hk, by rw [r1 1 k (by decide) (by decide)]; exact ho, by rw [r1 2 k (by decide) (by decide)]; exact hx⟩
  · rw [r1 1 k (by decide) (by decide)] at ho
    rw [r1 1 k (by decide) (by decide), r1 1 j (by decide) (by decide)] at e1
    rw [r1 2 k (by decide) (by decide), r1 2 j (by decide) (by decide)] at e2
    exact hB.2.2.1 k j hk hj ho e1 e2
  · have z := hB.2.2.2 q hq
    have z2 := hI.2.2.2.1 q hq
    rw [r3, r1 4 q (by decide) (by decide)]
    by_cases e : q = f
    · rw [if_pos e]; omega
    · rw [if_neg e]; omega
  · have z2 := hI.2.2.2.1 q hq
    rw [r3, r5, r1 4 q (by decide) (by decide), r1 7 q (by decide) (by decide), r1 6 q (by decide) (by decide), fr_len, fr_row (k := 7) (by decide) (by decide), fr_row (k := 6) (by decide) (by decide)]
    by_cases e : q = f
    · rw [if_pos e, if_pos e, if_pos e]; omega
    · rw [if_neg e, if_neg e, if_neg e]; omega
  · rw [r1 8 0 (by decide) (by decide), r1 8 1 (by decide) (by decide), fr_row (by decide) (by decide), fr_row (by decide) (by decide)]
    exact hI.2.2.2.2
theorem C_remove (h : RC d A) (hI : IA A) {f : Nat} (hf : f < 8) (h1 : A 3 f = 1) : ∃ d', f_X0_removeFile d (nI f) = some (nI (A 4 f), d') ∧ RC d' (rmA A f) := by
  obtain ⟨d1, e1, r1⟩ := C_freeFrom h hI.b hf (n := 0) (by omega)
  have e0 : f_X0_freeFrom d (nI f) 0 = some d1 := e1
  unfold f_X0_removeFile
  rw [C_isFile h hI hf, gb_some, if_neg (by rw [if_neg (by omega)]; decide), C_isOpen h hI hf, gb_some, if_pos (by rw [if_neg (by omega)]), f_at_in (by decide) _ hf, gb_some, h.ln hf, e0, gb_some, f_put_in (by decide) _ hf, gb_some, glet_eq, f_put_in (by decide) _ hf, gb_some, glet_eq]
  have h3 := RC_set (B' := as (fr A f 0) 5 f 0) r1 (k := 5) (j := f) (v := 0) (by decide) (by decide) (as_eq _ _ _ _) (fun k' i q => as_ne _ _ q)
  exact ⟨_, rfl, RC_set (B' := rmA A f) h3 (k := 3) (j := f) (v := 0) (by decide) (by decide) (as_eq _ _ _ _) (fun k' i q => as_ne _ _ q)⟩
end REM
