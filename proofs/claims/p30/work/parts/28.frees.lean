/-! MATHEMATICS, 4: the block of an index; how many blocks a file has from a place on; the reference's frees. -/
noncomputable def bk (A : Nat → Nat → Nat) (f i : Nat) : Nat := Classical.epsilon (fun k : Nat => k < 64 ∧ A 1 k = f ∧ A 2 k = i)
section BK
variable {A : Nat → Nat → Nat}
theorem bk_spec (hI : IB A) {f i : Nat} (hf : f < 8) (hi : i < A 4 f) : bk A f i < 64 ∧ A 1 (bk A f i) = f ∧ A 2 (bk A f i) = i := Classical.epsilon_spec (p := fun k : Nat => k < 64 ∧ A 1 k = f ∧ A 2 k = i) (hI.2.1 f i hf hi)
theorem bk_of (hI : IB A) {f k : Nat} (hf : f < 8) (hk : k < 64) (ho : A 1 k = f) : A 2 k < A 4 f ∧ bk A f (A 2 k) = k := by
  have h1 := (hI.1 k hk).2.2 (by omega)
  rw [ho] at h1
  have h2 := bk_spec hI hf h1.2
  exact ⟨h1.2, hI.2.2.1 k (bk A f (A 2 k)) hk h2.1 (by omega) (by rw [h2.2.1, ho]) h2.2.2⟩
/-- a sum over the indices of a file is one over its blocks -/
theorem sm_file (hI : IB A) {f : Nat} (hf : f < 8) (w : Nat → Nat) : sm (fun i => w (bk A f i)) (A 4 f) = sm (fun k => if A 1 k = f then w k else 0) 64 :=
  sm_reindex (bk A f) (fun k => A 1 k = f) (A 2) (fun i hi => bk_spec hI hf hi) (fun k hk ho => bk_of hI hf hk ho) w
theorem sm_from (n len : Nat) : sm (fun i => if n ≤ i then 1 else 0) len = len - n := by
  induction len with
  | zero => simp [sm]
  | succ len ih =>
    rw [sm_succ, ih]
    by_cases h : n ≤ len
    · rw [if_pos h]; omega
    · rw [if_neg h]; omega
theorem ct_from (hI : IB A) {f : Nat} (hf : f < 8) (n : Nat) : ct (fun k => A 1 k = f ∧ n ≤ A 2 k) 64 = A 4 f - n := by
  rw [← sm_from n (A 4 f)]
  have h1 := sm_file hI hf (fun k => if n ≤ A 2 k then 1 else 0)
  have h2 : sm (fun i => (fun k => if n ≤ A 2 k then 1 else 0) (bk A f i)) (A 4 f) = sm (fun i => if n ≤ i then 1 else 0) (A 4 f) :=
    sm_congr (fun i hi => by show (if n ≤ A 2 (bk A f i) then 1 else 0) = _; rw [(bk_spec hI hf hi).2.2])
  rw [← h2, h1]
  refine sm_congr (fun k _ => ?_)
  by_cases e1 : A 1 k = f
  · rw [if_pos e1]
    by_cases e2 : n ≤ A 2 k
    · rw [if_pos e2, if_pos ⟨e1, e2⟩]
    · rw [if_neg e2, if_neg (fun q => e2 q.2)]
  · rw [if_neg e1, if_neg (fun q => e1 q.1)]
theorem ct_succ (P : Nat → Prop) [DecidablePred P] (n : Nat) : ct P (n + 1) = ct P n + if P n then 1 else 0 := rfl
theorem ct_le (P : Nat → Prop) [DecidablePred P] (n : Nat) : ct P n ≤ n := by
  induction n with
  | zero => exact Nat.le_refl _
  | succ n ih =>
    rw [ct_succ]
    by_cases h : P n
    · rw [if_pos h]; omega
    · rw [if_neg h]; omega
end BK
section RMUPD
variable {s : Nat → Int32} {b : Nat} {B B' : Nat → Nat → Nat}
end RMUPD
