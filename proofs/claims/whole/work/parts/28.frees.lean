/-! MATHEMATICS, 4: the block of an index; how many blocks a file has from a place on; the reference's frees. -/
noncomputable def bk (A : Nat → Nat → Nat) (f i : Nat) : Nat := Classical.epsilon (fun k : Nat => k < 64 ∧ A 1 k = f ∧ A 2 k = i)
section BK
variable {A : Nat → Nat → Nat}
theorem bk_spec (hI : IB A) {f i : Nat} (hf : f < 8) (hi : i < A 4 f) : bk A f i < 64 ∧ A 1 (bk A f i) = f ∧ A 2 (bk A f i) = i := Classical.epsilon_spec (p := fun k : Nat => k < 64 ∧ A 1 k = f ∧ A 2 k = i) (hI.2.1 f i hf hi)
theorem bk_of (hI : IB A) {f k : Nat} (hf : f < 8) (hk : k < 64) (ho : A 1 k = f) : A 2 k < A 4 f ∧ bk A f (A 2 k) = k := by
  have h1 := (hI.1 k hk).2.2 (by omega)
  rw [ho] at h1
  have h2 := bk_spec hI hf h1.2
  exact ⟨h1.2, hI.2.2.1 k (bk A f (A 2 k)) hk h2.1 (by omega) (by rw [h2.2.1, ho]) h2.2.2⟩
/-- a sum over the indices of a file is one over its blocks -/
theorem sm_file (hI : IB A) {f : Nat} (hf : f < 8) (w : Nat → Nat) : sm (fun i => w (bk A f i)) (A 4 f) = sm (fun k => if A 1 k = f then w k else 0) 64 :=
  sm_reindex (bk A f) (fun k => A 1 k = f) (A 2) (fun i hi => bk_spec hI hf hi) (fun k hk ho => bk_of hI hf hk ho) w
theorem sm_from (n len : Nat) : sm (fun i => if n ≤ i then 1 else 0) len = len - n := by
  induction len with
  | zero => simp [sm]
  | succ len ih =>
    rw [sm_succ, ih]
    by_cases h : n ≤ len
    · rw [if_pos h]; omega
    · rw [if_neg h]; omega
theorem ct_from (hI : IB A) {f : Nat} (hf : f < 8) (n : Nat) : ct (fun k => A 1 k = f ∧ n ≤ A 2 k) 64 = A 4 f - n := by
  rw [← sm_from n (A 4 f)]
  have h1 := sm_file hI hf (fun k => if n ≤ A 2 k then 1 else 0)
  have h2 : sm (fun i => (fun k => if n ≤ A 2 k then 1 else 0) (bk A f i)) (A 4 f) = sm (fun i => if n ≤ i then 1 else 0) (A 4 f) :=
    sm_congr (fun i hi => by show (if n ≤ A 2 (bk A f i) then 1 else 0) = _; rw [(bk_spec hI hf hi).2.2])
  rw [← h2, h1]
  refine sm_congr (fun k _ => ?_)
  by_cases e1 : A 1 k = f
  · rw [if_pos e1]
    by_cases e2 : n ≤ A 2 k
    · rw [if_pos e2, if_pos ⟨e1, e2⟩]
    · rw [if_neg e2, if_neg (fun q => e2 q.2)]
  · rw [if_neg e1, if_neg (fun q => e1 q.1)]
theorem ct_succ (P : Nat → Prop) [DecidablePred P] (n : Nat) : ct P (n + 1) = ct P n + if P n then 1 else 0 := rfl
theorem ct_le (P : Nat → Prop) [DecidablePred P] (n : Nat) : ct P n ≤ n := by
  induction n with
  | zero => exact Nat.le_refl _
  | succ n ih =>
    rw [ct_succ]
    by_cases h : P n
    · rw [if_pos h]; omega
    · rw [if_neg h]; omega
end BK
section RMUPD
variable {s : Nat → Int32} {b : Nat} {B B' : Nat → Nat → Nat}
theorem RM.congr (h : RM s b B) (h' : ∀ k i, k < 10 → i < rl k → B' k i = B k i) : RM s b B' := by
  refine ⟨fun i hi => ?_, fun f hf => ?_, fun i hi => ?_, fun i hi => ?_⟩
  · rw [h' 0 i (by omega) hi, h' 1 i (by omega) hi, h' 2 i (by omega) hi]; exact h.1 i hi
  · rw [h' 3 f (by omega) hf, h' 4 f (by omega) hf, h' 5 f (by omega) hf, h' 6 f (by omega) hf, h' 7 f (by omega) hf]; exact h.2.1 f hf
  · rw [h' 8 i (by omega) hi]; exact h.2.2.1 i hi
  · rw [h' 9 i (by omega) hi]; exact h.2.2.2 i hi
theorem RM_free (h : RM s b B) {j : Nat} (hj : j < 64) (hB : B' 1 j = 8) (hN : ∀ k' i, ¬ (k' = 1 ∧ i = j) → B' k' i = B k' i) : RM (upd s (b + 64 + j) (-5)) b B' := by
  refine ⟨fun i hi => ⟨?_, ?_, ?_⟩, fun f hf => ⟨?_, ?_, fun h0 => ⟨?_, ?_, ?_, ?_⟩⟩, fun i hi => ?_, fun i hi => ?_⟩
  · rw [upd_ne _ _ (by omega), hN 0 i (by omega)]; exact (h.1 i hi).1
  · by_cases e : i = j
    · subst e; rw [upd_eq, hB, if_pos rfl]
    · rw [upd_ne _ _ (by omega), hN 1 i (by omega)]; exact h.own hi
  · intro h8
    by_cases e : i = j
    · subst e; exact absurd hB h8
    · rw [hN 1 i (by omega)] at h8
      rw [upd_ne _ _ (by omega), hN 2 i (by omega)]; exact h.ix hi h8
  · rw [upd_ne _ _ (by omega), hN 3 f (by omega)]; exact h.ex hf
  · rw [upd_ne _ _ (by omega), hN 4 f (by omega)]; exact h.ln hf
  · rw [hN 3 f (by omega)] at h0; rw [upd_ne _ _ (by omega), hN 5 f (by omega)]; exact h.sz hf h0
  · rw [hN 3 f (by omega)] at h0; rw [upd_ne _ _ (by omega), hN 6 f (by omega)]; exact h.sf hf h0
  · rw [hN 3 f (by omega)] at h0; rw [upd_ne _ _ (by omega), hN 3 f (by omega)]; exact h.op hf h0
  · rw [hN 3 f (by omega)] at h0; rw [upd_ne _ _ (by omega), hN 7 f (by omega)]; exact h.ld hf h0
  · rw [upd_ne _ _ (by omega), hN 8 i (by omega)]; exact h.2.2.1 i hi
  · rw [upd_ne _ _ (by omega), hN 9 i (by omega)]; exact h.2.2.2 i hi
theorem RM_len (h : RM s b B) {j v : Nat} (hj : j < 8) (hB : B' 4 j = v) (hN : ∀ k' i, ¬ (k' = 4 ∧ i = j) → B' k' i = B k' i) : RM (upd s (b + 192 + 6 * j + 1) (nI v)) b B' := by
  refine ⟨fun i hi => ⟨?_, ?_, ?_⟩, fun f hf => ⟨?_, ?_, fun h0 => ⟨?_, ?_, ?_, ?_⟩⟩, fun i hi => ?_, fun i hi => ?_⟩
  · rw [upd_ne _ _ (by omega), hN 0 i (by omega)]; exact (h.1 i hi).1
  · rw [upd_ne _ _ (by omega), hN 1 i (by omega)]; exact h.own hi
  · intro h8
    rw [hN 1 i (by omega)] at h8
    rw [upd_ne _ _ (by omega), hN 2 i (by omega)]; exact h.ix hi h8
  · rw [upd_ne _ _ (by omega), hN 3 f (by omega)]; exact h.ex hf
  · by_cases e : f = j
    · subst e; rw [upd_eq, hB]
    · rw [upd_ne _ _ (by omega), hN 4 f (by omega)]; exact h.ln hf
  · rw [hN 3 f (by omega)] at h0; rw [upd_ne _ _ (by omega), hN 5 f (by omega)]; exact h.sz hf h0
  · rw [hN 3 f (by omega)] at h0; rw [upd_ne _ _ (by omega), hN 6 f (by omega)]; exact h.sf hf h0
  · rw [hN 3 f (by omega)] at h0; rw [upd_ne _ _ (by omega), hN 3 f (by omega)]; exact h.op hf h0
  · rw [hN 3 f (by omega)] at h0; rw [upd_ne _ _ (by omega), hN 7 f (by omega)]; exact h.ld hf h0
  · rw [upd_ne _ _ (by omega), hN 8 i (by omega)]; exact h.2.2.1 i hi
  · rw [upd_ne _ _ (by omega), hN 9 i (by omega)]; exact h.2.2.2 i hi
end RMUPD
/-- outside the row at b nothing changes -/
def Out (b : Nat) (s s' : Nat → Int32) : Prop := ∀ k, (k < b ∨ b + 246 ≤ k) → s' k = s k
theorem Out.rf {b : Nat} {s : Nat → Int32} : Out b s s := fun _ _ => rfl
theorem Out.tr {b : Nat} {s s' s'' : Nat → Int32} (h : Out b s s') (h' : Out b s' s'') : Out b s s'' := fun k hk => (h' k hk).trans (h k hk)
theorem Out.up {b : Nat} {s s' : Nat → Int32} (h : Out b s s') {x : Nat} {v : Int32} (h1 : b ≤ x) (h2 : x < b + 246) : Out b s (upd s' x v) := fun k hk => by rw [upd_ne _ _ (by omega)]; exact h k hk
set_option maxHeartbeats 1000000 in
theorem M_frees {s t g : Nat → Int32} {A : Nat → Nat → Nat} {b : Nat} (h : RM s b A) (hI : IB A) (hb : b ≤ 1722) {f n : Nat} (hf : f < 8) (hn : n ≤ A 4 f) : ∃ s', f_X6_frees s t g (nI b) (nI f) (nI n) = some (nI (A 4 f - n), s') ∧ RM s' b (fr A f n) ∧ Out b s s' := by
  have h64 := (hI.2.2.2 f hf).2
  have main : ∃ r, f_X6_frees s t g (nI b) (nI f) (nI n) = some r ∧ (r.1 = nI (A 4 f - n) ∧ RM r.2 b (fr A f n) ∧ Out b s r.2) := by
    unfold f_X6_frees
    refine loopR (fun fu j (x : Int32 × (Nat → Int32)) => f_X6_frees_L6 t g (nI b) (nI f) (nI n) fu x.1 (nI j) x.2) 64 (fun j x => x.1 = nI (ct (fun k => A 1 k = f ∧ n ≤ A 2 k) j) ∧ RM x.2 b (frj A f n j) ∧ Out b s x.2) (fun r => r.1 = nI (A 4 f - n) ∧ RM r.2 b (fr A f n) ∧ Out b s r.2) (fun fu j x hj hx => Or.inl ?_) (fun fu x hx => ?_) gFu 0 (0, s) (by omega) (by decide) ⟨rfl, h.congr (fun k i _ _ => by unfold frj; rw [if_neg (fun q => by omega)]), Out.rf⟩
    · obtain ⟨hx1, hx2, hx3⟩ := hx
      have h1 := hI.1 j hj
      have ho : x.2 (b + 64 + j) = if A 1 j = 8 then -5 else nI (A 1 j) := by rw [hx2.own hj, frj_at]
      show ∃ x' : Int32 × (Nat → Int32), f_X6_frees_L6 t g (nI b) (nI f) (nI n) (fu + 1) x.1 (nI j) x.2 = f_X6_frees_L6 t g (nI b) (nI f) (nI n) fu x'.1 (nI (j + 1)) x'.2 ∧ (x'.1 = nI (ct (fun k => A 1 k = f ∧ n ≤ A 2 k) (j + 1)) ∧ RM x'.2 b (frj A f n (j + 1)) ∧ Out b s x'.2)
      have a1 : nI b + 64 + nI j = nI (b + 64 + j) := (congrArg (· + nI j) (nI_add b 64)).trans (nI_add _ _)
      have a2 : nI b + 128 + nI j = nI (b + 128 + j) := (congrArg (· + nI j) (nI_add b 128)).trans (nI_add _ _)
      rw [f_X6_frees_L6, if_neg (by rw [l_lit64 (by omega)]; omega), a1, a2, m_rd (by omega), nI_clamp (by omega), ho]
      by_cases e : A 1 j = f
      · have h8 : A 1 j ≠ 8 := by omega
        have hpl := (h1.2.2 (by omega)).2
        rw [e] at hpl
        have hp : x.2 (b + 128 + j) = nI (A 2 j) := by rw [hx2.ix hj (by rw [frj_at]; exact h8), frj_ne1 _ _ _ _ (by decide)]
        rw [if_neg h8, if_pos (by rw [e]), m_rd (by omega), nI_clamp (by omega), hp]
        by_cases e2 : A 2 j < n
        · rw [if_pos (by rw [nI_ltI (by omega) (by omega)]; exact e2), glet_eq, nI_1]
          refine ⟨x, rfl, ?_, hx2.congr (fun k i _ _ => frj_keep A (by omega) k i), hx3⟩
          rw [hx1, ct_succ, if_neg (by omega), Nat.add_zero]
        · rw [if_neg (by rw [nI_ltI (by omega) (by omega)]; exact e2), if_pos ⟨nI_pos' (by omega), by omega⟩, glet_eq, glet_eq, glet_eq, nI_1]
          have h3 := frj_next A (f := f) (n := n) (j := j) ⟨e, by omega⟩
          refine ⟨(_, _), rfl, ?_, RM_free hx2 hj h3.1 h3.2, hx3.up (by omega) (by omega)⟩
          show x.1 + 1 = _
          rw [hx1, nI_1, ct_succ, if_pos ⟨e, by omega⟩]
      · have : ¬ (if A 1 j = 8 then (-5 : Int32) else nI (A 1 j)) = nI f := by
          by_cases h8 : A 1 j = 8
          · rw [if_pos h8]; exact fun q => nI_m5 (k := f) (by omega) q.symm
          · rw [if_neg h8, nI_eq (by omega) (by omega)]; exact e
        rw [if_neg this, glet_eq, nI_1]
        refine ⟨x, rfl, ?_, hx2.congr (fun k i _ _ => frj_keep A (fun q => e q.1) k i), hx3⟩
        rw [hx1, ct_succ, if_neg (fun q => e q.1), Nat.add_zero]
    · obtain ⟨hx1, hx2, hx3⟩ := hx
      show ∃ r, f_X6_frees_L6 t g (nI b) (nI f) (nI n) (fu + 1) x.1 (nI 64) x.2 = some r ∧ _
      have a3 : nI (b + 192 + 6 * f) + 1 = nI (b + 192 + 6 * f + 1) := nI_add _ 1
      rw [f_X6_frees_L6, if_pos (by decide), M_at, gb_some, a3, m_rd (by omega), m_rd (by omega), nI_clamp (by omega), glet_eq, hx2.ln hf, frj_ne1 _ _ _ _ (by decide), hx1, ct_from hI hf n, nI_sub (by omega)]
      refine ⟨_, rfl, rfl, ?_, hx3.up (by omega) (by omega)⟩
      have h2 := RM_len (B' := as (frj A f n 64) 4 f (A 4 f - (A 4 f - n))) hx2 hf (as_eq _ _ _ _) (fun k' i q => as_ne _ _ q)
      refine h2.congr (fun k i hk hi => ?_)
      unfold fr as frj
      by_cases e1 : k = 1 ∧ A 1 i = f ∧ n ≤ A 2 i
      · have hi64 : i < 64 := by have := e1.1; subst this; exact hi
        rw [if_pos e1, if_neg (fun q => by omega), if_pos ⟨e1.1, hi64, e1.2⟩]
      · rw [if_neg e1]
        by_cases e2 : k = 4 ∧ i = f
        · rw [if_pos e2, if_pos e2]; omega
        · rw [if_neg e2, if_neg e2, if_neg (fun q => e1 ⟨q.1, q.2.2⟩)]
  obtain ⟨r, h1, h2, h3, h4⟩ := main
  exact ⟨r.2, by rw [h1, ← h2], h3, h4⟩
