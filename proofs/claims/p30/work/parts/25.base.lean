/-! MATHEMATICS, 1: numbers, sums, loops; what a disk is (A: rows as in the class, 8 = the owner of a free block); rows of the class at their places. -/
theorem l_lit8 {k : Nat} (h : k < 2 ^ 31) : (8 : Int32) ≤ nI k ↔ 8 ≤ k := nI_leI (a := 8) (by decide) h
theorem l_lit64 {k : Nat} (h : k < 2 ^ 31) : (64 : Int32) ≤ nI k ↔ 64 ≤ k := nI_leI (a := 64) (by decide) h
theorem nI_m5 {k : Nat} (h : k < 2 ^ 31) : ¬ nI k = -5 := by
  intro e
  have h1 := congrArg Int32.toInt e
  rw [nI_toInt h] at h1
  have h2 : (-5 : Int32).toInt = -5 := by decide
  omega
theorem nI_sub {a b : Nat} (h : b ≤ a) : nI a - nI b = nI (a - b) := by
  have h1 : nI a = nI (a - b) + nI b := by rw [nI_add, Nat.sub_add_cancel h]
  rw [h1, Int32.add_sub_cancel]
/-- an int is one of the first n numbers, or outside -/
theorem i_cases (v : Int32) (n : Nat) (hn : n < 2 ^ 31) : (∃ i, i < n ∧ v = nI i) ∨ (v < 0 ∨ nI n ≤ v) := by
  by_cases h0 : v < 0
  · exact Or.inr (Or.inl h0)
  · obtain ⟨j, hj, rfl⟩ := nI_of h0
    by_cases h : j < n
    · exact Or.inl ⟨j, h, rfl⟩
    · exact Or.inr (Or.inr ((nI_leI hn hj).mpr (by omega)))
theorem f_at_in {n : Nat} (hn : n < 2 ^ 31) (f : Nat → Int32) {i : Nat} (h : i < n) : f_X3_at n f (nI i) = some (f i) := by
  rw [f_X3_at_in (nI_pos' (by omega)) (by rw [nI_clamp (by omega)]; exact h) (by rw [nI_leI hn (by omega)]; omega), nI_clamp (by omega)]
theorem f_at_out {n : Nat} (f : Nat → Int32) {v : Int32} (h : v < 0 ∨ nI n ≤ v) : f_X3_at n f v = some 0 := by
  unfold f_X3_at
  rcases h with h | h
  · rw [if_pos h]
  · by_cases h0 : v < 0
    · rw [if_pos h0]
    · rw [if_neg h0, if_pos h]
theorem f_holds_in {n : Nat} (hn : n < 2 ^ 31) (f : Nat → Int32) {i : Nat} (h : i < n) (v : Int32) : f_X3_holds n f (nI i) v = some (if f i = v then 1 else 0) := by
  unfold f_X3_holds
  rw [if_neg (nI_pos (by omega)), if_neg (by rw [nI_leI hn (by omega)]; omega), if_pos ⟨nI_pos' (by omega), by rw [nI_clamp (by omega)]; exact h⟩, nI_clamp (by omega)]
  by_cases h1 : f i = v
  · rw [if_pos h1, if_pos h1]
  · rw [if_neg h1, if_neg h1]
theorem f_holds_t {n : Nat} (hn : n < 2 ^ 31) (f : Nat → Int32) {i : Nat} (h : i < n) {v : Int32} (e : f i = v) : f_X3_holds n f (nI i) v = some 1 := by
  rw [f_holds_in hn f h, if_pos e]
theorem f_holds_f {n : Nat} (hn : n < 2 ^ 31) (f : Nat → Int32) {i : Nat} (h : i < n) {v : Int32} (e : ¬ f i = v) : f_X3_holds n f (nI i) v = some 0 := by
  rw [f_holds_in hn f h, if_neg e]
theorem f_holds_out {n : Nat} (f : Nat → Int32) {v : Int32} (h : v < 0 ∨ nI n ≤ v) (w : Int32) : f_X3_holds n f v w = some 0 := by
  unfold f_X3_holds
  rcases h with h | h
  · rw [if_pos h]
  · by_cases h0 : v < 0
    · rw [if_pos h0]
    · rw [if_neg h0, if_pos h]
theorem f_put_in {n : Nat} (hn : n < 2 ^ 31) (f : Nat → Int32) {i : Nat} (h : i < n) (v : Int32) : f_X3_put n f (nI i) v = some (upd f i v) := by
  unfold f_X3_put glet
  rw [if_neg (nI_pos (by omega)), if_neg (by rw [nI_leI hn (by omega)]; omega), if_pos ⟨nI_pos' (by omega), by rw [nI_clamp (by omega)]; exact h⟩, nI_clamp (by omega)]
theorem f_grow_in {n : Nat} (hn : n < 2 ^ 31) (f : Nat → Int32) {i : Nat} (h : i < n) (v : Int32) : f_X3_grow n f (nI i) v = some (upd f i (f i + v)) := by
  unfold f_X3_grow glet
  rw [if_neg (nI_pos (by omega)), if_neg (by rw [nI_leI hn (by omega)]; omega), if_pos ⟨nI_pos' (by omega), by rw [nI_clamp (by omega)]; exact h⟩, if_pos ⟨nI_pos' (by omega), by rw [nI_clamp (by omega)]; exact h⟩, nI_clamp (by omega)]
theorem gb_some {α β : Type} (v : α) (f : α → Option β) : gb (some v) f = f v := rfl
theorem gbb2_some {α1 α2 β : Type} (a : α1) (b : α2) (f : α1 → α2 → Option β) : gbb2 (some (a, b)) f = f a b := rfl
theorem gbb3_some {α1 α2 α3 β : Type} (a : α1) (b : α2) (c : α3) (f : α1 → α2 → α3 → Option β) : gbb3 (some (a, b, c)) f = f a b c := rfl
theorem gbb4_some {α1 α2 α3 α4 β : Type} (a : α1) (b : α2) (c : α3) (d : α4) (f : α1 → α2 → α3 → α4 → Option β) : gbb4 (some (a, b, c, d)) f = f a b c d := rfl
theorem glet_eq {α β : Type} (a : α) (f : α → β) : glet a f = f a := rfl
/-- a loop that counts j up to N, over states x -/
theorem loopR {σ ρ : Type} (F : Nat → Nat → σ → Option ρ) (N : Nat) (Inv : Nat → σ → Prop) (Post : ρ → Prop) (hs : ∀ fu j x, j < N → Inv j x → (∃ x', F (fu + 1) j x = F fu (j + 1) x' ∧ Inv (j + 1) x') ∨ (∃ r, F (fu + 1) j x = some r ∧ Post r)) (he : ∀ fu x, Inv N x → ∃ r, F (fu + 1) N x = some r ∧ Post r) : ∀ (fu j : Nat) (x : σ), j ≤ N → N < j + fu → Inv j x → ∃ r, F fu j x = some r ∧ Post r := by
  intro fu
  induction fu with
  | zero => intro j x h1 h2; omega
  | succ fu ih =>
    intro j x h1 h2 hI
    by_cases hj : j < N
    · rcases hs fu j x hj hI with ⟨x', e, hI'⟩ | h
      · rw [e]; exact ih (j + 1) x' hj (by omega) hI'
      · exact h
    · obtain rfl : j = N := by omega
      exact he fu x hI
/-- the same where the state is a function of j, and the answer is known -/
theorem loopN {ρ : Type} (F : Nat → Nat → Option ρ) (N : Nat) (r : ρ) (hs : ∀ fu j, j < N → F (fu + 1) j = F fu (j + 1)) (he : ∀ fu, F (fu + 1) N = some r) : ∀ (fu j : Nat), j ≤ N → N < j + fu → F fu j = some r := by
  intro fu
  induction fu with
  | zero => intro j h1 h2; omega
  | succ fu ih =>
    intro j h1 h2
    by_cases hj : j < N
    · rw [hs fu j hj]; exact ih (j + 1) hj (by omega)
    · obtain rfl : j = N := by omega
      exact he fu
-- sums and counts
def sm (w : Nat → Nat) : Nat → Nat
  | 0 => 0
  | n + 1 => sm w n + w n
def ct (P : Nat → Prop) [DecidablePred P] (n : Nat) : Nat := sm (fun i => if P i then 1 else 0) n
theorem sm_succ (w : Nat → Nat) (n : Nat) : sm w (n + 1) = sm w n + w n := rfl
theorem sm_congr {w v : Nat → Nat} {n : Nat} (h : ∀ i, i < n → w i = v i) : sm w n = sm v n := by
  induction n with
  | zero => rfl
  | succ n ih => rw [sm_succ, sm_succ, ih (fun i hi => h i (by omega)), h n (by omega)]
theorem sm_add (w v : Nat → Nat) (n : Nat) : sm (fun i => w i + v i) n = sm w n + sm v n := by
  induction n with
  | zero => rfl
  | succ n ih => rw [sm_succ, sm_succ, sm_succ, ih]; omega
theorem sm_zero (n : Nat) : sm (fun _ => 0) n = 0 := by
  induction n with
  | zero => rfl
  | succ n ih => rw [sm_succ, ih]
theorem sm_const (c n : Nat) : sm (fun _ => c) n = n * c := by
  induction n with
  | zero => simp [sm]
  | succ n ih => rw [sm_succ, ih, Nat.succ_mul]
theorem sm_le {w v : Nat → Nat} {n : Nat} (h : ∀ i, i < n → w i ≤ v i) : sm w n ≤ sm v n := by
  induction n with
  | zero => exact Nat.le_refl _
  | succ n ih => rw [sm_succ, sm_succ]; have := ih (fun i hi => h i (by omega)); have := h n (by omega); omega
theorem sm_mem {w : Nat → Nat} {n i : Nat} (h : i < n) : w i ≤ sm w n := by
  induction n with
  | zero => omega
  | succ n ih =>
    rw [sm_succ]
    by_cases hi : i = n
    · subst hi; omega
    · have := ih (by omega); omega
theorem sm_swap (F : Nat → Nat → Nat) (n N : Nat) : sm (fun k => sm (fun i => F k i) n) N = sm (fun i => sm (fun k => F k i) N) n := by
  induction N with
  | zero => simp [sm, sm_zero]
  | succ N ih =>
    rw [sm_succ, ih, ← sm_add]
    exact sm_congr (fun i _ => by rw [sm_succ])
theorem sm_single {a N : Nat} (h : a < N) (w : Nat → Nat) : sm (fun k => if k = a then w k else 0) N = w a := by
  induction N with
  | zero => omega
  | succ N ih =>
    rw [sm_succ]
    by_cases ha : a = N
    · subst ha
      rw [if_pos rfl, sm_congr (v := fun _ => 0) (fun i hi => by rw [if_neg (by omega)]), sm_zero, Nat.zero_add]
    · rw [ih (by omega), if_neg (fun e => ha e.symm), Nat.add_zero]
theorem sm_pos {w : Nat → Nat} {n : Nat} (h : 0 < sm w n) : ∃ i, i < n ∧ 0 < w i := by
  induction n with
  | zero => simp [sm] at h
  | succ n ih =>
    rw [sm_succ] at h
    by_cases h1 : 0 < w n
    · exact ⟨n, by omega, h1⟩
    · obtain ⟨i, hi, h2⟩ := ih (by omega)
      exact ⟨i, by omega, h2⟩
/-- summing over indices, and over the places that they name -/
theorem sm_reindex {n N : Nat} (b : Nat → Nat) (own : Nat → Prop) [DecidablePred own] (ix : Nat → Nat) (h1 : ∀ i, i < n → b i < N ∧ own (b i) ∧ ix (b i) = i) (h2 : ∀ k, k < N → own k → ix k < n ∧ b (ix k) = k) (w : Nat → Nat) : sm (fun i => w (b i)) n = sm (fun k => if own k then w k else 0) N := by
  have e1 : sm (fun i => w (b i)) n = sm (fun i => sm (fun k => if k = b i then w k else 0) N) n :=
    sm_congr (fun i hi => (sm_single (h1 i hi).1 w).symm)
  rw [e1, ← sm_swap (fun k i => if k = b i then w k else 0)]
  refine sm_congr (fun k hk => ?_)
  by_cases ho : own k
  · rw [if_pos ho]
    obtain ⟨h3, h4⟩ := h2 k hk ho
    have : sm (fun i => if k = b i then w k else 0) n = sm (fun i => if i = ix k then w k else 0) n := by
      refine sm_congr (fun i hi => ?_)
      by_cases h5 : k = b i
      · rw [if_pos h5, if_pos (by rw [h5]; exact ((h1 i hi).2.2).symm)]
      · rw [if_neg h5, if_neg (fun e => h5 (by rw [e, h4]))]
    rw [this, sm_single h3 (fun _ => w k)]
  · rw [if_neg ho, sm_congr (v := fun _ => 0) (fun i hi => by rw [if_neg (fun e => ho (by rw [e]; exact (h1 i hi).2.1))]), sm_zero]
-- what a disk is: rows 0 stamps, 1 owners (8: free), 2 places, 3 modes (0 absent, 1 closed, 2 open), 4 lengths, 5 sizes, 6 safe sizes, 7 lends, 8 settings, 9 totals
def cv (A : Nat → Nat → Nat) (k i : Nat) : Int32 := if k = 1 then (if A 1 i = 8 then -5 else nI (A 1 i)) else if k = 2 then (if A 1 i = 8 then -5 else nI (A 2 i)) else nI (A k i)
def RC (d : Nat → Nat → Int32) (A : Nat → Nat → Nat) : Prop := ∀ k i, k < 10 → i < rl k → d k i = cv A k i
def IA (A : Nat → Nat → Nat) : Prop :=
  (∀ k, k < 64 → A 1 k ≤ 8 ∧ A 0 k ≤ 99 ∧ (A 1 k < 8 → A 3 (A 1 k) ≠ 0 ∧ A 2 k < A 4 (A 1 k))) ∧
  (∀ f i, f < 8 → i < A 4 f → ∃ k, k < 64 ∧ A 1 k = f ∧ A 2 k = i) ∧
  (∀ k j, k < 64 → j < 64 → A 1 k < 8 → A 1 j = A 1 k → A 2 j = A 2 k → j = k) ∧
  (∀ f, f < 8 → A 3 f ≤ 2 ∧ A 5 f ≤ A 4 f ∧ A 4 f ≤ 64 ∧ 1 ≤ A 7 f ∧ A 7 f ≤ 16 ∧ (A 3 f ≠ 0 → A 6 f ≤ A 5 f) ∧ (A 3 f = 0 → A 4 f = 0)) ∧
  A 8 0 ≤ 16 ∧ A 8 1 ≤ 1
section CLS
variable {d : Nat → Nat → Int32} {A : Nat → Nat → Nat}
theorem RC.own (h : RC d A) {i : Nat} (hi : i < 64) : d 1 i = if A 1 i = 8 then -5 else nI (A 1 i) := (h 1 i (by omega) hi).trans rfl
theorem RC.ix (h : RC d A) {i : Nat} (hi : i < 64) : d 2 i = if A 1 i = 8 then -5 else nI (A 2 i) := (h 2 i (by omega) hi).trans rfl
theorem RC.st (h : RC d A) {i : Nat} (hi : i < 64) : d 0 i = nI (A 0 i) := (h 0 i (by omega) hi).trans rfl
theorem RC.md (h : RC d A) {i : Nat} (hi : i < 8) : d 3 i = nI (A 3 i) := (h 3 i (by omega) hi).trans rfl
theorem RC.ln (h : RC d A) {i : Nat} (hi : i < 8) : d 4 i = nI (A 4 i) := (h 4 i (by omega) hi).trans rfl
theorem RC.sz (h : RC d A) {i : Nat} (hi : i < 8) : d 5 i = nI (A 5 i) := (h 5 i (by omega) hi).trans rfl
theorem RC.sf (h : RC d A) {i : Nat} (hi : i < 8) : d 6 i = nI (A 6 i) := (h 6 i (by omega) hi).trans rfl
theorem RC.ld (h : RC d A) {i : Nat} (hi : i < 8) : d 7 i = nI (A 7 i) := (h 7 i (by omega) hi).trans rfl
theorem RC.sg (h : RC d A) {i : Nat} (hi : i < 2) : d 8 i = nI (A 8 i) := (h 8 i (by omega) hi).trans rfl
theorem RC.tt (h : RC d A) {i : Nat} (hi : i < 4) : d 9 i = nI (A 9 i) := (h 9 i (by omega) hi).trans rfl
theorem C_isFile (h : RC d A) (hI : IA A) {f : Nat} (hf : f < 8) : f_X0_isFile d (nI f) = some (if A 3 f = 0 then 0 else 1) := by
  have hm := (hI.2.2.2.1 f hf).1
  unfold f_X0_isFile
  rw [f_holds_in (by decide) _ hf, gb_some, f_holds_in (by decide) _ hf, gb_some, h.md hf]
  rcases (show A 3 f = 0 ∨ A 3 f = 1 ∨ A 3 f = 2 by omega) with e | e | e <;> rw [e] <;> decide
theorem C_isFile_out {v : Int32} (h : v < 0 ∨ nI 8 ≤ v) : f_X0_isFile d v = some 0 := by
  unfold f_X0_isFile
  rw [f_holds_out _ h, gb_some, f_holds_out _ h, gb_some, if_pos rfl, if_pos rfl]
theorem C_isOpen (h : RC d A) (hI : IA A) {f : Nat} (hf : f < 8) : f_X0_isOpen d (nI f) = some (if A 3 f = 2 then 1 else 0) := by
  have hm := (hI.2.2.2.1 f hf).1
  unfold f_X0_isOpen
  rw [f_holds_in (by decide) _ hf, gb_some, h.md hf]
  rcases (show A 3 f = 0 ∨ A 3 f = 1 ∨ A 3 f = 2 by omega) with e | e | e <;> rw [e] <;> decide
theorem C_lentOf (h : RC d A) (hI : IA A) {f : Nat} (hf : f < 8) : f_X0_lentOf d (nI f) = some (nI (A 4 f - A 5 f)) := by
  have hm := (hI.2.2.2.1 f hf).2.1
  unfold f_X0_lentOf
  rw [f_at_in (by decide) _ hf, gb_some, f_at_in (by decide) _ hf, gb_some, h.ln hf, h.sz hf, nI_sub hm]
theorem C_filesThatAre (h : RC d A) (hI : IA A) (m : Nat) (hm : m < 3) : f_X0_filesThatAre d (nI m) = some (nI (ct (fun f => A 3 f = m) 8)) := by
  unfold f_X0_filesThatAre
  refine loopN (fun fu j => f_X0_filesThatAre_L4 d (nI m) fu (nI (ct (fun f => A 3 f = m) j)) (nI j)) 8 _ (fun fu j hj => ?_) (fun fu => ?_) gFu 0 (by omega) (by decide)
  · have h3 := (hI.2.2.2.1 j hj).1
    show f_X0_filesThatAre_L4 d (nI m) (fu + 1) _ _ = _
    rw [f_X0_filesThatAre_L4, if_neg (by rw [l_lit8 (by omega)]; omega)]
    by_cases e : A 3 j = m
    · rw [f_holds_t (by decide) _ hj (by rw [h.md hj, e]), gb_some, if_neg (by decide), glet_eq, glet_eq, nI_1, nI_1]
      show _ = f_X0_filesThatAre_L4 d (nI m) fu (nI (sm _ (j + 1))) (nI (j + 1))
      rw [sm_succ, if_pos e]; rfl
    · rw [f_holds_f (by decide) _ hj (by rw [h.md hj, nI_eq (by omega) (by omega)]; exact e), gb_some, if_pos rfl, glet_eq, nI_1]
      show _ = f_X0_filesThatAre_L4 d (nI m) fu (nI (sm _ (j + 1))) (nI (j + 1))
      rw [sm_succ, if_neg e]; rfl
  · show f_X0_filesThatAre_L4 d (nI m) (fu + 1) _ _ = _
    rw [f_X0_filesThatAre_L4, if_pos (by decide)]
theorem C_freeBlocks (h : RC d A) (hI : IA A) : f_X0_freeBlocks d = some (nI (ct (fun k => A 1 k = 8) 64)) := by
  unfold f_X0_freeBlocks
  refine loopN (fun fu j => f_X0_freeBlocks_L4 d fu (nI (ct (fun k => A 1 k = 8) j)) (nI j)) 64 _ (fun fu j hj => ?_) (fun fu => ?_) gFu 0 (by omega) (by decide)
  · have h3 := (hI.1 j hj).1
    show f_X0_freeBlocks_L4 d (fu + 1) _ _ = _
    rw [f_X0_freeBlocks_L4, if_neg (by rw [l_lit64 (by omega)]; omega), f_holds_in (by decide) _ hj, gb_some, h.own hj]
    by_cases e : A 1 j = 8
    · rw [if_pos e, if_pos rfl, if_neg (by decide), glet_eq, glet_eq, nI_1, nI_1]
      show _ = f_X0_freeBlocks_L4 d fu (nI (sm _ (j + 1))) (nI (j + 1))
      rw [sm_succ, if_pos e]; rfl
    · rw [if_neg e, if_neg (nI_m5 (by omega)), if_pos rfl, glet_eq, nI_1]
      show _ = f_X0_freeBlocks_L4 d fu (nI (sm _ (j + 1))) (nI (j + 1))
      rw [sm_succ, if_neg e]; rfl
  · show f_X0_freeBlocks_L4 d (fu + 1) _ _ = _
    rw [f_X0_freeBlocks_L4, if_pos (by decide)]
theorem C_dataBlocks (h : RC d A) : f_X0_dataBlocks d = some (nI (sm (A 5) 8)) := by
  unfold f_X0_dataBlocks
  refine loopN (fun fu j => f_X0_dataBlocks_L4 d fu (nI (sm (A 5) j)) (nI j)) 8 _ (fun fu j hj => ?_) (fun fu => ?_) gFu 0 (by omega) (by decide)
  · show f_X0_dataBlocks_L4 d (fu + 1) _ _ = _
    rw [f_X0_dataBlocks_L4, if_neg (by rw [l_lit8 (by omega)]; omega), f_at_in (by decide) _ hj, gb_some, h.sz hj, glet_eq, glet_eq, nI_1, nI_add]
    rfl
  · show f_X0_dataBlocks_L4 d (fu + 1) _ _ = _
    rw [f_X0_dataBlocks_L4, if_pos (by decide)]
end CLS
