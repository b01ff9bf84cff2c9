/-! MATHEMATICS, 2: the reference's rows at their places. -/
def RM (s : Nat → Int32) (b : Nat) (A : Nat → Nat → Nat) : Prop :=
  (∀ i, i < 64 → s (b + i) = nI (A 0 i) ∧ s (b + 64 + i) = (if A 1 i = 8 then -5 else nI (A 1 i)) ∧ (A 1 i ≠ 8 → s (b + 128 + i) = nI (A 2 i))) ∧
  (∀ f, f < 8 → s (b + 192 + 6 * f) = (if A 3 f = 0 then 0 else 1) ∧ s (b + 192 + 6 * f + 1) = nI (A 4 f) ∧ (A 3 f ≠ 0 → s (b + 192 + 6 * f + 2) = nI (A 5 f) ∧ s (b + 192 + 6 * f + 3) = nI (A 6 f) ∧ s (b + 192 + 6 * f + 4) = (if A 3 f = 2 then 1 else 0) ∧ s (b + 192 + 6 * f + 5) = nI (A 7 f))) ∧
  (∀ i, i < 2 → s (b + 240 + i) = nI (A 8 i)) ∧ (∀ i, i < 4 → s (b + 242 + i) = nI (A 9 i))
theorem nI_mul (a b : Nat) : nI a * nI b = nI (a * b) := (Int32.ofNat_mul a b).symm
theorem m_rd {α : Type} {x : Nat} (h : x < 1968) (k : Option α) : (if 0 ≤ nI x ∧ (nI x).toNatClampNeg < 1968 then k else none) = k := if_pos ⟨nI_pos' (by omega), by rw [nI_clamp (by omega)]; exact h⟩
theorem M_at (b f : Nat) : f_X6_at (nI b) (nI f) = some (nI (b + 192 + 6 * f)) := by
  unfold f_X6_at
  rw [show nI b + 192 = nI (b + 192) from nI_add b 192, show (6 : Int32) * nI f = nI (6 * f) from nI_mul 6 f, nI_add]
theorem M_in_in {f lo hi : Nat} (h1 : lo ≤ f) (h2 : f ≤ hi) (h : hi < 2 ^ 31) : f_X6_in (nI f) (nI lo) (nI hi) = some 1 := by
  unfold f_X6_in
  rw [if_neg (by rw [nI_ltI (by omega) (by omega)]; omega), if_neg (by rw [nI_ltI (by omega) (by omega)]; omega)]
theorem M_flag0 : f_X6_flag 0 = some 0 := by decide
theorem M_flag1 : f_X6_flag 1 = some 1 := by decide
section MOD
variable {s t g : Nat → Int32} {A : Nat → Nat → Nat} {b : Nat}
theorem RM.own (h : RM s b A) {i : Nat} (hi : i < 64) : s (b + 64 + i) = if A 1 i = 8 then -5 else nI (A 1 i) := (h.1 i hi).2.1
theorem RM.ix (h : RM s b A) {i : Nat} (hi : i < 64) (h8 : A 1 i ≠ 8) : s (b + 128 + i) = nI (A 2 i) := (h.1 i hi).2.2 h8
theorem RM.ex (h : RM s b A) {f : Nat} (hf : f < 8) : s (b + 192 + 6 * f) = if A 3 f = 0 then 0 else 1 := (h.2.1 f hf).1
theorem RM.ln (h : RM s b A) {f : Nat} (hf : f < 8) : s (b + 192 + 6 * f + 1) = nI (A 4 f) := (h.2.1 f hf).2.1
theorem RM.sz (h : RM s b A) {f : Nat} (hf : f < 8) (h0 : A 3 f ≠ 0) : s (b + 192 + 6 * f + 2) = nI (A 5 f) := ((h.2.1 f hf).2.2 h0).1
theorem RM.sf (h : RM s b A) {f : Nat} (hf : f < 8) (h0 : A 3 f ≠ 0) : s (b + 192 + 6 * f + 3) = nI (A 6 f) := ((h.2.1 f hf).2.2 h0).2.1
theorem RM.op (h : RM s b A) {f : Nat} (hf : f < 8) (h0 : A 3 f ≠ 0) : s (b + 192 + 6 * f + 4) = if A 3 f = 2 then 1 else 0 := ((h.2.1 f hf).2.2 h0).2.2.1
theorem RM.ld (h : RM s b A) {f : Nat} (hf : f < 8) (h0 : A 3 f ≠ 0) : s (b + 192 + 6 * f + 5) = nI (A 7 f) := ((h.2.1 f hf).2.2 h0).2.2.2
theorem M_isThere (h : RM s 0 A) {f : Nat} (hf : f < 8) : f_X6_isThere s t g (nI f) = some (if A 3 f = 0 then 0 else 1) := by
  unfold f_X6_isThere
  rw [show f_X6_in (nI f) 0 7 = some 1 from M_in_in (lo := 0) (hi := 7) (by omega) (by omega) (by decide), gb_some, if_neg (by decide), show f_X6_at 0 (nI f) = some (nI (0 + 192 + 6 * f)) from M_at 0 f, gb_some, m_rd (by omega), nI_clamp (by omega), h.ex hf]
  by_cases e : A 3 f = 0
  · rw [if_pos e]; decide
  · rw [if_neg e]; decide
theorem M_isThere_out {v : Int32} (h : v < 0 ∨ nI 8 ≤ v) : f_X6_isThere s t g v = some 0 := by
  unfold f_X6_isThere
  have : f_X6_in v 0 7 = some 0 := by
    unfold f_X6_in
    rcases h with h | h
    · rw [if_pos h]
    · by_cases h0 : v < 0
      · rw [if_pos h0]
      · have h2 : (7 : Int32) < v := by
          rw [Int32.lt_iff_toInt_lt]
          have h3 := Int32.le_iff_toInt_le.mp h
          have h4 : (nI 8).toInt = 8 := by decide
          have h5 : (7 : Int32).toInt = 7 := by decide
          omega
        rw [if_neg h0, if_pos h2]
  rw [this, gb_some, if_pos rfl]
theorem M_isOpen (h : RM s 0 A) {f : Nat} (hf : f < 8) (h0 : A 3 f ≠ 0) : f_X6_isOpen s t g (nI f) = some (if A 3 f = 2 then 1 else 0) := by
  unfold f_X6_isOpen
  rw [show f_X6_at 0 (nI f) = some (nI (0 + 192 + 6 * f)) from M_at 0 f, gb_some, show nI (0 + 192 + 6 * f) + 4 = nI (0 + 192 + 6 * f + 4) from nI_add _ 4, m_rd (by omega), nI_clamp (by omega), h.op hf h0]
  by_cases e : A 3 f = 2
  · rw [if_pos e]; decide
  · rw [if_neg e]; decide
theorem M_lent (h : RM s b A) (hI : IA A) (hb : b ≤ 1722) {f : Nat} (hf : f < 8) : f_X6_lent s t g (nI b) (nI f) = some (nI (A 4 f - A 5 f)) := by
  have hm := hI.2.2.2.1 f hf
  unfold f_X6_lent
  rw [M_at, gb_some, m_rd (by omega), nI_clamp (by omega), h.ex hf]
  by_cases e : A 3 f = 0
  · rw [if_pos e, if_neg (by decide), hm.2.2.2.2.2.2 e, Nat.zero_sub]; rfl
  · rw [if_neg e, if_pos rfl, show nI (b + 192 + 6 * f) + 1 = nI (b + 192 + 6 * f + 1) from nI_add _ 1, show nI (b + 192 + 6 * f) + 2 = nI (b + 192 + 6 * f + 2) from nI_add _ 2, m_rd (by omega), m_rd (by omega), nI_clamp (by omega), nI_clamp (by omega), h.ln hf, h.sz hf e, nI_sub hm.2.1]
theorem M_isFree (h : RM s b A) (hI : IA A) (hb : b ≤ 1722) {k : Nat} (hk : k < 64) : f_X6_isFree s t g (nI b) (nI k) = some (if A 1 k = 8 then 1 else 0) := by
  unfold f_X6_isFree
  have h3 := (hI.1 k hk).1
  rw [if_neg (by rw [l_lit64 (by omega)]; omega), show nI b + 64 + nI k = nI (b + 64 + k) from (congrArg (· + nI k) (nI_add b 64)).trans (nI_add _ _), m_rd (by omega), nI_clamp (by omega), h.own hk]
  by_cases e : A 1 k = 8
  · rw [if_pos e, if_pos e, if_pos rfl]
  · rw [if_neg e, if_neg e, if_neg (nI_m5 (by omega))]
theorem M_isFree_out {k : Nat} (hk : 64 ≤ k) (h2 : k < 2 ^ 31) {v : Int32} : f_X6_isFree s t g v (nI k) = some 0 := by
  unfold f_X6_isFree
  rw [if_pos ((l_lit64 h2).mpr hk)]
theorem M_flag (P : Prop) [Decidable P] : f_X6_flag (if P then 1 else 0) = some (if P then 1 else 0) := by
  by_cases h : P
  · rw [if_pos h]; decide
  · rw [if_neg h]; decide
theorem nI_if (P : Prop) [Decidable P] : (if P then (1 : Int32) else 0) = nI (if P then 1 else 0) := by
  by_cases h : P
  · rw [if_pos h, if_pos h]; rfl
  · rw [if_neg h, if_neg h]; rfl
theorem M_free (h : RM s b A) (hI : IA A) (hb : b ≤ 1722) : f_X6_free s t g (nI b) = some (nI (ct (fun k => A 1 k = 8) 64)) := by
  unfold f_X6_free
  refine loopN (fun fu j => f_X6_free_L4 s t g (nI b) fu (nI (ct (fun k => A 1 k = 8) j)) (nI j)) 64 _ (fun fu j hj => ?_) (fun fu => ?_) gFu 0 (by omega) (by decide)
  · show f_X6_free_L4 s t g (nI b) (fu + 1) _ _ = _
    rw [f_X6_free_L4, if_neg (by rw [l_lit64 (by omega)]; omega), M_isFree h hI hb hj, gb_some, M_flag, gb_some, glet_eq, glet_eq, nI_1, nI_if, nI_add]
    rfl
  · show f_X6_free_L4 s t g (nI b) (fu + 1) _ _ = _
    rw [f_X6_free_L4, if_pos (by decide)]
theorem M_sumOfLent (h : RM s b A) (hI : IA A) (hb : b ≤ 1722) : f_X6_sumOfLent s t g (nI b) = some (nI (sm (fun f => A 4 f - A 5 f) 8)) := by
  unfold f_X6_sumOfLent
  refine loopN (fun fu j => f_X6_sumOfLent_L4 s t g (nI b) fu (nI (sm (fun f => A 4 f - A 5 f) j)) (nI j)) 8 _ (fun fu j hj => ?_) (fun fu => ?_) gFu 0 (by omega) (by decide)
  · show f_X6_sumOfLent_L4 s t g (nI b) (fu + 1) _ _ = _
    rw [f_X6_sumOfLent_L4, if_neg (by rw [l_lit8 (by omega)]; omega), M_lent h hI hb hj, gb_some, glet_eq, glet_eq, nI_1, nI_add]
    rfl
  · show f_X6_sumOfLent_L4 s t g (nI b) (fu + 1) _ _ = _
    rw [f_X6_sumOfLent_L4, if_pos (by decide)]
theorem M_many (h : RM s 0 A) : f_X6_many s t g = some (nI (ct (fun f => A 3 f ≠ 0) 8)) := by
  unfold f_X6_many
  refine loopN (fun fu j => f_X6_many_L4 s t g fu (nI (ct (fun f => A 3 f ≠ 0) j)) (nI j)) 8 _ (fun fu j hj => ?_) (fun fu => ?_) gFu 0 (by omega) (by decide)
  · show f_X6_many_L4 s t g (fu + 1) _ _ = _
    rw [f_X6_many_L4, if_neg (by rw [l_lit8 (by omega)]; omega), show f_X6_at 0 (nI j) = some (nI (0 + 192 + 6 * j)) from M_at 0 j, gb_some, m_rd (by omega), nI_clamp (by omega), h.ex hj, glet_eq, glet_eq, nI_1]
    have : (if A 3 j = 0 then (0 : Int32) else 1) = nI (if A 3 j ≠ 0 then 1 else 0) := by
      by_cases e : A 3 j = 0
      · rw [if_pos e, if_neg (fun q => q e)]; rfl
      · rw [if_neg e, if_pos e]; rfl
    rw [this, nI_add]
    rfl
  · show f_X6_many_L4 s t g (fu + 1) _ _ = _
    rw [f_X6_many_L4, if_pos (by decide)]
theorem M_opened (h : RM s 0 A) : f_X6_opened s t g = some (nI (ct (fun f => A 3 f = 2) 8)) := by
  unfold f_X6_opened
  refine loopN (fun fu j => f_X6_opened_L4 s t g fu (nI (ct (fun f => A 3 f = 2) j)) (nI j)) 8 _ (fun fu j hj => ?_) (fun fu => ?_) gFu 0 (by omega) (by decide)
  · show f_X6_opened_L4 s t g (fu + 1) _ _ = _
    rw [f_X6_opened_L4, if_neg (by rw [l_lit8 (by omega)]; omega), M_isThere h hj, gb_some]
    have e2 : nI (ct (fun f => A 3 f = 2) (j + 1)) = nI (ct (fun f => A 3 f = 2) j) + nI (if A 3 j = 2 then 1 else 0) := by rw [nI_add]; rfl
    show _ = f_X6_opened_L4 s t g fu (nI (ct (fun f => A 3 f = 2) (j + 1))) (nI (j + 1))
    rw [e2]
    by_cases e : A 3 j = 0
    · rw [if_pos e, if_pos rfl, M_flag0, gb_some, glet_eq, glet_eq, nI_1, if_neg (by omega)]; rfl
    · rw [if_neg e, if_neg (by decide), M_isOpen h hj e, gb_some]
      by_cases e3 : A 3 j = 2
      · rw [if_pos e3, if_neg (by decide), M_flag1, gb_some, glet_eq, glet_eq, nI_1, nI_1, if_pos e3, nI_add]
      · rw [if_neg e3, if_pos rfl, M_flag0, gb_some, glet_eq, glet_eq, nI_1, if_neg e3]; rfl
  · show f_X6_opened_L4 s t g (fu + 1) _ _ = _
    rw [f_X6_opened_L4, if_pos (by decide)]
end MOD
