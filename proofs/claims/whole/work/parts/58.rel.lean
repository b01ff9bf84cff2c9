/-! MATHEMATICS, 34: what holds of both between calls; an act that is recorded; one that is refused. -/
section REL
variable {A : Nat → Nat → Nat} {s t g : Nat → Int32}
def rT (cs : Nat → Int32) (len : Int32) (t g6 : Nat → Int32) : Prop := ∃ n : Nat, n ≤ 80 ∧ len = nI n ∧ g6 2 = nI n ∧ ∀ i, i < n → cs i = t i ∧ ∃ c : Nat, 32 ≤ c ∧ c ≤ 126 ∧ t i = nI c
def rS (D : Nat → Nat → Nat → Int32) (sav : Int32) (s g6 : Nat → Int32) : Prop := sav = g6 1 ∧ (sav = 0 ∨ ∃ B, RC (D 2) B ∧ RM s (246 * 6) B ∧ IA B)
def rH (D : Nat → Nat → Nat → Int32) (old hsz : Int32) (s g6 : Nat → Int32) : Prop := ∃ o n : Nat, o < 5 ∧ n ≤ 5 ∧ old = nI o ∧ hsz = nI n ∧ g6 0 = nI n ∧ hst D o n s
def RR : lawR := fun D sav old hsz cs len _ s t g6 => (∃ A, RC (D 0) A ∧ RM s 0 A ∧ IA A) ∧ rH D old hsz s g6 ∧ rS D sav s g6 ∧ rT cs len t g6
theorem hst.congr {D D' : Nat → Nat → Nat → Int32} {o n : Nat} {s s' : Nat → Int32} (h : hst D o n s) (h1 : ∀ i, 3 ≤ i → D' i = D i) (h2 : ∀ x, 246 ≤ x → x < 1476 → s' x = s x) (hn : n ≤ 5) : hst D' o n s' := by
  intro j hj
  obtain ⟨B, q1, q2, q3⟩ := h j hj
  exact ⟨B, by rw [h1 _ (by omega)]; exact q1, q2.shift (fun x hx => h2 _ (by omega) (by omega)), q3⟩
theorem rH.congr {D D' : Nat → Nat → Nat → Int32} {old hsz : Int32} {s s' g6 g6' : Nat → Int32} (h : rH D old hsz s g6) (h1 : ∀ i, 3 ≤ i → D' i = D i) (h2 : ∀ x, 246 ≤ x → x < 1476 → s' x = s x) (h3 : g6' 0 = g6 0) : rH D' old hsz s' g6' := by
  obtain ⟨o, n, q1, q2, q3, q4, q5, q6⟩ := h
  exact ⟨o, n, q1, q2, q3, q4, h3.trans q5, q6.congr h1 h2 q2⟩
theorem rS.congr {D D' : Nat → Nat → Nat → Int32} {sav : Int32} {s s' g6 g6' : Nat → Int32} (h : rS D sav s g6) (h1 : D' 2 = D 2) (h2 : ∀ x, 1476 ≤ x → x < 1722 → s' x = s x) (h3 : g6' 1 = g6 1) : rS D' sav s' g6' := by
  obtain ⟨q1, q2⟩ := h
  refine ⟨q1.trans h3.symm, ?_⟩
  rcases q2 with q2 | ⟨B, z1, z2, z3⟩
  · exact Or.inl q2
  · exact Or.inr ⟨B, by rw [h1]; exact z1, z2.shift (fun x hx => h2 _ (by omega) (by omega)), z3⟩
theorem rT.congr {cs : Nat → Int32} {len : Int32} {t g6 g6' : Nat → Int32} (h : rT cs len t g6) (h3 : g6' 2 = g6 2) : rT cs len t g6' := by
  obtain ⟨n, q1, q2, q3, q4⟩ := h
  exact ⟨n, q1, q2, h3.trans q3, q4⟩
theorem RM.keep {s' : Nat → Int32} (h : RM s 0 A) (e : ∀ x, x < 246 → s' x = s x) : RM s' 0 A := h.shift (fun x hx => by rw [Nat.zero_add]; exact e x hx)
/-- the state is recorded, then an act is done -/
theorem act_both {D : Nat → Nat → Nat → Int32} {sav old hsz : Int32} {cs : Nat → Int32} {len : Int32} {gc : Nat → Int32} {s t g6 : Nat → Int32} (hc : RC (D 0) A) (hm : RM s 0 A) (hI : IA A) (hH : rH D old hsz s g6) (hS : rS D sav s g6) (hT : rT cs len t g6) {F : (Nat → Nat → Int32) → Option (Int32 × (Nat → Nat → Int32))} {G : (Nat → Int32) → (Nat → Int32) → (Nat → Int32) → Option (Int32 × (Nat → Int32))} (hA : ∃ (r : Nat) (d' : Nat → Nat → Int32) (A' : Nat → Nat → Nat), r < 2 ^ 31 ∧ F (D 0) = some (nI r, d') ∧ RC d' A' ∧ IA A' ∧ ∀ s1 g1, RM s1 0 A → ∃ s2, G s1 t g1 = some (nI r, s2) ∧ RM s2 0 A' ∧ Out 0 s1 s2) : ∃ (r : Int32) (D' : Nat → Nat → Nat → Int32) (old' : Int32) (hsz' : Int32) (s' : Nat → Int32) (g6' : Nat → Int32), glet (dcp D 1 0) (fun D1 => gbb2 (F (D1 0)) (fun r2 w3 => glet (va_up D1 0 w3) (fun D4 => gbb4 (f_X5_recorded D4 sav old hsz cs len gc r2) (fun r5 D6 old7 hsz8 => some (r5, D6, old7, hsz8))))) = some (r, D', old', hsz') ∧ gbb2 (f_X6_records s t g6) (fun s3 g4 => gbb2 (G s3 t g4) (fun r5 s6 => some (r5, s6, g4))) = some (r, s', g6') ∧ RR D' sav old' hsz' cs len gc s' t g6' := by
  obtain ⟨o, n, h1, h2, h3, h4, h5, h6⟩ := hH
  obtain ⟨r, d', A', q1, q2, q3, q4, q5⟩ := hA
  have e0 : dcp D 1 0 0 = D 0 := by unfold dcp; rw [up_ne _ _ (by decide)]
  have hh : hst (va_up (dcp D 1 0) 0 d') o n s := h6.congr (fun i hi => by unfold dcp; rw [up_ne _ _ (by omega), up_ne _ _ (by omega)]) (fun _ _ _ => rfl) h2
  have hc1 : RC (va_up (dcp D 1 0) 0 d' 1) A := by
    unfold dcp
    rw [up_ne _ _ (by decide), up_eq]; exact hc
  obtain ⟨D2, o2, n2, s2, g2, k1, k2, k3, k4, k5, k6, k7, k8, k9, k10⟩ := rec_both hh h1 h2 (q := 1) (by decide) hc1 hm hI h5 sav cs len gc
  obtain ⟨s3, m1, m2, m3⟩ := q5 s2 g2 (hm.keep k8)
  have eD0 : D2 0 = d' := by rw [k7 0 (by decide), up_eq]
  have eD2 : D2 2 = D 2 := by
    unfold dcp at k7
    rw [k7 2 (by decide), up_ne _ _ (by decide), up_ne _ _ (by decide)]
  refine ⟨nI r, D2, nI o2, nI n2, s3, g2, ?_, ?_, ⟨A', by rw [eD0]; exact q3, m2, q4⟩, ⟨o2, n2, k1, k2, rfl, rfl, k5, k10.congr (fun _ _ => rfl) (fun x hx _ => m3 x (by omega)) k2⟩, hS.congr eD2 (fun x hx _ => (m3 x (by omega)).trans (k9 x hx)) (k6 1 (by decide)), hT.congr (k6 2 (by decide))⟩
  · rw [glet_eq, e0, q2, gbb2_some, glet_eq]
    unfold f_X5_recorded
    rw [if_neg (nI_pos q1), h3, h4, k3, gbb3_some, gbb4_some]
  · rw [k4, gbb2_some, m1, gbb2_some]
/-- what is refused changes nothing but the spare disk -/
theorem refuse_both {D : Nat → Nat → Nat → Int32} {sav old hsz : Int32} {cs : Nat → Int32} {len : Int32} {gc : Nat → Int32} {s t g6 : Nat → Int32} (hc : RC (D 0) A) (hm : RM s 0 A) (hI : IA A) (hH : rH D old hsz s g6) (hS : rS D sav s g6) (hT : rT cs len t g6) {F : (Nat → Nat → Int32) → Option (Int32 × (Nat → Nat → Int32))} {r : Int32} (hr : r < 0) (hF : F (D 0) = some (r, D 0)) : ∃ (D' : Nat → Nat → Nat → Int32), glet (dcp D 1 0) (fun D1 => gbb2 (F (D1 0)) (fun r2 w3 => glet (va_up D1 0 w3) (fun D4 => gbb4 (f_X5_recorded D4 sav old hsz cs len gc r2) (fun r5 D6 old7 hsz8 => some (r5, D6, old7, hsz8))))) = some (r, D', old, hsz) ∧ RR D' sav old hsz cs len gc s t g6 := by
  have e0 : dcp D 1 0 0 = D 0 := by unfold dcp; rw [up_ne _ _ (by decide)]
  refine ⟨va_up (dcp D 1 0) 0 (D 0), ?_, ⟨A, by rw [up_eq]; exact hc, hm, hI⟩, hH.congr (fun i hi => by unfold dcp; rw [up_ne _ _ (by omega), up_ne _ _ (by omega)]) (fun _ _ _ => rfl) rfl, hS.congr (by unfold dcp; rw [up_ne _ _ (by decide), up_ne _ _ (by decide)]) (fun _ _ _ => rfl) rfl, hT⟩
  rw [glet_eq, e0, hF, gbb2_some, glet_eq]
  unfold f_X5_recorded
  rw [if_pos hr, gbb4_some]
theorem refuse_st {D : Nat → Nat → Nat → Int32} {sav old hsz : Int32} {cs : Nat → Int32} {len : Int32} {gc : Nat → Int32} {s t g6 : Nat → Int32} (hc : RC (D 0) A) (hm : RM s 0 A) (hI : IA A) (hH : rH D old hsz s g6) (hS : rS D sav s g6) (hT : rT cs len t g6) (F : (Nat → Nat → Int32) → Option (Int32 × (Nat → Nat → Int32))) {r : Int32} (hr : r < 0) (hF : F (D 0) = some (r, D 0)) {Y : Option (Int32 × (Nat → Int32) × (Nat → Int32))} (hY : Y = some (r, s, g6)) : ∃ (r : Int32) (D' : Nat → Nat → Nat → Int32) (old' : Int32) (hsz' : Int32) (s' : Nat → Int32) (g6' : Nat → Int32), glet (dcp D 1 0) (fun D1 => gbb2 (F (D1 0)) (fun r2 w3 => glet (va_up D1 0 w3) (fun D4 => gbb4 (f_X5_recorded D4 sav old hsz cs len gc r2) (fun r5 D6 old7 hsz8 => some (r5, D6, old7, hsz8))))) = some (r, D', old', hsz') ∧ Y = some (r, s', g6') ∧ RR D' sav old' hsz' cs len gc s' t g6' := by
  obtain ⟨D', e, hR⟩ := refuse_both hc hm hI hH hS hT (gc := gc) hr hF
  exact ⟨r, D', old, hsz, s, g6, e, hY, hR⟩
theorem act_st {D : Nat → Nat → Nat → Int32} {sav old hsz : Int32} {cs : Nat → Int32} {len : Int32} {gc : Nat → Int32} {s t g6 : Nat → Int32} (hc : RC (D 0) A) (hm : RM s 0 A) (hI : IA A) (hH : rH D old hsz s g6) (hS : rS D sav s g6) (hT : rT cs len t g6) (F : (Nat → Nat → Int32) → Option (Int32 × (Nat → Nat → Int32))) (G : (Nat → Int32) → (Nat → Int32) → (Nat → Int32) → Option (Int32 × (Nat → Int32))) (hA : ∃ (r : Nat) (d' : Nat → Nat → Int32) (A' : Nat → Nat → Nat), r < 2 ^ 31 ∧ F (D 0) = some (nI r, d') ∧ RC d' A' ∧ IA A' ∧ ∀ s1 g1, RM s1 0 A → ∃ s2, G s1 t g1 = some (nI r, s2) ∧ RM s2 0 A' ∧ Out 0 s1 s2) {Y : Option (Int32 × (Nat → Int32) × (Nat → Int32))} (hY : Y = gbb2 (f_X6_records s t g6) (fun s3 g4 => gbb2 (G s3 t g4) (fun r5 s6 => some (r5, s6, g4)))) : ∃ (r : Int32) (D' : Nat → Nat → Nat → Int32) (old' : Int32) (hsz' : Int32) (s' : Nat → Int32) (g6' : Nat → Int32), glet (dcp D 1 0) (fun D1 => gbb2 (F (D1 0)) (fun r2 w3 => glet (va_up D1 0 w3) (fun D4 => gbb4 (f_X5_recorded D4 sav old hsz cs len gc r2) (fun r5 D6 old7 hsz8 => some (r5, D6, old7, hsz8))))) = some (r, D', old', hsz') ∧ Y = some (r, s', g6') ∧ RR D' sav old' hsz' cs len gc s' t g6' := by
  rw [hY]
  exact act_both hc hm hI hH hS hT hA
-- an int is below 0, or a number
theorem i_split (v : Int32) : v < 0 ∨ ∃ m : Nat, m < 2 ^ 31 ∧ v = nI m := by
  by_cases h : v < 0
  · exact Or.inl h
  · exact Or.inr (nI_of h)
theorem ng_lt {v : Int32} (h : v < 0) {j : Nat} (hj : j < 2 ^ 31) : v < nI j := by
  rw [Int32.lt_iff_toInt_lt] at h ⊢
  have e1 := nI_toInt hj
  have e2 : (0 : Int32).toInt = 0 := by decide
  omega
theorem ng_le {v : Int32} (h : v < 0) {j : Nat} (hj : j < 2 ^ 31) : v ≤ nI j := by
  have := ng_lt h hj
  rw [Int32.lt_iff_toInt_lt] at this
  rw [Int32.le_iff_toInt_le]
  omega
theorem ng_nle {v : Int32} (h : v < 0) {j : Nat} (hj : j < 2 ^ 31) : ¬ nI j ≤ v := by
  have := ng_lt h hj
  rw [Int32.lt_iff_toInt_lt] at this
  rw [Int32.le_iff_toInt_le]
  omega
theorem ng_nlt {v : Int32} (h : v < 0) {j : Nat} (hj : j < 2 ^ 31) : ¬ nI j < v := by
  have := ng_lt h hj
  rw [Int32.lt_iff_toInt_lt] at this ⊢
  omega
theorem ng_ne {v : Int32} (h : v < 0) {j : Nat} (hj : j < 2 ^ 31) : ¬ v = nI j := by
  intro e
  have := ng_lt h hj
  rw [← e, Int32.lt_iff_toInt_lt] at this
  omega
theorem M_in_n {m lo hi : Nat} (hm : m < 2 ^ 31) (hl : lo < 2 ^ 31) (hh : hi < 2 ^ 31) : f_X6_in (nI m) (nI lo) (nI hi) = some (if lo ≤ m ∧ m ≤ hi then 1 else 0) := by
  unfold f_X6_in
  by_cases c1 : m < lo
  · rw [if_pos (nI_lt c1 hl), if_neg (by omega)]
  · rw [if_neg (nI_nlt (by omega) hm)]
    by_cases c2 : hi < m
    · rw [if_pos (nI_lt c2 hm), if_neg (by omega)]
    · rw [if_neg (nI_nlt (by omega) hh), if_pos (by omega)]
theorem M_in_ng {v : Int32} (h : v < 0) {lo hi : Nat} (hl : lo < 2 ^ 31) : f_X6_in v (nI lo) (nI hi) = some 0 := by
  unfold f_X6_in
  rw [if_pos (ng_lt h hl)]
theorem M_ref {α : Type} {r : Int32} (hr : r ≠ 0) {X : Option (Int32 × α)} {y : α} : gb (some r) (fun r1 => if r1 = 0 then X else some (r1, y)) = some (r, y) := by
  rw [gb_some, if_neg hr]
theorem M_acc {α : Type} {X Y : Option α} : gb (some (0 : Int32)) (fun r1 => if r1 = 0 then X else Y) = X := by
  rw [gb_some, if_pos rfl]
end REL
