/-! WHAT HOLDS OF THE OBJECT BETWEEN CALLS: its disk A, its history; an act that is done, one that is refused; undo. -/
section KS
variable {A : Nat → Nat → Nat} {D : Nat → Nat → Nat → Int32} {sav old hsz : Int32} {cs : Nat → Int32} {len : Int32} {g : Nat → Int32}
/-- a disk as the acts keep it; T bounds its totals -/
def GA (A : Nat → Nat → Nat) (T : Nat) : Prop := IA A ∧ sm (A 5) 8 ≤ A 9 0 ∧ A 9 2 ≤ A 9 1 ∧ (∀ i, i < 4 → A 9 i ≤ T) ∧ (∀ f, f < 8 → A 3 f = 1 → A 7 f = 1)
theorem GA.up {T T' : Nat} (h : GA A T) (ht : T ≤ T') : GA A T' := ⟨h.1, h.2.1, h.2.2.1, fun i hi => Nat.le_trans (h.2.2.2.1 i hi) ht, h.2.2.2.2⟩
/-- the history: n states, the oldest first, in a ring that begins at o -/
def HiS (D : Nat → Nat → Nat → Int32) (o n : Nat) (Hs : Nat → Nat → Nat → Nat) (T : Nat) : Prop := ∀ j, j < n → RC (D (3 + (o + j) % 5)) (Hs j) ∧ GA (Hs j) T
def KsT (D : Nat → Nat → Nat → Int32) (old hsz : Int32) (A : Nat → Nat → Nat) (n : Nat) (Hs : Nat → Nat → Nat → Nat) (T : Nat) : Prop :=
  RC (D 0) A ∧ GA A T ∧ n ≤ 5 ∧ hsz = nI n ∧ ∃ o, o < 5 ∧ old = nI o ∧ HiS D o n Hs T
theorem KsT.up {n T T' : Nat} {Hs : Nat → Nat → Nat → Nat} (h : KsT D old hsz A n Hs T) (ht : T ≤ T') : KsT D old hsz A n Hs T' := by
  obtain ⟨h1, h2, h3, h4, o, h5, h6, h7⟩ := h
  exact ⟨h1, h2.up ht, h3, h4, o, h5, h6, fun j hj => ⟨(h7 j hj).1, (h7 j hj).2.up ht⟩⟩
/-- how many are behind after one more, and which -/
def puN (n : Nat) : Nat := if n < 5 then n + 1 else 5
def puH (n : Nat) (Hs : Nat → Nat → Nat → Nat) (A : Nat → Nat → Nat) : Nat → Nat → Nat → Nat := fun j => if n < 5 then (if j = n then A else Hs j) else (if j = 4 then A else Hs (j + 1))
theorem puH_top (n : Nat) (Hs : Nat → Nat → Nat → Nat) (A : Nat → Nat → Nat) (hn : n ≤ 5) : puH n Hs A (puN n - 1) = A := by
  unfold puH puN
  by_cases c : n < 5
  · rw [if_pos c, if_pos c, if_pos (by omega)]
  · rw [if_neg c, if_neg c, if_pos rfl]
theorem puN_pos (n : Nat) : 0 < puN n ∧ puN n ≤ 5 := by
  unfold puN
  by_cases c : n < 5
  · rw [if_pos c]; omega
  · rw [if_neg c]; omega
theorem rec_go {o n T q : Nat} {Hs : Nat → Nat → Nat → Nat} (hh : HiS D o n Hs T) (ho : o < 5) (hn : n ≤ 5) (hq : q < 3) (hc : RC (D q) A) (hG : GA A T) : ∃ D' o', o' < 5 ∧ f_X1_record D sav (nI o) (nI n) cs len g q = some (D', nI o', nI (puN n)) ∧ (∀ i, i < 3 → D' i = D i) ∧ HiS D' o' (puN n) (puH n Hs A) T := by
  by_cases c5 : n < 5
  · have es := sbI_mod (o := o) (k := n) (by omega)
    have hb : (o + n) % 5 < 5 := Nat.mod_lt _ (by decide)
    have ep : puN n = n + 1 := by unfold puN; rw [if_pos c5]
    rw [ep]
    refine ⟨dcp D (3 + (o + n) % 5) q, o, ho, ?_, fun i hi => ?_, fun j hj => ?_⟩
    · unfold f_X1_record
      rw [if_neg (fun z => by have := (nI_eq (a := n) (b := 5) (by omega) (by decide)).1 z; omega), es, if_pos ⟨nI_pos' (by omega), by rw [nI_clamp (by omega)]; exact hb⟩, nI_clamp (by omega), nI_1]
    · unfold dcp
      rw [up_ne _ _ (by omega)]
    · unfold puH
      rw [if_pos c5]
      by_cases c : j = n
      · subst c
        rw [if_pos rfl]
        refine ⟨?_, hG⟩
        unfold dcp
        rw [up_eq]; exact hc
      · obtain ⟨q1, q2⟩ := hh j (by omega)
        rw [if_neg c]
        refine ⟨?_, q2⟩
        unfold dcp
        rw [up_ne _ _ (by omega)]; exact q1
  · obtain rfl : n = 5 := by omega
    have e1 : (nI o + 1) - (nI o + 1) / 5 * 5 = nI ((o + 1) % 5) := sbI_mod (o := o) (k := 1) (by omega)
    have hb1 : (o + 1) % 5 < 5 := Nat.mod_lt _ (by decide)
    have es := sbI_mod (o := (o + 1) % 5) (k := 4) (by omega)
    have hb : ((o + 1) % 5 + 4) % 5 < 5 := Nat.mod_lt _ (by decide)
    have ep : puN 5 = 5 := rfl
    rw [ep]
    refine ⟨dcp D (3 + ((o + 1) % 5 + 4) % 5) q, (o + 1) % 5, hb1, ?_, fun i hi => ?_, fun j hj => ?_⟩
    · have e4 : nI 5 - 1 = nI 4 := by decide
      unfold f_X1_record
      rw [if_pos (show nI 5 = 5 from rfl), e1, e4, glet_eq, glet_eq, es, if_pos ⟨nI_pos' (by omega), by rw [nI_clamp (by omega)]; exact hb⟩, nI_clamp (by omega), nI_1]
    · unfold dcp
      rw [up_ne _ _ (by omega)]
    · unfold puH
      rw [if_neg c5]
      by_cases c : j = 4
      · subst c
        rw [if_pos rfl]
        refine ⟨?_, hG⟩
        unfold dcp
        rw [up_eq]; exact hc
      · obtain ⟨q1, q2⟩ := hh (j + 1) (by omega)
        rw [if_neg c]
        refine ⟨?_, q2⟩
        unfold dcp
        rw [up_ne _ _ (by omega), show ((o + 1) % 5 + j) % 5 = (o + (j + 1)) % 5 by omega]; exact q1
/-- a call that acts: the disk is put by, the act is done, the old disk is recorded if it was done -/
def actS (F : (Nat → Nat → Int32) → Option (Int32 × (Nat → Nat → Int32))) (D : Nat → Nat → Nat → Int32) (sav old hsz : Int32) (cs : Nat → Int32) (len : Int32) (g : Nat → Int32) : Option (Int32 × (Nat → Nat → Nat → Int32) × Int32 × Int32) :=
  glet (dcp D 1 0) (fun D1 => gbb2 (F (D1 0)) (fun r2 w3 => glet (va_up D1 0 w3) (fun D4 => gbb4 (f_X5_recorded D4 sav old hsz cs len g r2) (fun r5 D6 old7 hsz8 => some (r5, D6, old7, hsz8)))))
/-- the act F on the disk A: done, with answer r and the disk A'; or refused -/
def DneA (F : (Nat → Nat → Int32) → Option (Int32 × (Nat → Nat → Int32))) (A : Nat → Nat → Nat) (r : Nat) (A' : Nat → Nat → Nat) (T : Nat) : Prop := r < 2 ^ 31 ∧ GA A' T ∧ ∀ d, RC d A → ∃ d', F d = some (nI r, d') ∧ RC d' A'
def RfdA (F : (Nat → Nat → Int32) → Option (Int32 × (Nat → Nat → Int32))) (A : Nat → Nat → Nat) (r : Int32) : Prop := r < 0 ∧ ∀ d, RC d A → F d = some (r, d)
def AcD (F : (Nat → Nat → Int32) → Option (Int32 × (Nat → Nat → Int32))) (A : Nat → Nat → Nat) (T : Nat) : Prop := (∃ r A', DneA F A r A' (T + 1024)) ∨ ∃ r, RfdA F A r
theorem act_done {F : (Nat → Nat → Int32) → Option (Int32 × (Nat → Nat → Int32))} {n T r : Nat} {Hs : Nat → Nat → Nat → Nat} {A' : Nat → Nat → Nat} (hK : KsT D old hsz A n Hs T) {T' : Nat} (hT : T ≤ T') (hF : DneA F A r A' T') : ∃ D' old', actS F D sav old hsz cs len g = some (nI r, D', old', nI (puN n)) ∧ KsT D' old' (nI (puN n)) A' (puN n) (puH n Hs A) T' := by
  obtain ⟨hc, hG, h2, rfl, o, h1, rfl, h6⟩ := hK
  obtain ⟨q1, q2, q3⟩ := hF
  obtain ⟨d', q4, q5⟩ := q3 (D 0) hc
  have e0 : dcp D 1 0 0 = D 0 := by unfold dcp; rw [up_ne _ _ (by decide)]
  have hh : HiS (va_up (dcp D 1 0) 0 d') o n Hs T' := fun j hj => by
    refine ⟨?_, (h6 j hj).2.up hT⟩
    unfold dcp
    rw [up_ne _ _ (by omega), up_ne _ _ (by omega)]; exact (h6 j hj).1
  have hc1 : RC (va_up (dcp D 1 0) 0 d' 1) A := by
    unfold dcp
    rw [up_ne _ _ (by decide), up_eq]; exact hc
  obtain ⟨D2, o2, k1, k2, k3, k4⟩ := rec_go (sav := sav) (cs := cs) (len := len) (g := g) hh h1 h2 (q := 1) (by decide) hc1 (hG.up hT)
  have eD0 : D2 0 = d' := by rw [k3 0 (by decide), up_eq]
  refine ⟨D2, nI o2, ?_, by rw [eD0]; exact q5, q2, (puN_pos n).2, rfl, o2, k1, rfl, k4⟩
  unfold actS
  rw [glet_eq, e0, q4, gbb2_some, glet_eq]
  unfold f_X5_recorded
  rw [if_neg (nI_pos q1), k2, gbb3_some, gbb4_some]
theorem act_refd {F : (Nat → Nat → Int32) → Option (Int32 × (Nat → Nat → Int32))} {n T : Nat} {r : Int32} {Hs : Nat → Nat → Nat → Nat} (hK : KsT D old hsz A n Hs T) (hF : RfdA F A r) : ∃ D', actS F D sav old hsz cs len g = some (r, D', old, hsz) ∧ KsT D' old hsz A n Hs T := by
  obtain ⟨hc, hG, h2, h3, o, h1, h4, h6⟩ := hK
  have e0 : dcp D 1 0 0 = D 0 := by unfold dcp; rw [up_ne _ _ (by decide)]
  refine ⟨va_up (dcp D 1 0) 0 (D 0), ?_, by rw [up_eq]; exact hc, hG, h2, h3, o, h1, h4, fun j hj => ⟨?_, (h6 j hj).2⟩⟩
  · unfold actS
    rw [glet_eq, e0, hF.2 (D 0) hc, gbb2_some, glet_eq]
    unfold f_X5_recorded
    rw [if_pos hF.1, gbb4_some]
  · unfold dcp
    rw [up_ne _ _ (by omega), up_ne _ _ (by omega)]; exact (h6 j hj).1
theorem undo_go {n T : Nat} {Hs : Nat → Nat → Nat → Nat} (hK : KsT D old hsz A n Hs T) (hn : 0 < n) : ∃ D', f_X5_undo D sav old hsz cs len g = some (nI (n - 1), D', nI (n - 1)) ∧ KsT D' old (nI (n - 1)) (Hs (n - 1)) (n - 1) Hs T := by
  obtain ⟨hc, hG, h2, rfl, o, h1, rfl, h6⟩ := hK
  obtain ⟨k1, k3⟩ := h6 (n - 1) (by omega)
  have e1 : nI n - 1 = nI (n - 1) := nI_sub (b := 1) (by omega)
  have hb : (o + (n - 1)) % 5 < 5 := Nat.mod_lt _ (by decide)
  refine ⟨dcp D 0 (3 + (o + (n - 1)) % 5), ?_, ?_, k3, by omega, rfl, o, h1, rfl, fun j hj => ⟨?_, (h6 j (by omega)).2⟩⟩
  · unfold f_X5_undo f_X1_takeLatest f_X1_size
    rw [if_neg (nI_nle (by omega) (by omega)), e1, sbI_mod (by omega), if_pos ⟨nI_pos' (by omega), by rw [nI_clamp (by omega)]; exact hb⟩, nI_clamp (by omega), gbb3_some, if_neg n10, gb_some]
  · unfold dcp
    rw [up_eq]; exact k1
  · unfold dcp
    rw [up_ne _ _ (by omega)]; exact (h6 j (by omega)).1
end KS
