/-! MATHEMATICS, 32: append on both sides. -/
section APPEND
variable {d : Nat → Nat → Int32} {A : Nat → Nat → Nat} {s t g : Nat → Int32}
/-- after others have given back, and the file has got what it asked for -/
noncomputable def gaA (A : Nat → Nat → Nat) (f need : Nat) : Nat → Nat → Nat := if need = 0 then A else lnA (tbJ f need 8 A) f need
noncomputable def apA (A : Nat → Nat → Nat) (f n st : Nat) : Nat → Nat → Nat := wrA (gaA A f (n - (A 4 f - A 5 f))) f n st
theorem nI_sub_le {a b : Nat} (h : a ≤ b) (hb : b < 2 ^ 31) : nI a - nI b ≤ 0 := by
  rw [Int32.le_iff_toInt_le, Int32.toInt_sub, nI_toInt (show a < 2 ^ 31 by omega), nI_toInt hb, Int.bmod_eq_of_le_mul_two (by omega) (by omega)]
  have e : (0 : Int32).toInt = 0 := by decide
  omega
theorem nl_le (A : Nat → Nat → Nat) (f : Nat) : nl A f ≤ 8 := ct_le _ 8
theorem need_ok (hI : IA A) {f n : Nat} (hf : f < 8) (hn : n ≤ 64 - sm (A 5) 8) : n - (A 4 f - A 5 f) ≤ fre A + LOt A f := by
  have e1 := sum64 hI.b
  have e2 := lent_sum hI
  have e3 := LOt_lent hI hf
  omega
theorem ga_ok (hI : IA A) {f n : Nat} (hf : f < 8) (h0 : A 3 f ≠ 0) (hn : n ≤ 64 - sm (A 5) 8) : IA (gaA A f (n - (A 4 f - A 5 f))) ∧ gaA A f (n - (A 4 f - A 5 f)) 5 f + n ≤ gaA A f (n - (A 4 f - A 5 f)) 4 f ∧ gaA A f (n - (A 4 f - A 5 f)) 3 f ≠ 0 := by
  have hl := hI.2.2.2.1 f hf
  unfold gaA
  by_cases c : n - (A 4 f - A 5 f) = 0
  · rw [if_pos c]; exact ⟨hI, by omega, h0⟩
  · rw [if_neg c]
    obtain ⟨t1, t2, t3, t4, t5⟩ := IA_take hf 8 A hI (need_ok hI hf hn) (nl_le A f)
    obtain ⟨l1, l2, l3⟩ := IA_len t1 hf (by rw [t5]; exact h0) t2
    refine ⟨l1, ?_, ?_⟩
    · rw [l3 5 f (by decide) (by decide) (by decide) (by decide), t4]; omega
    · rw [l3 3 f (by decide) (by decide) (by decide) (by decide), t5]; exact h0
theorem IA_append (hI : IA A) {f n st : Nat} (hf : f < 8) (h0 : A 3 f ≠ 0) (hn : n ≤ 64 - sm (A 5) 8) (hst : st ≤ 99) : IA (apA A f n st) := by
  obtain ⟨q1, q2, -⟩ := ga_ok hI hf h0 hn
  exact IA_wr q1 q2 hst
theorem C_append (h : RC d A) (hI : IA A) {f n st : Nat} (hf : f < 8) (h2 : A 3 f = 2) (h1n : 1 ≤ n) (hn : n ≤ 64 - sm (A 5) 8) (hst : st ≤ 99) : ∃ d', f_X0_appendTo d (nI f) (nI n) (nI st) = some (nI (sm (exJ (apA A f n st) f) (apA A f n st 4 f)), d') ∧ RC d' (apA A f n st) := by
  have hl := hI.2.2.2.1 f hf
  have h0 : A 3 f ≠ 0 := by omega
  obtain ⟨q1, q2, q3⟩ := ga_ok hI hf h0 hn
  have hz := need_ok hI hf hn
  unfold f_X0_appendTo
  rw [C_isFile h hI hf, gb_some, if_neg (by rw [if_neg h0]; decide), if_neg (show ¬ nI n < 1 from nI_nlt (b := 1) h1n (by omega)), if_neg (show ¬ (64 : Int32) < nI n from nI_nlt (a := 64) (by omega) (by decide)), if_neg (nI_pos (by omega)), if_pos (show nI st ≤ (99 : Int32) from nI_le (b := 99) hst (by decide)), C_isOpen h hI hf, gb_some, if_neg (by rw [if_pos h2]; decide), C_blocksWithoutData h hI, gb_some, if_pos (nI_le hn (by omega)), C_lentOf h hI hf, gb_some, glet_eq]
  by_cases c : n ≤ A 4 f - A 5 f
  · have eg : gaA A f (n - (A 4 f - A 5 f)) = A := by unfold gaA; rw [if_pos (by omega)]
    have ea : apA A f n st = wrA A f n st := by unfold apA; rw [eg]
    have ele : nI n - nI (A 4 f - A 5 f) ≤ 0 := nI_sub_le c (by omega)
    obtain ⟨d1, e1, r1⟩ := C_write h hI hf (n := n) (st := st) (by omega) hst
    rw [if_pos ele, e1, gb_some, ea, C_extentsOf r1 (IA_wr hI (by omega) hst).b hf, gb_some]
    exact ⟨_, rfl, r1⟩
  · have eg : gaA A f (n - (A 4 f - A 5 f)) = lnA (tbJ f (n - (A 4 f - A 5 f)) 8 A) f (n - (A 4 f - A 5 f)) := by unfold gaA; rw [if_neg (by omega)]
    obtain ⟨t1, t2, t3, t4, t5⟩ := IA_take hf 8 A hI hz (nl_le A f)
    obtain ⟨d1, e1, r1⟩ := C_take hf (show n - (A 4 f - A 5 f) < 2 ^ 31 by omega) 8 A d 0 gFu hI h hz (nl_le A f) (by omega) (by decide)
    have e1' : f_X0_takeBack d (nI f) (nI (n - (A 4 f - A 5 f))) = some d1 := e1
    obtain ⟨d2, e2, r2⟩ := C_lengthen r1 t1 hf (need := n - (A 4 f - A 5 f)) (by rw [t5]; exact h0) (by omega)
    rw [← eg] at r2
    obtain ⟨d3, e3, r3⟩ := C_write r2 q1 hf (n := n) (st := st) q2 hst
    rw [nI_sub (by omega), if_neg (nI_nle (by omega) (by omega)), e1', gb_some, e2, gb_some, e3, gb_some, C_extentsOf r3 (IA_wr q1 q2 hst).b hf, gb_some]
    exact ⟨_, rfl, r3⟩
end APPEND
