/-! MATHEMATICS, 30: a file gets the blocks that it asks for, on both sides, put together. -/
section LEN
variable {d : Nat → Nat → Int32} {A : Nat → Nat → Nat} {s t g : Nat → Int32}
/-- how many blocks are asked for -/
def ak (A : Nat → Nat → Nat) (f need : Nat) : Nat := mnN (fre A) (need + mnN (A 8 0) (A 7 f))
noncomputable def nx (A : Nat → Nat → Nat) (f : Nat) : Nat := bk A f (A 4 f - 1) + 1
noncomputable def a1k (A : Nat → Nat → Nat) (f need : Nat) : Nat := if A 4 f = 0 then 0 else mnN (ak A f need) (rn A (nx A f))
noncomputable def b1k (A : Nat → Nat → Nat) (f need : Nat) : Nat → Nat → Nat := if A 4 f = 0 then A else adJ A f (nx A f) (mnN (ak A f need) (rn A (nx A f)))
noncomputable def lnA (A : Nat → Nat → Nat) (f need : Nat) : Nat → Nat → Nat := grE (grJ f 64 (b1k A f need) (ak A f need - a1k A f need)) f need (ak A f need)
theorem nx_le (hI : IB A) {f : Nat} (hf : f < 8) (h : A 4 f ≠ 0) : nx A f ≤ 64 := (bk_spec hI hf (i := A 4 f - 1) (by omega)).1
theorem b1k_ok (hI : IA A) {f need : Nat} (hf : f < 8) (h0 : A 3 f ≠ 0) : IA (b1k A f need) ∧ fre (b1k A f need) + a1k A f need = fre A ∧ b1k A f need 4 f = A 4 f + a1k A f need ∧ a1k A f need ≤ ak A f need ∧ (∀ k i, k ≠ 1 → k ≠ 2 → k ≠ 4 → b1k A f need k i = A k i) := by
  unfold b1k a1k
  by_cases c : A 4 f = 0
  · rw [if_pos c, if_pos c]; exact ⟨hI, rfl, rfl, Nat.zero_le _, fun _ _ _ _ _ => rfl⟩
  · have q := nx_le hI.b hf c
    have w := mnN_le (ak A f need) (rn A (nx A f))
    rw [if_neg c, if_neg c]
    exact ⟨IA_adJ hI hf h0 q w.2.1, fre_adJ hI hf h0 q w.2.1, adJ_len _ _ _ _, w.1, fun k i k1 k2 k4 => adJ_row k1 k2 k4 _⟩
theorem ak_le (A : Nat → Nat → Nat) (f need : Nat) : ak A f need ≤ fre A ∧ (need ≤ fre A → need ≤ ak A f need) := by
  unfold ak
  have w := mnN_le (fre A) (need + mnN (A 8 0) (A 7 f))
  omega
theorem fre_le (A : Nat → Nat → Nat) : fre A ≤ 64 := ct_le _ 64
theorem IA_len (hI : IA A) {f need : Nat} (hf : f < 8) (h0 : A 3 f ≠ 0) (hn : need ≤ fre A) : IA (lnA A f need) ∧ A 4 f + need ≤ lnA A f need 4 f ∧ (∀ k i, k ≠ 1 → k ≠ 2 → k ≠ 4 → k ≠ 7 → lnA A f need k i = A k i) := by
  obtain ⟨q1, q2, q3, q4, q5⟩ := b1k_ok (need := need) hI hf h0
  have k1 := ak_le A f need
  have k2 := fre_le A
  obtain ⟨p1, p2, p3⟩ := IA_grow hf 64 (b1k A f need) (ak A f need - a1k A f need) q1 (by rw [q5 3 f (by decide) (by decide) (by decide)]; exact h0) (by omega) (by omega)
  unfold lnA grE
  have hl := (p1.2.2.2.1 f hf).2.2.2
  by_cases c : need < ak A f need
  · rw [if_pos c]
    have w : 1 ≤ mnN 16 (2 * grJ f 64 (b1k A f need) (ak A f need - a1k A f need) 7 f) ∧ mnN 16 (2 * grJ f 64 (b1k A f need) (ak A f need - a1k A f need) 7 f) ≤ 16 := by
      have := mnN_le 16 (2 * grJ f 64 (b1k A f need) (ak A f need - a1k A f need) 7 f)
      omega
    refine ⟨IA_lend p1 w.1 w.2, ?_, fun k i k1 k2 k4 k7 => ?_⟩
    · rw [as_ne _ _ (by omega), p2, q3]; omega
    · rw [as_ne _ _ (fun z => k7 z.1), p3 k i k1 k2 k4, q5 k i k1 k2 k4]
  · rw [if_neg c]
    refine ⟨p1, ?_, fun k i k1 k2 k4 k7 => ?_⟩
    · rw [p2, q3]; omega
    · rw [p3 k i k1 k2 k4, q5 k i k1 k2 k4]
theorem C_lengthen (h : RC d A) (hI : IA A) {f need : Nat} (hf : f < 8) (h0 : A 3 f ≠ 0) (hn : need ≤ 64) : ∃ d', f_X0_lengthen d (nI f) (nI need) = some d' ∧ RC d' (lnA A f need) := by
  obtain ⟨q1, q2, q3, q4, q5⟩ := b1k_ok (need := need) hI hf h0
  have k1 := ak_le A f need
  have k2 := fre_le A
  have hl := hI.2.2.2.1 f hf
  have hs := hI.2.2.2.2.1
  have e0 : f_X3_at 2 (d 8) 0 = some (d 8 0) := f_at_in (by decide) (d 8) (i := 0) (by decide)
  have ef : f_X0_freeBlocks d = some (nI (fre A)) := C_freeBlocks h hI
  have em : (if nI (A 8 0) < nI (A 7 f) then nI (A 8 0) else nI (A 7 f)) = nI (mnN (A 8 0) (A 7 f)) := by
    unfold mnN
    by_cases c : A 8 0 < A 7 f
    · rw [if_pos (nI_lt c (by omega)), if_pos c]
    · rw [if_neg (nI_nlt (by omega) (by omega)), if_neg c]
  have hmo := mnN_le (A 8 0) (A 7 f)
  have ea : (if nI (fre A) < nI (need + mnN (A 8 0) (A 7 f)) then nI (fre A) else nI (need + mnN (A 8 0) (A 7 f))) = nI (ak A f need) := by
    unfold ak mnN
    by_cases c : fre A < need + (if A 8 0 < A 7 f then A 8 0 else A 7 f)
    · rw [if_pos (nI_lt c (by unfold mnN at hmo; omega)), if_pos c]
    · rw [if_neg (nI_nlt (by omega) (by omega)), if_neg c]
  unfold f_X0_lengthen
  rw [f_at_in (by decide) _ hf, gb_some, e0, gb_some, h.ld hf, h.sg (by decide), em, glet_eq, nI_add, glet_eq, ef, gb_some, ea, glet_eq, f_at_in (by decide) _ hf, gb_some, h.ln hf]
  have G := C_grow (need := need) (ask := ak A f need) (lend := A 7 f) hf (by omega) (by omega) (nI (need + mnN (A 8 0) (A 7 f))) 64 (b1k A f need)
  unfold lnA
  by_cases c : A 4 f = 0
  · have eb : b1k A f need = A := by unfold b1k; rw [if_pos c]
    have ea1 : a1k A f need = 0 := by unfold a1k; rw [if_pos c]
    rw [c, if_pos (show nI 0 ≤ 0 by decide), eb, ea1, Nat.sub_zero]
    rw [eb] at G
    exact G d (ak A f need) 0 gFu hI h h0 rfl k1.1 (by omega) (by omega) (by decide)
  · have q := nx_le hI.b hf c
    have ea1 : a1k A f need = mnN (ak A f need) (rn A (nx A f)) := by unfold a1k; rw [if_neg c]
    have eb : b1k A f need = adJ A f (nx A f) (mnN (ak A f need) (rn A (nx A f))) := by unfold b1k; rw [if_neg c]
    have e1 : nI (A 4 f) - 1 = nI (A 4 f - 1) := nI_sub (b := 1) (by omega)
    obtain ⟨d1, e2, r1⟩ := C_addFrom h hI hf h0 q (show ak A f need ≤ 64 by omega)
    rw [← eb] at r1
    rw [← ea1] at e2
    have e2' : f_X0_addFrom d (nI f) (nI (bk A f (A 4 f - 1)) + 1) (nI (ak A f need)) = some (nI (a1k A f need), d1) := by rw [nI_1]; exact e2
    rw [if_neg (nI_nle (by omega) (by omega)), gb_some, e1, C_blockAt h hI.b hf (by omega), gb_some, e2', gbb2_some, glet_eq, nI_sub q4]
    exact G d1 (ak A f need - a1k A f need) 0 gFu q1 r1 (by rw [q5 3 f (by decide) (by decide) (by decide)]; exact h0) (by rw [q5 7 f (by decide) (by decide) (by decide)]) (by omega) (by omega) (by omega) (by decide)
end LEN
