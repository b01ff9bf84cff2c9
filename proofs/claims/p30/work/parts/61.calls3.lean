/-! MATHEMATICS, 37: append and set as calls. -/
section CALLS3
variable {A : Nat → Nat → Nat} {s t g : Nat → Int32} {d : Nat → Nat → Int32}
theorem i_range {v : Int32} {lo hi : Nat} (hl : lo < 2 ^ 31) (hh : hi < 2 ^ 31) (h : ¬ (v < nI lo ∨ nI hi < v)) : ∃ n, lo ≤ n ∧ n ≤ hi ∧ v = nI n := by
  rcases i_split v with hv | ⟨n, hn, rfl⟩
  · exact absurd (Or.inl (ng_lt hv hl)) h
  · refine ⟨n, ?_, ?_, rfl⟩
    · by_cases c : lo ≤ n
      · exact c
      · exact absurd (Or.inl (nI_lt (by omega) hl)) h
    · by_cases c : n ≤ hi
      · exact c
      · exact absurd (Or.inr (nI_lt (by omega) hn)) h
theorem C_app_out {v1 : Int32} (ho : v1 < 0 ∨ nI 8 ≤ v1) (v2 v3 : Int32) : f_X0_appendTo d v1 v2 v3 = some (-1, d) := by
  unfold f_X0_appendTo
  rw [C_isFile_out ho, gb_some, if_pos rfl]
theorem C_app_none (h : RC d A) (hI : IA A) {f : Nat} (hf : f < 8) (e0 : A 3 f = 0) (v2 v3 : Int32) : f_X0_appendTo d (nI f) v2 v3 = some (-1, d) := by
  unfold f_X0_appendTo
  rw [C_isFile h hI hf, gb_some, if_pos e0, if_pos rfl]
theorem C_app_bad (h : RC d A) (hI : IA A) {f : Nat} (hf : f < 8) (e0 : A 3 f ≠ 0) {v2 : Int32} (hv : v2 < 1 ∨ 64 < v2) (v3 : Int32) : f_X0_appendTo d (nI f) v2 v3 = some (-2, d) := by
  unfold f_X0_appendTo
  rw [C_isFile h hI hf, gb_some, if_neg e0, if_neg (by decide)]
  by_cases c : v2 < 1
  · rw [if_pos c]
  · rw [if_neg c, if_pos (hv.resolve_left c)]
theorem C_app_bad2 (h : RC d A) (hI : IA A) {f : Nat} (hf : f < 8) (e0 : A 3 f ≠ 0) {v2 v3 : Int32} (hv : ¬ (v2 < 1 ∨ 64 < v2)) (hw : v3 < 0 ∨ 99 < v3) : f_X0_appendTo d (nI f) v2 v3 = some (-2, d) := by
  unfold f_X0_appendTo
  rw [C_isFile h hI hf, gb_some, if_neg e0, if_neg (by decide), if_neg (fun q => hv (Or.inl q)), if_neg (fun q => hv (Or.inr q))]
  by_cases c : v3 < 0
  · rw [if_pos c]
  · rw [if_neg c, if_neg (Int32.not_le.mpr (hw.resolve_left c))]
theorem C_app_no (h : RC d A) (hI : IA A) {f n st : Nat} (hf : f < 8) (e0 : A 3 f ≠ 0) (h1 : 1 ≤ n) (h64 : n ≤ 64) (hst : st ≤ 99) (hn : A 3 f ≠ 2 ∨ ¬ n ≤ 64 - sm (A 5) 8) : f_X0_appendTo d (nI f) (nI n) (nI st) = some (-4, d) := by
  unfold f_X0_appendTo
  rw [C_isFile h hI hf, gb_some, if_neg e0, if_neg (by decide), if_neg (show ¬ nI n < 1 from nI_nlt (b := 1) h1 (by omega)), if_neg (show ¬ (64 : Int32) < nI n from nI_nlt (a := 64) (by omega) (by decide)), if_neg (nI_pos (by omega)), if_pos (show nI st ≤ (99 : Int32) from nI_le (b := 99) hst (by decide)), C_isOpen h hI hf, gb_some]
  by_cases c : A 3 f = 2
  · rw [if_pos c, if_neg (by decide), C_blocksWithoutData h hI, gb_some, if_neg (nI_ge (by have := hn.resolve_left (fun q => q c); omega) (by omega))]
  · rw [if_neg c, if_pos rfl]
end CALLS3
