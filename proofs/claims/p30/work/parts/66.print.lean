/-! PRINT: one number, told by the disk alone. -/
section PR
variable {A : Nat → Nat → Nat} {D : Nat → Nat → Nat → Int32} {sav old hsz : Int32} {cs : Nat → Int32} {len : Int32} {g : Nat → Int32}
def bV (A : Nat → Nat → Nat) (k w : Nat) : Int32 := if w = 0 then (if A 1 k = 8 then -5 else nI (A 1 k)) else if w = 1 then nI (usV A k) else if w = 2 then (if A 1 k = 8 then -5 else nI (A 2 k)) else nI (A 0 k)
noncomputable def fiV (A : Nat → Nat → Nat) (f w : Nat) : Int32 := if A 3 f = 0 then -1 else if w = 0 then nI (A 5 f) else if w = 1 then nI (A 4 f - A 5 f) else if w = 2 then nI (A 6 f) else if w = 3 then (if A 3 f = 2 then 1 else 0) else if w = 4 then nI (sm (exJ A f) (A 4 f)) else nI (A 7 f)
theorem q_block (hc : RC (D 0) A) (hI : IA A) {k w : Nat} (hk : k < 64) (hw : w < 4) : f_X5_block D sav old hsz cs len g (nI k) (nI w) = some (bV A k w) := by
  rcases (show w = 0 ∨ w = 1 ∨ w = 2 ∨ w = 3 by omega) with e | e | e | e <;> subst e
  · exact q_block0 hc hk
  · exact q_block1 hc hI hk
  · exact q_block2 hc hk
  · exact q_block3 hc hk
theorem q_file (hc : RC (D 0) A) (hI : IA A) {f w : Nat} (hf : f < 8) (hw : w < 6) : f_X5_file D sav old hsz cs len g (nI f) (nI w) = some (fiV A f w) := by
  unfold fiV
  by_cases e0 : A 3 f = 0
  · rw [if_pos e0, q_file_no hc hI hf e0]
  · rw [if_neg e0]
    rcases (show w = 0 ∨ w = 1 ∨ w = 2 ∨ w = 3 ∨ w = 4 ∨ w = 5 by omega) with e | e | e | e | e | e <;> subst e
    · exact q_file0 hc hI hf e0
    · exact q_file1 hc hI hf e0
    · exact q_file2 hc hI hf e0
    · exact q_file3 hc hI hf e0
    · exact q_file4 hc hI hf e0
    · exact q_file5 hc hI hf e0
def pk (w : Nat → Int32) (c : Int64) : Nat → Int64
  | 0 => c
  | j + 1 => (31 : Int64) * pk w c j + (w j).toInt64
theorem dm4 : ∀ j, j < 256 → nI j / 4 = nI (j / 4) ∧ nI j - nI (j / 4) * 4 = nI (j % 4) := by decide +kernel
theorem dm6 : ∀ j, j < 48 → nI j / 6 = nI (j / 6) ∧ nI j - nI (j / 6) * 6 = nI (j % 6) := by decide +kernel
noncomputable def PRT (A : Nat → Nat → Nat) : Int64 := pk (fun i => nI (A 9 i)) (pk (fun j => fiV A (j / 6) (j % 6)) (pk (fun j => bV A (j / 4) (j % 4)) 3 256) 48) 4
theorem print_eq (hc : RC (D 0) A) (hI : IA A) : f_L_print D sav old hsz cs len g = some (PRT A) := by
  have l1 : f_L_print_L6 D sav old hsz cs len g gFu 3 0 = some (pk (fun j => bV A (j / 4) (j % 4)) 3 256, nI 256) := by
    refine loopN (fun fu j => f_L_print_L6 D sav old hsz cs len g fu (pk (fun j => bV A (j / 4) (j % 4)) 3 j) (nI j)) 256 _ (fun fu j hj => ?_) (fun fu => ?_) gFu 0 (by omega) (by decide)
    · show f_L_print_L6 D sav old hsz cs len g (fu + 1) (pk (fun j => bV A (j / 4) (j % 4)) 3 j) (nI j) = f_L_print_L6 D sav old hsz cs len g fu ((31 : Int64) * pk (fun j => bV A (j / 4) (j % 4)) 3 j + (bV A (j / 4) (j % 4)).toInt64) (nI (j + 1))
      have q := dm4 j hj
      rw [f_L_print_L6, if_neg (show ¬ (256 : Int32) ≤ nI j from nI_ge (b := 256) hj (by decide)), q.1, q.2, q_block hc hI (by omega) (by omega), gb_some, glet_eq, glet_eq, nI_1]
    · show f_L_print_L6 D sav old hsz cs len g (fu + 1) _ (nI 256) = _
      rw [f_L_print_L6, if_pos (by decide)]
  have l2 : ∀ c : Int64, f_L_print_L39 D sav old hsz cs len g gFu c 0 = some (pk (fun j => fiV A (j / 6) (j % 6)) c 48, nI 48) := by
    intro c
    refine loopN (fun fu j => f_L_print_L39 D sav old hsz cs len g fu (pk (fun j => fiV A (j / 6) (j % 6)) c j) (nI j)) 48 _ (fun fu j hj => ?_) (fun fu => ?_) gFu 0 (by omega) (by decide)
    · show f_L_print_L39 D sav old hsz cs len g (fu + 1) (pk (fun j => fiV A (j / 6) (j % 6)) c j) (nI j) = f_L_print_L39 D sav old hsz cs len g fu ((31 : Int64) * pk (fun j => fiV A (j / 6) (j % 6)) c j + (fiV A (j / 6) (j % 6)).toInt64) (nI (j + 1))
      have q := dm6 j hj
      rw [f_L_print_L39, if_neg (show ¬ (48 : Int32) ≤ nI j from nI_ge (b := 48) hj (by decide)), q.1, q.2, q_file hc hI (by omega) (by omega), gb_some, glet_eq, glet_eq, nI_1]
    · show f_L_print_L39 D sav old hsz cs len g (fu + 1) _ (nI 48) = _
      rw [f_L_print_L39, if_pos (by decide)]
  have l3 : ∀ c : Int64, f_L_print_L73 D sav old hsz cs len g gFu c 0 = some (pk (fun i => nI (A 9 i)) c 4, nI 4) := by
    intro c
    refine loopN (fun fu j => f_L_print_L73 D sav old hsz cs len g fu (pk (fun i => nI (A 9 i)) c j) (nI j)) 4 _ (fun fu j hj => ?_) (fun fu => ?_) gFu 0 (by omega) (by decide)
    · show f_L_print_L73 D sav old hsz cs len g (fu + 1) (pk (fun i => nI (A 9 i)) c j) (nI j) = f_L_print_L73 D sav old hsz cs len g fu ((31 : Int64) * pk (fun i => nI (A 9 i)) c j + (nI (A 9 j)).toInt64) (nI (j + 1))
      rw [f_L_print_L73, if_neg (show ¬ (4 : Int32) ≤ nI j from nI_ge (b := 4) hj (by decide)), q_total hc hj, gb_some, glet_eq, glet_eq, nI_1]
    · show f_L_print_L73 D sav old hsz cs len g (fu + 1) _ (nI 4) = _
      rw [f_L_print_L73, if_pos (by decide)]
  unfold f_L_print PRT
  rw [glet_eq, l1, gbb2_some, l2, gbb2_some, l3, gbb2_some]
theorem lg_self (x : Int64) : lg_cmp x x = 0 := (lg_cmp_eq x x).mpr rfl
end PR
