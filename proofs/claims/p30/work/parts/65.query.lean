/-! THE CLASS'S QUERIES, told by the disk A. -/
section Q
variable {A : Nat → Nat → Nat} {D : Nat → Nat → Nat → Int32} {sav old hsz : Int32} {cs : Nat → Int32} {len : Int32} {g : Nat → Int32}
theorem zn20 : ¬ (2 : Int32) = 0 := by decide
theorem zn21 : ¬ (2 : Int32) = 1 := by decide
theorem zn30 : ¬ (3 : Int32) = 0 := by decide
theorem zn31 : ¬ (3 : Int32) = 1 := by decide
theorem zn32 : ¬ (3 : Int32) = 2 := by decide
theorem zn40 : ¬ (4 : Int32) = 0 := by decide
theorem zn41 : ¬ (4 : Int32) = 1 := by decide
theorem zn42 : ¬ (4 : Int32) = 2 := by decide
theorem zn43 : ¬ (4 : Int32) = 3 := by decide
theorem zn50 : ¬ (5 : Int32) = 0 := by decide
theorem zn51 : ¬ (5 : Int32) = 1 := by decide
theorem zn52 : ¬ (5 : Int32) = 2 := by decide
theorem zn53 : ¬ (5 : Int32) = 3 := by decide
theorem zn54 : ¬ (5 : Int32) = 4 := by decide
theorem q_block0 (hc : RC (D 0) A) {k : Nat} (hk : k < 64) : f_X5_block D sav old hsz cs len g (nI k) 0 = some (if A 1 k = 8 then -5 else nI (A 1 k)) := by
  unfold f_X5_block f_X0_ownerOf
  rw [if_neg (nI_pos (by omega)), if_pos (show nI k < 64 from nI_lt (b := 64) hk (by decide)), if_pos rfl, f_at_in (by decide) _ hk, gb_some, gb_some, hc.own hk]
def usV (A : Nat → Nat → Nat) (k : Nat) : Nat := if A 1 k = 8 then 0 else if A 5 (A 1 k) ≤ A 2 k then 2 else 1
theorem q_block1 (hc : RC (D 0) A) (hI : IA A) {k : Nat} (hk : k < 64) : f_X5_block D sav old hsz cs len g (nI k) 1 = some (nI (usV A k)) := by
  have z := hI.1 k hk
  have e : f_X0_useOf (D 0) (nI k) = some (nI (usV A k)) := by
    unfold f_X0_useOf usV
    by_cases c8 : A 1 k = 8
    · rw [free_t hc hk c8, gb_some, if_neg n10, if_pos c8]; rfl
    · have w := z.2.2 (by omega)
      have hl := hI.2.2.2.1 (A 1 k) (by omega)
      rw [free_f hc hI.b hk c8, gb_some, if_pos rfl, f_at_in (by decide) _ hk, gb_some, f_at_in (by decide) _ hk, gb_some, hc.own hk, if_neg c8, f_at_in (by decide) _ (show A 1 k < 8 by omega), gb_some, hc.sz (by omega), hc.ix hk, if_neg c8, if_neg c8]
      by_cases q : A 5 (A 1 k) ≤ A 2 k
      · rw [if_pos (nI_le q (by omega)), if_pos q]; rfl
      · rw [if_neg (nI_ge (by omega) (by omega)), if_neg q]; rfl
  unfold f_X5_block
  rw [if_neg (nI_pos (by omega)), if_pos (show nI k < 64 from nI_lt (b := 64) hk (by decide)), if_neg n10, if_pos rfl, e, gb_some]
theorem q_block2 (hc : RC (D 0) A) {k : Nat} (hk : k < 64) : f_X5_block D sav old hsz cs len g (nI k) 2 = some (if A 1 k = 8 then -5 else nI (A 2 k)) := by
  unfold f_X5_block f_X0_placeOf
  rw [if_neg (nI_pos (by omega)), if_pos (show nI k < 64 from nI_lt (b := 64) hk (by decide)), if_neg zn20, if_neg zn21, if_pos rfl, f_at_in (by decide) _ hk, gb_some, gb_some, hc.ix hk]
theorem q_block3 (hc : RC (D 0) A) {k : Nat} (hk : k < 64) : f_X5_block D sav old hsz cs len g (nI k) 3 = some (nI (A 0 k)) := by
  unfold f_X5_block f_X0_stampOf
  rw [if_neg (nI_pos (by omega)), if_pos (show nI k < 64 from nI_lt (b := 64) hk (by decide)), if_neg zn30, if_neg zn31, if_neg zn32, if_pos rfl, f_at_in (by decide) _ hk, gb_some, gb_some, hc.st hk]
theorem q_file_no (hc : RC (D 0) A) (hI : IA A) {f : Nat} (hf : f < 8) (e0 : A 3 f = 0) (w : Int32) : f_X5_file D sav old hsz cs len g (nI f) w = some (-1) := by
  unfold f_X5_file
  rw [C_isFile hc hI hf, gb_some, if_pos e0, if_pos rfl]
theorem q_file0 (hc : RC (D 0) A) (hI : IA A) {f : Nat} (hf : f < 8) (e0 : A 3 f ≠ 0) : f_X5_file D sav old hsz cs len g (nI f) 0 = some (nI (A 5 f)) := by
  unfold f_X5_file f_X0_sizeOf
  rw [C_isFile hc hI hf, gb_some, if_neg e0, if_neg n10, if_pos rfl, f_at_in (by decide) _ hf, gb_some, gb_some, hc.sz hf]
theorem q_file1 (hc : RC (D 0) A) (hI : IA A) {f : Nat} (hf : f < 8) (e0 : A 3 f ≠ 0) : f_X5_file D sav old hsz cs len g (nI f) 1 = some (nI (A 4 f - A 5 f)) := by
  unfold f_X5_file
  rw [C_isFile hc hI hf, gb_some, if_neg e0, if_neg n10, if_neg n10, if_pos rfl, C_lentOf hc hI hf, gb_some]
theorem q_file2 (hc : RC (D 0) A) (hI : IA A) {f : Nat} (hf : f < 8) (e0 : A 3 f ≠ 0) : f_X5_file D sav old hsz cs len g (nI f) 2 = some (nI (A 6 f)) := by
  unfold f_X5_file f_X0_safeSizeOf
  rw [C_isFile hc hI hf, gb_some, if_neg e0, if_neg n10, if_neg zn20, if_neg zn21, if_pos rfl, f_at_in (by decide) _ hf, gb_some, gb_some, hc.sf hf]
theorem q_file3 (hc : RC (D 0) A) (hI : IA A) {f : Nat} (hf : f < 8) (e0 : A 3 f ≠ 0) : f_X5_file D sav old hsz cs len g (nI f) 3 = some (if A 3 f = 2 then 1 else 0) := by
  unfold f_X5_file
  rw [C_isFile hc hI hf, gb_some, if_neg e0, if_neg n10, if_neg zn30, if_neg zn31, if_neg zn32, if_pos rfl, C_isOpen hc hI hf, gb_some]
  by_cases e2 : A 3 f = 2
  · rw [if_pos e2, if_neg n10]
  · rw [if_neg e2, if_pos rfl]
theorem q_file4 (hc : RC (D 0) A) (hI : IA A) {f : Nat} (hf : f < 8) (e0 : A 3 f ≠ 0) : f_X5_file D sav old hsz cs len g (nI f) 4 = some (nI (sm (exJ A f) (A 4 f))) := by
  unfold f_X5_file
  rw [C_isFile hc hI hf, gb_some, if_neg e0, if_neg n10, if_neg zn40, if_neg zn41, if_neg zn42, if_neg zn43, if_pos rfl, C_extentsOf hc hI.b hf, gb_some]
theorem q_file5 (hc : RC (D 0) A) (hI : IA A) {f : Nat} (hf : f < 8) (e0 : A 3 f ≠ 0) : f_X5_file D sav old hsz cs len g (nI f) 5 = some (nI (A 7 f)) := by
  unfold f_X5_file f_X0_lendOf
  rw [C_isFile hc hI hf, gb_some, if_neg e0, if_neg n10, if_neg zn50, if_neg zn51, if_neg zn52, if_neg zn53, if_neg zn54, if_pos rfl, f_at_in (by decide) _ hf, gb_some, gb_some, hc.ld hf]
theorem p00 : ¬ (0 : Int32) < 0 := by decide
theorem p10 : ¬ (1 : Int32) < 0 := by decide
theorem p01 : (0 : Int32) ≤ 1 := by decide
theorem p11 : (1 : Int32) ≤ 1 := by decide
theorem q_ext0 (hc : RC (D 0) A) (hI : IA A) {f e p : Nat} (hf : f < 8) (e0 : A 3 f ≠ 0) (he : e < 2 ^ 31) (hp : p < A 4 f) (hb : exJ A f p = 1) (hs : sm (exJ A f) p = e) : f_X5_extent D sav old hsz cs len g (nI f) (nI e) 0 = some (nI (bk A f p)) := by
  have hl := (hI.2.2.2.1 f hf).2.2.1
  unfold f_X5_extent
  rw [C_isFile hc hI hf, gb_some, if_neg e0, if_neg n10, if_neg (nI_pos he), if_neg p00, if_pos p01, C_place hc hI.b hf he hp hb hs, gb_some, if_neg (nI_m5 (by omega)), if_pos rfl, C_blockAt hc hI.b hf hp, gb_some]
theorem q_ext1 (hc : RC (D 0) A) (hI : IA A) {f e p q : Nat} (hf : f < 8) (e0 : A 3 f ≠ 0) (he : e < 2 ^ 31) (hp : p < A 4 f) (hb : exJ A f p = 1) (hs : sm (exJ A f) p = e) (hpq : p < q) (hq : q ≤ A 4 f) (h1 : ∀ j, p < j → j < q → exJ A f j = 0) (h2 : q < A 4 f → exJ A f q = 1) : f_X5_extent D sav old hsz cs len g (nI f) (nI e) 1 = some (nI (q - p)) := by
  have hl := (hI.2.2.2.1 f hf).2.2.1
  unfold f_X5_extent
  rw [C_isFile hc hI hf, gb_some, if_neg e0, if_neg n10, if_neg (nI_pos he), if_neg p10, if_pos p11, C_place hc hI.b hf he hp hb hs, gb_some, if_neg (nI_m5 (by omega)), if_neg n10, C_extentFrom hc hI.b hf hpq hq h1 h2, gb_some]
theorem q_extN (hc : RC (D 0) A) (hI : IA A) {f e : Nat} (hf : f < 8) (e0 : A 3 f ≠ 0) (he : e < 2 ^ 31) (hn : sm (exJ A f) (A 4 f) ≤ e) : f_X5_extent D sav old hsz cs len g (nI f) (nI e) 0 = some (-5) := by
  unfold f_X5_extent
  rw [C_isFile hc hI hf, gb_some, if_neg e0, if_neg n10, if_neg (nI_pos he), if_neg p00, if_pos p01, C_place_none hc hI.b hf he hn, gb_some, if_pos rfl]
theorem q_run0 (hc : RC (D 0) A) (hI : IA A) {e p : Nat} (he : e < 2 ^ 31) (hp : p < 64) (h1 : 0 < rs A p) (h2 : sm (sI A) p = e) : f_X5_run D sav old hsz cs len g (nI e) 0 = some (nI p) := by
  unfold f_X5_run
  rw [if_neg (nI_pos he), if_neg p00, if_pos p01, C_run_some hc hI.b he hp h1 h2, gb_some, if_neg (nI_m5 (by omega)), if_pos rfl]
theorem q_run1 (hc : RC (D 0) A) (hI : IA A) {e p : Nat} (he : e < 2 ^ 31) (hp : p < 64) (h1 : 0 < rs A p) (h2 : sm (sI A) p = e) : f_X5_run D sav old hsz cs len g (nI e) 1 = some (nI (rs A p)) := by
  unfold f_X5_run
  rw [if_neg (nI_pos he), if_neg p10, if_pos p11, C_run_some hc hI.b he hp h1 h2, gb_some, if_neg (nI_m5 (by omega)), if_neg n10, C_runFrom hc hI.b hp, gb_some]
theorem q_readN (hc : RC (D 0) A) (hI : IA A) {f a m : Nat} (hf : f < 8) (e0 : A 3 f ≠ 0) (ha : a < 64) (hm1 : 1 ≤ m) (hm : m ≤ 64) (h : A 5 f ≤ a) : f_X5_read D sav old hsz cs len g (nI f) (nI a) (nI m) 0 = some (-5) := by
  unfold f_X5_read f_X0_sizeOf
  rw [C_isFile hc hI hf, gb_some, if_neg e0, if_neg n10, if_neg (nI_pos (by omega)), if_neg (show ¬ (64 : Int32) ≤ nI a from nI_ge (b := 64) ha (by decide)), if_neg (show ¬ nI m < 1 from nI_nlt (b := 1) hm1 (by omega)), if_neg (show ¬ (64 : Int32) < nI m from nI_nlt (a := 64) hm (by decide)), if_neg p00, if_pos p01, f_at_in (by decide) _ hf, gb_some, gb_some, hc.sz hf, if_neg (nI_nlt h (by omega))]
theorem q_read (hc : RC (D 0) A) (hI : IA A) {f a m : Nat} (hf : f < 8) (e0 : A 3 f ≠ 0) (ha : a < 64) (hm1 : 1 ≤ m) (hm : m ≤ 64) (h : a < A 5 f) (v4 : Int32) (hv : v4 = 0 ∨ v4 = 1) : f_X5_read D sav old hsz cs len g (nI f) (nI a) (nI m) v4 = some (if v4 = 0 then nI (sm (stpJ A f a) (mnN (A 5 f) (a + m))) else nI (mnN (A 5 f) (a + m) - a)) := by
  have hl := hI.2.2.2.1 f hf
  have w := mnN_le (A 5 f) (a + m)
  have ee : (if nI (A 5 f) < nI a + nI m then nI (A 5 f) else nI a + nI m) = nI (mnN (A 5 f) (a + m)) := by
    rw [nI_add]
    unfold mnN
    by_cases c2 : A 5 f < a + m
    · rw [if_pos (nI_lt c2 (by omega)), if_pos c2]
    · rw [if_neg (nI_nlt (by omega) (by omega)), if_neg c2]
  have es : f_X0_sizeOf (D 0) (nI f) = some (nI (A 5 f)) := by
    unfold f_X0_sizeOf
    rw [f_at_in (by decide) _ hf, gb_some, hc.sz hf]
  have hv0 : ¬ v4 < 0 := by rcases hv with rfl | rfl <;> decide
  have hv1 : v4 ≤ 1 := by rcases hv with rfl | rfl <;> decide
  unfold f_X5_read
  rw [C_isFile hc hI hf, gb_some, if_neg e0, if_neg n10, if_neg (nI_pos (by omega)), if_neg (show ¬ (64 : Int32) ≤ nI a from nI_ge (b := 64) ha (by decide)), if_neg (show ¬ nI m < 1 from nI_nlt (b := 1) hm1 (by omega)), if_neg (show ¬ (64 : Int32) < nI m from nI_nlt (a := 64) hm (by decide)), if_neg hv0, if_pos hv1, es, gb_some, if_pos (nI_lt h (by omega)), gb_some, ee, glet_eq, C_sumOfStamps hc hI.b hf (by omega) (by omega), gb_some, sm_stpJ hI.b hf (by omega), nI_sub (by omega)]
  by_cases c : v4 = 0
  · rw [if_pos c, if_pos c]
  · rw [if_neg c, if_neg c]
theorem q_total (hc : RC (D 0) A) {i : Nat} (hi : i < 4) : f_X5_total D sav old hsz cs len g (nI i) = some (nI (A 9 i)) := by
  unfold f_X5_total f_X0_totalOf
  rw [if_neg (nI_pos (by omega)), if_neg (show ¬ (4 : Int32) ≤ nI i from nI_ge (b := 4) hi (by decide)), f_at_in (by decide) _ hi, gb_some, gb_some, hc.tt hi]
theorem q_room (hc : RC (D 0) A) (hI : IA A) {f : Nat} (hf : f < 8) (e0 : A 3 f ≠ 0) : f_X5_room D sav old hsz cs len g (nI f) = some (if A 3 f = 2 then nI (64 - sm (A 5) 8) else -4) := by
  unfold f_X5_room
  rw [C_isFile hc hI hf, gb_some, if_neg e0, if_neg n10, C_isOpen hc hI hf, gb_some]
  by_cases e2 : A 3 f = 2
  · rw [if_pos e2, if_neg n10, C_blocksWithoutData hc hI, gb_some, if_pos e2]
  · rw [if_neg e2, if_pos rfl, if_neg e2]
/-- what count tells -/
noncomputable def ctV (A : Nat → Nat → Nat) : Nat → Nat := fun w => match w with
  | 0 => ct (fun f => A 3 f ≠ 0) 8
  | 1 => ct (fun f => A 3 f = 2) 8
  | 2 => fre A
  | 3 => sm (A 5) 8
  | 4 => sm (fun f => A 4 f - A 5 f) 8
  | 5 => sm (fun f => if A 3 f = 1 then A 4 f - A 5 f else 0) 8
  | 6 => sm (sI A) 64
  | 7 => mxJ A 64
  | _ => sm (fun f => sm (exJ A f) (A 4 f)) 8
theorem q_count (hc : RC (D 0) A) (hI : IA A) {w : Nat} (hw : w < 9) : f_X5_count D sav old hsz cs len g (nI w) = some (nI (ctV A w)) := by
  have cF : f_X0_freeBlocks (D 0) = some (nI (fre A)) := C_freeBlocks hc hI
  have k2 : f_X0_filesThatAre (D 0) 2 = some (nI (ct (fun f => A 3 f = 2) 8)) := C_filesThatAre hc hI 2 (by decide)
  have k1 : f_X0_filesThatAre (D 0) 1 = some (nI (ct (fun f => A 3 f = 1) 8)) := C_filesThatAre hc hI 1 (by decide)
  have l2 : f_X0_lentToFilesThatAre (D 0) 2 = some (nI (sm (fun f => if A 3 f = 2 then A 4 f - A 5 f else 0) 8)) := C_lentTo hc hI 2 (by decide)
  have l1 : f_X0_lentToFilesThatAre (D 0) 1 = some (nI (sm (fun f => if A 3 f = 1 then A 4 f - A 5 f else 0) 8)) := C_lentTo hc hI 1 (by decide)
  have ne : ∀ a b : Nat, a < 9 → b < 9 → a ≠ b → ¬ nI a = nI b := fun a b ha hb h q => h ((nI_eq (by omega) (by omega)).1 q)
  have m : ∀ a b : Nat, a < 9 → b < 9 → a ≠ b → ¬ nI a = nI b := ne
  unfold f_X5_count
  rcases (show w = 0 ∨ w = 1 ∨ w = 2 ∨ w = 3 ∨ w = 4 ∨ w = 5 ∨ w = 6 ∨ w = 7 ∨ w = 8 by omega) with e | e | e | e | e | e | e | e | e <;> subst e
  · rw [if_pos (show nI 0 = 0 from rfl), k2, gb_some, k1, gb_some, nI_add, two_modes hI]; rfl
  · rw [if_neg (show ¬ nI 1 = 0 by decide), if_pos (show nI 1 = 1 from rfl), k2, gb_some]; rfl
  · rw [if_neg (show ¬ nI 2 = 0 by decide), if_neg (show ¬ nI 2 = 1 by decide), if_pos (show nI 2 = 2 from rfl), cF, gb_some]; rfl
  · rw [if_neg (show ¬ nI 3 = 0 by decide), if_neg (show ¬ nI 3 = 1 by decide), if_neg (show ¬ nI 3 = 2 by decide), if_pos (show nI 3 = 3 from rfl), C_dataBlocks hc, gb_some]; rfl
  · rw [if_neg (show ¬ nI 4 = 0 by decide), if_neg (show ¬ nI 4 = 1 by decide), if_neg (show ¬ nI 4 = 2 by decide), if_neg (show ¬ nI 4 = 3 by decide), if_pos (show nI 4 = 4 from rfl), l2, gb_some, l1, gb_some, nI_add, two_lents hI]; rfl
  · rw [if_neg (show ¬ nI 5 = 0 by decide), if_neg (show ¬ nI 5 = 1 by decide), if_neg (show ¬ nI 5 = 2 by decide), if_neg (show ¬ nI 5 = 3 by decide), if_neg (show ¬ nI 5 = 4 by decide), if_pos (show nI 5 = 5 from rfl), l1, gb_some]; rfl
  · rw [if_neg (show ¬ nI 6 = 0 by decide), if_neg (show ¬ nI 6 = 1 by decide), if_neg (show ¬ nI 6 = 2 by decide), if_neg (show ¬ nI 6 = 3 by decide), if_neg (show ¬ nI 6 = 4 by decide), if_neg (show ¬ nI 6 = 5 by decide), if_pos (show nI 6 = 6 from rfl), C_freeRuns hc hI.b, gb_some]; rfl
  · rw [if_neg (show ¬ nI 7 = 0 by decide), if_neg (show ¬ nI 7 = 1 by decide), if_neg (show ¬ nI 7 = 2 by decide), if_neg (show ¬ nI 7 = 3 by decide), if_neg (show ¬ nI 7 = 4 by decide), if_neg (show ¬ nI 7 = 5 by decide), if_neg (show ¬ nI 7 = 6 by decide), if_pos (show nI 7 = 7 from rfl), C_longestRun hc hI.b, gb_some]; rfl
  · rw [if_neg (show ¬ nI 8 = 0 by decide), if_neg (show ¬ nI 8 = 1 by decide), if_neg (show ¬ nI 8 = 2 by decide), if_neg (show ¬ nI 8 = 3 by decide), if_neg (show ¬ nI 8 = 4 by decide), if_neg (show ¬ nI 8 = 5 by decide), if_neg (show ¬ nI 8 = 6 by decide), if_neg (show ¬ nI 8 = 7 by decide), if_pos (show nI 8 = 8 from rfl), C_allExtents hc hI.b, gb_some]; rfl
theorem q_count9 (n : Nat) (h : hsz = nI n) : f_X5_count D sav old hsz cs len g 9 = some (nI n) := by
  unfold f_X5_count f_X1_size
  rw [if_neg (show ¬ (9 : Int32) = 0 by decide), if_neg (show ¬ (9 : Int32) = 1 by decide), if_neg (show ¬ (9 : Int32) = 2 by decide), if_neg (show ¬ (9 : Int32) = 3 by decide), if_neg (show ¬ (9 : Int32) = 4 by decide), if_neg (show ¬ (9 : Int32) = 5 by decide), if_neg (show ¬ (9 : Int32) = 6 by decide), if_neg (show ¬ (9 : Int32) = 7 by decide), if_neg (show ¬ (9 : Int32) = 8 by decide), if_pos rfl, gb_some, h]
end Q
