/-! MATHEMATICS, 47: each order, as the text gives it: refused by both, or done by both. -/
section PAIR
variable {A : Nat → Nat → Nat} {d : Nat → Nat → Int32} {t : Nat → Int32}
def Pair (A : Nat → Nat → Nat) (d : Nat → Nat → Int32) (t : Nat → Int32) (F : (Nat → Nat → Int32) → Option (Int32 × (Nat → Nat → Int32))) (E : (Nat → Int32) → (Nat → Int32) → (Nat → Int32) → Option Int32) (G : (Nat → Int32) → (Nat → Int32) → (Nat → Int32) → Option (Int32 × (Nat → Int32))) : Prop :=
  (∃ r : Int32, r < 0 ∧ F d = some (r, d) ∧ ∀ s1 g1, RM s1 0 A → ∃ e : Int32, e ≠ 0 ∧ E s1 t g1 = some e) ∨
  (∃ (r : Nat) (d' : Nat → Nat → Int32) (A' : Nat → Nat → Nat), r < 2 ^ 31 ∧ F d = some (nI r, d') ∧ RC d' A' ∧ IA A' ∧ ∀ s1 g1, RM s1 0 A → E s1 t g1 = some 0 ∧ ∃ s2, G s1 t g1 = some (nI r, s2) ∧ RM s2 0 A' ∧ Out 0 s1 s2)
theorem pr_open (hc : RC d A) (hI : IA A) (v1 : Int32) : Pair A d t (fun d => f_X0_openFile d v1) (fun s t g => f_X6_openError s t g v1) (fun s t g => f_X6_opens s t g v1) := by
  rcases i_cases v1 8 (by decide) with ⟨f, hf, rfl⟩ | ho
  · have hmd := hI.2.2.2.1 f hf
    by_cases e0 : A 3 f = 0
    · refine Or.inl ⟨-1, by decide, ?_, fun s1 g1 hm => ⟨-1, by decide, ?_⟩⟩
      · show f_X0_openFile d (nI f) = _
        unfold f_X0_openFile
        rw [C_isFile hc hI hf, gb_some, if_pos e0, if_pos rfl]
      · show f_X6_openError s1 t g1 (nI f) = _
        rw [M_openError hm hI hf, if_pos e0]
    · by_cases e1 : A 3 f = 2
      · refine Or.inl ⟨-4, by decide, ?_, fun s1 g1 hm => ⟨-4, by decide, ?_⟩⟩
        · show f_X0_openFile d (nI f) = _
          unfold f_X0_openFile
          rw [C_isFile hc hI hf, gb_some, if_neg e0, if_neg n10, C_isOpen hc hI hf, gb_some, if_pos e1, if_neg n10]
        · show f_X6_openError s1 t g1 (nI f) = _
          rw [M_openError hm hI hf, if_neg e0, if_pos e1]
      · have e2 : A 3 f = 1 := by omega
        obtain ⟨d', c1, c2⟩ := C_open hc hI hf e2
        refine Or.inr ⟨ct (fun f' => opA A f 3 f' = 2) 8, d', opA A f, Nat.lt_of_le_of_lt (ct_le _ 8) (by decide), c1, c2, IA_open hI (by omega), fun s1 g1 hm1 => ⟨?_, M_open hm1 hI hf e2⟩⟩
        show f_X6_openError s1 t g1 (nI f) = _
        rw [M_openError hm1 hI hf, if_neg e0, if_neg e1]
  · refine Or.inl ⟨-1, by decide, ?_, fun s1 g1 hm => ⟨-1, by decide, M_openError_out ho⟩⟩
    show f_X0_openFile d v1 = _
    unfold f_X0_openFile
    rw [C_isFile_out ho, gb_some, if_pos rfl]
theorem pr_close (hc : RC d A) (hI : IA A) (v1 : Int32) : Pair A d t (fun d => f_X0_closeFile d v1) (fun s t g => f_X6_closeError s t g v1) (fun s t g => f_X6_closes s t g v1) := by
  rcases i_cases v1 8 (by decide) with ⟨f, hf, rfl⟩ | ho
  · have hmd := hI.2.2.2.1 f hf
    by_cases e0 : A 3 f = 0
    · refine Or.inl ⟨-1, by decide, ?_, fun s1 g1 hm => ⟨-1, by decide, ?_⟩⟩
      · show f_X0_closeFile d (nI f) = _
        unfold f_X0_closeFile
        rw [C_isFile hc hI hf, gb_some, if_pos e0, if_pos rfl]
      · show f_X6_closeError s1 t g1 (nI f) = _
        rw [M_closeError hm hI hf, if_pos e0]
    · by_cases e1 : A 3 f = 1
      · refine Or.inl ⟨-4, by decide, ?_, fun s1 g1 hm => ⟨-4, by decide, ?_⟩⟩
        · show f_X0_closeFile d (nI f) = _
          unfold f_X0_closeFile
          rw [C_isFile hc hI hf, gb_some, if_neg e0, if_neg n10, C_isOpen hc hI hf, gb_some, if_neg (show ¬ A 3 f = 2 by omega), if_pos rfl]
        · show f_X6_closeError s1 t g1 (nI f) = _
          rw [M_closeError hm hI hf, if_neg e0, if_neg (show ¬ A 3 f = 2 by omega)]
      · have e2 : A 3 f = 2 := by omega
        obtain ⟨d', c1, c2⟩ := C_close hc hI hf e2
        refine Or.inr ⟨A 4 f - A 5 f, d', clA A f, by omega, c1, c2, IA_close hI hf e2, fun s1 g1 hm1 => ⟨?_, M_close hm1 hI hf e2⟩⟩
        show f_X6_closeError s1 t g1 (nI f) = _
        rw [M_closeError hm1 hI hf, if_neg e0, if_pos e2]
  · refine Or.inl ⟨-1, by decide, ?_, fun s1 g1 hm => ⟨-1, by decide, M_closeError_out ho⟩⟩
    show f_X0_closeFile d v1 = _
    unfold f_X0_closeFile
    rw [C_isFile_out ho, gb_some, if_pos rfl]
theorem pr_remove (hc : RC d A) (hI : IA A) (v1 : Int32) : Pair A d t (fun d => f_X0_removeFile d v1) (fun s t g => f_X6_openError s t g v1) (fun s t g => f_X6_removes s t g v1) := by
  rcases i_cases v1 8 (by decide) with ⟨f, hf, rfl⟩ | ho
  · have hmd := hI.2.2.2.1 f hf
    by_cases e0 : A 3 f = 0
    · refine Or.inl ⟨-1, by decide, ?_, fun s1 g1 hm => ⟨-1, by decide, ?_⟩⟩
      · show f_X0_removeFile d (nI f) = _
        unfold f_X0_removeFile
        rw [C_isFile hc hI hf, gb_some, if_pos e0, if_pos rfl]
      · show f_X6_openError s1 t g1 (nI f) = _
        rw [M_openError hm hI hf, if_pos e0]
    · by_cases e1 : A 3 f = 2
      · refine Or.inl ⟨-4, by decide, ?_, fun s1 g1 hm => ⟨-4, by decide, ?_⟩⟩
        · show f_X0_removeFile d (nI f) = _
          unfold f_X0_removeFile
          rw [C_isFile hc hI hf, gb_some, if_neg e0, if_neg n10, C_isOpen hc hI hf, gb_some, if_pos e1, if_neg n10]
        · show f_X6_openError s1 t g1 (nI f) = _
          rw [M_openError hm hI hf, if_neg e0, if_pos e1]
      · have e2 : A 3 f = 1 := by omega
        obtain ⟨d', c1, c2⟩ := C_remove hc hI hf e2
        refine Or.inr ⟨A 4 f, d', rmA A f, by omega, c1, c2, IA_remove hI hf, fun s1 g1 hm1 => ⟨?_, M_remove hm1 hI hf⟩⟩
        show f_X6_openError s1 t g1 (nI f) = _
        rw [M_openError hm1 hI hf, if_neg e0, if_neg e1]
  · refine Or.inl ⟨-1, by decide, ?_, fun s1 g1 hm => ⟨-1, by decide, M_openError_out ho⟩⟩
    show f_X0_removeFile d v1 = _
    unfold f_X0_removeFile
    rw [C_isFile_out ho, gb_some, if_pos rfl]
theorem pr_sync (hc : RC d A) (hI : IA A) (v1 : Int32) : Pair A d t (fun d => f_X0_syncFile d v1) (fun s t g => f_X6_closeError s t g v1) (fun s t g => f_X6_syncs s t g v1) := by
  rcases i_cases v1 8 (by decide) with ⟨f, hf, rfl⟩ | ho
  · have hmd := hI.2.2.2.1 f hf
    by_cases e0 : A 3 f = 0
    · refine Or.inl ⟨-1, by decide, ?_, fun s1 g1 hm => ⟨-1, by decide, ?_⟩⟩
      · show f_X0_syncFile d (nI f) = _
        unfold f_X0_syncFile
        rw [C_isFile hc hI hf, gb_some, if_pos e0, if_pos rfl]
      · show f_X6_closeError s1 t g1 (nI f) = _
        rw [M_closeError hm hI hf, if_pos e0]
    · by_cases e1 : A 3 f = 1
      · refine Or.inl ⟨-4, by decide, ?_, fun s1 g1 hm => ⟨-4, by decide, ?_⟩⟩
        · show f_X0_syncFile d (nI f) = _
          unfold f_X0_syncFile
          rw [C_isFile hc hI hf, gb_some, if_neg e0, if_neg n10, C_isOpen hc hI hf, gb_some, if_neg (show ¬ A 3 f = 2 by omega), if_pos rfl]
        · show f_X6_closeError s1 t g1 (nI f) = _
          rw [M_closeError hm hI hf, if_neg e0, if_neg (show ¬ A 3 f = 2 by omega)]
      · have e2 : A 3 f = 2 := by omega
        obtain ⟨d', c1, c2⟩ := C_sync hc hI hf e2
        refine Or.inr ⟨A 5 f - A 6 f, d', syA A f, by omega, c1, c2, IA_sync hI, fun s1 g1 hm1 => ⟨?_, M_sync hm1 hI hf e2⟩⟩
        show f_X6_closeError s1 t g1 (nI f) = _
        rw [M_closeError hm1 hI hf, if_neg e0, if_pos e2]
  · refine Or.inl ⟨-1, by decide, ?_, fun s1 g1 hm => ⟨-1, by decide, M_closeError_out ho⟩⟩
    show f_X0_syncFile d v1 = _
    unfold f_X0_syncFile
    rw [C_isFile_out ho, gb_some, if_pos rfl]
theorem pr_create (hc : RC d A) (hI : IA A) : Pair A d t f_X0_createFile f_X6_createError f_X6_creates := by
  rcases first_free A 8 with ⟨f, hf, h0, hl⟩ | hl
  · obtain ⟨d', c1, c2⟩ := C_create hc hI hf h0 hl
    exact Or.inr ⟨f, d', neA A f, by omega, c1, c2, IA_create hI hf h0, fun s1 g1 hm1 => ⟨M_createError_room hm1 hf h0, neS s1 f, M_create hm1 hf h0 hl⟩⟩
  · exact Or.inl ⟨-3, by decide, C_create_full hc hI hl, fun s1 g1 hm => ⟨-3, by decide, M_createError_full hm hl⟩⟩
theorem pr_crash (hc : RC d A) (hI : IA A) : Pair A d t f_X0_crashAll (fun _ _ _ => some 0) f_X6_crashes := by
  have hn := crN_le hI 8 (Nat.le_refl _)
  obtain ⟨d', c1, c2⟩ := C_crash hc hI
  exact Or.inr ⟨crN A 8, d', crA A, by omega, c1, c2, IA_crash hI, fun s1 g1 hm1 => ⟨rfl, M_crash hm1 hI⟩⟩
theorem pr_mend (hc : RC d A) (hI : IA A) : Pair A d t f_X0_mendAll (fun _ _ _ => some 0) f_X6_mends := by
  have hn := mdN_le hI 8 (Nat.le_refl _)
  obtain ⟨d', c1, c2⟩ := C_mend hc hI
  exact Or.inr ⟨mdN A 8, d', mdJ A 8, by omega, c1, c2, IA_mend hI (Nat.le_refl _), fun s1 g1 hm1 => ⟨rfl, M_mend hm1 hI⟩⟩
theorem pr_cut (hc : RC d A) (hI : IA A) (v1 v2 : Int32) : Pair A d t (fun d => f_X0_cutFile d v1 v2) (fun s t g => f_X6_cutError s t g v1 v2) (fun s t g => f_X6_cuts s t g v1 v2) := by
  rcases i_cases v1 8 (by decide) with ⟨f, hf, rfl⟩ | ho
  · have hmd := hI.2.2.2.1 f hf
    by_cases e0 : A 3 f = 0
    · refine Or.inl ⟨-1, by decide, ?_, fun s1 g1 hm => ⟨-1, by decide, ?_⟩⟩
      · show f_X0_cutFile d (nI f) v2 = _
        unfold f_X0_cutFile
        rw [C_isFile hc hI hf, gb_some, if_pos e0, if_pos rfl]
      · show f_X6_cutError s1 t g1 (nI f) v2 = _
        unfold f_X6_cutError
        rw [M_isThere hm hf, gb_some, if_pos e0, if_pos rfl]
    · by_cases hv : v2 < 0 ∨ 64 < v2
      · refine Or.inl ⟨-2, by decide, ?_, fun s1 g1 hm => ⟨-2, by decide, ?_⟩⟩
        · show f_X0_cutFile d (nI f) v2 = _
          unfold f_X0_cutFile
          rw [C_isFile hc hI hf, gb_some, if_neg e0, if_neg n10]
          by_cases c : v2 < 0
          · rw [if_pos c]
          · rw [if_neg c, if_neg (Int32.not_le.mpr (hv.resolve_left c))]
        · show f_X6_cutError s1 t g1 (nI f) v2 = _
          unfold f_X6_cutError
          rw [M_isThere hm hf, gb_some, if_neg e0, if_neg n10, M_in_if v2 0 64, if_pos hv, gb_some, if_pos rfl]
      · have hv2 := hv
        obtain ⟨n, -, c64, e⟩ := i_range (lo := 0) (hi := 64) (by decide) (by decide) hv
        subst e
        have hE : ∀ s1 g1, RM s1 0 A → f_X6_cutError s1 t g1 (nI f) (nI n) = some (if A 3 f = 2 ∧ n ≤ A 5 f then 0 else -4) := fun s1 g1 hm => by
          unfold f_X6_cutError
          rw [M_isThere hm hf, gb_some, if_neg e0, if_neg n10, M_in_if (nI n) 0 64, if_neg hv2, gb_some, if_neg n10, M_isOpen hm hf e0, gb_some]
          by_cases c : A 3 f = 2
          · rw [if_pos c, if_neg n10, show f_X6_at 0 (nI f) = some (nI (0 + 192 + 6 * f)) from M_at 0 f, gb_some, show nI (0 + 192 + 6 * f) + 2 = nI (0 + 192 + 6 * f + 2) from nI_add _ 2, m_rd (by omega), nI_clamp (by omega), hm.sz hf e0]
            by_cases c5 : n ≤ A 5 f
            · rw [if_neg (nI_nlt c5 (by omega)), if_pos ⟨c, c5⟩]
            · rw [if_pos (nI_lt (by omega) (by omega)), if_neg (fun w => c5 w.2)]
          · rw [if_neg c, if_pos rfl, if_neg (fun w => c w.1)]
        by_cases c : A 3 f = 2 ∧ n ≤ A 5 f
        · obtain ⟨d', c1, c2⟩ := C_cut hc hI hf c.1 c.2
          refine Or.inr ⟨A 4 f - n, d', cuA A f n, by omega, c1, c2, IA_cut hI hf c.2, fun s1 g1 hm1 => ⟨?_, M_cut hm1 hI hf c.1 c.2⟩⟩
          show f_X6_cutError s1 t g1 (nI f) (nI n) = _
          rw [hE s1 g1 hm1, if_pos c]
        · refine Or.inl ⟨-4, by decide, ?_, fun s1 g1 hm => ⟨-4, by decide, ?_⟩⟩
          · show f_X0_cutFile d (nI f) (nI n) = _
            unfold f_X0_cutFile
            rw [C_isFile hc hI hf, gb_some, if_neg e0, if_neg n10, if_neg (nI_pos (by omega)), if_pos (show nI n ≤ (64 : Int32) from nI_le (b := 64) c64 (by decide)), C_isOpen hc hI hf, gb_some]
            by_cases c2 : A 3 f = 2
            · have c5 : ¬ n ≤ A 5 f := fun w => c ⟨c2, w⟩
              rw [if_pos c2, if_neg n10, f_at_in (by decide) _ hf, gb_some, hc.sz hf, if_neg (nI_ge (by omega) (by omega))]
            · rw [if_neg c2, if_pos rfl]
          · show f_X6_cutError s1 t g1 (nI f) (nI n) = _
            rw [hE s1 g1 hm, if_neg c]
  · refine Or.inl ⟨-1, by decide, ?_, fun s1 g1 hm => ⟨-1, by decide, ?_⟩⟩
    · show f_X0_cutFile d v1 v2 = _
      unfold f_X0_cutFile
      rw [C_isFile_out ho, gb_some, if_pos rfl]
    · show f_X6_cutError s1 t g1 v1 v2 = _
      unfold f_X6_cutError
      rw [M_isThere_out ho, gb_some, if_pos rfl]
theorem pr_append (hc : RC d A) (hI : IA A) (v1 v2 v3 : Int32) : Pair A d t (fun d => f_X0_appendTo d v1 v2 v3) (fun s t g => f_X6_appendError s t g v1 v2 v3) (fun s t g => f_X6_appends s t g 0 v1 v2 v3) := by
  rcases i_cases v1 8 (by decide) with ⟨f, hf, rfl⟩ | ho
  · have hmd := hI.2.2.2.1 f hf
    by_cases e0 : A 3 f = 0
    · refine Or.inl ⟨-1, by decide, C_app_none hc hI hf e0 v2 v3, fun s1 g1 hm => ⟨-1, by decide, ?_⟩⟩
      show f_X6_appendError s1 t g1 (nI f) v2 v3 = _
      unfold f_X6_appendError
      rw [M_isThere hm hf, gb_some, if_pos e0, if_pos rfl]
    · by_cases hv : v2 < 1 ∨ 64 < v2
      · refine Or.inl ⟨-2, by decide, C_app_bad hc hI hf e0 hv v3, fun s1 g1 hm => ⟨-2, by decide, ?_⟩⟩
        show f_X6_appendError s1 t g1 (nI f) v2 v3 = _
        unfold f_X6_appendError
        rw [M_isThere hm hf, gb_some, if_neg e0, if_neg n10, M_in_if v2 1 64, if_pos hv, gb_some, if_pos rfl]
      · by_cases hw : v3 < 0 ∨ 99 < v3
        · refine Or.inl ⟨-2, by decide, C_app_bad2 hc hI hf e0 hv hw, fun s1 g1 hm => ⟨-2, by decide, ?_⟩⟩
          show f_X6_appendError s1 t g1 (nI f) v2 v3 = _
          unfold f_X6_appendError
          rw [M_isThere hm hf, gb_some, if_neg e0, if_neg n10, M_in_if v2 1 64, if_neg hv, gb_some, if_neg n10, M_in_if v3 0 99, if_pos hw, gb_some, if_pos rfl]
        · obtain ⟨n, h1, h64, e2⟩ := i_range (lo := 1) (hi := 64) (by decide) (by decide) hv
          obtain ⟨st, -, hst, e3⟩ := i_range (lo := 0) (hi := 99) (by decide) (by decide) hw
          have hE : ∀ s1 g1, RM s1 0 A → f_X6_appendError s1 t g1 (nI f) v2 v3 = some (if A 3 f = 2 ∧ n ≤ 64 - sm (A 5) 8 then 0 else -4) := fun s1 g1 hm => by
            unfold f_X6_appendError
            rw [M_isThere hm hf, gb_some, if_neg e0, if_neg n10, M_in_if v2 1 64, if_neg hv, gb_some, if_neg n10, M_in_if v3 0 99, if_neg hw, gb_some, if_neg n10, M_isOpen hm hf e0, gb_some]
            by_cases c : A 3 f = 2
            · rw [if_pos c, if_neg n10, e2, M_canAppend hm hI _ h64, gb_some]
              by_cases c2 : n ≤ 64 - sm (A 5) 8
              · rw [if_pos c2, if_neg n10, if_pos ⟨c, c2⟩]
              · rw [if_neg c2, if_pos rfl, if_neg (fun q => c2 q.2)]
            · rw [if_neg c, if_pos rfl, if_neg (fun q => c q.1)]
          by_cases c : A 3 f = 2 ∧ n ≤ 64 - sm (A 5) 8
          · have hAp := IA_append hI hf (n := n) (st := st) (by omega) c.2 hst
            have hbd := sm_exJ_le (apA A f n st) f (apA A f n st 4 f)
            have hb4 := (hAp.2.2.2.1 f hf).2.2.1
            obtain ⟨d', c1, c2⟩ := C_append hc hI hf c.1 h1 c.2 hst
            refine Or.inr ⟨sm (exJ (apA A f n st) f) (apA A f n st 4 f), d', apA A f n st, by omega, ?_, c2, hAp, fun s1 g1 hm1 => ⟨?_, ?_⟩⟩
            · show f_X0_appendTo d (nI f) v2 v3 = _
              rw [e2, e3]; exact c1
            · show f_X6_appendError s1 t g1 (nI f) v2 v3 = _
              rw [hE s1 g1 hm1, if_pos c]
            · show ∃ s2, f_X6_appends s1 t g1 0 (nI f) v2 v3 = _ ∧ _
              rw [e2, e3]
              exact M_append (b := 0) hm1 hI (by omega) hf (by omega) c.2 hst
          · have hno : A 3 f ≠ 2 ∨ ¬ n ≤ 64 - sm (A 5) 8 := by
              by_cases q : A 3 f = 2
              · exact Or.inr (fun z => c ⟨q, z⟩)
              · exact Or.inl q
            refine Or.inl ⟨-4, by decide, ?_, fun s1 g1 hm => ⟨-4, by decide, ?_⟩⟩
            · show f_X0_appendTo d (nI f) v2 v3 = _
              rw [e2, e3]
              exact C_app_no hc hI hf e0 h1 h64 hst hno
            · show f_X6_appendError s1 t g1 (nI f) v2 v3 = _
              rw [hE s1 g1 hm, if_neg c]
  · refine Or.inl ⟨-1, by decide, C_app_out ho v2 v3, fun s1 g1 hm => ⟨-1, by decide, ?_⟩⟩
    show f_X6_appendError s1 t g1 v1 v2 v3 = _
    unfold f_X6_appendError
    rw [M_isThere_out ho, gb_some, if_pos rfl]
end PAIR
