/-! MATHEMATICS, 37: append and set as calls. -/
section CALLS3
variable {A : Nat → Nat → Nat} {s t g : Nat → Int32} {d : Nat → Nat → Int32}
theorem M_in_if (v lo hi : Int32) : f_X6_in v lo hi = some (if v < lo ∨ hi < v then 0 else 1) := by
  unfold f_X6_in
  by_cases c1 : v < lo
  · rw [if_pos c1, if_pos (Or.inl c1)]
  · rw [if_neg c1]
    by_cases c2 : hi < v
    · rw [if_pos c2, if_pos (Or.inr c2)]
    · rw [if_neg c2, if_neg (fun q => q.elim c1 c2)]
theorem i_range {v : Int32} {lo hi : Nat} (hl : lo < 2 ^ 31) (hh : hi < 2 ^ 31) (h : ¬ (v < nI lo ∨ nI hi < v)) : ∃ n, lo ≤ n ∧ n ≤ hi ∧ v = nI n := by
  rcases i_split v with hv | ⟨n, hn, rfl⟩
  · exact absurd (Or.inl (ng_lt hv hl)) h
  · refine ⟨n, ?_, ?_, rfl⟩
    · by_cases c : lo ≤ n
      · exact c
      · exact absurd (Or.inl (nI_lt (by omega) hl)) h
    · by_cases c : n ≤ hi
      · exact c
      · exact absurd (Or.inr (nI_lt (by omega) hn)) h
theorem C_app_out {v1 : Int32} (ho : v1 < 0 ∨ nI 8 ≤ v1) (v2 v3 : Int32) : f_X0_appendTo d v1 v2 v3 = some (-1, d) := by
  unfold f_X0_appendTo
  rw [C_isFile_out ho, gb_some, if_pos rfl]
theorem C_app_none (h : RC d A) (hI : IA A) {f : Nat} (hf : f < 8) (e0 : A 3 f = 0) (v2 v3 : Int32) : f_X0_appendTo d (nI f) v2 v3 = some (-1, d) := by
  unfold f_X0_appendTo
  rw [C_isFile h hI hf, gb_some, if_pos e0, if_pos rfl]
theorem C_app_bad (h : RC d A) (hI : IA A) {f : Nat} (hf : f < 8) (e0 : A 3 f ≠ 0) {v2 : Int32} (hv : v2 < 1 ∨ 64 < v2) (v3 : Int32) : f_X0_appendTo d (nI f) v2 v3 = some (-2, d) := by
  unfold f_X0_appendTo
  rw [C_isFile h hI hf, gb_some, if_neg e0, if_neg (by decide)]
  by_cases c : v2 < 1
  · rw [if_pos c]
  · rw [if_neg c, if_pos (hv.resolve_left c)]
theorem C_app_bad2 (h : RC d A) (hI : IA A) {f : Nat} (hf : f < 8) (e0 : A 3 f ≠ 0) {v2 v3 : Int32} (hv : ¬ (v2 < 1 ∨ 64 < v2)) (hw : v3 < 0 ∨ 99 < v3) : f_X0_appendTo d (nI f) v2 v3 = some (-2, d) := by
  unfold f_X0_appendTo
  rw [C_isFile h hI hf, gb_some, if_neg e0, if_neg (by decide), if_neg (fun q => hv (Or.inl q)), if_neg (fun q => hv (Or.inr q))]
  by_cases c : v3 < 0
  · rw [if_pos c]
  · rw [if_neg c, if_neg (Int32.not_le.mpr (hw.resolve_left c))]
theorem C_app_no (h : RC d A) (hI : IA A) {f n st : Nat} (hf : f < 8) (e0 : A 3 f ≠ 0) (h1 : 1 ≤ n) (h64 : n ≤ 64) (hst : st ≤ 99) (hn : A 3 f ≠ 2 ∨ ¬ n ≤ 64 - sm (A 5) 8) : f_X0_appendTo d (nI f) (nI n) (nI st) = some (-4, d) := by
  unfold f_X0_appendTo
  rw [C_isFile h hI hf, gb_some, if_neg e0, if_neg (by decide), if_neg (show ¬ nI n < 1 from nI_nlt (b := 1) h1 (by omega)), if_neg (show ¬ (64 : Int32) < nI n from nI_nlt (a := 64) (by omega) (by decide)), if_neg (nI_pos (by omega)), if_pos (show nI st ≤ (99 : Int32) from nI_le (b := 99) hst (by decide)), C_isOpen h hI hf, gb_some]
  by_cases c : A 3 f = 2
  · rw [if_pos c, if_neg (by decide), C_blocksWithoutData h hI, gb_some, if_neg (nI_ge (by have := hn.resolve_left (fun q => q c); omega) (by omega))]
  · rw [if_neg c, if_pos rfl]
theorem st_append_RR : st_append RR := by
  intro D sav old hsz cs len g s t g6 hR v1 v2 v3
  obtain ⟨⟨A, hc, hm, hI⟩, hH, hS, hT⟩ := hR
  rcases i_cases v1 8 (by decide) with ⟨f, hf, rfl⟩ | ho
  · have hmd := hI.2.2.2.1 f hf
    by_cases e0 : A 3 f = 0
    · exact refuse_st hc hm hI hH hS hT (fun d => f_X0_appendTo d (nI f) v2 v3) (r := -1) (by decide) (C_app_none hc hI hf e0 v2 v3) (by
        unfold f_X6_append f_X6_appendError
        rw [M_isThere hm hf, gb_some, if_pos e0, if_pos rfl]
        exact M_ref (by decide))
    · by_cases hv : v2 < 1 ∨ 64 < v2
      · exact refuse_st hc hm hI hH hS hT (fun d => f_X0_appendTo d (nI f) v2 v3) (r := -2) (by decide) (C_app_bad hc hI hf e0 hv v3) (by
          unfold f_X6_append f_X6_appendError
          rw [M_isThere hm hf, gb_some, if_neg e0, if_neg (by decide), M_in_if v2 1 64, if_pos hv, gb_some, if_pos rfl]
          exact M_ref (by decide))
      · by_cases hw : v3 < 0 ∨ 99 < v3
        · exact refuse_st hc hm hI hH hS hT (fun d => f_X0_appendTo d (nI f) v2 v3) (r := -2) (by decide) (C_app_bad2 hc hI hf e0 hv hw) (by
            unfold f_X6_append f_X6_appendError
            rw [M_isThere hm hf, gb_some, if_neg e0, if_neg (by decide), M_in_if v2 1 64, if_neg hv, gb_some, if_neg (by decide), M_in_if v3 0 99, if_pos hw, gb_some, if_pos rfl]
            exact M_ref (by decide))
        · obtain ⟨n, h1, h64, e2⟩ := i_range (lo := 1) (hi := 64) (by decide) (by decide) hv
          obtain ⟨st, -, hst, e3⟩ := i_range (lo := 0) (hi := 99) (by decide) (by decide) hw
          have hE : f_X6_appendError s t g6 (nI f) v2 v3 = some (if A 3 f = 2 ∧ n ≤ 64 - sm (A 5) 8 then 0 else -4) := by
            unfold f_X6_appendError
            rw [M_isThere hm hf, gb_some, if_neg e0, if_neg (by decide), M_in_if v2 1 64, if_neg hv, gb_some, if_neg (by decide), M_in_if v3 0 99, if_neg hw, gb_some, if_neg (by decide), M_isOpen hm hf e0, gb_some]
            by_cases c : A 3 f = 2
            · rw [if_pos c, if_neg (by decide), e2, M_canAppend hm hI _ h64, gb_some]
              by_cases c2 : n ≤ 64 - sm (A 5) 8
              · rw [if_pos c2, if_neg (by decide), if_pos ⟨c, c2⟩]
              · rw [if_neg c2, if_pos rfl, if_neg (fun q => c2 q.2)]
            · rw [if_neg c, if_pos rfl, if_neg (fun q => c q.1)]
          by_cases c : A 3 f = 2 ∧ n ≤ 64 - sm (A 5) 8
          · rw [if_pos c] at hE
            have hAp := IA_append hI hf (n := n) (st := st) (by omega) c.2 hst
            have hbd := sm_exJ_le (apA A f n st) f (apA A f n st 4 f)
            have hb4 := (hAp.2.2.2.1 f hf).2.2.1
            exact act_st hc hm hI hH hS hT (fun d => f_X0_appendTo d (nI f) v2 v3) (fun s t g => f_X6_appends s t g 0 (nI f) v2 v3) (by
              obtain ⟨d', c1, c2⟩ := C_append hc hI hf c.1 h1 c.2 hst
              rw [e2, e3]
              exact ⟨sm (exJ (apA A f n st) f) (apA A f n st 4 f), d', apA A f n st, by omega, c1, c2, hAp, fun s1 g1 hm1 => M_append hm1 hI (by omega) hf (by omega) c.2 hst⟩) (by
              unfold f_X6_append
              rw [hE, gb_some, if_pos rfl])
          · rw [if_neg c] at hE
            have hno : A 3 f ≠ 2 ∨ ¬ n ≤ 64 - sm (A 5) 8 := by
              by_cases q : A 3 f = 2
              · exact Or.inr (fun z => c ⟨q, z⟩)
              · exact Or.inl q
            exact refuse_st hc hm hI hH hS hT (fun d => f_X0_appendTo d (nI f) v2 v3) (r := -4) (by decide) (by
              show f_X0_appendTo (D 0) (nI f) v2 v3 = _
              rw [e2, e3]
              exact C_app_no hc hI hf e0 h1 h64 hst hno) (by
              unfold f_X6_append
              rw [hE]
              exact M_ref (by decide))
  · exact refuse_st hc hm hI hH hS hT (fun d => f_X0_appendTo d v1 v2 v3) (r := -1) (by decide) (C_app_out ho v2 v3) (by
      unfold f_X6_append f_X6_appendError
      rw [M_isThere_out ho, gb_some, if_pos rfl]
      exact M_ref (by decide))
theorem st_set_RR : st_set RR := by
  intro D sav old hsz cs len g s t g6 hR v1 v2
  obtain ⟨⟨A, hc, hm, hI⟩, hH, hS, hT⟩ := hR
  have h8 := hI.2.2.2.2
  by_cases c0 : v1 = 0
  · subst c0
    have e1 : f_X6_in 0 0 1 = some 1 := by decide
    by_cases hv : v2 < 0 ∨ 16 < v2
    · exact refuse_st hc hm hI hH hS hT (fun d => f_X0_changeSetting d 0 v2) (r := -2) (by decide) (by
        show f_X0_changeSetting (D 0) 0 v2 = _
        unfold f_X0_changeSetting
        rw [if_pos rfl]
        by_cases c : v2 < 0
        · rw [if_pos c]
        · rw [if_neg c, if_neg (Int32.not_le.mpr (hv.resolve_left c))]) (by
        unfold f_X6_set
        rw [e1, gb_some, if_neg (by decide), if_pos rfl, M_in_if v2 0 16, if_pos hv, gb_some, if_pos rfl])
    · obtain ⟨n, -, hn, e2⟩ := i_range (lo := 0) (hi := 16) (by decide) (by decide) hv
      exact act_st hc hm hI hH hS hT (fun d => f_X0_changeSetting d 0 v2) (fun s t g => some (s 240, upd s 240 v2)) (by
        obtain ⟨d', c1, c2⟩ := C_set0 hc (n := n) hn
        rw [e2]
        exact ⟨A 8 0, d', as A 8 0 n, by omega, c1, c2, IA_set hI hn (fun q => absurd q (by decide)), fun s1 g1 hm1 => ⟨upd s1 240 (nI n), by rw [show s1 240 = nI (A 8 0) from hm1.2.2.1 0 (by decide)], RM_sg (j := 0) hm1 (by decide) (as_eq _ _ _ _) (fun k' i q => as_ne _ _ q), Out.rf.up (by omega) (by omega)⟩⟩) (by
        unfold f_X6_set
        rw [e1, gb_some, if_neg (by decide), if_pos rfl, M_in_if v2 0 16, if_neg hv, gb_some, if_neg (by decide)]
        have ec : ((240 : Int32) + 0).toNatClampNeg = 240 := by decide
        refine congrArg (gbb2 (f_X6_records s t g6)) (funext (fun s3 => funext (fun g4 => ?_)))
        rw [if_pos (by decide), glet_eq, if_pos (by decide), glet_eq, ec]
        rfl)
  · by_cases c1 : v1 = 1
    · subst c1
      have e1 : f_X6_in 1 0 1 = some 1 := by decide
      by_cases hv : v2 < 0 ∨ 1 < v2
      · exact refuse_st hc hm hI hH hS hT (fun d => f_X0_changeSetting d 1 v2) (r := -2) (by decide) (by
          show f_X0_changeSetting (D 0) 1 v2 = _
          unfold f_X0_changeSetting
          rw [if_neg (by decide), if_pos rfl]
          by_cases c : v2 < 0
          · rw [if_pos c]
          · rw [if_neg c, if_neg (Int32.not_le.mpr (hv.resolve_left c))]) (by
          unfold f_X6_set
          rw [e1, gb_some, if_neg (by decide), if_neg (by decide), M_in_if v2 0 1, if_pos hv, gb_some, if_pos rfl])
      · obtain ⟨n, -, hn, e2⟩ := i_range (lo := 0) (hi := 1) (by decide) (by decide) hv
        exact act_st hc hm hI hH hS hT (fun d => f_X0_changeSetting d 1 v2) (fun s t g => some (s 241, upd s 241 v2)) (by
          obtain ⟨d', c1, c2⟩ := C_set1 hc (n := n) hn
          rw [e2]
          exact ⟨A 8 1, d', as A 8 1 n, by omega, c1, c2, IA_set hI (by omega) (fun _ => hn), fun s1 g1 hm1 => ⟨upd s1 241 (nI n), by rw [show s1 241 = nI (A 8 1) from hm1.2.2.1 1 (by decide)], RM_sg (j := 1) hm1 (by decide) (as_eq _ _ _ _) (fun k' i q => as_ne _ _ q), Out.rf.up (by omega) (by omega)⟩⟩) (by
          unfold f_X6_set
          rw [e1, gb_some, if_neg (by decide), if_neg (by decide), M_in_if v2 0 1, if_neg hv, gb_some, if_neg (by decide)]
          have ec : ((240 : Int32) + 1).toNatClampNeg = 241 := by decide
          refine congrArg (gbb2 (f_X6_records s t g6)) (funext (fun s3 => funext (fun g4 => ?_)))
          rw [if_pos (by decide), glet_eq, if_pos (by decide), glet_eq, ec]
          rfl)
    · have hn : v1 < 0 ∨ 1 < v1 := by
        by_cases q : v1 < 0 ∨ 1 < v1
        · exact q
        · exfalso
          obtain ⟨n, -, hn, e2⟩ := i_range (lo := 0) (hi := 1) (by decide) (by decide) q
          rcases (show n = 0 ∨ n = 1 by omega) with z | z
          · subst z; exact c0 e2
          · subst z; exact c1 e2
      exact refuse_st hc hm hI hH hS hT (fun d => f_X0_changeSetting d v1 v2) (r := -1) (by decide) (by
        show f_X0_changeSetting (D 0) v1 v2 = _
        unfold f_X0_changeSetting
        rw [if_neg c0, if_neg c1]) (by
        unfold f_X6_set
        rw [M_in_if v1 0 1, if_pos hn, gb_some, if_pos rfl])
end CALLS3
