/-! MATHEMATICS, 35: the calls that act on one file, but append and cut. -/
section CALLS1
variable {A : Nat → Nat → Nat}
theorem st_open_RR : st_open RR := by
  intro D sav old hsz cs len g s t g6 hR v1
  obtain ⟨⟨A, hc, hm, hI⟩, hH, hS, hT⟩ := hR
  rcases i_cases v1 8 (by decide) with ⟨f, hf, rfl⟩ | ho
  · have hmd := hI.2.2.2.1 f hf
    by_cases e0 : A 3 f = 0
    · have hF : f_X0_openFile (D 0) (nI f) = some (-1, D 0) := by
        unfold f_X0_openFile
        rw [C_isFile hc hI hf, gb_some, if_pos e0, if_pos rfl]
      exact refuse_st hc hm hI hH hS hT (fun d => f_X0_openFile d (nI f)) (r := -1) (by decide) hF (by
        unfold f_X6_open
        rw [M_openError hm hI hf, if_pos e0]
        exact M_ref (by decide))
    · by_cases e1 : A 3 f = 2
      · have hF : f_X0_openFile (D 0) (nI f) = some (-4, D 0) := by
          unfold f_X0_openFile
          rw [C_isFile hc hI hf, gb_some, if_neg e0, if_neg (by decide), C_isOpen hc hI hf, gb_some, if_pos e1, if_neg (by decide)]
        exact refuse_st hc hm hI hH hS hT (fun d => f_X0_openFile d (nI f)) (r := -4) (by decide) hF (by
          unfold f_X6_open
          rw [M_openError hm hI hf, if_neg e0, if_pos e1]
          exact M_ref (by decide))
      · have e2 : A 3 f = 1 := by omega
        exact act_st hc hm hI hH hS hT (fun d => f_X0_openFile d (nI f)) (fun s t g => f_X6_opens s t g (nI f)) (by
          obtain ⟨d', c1, c2⟩ := C_open hc hI hf e2
          exact ⟨ct (fun f' => opA A f 3 f' = 2) 8, d', opA A f, Nat.lt_of_le_of_lt (ct_le _ 8) (by decide), c1, c2, IA_open hI (by omega), fun s1 g1 hm1 => M_open hm1 hI hf e2⟩) (by
          unfold f_X6_open
          rw [M_openError hm hI hf, if_neg e0, if_neg e1, gb_some, if_pos rfl])
  · have hF : f_X0_openFile (D 0) v1 = some (-1, D 0) := by
      unfold f_X0_openFile
      rw [C_isFile_out ho, gb_some, if_pos rfl]
    exact refuse_st hc hm hI hH hS hT (fun d => f_X0_openFile d v1) (r := -1) (by decide) hF (by
      unfold f_X6_open
      rw [M_openError_out ho]
      exact M_ref (by decide))
theorem st_close_RR : st_close RR := by
  intro D sav old hsz cs len g s t g6 hR v1
  obtain ⟨⟨A, hc, hm, hI⟩, hH, hS, hT⟩ := hR
  rcases i_cases v1 8 (by decide) with ⟨f, hf, rfl⟩ | ho
  · have hmd := hI.2.2.2.1 f hf
    by_cases e0 : A 3 f = 0
    · have hF : f_X0_closeFile (D 0) (nI f) = some (-1, D 0) := by
        unfold f_X0_closeFile
        rw [C_isFile hc hI hf, gb_some, if_pos e0, if_pos rfl]
      exact refuse_st hc hm hI hH hS hT (fun d => f_X0_closeFile d (nI f)) (r := -1) (by decide) hF (by
        unfold f_X6_close
        rw [M_closeError hm hI hf, if_pos e0]
        exact M_ref (by decide))
    · by_cases e1 : A 3 f = 1
      · have hF : f_X0_closeFile (D 0) (nI f) = some (-4, D 0) := by
          unfold f_X0_closeFile
          rw [C_isFile hc hI hf, gb_some, if_neg e0, if_neg (by decide), C_isOpen hc hI hf, gb_some, if_neg (show ¬ A 3 f = 2 by omega), if_pos rfl]
        exact refuse_st hc hm hI hH hS hT (fun d => f_X0_closeFile d (nI f)) (r := -4) (by decide) hF (by
          unfold f_X6_close
          rw [M_closeError hm hI hf, if_neg e0, if_neg (show ¬ A 3 f = 2 by omega)]
          exact M_ref (by decide))
      · have e2 : A 3 f = 2 := by omega
        exact act_st hc hm hI hH hS hT (fun d => f_X0_closeFile d (nI f)) (fun s t g => f_X6_closes s t g (nI f)) (by
          obtain ⟨d', c1, c2⟩ := C_close hc hI hf e2
          exact ⟨A 4 f - A 5 f, d', clA A f, by omega, c1, c2, IA_close hI hf e2, fun s1 g1 hm1 => M_close hm1 hI hf e2⟩) (by
          unfold f_X6_close
          rw [M_closeError hm hI hf, if_neg e0, if_pos e2, gb_some, if_pos rfl])
  · have hF : f_X0_closeFile (D 0) v1 = some (-1, D 0) := by
      unfold f_X0_closeFile
      rw [C_isFile_out ho, gb_some, if_pos rfl]
    exact refuse_st hc hm hI hH hS hT (fun d => f_X0_closeFile d v1) (r := -1) (by decide) hF (by
      unfold f_X6_close
      rw [M_closeError_out ho]
      exact M_ref (by decide))
theorem st_remove_RR : st_remove RR := by
  intro D sav old hsz cs len g s t g6 hR v1
  obtain ⟨⟨A, hc, hm, hI⟩, hH, hS, hT⟩ := hR
  rcases i_cases v1 8 (by decide) with ⟨f, hf, rfl⟩ | ho
  · have hmd := hI.2.2.2.1 f hf
    by_cases e0 : A 3 f = 0
    · have hF : f_X0_removeFile (D 0) (nI f) = some (-1, D 0) := by
        unfold f_X0_removeFile
        rw [C_isFile hc hI hf, gb_some, if_pos e0, if_pos rfl]
      exact refuse_st hc hm hI hH hS hT (fun d => f_X0_removeFile d (nI f)) (r := -1) (by decide) hF (by
        unfold f_X6_remove
        rw [M_openError hm hI hf, if_pos e0]
        exact M_ref (by decide))
    · by_cases e1 : A 3 f = 2
      · have hF : f_X0_removeFile (D 0) (nI f) = some (-4, D 0) := by
          unfold f_X0_removeFile
          rw [C_isFile hc hI hf, gb_some, if_neg e0, if_neg (by decide), C_isOpen hc hI hf, gb_some, if_pos e1, if_neg (by decide)]
        exact refuse_st hc hm hI hH hS hT (fun d => f_X0_removeFile d (nI f)) (r := -4) (by decide) hF (by
          unfold f_X6_remove
          rw [M_openError hm hI hf, if_neg e0, if_pos e1]
          exact M_ref (by decide))
      · have e2 : A 3 f = 1 := by omega
        exact act_st hc hm hI hH hS hT (fun d => f_X0_removeFile d (nI f)) (fun s t g => f_X6_removes s t g (nI f)) (by
          obtain ⟨d', c1, c2⟩ := C_remove hc hI hf e2
          exact ⟨A 4 f, d', rmA A f, by omega, c1, c2, IA_remove hI hf, fun s1 g1 hm1 => M_remove hm1 hI hf⟩) (by
          unfold f_X6_remove
          rw [M_openError hm hI hf, if_neg e0, if_neg e1, gb_some, if_pos rfl])
  · have hF : f_X0_removeFile (D 0) v1 = some (-1, D 0) := by
      unfold f_X0_removeFile
      rw [C_isFile_out ho, gb_some, if_pos rfl]
    exact refuse_st hc hm hI hH hS hT (fun d => f_X0_removeFile d v1) (r := -1) (by decide) hF (by
      unfold f_X6_remove
      rw [M_openError_out ho]
      exact M_ref (by decide))
theorem st_sync_RR : st_sync RR := by
  intro D sav old hsz cs len g s t g6 hR v1
  obtain ⟨⟨A, hc, hm, hI⟩, hH, hS, hT⟩ := hR
  rcases i_cases v1 8 (by decide) with ⟨f, hf, rfl⟩ | ho
  · have hmd := hI.2.2.2.1 f hf
    by_cases e0 : A 3 f = 0
    · have hF : f_X0_syncFile (D 0) (nI f) = some (-1, D 0) := by
        unfold f_X0_syncFile
        rw [C_isFile hc hI hf, gb_some, if_pos e0, if_pos rfl]
      exact refuse_st hc hm hI hH hS hT (fun d => f_X0_syncFile d (nI f)) (r := -1) (by decide) hF (by
        unfold f_X6_sync
        rw [M_closeError hm hI hf, if_pos e0]
        exact M_ref (by decide))
    · by_cases e1 : A 3 f = 1
      · have hF : f_X0_syncFile (D 0) (nI f) = some (-4, D 0) := by
          unfold f_X0_syncFile
          rw [C_isFile hc hI hf, gb_some, if_neg e0, if_neg (by decide), C_isOpen hc hI hf, gb_some, if_neg (show ¬ A 3 f = 2 by omega), if_pos rfl]
        exact refuse_st hc hm hI hH hS hT (fun d => f_X0_syncFile d (nI f)) (r := -4) (by decide) hF (by
          unfold f_X6_sync
          rw [M_closeError hm hI hf, if_neg e0, if_neg (show ¬ A 3 f = 2 by omega)]
          exact M_ref (by decide))
      · have e2 : A 3 f = 2 := by omega
        exact act_st hc hm hI hH hS hT (fun d => f_X0_syncFile d (nI f)) (fun s t g => f_X6_syncs s t g (nI f)) (by
          obtain ⟨d', c1, c2⟩ := C_sync hc hI hf e2
          exact ⟨A 5 f - A 6 f, d', syA A f, by omega, c1, c2, IA_sync hI, fun s1 g1 hm1 => M_sync hm1 hI hf e2⟩) (by
          unfold f_X6_sync
          rw [M_closeError hm hI hf, if_neg e0, if_pos e2, gb_some, if_pos rfl])
  · have hF : f_X0_syncFile (D 0) v1 = some (-1, D 0) := by
      unfold f_X0_syncFile
      rw [C_isFile_out ho, gb_some, if_pos rfl]
    exact refuse_st hc hm hI hH hS hT (fun d => f_X0_syncFile d v1) (r := -1) (by decide) hF (by
      unfold f_X6_sync
      rw [M_closeError_out ho]
      exact M_ref (by decide))
end CALLS1
