/-! MATHEMATICS, 49: two new objects; every call keeps the relation. -/
section NEW
def a00 : Nat → Nat → Nat := fun k i => if k = 1 then 8 else if k = 7 then 1 else if k = 8 ∧ i = 0 then 8 else 0
theorem RC_new : RC d00 a00 := by
  intro k i hk hi
  rcases (show k = 0 ∨ k = 1 ∨ k = 2 ∨ k = 3 ∨ k = 4 ∨ k = 5 ∨ k = 6 ∨ k = 7 ∨ k = 8 ∨ k = 9 by omega) with e | e | e | e | e | e | e | e | e | e <;> subst e
  · rfl
  · rfl
  · rfl
  · rfl
  · rfl
  · rfl
  · rfl
  · rfl
  · have hi2 : i < 2 := hi
    rcases (show i = 0 ∨ i = 1 by omega) with z | z <;> subst z <;> decide
  · rfl
theorem s00_lo {k : Nat} (h : k < 64 ∨ 128 ≤ k) (h2 : k ≠ 240) : s00 k = 0 := by
  unfold s00
  rw [upd_ne _ _ h2, if_neg (by omega)]
theorem s00_own {k : Nat} (h : 64 ≤ k) (h2 : k < 128) : s00 k = -5 := by
  unfold s00
  rw [upd_ne _ _ (by omega), if_pos ⟨h, h2⟩]
theorem RM_start : RM s00 0 a00 := by
  refine ⟨fun i hi => ⟨?_, ?_, fun h => absurd rfl h⟩, fun f hf => ⟨?_, ?_, fun h => absurd rfl h⟩, fun i hi => ?_, fun i hi => ?_⟩
  · rw [s00_lo (Or.inl (by omega)) (by omega)]; rfl
  · rw [s00_own (by omega) (by omega)]; rfl
  · rw [s00_lo (Or.inr (by omega)) (by omega)]; rfl
  · rw [s00_lo (Or.inr (by omega)) (by omega)]; rfl
  · rcases (show i = 0 ∨ i = 1 by omega) with z | z <;> subst z <;> decide
  · rw [s00_lo (Or.inr (by omega)) (by omega)]
    rfl
theorem IA_start : IA a00 := by
  refine ⟨fun k hk => ⟨Nat.le_refl _, Nat.zero_le _, fun h => absurd h (by show ¬ 8 < 8; omega)⟩, fun f i hf hi => absurd hi (by show ¬ i < 0; omega), fun k j hk hj h => absurd h (by show ¬ 8 < 8; omega), fun f hf => ⟨Nat.zero_le _, Nat.le_refl _, Nat.zero_le _, Nat.le_refl _, (show 1 ≤ 16 by decide), fun h => absurd rfl h, fun _ => rfl⟩, by decide, by decide⟩
theorem RR_start : RR (fun _ => d00) 0 0 0 (fun _ => 0) 0 (fun _ => 0) s00 (fun _ => 0) (fun _ => 0) :=
  ⟨⟨a00, RC_new, RM_start, IA_start⟩, ⟨0, 0, by decide, by decide, rfl, rfl, rfl, fun j hj => absurd hj (Nat.not_lt_zero _)⟩, ⟨rfl, Or.inl rfl⟩, ⟨0, Nat.zero_le _, rfl, rfl, fun i hi => absurd hi (Nat.not_lt_zero _)⟩⟩
theorem law_RR : lawStep RR := ⟨st_create_RR, st_open_RR, st_close_RR, st_remove_RR, st_sync_RR, st_append_RR, st_cut_RR, st_crash_RR, st_mend_RR, st_set_RR, st_type_RR, st_clearText_RR, st_fault_RR, st_perform_RR, st_undo_RR, st_save_RR, st_restore_RR, st_block_RR, st_file_RR, st_extent_RR, st_run_RR, st_read_RR, st_count_RR, st_total_RR, st_ifAppended_RR, st_room_RR, st_wholeness_RR⟩
end NEW
