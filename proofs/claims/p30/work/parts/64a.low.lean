theorem dL_low_0 : decode cL_low 0 = .ok (.iload_n 0, 1) := by decide +kernel
theorem dL_low_1 : decode cL_low 1 = .ok (.ldc 9, 2) := by decide +kernel
theorem dL_low_3 : decode cL_low 3 = .ok (.iand, 1) := by decide +kernel
theorem dL_low_4 : decode cL_low 4 = .ok (.iload_n 1, 1) := by decide +kernel
theorem dL_low_5 : decode cL_low 5 = .ok (.irem, 1) := by decide +kernel
theorem dL_low_6 : decode cL_low 6 = .ok (.ireturn, 1) := by decide +kernel
abbrev rm_L_low : Room := ({ frames := 0, cells := 0, slots := 0, locals := 0 } : Room)
theorem ok_L_low : gOk yL_low RL 2 := by refine ⟨?_, ?_, ?_, ?_⟩ <;> decide +kernel
set_option maxRecDepth 20000 in
theorem cs_L_low_9 : Cond.constant RL 9 (2147483647) ∈ wsL_low := by decide +kernel
def f_L_low (v0 : Int32) (v1 : Int32) : Option Int32 := if v1 = 0 then none else some ((v0 &&& (2147483647 : Int32)) - (v0 &&& (2147483647 : Int32)) / v1 * v1)
set_option maxHeartbeats 8000000 in
set_option maxRecDepth 100000 in
theorem cn_L_low (l : Launch) (Z : gZ) (v0 : Int32) (v1 : Int32) {r : Int32} (h : f_L_low v0 v1 = some r) : gI l yL_low wsL_low rm_L_low Z 0 id [.int v0, .int v1] g0E r g0E := by
  refine g_entryI (cc := cL_low) (maxL := 2) (by decide +kernel) rfl (fun i j hi => by omega) (Nat.le_of_ble_eq_true rfl) (fun X C e => ?_)
  unfold f_L_low at h
  show GG X Z 2 0 id g0E 0 [(0, .int v0), (1, .int v1)] []
  refine g_iload_n C dL_low_0 0 rfl ?_
  refine g_ldc C cs_L_low_9 dL_low_1 ?_
  refine g_iand C dL_low_3 ?_
  refine g_iload_n C dL_low_4 1 rfl ?_
  obtain ⟨b1, h⟩ := gnz h
  refine g_irem C dL_low_5 b1 ?_
  obtain rfl := gs1 h
  exact g_iret C e dL_low_6
