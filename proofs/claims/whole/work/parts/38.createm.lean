/-! MATHEMATICS, 14: create, the reference's side. -/
section CREATEM
variable {A : Nat → Nat → Nat} {s t g : Nat → Int32}
def neS (s : Nat → Int32) (f : Nat) : Nat → Int32 := upd (upd (upd (upd (upd (upd s (192 + 6 * f + 0) 1) (192 + 6 * f + 1) 0) (192 + 6 * f + 2) 0) (192 + 6 * f + 3) 0) (192 + 6 * f + 4) 0) (192 + 6 * f + 5) 1
theorem M_cells {f : Nat} (hf : f < 8) (fu : Nat) : f_X6_creates_L18 t g (nI f) (fu + 7) 0 s = some (nI f, neS s f) := by
  have e4 : f_X6_at 0 (nI f) = some (nI (192 + 6 * f)) := by
    have := M_at 0 f
    rwa [show 0 + 192 + 6 * f = 192 + 6 * f by omega] at this
  have st : ∀ (fu j : Nat) (x : Nat → Int32), j < 6 → f_X6_creates_L18 t g (nI f) (fu + 1) (nI j) x = f_X6_creates_L18 t g (nI f) fu (nI (j + 1)) (upd x (192 + 6 * f + j) (if j = 0 then 1 else if j = 5 then 1 else 0)) := fun fu j x hj => by
    rw [f_X6_creates_L18, if_neg (show ¬ (6 : Int32) ≤ nI j from nI_ge (b := 6) hj (by decide)), e4, gb_some, nI_add, m_rd (by omega), m_rd (by omega), nI_clamp (by omega)]
    simp only [glet_eq, nI_1]
    by_cases e0 : j = 0
    · subst e0; rw [if_pos rfl, if_pos (show nI 0 = 0 from rfl)]
    · rw [if_neg (show ¬ nI j = 0 from fun z => e0 ((nI_eq (b := 0) (by omega) (by decide)).1 z)), if_neg e0]
      by_cases e5 : j = 5
      · subst e5; rw [if_pos rfl, if_pos (show nI 5 = 5 from rfl)]
      · rw [if_neg (show ¬ nI j = 5 from fun z => e5 ((nI_eq (b := 5) (by omega) (by decide)).1 z)), if_neg e5]
  have s0 := st (fu + 6) 0 s (by decide)
  have s0' : f_X6_creates_L18 t g (nI f) (fu + 7) 0 s = _ := s0
  rw [s0', st (fu + 5) _ _ (by decide), st (fu + 4) _ _ (by decide), st (fu + 3) _ _ (by decide), st (fu + 2) _ _ (by decide), st (fu + 1) _ _ (by decide), f_X6_creates_L18, if_pos (by decide)]
  rfl
end CREATEM
