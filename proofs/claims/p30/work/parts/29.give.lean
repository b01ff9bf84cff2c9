/-! MATHEMATICS, 5: the reference's updates of one number; giving back. -/
section RMUPD2
variable {s : Nat → Int32} {b : Nat} {B B' : Nat → Nat → Nat}
end RMUPD2
/-- the file f gives back -/
def gv (A : Nat → Nat → Nat) (f : Nat) : Nat → Nat → Nat := as (as (fr A f (A 5 f)) 7 f 1) 9 1 (A 9 1 + (A 4 f - A 5 f))
theorem fr_row {A : Nat → Nat → Nat} {f n k i : Nat} (h1 : k ≠ 1) (h4 : k ≠ 4) : fr A f n k i = A k i := by
  unfold fr; rw [if_neg (fun q => h1 q.1), if_neg (fun q => h4 q.1)]
theorem C_giveBack {d : Nat → Nat → Int32} {A : Nat → Nat → Nat} (h : RC d A) (hI : IA A) {f : Nat} (hf : f < 8) : ∃ d', f_X0_giveBack d (nI f) = some (nI (A 4 f - A 5 f), d') ∧ RC d' (gv A f) := by
  have hm := hI.2.2.2.1 f hf
  obtain ⟨d1, e1, h1⟩ := C_freeFrom h hI.b hf (n := A 5 f) (by omega)
  unfold f_X0_giveBack
  rw [C_lentOf h hI hf, gb_some, f_at_in (by decide) _ hf, gb_some, h.sz hf, e1, gb_some, f_put_in (by decide) _ hf, gb_some, glet_eq]
  have h2 := RC_set (B' := as (fr A f (A 5 f)) 7 f 1) h1 (k := 7) (j := f) (v := 1) (by decide) (by decide) (as_eq _ _ _ _) (fun k' i q => as_ne _ _ q)
  rw [show f_X3_grow 4 _ 1 (nI (A 4 f - A 5 f)) = _ from f_grow_in (n := 4) (by decide) _ (i := 1) (by decide) _, gb_some, glet_eq]
  refine ⟨_, rfl, ?_⟩
  have h9 : (va_up d1 7 (upd (d1 7) f 1)) 9 1 = nI (A 9 1) := by
    have := h2.tt (i := 1) (by decide)
    rw [as_ne _ _ (by omega), fr_row (by decide) (by decide)] at this
    exact this
  rw [h9, nI_add]
  exact RC_set (B' := gv A f) h2 (k := 9) (j := 1) (v := A 9 1 + (A 4 f - A 5 f)) (by decide) (by decide) (as_eq _ _ _ _) (fun k' i q => as_ne _ _ q)
