/-! MATHEMATICS, 18: a file's extents, as the reference counts them. -/
section EXTM
variable {A : Nat → Nat → Nat} {s t g : Nat → Int32}
noncomputable def exJ (A : Nat → Nat → Nat) (f i : Nat) : Nat := if i = 0 then 1 else if bk A f i = bk A f (i - 1) + 1 then 0 else 1
end EXTM
