/-! MATHEMATICS, 38: the queries of blocks, files, extents, runs; read. -/
section QUERY1
variable {A : Nat → Nat → Nat} {s t g : Nat → Int32} {d : Nat → Nat → Int32}
theorem n10 : ¬ (1 : Int32) = 0 := by decide
end QUERY1
