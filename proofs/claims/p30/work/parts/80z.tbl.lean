theorem wsT_in_X5 : ∀ w ∈ wsX50, w ∈ lw_tbl := by decide +kernel
theorem wsT_in_X0 : ∀ w ∈ wsX00, w ∈ lw_tbl := by decide +kernel
theorem wsT_in_X1 : ∀ w ∈ wsX10, w ∈ lw_tbl := by decide +kernel
theorem wsT_in_X4 : ∀ w ∈ wsX40, w ∈ lw_tbl := by decide +kernel
theorem wsT_in_X2 : ∀ w ∈ wsX20, w ∈ lw_tbl := by decide +kernel
theorem wsT_in_X3 : ∀ w ∈ wsX30, w ∈ lw_tbl := by decide +kernel
set_option maxRecDepth 20000 in
theorem wsL_law_in : ∀ w ∈ wsL_law, w ∈ lw_tbl := by
  have ap : ∀ {a b : List Cond}, (∀ w ∈ a, w ∈ lw_tbl) → (∀ w ∈ b, w ∈ lw_tbl) → ∀ w ∈ a ++ b, w ∈ lw_tbl := fun ha hb w h => (List.mem_append.mp h).elim (ha w) (hb w)
  exact ap (ap (ap (ap (ap (ap (ap (ap wsL_in_1 (ap wsL_in_2 (ap wsL_in_3 (ap wsL_in_4 (ap wsL_in_5 (ap wsL_in_6 (ap wsL_in_7 (ap wsL_in_8 (ap wsL_in_9 (ap wsL_in_10 (ap wsL_in_11 (ap wsL_in_12 (ap wsL_in_13 (ap wsL_in_14 (ap wsL_in_15 (ap wsL_in_16 (ap wsL_in_17 (ap wsL_in_18 wsL_in_19)))))))))))))))))) wsT_in_X5) wsT_in_X0) wsT_in_X1) wsT_in_X4) wsT_in_X2) wsT_in_X3) (fun w h => by cases h)
