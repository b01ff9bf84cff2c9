/-! Eight at once. -/
def gbb8 {α1 α2 α3 α4 α5 α6 α7 α8 β : Type} (o : Option (α1 × α2 × α3 × α4 × α5 × α6 × α7 × α8)) (f : α1 → α2 → α3 → α4 → α5 → α6 → α7 → α8 → Option β) : Option β := gb o (fun v => f v.1 v.2.1 v.2.2.1 v.2.2.2.1 v.2.2.2.2.1 v.2.2.2.2.2.1 v.2.2.2.2.2.2.1 v.2.2.2.2.2.2.2)
theorem gb8 {α1 α2 α3 α4 α5 α6 α7 α8 β : Type} {o : Option (α1 × α2 × α3 × α4 × α5 × α6 × α7 × α8)} {f : α1 → α2 → α3 → α4 → α5 → α6 → α7 → α8 → Option β} {x : β} (h : gbb8 o f = some x) : ∃ a b c d e i j k, o = some (a, b, c, d, e, i, j, k) ∧ f a b c d e i j k = some x := by
  obtain ⟨v, h1, h2⟩ := gb1 h
  exact ⟨v.1, v.2.1, v.2.2.1, v.2.2.2.1, v.2.2.2.2.1, v.2.2.2.2.2.1, v.2.2.2.2.2.2.1, v.2.2.2.2.2.2.2, h1, h2⟩
theorem gs8 {α1 α2 α3 α4 α5 α6 α7 α8 : Type} {a a' : α1} {b b' : α2} {c c' : α3} {d d' : α4} {e e' : α5} {i i' : α6} {j j' : α7} {k k' : α8} (h : some (a, b, c, d, e, i, j, k) = some (a', b', c', d', e', i', j', k')) : a' = a ∧ b' = b ∧ c' = c ∧ d' = d ∧ e' = e ∧ i' = i ∧ j' = j ∧ k' = k := by
  have h1 := Option.some.inj h
  exact ⟨(congrArg (fun q => q.1) h1).symm, (congrArg (fun q => q.2.1) h1).symm, (congrArg (fun q => q.2.2.1) h1).symm, (congrArg (fun q => q.2.2.2.1) h1).symm, (congrArg (fun q => q.2.2.2.2.1) h1).symm, (congrArg (fun q => q.2.2.2.2.2.1) h1).symm, (congrArg (fun q => q.2.2.2.2.2.2.1) h1).symm, (congrArg (fun q => q.2.2.2.2.2.2.2) h1).symm⟩
theorem gbb8_some {α1 α2 α3 α4 α5 α6 α7 α8 β : Type} (a : α1) (b : α2) (c : α3) (d : α4) (e : α5) (i : α6) (j : α7) (k : α8) (f : α1 → α2 → α3 → α4 → α5 → α6 → α7 → α8 → Option β) : gbb8 (some (a, b, c, d, e, i, j, k)) f = f a b c d e i j k := rfl
