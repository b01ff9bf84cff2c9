set_option maxRecDepth 20000 in
theorem ob1_X5 : Cond.methodLink RX5 1 objectInit ∈ wsX5_init := by decide +kernel
set_option maxRecDepth 20000 in
theorem ob2_X5 : Cond.instanceMethod objectInit ∈ wsX5_init := by decide +kernel
set_option maxRecDepth 20000 in
theorem ob3_X5 : Cond.code objectInit ⟨#[0xb1]⟩ 1 none ∈ wsX5_init := by decide +kernel
set_option maxRecDepth 20000 in
theorem in_X5_init : ∀ w ∈ wsX50, w ∈ wsX5_init := by decide +kernel
set_option maxRecDepth 20000 in
theorem fl_X5_init_10 : Cond.fieldLink RX5 10 (TX5 0).1 (TX5 0).2.1 (TX5 0).2.2.1 ∈ wsX5_init := by decide +kernel
set_option maxRecDepth 20000 in
theorem fl_X5_init_16 : Cond.fieldLink RX5 16 (TX5 1).1 (TX5 1).2.1 (TX5 1).2.2.1 ∈ wsX5_init := by decide +kernel
set_option maxRecDepth 20000 in
theorem fl_X5_init_19 : Cond.fieldLink RX5 19 (TX5 2).1 (TX5 2).2.1 (TX5 2).2.2.1 ∈ wsX5_init := by decide +kernel
set_option maxRecDepth 20000 in
theorem fl_X5_init_22 : Cond.fieldLink RX5 22 (TX5 3).1 (TX5 3).2.1 (TX5 3).2.2.1 ∈ wsX5_init := by decide +kernel
set_option maxRecDepth 20000 in
theorem fl_X5_init_29 : Cond.fieldLink RX5 29 (TX5 4).1 (TX5 4).2.1 (TX5 4).2.2.1 ∈ wsX5_init := by decide +kernel
set_option maxRecDepth 20000 in
theorem fl_X5_init_36 : Cond.fieldLink RX5 36 (TX5 5).1 (TX5 5).2.1 (TX5 5).2.2.1 ∈ wsX5_init := by decide +kernel
set_option maxRecDepth 20000 in
theorem fl_X5_init_43 : Cond.fieldLink RX5 43 (TX5 6).1 (TX5 6).2.1 (TX5 6).2.2.1 ∈ wsX5_init := by decide +kernel
set_option maxRecDepth 20000 in
theorem nw1_X5_X0 : Cond.classLink RX5 7 RX0 ∈ wsX5_init := by decide +kernel
set_option maxRecDepth 20000 in
theorem nw2_X5_X0 : Cond.instantiable RX0 10 ∈ wsX5_init := by decide +kernel
set_option maxRecDepth 20000 in
theorem nw3_X5_X0 : Cond.initialized RX0 ∈ wsX5_init := by decide +kernel
set_option maxRecDepth 20000 in
theorem inn_X5_X0 : ∀ w ∈ wsX00, w ∈ wsX5_init := by decide +kernel
set_option maxRecDepth 20000 in
theorem nw1_X5_X1 : Cond.classLink RX5 26 RX1 ∈ wsX5_init := by decide +kernel
set_option maxRecDepth 20000 in
theorem nw2_X5_X1 : Cond.instantiable RX1 3 ∈ wsX5_init := by decide +kernel
set_option maxRecDepth 20000 in
theorem nw3_X5_X1 : Cond.initialized RX1 ∈ wsX5_init := by decide +kernel
set_option maxRecDepth 20000 in
theorem inn_X5_X1 : ∀ w ∈ wsX10, w ∈ wsX5_init := by decide +kernel
set_option maxRecDepth 20000 in
theorem nw1_X5_X4 : Cond.classLink RX5 33 RX4 ∈ wsX5_init := by decide +kernel
set_option maxRecDepth 20000 in
theorem nw2_X5_X4 : Cond.instantiable RX4 2 ∈ wsX5_init := by decide +kernel
set_option maxRecDepth 20000 in
theorem nw3_X5_X4 : Cond.initialized RX4 ∈ wsX5_init := by decide +kernel
set_option maxRecDepth 20000 in
theorem inn_X5_X4 : ∀ w ∈ wsX40, w ∈ wsX5_init := by decide +kernel
set_option maxRecDepth 20000 in
theorem nw1_X5_X2 : Cond.classLink RX5 40 RX2 ∈ wsX5_init := by decide +kernel
set_option maxRecDepth 20000 in
theorem nw2_X5_X2 : Cond.instantiable RX2 5 ∈ wsX5_init := by decide +kernel
set_option maxRecDepth 20000 in
theorem nw3_X5_X2 : Cond.initialized RX2 ∈ wsX5_init := by decide +kernel
set_option maxRecDepth 20000 in
theorem inn_X5_X2 : ∀ w ∈ wsX20, w ∈ wsX5_init := by decide +kernel
set_option maxRecDepth 20000 in
theorem ct1_X5_X0 : Cond.initialized yX0_init.cls ∈ wsX5_init := by decide +kernel
set_option maxRecDepth 20000 in
theorem ct2_X5_X0 : Cond.methodLink RX5 9 yX0_init ∈ wsX5_init := by decide +kernel
set_option maxRecDepth 20000 in
theorem ct3_X5_X0 : Cond.instanceMethod yX0_init ∈ wsX5_init := by decide +kernel
set_option maxRecDepth 20000 in
theorem ct1_X5_X1 : Cond.initialized yX1_init.cls ∈ wsX5_init := by decide +kernel
set_option maxRecDepth 20000 in
theorem ct2_X5_X1 : Cond.methodLink RX5 28 yX1_init ∈ wsX5_init := by decide +kernel
set_option maxRecDepth 20000 in
theorem ct3_X5_X1 : Cond.instanceMethod yX1_init ∈ wsX5_init := by decide +kernel
set_option maxRecDepth 20000 in
theorem ct1_X5_X4 : Cond.initialized yX4_init.cls ∈ wsX5_init := by decide +kernel
set_option maxRecDepth 20000 in
theorem ct3_X5_X4 : Cond.instanceMethod yX4_init ∈ wsX5_init := by decide +kernel
set_option maxRecDepth 20000 in
theorem ct1_X5_X2 : Cond.initialized yX2_init.cls ∈ wsX5_init := by decide +kernel
set_option maxRecDepth 20000 in
theorem ct3_X5_X2 : Cond.instanceMethod yX2_init ∈ wsX5_init := by decide +kernel
abbrev rmN_X5 : Room := { frames := 4, cells := 174, slots := 2160, locals := 88 }
def xW (Z : gZ) (h0 q3 qs q4 r a q5 : Nat) (a0 a1 a2 e0 e1 e2 e3 e4 : Nat → Nat) : va_W := (((((([(h0, .inr (5, [.ref (a0 0), .ref (a1 0), .ref (a2 0), .int 0, .ref q3, .ref q4, .ref q5]))] ++ gW 21 a0 (dskE Z.2.1 a0 d00)) ++ gW 21 a1 (dskE Z.2.1 a1 d00)) ++ gW 21 a2 (dskE Z.2.1 a2 d00)) ++ ((((([(q3, .inr (1, [.ref qs, .int 0, .int 0])), (qs, .inl (Z.2.2, 5, .inr (.inr (.inr (.inr (sl5 (e0 0) (e1 0) (e2 0) (e3 0) (e4 0)))))))] ++ gW 21 e0 (dskE Z.2.1 e0 d00)) ++ gW 21 e1 (dskE Z.2.1 e1 d00)) ++ gW 21 e2 (dskE Z.2.1 e2 d00)) ++ gW 21 e3 (dskE Z.2.1 e3 d00)) ++ gW 21 e4 (dskE Z.2.1 e4 d00))) ++ [(q4, .inr (4, [.ref r, .int 0])), (r, .inr (3, [.ref a])), (a, .inl (Z.2.1, 80, .inl (fun _ => 0)))]) ++ [(q5, .inr (2, [.int 0, .int 0, .int 0, .int 0, .int 0]))])
def xAd (h0 q3 qs q4 r a q5 : Nat) (a0 a1 a2 e0 e1 e2 e3 e4 : Nat → Nat) : Nat → Nat := fun i => if i < 21 then a0 i else if i < 42 then a1 (i - 21) else if i < 63 then a2 (i - 42) else if i < 84 then e0 (i - 63) else if i < 105 then e1 (i - 84) else if i < 126 then e2 (i - 105) else if i < 147 then e3 (i - 126) else if i < 168 then e4 (i - 147) else if i = 168 then h0 else if i = 169 then q3 else if i = 170 then qs else if i = 171 then q4 else if i = 172 then r else if i = 173 then a else q5
def x0E (Z : gZ) (ad : Nat → Nat) : Nat → va_E := xE Z.2.1 Z.2.2 ad (fun _ => d00) 0 0 0 (fun _ => 0) 0 (fun _ => 0)
theorem ap_n {n q : Nat} {ad : Nat → Nat} {E : Nat → va_E} {w : va_W} : (gW n ad E ++ w)[n + q]? = w[q]? := by
  have hl : (gW n ad E).length = n := by simp [gW]
  rw [List.getElem?_append_right (by omega), hl, Nat.add_sub_cancel_left]
theorem ap_i {n q : Nat} {ad : Nat → Nat} {E : Nat → va_E} {w : va_W} (h : q < n) : (gW n ad E ++ w)[q]? = some (ad q, E q) := by
  have hl : (gW n ad E).length = n := by simp [gW]
  rw [List.getElem?_append_left (by omega), gW_get h]
theorem ap_1 {q : Nat} {x : Nat × va_E} {w : va_W} : ([x] ++ w)[1 + q]? = w[q]? := by
  rw [List.getElem?_append_right (by simp), List.length_singleton, Nat.add_sub_cancel_left]
theorem ap_2 {q : Nat} {x y : Nat × va_E} {w : va_W} : ([x, y] ++ w)[2 + q]? = w[q]? := by
  rw [List.getElem?_append_right (by simp)]
  show w[2 + q - 2]? = w[q]?
  rw [Nat.add_sub_cancel_left]
theorem ap_3 {q : Nat} {x y z : Nat × va_E} {w : va_W} : ([x, y, z] ++ w)[3 + q]? = w[q]? := by
  rw [List.getElem?_append_right (by simp)]
  show w[3 + q - 3]? = w[q]?
  rw [Nat.add_sub_cancel_left]
theorem vp_cell_congrq {cA : ClassId} {n : Nat} {f f2 : Nat → Option Nat} (h : ∀ j, j < n → f j = f2 j) : vp_cell cA (n, .inr (.inr (.inr (.inr f)))) = vp_cell cA (n, .inr (.inr (.inr (.inr f2)))) := by
  rw [vp_cell_q, vp_cell_q]
  unfold arrV
  have : (Array.ofFn (n := n) fun j => va_rf (f j.val)) = Array.ofFn (n := n) fun j => va_rf (f2 j.val) := by
    congr 1
    funext j
    rw [h j.val j.isLt]
  rw [this]
theorem dskE_congr {cI : ClassId} {ad ad2 : Nat → Nat} {d : Nat → Nat → Int32} {i : Nat} (hi : i < 21) (h : ∀ j, j < 21 → ad j = ad2 j) : dskE cI ad d i = dskE cI ad2 d i := by
  simp only [dskE]
  rw [h 1 (by omega), h 3 (by omega), h 5 (by omega), h 7 (by omega), h 9 (by omega), h 11 (by omega), h 13 (by omega), h 15 (by omega), h 17 (by omega), h 19 (by omega)]
  by_cases h0 : i = 0
  · rw [if_pos h0, if_pos h0]
  · rw [if_neg h0, if_neg h0]
    by_cases h1 : i % 2 = 1
    · rw [if_pos h1, if_pos h1, h (i + 1) (by omega)]
    · rw [if_neg h1, if_neg h1]
/-- where a cell of the whole stands in the order of making -/
def xPi (k : Nat) : Nat := if k < 63 then 1 + k else if k < 168 then k + 3 else if k = 168 then 0 else if k = 169 then 64 else if k = 170 then 65 else k
theorem xW_flat {Z : gZ} {h0 q3 qs q4 r a q5 : Nat} {a0 a1 a2 e0 e1 e2 e3 e4 : Nat → Nat} : xW Z h0 q3 qs q4 r a q5 a0 a1 a2 e0 e1 e2 e3 e4 = [(h0, .inr (5, [.ref (a0 0), .ref (a1 0), .ref (a2 0), .int 0, .ref q3, .ref q4, .ref q5]))] ++ (gW 21 a0 (dskE Z.2.1 a0 d00) ++ (gW 21 a1 (dskE Z.2.1 a1 d00) ++ (gW 21 a2 (dskE Z.2.1 a2 d00) ++ ([(q3, .inr (1, [.ref qs, .int 0, .int 0])), (qs, .inl (Z.2.2, 5, .inr (.inr (.inr (.inr (sl5 (e0 0) (e1 0) (e2 0) (e3 0) (e4 0)))))))] ++ (gW 21 e0 (dskE Z.2.1 e0 d00) ++ (gW 21 e1 (dskE Z.2.1 e1 d00) ++ (gW 21 e2 (dskE Z.2.1 e2 d00) ++ (gW 21 e3 (dskE Z.2.1 e3 d00) ++ (gW 21 e4 (dskE Z.2.1 e4 d00) ++ ([(q4, .inr (4, [.ref r, .int 0])), (r, .inr (3, [.ref a])), (a, .inl (Z.2.1, 80, .inl (fun _ => 0)))] ++ [(q5, .inr (2, [.int 0, .int 0, .int 0, .int 0, .int 0]))])))))))))) := by
  unfold xW
  simp only [List.append_assoc]
set_option maxHeartbeats 4000000 in
set_option maxRecDepth 100000 in
theorem xW_at {Z : gZ} {h0 q3 qs q4 r a q5 : Nat} {a0 a1 a2 e0 e1 e2 e3 e4 : Nat → Nat} (k : Nat) (hk : k < 175) (hn : k ≠ 170) : (xW Z h0 q3 qs q4 r a q5 a0 a1 a2 e0 e1 e2 e3 e4)[xPi k]? = some (xAd h0 q3 qs q4 r a q5 a0 a1 a2 e0 e1 e2 e3 e4 k, x0E Z (xAd h0 q3 qs q4 r a q5 a0 a1 a2 e0 e1 e2 e3 e4) k) := by
  rw [xW_flat]
  simp only [x0E, xE]
  by_cases h168 : k < 168
  · rw [if_pos h168]
    by_cases g0 : k < 21
    · have hp : xPi k = 1 + (k - 0) := by unfold xPi; split <;> first | omega | (split <;> first | omega | (exfalso; omega))
      have hq : k / 21 = 0 := by omega
      have hm : k % 21 = k - 0 := by omega
      rw [hp, ap_1, ap_i (by omega), hq, hm]
      have hx : ∀ j, j < 21 → xAd h0 q3 qs q4 r a q5 a0 a1 a2 e0 e1 e2 e3 e4 (21 * 0 + j) = a0 j := by
        intro j hj
        unfold xAd
        rw [if_pos (by omega)]
        congr 1; omega
      rw [dskE_congr (ad2 := a0) (by omega) hx]
      have hx2 := hx (k - 0) (by omega)
      rw [show 21 * 0 + (k - 0) = k by omega] at hx2
      rw [hx2]
    by_cases g1 : k < 42
    · have hp : xPi k = 1 + (21 + (k - 21)) := by unfold xPi; split <;> first | omega | (split <;> first | omega | (exfalso; omega))
      have hq : k / 21 = 1 := by omega
      have hm : k % 21 = k - 21 := by omega
      rw [hp, ap_1, ap_n, ap_i (by omega), hq, hm]
      have hx : ∀ j, j < 21 → xAd h0 q3 qs q4 r a q5 a0 a1 a2 e0 e1 e2 e3 e4 (21 * 1 + j) = a1 j := by
        intro j hj
        unfold xAd
        rw [if_neg (by omega), if_pos (by omega)]
        congr 1; omega
      rw [dskE_congr (ad2 := a1) (by omega) hx]
      have hx2 := hx (k - 21) (by omega)
      rw [show 21 * 1 + (k - 21) = k by omega] at hx2
      rw [hx2]
    by_cases g2 : k < 63
    · have hp : xPi k = 1 + (21 + (21 + (k - 42))) := by unfold xPi; split <;> first | omega | (split <;> first | omega | (exfalso; omega))
      have hq : k / 21 = 2 := by omega
      have hm : k % 21 = k - 42 := by omega
      rw [hp, ap_1, ap_n, ap_n, ap_i (by omega), hq, hm]
      have hx : ∀ j, j < 21 → xAd h0 q3 qs q4 r a q5 a0 a1 a2 e0 e1 e2 e3 e4 (21 * 2 + j) = a2 j := by
        intro j hj
        unfold xAd
        rw [if_neg (by omega), if_neg (by omega), if_pos (by omega)]
        congr 1; omega
      rw [dskE_congr (ad2 := a2) (by omega) hx]
      have hx2 := hx (k - 42) (by omega)
      rw [show 21 * 2 + (k - 42) = k by omega] at hx2
      rw [hx2]
    by_cases g3 : k < 84
    · have hp : xPi k = 1 + (21 + (21 + (21 + (2 + (k - 63))))) := by unfold xPi; split <;> first | omega | (split <;> first | omega | (exfalso; omega))
      have hq : k / 21 = 3 := by omega
      have hm : k % 21 = k - 63 := by omega
      rw [hp, ap_1, ap_n, ap_n, ap_n, ap_2, ap_i (by omega), hq, hm]
      have hx : ∀ j, j < 21 → xAd h0 q3 qs q4 r a q5 a0 a1 a2 e0 e1 e2 e3 e4 (21 * 3 + j) = e0 j := by
        intro j hj
        unfold xAd
        rw [if_neg (by omega), if_neg (by omega), if_neg (by omega), if_pos (by omega)]
        congr 1; omega
      rw [dskE_congr (ad2 := e0) (by omega) hx]
      have hx2 := hx (k - 63) (by omega)
      rw [show 21 * 3 + (k - 63) = k by omega] at hx2
      rw [hx2]
    by_cases g4 : k < 105
    · have hp : xPi k = 1 + (21 + (21 + (21 + (2 + (21 + (k - 84)))))) := by unfold xPi; split <;> first | omega | (split <;> first | omega | (exfalso; omega))
      have hq : k / 21 = 4 := by omega
      have hm : k % 21 = k - 84 := by omega
      rw [hp, ap_1, ap_n, ap_n, ap_n, ap_2, ap_n, ap_i (by omega), hq, hm]
      have hx : ∀ j, j < 21 → xAd h0 q3 qs q4 r a q5 a0 a1 a2 e0 e1 e2 e3 e4 (21 * 4 + j) = e1 j := by
        intro j hj
        unfold xAd
        rw [if_neg (by omega), if_neg (by omega), if_neg (by omega), if_neg (by omega), if_pos (by omega)]
        congr 1; omega
      rw [dskE_congr (ad2 := e1) (by omega) hx]
      have hx2 := hx (k - 84) (by omega)
      rw [show 21 * 4 + (k - 84) = k by omega] at hx2
      rw [hx2]
    by_cases g5 : k < 126
    · have hp : xPi k = 1 + (21 + (21 + (21 + (2 + (21 + (21 + (k - 105))))))) := by unfold xPi; split <;> first | omega | (split <;> first | omega | (exfalso; omega))
      have hq : k / 21 = 5 := by omega
      have hm : k % 21 = k - 105 := by omega
      rw [hp, ap_1, ap_n, ap_n, ap_n, ap_2, ap_n, ap_n, ap_i (by omega), hq, hm]
      have hx : ∀ j, j < 21 → xAd h0 q3 qs q4 r a q5 a0 a1 a2 e0 e1 e2 e3 e4 (21 * 5 + j) = e2 j := by
        intro j hj
        unfold xAd
        rw [if_neg (by omega), if_neg (by omega), if_neg (by omega), if_neg (by omega), if_neg (by omega), if_pos (by omega)]
        congr 1; omega
      rw [dskE_congr (ad2 := e2) (by omega) hx]
      have hx2 := hx (k - 105) (by omega)
      rw [show 21 * 5 + (k - 105) = k by omega] at hx2
      rw [hx2]
    by_cases g6 : k < 147
    · have hp : xPi k = 1 + (21 + (21 + (21 + (2 + (21 + (21 + (21 + (k - 126)))))))) := by unfold xPi; split <;> first | omega | (split <;> first | omega | (exfalso; omega))
      have hq : k / 21 = 6 := by omega
      have hm : k % 21 = k - 126 := by omega
      rw [hp, ap_1, ap_n, ap_n, ap_n, ap_2, ap_n, ap_n, ap_n, ap_i (by omega), hq, hm]
      have hx : ∀ j, j < 21 → xAd h0 q3 qs q4 r a q5 a0 a1 a2 e0 e1 e2 e3 e4 (21 * 6 + j) = e3 j := by
        intro j hj
        unfold xAd
        rw [if_neg (by omega), if_neg (by omega), if_neg (by omega), if_neg (by omega), if_neg (by omega), if_neg (by omega), if_pos (by omega)]
        congr 1; omega
      rw [dskE_congr (ad2 := e3) (by omega) hx]
      have hx2 := hx (k - 126) (by omega)
      rw [show 21 * 6 + (k - 126) = k by omega] at hx2
      rw [hx2]
    by_cases g7 : k < 168
    · have hp : xPi k = 1 + (21 + (21 + (21 + (2 + (21 + (21 + (21 + (21 + (k - 147))))))))) := by unfold xPi; split <;> first | omega | (split <;> first | omega | (exfalso; omega))
      have hq : k / 21 = 7 := by omega
      have hm : k % 21 = k - 147 := by omega
      rw [hp, ap_1, ap_n, ap_n, ap_n, ap_2, ap_n, ap_n, ap_n, ap_n, ap_i (by omega), hq, hm]
      have hx : ∀ j, j < 21 → xAd h0 q3 qs q4 r a q5 a0 a1 a2 e0 e1 e2 e3 e4 (21 * 7 + j) = e4 j := by
        intro j hj
        unfold xAd
        rw [if_neg (by omega), if_neg (by omega), if_neg (by omega), if_neg (by omega), if_neg (by omega), if_neg (by omega), if_neg (by omega), if_pos (by omega)]
        congr 1; omega
      rw [dskE_congr (ad2 := e4) (by omega) hx]
      have hx2 := hx (k - 147) (by omega)
      rw [show 21 * 7 + (k - 147) = k by omega] at hx2
      rw [hx2]
    omega
  · rw [if_neg h168]
    rcases x_7 hk h168 with rfl | rfl | rfl | rfl | rfl | rfl | rfl
    · rfl
    · exact (show (_ : Option _) = _ by rw [show xPi 169 = 1 + (21 + (21 + (21 + 0))) from rfl, ap_1, ap_n, ap_n, ap_n]; rfl)
    · exact absurd rfl hn
    · exact (show (_ : Option _) = _ by rw [show xPi 171 = 1 + (21 + (21 + (21 + (2 + (21 + (21 + (21 + (21 + (21 + 0))))))))) from rfl, ap_1, ap_n, ap_n, ap_n, ap_2, ap_n, ap_n, ap_n, ap_n, ap_n]; rfl)
    · exact (show (_ : Option _) = _ by rw [show xPi 172 = 1 + (21 + (21 + (21 + (2 + (21 + (21 + (21 + (21 + (21 + 1))))))))) from rfl, ap_1, ap_n, ap_n, ap_n, ap_2, ap_n, ap_n, ap_n, ap_n, ap_n]; rfl)
    · exact (show (_ : Option _) = _ by rw [show xPi 173 = 1 + (21 + (21 + (21 + (2 + (21 + (21 + (21 + (21 + (21 + 2))))))))) from rfl, ap_1, ap_n, ap_n, ap_n, ap_2, ap_n, ap_n, ap_n, ap_n, ap_n]; rfl)
    · exact (show (_ : Option _) = _ by rw [show xPi 174 = 1 + (21 + (21 + (21 + (2 + (21 + (21 + (21 + (21 + (21 + (3 + 0)))))))))) from rfl, ap_1, ap_n, ap_n, ap_n, ap_2, ap_n, ap_n, ap_n, ap_n, ap_n, ap_3]; rfl)
set_option maxHeartbeats 4000000 in
set_option maxRecDepth 100000 in
theorem xW_170 {Z : gZ} {h0 q3 qs q4 r a q5 : Nat} {a0 a1 a2 e0 e1 e2 e3 e4 : Nat → Nat} : (xW Z h0 q3 qs q4 r a q5 a0 a1 a2 e0 e1 e2 e3 e4)[xPi 170]? = some (qs, .inl (Z.2.2, 5, .inr (.inr (.inr (.inr (sl5 (e0 0) (e1 0) (e2 0) (e3 0) (e4 0))))))) := by
  rw [xW_flat, show xPi 170 = 1 + (21 + (21 + (21 + 1))) from rfl, ap_1, ap_n, ap_n, ap_n]; rfl
set_option maxHeartbeats 4000000 in
set_option maxRecDepth 100000 in
/-- the world as it was made, told as the whole -/
theorem xW_tell {Z : gZ} {h0 q3 qs q4 r a q5 : Nat} {a0 a1 a2 e0 e1 e2 e3 e4 : Nat → Nat} {A : Nat → Prop} {H : Heap} (hP : va_P Z.1 vwCl (xW Z h0 q3 qs q4 r a q5 a0 a1 a2 e0 e1 e2 e3 e4) H) (hD : va_D A (xW Z h0 q3 qs q4 r a q5 a0 a1 a2 e0 e1 e2 e3 e4)) : va_P Z.1 vwCl (gW 175 (xAd h0 q3 qs q4 r a q5 a0 a1 a2 e0 e1 e2 e3 e4) (x0E Z (xAd h0 q3 qs q4 r a q5 a0 a1 a2 e0 e1 e2 e3 e4))) H ∧ va_D A (gW 175 (xAd h0 q3 qs q4 r a q5 a0 a1 a2 e0 e1 e2 e3 e4) (x0E Z (xAd h0 q3 qs q4 r a q5 a0 a1 a2 e0 e1 e2 e3 e4))) := by
  have hpi : ∀ i j, i < 175 → j < 175 → xPi i = xPi j → i = j := by
    intro i j hi hj h
    have key : ∀ k, k < 175 → (k < 63 ∧ xPi k = 1 + k) ∨ (63 ≤ k ∧ k < 168 ∧ xPi k = k + 3) ∨ (k = 168 ∧ xPi k = 0) ∨ (k = 169 ∧ xPi k = 64) ∨ (k = 170 ∧ xPi k = 65) ∨ (171 ≤ k ∧ xPi k = k) := by
      intro k hk
      by_cases c1 : k < 63
      · exact Or.inl ⟨c1, by unfold xPi; rw [if_pos c1]⟩
      · by_cases c2 : k < 168
        · exact Or.inr (Or.inl ⟨by omega, c2, by unfold xPi; rw [if_neg c1, if_pos c2]⟩)
        · rcases x_7 hk c2 with rfl | rfl | rfl | rfl | rfl | rfl | rfl <;> simp [xPi]
    have k1 := key i hi
    have k2 := key j hj
    omega
  have hw : ∀ k, k < 175 → ∃ e, (xW Z h0 q3 qs q4 r a q5 a0 a1 a2 e0 e1 e2 e3 e4)[xPi k]? = some (xAd h0 q3 qs q4 r a q5 a0 a1 a2 e0 e1 e2 e3 e4 k, e) := by
    intro k hk
    by_cases h : k = 170
    · subst h; exact ⟨_, xW_170⟩
    · exact ⟨_, xW_at k hk h⟩
  refine ⟨fun k q hk => ?_, fun i j p q hp hq e => ?_, fun k q hk => ?_⟩
  · obtain ⟨hk', rfl⟩ := gW_inv hk
    by_cases h : k = 170
    · subst h
      have h1 := hP _ _ (xW_170 (Z := Z) (h0 := h0) (q3 := q3) (qs := qs) (q4 := q4) (r := r) (a := a) (q5 := q5) (a0 := a0) (a1 := a1) (a2 := a2) (e0 := e0) (e1 := e1) (e2 := e2) (e3 := e3) (e4 := e4))
      have h2 : H[qs]? = some (vp_cell Z.2.2 (5, .inr (.inr (.inr (.inr (sl5 (e0 0) (e1 0) (e2 0) (e3 0) (e4 0))))))) := h1
      show H[qs]? = some (vp_cell Z.2.2 (5, .inr (.inr (.inr (.inr (fun k => some (xAd h0 q3 qs q4 r a q5 a0 a1 a2 e0 e1 e2 e3 e4 (21 * (3 + k)))))))))
      rw [h2]
      refine congrArg some (vp_cell_congrq fun j hj => ?_)
      rcases (show j = 0 ∨ j = 1 ∨ j = 2 ∨ j = 3 ∨ j = 4 by omega) with rfl | rfl | rfl | rfl | rfl <;> rfl
    · exact hP _ _ (xW_at k hk' h)
  · obtain ⟨hi, rfl⟩ := gW_inv hp
    obtain ⟨hj, rfl⟩ := gW_inv hq
    obtain ⟨e1, h1⟩ := hw i hi
    obtain ⟨e2, h2⟩ := hw j hj
    exact hpi i j hi hj (hD.1 _ _ _ _ h1 h2 e)
  · obtain ⟨hi, rfl⟩ := gW_inv hk
    obtain ⟨e1, h1⟩ := hw k hi
    exact hD.2 _ (_, e1) h1
set_option maxHeartbeats 4000000 in
set_option maxRecDepth 100000 in
theorem cnN_X5 (l : Launch) (Z : gZ) (h0 : Nat) : gN l yX5_init wsX5_init rmN_X5 Z h0 5 [.null, .null, .null, .int 0, .null, .null, .null] [] (fun w => ∃ ad : Nat → Nat, ad 168 = h0 ∧ w = gW 175 ad (x0E Z ad)) 174 2160 := by
  refine l_entryN (cc := cX5_init) (maxL := 1) (by decide +kernel) rfl rfl (Nat.le_of_ble_eq_true rfl) (fun X A C hin hov e => ?_)
  show GL X Z 1 A 0 0 [(h0, .inr (5, [.null, .null, .null, .int 0, .null, .null, .null]))] 0 [(0, .ref h0)] []
  refine l_aload_n C dX5_init_0 0 rfl ?_
  refine l_obj C ob1_X5 ob2_X5 ob3_X5 (by decide) (Nat.le_of_ble_eq_true rfl) dX5_init_1 ?_
  refine l_aload_n C dX5_init_4 0 rfl ?_
  refine l_new (ci := 0) (fs := [.null, .null, .null, .null, .null, .null, .null, .null, .null, .null]) C rfl inn_X5_X0 tyX0 tyX0_ok nw1_X5_X0 nw2_X5_X0 nw3_X5_X0 (fun j hj => by rcases (show j = 0 ∨ j = 1 ∨ j = 2 ∨ j = 3 ∨ j = 4 ∨ j = 5 ∨ j = 6 ∨ j = 7 ∨ j = 8 ∨ j = 9 by omega) with rfl | rfl | rfl | rfl | rfl | rfl | rfl | rfl | rfl | rfl <;> rfl) (by decide) (by decide) dX5_init_5 (fun q0 => ?_)
  refine l_dup C dX5_init_8 rfl ?_
  refine l_callN (rest := [.ref q0, .ref h0]) C hov gX5_init_X0_init rfl okN_X0 ⟨by decide, by decide⟩ ⟨rfl, rfl⟩ (by decide) (by decide) ct1_X5_X0 ct2_X5_X0 ct3_X5_X0 rfl (cnN_X0 X.2.1 Z q0) rfl dX5_init_9 rfl (Nat.le_of_ble_eq_true rfl) (fun w hw => ?_)
  obtain ⟨a0, rfl, rfl⟩ := hw
  refine l_putF C hin 0 rfl rfl in_X5_init tyX5 tyX5_ok nmX5 0 (by decide) fl_X5_init_10 rfl rfl rfl rfl (Nat.le_of_ble_eq_true rfl) dX5_init_12 ([(h0, .inr (5, [.ref (a0 0), .null, .null, .int 0, .null, .null, .null]))] ++ gW 21 a0 (dskE Z.2.1 a0 d00)) rfl ?_
  refine l_aload_n C dX5_init_15 0 rfl ?_
  refine l_new (ci := 0) (fs := [.null, .null, .null, .null, .null, .null, .null, .null, .null, .null]) C rfl inn_X5_X0 tyX0 tyX0_ok nw1_X5_X0 nw2_X5_X0 nw3_X5_X0 (fun j hj => by rcases (show j = 0 ∨ j = 1 ∨ j = 2 ∨ j = 3 ∨ j = 4 ∨ j = 5 ∨ j = 6 ∨ j = 7 ∨ j = 8 ∨ j = 9 by omega) with rfl | rfl | rfl | rfl | rfl | rfl | rfl | rfl | rfl | rfl <;> rfl) (by decide) (by decide) dX5_init_16 (fun q1 => ?_)
  refine l_dup C dX5_init_19 rfl ?_
  refine l_callN (rest := [.ref q1, .ref h0]) C hov gX5_init_X0_init rfl okN_X0 ⟨by decide, by decide⟩ ⟨rfl, rfl⟩ (by decide) (by decide) ct1_X5_X0 ct2_X5_X0 ct3_X5_X0 rfl (cnN_X0 X.2.1 Z q1) rfl dX5_init_20 rfl (Nat.le_of_ble_eq_true rfl) (fun w hw => ?_)
  obtain ⟨a1, rfl, rfl⟩ := hw
  refine l_putF C hin 0 rfl rfl in_X5_init tyX5 tyX5_ok nmX5 1 (by decide) fl_X5_init_16 rfl rfl rfl rfl (Nat.le_of_ble_eq_true rfl) dX5_init_23 (([(h0, .inr (5, [.ref (a0 0), .ref (a1 0), .null, .int 0, .null, .null, .null]))] ++ gW 21 a0 (dskE Z.2.1 a0 d00)) ++ gW 21 a1 (dskE Z.2.1 a1 d00)) rfl ?_
  refine l_aload_n C dX5_init_26 0 rfl ?_
  refine l_new (ci := 0) (fs := [.null, .null, .null, .null, .null, .null, .null, .null, .null, .null]) C rfl inn_X5_X0 tyX0 tyX0_ok nw1_X5_X0 nw2_X5_X0 nw3_X5_X0 (fun j hj => by rcases (show j = 0 ∨ j = 1 ∨ j = 2 ∨ j = 3 ∨ j = 4 ∨ j = 5 ∨ j = 6 ∨ j = 7 ∨ j = 8 ∨ j = 9 by omega) with rfl | rfl | rfl | rfl | rfl | rfl | rfl | rfl | rfl | rfl <;> rfl) (by decide) (by decide) dX5_init_27 (fun q2 => ?_)
  refine l_dup C dX5_init_30 rfl ?_
  refine l_callN (rest := [.ref q2, .ref h0]) C hov gX5_init_X0_init rfl okN_X0 ⟨by decide, by decide⟩ ⟨rfl, rfl⟩ (by decide) (by decide) ct1_X5_X0 ct2_X5_X0 ct3_X5_X0 rfl (cnN_X0 X.2.1 Z q2) rfl dX5_init_31 rfl (Nat.le_of_ble_eq_true rfl) (fun w hw => ?_)
  obtain ⟨a2, rfl, rfl⟩ := hw
  refine l_putF C hin 0 rfl rfl in_X5_init tyX5 tyX5_ok nmX5 2 (by decide) fl_X5_init_19 rfl rfl rfl rfl (Nat.le_of_ble_eq_true rfl) dX5_init_34 ((([(h0, .inr (5, [.ref (a0 0), .ref (a1 0), .ref (a2 0), .int 0, .null, .null, .null]))] ++ gW 21 a0 (dskE Z.2.1 a0 d00)) ++ gW 21 a1 (dskE Z.2.1 a1 d00)) ++ gW 21 a2 (dskE Z.2.1 a2 d00)) rfl ?_
  refine l_aload_n C dX5_init_37 0 rfl ?_
  refine l_iconst (v := 0) C dX5_init_38 (by decide) ?_
  refine l_putf C 0 rfl rfl in_X5_init tyX5 tyX5_ok nmX5 3 (by decide) fl_X5_init_22 rfl rfl rfl (Nat.le_of_ble_eq_true rfl) dX5_init_39 ((([(h0, .inr (5, [.ref (a0 0), .ref (a1 0), .ref (a2 0), .int 0, .null, .null, .null]))] ++ gW 21 a0 (dskE Z.2.1 a0 d00)) ++ gW 21 a1 (dskE Z.2.1 a1 d00)) ++ gW 21 a2 (dskE Z.2.1 a2 d00)) rfl ?_
  refine l_aload_n C dX5_init_42 0 rfl ?_
  refine l_new (ci := 1) (fs := [.null, .int 0, .int 0]) C rfl inn_X5_X1 tyX1 tyX1_ok nw1_X5_X1 nw2_X5_X1 nw3_X5_X1 (fun j hj => by rcases (show j = 0 ∨ j = 1 ∨ j = 2 by omega) with rfl | rfl | rfl <;> rfl) (by decide) (by decide) dX5_init_43 (fun q3 => ?_)
  refine l_dup C dX5_init_46 rfl ?_
  refine l_callN (rest := [.ref q3, .ref h0]) C hov gX5_init_X1_init rfl okN_X1 ⟨by decide, by decide⟩ ⟨rfl, rfl⟩ (by decide) (by decide) ct1_X5_X1 ct2_X5_X1 ct3_X5_X1 rfl (cnN_X1 X.2.1 Z q3) rfl dX5_init_47 rfl (Nat.le_of_ble_eq_true rfl) (fun w hw => ?_)
  obtain ⟨qs, e0, e1, e2, e3, e4, rfl⟩ := hw
  refine l_putF C hin 0 rfl rfl in_X5_init tyX5 tyX5_ok nmX5 4 (by decide) fl_X5_init_29 rfl rfl rfl rfl (Nat.le_of_ble_eq_true rfl) dX5_init_50 (((([(h0, .inr (5, [.ref (a0 0), .ref (a1 0), .ref (a2 0), .int 0, .ref q3, .null, .null]))] ++ gW 21 a0 (dskE Z.2.1 a0 d00)) ++ gW 21 a1 (dskE Z.2.1 a1 d00)) ++ gW 21 a2 (dskE Z.2.1 a2 d00)) ++ ((((([(q3, .inr (1, [.ref qs, .int 0, .int 0])), (qs, .inl (Z.2.2, 5, .inr (.inr (.inr (.inr (sl5 (e0 0) (e1 0) (e2 0) (e3 0) (e4 0)))))))] ++ gW 21 e0 (dskE Z.2.1 e0 d00)) ++ gW 21 e1 (dskE Z.2.1 e1 d00)) ++ gW 21 e2 (dskE Z.2.1 e2 d00)) ++ gW 21 e3 (dskE Z.2.1 e3 d00)) ++ gW 21 e4 (dskE Z.2.1 e4 d00))) rfl ?_
  refine l_aload_n C dX5_init_53 0 rfl ?_
  refine l_new (ci := 4) (fs := [.null, .int 0]) C rfl inn_X5_X4 tyX4 tyX4_ok nw1_X5_X4 nw2_X5_X4 nw3_X5_X4 (fun j hj => by rcases (show j = 0 ∨ j = 1 by omega) with rfl | rfl <;> rfl) (by decide) (by decide) dX5_init_54 (fun q4 => ?_)
  refine l_dup C dX5_init_57 rfl ?_
  refine l_callNN (rest := [.ref q4, .ref h0]) C hov gX5_init_X4_init_n35 rfl okN_X4 ⟨by decide, by decide⟩ ⟨rfl, rfl⟩ (by decide) (by decide) ct1_X5_X4 RX5 hov.2.1 ct3_X5_X4 rfl (cnN_X4 X.2.1 Z q4) rfl dX5_init_58 rfl (Nat.le_of_ble_eq_true rfl) (fun w hw => ?_)
  obtain ⟨r, a, rfl⟩ := hw
  refine l_putF C hin 0 rfl rfl in_X5_init tyX5 tyX5_ok nmX5 5 (by decide) fl_X5_init_36 rfl rfl rfl rfl (Nat.le_of_ble_eq_true rfl) dX5_init_61 ((((([(h0, .inr (5, [.ref (a0 0), .ref (a1 0), .ref (a2 0), .int 0, .ref q3, .ref q4, .null]))] ++ gW 21 a0 (dskE Z.2.1 a0 d00)) ++ gW 21 a1 (dskE Z.2.1 a1 d00)) ++ gW 21 a2 (dskE Z.2.1 a2 d00)) ++ ((((([(q3, .inr (1, [.ref qs, .int 0, .int 0])), (qs, .inl (Z.2.2, 5, .inr (.inr (.inr (.inr (sl5 (e0 0) (e1 0) (e2 0) (e3 0) (e4 0)))))))] ++ gW 21 e0 (dskE Z.2.1 e0 d00)) ++ gW 21 e1 (dskE Z.2.1 e1 d00)) ++ gW 21 e2 (dskE Z.2.1 e2 d00)) ++ gW 21 e3 (dskE Z.2.1 e3 d00)) ++ gW 21 e4 (dskE Z.2.1 e4 d00))) ++ [(q4, .inr (4, [.ref r, .int 0])), (r, .inr (3, [.ref a])), (a, .inl (Z.2.1, 80, .inl (fun _ => 0)))]) rfl ?_
  refine l_aload_n C dX5_init_64 0 rfl ?_
  refine l_new (ci := 2) (fs := [.int 0, .int 0, .int 0, .int 0, .int 0]) C rfl inn_X5_X2 tyX2 tyX2_ok nw1_X5_X2 nw2_X5_X2 nw3_X5_X2 (fun j hj => by rcases (show j = 0 ∨ j = 1 ∨ j = 2 ∨ j = 3 ∨ j = 4 by omega) with rfl | rfl | rfl | rfl | rfl <;> rfl) (by decide) (by decide) dX5_init_65 (fun q5 => ?_)
  refine l_dup C dX5_init_68 rfl ?_
  refine l_callNN (rest := [.ref q5, .ref h0]) C hov gX5_init_X2_init_n42 rfl okN_X2 ⟨by decide, by decide⟩ ⟨rfl, rfl⟩ (by decide) (by decide) ct1_X5_X2 RX5 hov.2.2 ct3_X5_X2 rfl (cnN_X2 X.2.1 Z q5) rfl dX5_init_69 rfl (Nat.le_of_ble_eq_true rfl) (fun w hw => ?_)
  obtain rfl := hw
  refine l_putF C hin 0 rfl rfl in_X5_init tyX5 tyX5_ok nmX5 6 (by decide) fl_X5_init_43 rfl rfl rfl rfl (Nat.le_of_ble_eq_true rfl) dX5_init_72 (((((([(h0, .inr (5, [.ref (a0 0), .ref (a1 0), .ref (a2 0), .int 0, .ref q3, .ref q4, .ref q5]))] ++ gW 21 a0 (dskE Z.2.1 a0 d00)) ++ gW 21 a1 (dskE Z.2.1 a1 d00)) ++ gW 21 a2 (dskE Z.2.1 a2 d00)) ++ ((((([(q3, .inr (1, [.ref qs, .int 0, .int 0])), (qs, .inl (Z.2.2, 5, .inr (.inr (.inr (.inr (sl5 (e0 0) (e1 0) (e2 0) (e3 0) (e4 0)))))))] ++ gW 21 e0 (dskE Z.2.1 e0 d00)) ++ gW 21 e1 (dskE Z.2.1 e1 d00)) ++ gW 21 e2 (dskE Z.2.1 e2 d00)) ++ gW 21 e3 (dskE Z.2.1 e3 d00)) ++ gW 21 e4 (dskE Z.2.1 e4 d00))) ++ [(q4, .inr (4, [.ref r, .int 0])), (r, .inr (3, [.ref a])), (a, .inl (Z.2.1, 80, .inl (fun _ => 0)))]) ++ [(q5, .inr (2, [.int 0, .int 0, .int 0, .int 0, .int 0]))]) rfl ?_
  intro H locs ls hl hP hD hS
  have h1 := xW_tell (Z := Z) (h0 := h0) (q3 := q3) (qs := qs) (q4 := q4) (r := r) (a := a) (q5 := q5) (a0 := a0) (a1 := a1) (a2 := a2) (e0 := e0) (e1 := e1) (e2 := e2) (e3 := e3) (e4 := e4) hP hD
  exact l_vret C e ⟨xAd h0 q3 qs q4 r a q5 a0 a1 a2 e0 e1 e2 e3 e4, rfl, rfl⟩ dX5_init_75 H locs ls hl h1.1 h1.2 hS
