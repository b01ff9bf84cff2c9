/-! MATHEMATICS, 29: a file gets blocks, on both sides. -/
section GROW
variable {s t g : Nat → Int32}
def grJ (f : Nat) : Nat → (Nat → Nat → Nat) → Nat → (Nat → Nat → Nat)
  | 0, A, _ => A
  | n + 1, A, m => if m = 0 then A else grJ f n (adJ A f (chJ A m 64).1 (mnN m (rn A (chJ A m 64).1))) (m - mnN m (rn A (chJ A m 64).1))
theorem grJ_succ (f n m : Nat) (A : Nat → Nat → Nat) : grJ f (n + 1) A m = if m = 0 then A else grJ f n (adJ A f (chJ A m 64).1 (mnN m (rn A (chJ A m 64).1))) (m - mnN m (rn A (chJ A m 64).1)) := rfl
theorem grJ_zero (f n : Nat) (A : Nat → Nat → Nat) : grJ f n A 0 = A := by
  cases n with
  | zero => rfl
  | succ n => rw [grJ_succ, if_pos rfl]
section ONE
variable {A : Nat → Nat → Nat}
theorem sm_bump {w v : Nat → Nat} {n f a : Nat} (hf : f < n) (h1 : v f = w f + a) (h2 : ∀ i, i < n → i ≠ f → v i = w i) : sm v n = sm w n + a := by
  induction n with
  | zero => omega
  | succ n ih =>
    rw [sm_succ, sm_succ]
    by_cases e : f = n
    · subst e
      rw [h1, sm_congr (w := v) (v := w) (fun i hi => h2 i (by omega) (by omega))]; omega
    · rw [ih (by omega) (fun i hi => h2 i (by omega)), h2 n (by omega) (fun q => e q.symm)]; omega
theorem fre_adJ (hI : IA A) {f first j : Nat} (hf : f < 8) (h0 : A 3 f ≠ 0) (hk : first ≤ 64) (hj : j ≤ rn A first) : fre (adJ A f first j) + j = fre A := by
  have e1 := sum64 hI.b
  have e2 := sum64 (IA_adJ hI hf h0 hk hj).b
  have e3 := sm_bump (w := A 4) (v := adJ A f first j 4) hf (adJ_len A f first j) (fun i _ hi => adJ_len' hi j)
  omega
/-- one choice: what it adds -/
theorem gr_one (hI : IA A) {f m : Nat} (hf : f < 8) (h0 : A 3 f ≠ 0) (hm : 0 < m) (hm2 : m ≤ fre A) : (chJ A m 64).1 < 64 ∧ 1 ≤ mnN m (rn A (chJ A m 64).1) ∧ mnN m (rn A (chJ A m 64).1) ≤ m ∧ mnN m (rn A (chJ A m 64).1) ≤ rn A (chJ A m 64).1 := by
  have hfp : 0 < sm (fun k => if A 1 k = 8 then 1 else 0) 64 := Nat.lt_of_lt_of_le hm hm2
  obtain ⟨k, hk, hw⟩ := sm_pos hfp
  have h8 : A 1 k = 8 := by
    by_cases c : A 1 k = 8
    · exact c
    · rw [if_neg c] at hw; exact absurd hw (Nat.lt_irrefl 0)
  obtain ⟨c1, c2⟩ := ch_free A hm hk h8
  have c3 := (rn_pos c1).2 c2
  have w := mnN_le m (rn A (chJ A m 64).1)
  exact ⟨c1, by omega, w.1, w.2.1⟩
end ONE
theorem IA_grow {f : Nat} (hf : f < 8) : ∀ (n : Nat) (A : Nat → Nat → Nat) (m : Nat), IA A → A 3 f ≠ 0 → m ≤ fre A → m ≤ n → IA (grJ f n A m) ∧ grJ f n A m 4 f = A 4 f + m ∧ (∀ k i, k ≠ 1 → k ≠ 2 → k ≠ 4 → grJ f n A m k i = A k i) := by
  intro n
  induction n with
  | zero => intro A m hI h0 h1 h2; exact ⟨hI, by show A 4 f = A 4 f + m; omega, fun _ _ _ _ _ => rfl⟩
  | succ n ih =>
    intro A m hI h0 h1 h2
    rw [grJ_succ]
    by_cases c : m = 0
    · rw [if_pos c]; exact ⟨hI, by omega, fun _ _ _ _ _ => rfl⟩
    · rw [if_neg c]
      obtain ⟨q1, q2, q3, q4⟩ := gr_one hI hf h0 (by omega) h1
      have e := fre_adJ hI hf h0 (show (chJ A m 64).1 ≤ 64 by omega) q4
      obtain ⟨p1, p2, p3⟩ := ih _ (m - mnN m (rn A (chJ A m 64).1)) (IA_adJ hI hf h0 (by omega) q4) (by rw [adJ_row (by decide) (by decide) (by decide)]; exact h0) (by omega) (by omega)
      refine ⟨p1, ?_, fun k i k1 k2 k4 => ?_⟩
      · rw [p2, adJ_len]; omega
      · rw [p3 k i k1 k2 k4, adJ_row k1 k2 k4]
/-- the end of it: the lend -/
def grE (B : Nat → Nat → Nat) (f need ask : Nat) : Nat → Nat → Nat := if need < ask then as B 7 f (mnN 16 (2 * B 7 f)) else B
theorem C_grow_end {B : Nat → Nat → Nat} {d : Nat → Nat → Int32} (h : RC d B) (hI : IA B) {f need ask : Nat} (hf : f < 8) (hn : need < 2 ^ 31) (ha : ask < 2 ^ 31) : ∃ d', (if nI ask ≤ nI need then some d else glet (if 16 < (2 * nI (B 7 f)) then 16 else (2 * nI (B 7 f))) (fun x => gb (f_X3_put 8 (d 7) (nI f) x) (fun w => glet (va_up d 7 w) (fun d13 => some d13)))) = some d' ∧ RC d' (grE B f need ask) := by
  have hl := (hI.2.2.2.1 f hf).2.2.2.2.1
  unfold grE
  by_cases c : need < ask
  · have e2 : (2 : Int32) * nI (B 7 f) = nI (2 * B 7 f) := nI_mul 2 (B 7 f)
    have e3 : (if (16 : Int32) < nI (2 * B 7 f) then 16 else nI (2 * B 7 f)) = nI (mnN 16 (2 * B 7 f)) := by
      unfold mnN
      by_cases c2 : 16 < 2 * B 7 f
      · rw [if_pos (show (16 : Int32) < nI (2 * B 7 f) from nI_lt (a := 16) c2 (by omega)), if_pos c2]; rfl
      · rw [if_neg (show ¬ (16 : Int32) < nI (2 * B 7 f) from nI_nlt (a := 16) (by omega) (by decide)), if_neg c2]
    rw [if_neg (nI_ge c ha), if_pos c, e2, e3, glet_eq, f_put_in (by decide) _ hf, gb_some, glet_eq]
    exact ⟨_, rfl, RC_set h (by decide) (by decide) (as_eq _ _ _ _) (fun k' i q => as_ne _ _ q)⟩
  · rw [if_pos (nI_le (by omega) hn), if_neg c]
    exact ⟨d, rfl, h⟩
theorem C_grow {f need ask lend : Nat} (hf : f < 8) (hn : need < 2 ^ 31) (ha : ask < 2 ^ 31) (wish : Int32) : ∀ (n : Nat) (A : Nat → Nat → Nat) (d : Nat → Nat → Int32) (m turn fu : Nat), IA A → RC d A → A 3 f ≠ 0 → A 7 f = lend → m ≤ fre A → m ≤ n → turn + n ≤ 64 → n < fu → ∃ d', f_X0_lengthen_L87 (nI f) (nI need) (nI lend) wish (nI ask) fu (nI m) (nI turn) d = some d' ∧ RC d' (grE (grJ f n A m) f need ask) := by
  have fin : ∀ (A : Nat → Nat → Nat) (d : Nat → Nat → Int32) (turn fu : Nat), IA A → RC d A → A 7 f = lend → turn ≤ 64 → ∃ d', f_X0_lengthen_L87 (nI f) (nI need) (nI lend) wish (nI ask) (fu + 1) (nI 0) (nI turn) d = some d' ∧ RC d' (grE A f need ask) := by
    intro A d turn fu hI h hl ht
    obtain ⟨d', e, r⟩ := C_grow_end h hI hf hn ha
    rw [hl] at e
    refine ⟨d', ?_, r⟩
    rw [f_X0_lengthen_L87]
    by_cases c : 64 ≤ turn
    · rw [if_pos (by rw [l_lit64 (by omega)]; exact c)]; exact e
    · rw [if_neg (by rw [l_lit64 (by omega)]; exact c), if_pos (show nI 0 ≤ 0 by decide)]; exact e
  intro n
  induction n with
  | zero =>
    intro A d m turn fu hI h h0 hl h1 h2 h3 h4
    obtain rfl : m = 0 := by omega
    obtain ⟨fu, rfl⟩ : ∃ k, fu = k + 1 := ⟨fu - 1, by omega⟩
    exact fin A d turn fu hI h hl (by omega)
  | succ n ih =>
    intro A d m turn fu hI h h0 hl h1 h2 h3 h4
    obtain ⟨fu, rfl⟩ : ∃ k, fu = k + 1 := ⟨fu - 1, by omega⟩
    by_cases c : m = 0
    · subst c
      rw [grJ_succ, if_pos rfl]
      exact fin A d turn fu hI h hl (by omega)
    · have hs := sum64 hI.b
      obtain ⟨q1, q2, q3, q4⟩ := gr_one hI hf h0 (by omega) h1
      have e := fre_adJ hI hf h0 (show (chJ A m 64).1 ≤ 64 by omega) q4
      obtain ⟨d1, e1, r1⟩ := C_addFrom h hI hf h0 (show (chJ A m 64).1 ≤ 64 by omega) (show m ≤ 64 by omega)
      rw [grJ_succ, if_neg c, f_X0_lengthen_L87, if_neg (by rw [l_lit64 (by omega)]; omega), if_neg (nI_nle (by omega) (by omega)), C_chosenRun h hI (by omega) (by omega), gb_some, cI_lt q1, e1, gbb2_some, glet_eq, glet_eq, nI_sub q3, nI_1]
      exact ih _ d1 _ (turn + 1) fu (IA_adJ hI hf h0 (by omega) q4) r1 (by rw [adJ_row (by decide) (by decide) (by decide)]; exact h0) (by rw [adJ_row (by decide) (by decide) (by decide)]; exact hl) (by omega) (by omega) (by omega) (by omega)
end GROW
