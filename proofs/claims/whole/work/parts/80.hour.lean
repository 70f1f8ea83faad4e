/-! an hour: what it makes of v -/
def capN (z : Nat) : Nat := if z < 99 then z else 99
theorem capN_le (z : Nat) : capN z ≤ 99 := by unfold capN; split <;> omega
def hrN (v : Nat → Nat) (c h wet p x s : Nat) : Nat := capN (x - ((if h % v (66 + c) = 0 then v (6 + s) else 0) + wet) + airN v p s)
theorem less_oo {k j : Nat} (h1 : k < 2147483648) (h2 : j < 2147483648) : t_X12_less (oo k) (oo j) = oo (k - j) := by
  unfold t_X12_less
  by_cases h : j ≤ k
  · rw [if_pos (by rw [oo_le h2 h1]; exact h), oo_sub h]
  · rw [if_neg (by rw [oo_le h2 h1]; exact h), Nat.sub_eq_zero_of_le (by omega)]; rfl
theorem least_oo {k : Nat} (h1 : k < 2147483648) : t_X12_least (oo 99) (oo k) = oo (capN k) := by
  unfold t_X12_least capN
  by_cases h : k ≤ 99
  · rw [if_pos (by rw [oo_le h1 (by decide)]; exact h)]
    by_cases h3 : k < 99
    · rw [if_pos h3]
    · rw [if_neg h3, show k = 99 by omega]
  · rw [if_neg (by rw [oo_le h1 (by decide)]; exact h), if_neg (by omega)]
theorem cap_oo {k : Nat} : (if k < 99 then oo k else oo 99) = oo (capN k) := by
  unfold capN
  split <;> rfl
theorem sub0_oo {k j : Nat} (h1 : k < 1073741824) (h2 : j < 1073741824) : (if oo 0 < oo k - oo j then oo k - oo j else oo 0) = oo (k - j) := by
  by_cases h : j < k
  · rw [oo_sub (by omega), if_pos (by rw [oo_lt (by decide) (by omega)]; omega)]
  · have h3 : (oo k - oo j).toInt = (k : Int) - j := by
      rw [Int32.toInt_sub, oo_int (by omega), oo_int (by omega), Int.bmod_eq_of_le (by omega) (by omega)]
    rw [if_neg (by rw [Int32.lt_iff_toInt_lt, h3, oo_int (by decide)]; omega), Nat.sub_eq_zero_of_le (show k ≤ j by omega)]
/-- where w is at the hour t -/
def whN (v : Nat → Nat) (w t n : Nat) : Nat := if wtN v w t n = 0 then v (145 + w) else wtN v w t n - 1
theorem wtN_le {v : Nat → Nat} (hO : HOK v) {w t : Nat} : ∀ n, n ≤ v 4 → wtN v w t n ≤ v 1 := by
  intro n
  induction n with
  | zero => intro _; exact Nat.zero_le _
  | succ n ih =>
    intro hn
    have h1 := hO.2.2.2.2.2.1 n (by omega)
    rw [wtN]
    split
    · omega
    · exact ih (by omega)
theorem wtN_0 {v : Nat → Nat} (hO : HOK v) {w t : Nat} (h : v 3 ≤ w ∨ 60 < t ∨ t = 0) : ∀ n, n ≤ v 4 → wtN v w t n = 0 := by
  intro n
  induction n with
  | zero => intro _; rfl
  | succ n ih =>
    intro hn
    have h1 := hO.2.2.2.2.2.1 n (by omega)
    rw [wtN, if_neg (by omega), ih (by omega)]
theorem rnN_le (v : Nat → Nat) (t : Nat) : ∀ n, rnN v t n ≤ 1 := by
  intro n
  induction n with
  | zero => exact Nat.zero_le _
  | succ n ih => rw [rnN]; split <;> omega
theorem rnN_0 {v : Nat → Nat} (hO : HOK v) {t : Nat} (h : 60 < t) : ∀ n, n ≤ v 5 → rnN v t n = 0 := by
  intro n
  induction n with
  | zero => intro _; rfl
  | succ n ih =>
    intro hn
    have h1 := hO.2.2.2.2.2.2.1 n (by omega)
    rw [rnN, if_neg (by omega), ih (by omega)]
theorem whN_lt {v : Nat → Nat} (hO : HOK v) (hS : SOK v) {w t : Nat} (hw : w < v 3) : whN v w t (v 4) < v 1 := by
  have h1 := wtN_le hO (w := w) (t := t) (v 4) (Nat.le_refl _)
  have h2 := (hS.2.1 w hw).1
  unfold whN
  split <;> omega
/-- what is on a cloth behind its fading -/
def clP (v : Nat → Nat) (h c s : Nat) : Nat := v (194 + 10 * c + 4 + s) - (if h % v (194 + 10 * c + 3) = 0 then v (6 + s) else 0)
/-- the greatest in a box, by the first n cloths -/
def gmN (x : Nat → Nat → Nat) (bx : Nat → Nat) (b s : Nat) : Nat → Nat
  | 0 => 0
  | n + 1 => if bx n = b ∧ gmN x bx b s n < x n s then x n s else gmN x bx b s n
def mxN (x : Nat → Nat → Nat) (bx : Nat → Nat) (n c s : Nat) : Nat := if x c s < gmN x bx (bx c) s n then x c s + 1 else x c s
theorem gmN_le {x : Nat → Nat → Nat} {bx : Nat → Nat} {b s k : Nat} : ∀ n, (∀ c, c < n → x c s ≤ k) → gmN x bx b s n ≤ k := by
  intro n
  induction n with
  | zero => intro _; exact Nat.zero_le _
  | succ n ih =>
    intro h
    have h1 := ih (fun c hc => h c (by omega))
    have h2 := h n (by omega)
    rw [gmN]
    split <;> omega
theorem gmN_eq {x y : Nat → Nat → Nat} {bx : Nat → Nat} {b s : Nat} : ∀ n, (∀ c, c < n → bx c = b → x c s = y c s) → gmN x bx b s n = gmN y bx b s n := by
  intro n
  induction n with
  | zero => intro _; rfl
  | succ n ih =>
    intro h
    rw [gmN, gmN, ih (fun c hc => h c (by omega))]
    by_cases h1 : bx n = b
    · rw [h n (by omega) h1]
    · rw [if_neg (fun q => h1 q.1), if_neg (fun q => h1 q.1)]
theorem mxN_le {x : Nat → Nat → Nat} {bx : Nat → Nat} {n c s k : Nat} (h : ∀ c, c < n → x c s ≤ k) (hc : c < n) : mxN x bx n c s ≤ k := by
  have h1 := gmN_le (x := x) (bx := bx) (b := bx c) (s := s) n h
  have h2 := h c hc
  unfold mxN
  split <;> omega
def bxN (v : Nat → Nat) (c : Nat) : Nat := v (194 + 10 * c + 1)
def wetN (v : Nat → Nat) (b : Bool) : Nat := if b = true ∨ rnN v (v 144 + 1) (v 5) ≠ 0 then 2 else 0
def pnN (v : Nat → Nat) (wet : Nat) : Nat → Nat := fun j =>
  if j = 144 then v 144 + 1
  else if 145 ≤ j ∧ j < 151 then whN v (j - 145) (v 144 + 1) (v 4)
  else if 157 ≤ j ∧ j < 193 then (if (j - 157) / 6 < v 3 ∧ (j - 157) % 6 < v 0 then hrN v ((j - 157) / 6) (v 144 + 1) wet (whN v (weN v ((j - 157) / 6) 0 (v 3) - 1) (v 144 + 1) (v 4)) (v j) ((j - 157) % 6) else v j)
  else if 194 ≤ j ∧ j < 274 ∧ (j - 194) / 10 < v 193 ∧ 4 ≤ (j - 194) % 10 ∧ (j - 194) % 10 - 4 < v 0 then mxN (clP v (v 144 + 1)) (bxN v) (v 193) ((j - 194) / 10) ((j - 194) % 10 - 4)
  else v j
theorem pnN_144 {v : Nat → Nat} {wet : Nat} : pnN v wet 144 = v 144 + 1 := rfl
theorem pnN_wh {v : Nat → Nat} {wet w : Nat} (hw : w < 6) : pnN v wet (145 + w) = whN v w (v 144 + 1) (v 4) := by
  unfold pnN
  rw [if_neg (by omega), if_pos (by omega), Nat.add_sub_cancel_left]
theorem pnN_ct {v : Nat → Nat} {wet c s : Nat} (hc : c < v 3) (h3 : v 3 ≤ 6) (hs : s < v 0) (h0 : v 0 ≤ 6) : pnN v wet (157 + 6 * c + s) = hrN v c (v 144 + 1) wet (whN v (weN v c 0 (v 3) - 1) (v 144 + 1) (v 4)) (v (157 + 6 * c + s)) s := by
  unfold pnN
  have e1 : (157 + 6 * c + s - 157) / 6 = c := by omega
  have e2 : (157 + 6 * c + s - 157) % 6 = s := by omega
  rw [if_neg (by omega), if_neg (by omega), if_pos (by omega), e1, e2, if_pos ⟨hc, hs⟩]
theorem pnN_cto {v : Nat → Nat} {wet c s : Nat} (h : v 3 ≤ c ∨ v 0 ≤ s) (hc : c < 6) (hs : s < 6) : pnN v wet (157 + 6 * c + s) = v (157 + 6 * c + s) := by
  unfold pnN
  have e1 : (157 + 6 * c + s - 157) / 6 = c := by omega
  have e2 : (157 + 6 * c + s - 157) % 6 = s := by omega
  rw [if_neg (by omega), if_neg (by omega), if_pos (by omega), e1, e2, if_neg (by omega)]
theorem pnN_cl {v : Nat → Nat} {wet c s : Nat} (hc : c < v 193) (h8 : v 193 ≤ 8) (hs : s < v 0) (h0 : v 0 ≤ 6) : pnN v wet (194 + 10 * c + 4 + s) = mxN (clP v (v 144 + 1)) (bxN v) (v 193) c s := by
  unfold pnN
  have e1 : (194 + 10 * c + 4 + s - 194) / 10 = c := by omega
  have e2 : (194 + 10 * c + 4 + s - 194) % 10 = 4 + s := by omega
  rw [if_neg (by omega), if_neg (by omega), if_neg (by omega), e1, e2, if_pos (by omega), Nat.add_sub_cancel_left]
theorem pnN_clo {v : Nat → Nat} {wet c s : Nat} (h : v 193 ≤ c ∨ v 0 ≤ s) (hc : c < 8) (hs : s < 6) : pnN v wet (194 + 10 * c + 4 + s) = v (194 + 10 * c + 4 + s) := by
  unfold pnN
  have e1 : (194 + 10 * c + 4 + s - 194) / 10 = c := by omega
  have e2 : (194 + 10 * c + 4 + s - 194) % 10 = 4 + s := by omega
  rw [if_neg (by omega), if_neg (by omega), if_neg (by omega), e1, e2, if_neg (by omega)]
theorem pnN_o {v : Nat → Nat} {wet j : Nat} (h : j < 144 ∨ (151 ≤ j ∧ j < 157) ∨ j = 193 ∨ 274 ≤ j) : pnN v wet j = v j := by
  unfold pnN
  rw [if_neg (by omega), if_neg (by omega), if_neg (by omega), if_neg (by omega)]
theorem pnN_ci {v : Nat → Nat} {wet c z : Nat} (hc : c < 8) (hz : z < 4) : pnN v wet (194 + 10 * c + z) = v (194 + 10 * c + z) := by
  unfold pnN
  rw [if_neg (by omega), if_neg (by omega), if_neg (by omega), if_neg (by omega)]
theorem pnN_ok {v : Nat → Nat} {wet : Nat} (hO : HOK v) (hS : SOK v) (h : v 144 < 999) : SOK (pnN v wet) := by
  obtain ⟨⟨b0, b1, b2, b3, b4, b5⟩, hf, -⟩ := id hO
  obtain ⟨a1, a2, a3, a4, a5, a6, a7⟩ := id hS
  have e3 : pnN v wet 3 = v 3 := pnN_o (by omega)
  have e1 : pnN v wet 1 = v 1 := pnN_o (by omega)
  have e0 : pnN v wet 0 = v 0 := pnN_o (by omega)
  have e93 : pnN v wet 193 = v 193 := pnN_o (by omega)
  refine ⟨by rw [pnN_144]; omega, fun w hw => ?_, fun w x hw hx => ?_, fun c s hc hs => ?_, by rw [e93]; exact a5, fun c hc => ?_, fun c s hc hs => ?_⟩
  · rw [e3] at hw ⊢
    rw [e1, pnN_wh (by omega), pnN_o (by omega)]
    exact ⟨whN_lt hO hS hw, (a2 w hw).2⟩
  · rw [e3] at hw hx
    rw [pnN_o (by omega), pnN_o (by omega)]
    exact a3 w x hw hx
  · rw [e0]
    by_cases h1 : v 3 ≤ c ∨ v 0 ≤ s
    · rw [pnN_cto h1 hc hs]
      exact a4 c s hc hs
    · rw [pnN_ct (by omega) b3 (by omega) b0]
      exact ⟨capN_le _, fun q => absurd q (by omega)⟩
  · rw [e93] at hc
    have h2 := a6 c hc
    have h3 := pnN_ci (v := v) (wet := wet) (show c < 8 by omega) (show 0 < 4 by decide)
    rw [Nat.add_zero] at h3
    rw [e3, h3, pnN_ci (by omega) (by decide), pnN_ci (by omega) (by decide), pnN_ci (by omega) (by decide), pnN_o (by omega)]
    exact h2
  · rw [e93] at hc
    rw [e0]
    by_cases h1 : v 0 ≤ s
    · rw [pnN_clo (.inr h1) (by omega) hs]
      exact a7 c s hc hs
    · rw [pnN_cl hc a5 (by omega) b0]
      refine ⟨mxN_le (fun d hd => ?_) hc, fun q => absurd q h1⟩
      have := (a7 d s hd hs).1
      unfold clP
      omega
/-! who wears what: each coat has one who wears it -/
def sjOK (L : List Nat) (n : Nat) : Bool := allB n (fun c => L.contains c)
theorem sj_0 : sjOK [] 0 = true := by decide +kernel
theorem sj_1 : (allB 1 (fun a => sjOK [a] 1)) = true := by decide +kernel
theorem sj_2 : (allB 2 (fun a => allB 2 (fun b => b == a || (sjOK [a, b] 2)))) = true := by decide +kernel
theorem sj_3 : (allB 3 (fun a => allB 3 (fun b => b == a || (allB 3 (fun c => c == a || (c == b || (sjOK [a, b, c] 3))))))) = true := by decide +kernel
theorem sj_4 : (allB 4 (fun a => allB 4 (fun b => b == a || (allB 4 (fun c => c == a || (c == b || (allB 4 (fun d => d == a || (d == b || (d == c || (sjOK [a, b, c, d] 4))))))))))) = true := by decide +kernel
theorem sj_5 : (allB 5 (fun a => allB 5 (fun b => b == a || (allB 5 (fun c => c == a || (c == b || (allB 5 (fun d => d == a || (d == b || (d == c || (allB 5 (fun e => e == a || (e == b || (e == c || (e == d || (sjOK [a, b, c, d, e] 5)))))))))))))))) = true := by decide +kernel
theorem sj_6 : (allB 6 (fun a => allB 6 (fun b => b == a || (allB 6 (fun c => c == a || (c == b || (allB 6 (fun d => d == a || (d == b || (d == c || (allB 6 (fun e => e == a || (e == b || (e == c || (e == d || (allB 6 (fun f => f == a || (f == b || (f == c || (f == d || (f == e || (sjOK [a, b, c, d, e, f] 6)))))))))))))))))))))) = true := by decide +kernel
theorem sj_all {f : Nat → Nat} {n : Nat} (hn : n ≤ 6) (h1 : ∀ w, w < n → f w < n) (h2 : ∀ w x, w < n → x < n → f w = f x → w = x) : sjOK ((List.range n).map f) n = true := by
  have ne : ∀ w x, w < n → x < n → w ≠ x → f w ≠ f x := fun w x hw hx h q => h (h2 w x hw hx q)
  rcases (show n = 0 ∨ n = 1 ∨ n = 2 ∨ n = 3 ∨ n = 4 ∨ n = 5 ∨ n = 6 by omega) with rfl | rfl | rfl | rfl | rfl | rfl | rfl
  · exact sj_0
  · have q0 := sj_1
    have q1 := allB_get q0 (h1 0 (by decide))
    exact q1
  · have q0 := sj_2
    have q1 := allB_get q0 (h1 0 (by decide))
    have q2 := allB_get q1 (h1 1 (by decide))
    have q3 := or_get q2 (ne 1 0 (by decide) (by decide) (by decide))
    exact q3
  · have q0 := sj_3
    have q1 := allB_get q0 (h1 0 (by decide))
    have q2 := allB_get q1 (h1 1 (by decide))
    have q3 := or_get q2 (ne 1 0 (by decide) (by decide) (by decide))
    have q4 := allB_get q3 (h1 2 (by decide))
    have q5 := or_get q4 (ne 2 0 (by decide) (by decide) (by decide))
    have q6 := or_get q5 (ne 2 1 (by decide) (by decide) (by decide))
    exact q6
  · have q0 := sj_4
    have q1 := allB_get q0 (h1 0 (by decide))
    have q2 := allB_get q1 (h1 1 (by decide))
    have q3 := or_get q2 (ne 1 0 (by decide) (by decide) (by decide))
    have q4 := allB_get q3 (h1 2 (by decide))
    have q5 := or_get q4 (ne 2 0 (by decide) (by decide) (by decide))
    have q6 := or_get q5 (ne 2 1 (by decide) (by decide) (by decide))
    have q7 := allB_get q6 (h1 3 (by decide))
    have q8 := or_get q7 (ne 3 0 (by decide) (by decide) (by decide))
    have q9 := or_get q8 (ne 3 1 (by decide) (by decide) (by decide))
    have q10 := or_get q9 (ne 3 2 (by decide) (by decide) (by decide))
    exact q10
  · have q0 := sj_5
    have q1 := allB_get q0 (h1 0 (by decide))
    have q2 := allB_get q1 (h1 1 (by decide))
    have q3 := or_get q2 (ne 1 0 (by decide) (by decide) (by decide))
    have q4 := allB_get q3 (h1 2 (by decide))
    have q5 := or_get q4 (ne 2 0 (by decide) (by decide) (by decide))
    have q6 := or_get q5 (ne 2 1 (by decide) (by decide) (by decide))
    have q7 := allB_get q6 (h1 3 (by decide))
    have q8 := or_get q7 (ne 3 0 (by decide) (by decide) (by decide))
    have q9 := or_get q8 (ne 3 1 (by decide) (by decide) (by decide))
    have q10 := or_get q9 (ne 3 2 (by decide) (by decide) (by decide))
    have q11 := allB_get q10 (h1 4 (by decide))
    have q12 := or_get q11 (ne 4 0 (by decide) (by decide) (by decide))
    have q13 := or_get q12 (ne 4 1 (by decide) (by decide) (by decide))
    have q14 := or_get q13 (ne 4 2 (by decide) (by decide) (by decide))
    have q15 := or_get q14 (ne 4 3 (by decide) (by decide) (by decide))
    exact q15
  · have q0 := sj_6
    have q1 := allB_get q0 (h1 0 (by decide))
    have q2 := allB_get q1 (h1 1 (by decide))
    have q3 := or_get q2 (ne 1 0 (by decide) (by decide) (by decide))
    have q4 := allB_get q3 (h1 2 (by decide))
    have q5 := or_get q4 (ne 2 0 (by decide) (by decide) (by decide))
    have q6 := or_get q5 (ne 2 1 (by decide) (by decide) (by decide))
    have q7 := allB_get q6 (h1 3 (by decide))
    have q8 := or_get q7 (ne 3 0 (by decide) (by decide) (by decide))
    have q9 := or_get q8 (ne 3 1 (by decide) (by decide) (by decide))
    have q10 := or_get q9 (ne 3 2 (by decide) (by decide) (by decide))
    have q11 := allB_get q10 (h1 4 (by decide))
    have q12 := or_get q11 (ne 4 0 (by decide) (by decide) (by decide))
    have q13 := or_get q12 (ne 4 1 (by decide) (by decide) (by decide))
    have q14 := or_get q13 (ne 4 2 (by decide) (by decide) (by decide))
    have q15 := or_get q14 (ne 4 3 (by decide) (by decide) (by decide))
    have q16 := allB_get q15 (h1 5 (by decide))
    have q17 := or_get q16 (ne 5 0 (by decide) (by decide) (by decide))
    have q18 := or_get q17 (ne 5 1 (by decide) (by decide) (by decide))
    have q19 := or_get q18 (ne 5 2 (by decide) (by decide) (by decide))
    have q20 := or_get q19 (ne 5 3 (by decide) (by decide) (by decide))
    have q21 := or_get q20 (ne 5 4 (by decide) (by decide) (by decide))
    exact q21
theorem we_some {v : Nat → Nat} (hO : HOK v) (hS : SOK v) {c : Nat} (hc : c < v 3) : weN v c 0 (v 3) ≠ 0 ∧ weN v c 0 (v 3) ≤ v 3 := by
  have h1 := sj_all (f := fun w => v (151 + w)) hO.1.2.2.2.1 (fun w hw => (hS.2.1 w hw).2) hS.2.2.1
  have h2 := allB_get h1 hc
  have h3 := List.contains_iff_mem.mp h2
  obtain ⟨w, hw, h4⟩ := List.mem_map.mp h3
  have h5 := List.mem_range.mp hw
  refine ⟨weN_some v c (v 3) 0 w (Nat.zero_le _) (by omega) h4, ?_⟩
  have := weN_le v c (v 3) 0
  omega
theorem we_of {v : Nat → Nat} (hS : SOK v) {w : Nat} (hw : w < v 3) : weN v (v (151 + w)) 0 (v 3) = w + 1 := by
  have h1 := weN_some v (v (151 + w)) (v 3) 0 w (Nat.zero_le _) (by omega) rfl
  have h2 := weN_wears v (v (151 + w)) (v 3) 0 h1
  have h3 := weN_le v (v (151 + w)) (v 3) 0
  have h4 := hS.2.2.1 _ w (by omega) hw h2
  omega
