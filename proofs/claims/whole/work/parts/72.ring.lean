/-! sets as bits -/
theorem bt_has : ∀ s, s < 256 → ∀ k, k < 8 → (shr32 (oo s) (oo k)) &&& oo 1 = oo (if s.testBit k then 1 else 0) := by decide +kernel
theorem bt_or : ∀ s, s < 256 → ∀ k, k < 8 → oo s ||| shl32 (oo 1) (oo k) = oo (s ||| 2 ^ k) := by decide +kernel
theorem bt_lt : ∀ s, s < 256 → ∀ k, k < 8 → s ||| 2 ^ k < 256 := by decide +kernel
theorem bt_t {s k : Nat} (hs : s < 256) (hk : k < 8) (h : s.testBit k = true) : t_X12_has (oo s) (oo k) = true := by
  unfold t_X12_has
  rw [show (1 : Int32) = oo 1 from rfl, bt_has s hs k hk, if_pos (by rw [if_pos h])]
theorem bt_f {s k : Nat} (hs : s < 256) (hk : k < 8) (h : ¬ s.testBit k = true) : t_X12_has (oo s) (oo k) = false := by
  unfold t_X12_has
  rw [show (1 : Int32) = oo 1 from rfl, bt_has s hs k hk, if_neg (by rw [if_neg h]; decide)]
/-! strangers -/
def stC (L : List Nat) (w : Nat) : Nat → Nat → Nat → Nat → Nat × Nat
  | 0, ch, seen, _ => (ch, seen)
  | n + 1, ch, seen, q => if seen.testBit q then (ch, seen) else stC L w n (if L.getD q 0 = w then ch else ch + 1) (seen ||| 2 ^ q) (L.getD q 0)
def stCs (L : List Nat) : Nat → Nat → Nat → Nat → Nat
  | 0, _, ch, _ => ch
  | m + 1, w, ch, seen => stCs L m (w + 1) (stC L w 6 ch seen w).1 (stC L w 6 ch seen w).2
def stR (L : List Nat) : Nat → Nat → Nat → Option Nat
  | 0, _, _ => none
  | n + 1, seen, q => if seen.testBit q then some seen else stR L n (seen ||| 2 ^ q) (L.getD q 0)
def stRs (L : List Nat) : Nat → Nat → Nat → Nat → Option Nat
  | 0, _, r, _ => some r
  | m + 1, w, r, seen => if seen.testBit w then stRs L m (w + 1) r seen else (stR L 7 seen w).bind (fun s => stRs L m (w + 1) (r + 1) s)
def stOK (L : List Nat) (n : Nat) : Bool := match stRs L n 0 0 0 with
  | some r => decide (r ≤ n) && decide (stCs L n 0 0 0 = n - r)
  | none => false
def allB (n : Nat) (p : Nat → Bool) : Bool := (List.range n).all p
theorem allB_get {n a : Nat} {p : Nat → Bool} (h : allB n p = true) (ha : a < n) : p a = true := List.all_eq_true.mp h a (List.mem_range.mpr ha)
theorem or_get {a b : Nat} {y : Bool} (h : (a == b || y) = true) (hn : a ≠ b) : y = true := by
  rw [Bool.or_eq_true] at h
  rcases h with h | h
  · exact absurd (by simpa using h) hn
  · exact h
theorem st_0 : stOK [] 0 = true := by decide +kernel
theorem st_1 : (allB 1 (fun a => stOK [a] 1)) = true := by decide +kernel
theorem st_2 : (allB 2 (fun a => allB 2 (fun b => b == a || (stOK [a, b] 2)))) = true := by decide +kernel
theorem st_3 : (allB 3 (fun a => allB 3 (fun b => b == a || (allB 3 (fun c => c == a || (c == b || (stOK [a, b, c] 3))))))) = true := by decide +kernel
theorem st_4 : (allB 4 (fun a => allB 4 (fun b => b == a || (allB 4 (fun c => c == a || (c == b || (allB 4 (fun d => d == a || (d == b || (d == c || (stOK [a, b, c, d] 4))))))))))) = true := by decide +kernel
theorem st_5 : (allB 5 (fun a => allB 5 (fun b => b == a || (allB 5 (fun c => c == a || (c == b || (allB 5 (fun d => d == a || (d == b || (d == c || (allB 5 (fun e => e == a || (e == b || (e == c || (e == d || (stOK [a, b, c, d, e] 5)))))))))))))))) = true := by decide +kernel
theorem st_6 : (allB 6 (fun a => allB 6 (fun b => b == a || (allB 6 (fun c => c == a || (c == b || (allB 6 (fun d => d == a || (d == b || (d == c || (allB 6 (fun e => e == a || (e == b || (e == c || (e == d || (allB 6 (fun f => f == a || (f == b || (f == c || (f == d || (f == e || (stOK [a, b, c, d, e, f] 6)))))))))))))))))))))) = true := by decide +kernel
theorem st_all {f : Nat → Nat} {n : Nat} (hn : n ≤ 6) (h1 : ∀ w, w < n → f w < n) (h2 : ∀ w x, w < n → x < n → f w = f x → w = x) : stOK ((List.range n).map f) n = true := by
  have ne : ∀ w x, w < n → x < n → w ≠ x → f w ≠ f x := fun w x hw hx h q => h (h2 w x hw hx q)
  rcases (show n = 0 ∨ n = 1 ∨ n = 2 ∨ n = 3 ∨ n = 4 ∨ n = 5 ∨ n = 6 by omega) with rfl | rfl | rfl | rfl | rfl | rfl | rfl
  · exact st_0
  · have q0 := st_1
    have q1 := allB_get q0 (h1 0 (by decide))
    exact q1
  · have q0 := st_2
    have q1 := allB_get q0 (h1 0 (by decide))
    have q2 := allB_get q1 (h1 1 (by decide))
    have q3 := or_get q2 (ne 1 0 (by decide) (by decide) (by decide))
    exact q3
  · have q0 := st_3
    have q1 := allB_get q0 (h1 0 (by decide))
    have q2 := allB_get q1 (h1 1 (by decide))
    have q3 := or_get q2 (ne 1 0 (by decide) (by decide) (by decide))
    have q4 := allB_get q3 (h1 2 (by decide))
    have q5 := or_get q4 (ne 2 0 (by decide) (by decide) (by decide))
    have q6 := or_get q5 (ne 2 1 (by decide) (by decide) (by decide))
    exact q6
  · have q0 := st_4
    have q1 := allB_get q0 (h1 0 (by decide))
    have q2 := allB_get q1 (h1 1 (by decide))
    have q3 := or_get q2 (ne 1 0 (by decide) (by decide) (by decide))
    have q4 := allB_get q3 (h1 2 (by decide))
    have q5 := or_get q4 (ne 2 0 (by decide) (by decide) (by decide))
    have q6 := or_get q5 (ne 2 1 (by decide) (by decide) (by decide))
    have q7 := allB_get q6 (h1 3 (by decide))
    have q8 := or_get q7 (ne 3 0 (by decide) (by decide) (by decide))
    have q9 := or_get q8 (ne 3 1 (by decide) (by decide) (by decide))
    have q10 := or_get q9 (ne 3 2 (by decide) (by decide) (by decide))
    exact q10
  · have q0 := st_5
    have q1 := allB_get q0 (h1 0 (by decide))
    have q2 := allB_get q1 (h1 1 (by decide))
    have q3 := or_get q2 (ne 1 0 (by decide) (by decide) (by decide))
    have q4 := allB_get q3 (h1 2 (by decide))
    have q5 := or_get q4 (ne 2 0 (by decide) (by decide) (by decide))
    have q6 := or_get q5 (ne 2 1 (by decide) (by decide) (by decide))
    have q7 := allB_get q6 (h1 3 (by decide))
    have q8 := or_get q7 (ne 3 0 (by decide) (by decide) (by decide))
    have q9 := or_get q8 (ne 3 1 (by decide) (by decide) (by decide))
    have q10 := or_get q9 (ne 3 2 (by decide) (by decide) (by decide))
    have q11 := allB_get q10 (h1 4 (by decide))
    have q12 := or_get q11 (ne 4 0 (by decide) (by decide) (by decide))
    have q13 := or_get q12 (ne 4 1 (by decide) (by decide) (by decide))
    have q14 := or_get q13 (ne 4 2 (by decide) (by decide) (by decide))
    have q15 := or_get q14 (ne 4 3 (by decide) (by decide) (by decide))
    exact q15
  · have q0 := st_6
    have q1 := allB_get q0 (h1 0 (by decide))
    have q2 := allB_get q1 (h1 1 (by decide))
    have q3 := or_get q2 (ne 1 0 (by decide) (by decide) (by decide))
    have q4 := allB_get q3 (h1 2 (by decide))
    have q5 := or_get q4 (ne 2 0 (by decide) (by decide) (by decide))
    have q6 := or_get q5 (ne 2 1 (by decide) (by decide) (by decide))
    have q7 := allB_get q6 (h1 3 (by decide))
    have q8 := or_get q7 (ne 3 0 (by decide) (by decide) (by decide))
    have q9 := or_get q8 (ne 3 1 (by decide) (by decide) (by decide))
    have q10 := or_get q9 (ne 3 2 (by decide) (by decide) (by decide))
    have q11 := allB_get q10 (h1 4 (by decide))
    have q12 := or_get q11 (ne 4 0 (by decide) (by decide) (by decide))
    have q13 := or_get q12 (ne 4 1 (by decide) (by decide) (by decide))
    have q14 := or_get q13 (ne 4 2 (by decide) (by decide) (by decide))
    have q15 := or_get q14 (ne 4 3 (by decide) (by decide) (by decide))
    have q16 := allB_get q15 (h1 5 (by decide))
    have q17 := or_get q16 (ne 5 0 (by decide) (by decide) (by decide))
    have q18 := or_get q17 (ne 5 1 (by decide) (by decide) (by decide))
    have q19 := or_get q18 (ne 5 2 (by decide) (by decide) (by decide))
    have q20 := or_get q19 (ne 5 3 (by decide) (by decide) (by decide))
    have q21 := or_get q20 (ne 5 4 (by decide) (by decide) (by decide))
    exact q21
section ST
variable {S : XS} {v : Nat → Nat} {L : List Nat} {N : Nat}
theorem stC_b (hL : ∀ k, k < N → L.getD k 0 = v (151 + k) ∧ v (151 + k) < N) (hN6 : N ≤ 6) {w : Nat} : ∀ m ch seen q, seen < 256 → q < N → (stC L w m ch seen q).1 ≤ ch + m ∧ (stC L w m ch seen q).2 < 256 := by
  intro m
  induction m with
  | zero => intro ch seen q h1 h2; exact ⟨Nat.le_refl _, h1⟩
  | succ m ih =>
    intro ch seen q h1 h2
    rw [stC]
    split
    · exact ⟨by show ch ≤ _; omega, h1⟩
    · obtain ⟨g1, g2⟩ := hL q h2
      obtain ⟨i1, i2⟩ := ih (if L.getD q 0 = w then ch else ch + 1) (seen ||| 2 ^ q) (L.getD q 0) (bt_lt seen h1 q (by omega)) (by rw [g1]; exact g2)
      refine ⟨?_, i2⟩
      split at i1 <;> rename_i h5
      · rw [if_pos h5]; omega
      · rw [if_neg h5]; omega
theorem stC_x (hW : IsWd S 28 v) (hL : ∀ k, k < N → L.getD k 0 = v (151 + k) ∧ v (151 + k) < N) (hN6 : N ≤ 6) {w : Nat} (hw : w < 6) : ∀ m k n ch seen q, k + m = 6 → m < n → ch + m < 1000 → seen < 256 → q < N → f_X11_strangers_L27 (oo w) 0 n (oo ch) (oo seen) (oo q) (oo k) S = some (oo (stC L w m ch seen q).1, oo (stC L w m ch seen q).2) := by
  intro m
  induction m with
  | zero =>
    intro k n ch seen q hk hn h1 h2 h3
    obtain ⟨n, rfl⟩ : ∃ n', n = n' + 1 := ⟨n - 1, by omega⟩
    simp (disch := omega) only [f_X11_strangers_L27, ↓oo_m1, oo_0, oo_1, oo_2, oo_3, oo_4, oo_5, oo_6, oo_7, oo_8, oo_9, oo_10, oo_12, oo_13, oo_14, oo_15, oo_16, oo_17, oo_18, oo_20, oo_24, oo_30, oo_32, oo_36, oo_40, oo_41, oo_48, oo_50, oo_57, oo_59, oo_60, oo_61, oo_62, oo_63, oo_64, oo_66, oo_72, oo_78, oo_96, oo_97, oo_99, oo_100, oo_101, oo_105, oo_107, oo_108, oo_109, oo_110, oo_111, oo_112, oo_114, oo_115, oo_116, oo_117, oo_119, oo_122, oo_128, oo_130, oo_134, oo_135, oo_136, oo_137, oo_138, oo_139, oo_140, oo_141, oo_142, oo_143, oo_144, oo_145, oo_151, oo_157, oo_194, oo_200, oo_240, oo_255, oo_256, oo_274, oo_276, oo_300, oo_516, oo_900, oo_940, oo_941, oo_999, oo_1000, oo_1040, oo_10000, oo_add, oo_mul, oo_sub, oo_lt, oo_le, oo_eq, oo_nat, oo_div, oo_rem, oo_nn, nn_oo, oo_nnlt, nn_oolt, oo_nnle, nn_oole, ↓reduceIte, if_pos, if_neg, or_false, false_or, or_true, true_or, and_true, true_and, and_false, false_and, not_true_eq_false, not_false_eq_true, Nat.not_lt_zero, Bool.false_eq_true, Bool.true_eq_false, sI_same, sI_place, sI_cell, sI_long, sL_int, sL_same, sL_place, sL_cell, Option.bind_some, Option.bind_none, rf_0_0, rf_0_1, rf_0_2, rf_0_3, rf_0_4, rf_0_5, rf_0_6, rf_0_7, rf_0_10, rf_0_11, rf_0_12, rf_0_13, rf_0_14, rf_0_15, rf_0_16, rf_0_17, rf_0_18, rf_1_0, rf_1_4, rf_1_5, rf_1_6, rf_1_7, rf_7_0, rf_7_1, rf_7_2, rf_7_3, rf_7_4, rf_7_5, rf_7_6, rf_7_7, rf_28_1, rf_28_2, rf_28_3, rf_28_5, rf_28_6, rf_28_7, rf_28_8, rf_188_1, rf_188_14, rf_188_15, rf_188_16, rf_188_17, rf_188_18, rf_188_19, rf_188_20, rf_188_21, rf_188_22, rf_188_24, rf_188_25, rf_188_26, rf_188_27, rf_188_28, rf_188_31, rf_188_32, rf_188_34, rf_188_35, rf_188_36, rf_188_37, rf_188_38, rf_188_42, rf_188_43, rf_188_51, rf_188_52, rf_188_53, rf_188_55, ln_190, stC]
  | succ m ih =>
    intro k n ch seen q hk hn h1 h2 h3
    obtain ⟨n, rfl⟩ : ∃ n', n = n' + 1 := ⟨n - 1, by omega⟩
    obtain ⟨g1, g2⟩ := hL q h3
    have hb := bt_has seen h2 q (by omega)
    have ho := bt_or seen h2 q (by omega)
    have hl := bt_lt seen h2 q (by omega)
    have gg : gat S 30 (oo q) = oo (v (151 + q)) := by rw [g_30 (by omega), hW.wn q (by omega)]
    rw [stC]
    by_cases h4 : seen.testBit q = true
    · rw [if_pos h4]
      rw [if_pos h4] at hb
      simp (disch := omega) only [f_X11_strangers_L27, ↓oo_m1, oo_0, oo_1, oo_2, oo_3, oo_4, oo_5, oo_6, oo_7, oo_8, oo_9, oo_10, oo_12, oo_13, oo_14, oo_15, oo_16, oo_17, oo_18, oo_20, oo_24, oo_30, oo_32, oo_36, oo_40, oo_41, oo_48, oo_50, oo_57, oo_59, oo_60, oo_61, oo_62, oo_63, oo_64, oo_66, oo_72, oo_78, oo_96, oo_97, oo_99, oo_100, oo_101, oo_105, oo_107, oo_108, oo_109, oo_110, oo_111, oo_112, oo_114, oo_115, oo_116, oo_117, oo_119, oo_122, oo_128, oo_130, oo_134, oo_135, oo_136, oo_137, oo_138, oo_139, oo_140, oo_141, oo_142, oo_143, oo_144, oo_145, oo_151, oo_157, oo_194, oo_200, oo_240, oo_255, oo_256, oo_274, oo_276, oo_300, oo_516, oo_900, oo_940, oo_941, oo_999, oo_1000, oo_1040, oo_10000, oo_add, oo_mul, oo_sub, oo_lt, oo_le, oo_eq, oo_nat, oo_div, oo_rem, oo_nn, nn_oo, oo_nnlt, nn_oolt, oo_nnle, nn_oole, ↓reduceIte, if_pos, if_neg, or_false, false_or, or_true, true_or, and_true, true_and, and_false, false_and, not_true_eq_false, not_false_eq_true, Nat.not_lt_zero, Bool.false_eq_true, Bool.true_eq_false, rf_0_0, rf_0_1, rf_0_2, rf_0_3, rf_0_4, rf_0_5, rf_0_6, rf_0_7, rf_0_10, rf_0_11, rf_0_12, rf_0_13, rf_0_14, rf_0_15, rf_0_16, rf_0_17, rf_0_18, rf_28_1, rf_28_2, rf_28_3, rf_28_5, rf_28_6, rf_28_7, rf_28_8, hb, gg]
    · rw [if_neg h4]
      rw [if_neg h4] at hb
      rw [g1]
      by_cases h5 : v (151 + q) = w
      · rw [if_pos h5]
        simp (disch := omega) only [f_X11_strangers_L27, ↓oo_m1, oo_0, oo_1, oo_2, oo_3, oo_4, oo_5, oo_6, oo_7, oo_8, oo_9, oo_10, oo_12, oo_13, oo_14, oo_15, oo_16, oo_17, oo_18, oo_20, oo_24, oo_30, oo_32, oo_36, oo_40, oo_41, oo_48, oo_50, oo_57, oo_59, oo_60, oo_61, oo_62, oo_63, oo_64, oo_66, oo_72, oo_78, oo_96, oo_97, oo_99, oo_100, oo_101, oo_105, oo_107, oo_108, oo_109, oo_110, oo_111, oo_112, oo_114, oo_115, oo_116, oo_117, oo_119, oo_122, oo_128, oo_130, oo_134, oo_135, oo_136, oo_137, oo_138, oo_139, oo_140, oo_141, oo_142, oo_143, oo_144, oo_145, oo_151, oo_157, oo_194, oo_200, oo_240, oo_255, oo_256, oo_274, oo_276, oo_300, oo_516, oo_900, oo_940, oo_941, oo_999, oo_1000, oo_1040, oo_10000, oo_add, oo_mul, oo_sub, oo_lt, oo_le, oo_eq, oo_nat, oo_div, oo_rem, oo_nn, nn_oo, oo_nnlt, nn_oolt, oo_nnle, nn_oole, ↓reduceIte, if_pos, if_neg, or_false, false_or, or_true, true_or, and_true, true_and, and_false, false_and, not_true_eq_false, not_false_eq_true, Nat.not_lt_zero, Bool.false_eq_true, Bool.true_eq_false, rf_0_0, rf_0_1, rf_0_2, rf_0_3, rf_0_4, rf_0_5, rf_0_6, rf_0_7, rf_0_10, rf_0_11, rf_0_12, rf_0_13, rf_0_14, rf_0_15, rf_0_16, rf_0_17, rf_0_18, rf_28_1, rf_28_2, rf_28_3, rf_28_5, rf_28_6, rf_28_7, rf_28_8, hb, gg, ho, Nat.add_zero]
        exact ih (k + 1) n ch _ _ (by omega) (by omega) (by omega) hl g2
      · rw [if_neg h5]
        simp (disch := omega) only [f_X11_strangers_L27, ↓oo_m1, oo_0, oo_1, oo_2, oo_3, oo_4, oo_5, oo_6, oo_7, oo_8, oo_9, oo_10, oo_12, oo_13, oo_14, oo_15, oo_16, oo_17, oo_18, oo_20, oo_24, oo_30, oo_32, oo_36, oo_40, oo_41, oo_48, oo_50, oo_57, oo_59, oo_60, oo_61, oo_62, oo_63, oo_64, oo_66, oo_72, oo_78, oo_96, oo_97, oo_99, oo_100, oo_101, oo_105, oo_107, oo_108, oo_109, oo_110, oo_111, oo_112, oo_114, oo_115, oo_116, oo_117, oo_119, oo_122, oo_128, oo_130, oo_134, oo_135, oo_136, oo_137, oo_138, oo_139, oo_140, oo_141, oo_142, oo_143, oo_144, oo_145, oo_151, oo_157, oo_194, oo_200, oo_240, oo_255, oo_256, oo_274, oo_276, oo_300, oo_516, oo_900, oo_940, oo_941, oo_999, oo_1000, oo_1040, oo_10000, oo_add, oo_mul, oo_sub, oo_lt, oo_le, oo_eq, oo_nat, oo_div, oo_rem, oo_nn, nn_oo, oo_nnlt, nn_oolt, oo_nnle, nn_oole, ↓reduceIte, if_pos, if_neg, or_false, false_or, or_true, true_or, and_true, true_and, and_false, false_and, not_true_eq_false, not_false_eq_true, Nat.not_lt_zero, Bool.false_eq_true, Bool.true_eq_false, rf_0_0, rf_0_1, rf_0_2, rf_0_3, rf_0_4, rf_0_5, rf_0_6, rf_0_7, rf_0_10, rf_0_11, rf_0_12, rf_0_13, rf_0_14, rf_0_15, rf_0_16, rf_0_17, rf_0_18, rf_28_1, rf_28_2, rf_28_3, rf_28_5, rf_28_6, rf_28_7, rf_28_8, hb, gg, ho]
        exact ih (k + 1) n (ch + 1) _ _ (by omega) (by omega) (by omega) hl g2
theorem stCs_x (hH : IsHill S 7 v) (hW : IsWd S 28 v) (h36 : v 3 ≤ 6) (hL : ∀ k, k < v 3 → L.getD k 0 = v (151 + k) ∧ v (151 + k) < v 3) : ∀ m k n ch seen, k + m = v 3 → m < n → ch + 6 * m < 900 → seen < 256 → f_X11_strangers_L6 0 n (oo ch) (oo seen) (oo k) S = some (oo (stCs L m k ch seen)) := by
  intro m
  induction m with
  | zero =>
    intro k n ch seen hk hn h1 h2
    obtain ⟨n, rfl⟩ : ∃ n', n = n' + 1 := ⟨n - 1, by omega⟩
    simp (disch := omega) only [f_X11_strangers_L6, ↓oo_m1, oo_0, oo_1, oo_2, oo_3, oo_4, oo_5, oo_6, oo_7, oo_8, oo_9, oo_10, oo_12, oo_13, oo_14, oo_15, oo_16, oo_17, oo_18, oo_20, oo_24, oo_30, oo_32, oo_36, oo_40, oo_41, oo_48, oo_50, oo_57, oo_59, oo_60, oo_61, oo_62, oo_63, oo_64, oo_66, oo_72, oo_78, oo_96, oo_97, oo_99, oo_100, oo_101, oo_105, oo_107, oo_108, oo_109, oo_110, oo_111, oo_112, oo_114, oo_115, oo_116, oo_117, oo_119, oo_122, oo_128, oo_130, oo_134, oo_135, oo_136, oo_137, oo_138, oo_139, oo_140, oo_141, oo_142, oo_143, oo_144, oo_145, oo_151, oo_157, oo_194, oo_200, oo_240, oo_255, oo_256, oo_274, oo_276, oo_300, oo_516, oo_900, oo_940, oo_941, oo_999, oo_1000, oo_1040, oo_10000, oo_add, oo_mul, oo_sub, oo_lt, oo_le, oo_eq, oo_nat, oo_div, oo_rem, oo_nn, nn_oo, oo_nnlt, nn_oolt, oo_nnle, nn_oole, ↓reduceIte, if_pos, if_neg, or_false, false_or, or_true, true_or, and_true, true_and, and_false, false_and, not_true_eq_false, not_false_eq_true, Nat.not_lt_zero, Bool.false_eq_true, Bool.true_eq_false, sI_same, sI_place, sI_cell, sI_long, sL_int, sL_same, sL_place, sL_cell, Option.bind_some, Option.bind_none, rf_0_0, rf_0_1, rf_0_2, rf_0_3, rf_0_4, rf_0_5, rf_0_6, rf_0_7, rf_0_10, rf_0_11, rf_0_12, rf_0_13, rf_0_14, rf_0_15, rf_0_16, rf_0_17, rf_0_18, rf_1_0, rf_1_4, rf_1_5, rf_1_6, rf_1_7, rf_7_0, rf_7_1, rf_7_2, rf_7_3, rf_7_4, rf_7_5, rf_7_6, rf_7_7, rf_28_1, rf_28_2, rf_28_3, rf_28_5, rf_28_6, rf_28_7, rf_28_8, rf_188_1, rf_188_14, rf_188_15, rf_188_16, rf_188_17, rf_188_18, rf_188_19, rf_188_20, rf_188_21, rf_188_22, rf_188_24, rf_188_25, rf_188_26, rf_188_27, rf_188_28, rf_188_31, rf_188_32, rf_188_34, rf_188_35, rf_188_36, rf_188_37, rf_188_38, rf_188_42, rf_188_43, rf_188_51, rf_188_52, rf_188_53, rf_188_55, ln_190, g_8, p_8, hH.n2, stCs]
  | succ m ih =>
    intro k n ch seen hk hn h1 h2
    obtain ⟨n, rfl⟩ : ∃ n', n = n' + 1 := ⟨n - 1, by omega⟩
    have hx := stC_x hW hL h36 (show k < 6 by omega) 6 0 1000000 ch seen k rfl (by decide) (by omega) h2 (by omega)
    obtain ⟨b1, b2⟩ := stC_b hL h36 (w := k) 6 ch seen k h2 (by omega)
    have h5 := ih (k + 1) n (stC L k 6 ch seen k).1 (stC L k 6 ch seen k).2 (by omega) (by omega) (by omega) b2
    rw [stCs]
    simp (disch := omega) only [f_X11_strangers_L6, ↓oo_m1, oo_0, oo_1, oo_2, oo_3, oo_4, oo_5, oo_6, oo_7, oo_8, oo_9, oo_10, oo_12, oo_13, oo_14, oo_15, oo_16, oo_17, oo_18, oo_20, oo_24, oo_30, oo_32, oo_36, oo_40, oo_41, oo_48, oo_50, oo_57, oo_59, oo_60, oo_61, oo_62, oo_63, oo_64, oo_66, oo_72, oo_78, oo_96, oo_97, oo_99, oo_100, oo_101, oo_105, oo_107, oo_108, oo_109, oo_110, oo_111, oo_112, oo_114, oo_115, oo_116, oo_117, oo_119, oo_122, oo_128, oo_130, oo_134, oo_135, oo_136, oo_137, oo_138, oo_139, oo_140, oo_141, oo_142, oo_143, oo_144, oo_145, oo_151, oo_157, oo_194, oo_200, oo_240, oo_255, oo_256, oo_274, oo_276, oo_300, oo_516, oo_900, oo_940, oo_941, oo_999, oo_1000, oo_1040, oo_10000, oo_add, oo_mul, oo_sub, oo_lt, oo_le, oo_eq, oo_nat, oo_div, oo_rem, oo_nn, nn_oo, oo_nnlt, nn_oolt, oo_nnle, nn_oole, ↓reduceIte, if_pos, if_neg, or_false, false_or, or_true, true_or, and_true, true_and, and_false, false_and, not_true_eq_false, not_false_eq_true, Nat.not_lt_zero, Bool.false_eq_true, Bool.true_eq_false, rf_0_0, rf_0_1, rf_0_2, rf_0_3, rf_0_4, rf_0_5, rf_0_6, rf_0_7, rf_0_10, rf_0_11, rf_0_12, rf_0_13, rf_0_14, rf_0_15, rf_0_16, rf_0_17, rf_0_18, rf_7_0, rf_7_1, rf_7_2, rf_7_3, rf_7_4, rf_7_5, rf_7_6, rf_7_7, rf_28_1, rf_28_2, rf_28_3, rf_28_5, rf_28_6, rf_28_7, rf_28_8, g_8, p_8, Option.bind_some, Option.bind_none, hH.n2, hx]
    exact h5
theorem stR_b (hL : ∀ k, k < N → L.getD k 0 = v (151 + k) ∧ v (151 + k) < N) (hN6 : N ≤ 6) : ∀ m seen q s, seen < 256 → q < N → stR L m seen q = some s → s < 256 := by
  intro m
  induction m with
  | zero => intro seen q s h1 h2 h3; cases h3
  | succ m ih =>
    intro seen q s h1 h2 h3
    rw [stR] at h3
    split at h3
    · cases h3; exact h1
    · obtain ⟨g1, g2⟩ := hL q h2
      exact ih _ _ s (bt_lt seen h1 q (by omega)) (by rw [g1]; exact g2) h3
theorem stR_x (hN : IsC S 190 516 v) (hL : ∀ k, k < N → L.getD k 0 = v (151 + k) ∧ v (151 + k) < N) (hN6 : N ≤ 6) {x y : Int32} : ∀ m n seen q s, m ≤ n → seen < 256 → q < N → stR L m seen q = some s → f_X12_strangers_L38 x y 188 n (oo seen) (oo q) S = some (oo s) := by
  intro m
  induction m with
  | zero => intro n seen q s hn h1 h2 h3; cases h3
  | succ m ih =>
    intro n seen q s hn h1 h2 h3
    obtain ⟨n, rfl⟩ : ∃ n', n = n' + 1 := ⟨n - 1, by omega⟩
    obtain ⟨g1, g2⟩ := hL q h2
    have ho := bt_or seen h1 q (by omega)
    have hl := bt_lt seen h1 q (by omega)
    rw [stR] at h3
    by_cases h4 : seen.testBit q = true
    · rw [if_pos h4] at h3
      cases h3
      simp (disch := omega) only [f_X12_strangers_L38, ↓oo_m1, oo_0, oo_1, oo_2, oo_3, oo_4, oo_5, oo_6, oo_7, oo_8, oo_9, oo_10, oo_12, oo_13, oo_14, oo_15, oo_16, oo_17, oo_18, oo_20, oo_24, oo_30, oo_32, oo_36, oo_40, oo_41, oo_48, oo_50, oo_57, oo_59, oo_60, oo_61, oo_62, oo_63, oo_64, oo_66, oo_72, oo_78, oo_96, oo_97, oo_99, oo_100, oo_101, oo_105, oo_107, oo_108, oo_109, oo_110, oo_111, oo_112, oo_114, oo_115, oo_116, oo_117, oo_119, oo_122, oo_128, oo_130, oo_134, oo_135, oo_136, oo_137, oo_138, oo_139, oo_140, oo_141, oo_142, oo_143, oo_144, oo_145, oo_151, oo_157, oo_194, oo_200, oo_240, oo_255, oo_256, oo_274, oo_276, oo_300, oo_516, oo_900, oo_940, oo_941, oo_999, oo_1000, oo_1040, oo_10000, oo_add, oo_mul, oo_sub, oo_lt, oo_le, oo_eq, oo_nat, oo_div, oo_rem, oo_nn, nn_oo, oo_nnlt, nn_oolt, oo_nnle, nn_oole, ↓reduceIte, if_pos, if_neg, or_false, false_or, or_true, true_or, and_true, true_and, and_false, false_and, not_true_eq_false, not_false_eq_true, Nat.not_lt_zero, Bool.false_eq_true, Bool.true_eq_false, bt_t h1 (show q < 8 by omega) h4]
    · rw [if_neg h4, g1] at h3
      simp (disch := omega) only [f_X12_strangers_L38, ↓oo_m1, oo_0, oo_1, oo_2, oo_3, oo_4, oo_5, oo_6, oo_7, oo_8, oo_9, oo_10, oo_12, oo_13, oo_14, oo_15, oo_16, oo_17, oo_18, oo_20, oo_24, oo_30, oo_32, oo_36, oo_40, oo_41, oo_48, oo_50, oo_57, oo_59, oo_60, oo_61, oo_62, oo_63, oo_64, oo_66, oo_72, oo_78, oo_96, oo_97, oo_99, oo_100, oo_101, oo_105, oo_107, oo_108, oo_109, oo_110, oo_111, oo_112, oo_114, oo_115, oo_116, oo_117, oo_119, oo_122, oo_128, oo_130, oo_134, oo_135, oo_136, oo_137, oo_138, oo_139, oo_140, oo_141, oo_142, oo_143, oo_144, oo_145, oo_151, oo_157, oo_194, oo_200, oo_240, oo_255, oo_256, oo_274, oo_276, oo_300, oo_516, oo_900, oo_940, oo_941, oo_999, oo_1000, oo_1040, oo_10000, oo_add, oo_mul, oo_sub, oo_lt, oo_le, oo_eq, oo_nat, oo_div, oo_rem, oo_nn, nn_oo, oo_nnlt, nn_oolt, oo_nnle, nn_oole, ↓reduceIte, if_pos, if_neg, or_false, false_or, or_true, true_or, and_true, true_and, and_false, false_and, not_true_eq_false, not_false_eq_true, Nat.not_lt_zero, Bool.false_eq_true, Bool.true_eq_false, rf_188_1, rf_188_14, rf_188_15, rf_188_16, rf_188_17, rf_188_18, rf_188_19, rf_188_20, rf_188_21, rf_188_22, rf_188_24, rf_188_25, rf_188_26, rf_188_27, rf_188_28, rf_188_31, rf_188_32, rf_188_34, rf_188_35, rf_188_36, rf_188_37, rf_188_38, rf_188_42, rf_188_43, rf_188_51, rf_188_52, rf_188_53, rf_188_55, ln_190, bt_f h1 (show q < 8 by omega) h4, hN (151 + q), ho]
      exact ih n _ _ s (by omega) hl g2 h3
theorem stRs_x (hN : IsC S 190 516 v) (h36 : v 3 ≤ 6) (hL : ∀ k, k < v 3 → L.getD k 0 = v (151 + k) ∧ v (151 + k) < v 3) : ∀ m k n r seen z, k + m = v 3 → m < n → r ≤ k → seen < 256 → stRs L m k r seen = some z → f_X12_strangers_L11 188 n (oo r) (oo seen) (oo k) S = some (oo z) := by
  intro m
  induction m with
  | zero =>
    intro k n r seen z hk hn h1 h2 h3
    obtain ⟨n, rfl⟩ : ∃ n', n = n' + 1 := ⟨n - 1, by omega⟩
    cases h3
    simp (disch := omega) only [f_X12_strangers_L11, ↓oo_m1, oo_0, oo_1, oo_2, oo_3, oo_4, oo_5, oo_6, oo_7, oo_8, oo_9, oo_10, oo_12, oo_13, oo_14, oo_15, oo_16, oo_17, oo_18, oo_20, oo_24, oo_30, oo_32, oo_36, oo_40, oo_41, oo_48, oo_50, oo_57, oo_59, oo_60, oo_61, oo_62, oo_63, oo_64, oo_66, oo_72, oo_78, oo_96, oo_97, oo_99, oo_100, oo_101, oo_105, oo_107, oo_108, oo_109, oo_110, oo_111, oo_112, oo_114, oo_115, oo_116, oo_117, oo_119, oo_122, oo_128, oo_130, oo_134, oo_135, oo_136, oo_137, oo_138, oo_139, oo_140, oo_141, oo_142, oo_143, oo_144, oo_145, oo_151, oo_157, oo_194, oo_200, oo_240, oo_255, oo_256, oo_274, oo_276, oo_300, oo_516, oo_900, oo_940, oo_941, oo_999, oo_1000, oo_1040, oo_10000, oo_add, oo_mul, oo_sub, oo_lt, oo_le, oo_eq, oo_nat, oo_div, oo_rem, oo_nn, nn_oo, oo_nnlt, nn_oolt, oo_nnle, nn_oole, ↓reduceIte, if_pos, if_neg, or_false, false_or, or_true, true_or, and_true, true_and, and_false, false_and, not_true_eq_false, not_false_eq_true, Nat.not_lt_zero, Bool.false_eq_true, Bool.true_eq_false, sI_same, sI_place, sI_cell, sI_long, sL_int, sL_same, sL_place, sL_cell, Option.bind_some, Option.bind_none, rf_0_0, rf_0_1, rf_0_2, rf_0_3, rf_0_4, rf_0_5, rf_0_6, rf_0_7, rf_0_10, rf_0_11, rf_0_12, rf_0_13, rf_0_14, rf_0_15, rf_0_16, rf_0_17, rf_0_18, rf_1_0, rf_1_4, rf_1_5, rf_1_6, rf_1_7, rf_7_0, rf_7_1, rf_7_2, rf_7_3, rf_7_4, rf_7_5, rf_7_6, rf_7_7, rf_28_1, rf_28_2, rf_28_3, rf_28_5, rf_28_6, rf_28_7, rf_28_8, rf_188_1, rf_188_14, rf_188_15, rf_188_16, rf_188_17, rf_188_18, rf_188_19, rf_188_20, rf_188_21, rf_188_22, rf_188_24, rf_188_25, rf_188_26, rf_188_27, rf_188_28, rf_188_31, rf_188_32, rf_188_34, rf_188_35, rf_188_36, rf_188_37, rf_188_38, rf_188_42, rf_188_43, rf_188_51, rf_188_52, rf_188_53, rf_188_55, ln_190, hN 3]
  | succ m ih =>
    intro k n r seen z hk hn h1 h2 h3
    obtain ⟨n, rfl⟩ : ∃ n', n = n' + 1 := ⟨n - 1, by omega⟩
    rw [stRs] at h3
    by_cases h4 : seen.testBit k = true
    · rw [if_pos h4] at h3
      simp (disch := omega) only [f_X12_strangers_L11, ↓oo_m1, oo_0, oo_1, oo_2, oo_3, oo_4, oo_5, oo_6, oo_7, oo_8, oo_9, oo_10, oo_12, oo_13, oo_14, oo_15, oo_16, oo_17, oo_18, oo_20, oo_24, oo_30, oo_32, oo_36, oo_40, oo_41, oo_48, oo_50, oo_57, oo_59, oo_60, oo_61, oo_62, oo_63, oo_64, oo_66, oo_72, oo_78, oo_96, oo_97, oo_99, oo_100, oo_101, oo_105, oo_107, oo_108, oo_109, oo_110, oo_111, oo_112, oo_114, oo_115, oo_116, oo_117, oo_119, oo_122, oo_128, oo_130, oo_134, oo_135, oo_136, oo_137, oo_138, oo_139, oo_140, oo_141, oo_142, oo_143, oo_144, oo_145, oo_151, oo_157, oo_194, oo_200, oo_240, oo_255, oo_256, oo_274, oo_276, oo_300, oo_516, oo_900, oo_940, oo_941, oo_999, oo_1000, oo_1040, oo_10000, oo_add, oo_mul, oo_sub, oo_lt, oo_le, oo_eq, oo_nat, oo_div, oo_rem, oo_nn, nn_oo, oo_nnlt, nn_oolt, oo_nnle, nn_oole, ↓reduceIte, if_pos, if_neg, or_false, false_or, or_true, true_or, and_true, true_and, and_false, false_and, not_true_eq_false, not_false_eq_true, Nat.not_lt_zero, Bool.false_eq_true, Bool.true_eq_false, rf_188_1, rf_188_14, rf_188_15, rf_188_16, rf_188_17, rf_188_18, rf_188_19, rf_188_20, rf_188_21, rf_188_22, rf_188_24, rf_188_25, rf_188_26, rf_188_27, rf_188_28, rf_188_31, rf_188_32, rf_188_34, rf_188_35, rf_188_36, rf_188_37, rf_188_38, rf_188_42, rf_188_43, rf_188_51, rf_188_52, rf_188_53, rf_188_55, bt_t h2 (show k < 8 by omega) h4, hN 3]
      exact ih (k + 1) n r seen z (by omega) (by omega) (by omega) h2 h3
    · rw [if_neg h4] at h3
      cases h5 : stR L 7 seen k with
      | none => rw [h5] at h3; cases h3
      | some s =>
        rw [h5] at h3
        have h6 := stR_b hL h36 7 seen k s h2 (by omega) h5
        have h7 := stR_x (x := oo (r + 1)) (y := oo k) hN hL h36 7 1000000 seen k s (by decide) h2 (by omega) h5
        simp (disch := omega) only [f_X12_strangers_L11, ↓oo_m1, oo_0, oo_1, oo_2, oo_3, oo_4, oo_5, oo_6, oo_7, oo_8, oo_9, oo_10, oo_12, oo_13, oo_14, oo_15, oo_16, oo_17, oo_18, oo_20, oo_24, oo_30, oo_32, oo_36, oo_40, oo_41, oo_48, oo_50, oo_57, oo_59, oo_60, oo_61, oo_62, oo_63, oo_64, oo_66, oo_72, oo_78, oo_96, oo_97, oo_99, oo_100, oo_101, oo_105, oo_107, oo_108, oo_109, oo_110, oo_111, oo_112, oo_114, oo_115, oo_116, oo_117, oo_119, oo_122, oo_128, oo_130, oo_134, oo_135, oo_136, oo_137, oo_138, oo_139, oo_140, oo_141, oo_142, oo_143, oo_144, oo_145, oo_151, oo_157, oo_194, oo_200, oo_240, oo_255, oo_256, oo_274, oo_276, oo_300, oo_516, oo_900, oo_940, oo_941, oo_999, oo_1000, oo_1040, oo_10000, oo_add, oo_mul, oo_sub, oo_lt, oo_le, oo_eq, oo_nat, oo_div, oo_rem, oo_nn, nn_oo, oo_nnlt, nn_oolt, oo_nnle, nn_oole, ↓reduceIte, if_pos, if_neg, or_false, false_or, or_true, true_or, and_true, true_and, and_false, false_and, not_true_eq_false, not_false_eq_true, Nat.not_lt_zero, Bool.false_eq_true, Bool.true_eq_false, rf_188_1, rf_188_14, rf_188_15, rf_188_16, rf_188_17, rf_188_18, rf_188_19, rf_188_20, rf_188_21, rf_188_22, rf_188_24, rf_188_25, rf_188_26, rf_188_27, rf_188_28, rf_188_31, rf_188_32, rf_188_34, rf_188_35, rf_188_36, rf_188_37, rf_188_38, rf_188_42, rf_188_43, rf_188_51, rf_188_52, rf_188_53, rf_188_55, Option.bind_some, Option.bind_none, bt_f h2 (show k < 8 by omega) h4, hN 3, h7]
        exact ih (k + 1) n (r + 1) s z (by omega) (by omega) (by omega) h6 h3
end ST
theorem ag_strangers : Ag_strangers Rel := by
  intro S hR
  obtain ⟨hT, hFa, hK, ⟨v, hv, hP⟩, hKe, hNo, hWa, hC, hD, hX⟩ := id hR; obtain ⟨hN, hO, hS, hH, hW, hNm, hSe⟩ := id hv; obtain ⟨⟨b0, b1, b2, b3, b4, b5⟩, -⟩ := id hO
  have hN2 : IsC (sI S 188 0 (oo 0)) 190 516 v := hN.cell (by simp (disch := omega) only [sI_same, sI_place, sI_cell, sI_long, sL_int, sL_same, sL_place, sL_cell])
  have hL : ∀ k, k < v 3 → ((List.range (v 3)).map (fun w => v (151 + w))).getD k 0 = v (151 + k) ∧ v (151 + k) < v 3 := fun k hk => by
    refine ⟨?_, (hS.2.1 k hk).2⟩
    rw [List.getD_eq_getElem?_getD, List.getElem?_map, List.getElem?_range hk]
    rfl
  have h1 := st_all (f := fun w => v (151 + w)) b3 (fun w hw => (hS.2.1 w hw).2) hS.2.2.1
  have h2 := stCs_x hH hW b3 hL (v 3) 0 1000000 0 0 (by omega) (by omega) (by omega) (by decide)
  unfold stOK at h1
  split at h1
  · rename_i r hr
    rw [Bool.and_eq_true] at h1
    have e1 : r ≤ v 3 := by simpa using h1.1
    have e2 : stCs ((List.range (v 3)).map (fun w => v (151 + w))) (v 3) 0 0 0 = v 3 - r := by simpa using h1.2
    have h3 := stRs_x hN2 b3 hL (v 3) 0 1000000 0 0 r (by omega) (by omega) (by omega) (by decide) hr
    rw [e2] at h2
    refine ⟨oo (v 3 - r), S, sI S 188 0 (oo 0), ?_, ?_, hR.fr (Fr.sIp (Fr.rf [(188, 0)] S) rfl) rfl rfl rfl rfl rfl⟩
    · simp (disch := omega) only [f_X11_strangers, ↓oo_m1, oo_0, oo_1, oo_2, oo_3, oo_4, oo_5, oo_6, oo_7, oo_8, oo_9, oo_10, oo_12, oo_13, oo_14, oo_15, oo_16, oo_17, oo_18, oo_20, oo_24, oo_30, oo_32, oo_36, oo_40, oo_41, oo_48, oo_50, oo_57, oo_59, oo_60, oo_61, oo_62, oo_63, oo_64, oo_66, oo_72, oo_78, oo_96, oo_97, oo_99, oo_100, oo_101, oo_105, oo_107, oo_108, oo_109, oo_110, oo_111, oo_112, oo_114, oo_115, oo_116, oo_117, oo_119, oo_122, oo_128, oo_130, oo_134, oo_135, oo_136, oo_137, oo_138, oo_139, oo_140, oo_141, oo_142, oo_143, oo_144, oo_145, oo_151, oo_157, oo_194, oo_200, oo_240, oo_255, oo_256, oo_274, oo_276, oo_300, oo_516, oo_900, oo_940, oo_941, oo_999, oo_1000, oo_1040, oo_10000, oo_add, oo_mul, oo_sub, oo_lt, oo_le, oo_eq, oo_nat, oo_div, oo_rem, oo_nn, nn_oo, oo_nnlt, nn_oolt, oo_nnle, nn_oole, Option.bind_some, Option.bind_none, h2]
    · simp (disch := omega) only [f_X12_strangers, ↓oo_m1, oo_0, oo_1, oo_2, oo_3, oo_4, oo_5, oo_6, oo_7, oo_8, oo_9, oo_10, oo_12, oo_13, oo_14, oo_15, oo_16, oo_17, oo_18, oo_20, oo_24, oo_30, oo_32, oo_36, oo_40, oo_41, oo_48, oo_50, oo_57, oo_59, oo_60, oo_61, oo_62, oo_63, oo_64, oo_66, oo_72, oo_78, oo_96, oo_97, oo_99, oo_100, oo_101, oo_105, oo_107, oo_108, oo_109, oo_110, oo_111, oo_112, oo_114, oo_115, oo_116, oo_117, oo_119, oo_122, oo_128, oo_130, oo_134, oo_135, oo_136, oo_137, oo_138, oo_139, oo_140, oo_141, oo_142, oo_143, oo_144, oo_145, oo_151, oo_157, oo_194, oo_200, oo_240, oo_255, oo_256, oo_274, oo_276, oo_300, oo_516, oo_900, oo_940, oo_941, oo_999, oo_1000, oo_1040, oo_10000, oo_add, oo_mul, oo_sub, oo_lt, oo_le, oo_eq, oo_nat, oo_div, oo_rem, oo_nn, nn_oo, oo_nnlt, nn_oolt, oo_nnle, nn_oole, ↓reduceIte, if_pos, if_neg, or_false, false_or, or_true, true_or, and_true, true_and, and_false, false_and, not_true_eq_false, not_false_eq_true, Nat.not_lt_zero, Bool.false_eq_true, Bool.true_eq_false, sI_same, sI_place, sI_cell, sI_long, sL_int, sL_same, sL_place, sL_cell, Option.bind_some, Option.bind_none, rf_0_0, rf_0_1, rf_0_2, rf_0_3, rf_0_4, rf_0_5, rf_0_6, rf_0_7, rf_0_10, rf_0_11, rf_0_12, rf_0_13, rf_0_14, rf_0_15, rf_0_16, rf_0_17, rf_0_18, rf_1_0, rf_1_4, rf_1_5, rf_1_6, rf_1_7, rf_7_0, rf_7_1, rf_7_2, rf_7_3, rf_7_4, rf_7_5, rf_7_6, rf_7_7, rf_28_1, rf_28_2, rf_28_3, rf_28_5, rf_28_6, rf_28_7, rf_28_8, rf_188_1, rf_188_14, rf_188_15, rf_188_16, rf_188_17, rf_188_18, rf_188_19, rf_188_20, rf_188_21, rf_188_22, rf_188_24, rf_188_25, rf_188_26, rf_188_27, rf_188_28, rf_188_31, rf_188_32, rf_188_34, rf_188_35, rf_188_36, rf_188_37, rf_188_38, rf_188_42, rf_188_43, rf_188_51, rf_188_52, rf_188_53, rf_188_55, ln_190, hN 3, h3]
  · cases h1
