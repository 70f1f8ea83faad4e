/-! boxes -/
/-- behind the boxes below b, and the scents below s in it -/
def vM (v : Nat → Nat) (wet b s : Nat) : Nat → Nat := fun j => if 194 ≤ j ∧ j < 274 ∧ (j - 194) / 10 < v 193 ∧ 4 ≤ (j - 194) % 10 ∧ (j - 194) % 10 - 4 < v 0 ∧ (bxN v ((j - 194) / 10) < b ∨ (bxN v ((j - 194) / 10) = b ∧ (j - 194) % 10 - 4 < s)) then mxN (clP v (v 144 + 1)) (bxN v) (v 193) ((j - 194) / 10) ((j - 194) % 10 - 4) else vF v wet (v 193) j
section MX
variable {v : Nat → Nat}
theorem vM_o {wet b s j : Nat} (h : j < 194 ∨ 274 ≤ j) : vM v wet b s j = vF v wet (v 193) j := if_neg (by omega)
theorem vM_in {wet b s c x : Nat} (hx : x < v 0) (h0 : v 0 ≤ 6) (hc : c < v 193) (h8 : v 193 ≤ 8) : vM v wet b s (194 + 10 * c + 4 + x) = if bxN v c < b ∨ (bxN v c = b ∧ x < s) then mxN (clP v (v 144 + 1)) (bxN v) (v 193) c x else clP v (v 144 + 1) c x := by
  unfold vM
  have e1 : (194 + 10 * c + 4 + x - 194) / 10 = c := by omega
  have e2 : (194 + 10 * c + 4 + x - 194) % 10 = 4 + x := by omega
  rw [e1, e2, Nat.add_sub_cancel_left]
  by_cases h : bxN v c < b ∨ (bxN v c = b ∧ x < s)
  · rw [if_pos (by omega), if_pos h]
  · rw [if_neg (by omega), if_neg h, vF_in hx h0 (by omega), if_pos hc]
theorem vM_io {wet b s c z : Nat} (hc : c < 8) (hz : z < 10) (h : z < 4 ∨ 4 + v 0 ≤ z ∨ v 193 ≤ c) : vM v wet b s (194 + 10 * c + z) = vF v wet (v 193) (194 + 10 * c + z) := by
  unfold vM
  have e1 : (194 + 10 * c + z - 194) / 10 = c := by omega
  have e2 : (194 + 10 * c + z - 194) % 10 = z := by omega
  rw [e1, e2, if_neg (by omega)]
/-- within a scent: behind the first k cloths -/
def vMk (v : Nat → Nat) (wet b s k : Nat) : Nat → Nat := fun j => if 194 ≤ j ∧ j < 274 ∧ (j - 194) / 10 < k ∧ (j - 194) % 10 = 4 + s then vM v wet b (s + 1) j else vM v wet b s j
theorem clP_le (hS : SOK v) {h c s : Nat} (hc : c < v 193) (hs : s < 6) : clP v h c s ≤ 99 := by
  have := (hS.2.2.2.2.2.2 c s hc hs).1
  unfold clP
  omega
theorem gmN_lt (hS : SOK v) {h b s : Nat} (hs : s < 6) : ∀ n, n ≤ v 193 → gmN (clP v h) (bxN v) b s n ≤ 99 := fun n hn => gmN_le n (fun c hc => clP_le hS (by omega) hs)
theorem greatest_n (hO : HOK v) (hS : SOK v) {wet b s : Nat} (hb : b < 3) (hs : s < v 0) {T : XS} (hT : IsC T 190 516 (vM v wet b s)) : ∀ m k n, k + m = v 193 → m < n → f_X12_mixBox_L5 188 (oo b) (oo s) n (oo (gmN (clP v (v 144 + 1)) (bxN v) b s k)) (oo k) T = some (oo (gmN (clP v (v 144 + 1)) (bxN v) b s (v 193)), T) := by
  obtain ⟨⟨b0, b1, b2, b3, b4, b5⟩, -⟩ := id hO
  have c8 := hS.c8
  have e93 : T.1 190 193 = oo (v 193) := by rw [hT 193 (by decide), vM_o (by omega), vF_o (by omega), vK_o (by omega), vW_o (by omega)]
  intro m
  induction m with
  | zero =>
    intro k n hk hn
    obtain ⟨n, rfl⟩ : ∃ n', n = n' + 1 := ⟨n - 1, by omega⟩
    obtain rfl : k = v 193 := by omega
    simp (disch := omega) only [f_X12_mixBox_L5, ↓oo_m1, oo_0, oo_1, oo_2, oo_3, oo_4, oo_5, oo_6, oo_7, oo_8, oo_9, oo_10, oo_12, oo_13, oo_14, oo_15, oo_16, oo_17, oo_18, oo_20, oo_24, oo_30, oo_32, oo_36, oo_40, oo_41, oo_48, oo_50, oo_57, oo_59, oo_60, oo_61, oo_62, oo_63, oo_64, oo_66, oo_72, oo_78, oo_96, oo_97, oo_99, oo_100, oo_101, oo_105, oo_107, oo_108, oo_109, oo_110, oo_111, oo_112, oo_114, oo_115, oo_116, oo_117, oo_119, oo_122, oo_128, oo_130, oo_134, oo_135, oo_136, oo_137, oo_138, oo_139, oo_140, oo_141, oo_142, oo_143, oo_144, oo_145, oo_151, oo_157, oo_194, oo_200, oo_240, oo_255, oo_256, oo_274, oo_276, oo_300, oo_516, oo_900, oo_940, oo_941, oo_999, oo_1000, oo_1040, oo_10000, oo_add, oo_mul, oo_sub, oo_lt, oo_le, oo_eq, oo_nat, oo_div, oo_rem, oo_nn, nn_oo, oo_nnlt, nn_oolt, oo_nnle, nn_oole, ↓reduceIte, if_pos, if_neg, or_false, false_or, or_true, true_or, and_true, true_and, and_false, false_and, not_true_eq_false, not_false_eq_true, Nat.not_lt_zero, Bool.false_eq_true, Bool.true_eq_false, rf_188_1, rf_188_14, rf_188_15, rf_188_16, rf_188_17, rf_188_18, rf_188_19, rf_188_20, rf_188_21, rf_188_22, rf_188_24, rf_188_25, rf_188_26, rf_188_27, rf_188_28, rf_188_31, rf_188_32, rf_188_34, rf_188_35, rf_188_36, rf_188_37, rf_188_38, rf_188_42, rf_188_43, rf_188_51, rf_188_52, rf_188_53, rf_188_55, e93]
  | succ m ih =>
    intro k n hk hn
    obtain ⟨n, rfl⟩ : ∃ n', n = n' + 1 := ⟨n - 1, by omega⟩
    have e1 : T.1 190 (194 + 10 * k + 1) = oo (bxN v k) := by rw [hT _ (by omega), vM_io (by omega) (by omega) (by omega), vF_io (by omega) (by omega) (by omega)]; rfl
    have e2 : bxN v k = b → T.1 190 (194 + 10 * k + 4 + s) = oo (clP v (v 144 + 1) k s) := fun q => by rw [hT _ (by omega), vM_in hs b0 (by omega) c8, if_neg (by omega)]
    have h1 := (hS.2.2.2.2.2.1 k (by omega)).2.1
    have h1 : bxN v k < 3 := h1
    have h2 := clP_le hS (h := v 144 + 1) (show k < v 193 by omega) (show s < 6 by omega)
    have h3 := gmN_lt hS (h := v 144 + 1) (b := b) (show s < 6 by omega) k (by omega)
    have h5 := ih (k + 1) n (by omega) (by omega)
    rw [gmN] at h5
    by_cases q : bxN v k = b
    · have e3 := e2 q
      by_cases q2 : gmN (clP v (v 144 + 1)) (bxN v) b s k < clP v (v 144 + 1) k s
      · rw [if_pos ⟨q, q2⟩] at h5
        simp (disch := omega) only [f_X12_mixBox_L5, f_X12_ofCloth, f_X12_onCloth, ↓oo_m1, oo_0, oo_1, oo_2, oo_3, oo_4, oo_5, oo_6, oo_7, oo_8, oo_9, oo_10, oo_12, oo_13, oo_14, oo_15, oo_16, oo_17, oo_18, oo_20, oo_24, oo_30, oo_32, oo_36, oo_40, oo_41, oo_48, oo_50, oo_57, oo_59, oo_60, oo_61, oo_62, oo_63, oo_64, oo_66, oo_72, oo_78, oo_96, oo_97, oo_99, oo_100, oo_101, oo_105, oo_107, oo_108, oo_109, oo_110, oo_111, oo_112, oo_114, oo_115, oo_116, oo_117, oo_119, oo_122, oo_128, oo_130, oo_134, oo_135, oo_136, oo_137, oo_138, oo_139, oo_140, oo_141, oo_142, oo_143, oo_144, oo_145, oo_151, oo_157, oo_194, oo_200, oo_240, oo_255, oo_256, oo_274, oo_276, oo_300, oo_516, oo_900, oo_940, oo_941, oo_999, oo_1000, oo_1040, oo_10000, oo_add, oo_mul, oo_sub, oo_lt, oo_le, oo_eq, oo_nat, oo_div, oo_rem, oo_nn, nn_oo, oo_nnlt, nn_oolt, oo_nnle, nn_oole, ↓reduceIte, if_pos, if_neg, or_false, false_or, or_true, true_or, and_true, true_and, and_false, false_and, not_true_eq_false, not_false_eq_true, Nat.not_lt_zero, Bool.false_eq_true, Bool.true_eq_false, Option.bind_some, Option.bind_none, rf_188_1, rf_188_14, rf_188_15, rf_188_16, rf_188_17, rf_188_18, rf_188_19, rf_188_20, rf_188_21, rf_188_22, rf_188_24, rf_188_25, rf_188_26, rf_188_27, rf_188_28, rf_188_31, rf_188_32, rf_188_34, rf_188_35, rf_188_36, rf_188_37, rf_188_38, rf_188_42, rf_188_43, rf_188_51, rf_188_52, rf_188_53, rf_188_55, ln_190, e93, e1, e3, q]
        exact h5
      · rw [if_neg (fun z => q2 z.2)] at h5
        simp (disch := omega) only [f_X12_mixBox_L5, f_X12_ofCloth, f_X12_onCloth, ↓oo_m1, oo_0, oo_1, oo_2, oo_3, oo_4, oo_5, oo_6, oo_7, oo_8, oo_9, oo_10, oo_12, oo_13, oo_14, oo_15, oo_16, oo_17, oo_18, oo_20, oo_24, oo_30, oo_32, oo_36, oo_40, oo_41, oo_48, oo_50, oo_57, oo_59, oo_60, oo_61, oo_62, oo_63, oo_64, oo_66, oo_72, oo_78, oo_96, oo_97, oo_99, oo_100, oo_101, oo_105, oo_107, oo_108, oo_109, oo_110, oo_111, oo_112, oo_114, oo_115, oo_116, oo_117, oo_119, oo_122, oo_128, oo_130, oo_134, oo_135, oo_136, oo_137, oo_138, oo_139, oo_140, oo_141, oo_142, oo_143, oo_144, oo_145, oo_151, oo_157, oo_194, oo_200, oo_240, oo_255, oo_256, oo_274, oo_276, oo_300, oo_516, oo_900, oo_940, oo_941, oo_999, oo_1000, oo_1040, oo_10000, oo_add, oo_mul, oo_sub, oo_lt, oo_le, oo_eq, oo_nat, oo_div, oo_rem, oo_nn, nn_oo, oo_nnlt, nn_oolt, oo_nnle, nn_oole, ↓reduceIte, if_pos, if_neg, or_false, false_or, or_true, true_or, and_true, true_and, and_false, false_and, not_true_eq_false, not_false_eq_true, Nat.not_lt_zero, Bool.false_eq_true, Bool.true_eq_false, Option.bind_some, Option.bind_none, rf_188_1, rf_188_14, rf_188_15, rf_188_16, rf_188_17, rf_188_18, rf_188_19, rf_188_20, rf_188_21, rf_188_22, rf_188_24, rf_188_25, rf_188_26, rf_188_27, rf_188_28, rf_188_31, rf_188_32, rf_188_34, rf_188_35, rf_188_36, rf_188_37, rf_188_38, rf_188_42, rf_188_43, rf_188_51, rf_188_52, rf_188_53, rf_188_55, ln_190, e93, e1, e3, q]
        exact h5
    · rw [if_neg (fun z => q z.1)] at h5
      simp (disch := omega) only [f_X12_mixBox_L5, f_X12_ofCloth, f_X12_onCloth, ↓oo_m1, oo_0, oo_1, oo_2, oo_3, oo_4, oo_5, oo_6, oo_7, oo_8, oo_9, oo_10, oo_12, oo_13, oo_14, oo_15, oo_16, oo_17, oo_18, oo_20, oo_24, oo_30, oo_32, oo_36, oo_40, oo_41, oo_48, oo_50, oo_57, oo_59, oo_60, oo_61, oo_62, oo_63, oo_64, oo_66, oo_72, oo_78, oo_96, oo_97, oo_99, oo_100, oo_101, oo_105, oo_107, oo_108, oo_109, oo_110, oo_111, oo_112, oo_114, oo_115, oo_116, oo_117, oo_119, oo_122, oo_128, oo_130, oo_134, oo_135, oo_136, oo_137, oo_138, oo_139, oo_140, oo_141, oo_142, oo_143, oo_144, oo_145, oo_151, oo_157, oo_194, oo_200, oo_240, oo_255, oo_256, oo_274, oo_276, oo_300, oo_516, oo_900, oo_940, oo_941, oo_999, oo_1000, oo_1040, oo_10000, oo_add, oo_mul, oo_sub, oo_lt, oo_le, oo_eq, oo_nat, oo_div, oo_rem, oo_nn, nn_oo, oo_nnlt, nn_oolt, oo_nnle, nn_oole, ↓reduceIte, if_pos, if_neg, or_false, false_or, or_true, true_or, and_true, true_and, and_false, false_and, not_true_eq_false, not_false_eq_true, Nat.not_lt_zero, Bool.false_eq_true, Bool.true_eq_false, Option.bind_some, Option.bind_none, rf_188_1, rf_188_14, rf_188_15, rf_188_16, rf_188_17, rf_188_18, rf_188_19, rf_188_20, rf_188_21, rf_188_22, rf_188_24, rf_188_25, rf_188_26, rf_188_27, rf_188_28, rf_188_31, rf_188_32, rf_188_34, rf_188_35, rf_188_36, rf_188_37, rf_188_38, rf_188_42, rf_188_43, rf_188_51, rf_188_52, rf_188_53, rf_188_55, ln_190, e93, e1, q]
      exact h5
theorem vMk_hit {wet b s k c : Nat} (hs : s < 6) (hc : c < 8) : vMk v wet b s k (194 + 10 * c + 4 + s) = if c < k then vM v wet b (s + 1) (194 + 10 * c + 4 + s) else vM v wet b s (194 + 10 * c + 4 + s) := by
  unfold vMk
  have e1 : (194 + 10 * c + 4 + s - 194) / 10 = c := by omega
  have e2 : (194 + 10 * c + 4 + s - 194) % 10 = 4 + s := by omega
  rw [e1, e2]
  by_cases h : c < k
  · rw [if_pos (by omega), if_pos h]
  · rw [if_neg (by omega), if_neg h]
theorem vMk_o {wet b s k j : Nat} (h : ¬ (194 ≤ j ∧ j < 274 ∧ (j - 194) % 10 = 4 + s)) : vMk v wet b s k j = vM v wet b s j := by
  unfold vMk
  rw [if_neg (by omega)]
theorem vM_step {wet b s j : Nat} (h : ¬ (194 ≤ j ∧ j < 274 ∧ (j - 194) / 10 < v 193 ∧ (j - 194) % 10 = 4 + s)) : vM v wet b (s + 1) j = vM v wet b s j := by
  unfold vM
  by_cases h1 : 194 ≤ j ∧ j < 274 ∧ (j - 194) / 10 < v 193 ∧ 4 ≤ (j - 194) % 10 ∧ (j - 194) % 10 - 4 < v 0 ∧ (bxN v ((j - 194) / 10) < b ∨ (bxN v ((j - 194) / 10) = b ∧ (j - 194) % 10 - 4 < s))
  · rw [if_pos h1, if_pos (by omega)]
  · rw [if_neg h1, if_neg (by omega)]
theorem mingle_n (hO : HOK v) (hS : SOK v) {wet b s : Nat} (hb : b < 3) (hs : s < v 0) : ∀ m k n T, k + m = v 193 → m < n → IsC T 190 516 (vMk v wet b s k) → ∃ U, f_X12_mixBox_L57 (oo (gmN (clP v (v 144 + 1)) (bxN v) b s (v 193))) 188 (oo b) (oo s) n (oo k) T = some U ∧ IsC U 190 516 (vM v wet b (s + 1)) ∧ Fr [(190, 9999)] T U := by
  obtain ⟨⟨b0, b1, b2, b3, b4, b5⟩, -⟩ := id hO
  have c8 := hS.c8
  intro m
  induction m with
  | zero =>
    intro k n T hk hn hT
    obtain ⟨n, rfl⟩ : ∃ n', n = n' + 1 := ⟨n - 1, by omega⟩
    obtain rfl : k = v 193 := by omega
    have e93 : T.1 190 193 = oo (v 193) := by rw [hT 193 (by decide), vMk_o (by omega), vM_o (by omega), vF_o (by omega), vK_o (by omega), vW_o (by omega)]
    refine ⟨T, by simp (disch := omega) only [f_X12_mixBox_L57, ↓oo_m1, oo_0, oo_1, oo_2, oo_3, oo_4, oo_5, oo_6, oo_7, oo_8, oo_9, oo_10, oo_12, oo_13, oo_14, oo_15, oo_16, oo_17, oo_18, oo_20, oo_24, oo_30, oo_32, oo_36, oo_40, oo_41, oo_48, oo_50, oo_57, oo_59, oo_60, oo_61, oo_62, oo_63, oo_64, oo_66, oo_72, oo_78, oo_96, oo_97, oo_99, oo_100, oo_101, oo_105, oo_107, oo_108, oo_109, oo_110, oo_111, oo_112, oo_114, oo_115, oo_116, oo_117, oo_119, oo_122, oo_128, oo_130, oo_134, oo_135, oo_136, oo_137, oo_138, oo_139, oo_140, oo_141, oo_142, oo_143, oo_144, oo_145, oo_151, oo_157, oo_194, oo_200, oo_240, oo_255, oo_256, oo_274, oo_276, oo_300, oo_516, oo_900, oo_940, oo_941, oo_999, oo_1000, oo_1040, oo_10000, oo_add, oo_mul, oo_sub, oo_lt, oo_le, oo_eq, oo_nat, oo_div, oo_rem, oo_nn, nn_oo, oo_nnlt, nn_oolt, oo_nnle, nn_oole, ↓reduceIte, if_pos, if_neg, or_false, false_or, or_true, true_or, and_true, true_and, and_false, false_and, not_true_eq_false, not_false_eq_true, Nat.not_lt_zero, Bool.false_eq_true, Bool.true_eq_false, rf_188_1, rf_188_14, rf_188_15, rf_188_16, rf_188_17, rf_188_18, rf_188_19, rf_188_20, rf_188_21, rf_188_22, rf_188_24, rf_188_25, rf_188_26, rf_188_27, rf_188_28, rf_188_31, rf_188_32, rf_188_34, rf_188_35, rf_188_36, rf_188_37, rf_188_38, rf_188_42, rf_188_43, rf_188_51, rf_188_52, rf_188_53, rf_188_55, e93], hT.ext (fun j hj => ?_), Fr.rf _ _⟩
    unfold vMk
    by_cases h : 194 ≤ j ∧ j < 274 ∧ (j - 194) / 10 < v 193 ∧ (j - 194) % 10 = 4 + s
    · rw [if_pos h]
    · rw [if_neg h, vM_step h]
  | succ m ih =>
    intro k n T hk hn hT
    obtain ⟨n, rfl⟩ : ∃ n', n = n' + 1 := ⟨n - 1, by omega⟩
    have e93 : T.1 190 193 = oo (v 193) := by rw [hT 193 (by decide), vMk_o (by omega), vM_o (by omega), vF_o (by omega), vK_o (by omega), vW_o (by omega)]
    have e1 : T.1 190 (194 + 10 * k + 1) = oo (bxN v k) := by rw [hT _ (by omega), vMk_o (by omega), vM_io (by omega) (by omega) (by omega), vF_io (by omega) (by omega) (by omega)]; rfl
    have h1 : bxN v k < 3 := (hS.2.2.2.2.2.1 k (by omega)).2.1
    have h2 := clP_le hS (h := v 144 + 1) (show k < v 193 by omega) (show s < 6 by omega)
    have h3 := gmN_lt hS (h := v 144 + 1) (b := b) (show s < 6 by omega) (v 193) (Nat.le_refl _)
    have keep : ∀ U : XS, U = T → vM v wet b (s + 1) (194 + 10 * k + 4 + s) = vM v wet b s (194 + 10 * k + 4 + s) → IsC U 190 516 (vMk v wet b s (k + 1)) := fun U hU hq => by
      rw [hU]
      refine hT.ext (fun j hj => ?_)
      unfold vMk
      by_cases h : 194 ≤ j ∧ j < 274 ∧ (j - 194) / 10 < k ∧ (j - 194) % 10 = 4 + s
      · rw [if_pos h, if_pos (by omega)]
      · rw [if_neg h]
        by_cases h4 : 194 ≤ j ∧ j < 274 ∧ (j - 194) / 10 < k + 1 ∧ (j - 194) % 10 = 4 + s
        · rw [if_pos h4, show j = 194 + 10 * k + 4 + s by omega]
          exact hq.symm
        · rw [if_neg h4]
    by_cases q : bxN v k = b
    · have e3 : T.1 190 (194 + 10 * k + 4 + s) = oo (clP v (v 144 + 1) k s) := by rw [hT _ (by omega), vMk_hit (by omega) (by omega), if_neg (by omega), vM_in hs b0 (by omega) c8, if_neg (by omega)]
      by_cases q2 : clP v (v 144 + 1) k s < gmN (clP v (v 144 + 1)) (bxN v) b s (v 193)
      · have hmx : mxN (clP v (v 144 + 1)) (bxN v) (v 193) k s = clP v (v 144 + 1) k s + 1 := by
          unfold mxN
          rw [q, if_pos q2]
        obtain ⟨U, u1, u2, u3⟩ := ih (k + 1) n (sI T 190 (194 + 10 * k + 4 + s) (oo (clP v (v 144 + 1) k s + 1))) (by omega) (by omega) (hT.set.ext (fun j hj => by
          by_cases h : j = 194 + 10 * k + 4 + s
          · rw [h, upN_same, vMk_hit (by omega) (by omega), if_pos (Nat.lt_succ_self k), vM_in hs b0 (by omega) c8, if_pos (by omega), hmx]
          · rw [upN_ne h]
            unfold vMk
            by_cases h4 : 194 ≤ j ∧ j < 274 ∧ (j - 194) / 10 < k ∧ (j - 194) % 10 = 4 + s
            · rw [if_pos h4, if_pos (by omega)]
            · rw [if_neg h4, if_neg (by omega)]))
        refine ⟨U, ?_, u2, Fr.trans (Fr.sIr (Fr.rf _ _) rfl) u3⟩
        simp (disch := omega) only [f_X12_mixBox_L57, f_X12_ofCloth, f_X12_onCloth, ↓oo_m1, oo_0, oo_1, oo_2, oo_3, oo_4, oo_5, oo_6, oo_7, oo_8, oo_9, oo_10, oo_12, oo_13, oo_14, oo_15, oo_16, oo_17, oo_18, oo_20, oo_24, oo_30, oo_32, oo_36, oo_40, oo_41, oo_48, oo_50, oo_57, oo_59, oo_60, oo_61, oo_62, oo_63, oo_64, oo_66, oo_72, oo_78, oo_96, oo_97, oo_99, oo_100, oo_101, oo_105, oo_107, oo_108, oo_109, oo_110, oo_111, oo_112, oo_114, oo_115, oo_116, oo_117, oo_119, oo_122, oo_128, oo_130, oo_134, oo_135, oo_136, oo_137, oo_138, oo_139, oo_140, oo_141, oo_142, oo_143, oo_144, oo_145, oo_151, oo_157, oo_194, oo_200, oo_240, oo_255, oo_256, oo_274, oo_276, oo_300, oo_516, oo_900, oo_940, oo_941, oo_999, oo_1000, oo_1040, oo_10000, oo_add, oo_mul, oo_sub, oo_lt, oo_le, oo_eq, oo_nat, oo_div, oo_rem, oo_nn, nn_oo, oo_nnlt, nn_oolt, oo_nnle, nn_oole, ↓reduceIte, if_pos, if_neg, or_false, false_or, or_true, true_or, and_true, true_and, and_false, false_and, not_true_eq_false, not_false_eq_true, Nat.not_lt_zero, Bool.false_eq_true, Bool.true_eq_false, Option.bind_some, Option.bind_none, rf_188_1, rf_188_14, rf_188_15, rf_188_16, rf_188_17, rf_188_18, rf_188_19, rf_188_20, rf_188_21, rf_188_22, rf_188_24, rf_188_25, rf_188_26, rf_188_27, rf_188_28, rf_188_31, rf_188_32, rf_188_34, rf_188_35, rf_188_36, rf_188_37, rf_188_38, rf_188_42, rf_188_43, rf_188_51, rf_188_52, rf_188_53, rf_188_55, ln_190, e93, e1, e3, q]
        exact u1
      · have hmx : mxN (clP v (v 144 + 1)) (bxN v) (v 193) k s = clP v (v 144 + 1) k s := by
          unfold mxN
          rw [q, if_neg q2]
        obtain ⟨U, u1, u2, u3⟩ := ih (k + 1) n T (by omega) (by omega) (keep T rfl (by rw [vM_in hs b0 (by omega) c8, if_pos (by omega), vM_in hs b0 (by omega) c8, if_neg (by omega), hmx]))
        refine ⟨U, ?_, u2, u3⟩
        simp (disch := omega) only [f_X12_mixBox_L57, f_X12_ofCloth, f_X12_onCloth, ↓oo_m1, oo_0, oo_1, oo_2, oo_3, oo_4, oo_5, oo_6, oo_7, oo_8, oo_9, oo_10, oo_12, oo_13, oo_14, oo_15, oo_16, oo_17, oo_18, oo_20, oo_24, oo_30, oo_32, oo_36, oo_40, oo_41, oo_48, oo_50, oo_57, oo_59, oo_60, oo_61, oo_62, oo_63, oo_64, oo_66, oo_72, oo_78, oo_96, oo_97, oo_99, oo_100, oo_101, oo_105, oo_107, oo_108, oo_109, oo_110, oo_111, oo_112, oo_114, oo_115, oo_116, oo_117, oo_119, oo_122, oo_128, oo_130, oo_134, oo_135, oo_136, oo_137, oo_138, oo_139, oo_140, oo_141, oo_142, oo_143, oo_144, oo_145, oo_151, oo_157, oo_194, oo_200, oo_240, oo_255, oo_256, oo_274, oo_276, oo_300, oo_516, oo_900, oo_940, oo_941, oo_999, oo_1000, oo_1040, oo_10000, oo_add, oo_mul, oo_sub, oo_lt, oo_le, oo_eq, oo_nat, oo_div, oo_rem, oo_nn, nn_oo, oo_nnlt, nn_oolt, oo_nnle, nn_oole, ↓reduceIte, if_pos, if_neg, or_false, false_or, or_true, true_or, and_true, true_and, and_false, false_and, not_true_eq_false, not_false_eq_true, Nat.not_lt_zero, Bool.false_eq_true, Bool.true_eq_false, Option.bind_some, Option.bind_none, rf_188_1, rf_188_14, rf_188_15, rf_188_16, rf_188_17, rf_188_18, rf_188_19, rf_188_20, rf_188_21, rf_188_22, rf_188_24, rf_188_25, rf_188_26, rf_188_27, rf_188_28, rf_188_31, rf_188_32, rf_188_34, rf_188_35, rf_188_36, rf_188_37, rf_188_38, rf_188_42, rf_188_43, rf_188_51, rf_188_52, rf_188_53, rf_188_55, ln_190, e93, e1, e3, q]
        exact u1
    · obtain ⟨U, u1, u2, u3⟩ := ih (k + 1) n T (by omega) (by omega) (keep T rfl (by
        rw [vM_in hs b0 (by omega) c8, vM_in hs b0 (by omega) c8]
        by_cases h : bxN v k < b
        · rw [if_pos (.inl h), if_pos (.inl h)]
        · rw [if_neg (by omega), if_neg (by omega)]))
      refine ⟨U, ?_, u2, u3⟩
      simp (disch := omega) only [f_X12_mixBox_L57, f_X12_ofCloth, f_X12_onCloth, ↓oo_m1, oo_0, oo_1, oo_2, oo_3, oo_4, oo_5, oo_6, oo_7, oo_8, oo_9, oo_10, oo_12, oo_13, oo_14, oo_15, oo_16, oo_17, oo_18, oo_20, oo_24, oo_30, oo_32, oo_36, oo_40, oo_41, oo_48, oo_50, oo_57, oo_59, oo_60, oo_61, oo_62, oo_63, oo_64, oo_66, oo_72, oo_78, oo_96, oo_97, oo_99, oo_100, oo_101, oo_105, oo_107, oo_108, oo_109, oo_110, oo_111, oo_112, oo_114, oo_115, oo_116, oo_117, oo_119, oo_122, oo_128, oo_130, oo_134, oo_135, oo_136, oo_137, oo_138, oo_139, oo_140, oo_141, oo_142, oo_143, oo_144, oo_145, oo_151, oo_157, oo_194, oo_200, oo_240, oo_255, oo_256, oo_274, oo_276, oo_300, oo_516, oo_900, oo_940, oo_941, oo_999, oo_1000, oo_1040, oo_10000, oo_add, oo_mul, oo_sub, oo_lt, oo_le, oo_eq, oo_nat, oo_div, oo_rem, oo_nn, nn_oo, oo_nnlt, nn_oolt, oo_nnle, nn_oole, ↓reduceIte, if_pos, if_neg, or_false, false_or, or_true, true_or, and_true, true_and, and_false, false_and, not_true_eq_false, not_false_eq_true, Nat.not_lt_zero, Bool.false_eq_true, Bool.true_eq_false, Option.bind_some, Option.bind_none, rf_188_1, rf_188_14, rf_188_15, rf_188_16, rf_188_17, rf_188_18, rf_188_19, rf_188_20, rf_188_21, rf_188_22, rf_188_24, rf_188_25, rf_188_26, rf_188_27, rf_188_28, rf_188_31, rf_188_32, rf_188_34, rf_188_35, rf_188_36, rf_188_37, rf_188_38, rf_188_42, rf_188_43, rf_188_51, rf_188_52, rf_188_53, rf_188_55, ln_190, e93, e1, q]
      exact u1
theorem mixBox_n (hO : HOK v) (hS : SOK v) {wet b s : Nat} (hb : b < 3) (hs : s < v 0) {T : XS} (hT : IsC T 190 516 (vM v wet b s)) : ∃ U, f_X12_mixBox 188 (oo b) (oo s) T = some U ∧ IsC U 190 516 (vM v wet b (s + 1)) ∧ Fr [(190, 9999)] T U := by
  have c8 := hS.c8
  have h1 := greatest_n hO hS hb hs hT (v 193) 0 1000000 (by omega) (by omega)
  obtain ⟨U, u1, u2, u3⟩ := mingle_n hO hS hb hs (v 193) 0 1000000 T (by omega) (by omega) (hT.ext (fun j hj => by unfold vMk; rw [if_neg (by omega)]))
  refine ⟨U, ?_, u2, u3⟩
  rw [show oo (gmN (clP v (v 144 + 1)) (bxN v) b s 0) = oo 0 from rfl] at h1
  simp (disch := omega) only [f_X12_mixBox, ↓oo_m1, oo_0, oo_1, oo_2, oo_3, oo_4, oo_5, oo_6, oo_7, oo_8, oo_9, oo_10, oo_12, oo_13, oo_14, oo_15, oo_16, oo_17, oo_18, oo_20, oo_24, oo_30, oo_32, oo_36, oo_40, oo_41, oo_48, oo_50, oo_57, oo_59, oo_60, oo_61, oo_62, oo_63, oo_64, oo_66, oo_72, oo_78, oo_96, oo_97, oo_99, oo_100, oo_101, oo_105, oo_107, oo_108, oo_109, oo_110, oo_111, oo_112, oo_114, oo_115, oo_116, oo_117, oo_119, oo_122, oo_128, oo_130, oo_134, oo_135, oo_136, oo_137, oo_138, oo_139, oo_140, oo_141, oo_142, oo_143, oo_144, oo_145, oo_151, oo_157, oo_194, oo_200, oo_240, oo_255, oo_256, oo_274, oo_276, oo_300, oo_516, oo_900, oo_940, oo_941, oo_999, oo_1000, oo_1040, oo_10000, oo_add, oo_mul, oo_sub, oo_lt, oo_le, oo_eq, oo_nat, oo_div, oo_rem, oo_nn, nn_oo, oo_nnlt, nn_oolt, oo_nnle, nn_oole, Option.bind_some, Option.bind_none, h1, u1]
theorem mixS_n (hO : HOK v) (hS : SOK v) {wet b : Nat} (hb : b < 3) : ∀ m s n T, s + m = v 0 → m < n → IsC T 190 516 (vM v wet b s) → ∃ U, f_X12_pass_L276 (oo b) 188 n (oo s) T = some U ∧ IsC U 190 516 (vM v wet b (v 0)) ∧ Fr [(190, 9999)] T U := by
  obtain ⟨⟨b0, b1, b2, b3, b4, b5⟩, -⟩ := id hO
  intro m
  induction m with
  | zero =>
    intro s n T hk hn hT
    obtain ⟨n, rfl⟩ : ∃ n', n = n' + 1 := ⟨n - 1, by omega⟩
    obtain rfl : s = v 0 := by omega
    have e0 : T.1 190 0 = oo (v 0) := by rw [hT 0 (by decide), vM_o (by omega), vF_o (by omega), vK_o (by omega), vW_o (by omega)]
    exact ⟨T, by simp (disch := omega) only [f_X12_pass_L276, ↓oo_m1, oo_0, oo_1, oo_2, oo_3, oo_4, oo_5, oo_6, oo_7, oo_8, oo_9, oo_10, oo_12, oo_13, oo_14, oo_15, oo_16, oo_17, oo_18, oo_20, oo_24, oo_30, oo_32, oo_36, oo_40, oo_41, oo_48, oo_50, oo_57, oo_59, oo_60, oo_61, oo_62, oo_63, oo_64, oo_66, oo_72, oo_78, oo_96, oo_97, oo_99, oo_100, oo_101, oo_105, oo_107, oo_108, oo_109, oo_110, oo_111, oo_112, oo_114, oo_115, oo_116, oo_117, oo_119, oo_122, oo_128, oo_130, oo_134, oo_135, oo_136, oo_137, oo_138, oo_139, oo_140, oo_141, oo_142, oo_143, oo_144, oo_145, oo_151, oo_157, oo_194, oo_200, oo_240, oo_255, oo_256, oo_274, oo_276, oo_300, oo_516, oo_900, oo_940, oo_941, oo_999, oo_1000, oo_1040, oo_10000, oo_add, oo_mul, oo_sub, oo_lt, oo_le, oo_eq, oo_nat, oo_div, oo_rem, oo_nn, nn_oo, oo_nnlt, nn_oolt, oo_nnle, nn_oole, ↓reduceIte, if_pos, if_neg, or_false, false_or, or_true, true_or, and_true, true_and, and_false, false_and, not_true_eq_false, not_false_eq_true, Nat.not_lt_zero, Bool.false_eq_true, Bool.true_eq_false, rf_188_1, rf_188_14, rf_188_15, rf_188_16, rf_188_17, rf_188_18, rf_188_19, rf_188_20, rf_188_21, rf_188_22, rf_188_24, rf_188_25, rf_188_26, rf_188_27, rf_188_28, rf_188_31, rf_188_32, rf_188_34, rf_188_35, rf_188_36, rf_188_37, rf_188_38, rf_188_42, rf_188_43, rf_188_51, rf_188_52, rf_188_53, rf_188_55, e0], hT, Fr.rf _ _⟩
  | succ m ih =>
    intro s n T hk hn hT
    obtain ⟨n, rfl⟩ : ∃ n', n = n' + 1 := ⟨n - 1, by omega⟩
    have e0 : T.1 190 0 = oo (v 0) := by rw [hT 0 (by decide), vM_o (by omega), vF_o (by omega), vK_o (by omega), vW_o (by omega)]
    obtain ⟨U1, u1, u2, u3⟩ := mixBox_n hO hS hb (show s < v 0 by omega) hT
    obtain ⟨U, z1, z2, z3⟩ := ih (s + 1) n U1 (by omega) (by omega) u2
    refine ⟨U, ?_, z2, Fr.trans u3 z3⟩
    simp (disch := omega) only [f_X12_pass_L276, ↓oo_m1, oo_0, oo_1, oo_2, oo_3, oo_4, oo_5, oo_6, oo_7, oo_8, oo_9, oo_10, oo_12, oo_13, oo_14, oo_15, oo_16, oo_17, oo_18, oo_20, oo_24, oo_30, oo_32, oo_36, oo_40, oo_41, oo_48, oo_50, oo_57, oo_59, oo_60, oo_61, oo_62, oo_63, oo_64, oo_66, oo_72, oo_78, oo_96, oo_97, oo_99, oo_100, oo_101, oo_105, oo_107, oo_108, oo_109, oo_110, oo_111, oo_112, oo_114, oo_115, oo_116, oo_117, oo_119, oo_122, oo_128, oo_130, oo_134, oo_135, oo_136, oo_137, oo_138, oo_139, oo_140, oo_141, oo_142, oo_143, oo_144, oo_145, oo_151, oo_157, oo_194, oo_200, oo_240, oo_255, oo_256, oo_274, oo_276, oo_300, oo_516, oo_900, oo_940, oo_941, oo_999, oo_1000, oo_1040, oo_10000, oo_add, oo_mul, oo_sub, oo_lt, oo_le, oo_eq, oo_nat, oo_div, oo_rem, oo_nn, nn_oo, oo_nnlt, nn_oolt, oo_nnle, nn_oole, ↓reduceIte, if_pos, if_neg, or_false, false_or, or_true, true_or, and_true, true_and, and_false, false_and, not_true_eq_false, not_false_eq_true, Nat.not_lt_zero, Bool.false_eq_true, Bool.true_eq_false, Option.bind_some, Option.bind_none, rf_188_1, rf_188_14, rf_188_15, rf_188_16, rf_188_17, rf_188_18, rf_188_19, rf_188_20, rf_188_21, rf_188_22, rf_188_24, rf_188_25, rf_188_26, rf_188_27, rf_188_28, rf_188_31, rf_188_32, rf_188_34, rf_188_35, rf_188_36, rf_188_37, rf_188_38, rf_188_42, rf_188_43, rf_188_51, rf_188_52, rf_188_53, rf_188_55, e0, u1]
    exact z1
theorem vM_next {wet b : Nat} {j : Nat} : vM v wet b (v 0) j = vM v wet (b + 1) 0 j := by
  unfold vM
  by_cases h1 : 194 ≤ j ∧ j < 274 ∧ (j - 194) / 10 < v 193 ∧ 4 ≤ (j - 194) % 10 ∧ (j - 194) % 10 - 4 < v 0 ∧ (bxN v ((j - 194) / 10) < b ∨ (bxN v ((j - 194) / 10) = b ∧ (j - 194) % 10 - 4 < v 0))
  · rw [if_pos h1, if_pos (by omega)]
  · rw [if_neg h1, if_neg (by omega)]
theorem mixB_n (hO : HOK v) (hS : SOK v) {wet : Nat} : ∀ m b n T, b + m = 3 → m < n → IsC T 190 516 (vM v wet b 0) → ∃ U, f_X12_pass_L268 188 n (oo b) T = some U ∧ IsC U 190 516 (vM v wet 3 0) ∧ Fr [(190, 9999)] T U := by
  obtain ⟨⟨b0, b1, b2, b3, b4, b5⟩, -⟩ := id hO
  intro m
  induction m with
  | zero =>
    intro b n T hk hn hT
    obtain ⟨n, rfl⟩ : ∃ n', n = n' + 1 := ⟨n - 1, by omega⟩
    obtain rfl : b = 3 := by omega
    exact ⟨T, by simp (disch := omega) only [f_X12_pass_L268, ↓oo_m1, oo_0, oo_1, oo_2, oo_3, oo_4, oo_5, oo_6, oo_7, oo_8, oo_9, oo_10, oo_12, oo_13, oo_14, oo_15, oo_16, oo_17, oo_18, oo_20, oo_24, oo_30, oo_32, oo_36, oo_40, oo_41, oo_48, oo_50, oo_57, oo_59, oo_60, oo_61, oo_62, oo_63, oo_64, oo_66, oo_72, oo_78, oo_96, oo_97, oo_99, oo_100, oo_101, oo_105, oo_107, oo_108, oo_109, oo_110, oo_111, oo_112, oo_114, oo_115, oo_116, oo_117, oo_119, oo_122, oo_128, oo_130, oo_134, oo_135, oo_136, oo_137, oo_138, oo_139, oo_140, oo_141, oo_142, oo_143, oo_144, oo_145, oo_151, oo_157, oo_194, oo_200, oo_240, oo_255, oo_256, oo_274, oo_276, oo_300, oo_516, oo_900, oo_940, oo_941, oo_999, oo_1000, oo_1040, oo_10000, oo_add, oo_mul, oo_sub, oo_lt, oo_le, oo_eq, oo_nat, oo_div, oo_rem, oo_nn, nn_oo, oo_nnlt, nn_oolt, oo_nnle, nn_oole, ↓reduceIte, if_pos, if_neg, or_false, false_or, or_true, true_or, and_true, true_and, and_false, false_and, not_true_eq_false, not_false_eq_true, Nat.not_lt_zero, Bool.false_eq_true, Bool.true_eq_false], hT, Fr.rf _ _⟩
  | succ m ih =>
    intro b n T hk hn hT
    obtain ⟨n, rfl⟩ : ∃ n', n = n' + 1 := ⟨n - 1, by omega⟩
    obtain ⟨U1, u1, u2, u3⟩ := mixS_n hO hS (show b < 3 by omega) (v 0) 0 1000000 T (by omega) (by omega) hT
    obtain ⟨U, z1, z2, z3⟩ := ih (b + 1) n U1 (by omega) (by omega) (u2.ext (fun j _ => vM_next))
    refine ⟨U, ?_, z2, Fr.trans u3 z3⟩
    simp (disch := omega) only [f_X12_pass_L268, ↓oo_m1, oo_0, oo_1, oo_2, oo_3, oo_4, oo_5, oo_6, oo_7, oo_8, oo_9, oo_10, oo_12, oo_13, oo_14, oo_15, oo_16, oo_17, oo_18, oo_20, oo_24, oo_30, oo_32, oo_36, oo_40, oo_41, oo_48, oo_50, oo_57, oo_59, oo_60, oo_61, oo_62, oo_63, oo_64, oo_66, oo_72, oo_78, oo_96, oo_97, oo_99, oo_100, oo_101, oo_105, oo_107, oo_108, oo_109, oo_110, oo_111, oo_112, oo_114, oo_115, oo_116, oo_117, oo_119, oo_122, oo_128, oo_130, oo_134, oo_135, oo_136, oo_137, oo_138, oo_139, oo_140, oo_141, oo_142, oo_143, oo_144, oo_145, oo_151, oo_157, oo_194, oo_200, oo_240, oo_255, oo_256, oo_274, oo_276, oo_300, oo_516, oo_900, oo_940, oo_941, oo_999, oo_1000, oo_1040, oo_10000, oo_add, oo_mul, oo_sub, oo_lt, oo_le, oo_eq, oo_nat, oo_div, oo_rem, oo_nn, nn_oo, oo_nnlt, nn_oolt, oo_nnle, nn_oole, ↓reduceIte, if_pos, if_neg, or_false, false_or, or_true, true_or, and_true, true_and, and_false, false_and, not_true_eq_false, not_false_eq_true, Nat.not_lt_zero, Bool.false_eq_true, Bool.true_eq_false, Option.bind_some, Option.bind_none, u1]
    exact z1
theorem vM_all (hO : HOK v) (hS : SOK v) {wet j : Nat} : vM v wet 3 0 j = pnN v wet j := by
  obtain ⟨⟨b0, b1, b2, b3, b4, b5⟩, -⟩ := id hO
  have c8 := hS.c8
  by_cases h1 : 194 ≤ j ∧ j < 274
  · obtain ⟨c, z, hc, hz, rfl⟩ : ∃ c z, c < 8 ∧ z < 10 ∧ j = 194 + 10 * c + z := ⟨(j - 194) / 10, (j - 194) % 10, by omega, by omega, by omega⟩
    by_cases h2 : z < 4 ∨ 4 + v 0 ≤ z ∨ v 193 ≤ c
    · rw [vM_io hc hz h2]
      by_cases h3 : z < 4
      · rw [vF_io hc hz (.inl h3), pnN_ci hc h3]
      · obtain ⟨s, hs, rfl⟩ : ∃ s, s < 6 ∧ z = 4 + s := ⟨z - 4, by omega, by omega⟩
        rw [← Nat.add_assoc, pnN_clo (by omega) hc hs]
        by_cases h4 : v 0 ≤ s
        · rw [Nat.add_assoc, vF_io hc hz (.inr (by omega)), ← Nat.add_assoc]
        · rw [vF_in (by omega) b0 hc, if_neg (by omega)]
    · obtain ⟨s, hs, rfl⟩ : ∃ s, s < v 0 ∧ z = 4 + s := ⟨z - 4, by omega, by omega⟩
      have h5 : bxN v c < 3 := (hS.2.2.2.2.2.1 c (by omega)).2.1
      rw [← Nat.add_assoc, vM_in hs b0 (by omega) c8, if_pos (.inl h5), pnN_cl (by omega) c8 hs b0]
  · rw [vM_o (by omega), vF_o (by omega)]
    by_cases h2 : 157 ≤ j ∧ j < 193
    · obtain ⟨c, s, hc, hs, rfl⟩ : ∃ c s, c < 6 ∧ s < 6 ∧ j = 157 + 6 * c + s := ⟨(j - 157) / 6, (j - 157) % 6, by omega, by omega, by omega⟩
      rw [vK_in hs hc]
      by_cases h3 : c < v 3
      · rw [if_pos h3]
      · rw [if_neg h3, pnN_cto (.inl (by omega)) hc hs]
    · rw [vK_o h2]
      by_cases h3 : 145 ≤ j ∧ j < 151
      · obtain ⟨w, hw, rfl⟩ : ∃ w, w < 6 ∧ j = 145 + w := ⟨j - 145, by omega, by omega⟩
        rw [vW_wh hw, pnN_wh hw]
      · by_cases h4 : j = 144
        · rw [h4]; rfl
        · rw [vW_o (by omega), pnN_o (by omega)]
theorem pass_n {S : XS} {b : Bool} (hN : IsC S 190 516 v) (hO : HOK v) (hS : SOK v) : ∃ T, f_X12_pass 188 b S = some T ∧ IsC T 190 516 (pnN v (wetN v b)) ∧ Fr [(190, 9999)] S T := by
  obtain ⟨⟨b0, b1, b2, b3, b4, b5⟩, -, -, -, -, -, hrn, -⟩ := id hO
  have h999 := hS.1
  have c8 := hS.c8
  have h1 : IsC (sI S 190 144 (oo (v 144 + 1))) 190 516 (vW v 0) := hN.set.ext (fun j hj => by
    unfold upN vW whN
    by_cases h : j = 144
    · rw [if_pos h, if_pos h]
    · rw [if_neg h, if_neg h]
      by_cases h2 : 145 ≤ j ∧ j < 151
      · rw [if_pos h2, if_pos (by rfl), show 145 + (j - 145) = j by omega]
      · rw [if_neg h2])
  obtain ⟨T1, t1, t2, t3⟩ := went_n hO h999 (b := b) (v 4) 0 1000000 _ (by omega) (by omega) h1
  have e144 : T1.1 190 144 = oo (v 144 + 1) := t2 144 (by decide)
  have hr := isRain_n (h := v 144 + 1) t2 (by rw [vW_o (by omega)]; exact b5) (fun k hk => by
    rw [vW_o (by omega)] at hk
    rw [vW_o (by omega)]
    exact (hrn k hk).2) (by omega)
  have hr2 : rnN (vW v (v 4)) (v 144 + 1) (vW v (v 4) 5) = rnN v (v 144 + 1) (v 5) := by
    rw [vW_o (by omega), rnN_ext (v := vW v (v 4)) (w := v) (fun k hk => vW_o (by omega)) _ b5]
  rw [hr2] at hr
  have hw2 : wetN v b ≤ 2 := by unfold wetN; split <;> omega
  obtain ⟨T2, s1, s2, s3⟩ := coats_n hO hS hw2 (v 3) 0 1000000 T1 (by omega) (by omega) (t2.ext (fun j hj => by
    unfold vK
    by_cases h : 157 ≤ j ∧ j < 193
    · rw [if_pos h, if_neg (by omega), vW_o (by omega)]
    · rw [if_neg h]))
  obtain ⟨T3, r1, r2, r3⟩ := cloths_n hO hS (wet := wetN v b) (v 193) 0 1000000 T2 (by omega) (by omega) (s2.ext (fun j hj => by unfold vF; rw [if_neg (by omega)]))
  obtain ⟨T4, q1, q2, q3⟩ := mixB_n hO hS (wet := wetN v b) 3 0 1000000 T3 rfl (by decide) (r2.ext (fun j hj => by unfold vM; rw [if_neg (by omega)]))
  refine ⟨T4, ?_, q2.ext (fun j hj => vM_all hO hS), Fr.trans (Fr.sIr (Fr.rf _ _) rfl) (Fr.trans t3 (Fr.trans s3 (Fr.trans r3 q3)))⟩
  have e0 : S.1 190 144 = oo (v 144) := hN 144 (by decide)
  cases b with
  | true =>
    have hw : wetN v true = 2 := if_pos (.inl rfl)
    rw [hw] at s1
    simp (disch := omega) only [f_X12_pass, ↓oo_m1, oo_0, oo_1, oo_2, oo_3, oo_4, oo_5, oo_6, oo_7, oo_8, oo_9, oo_10, oo_12, oo_13, oo_14, oo_15, oo_16, oo_17, oo_18, oo_20, oo_24, oo_30, oo_32, oo_36, oo_40, oo_41, oo_48, oo_50, oo_57, oo_59, oo_60, oo_61, oo_62, oo_63, oo_64, oo_66, oo_72, oo_78, oo_96, oo_97, oo_99, oo_100, oo_101, oo_105, oo_107, oo_108, oo_109, oo_110, oo_111, oo_112, oo_114, oo_115, oo_116, oo_117, oo_119, oo_122, oo_128, oo_130, oo_134, oo_135, oo_136, oo_137, oo_138, oo_139, oo_140, oo_141, oo_142, oo_143, oo_144, oo_145, oo_151, oo_157, oo_194, oo_200, oo_240, oo_255, oo_256, oo_274, oo_276, oo_300, oo_516, oo_900, oo_940, oo_941, oo_999, oo_1000, oo_1040, oo_10000, oo_add, oo_mul, oo_sub, oo_lt, oo_le, oo_eq, oo_nat, oo_div, oo_rem, oo_nn, nn_oo, oo_nnlt, nn_oolt, oo_nnle, nn_oole, ↓reduceIte, if_pos, if_neg, or_false, false_or, or_true, true_or, and_true, true_and, and_false, false_and, not_true_eq_false, not_false_eq_true, Nat.not_lt_zero, Bool.false_eq_true, Bool.true_eq_false, Option.bind_some, Option.bind_none, rf_188_1, rf_188_14, rf_188_15, rf_188_16, rf_188_17, rf_188_18, rf_188_19, rf_188_20, rf_188_21, rf_188_22, rf_188_24, rf_188_25, rf_188_26, rf_188_27, rf_188_28, rf_188_31, rf_188_32, rf_188_34, rf_188_35, rf_188_36, rf_188_37, rf_188_38, rf_188_42, rf_188_43, rf_188_51, rf_188_52, rf_188_53, rf_188_55, e0, t1, e144, s1, r1, q1]
  | false =>
    by_cases h : rnN v (v 144 + 1) (v 5) ≠ 0
    · have hw : wetN v false = 2 := if_pos (.inr h)
      rw [hw] at s1
      rw [decide_eq_true h] at hr
      simp (disch := omega) only [f_X12_pass, ↓oo_m1, oo_0, oo_1, oo_2, oo_3, oo_4, oo_5, oo_6, oo_7, oo_8, oo_9, oo_10, oo_12, oo_13, oo_14, oo_15, oo_16, oo_17, oo_18, oo_20, oo_24, oo_30, oo_32, oo_36, oo_40, oo_41, oo_48, oo_50, oo_57, oo_59, oo_60, oo_61, oo_62, oo_63, oo_64, oo_66, oo_72, oo_78, oo_96, oo_97, oo_99, oo_100, oo_101, oo_105, oo_107, oo_108, oo_109, oo_110, oo_111, oo_112, oo_114, oo_115, oo_116, oo_117, oo_119, oo_122, oo_128, oo_130, oo_134, oo_135, oo_136, oo_137, oo_138, oo_139, oo_140, oo_141, oo_142, oo_143, oo_144, oo_145, oo_151, oo_157, oo_194, oo_200, oo_240, oo_255, oo_256, oo_274, oo_276, oo_300, oo_516, oo_900, oo_940, oo_941, oo_999, oo_1000, oo_1040, oo_10000, oo_add, oo_mul, oo_sub, oo_lt, oo_le, oo_eq, oo_nat, oo_div, oo_rem, oo_nn, nn_oo, oo_nnlt, nn_oolt, oo_nnle, nn_oole, ↓reduceIte, if_pos, if_neg, or_false, false_or, or_true, true_or, and_true, true_and, and_false, false_and, not_true_eq_false, not_false_eq_true, Nat.not_lt_zero, Bool.false_eq_true, Bool.true_eq_false, Option.bind_some, Option.bind_none, rf_188_1, rf_188_14, rf_188_15, rf_188_16, rf_188_17, rf_188_18, rf_188_19, rf_188_20, rf_188_21, rf_188_22, rf_188_24, rf_188_25, rf_188_26, rf_188_27, rf_188_28, rf_188_31, rf_188_32, rf_188_34, rf_188_35, rf_188_36, rf_188_37, rf_188_38, rf_188_42, rf_188_43, rf_188_51, rf_188_52, rf_188_53, rf_188_55, e0, t1, e144, hr, s1, r1, q1]
    · have hw : wetN v false = 0 := if_neg (by simp [h])
      rw [hw] at s1
      rw [decide_eq_false h] at hr
      simp (disch := omega) only [f_X12_pass, ↓oo_m1, oo_0, oo_1, oo_2, oo_3, oo_4, oo_5, oo_6, oo_7, oo_8, oo_9, oo_10, oo_12, oo_13, oo_14, oo_15, oo_16, oo_17, oo_18, oo_20, oo_24, oo_30, oo_32, oo_36, oo_40, oo_41, oo_48, oo_50, oo_57, oo_59, oo_60, oo_61, oo_62, oo_63, oo_64, oo_66, oo_72, oo_78, oo_96, oo_97, oo_99, oo_100, oo_101, oo_105, oo_107, oo_108, oo_109, oo_110, oo_111, oo_112, oo_114, oo_115, oo_116, oo_117, oo_119, oo_122, oo_128, oo_130, oo_134, oo_135, oo_136, oo_137, oo_138, oo_139, oo_140, oo_141, oo_142, oo_143, oo_144, oo_145, oo_151, oo_157, oo_194, oo_200, oo_240, oo_255, oo_256, oo_274, oo_276, oo_300, oo_516, oo_900, oo_940, oo_941, oo_999, oo_1000, oo_1040, oo_10000, oo_add, oo_mul, oo_sub, oo_lt, oo_le, oo_eq, oo_nat, oo_div, oo_rem, oo_nn, nn_oo, oo_nnlt, nn_oolt, oo_nnle, nn_oole, ↓reduceIte, if_pos, if_neg, or_false, false_or, or_true, true_or, and_true, true_and, and_false, false_and, not_true_eq_false, not_false_eq_true, Nat.not_lt_zero, Bool.false_eq_true, Bool.true_eq_false, Option.bind_some, Option.bind_none, rf_188_1, rf_188_14, rf_188_15, rf_188_16, rf_188_17, rf_188_18, rf_188_19, rf_188_20, rf_188_21, rf_188_22, rf_188_24, rf_188_25, rf_188_26, rf_188_27, rf_188_28, rf_188_31, rf_188_32, rf_188_34, rf_188_35, rf_188_36, rf_188_37, rf_188_38, rf_188_42, rf_188_43, rf_188_51, rf_188_52, rf_188_53, rf_188_55, e0, t1, e144, hr, s1, r1, q1]
end MX
