def lfN (v b : Nat → Nat) : Nat → Nat → Nat
  | 0 => fun _ => 0
  | i + 1 => opN v (b i) (lfN v b i)
def anN (v b : Nat → Nat) : Nat → Nat
  | 0 => 0
  | i + 1 => if anN v b i = 0 then (if dnN v (b i) (lfN v b i) = true then i + 1 else 0) else anN v b i
theorem anN_le (v b : Nat → Nat) : ∀ i, anN v b i ≤ i := by
  intro i
  induction i with
  | zero => exact Nat.le_refl _
  | succ i ih =>
    rw [anN]
    split
    · split <;> omega
    · omega
theorem lfN_le {v b : Nat → Nat} (hS : SOK v) {N : Nat} (hb : ∀ j, j < N → b j < v 193) : ∀ i, i ≤ N → ∀ s, s < 6 → lfN v b i s ≤ 99 := by
  intro i
  induction i with
  | zero => intro _ s _; exact Nat.zero_le _
  | succ i ih =>
    intro hi s hs
    exact opN_le hS (hb i (by omega)) hs (ih (by omega) s hs)
section DR
variable {v b : Nat → Nat} {N : Nat}
theorem drow_c (hS : SOK v) (hN8 : N ≤ 8) (hbC : ∀ j, j < N → b j < v 193) : ∀ m k n T, k + m = N → m < n → IsWd T 28 v → T.1 1 1 = oo N → (∀ j, j < N → T.1 2 j = oo (b j)) → (∀ s, s < 6 → T.1 158 s = oo (lfN v b k s)) → ∃ U, f_X4_openRow_L24 157 28 1 n (enc (anN v b k)) (oo k) T = some (enc (anN v b N), U) ∧ (∀ s, s < 6 → U.1 158 s = oo (lfN v b N s)) ∧ Fr [(158, 9999)] T U := by
  have h8 := hS.c8
  intro m
  induction m with
  | zero =>
    intro k n T hk hn hW e1 e2 h158
    obtain ⟨n, rfl⟩ : ∃ n', n = n' + 1 := ⟨n - 1, by omega⟩
    obtain rfl : k = N := by omega
    refine ⟨T, ?_, h158, Fr.rf _ _⟩
    simp (disch := omega) only [f_X4_openRow_L24, ↓oo_m1, oo_0, oo_1, oo_2, oo_3, oo_4, oo_5, oo_6, oo_7, oo_8, oo_9, oo_10, oo_12, oo_13, oo_14, oo_15, oo_16, oo_17, oo_18, oo_20, oo_24, oo_30, oo_32, oo_36, oo_40, oo_41, oo_48, oo_50, oo_57, oo_59, oo_60, oo_61, oo_62, oo_63, oo_64, oo_66, oo_72, oo_78, oo_96, oo_97, oo_99, oo_100, oo_101, oo_105, oo_107, oo_108, oo_109, oo_110, oo_111, oo_112, oo_114, oo_115, oo_116, oo_117, oo_119, oo_122, oo_128, oo_130, oo_134, oo_135, oo_136, oo_137, oo_138, oo_139, oo_140, oo_141, oo_142, oo_143, oo_144, oo_145, oo_151, oo_157, oo_194, oo_200, oo_240, oo_255, oo_256, oo_274, oo_276, oo_300, oo_516, oo_900, oo_940, oo_941, oo_999, oo_1000, oo_1040, oo_10000, oo_add, oo_mul, oo_sub, oo_lt, oo_le, oo_eq, oo_nat, oo_div, oo_rem, oo_nn, nn_oo, oo_nnlt, nn_oolt, oo_nnle, nn_oole, ↓reduceIte, if_pos, if_neg, or_false, false_or, or_true, true_or, and_true, true_and, and_false, false_and, not_true_eq_false, not_false_eq_true, Nat.not_lt_zero, Bool.false_eq_true, Bool.true_eq_false, e1]
  | succ m ih =>
    intro k n T hk hn hW e1 e2 h158
    obtain ⟨n, rfl⟩ : ∃ n', n = n' + 1 := ⟨n - 1, by omega⟩
    have hc := hbC k (by omega)
    have hl : ∀ s, s < 6 → T.1 158 (0 * 6 + s) = oo (lfN v b k s) ∧ lfN v b k s ≤ 99 := fun s hs => ⟨by rw [Nat.zero_mul, Nat.zero_add]; exact h158 s hs, lfN_le hS hbC k (by omega) s hs⟩
    have ho := open_c hW hS (a := 158) (r := 0) (q := 0) (N := 6) hc rfl (by decide) (by decide) (by decide) (.inl rfl) (by decide) hl
    have hd := dn_c hW hS (a := 158) (r := 0) (N := 6) hc rfl (by decide) (by decide) hl
    have hst := str6 (S := T) (c := 32) (r := b k) (g := clothG v (b k)) (cloth_g hW hS hc) (fun s hs => by have := cl99 hS hc hs; omega)
    have e2k := e2 k (by omega)
    have hF : Fr [(158, 9999)] T (blk T 158 (0 * 6) 6 (fun j => oo (opN v (b k) (lfN v b k) (j - 0 * 6)))) := Fr.blk (Fr.rf _ _) rfl
    have h158' : ∀ s, s < 6 → (blk T 158 (0 * 6) 6 (fun j => oo (opN v (b k) (lfN v b k) (j - 0 * 6)))).1 158 s = oo (lfN v b (k + 1) s) := fun s hs => by
      rw [blk_in (by omega), Nat.zero_mul, Nat.sub_zero]
      rfl
    generalize blk T 158 (0 * 6) 6 (fun j => oo (opN v (b k) (lfN v b k) (j - 0 * 6))) = T1 at *
    obtain ⟨U, u1, u2, u3⟩ := ih (k + 1) n T1 (by omega) (by omega) (hW.fr hF rfl) (by rw [hF.get rfl]; exact e1) (fun j hj => by rw [hF.row (c := 2) rfl]; exact e2 j hj) h158'
    refine ⟨U, ?_, u2, Fr.trans hF u3⟩
    have han : anN v b (k + 1) = if anN v b k = 0 then (if dnN v (b k) (lfN v b k) = true then k + 1 else 0) else anN v b k := rfl
    rw [han] at u1
    have hle := anN_le v b k
    by_cases h0 : anN v b k = 0
    · rw [h0, enc_0]
      rw [if_pos h0] at u1
      cases hD : dnN v (b k) (lfN v b k) with
      | true =>
        rw [hD] at hd u1
        rw [if_pos rfl, enc_s] at u1
        simp (disch := omega) only [f_X4_openRow_L24, ↓oo_m1, oo_0, oo_1, oo_2, oo_3, oo_4, oo_5, oo_6, oo_7, oo_8, oo_9, oo_10, oo_12, oo_13, oo_14, oo_15, oo_16, oo_17, oo_18, oo_20, oo_24, oo_30, oo_32, oo_36, oo_40, oo_41, oo_48, oo_50, oo_57, oo_59, oo_60, oo_61, oo_62, oo_63, oo_64, oo_66, oo_72, oo_78, oo_96, oo_97, oo_99, oo_100, oo_101, oo_105, oo_107, oo_108, oo_109, oo_110, oo_111, oo_112, oo_114, oo_115, oo_116, oo_117, oo_119, oo_122, oo_128, oo_130, oo_134, oo_135, oo_136, oo_137, oo_138, oo_139, oo_140, oo_141, oo_142, oo_143, oo_144, oo_145, oo_151, oo_157, oo_194, oo_200, oo_240, oo_255, oo_256, oo_274, oo_276, oo_300, oo_516, oo_900, oo_940, oo_941, oo_999, oo_1000, oo_1040, oo_10000, oo_add, oo_mul, oo_sub, oo_lt, oo_le, oo_eq, oo_nat, oo_div, oo_rem, oo_nn, nn_oo, oo_nnlt, nn_oolt, oo_nnle, nn_oole, ↓reduceIte, if_pos, if_neg, or_false, false_or, or_true, true_or, and_true, true_and, and_false, false_and, not_true_eq_false, not_false_eq_true, Nat.not_lt_zero, Bool.false_eq_true, Bool.true_eq_false, Option.bind_some, Option.bind_none, rf_1_0, rf_1_4, rf_1_5, rf_1_6, rf_1_7, rf_28_1, rf_28_2, rf_28_3, rf_28_5, rf_28_6, rf_28_7, rf_28_8, rf_157_0, rf_157_3, rf_157_4, rf_157_5, rf_157_6, rf_157_7, rf_157_8, g_2, e1, e2k, hst, hd, ho]
        exact u1
      | false =>
        rw [hD] at hd u1
        rw [if_neg (by decide), enc_0] at u1
        simp (disch := omega) only [f_X4_openRow_L24, ↓oo_m1, oo_0, oo_1, oo_2, oo_3, oo_4, oo_5, oo_6, oo_7, oo_8, oo_9, oo_10, oo_12, oo_13, oo_14, oo_15, oo_16, oo_17, oo_18, oo_20, oo_24, oo_30, oo_32, oo_36, oo_40, oo_41, oo_48, oo_50, oo_57, oo_59, oo_60, oo_61, oo_62, oo_63, oo_64, oo_66, oo_72, oo_78, oo_96, oo_97, oo_99, oo_100, oo_101, oo_105, oo_107, oo_108, oo_109, oo_110, oo_111, oo_112, oo_114, oo_115, oo_116, oo_117, oo_119, oo_122, oo_128, oo_130, oo_134, oo_135, oo_136, oo_137, oo_138, oo_139, oo_140, oo_141, oo_142, oo_143, oo_144, oo_145, oo_151, oo_157, oo_194, oo_200, oo_240, oo_255, oo_256, oo_274, oo_276, oo_300, oo_516, oo_900, oo_940, oo_941, oo_999, oo_1000, oo_1040, oo_10000, oo_add, oo_mul, oo_sub, oo_lt, oo_le, oo_eq, oo_nat, oo_div, oo_rem, oo_nn, nn_oo, oo_nnlt, nn_oolt, oo_nnle, nn_oole, ↓reduceIte, if_pos, if_neg, or_false, false_or, or_true, true_or, and_true, true_and, and_false, false_and, not_true_eq_false, not_false_eq_true, Nat.not_lt_zero, Bool.false_eq_true, Bool.true_eq_false, Option.bind_some, Option.bind_none, rf_1_0, rf_1_4, rf_1_5, rf_1_6, rf_1_7, rf_28_1, rf_28_2, rf_28_3, rf_28_5, rf_28_6, rf_28_7, rf_28_8, rf_157_0, rf_157_3, rf_157_4, rf_157_5, rf_157_6, rf_157_7, rf_157_8, g_2, e1, e2k, hst, hd, ho]
        exact u1
    · rw [if_neg h0] at u1
      have hne : ¬ enc (anN v b k) = nn := by rw [enc_nn (by omega)]; exact h0
      simp (disch := omega) only [f_X4_openRow_L24, ↓oo_m1, oo_0, oo_1, oo_2, oo_3, oo_4, oo_5, oo_6, oo_7, oo_8, oo_9, oo_10, oo_12, oo_13, oo_14, oo_15, oo_16, oo_17, oo_18, oo_20, oo_24, oo_30, oo_32, oo_36, oo_40, oo_41, oo_48, oo_50, oo_57, oo_59, oo_60, oo_61, oo_62, oo_63, oo_64, oo_66, oo_72, oo_78, oo_96, oo_97, oo_99, oo_100, oo_101, oo_105, oo_107, oo_108, oo_109, oo_110, oo_111, oo_112, oo_114, oo_115, oo_116, oo_117, oo_119, oo_122, oo_128, oo_130, oo_134, oo_135, oo_136, oo_137, oo_138, oo_139, oo_140, oo_141, oo_142, oo_143, oo_144, oo_145, oo_151, oo_157, oo_194, oo_200, oo_240, oo_255, oo_256, oo_274, oo_276, oo_300, oo_516, oo_900, oo_940, oo_941, oo_999, oo_1000, oo_1040, oo_10000, oo_add, oo_mul, oo_sub, oo_lt, oo_le, oo_eq, oo_nat, oo_div, oo_rem, oo_nn, nn_oo, oo_nnlt, nn_oolt, oo_nnle, nn_oole, ↓reduceIte, if_pos, if_neg, or_false, false_or, or_true, true_or, and_true, true_and, and_false, false_and, not_true_eq_false, not_false_eq_true, Nat.not_lt_zero, Bool.false_eq_true, Bool.true_eq_false, Option.bind_some, Option.bind_none, rf_1_0, rf_1_4, rf_1_5, rf_1_6, rf_1_7, rf_28_1, rf_28_2, rf_28_3, rf_28_5, rf_28_6, rf_28_7, rf_28_8, rf_157_0, rf_157_3, rf_157_4, rf_157_5, rf_157_6, rf_157_7, rf_157_8, g_2, e1, e2k, hne, ho]
      exact u1
theorem drow_n (hS : SOK v) (hN8 : N ≤ 8) (hbC : ∀ j, j < N → b j < v 193) : ∀ m k n T, k + m = N → m < n → IsC T 190 516 v → (∀ j, j < N → T.1 189 j = oo (b j)) → (∀ s, s < 6 → T.1 199 (6 * k + s) = oo (lfN v b k s)) → ∃ U, f_X12_drowned_L91 (oo N) 188 n (enc (anN v b k)) (oo k) T = some (enc (anN v b N), U) ∧ (∀ s, s < 6 → U.1 199 (6 * N + s) = oo (lfN v b N s)) ∧ Fr [(199, 9999)] T U := by
  have h8 := hS.c8
  intro m
  induction m with
  | zero =>
    intro k n T hk hn hW e2 h199
    obtain ⟨n, rfl⟩ : ∃ n', n = n' + 1 := ⟨n - 1, by omega⟩
    obtain rfl : k = N := by omega
    refine ⟨T, ?_, h199, Fr.rf _ _⟩
    simp (disch := omega) only [f_X12_drowned_L91, ↓oo_m1, oo_0, oo_1, oo_2, oo_3, oo_4, oo_5, oo_6, oo_7, oo_8, oo_9, oo_10, oo_12, oo_13, oo_14, oo_15, oo_16, oo_17, oo_18, oo_20, oo_24, oo_30, oo_32, oo_36, oo_40, oo_41, oo_48, oo_50, oo_57, oo_59, oo_60, oo_61, oo_62, oo_63, oo_64, oo_66, oo_72, oo_78, oo_96, oo_97, oo_99, oo_100, oo_101, oo_105, oo_107, oo_108, oo_109, oo_110, oo_111, oo_112, oo_114, oo_115, oo_116, oo_117, oo_119, oo_122, oo_128, oo_130, oo_134, oo_135, oo_136, oo_137, oo_138, oo_139, oo_140, oo_141, oo_142, oo_143, oo_144, oo_145, oo_151, oo_157, oo_194, oo_200, oo_240, oo_255, oo_256, oo_274, oo_276, oo_300, oo_516, oo_900, oo_940, oo_941, oo_999, oo_1000, oo_1040, oo_10000, oo_add, oo_mul, oo_sub, oo_lt, oo_le, oo_eq, oo_nat, oo_div, oo_rem, oo_nn, nn_oo, oo_nnlt, nn_oolt, oo_nnle, nn_oole, ↓reduceIte, if_pos, if_neg, or_false, false_or, or_true, true_or, and_true, true_and, and_false, false_and, not_true_eq_false, not_false_eq_true, Nat.not_lt_zero, Bool.false_eq_true, Bool.true_eq_false]
  | succ m ih =>
    intro k n T hk hn hW e2 h199
    obtain ⟨n, rfl⟩ : ∃ n', n = n' + 1 := ⟨n - 1, by omega⟩
    have hc := hbC k (by omega)
    have hl : ∀ s, s < 6 → T.1 199 (6 * k + s) = oo (lfN v b k s) ∧ lfN v b k s ≤ 99 := fun s hs => ⟨h199 s hs, lfN_le hS hbC k (by omega) s hs⟩
    have ho := open_n hW hS hc (by omega) hl
    have hd := dn_n hW hS hc (by omega) hl
    have e2k := e2 k (by omega)
    have hF : Fr [(199, 9999)] T (blk T 199 (6 * k + 6) 6 (fun j => oo (opN v (b k) (lfN v b k) (j - (6 * k + 6))))) := Fr.blk (Fr.rf _ _) rfl
    have h199' : ∀ s, s < 6 → (blk T 199 (6 * k + 6) 6 (fun j => oo (opN v (b k) (lfN v b k) (j - (6 * k + 6))))).1 199 (6 * (k + 1) + s) = oo (lfN v b (k + 1) s) := fun s hs => by
      rw [blk_in (by omega), show 6 * (k + 1) + s - (6 * k + 6) = s by omega]
      rfl
    generalize blk T 199 (6 * k + 6) 6 (fun j => oo (opN v (b k) (lfN v b k) (j - (6 * k + 6)))) = T1 at *
    obtain ⟨U, u1, u2, u3⟩ := ih (k + 1) n T1 (by omega) (by omega) (hW.cell (hF.row rfl)) (fun j hj => by rw [hF.row (c := 189) rfl]; exact e2 j hj) h199'
    refine ⟨U, ?_, u2, Fr.trans hF u3⟩
    have han : anN v b (k + 1) = if anN v b k = 0 then (if dnN v (b k) (lfN v b k) = true then k + 1 else 0) else anN v b k := rfl
    rw [han] at u1
    have hle := anN_le v b k
    by_cases h0 : anN v b k = 0
    · rw [h0, enc_0]
      rw [if_pos h0] at u1
      cases hD : dnN v (b k) (lfN v b k) with
      | true =>
        rw [hD] at hd u1
        rw [if_pos rfl, enc_s] at u1
        simp (disch := omega) only [f_X12_drowned_L91, ↓oo_m1, oo_0, oo_1, oo_2, oo_3, oo_4, oo_5, oo_6, oo_7, oo_8, oo_9, oo_10, oo_12, oo_13, oo_14, oo_15, oo_16, oo_17, oo_18, oo_20, oo_24, oo_30, oo_32, oo_36, oo_40, oo_41, oo_48, oo_50, oo_57, oo_59, oo_60, oo_61, oo_62, oo_63, oo_64, oo_66, oo_72, oo_78, oo_96, oo_97, oo_99, oo_100, oo_101, oo_105, oo_107, oo_108, oo_109, oo_110, oo_111, oo_112, oo_114, oo_115, oo_116, oo_117, oo_119, oo_122, oo_128, oo_130, oo_134, oo_135, oo_136, oo_137, oo_138, oo_139, oo_140, oo_141, oo_142, oo_143, oo_144, oo_145, oo_151, oo_157, oo_194, oo_200, oo_240, oo_255, oo_256, oo_274, oo_276, oo_300, oo_516, oo_900, oo_940, oo_941, oo_999, oo_1000, oo_1040, oo_10000, oo_add, oo_mul, oo_sub, oo_lt, oo_le, oo_eq, oo_nat, oo_div, oo_rem, oo_nn, nn_oo, oo_nnlt, nn_oolt, oo_nnle, nn_oole, ↓reduceIte, if_pos, if_neg, or_false, false_or, or_true, true_or, and_true, true_and, and_false, false_and, not_true_eq_false, not_false_eq_true, Nat.not_lt_zero, Bool.false_eq_true, Bool.true_eq_false, Option.bind_some, Option.bind_none, rf_188_1, rf_188_14, rf_188_15, rf_188_16, rf_188_17, rf_188_18, rf_188_19, rf_188_20, rf_188_21, rf_188_22, rf_188_24, rf_188_25, rf_188_26, rf_188_27, rf_188_28, rf_188_31, rf_188_32, rf_188_34, rf_188_35, rf_188_36, rf_188_37, rf_188_38, rf_188_42, rf_188_43, rf_188_51, rf_188_52, rf_188_53, rf_188_55, ln_189, e2k, hd, ho]
        exact u1
      | false =>
        rw [hD] at hd u1
        rw [if_neg (by decide), enc_0] at u1
        simp (disch := omega) only [f_X12_drowned_L91, ↓oo_m1, oo_0, oo_1, oo_2, oo_3, oo_4, oo_5, oo_6, oo_7, oo_8, oo_9, oo_10, oo_12, oo_13, oo_14, oo_15, oo_16, oo_17, oo_18, oo_20, oo_24, oo_30, oo_32, oo_36, oo_40, oo_41, oo_48, oo_50, oo_57, oo_59, oo_60, oo_61, oo_62, oo_63, oo_64, oo_66, oo_72, oo_78, oo_96, oo_97, oo_99, oo_100, oo_101, oo_105, oo_107, oo_108, oo_109, oo_110, oo_111, oo_112, oo_114, oo_115, oo_116, oo_117, oo_119, oo_122, oo_128, oo_130, oo_134, oo_135, oo_136, oo_137, oo_138, oo_139, oo_140, oo_141, oo_142, oo_143, oo_144, oo_145, oo_151, oo_157, oo_194, oo_200, oo_240, oo_255, oo_256, oo_274, oo_276, oo_300, oo_516, oo_900, oo_940, oo_941, oo_999, oo_1000, oo_1040, oo_10000, oo_add, oo_mul, oo_sub, oo_lt, oo_le, oo_eq, oo_nat, oo_div, oo_rem, oo_nn, nn_oo, oo_nnlt, nn_oolt, oo_nnle, nn_oole, ↓reduceIte, if_pos, if_neg, or_false, false_or, or_true, true_or, and_true, true_and, and_false, false_and, not_true_eq_false, not_false_eq_true, Nat.not_lt_zero, Bool.false_eq_true, Bool.true_eq_false, Option.bind_some, Option.bind_none, rf_188_1, rf_188_14, rf_188_15, rf_188_16, rf_188_17, rf_188_18, rf_188_19, rf_188_20, rf_188_21, rf_188_22, rf_188_24, rf_188_25, rf_188_26, rf_188_27, rf_188_28, rf_188_31, rf_188_32, rf_188_34, rf_188_35, rf_188_36, rf_188_37, rf_188_38, rf_188_42, rf_188_43, rf_188_51, rf_188_52, rf_188_53, rf_188_55, ln_189, e2k, hd, ho]
        exact u1
    · rw [if_neg h0] at u1
      have hne : ¬ enc (anN v b k) = nn := by rw [enc_nn (by omega)]; exact h0
      simp (disch := omega) only [f_X12_drowned_L91, ↓oo_m1, oo_0, oo_1, oo_2, oo_3, oo_4, oo_5, oo_6, oo_7, oo_8, oo_9, oo_10, oo_12, oo_13, oo_14, oo_15, oo_16, oo_17, oo_18, oo_20, oo_24, oo_30, oo_32, oo_36, oo_40, oo_41, oo_48, oo_50, oo_57, oo_59, oo_60, oo_61, oo_62, oo_63, oo_64, oo_66, oo_72, oo_78, oo_96, oo_97, oo_99, oo_100, oo_101, oo_105, oo_107, oo_108, oo_109, oo_110, oo_111, oo_112, oo_114, oo_115, oo_116, oo_117, oo_119, oo_122, oo_128, oo_130, oo_134, oo_135, oo_136, oo_137, oo_138, oo_139, oo_140, oo_141, oo_142, oo_143, oo_144, oo_145, oo_151, oo_157, oo_194, oo_200, oo_240, oo_255, oo_256, oo_274, oo_276, oo_300, oo_516, oo_900, oo_940, oo_941, oo_999, oo_1000, oo_1040, oo_10000, oo_add, oo_mul, oo_sub, oo_lt, oo_le, oo_eq, oo_nat, oo_div, oo_rem, oo_nn, nn_oo, oo_nnlt, nn_oolt, oo_nnle, nn_oole, ↓reduceIte, if_pos, if_neg, or_false, false_or, or_true, true_or, and_true, true_and, and_false, false_and, not_true_eq_false, not_false_eq_true, Nat.not_lt_zero, Bool.false_eq_true, Bool.true_eq_false, Option.bind_some, Option.bind_none, rf_188_1, rf_188_14, rf_188_15, rf_188_16, rf_188_17, rf_188_18, rf_188_19, rf_188_20, rf_188_21, rf_188_22, rf_188_24, rf_188_25, rf_188_26, rf_188_27, rf_188_28, rf_188_31, rf_188_32, rf_188_34, rf_188_35, rf_188_36, rf_188_37, rf_188_38, rf_188_42, rf_188_43, rf_188_51, rf_188_52, rf_188_53, rf_188_55, ln_189, e2k, hne, ho]
      exact u1
end DR
theorem start_n {S : XS} : f_X12_startOpening 188 S = some (blk S 199 0 6 (fun _ => oo 0)) := by
  have hl2 := loop_blk (L := f_X12_startOpening_L2 188) (a := 199) (lo := 0) (st := 0) (m := 6) (f := fun _ => oo 0) (S := S) (R := some (blk S 199 0 6 (fun _ => oo 0))) (fun n k hk => by
    simp (disch := omega) only [f_X12_startOpening_L2, ↓oo_m1, oo_0, oo_1, oo_2, oo_3, oo_4, oo_5, oo_6, oo_7, oo_8, oo_9, oo_10, oo_12, oo_13, oo_14, oo_15, oo_16, oo_17, oo_18, oo_20, oo_24, oo_30, oo_32, oo_36, oo_40, oo_41, oo_48, oo_50, oo_57, oo_59, oo_60, oo_61, oo_62, oo_63, oo_64, oo_66, oo_72, oo_78, oo_96, oo_97, oo_99, oo_100, oo_101, oo_105, oo_107, oo_108, oo_109, oo_110, oo_111, oo_112, oo_114, oo_115, oo_116, oo_117, oo_119, oo_122, oo_128, oo_130, oo_134, oo_135, oo_136, oo_137, oo_138, oo_139, oo_140, oo_141, oo_142, oo_143, oo_144, oo_145, oo_151, oo_157, oo_194, oo_200, oo_240, oo_255, oo_256, oo_274, oo_276, oo_300, oo_516, oo_900, oo_940, oo_941, oo_999, oo_1000, oo_1040, oo_10000, oo_add, oo_mul, oo_sub, oo_lt, oo_le, oo_eq, oo_nat, oo_div, oo_rem, oo_nn, nn_oo, oo_nnlt, nn_oolt, oo_nnle, nn_oole, ↓reduceIte, if_pos, if_neg, or_false, false_or, or_true, true_or, and_true, true_and, and_false, false_and, not_true_eq_false, not_false_eq_true, Nat.not_lt_zero, Bool.false_eq_true, Bool.true_eq_false, rf_188_1, rf_188_14, rf_188_15, rf_188_16, rf_188_17, rf_188_18, rf_188_19, rf_188_20, rf_188_21, rf_188_22, rf_188_24, rf_188_25, rf_188_26, rf_188_27, rf_188_28, rf_188_31, rf_188_32, rf_188_34, rf_188_35, rf_188_36, rf_188_37, rf_188_38, rf_188_42, rf_188_43, rf_188_51, rf_188_52, rf_188_53, rf_188_55, ln_199, Nat.zero_add]) (fun n => by
    simp (disch := omega) only [f_X12_startOpening_L2, ↓oo_m1, oo_0, oo_1, oo_2, oo_3, oo_4, oo_5, oo_6, oo_7, oo_8, oo_9, oo_10, oo_12, oo_13, oo_14, oo_15, oo_16, oo_17, oo_18, oo_20, oo_24, oo_30, oo_32, oo_36, oo_40, oo_41, oo_48, oo_50, oo_57, oo_59, oo_60, oo_61, oo_62, oo_63, oo_64, oo_66, oo_72, oo_78, oo_96, oo_97, oo_99, oo_100, oo_101, oo_105, oo_107, oo_108, oo_109, oo_110, oo_111, oo_112, oo_114, oo_115, oo_116, oo_117, oo_119, oo_122, oo_128, oo_130, oo_134, oo_135, oo_136, oo_137, oo_138, oo_139, oo_140, oo_141, oo_142, oo_143, oo_144, oo_145, oo_151, oo_157, oo_194, oo_200, oo_240, oo_255, oo_256, oo_274, oo_276, oo_300, oo_516, oo_900, oo_940, oo_941, oo_999, oo_1000, oo_1040, oo_10000, oo_add, oo_mul, oo_sub, oo_lt, oo_le, oo_eq, oo_nat, oo_div, oo_rem, oo_nn, nn_oo, oo_nnlt, nn_oolt, oo_nnle, nn_oole, ↓reduceIte, if_pos, if_neg, or_false, false_or, or_true, true_or, and_true, true_and, and_false, false_and, not_true_eq_false, not_false_eq_true, Nat.not_lt_zero, Bool.false_eq_true, Bool.true_eq_false]) 1000000 (by decide)
  unfold f_X12_startOpening
  rw [show (0 : Int32) = oo 0 from rfl, hl2, Option.bind_some]
theorem dr_rel {S U : XS} (hR : Rel S) (hF : Fr [(1, 1), (188, 0), (188, 2), (157, 1), (188, 33), (158, 9999), (199, 9999), (205, 9999)] S U) (e1 : U.1 1 1 = oo 0) (e2 : U.1 188 2 = oo 0) (hNo : RNos U) : Rel U := by
  obtain ⟨a1, a2, a3, ⟨v, hv, hP⟩, a6, a7, a8, a9, a10, a11⟩ := hR
  obtain ⟨n, b, hn, -, -, hb⟩ := a1
  refine ⟨⟨0, b, Nat.zero_le _, e1, e2, fun j hj => ?_⟩, a2.fr hF rfl, a3.fr hF rfl, ⟨v, hv.fr hF rfl rfl rfl rfl, hP.fr hF rfl rfl⟩, a6.fr hF rfl rfl, hNo, a8.fr hF rfl, a9.fr hF rfl, a10.fr hF rfl, a11.fr hF rfl⟩
  rw [hF.row (c := 2) rfl, hF.row (c := 189) rfl]
  exact hb j hj
theorem ag_drowned : Ag_drowned Rel := by
  intro S hR
  obtain ⟨hT, hFa, hK, ⟨v, hv, hP⟩, hKe, hNo, hWa, hC, hD, hX⟩ := id hR; obtain ⟨hN, hO, hS, hH, hW, hNm, hSe⟩ := id hv; obtain ⟨⟨b0, b1, b2, b3, b4, b5⟩, -⟩ := id hO
  obtain ⟨N, b, hN9, e1, e2, hb⟩ := id hT
  have h8 := hS.c8
  have hrc := row_c (S := S) (v := v) (b := b) hN9 hW.cn h8 e1 (fun j hj => ⟨(hb j hj).1, (hb j hj).2.2⟩) N 0 1000000 0 (by omega) (by omega) (by decide)
  have hz2 : (oo 0 - oo 2 : Int32) = -2 := by decide
  have bad : ∀ (z : rwN b (v 193) N 0 0 = false ∨ N = 0), f_X11_drowned 0 S = some (-2, sI S 1 1 (oo 0)) := fun z => by
    have hr : f_X4_isRowTold 28 1 S = some (false, S) := by
      unfold f_X4_isRowTold
      rw [show (0 : Int32) = oo 0 from rfl, hrc, Option.bind_some]
      rcases z with z | z
      · rw [z]; rfl
      · rw [z, rwN, if_pos rfl, show S.1 1 1 = oo 0 by rw [e1, z]]
        rfl
    unfold f_X11_drowned f_X4_openRow
    rw [show rf 0 14 = 157 from rfl, show rf 0 3 = 28 from rfl, show rf 0 0 = 1 from rfl, hr]
    rfl
  have hFb : Fr [(1, 1), (188, 0), (188, 2), (157, 1), (188, 33), (158, 9999), (199, 9999), (205, 9999)] S (sI (sI (sI S 1 1 (oo 0)) 188 0 (oo 0)) 188 2 (oo 0)) := Fr.sIp (Fr.sIp (Fr.sIp (Fr.rf _ _) rfl) rfl) rfl
  have hFb2 : Fr [(1, 1), (188, 0), (188, 2)] S (sI (sI (sI S 1 1 (oo 0)) 188 0 (oo 0)) 188 2 (oo 0)) := Fr.sIp (Fr.sIp (Fr.sIp (Fr.rf _ _) rfl) rfl) rfl
  have hRb : Rel (sI (sI (sI S 1 1 (oo 0)) 188 0 (oo 0)) 188 2 (oo 0)) := dr_rel hR hFb (by simp (disch := omega) only [sI_same, sI_place, sI_cell, sI_long, sL_int, sL_same, sL_place, sL_cell]) (sI_same _ _ _ _) (hNo.fr hFb2 rfl)
  have take2 : ∀ T : XS, T.1 188 2 = oo N → t_X12_take 188 (sI T 188 0 0) = (oo N, sI (sI T 188 0 (oo 0)) 188 2 (oo 0)) := fun T h => by
    unfold t_X12_take
    rw [sI_place (by decide), h]
    rfl
  have e2' : (sI S 1 1 (oo 0)).1 188 2 = oo N := by rw [sI_cell (by decide)]; exact e2
  by_cases h0 : N = 0
  · refine ⟨-2, _, _, bad (.inr h0), ?_, hRb⟩
    unfold f_X12_drowned
    rw [take2 _ e2']
    subst h0
    rfl
  · by_cases hN8 : N ≤ 8
    · have hin : t_X12_isIn (oo N) 1 8 = true := by
        simp (disch := omega) only [t_X12_isIn, ↓oo_m1, oo_0, oo_1, oo_2, oo_3, oo_4, oo_5, oo_6, oo_7, oo_8, oo_9, oo_10, oo_12, oo_13, oo_14, oo_15, oo_16, oo_17, oo_18, oo_20, oo_24, oo_30, oo_32, oo_36, oo_40, oo_41, oo_48, oo_50, oo_57, oo_59, oo_60, oo_61, oo_62, oo_63, oo_64, oo_66, oo_72, oo_78, oo_96, oo_97, oo_99, oo_100, oo_101, oo_105, oo_107, oo_108, oo_109, oo_110, oo_111, oo_112, oo_114, oo_115, oo_116, oo_117, oo_119, oo_122, oo_128, oo_130, oo_134, oo_135, oo_136, oo_137, oo_138, oo_139, oo_140, oo_141, oo_142, oo_143, oo_144, oo_145, oo_151, oo_157, oo_194, oo_200, oo_240, oo_255, oo_256, oo_274, oo_276, oo_300, oo_516, oo_900, oo_940, oo_941, oo_999, oo_1000, oo_1040, oo_10000, oo_add, oo_mul, oo_sub, oo_lt, oo_le, oo_eq, oo_nat, oo_div, oo_rem, oo_nn, nn_oo, oo_nnlt, nn_oolt, oo_nnle, nn_oole, ↓reduceIte, if_pos, if_neg, or_false, false_or, or_true, true_or, and_true, true_and, and_false, false_and, not_true_eq_false, not_false_eq_true, Nat.not_lt_zero, Bool.false_eq_true, Bool.true_eq_false]
      have hS2 : ∀ T : XS, T.1 190 = S.1 190 → T.1 189 = S.1 189 → f_X12_drowned_L27 (oo N) 188 1000000 (oo 0) (oo 0) T = some (if rwN b (v 193) N 0 0 = true then .inr () else .inl (-2, T)) := fun T h1 h2 => by
        have := row_n (S := T) (v := v) (b := b) hN9 (by rw [h1]; exact hN 193 (by decide)) h8 (fun j hj => ⟨by rw [h2]; exact (hb j hj).2.1, (hb j hj).2.2⟩) N 0 1000000 0 (by omega) (by omega) (by decide)
        rw [hz2] at this
        exact this
      cases hq : rwN b (v 193) N 0 0 with
      | false =>
        refine ⟨-2, _, _, bad (.inl hq), ?_, hRb⟩
        unfold f_X12_drowned
        rw [take2 _ e2']
        dsimp only
        rw [hin, if_pos rfl, show (0 : Int32) = oo 0 from rfl, hS2 _ (by simp (disch := omega) only [sI_same, sI_place, sI_cell, sI_long, sL_int, sL_same, sL_place, sL_cell]) (by simp (disch := omega) only [sI_same, sI_place, sI_cell, sI_long, sL_int, sL_same, sL_place, sL_cell]), hq, if_neg (by decide), Option.bind_some]
      | true =>
        obtain ⟨g1, -⟩ := rwN_spec _ _ _ hq
        have hbC : ∀ j, j < N → b j < v 193 := fun j hj => (g1 j (by omega) (by omega)).1
        have hr : f_X4_isRowTold 28 1 S = some (true, S) := by
          unfold f_X4_isRowTold
          rw [show (0 : Int32) = oo 0 from rfl, hrc, Option.bind_some, hq, if_pos rfl]
          dsimp only
          rw [if_neg (by rw [e1, show (1 : Int32) = oo 1 from rfl, oo_lt (by omega) (by omega)]; omega)]
        have hF0 : Fr [(158, 9999)] S (filI S 158 (oo 0)) := fil_fr rfl
        obtain ⟨T1, t1, t2, t3⟩ := drow_c (v := v) (b := b) hS hN8 hbC N 0 1000000 (filI S 158 (oo 0)) (by omega) (by omega) (hW.fr hF0 rfl) (by rw [hF0.get rfl]; exact e1) (fun j hj => by rw [hF0.row (c := 2) rfl]; exact (hb j (by omega)).1) (fun s hs => fil_in hs)
        have hc : f_X11_drowned 0 S = some (enc (anN v b N), sI (sI T1 157 1 (oo 1)) 1 1 (oo 0)) := by
          unfold f_X11_drowned f_X4_openRow
          rw [show rf 0 14 = 157 from rfl, show rf 0 3 = 28 from rfl, show rf 0 0 = 1 from rfl, hr, Option.bind_some]
          dsimp only
          rw [if_pos rfl, show rf 157 0 = 158 from rfl, show (0 : Int32) = oo 0 from rfl, show (-1 : Int32) = enc (anN v b 0) from rfl, t1, Option.bind_some]
          rfl
        have hF1 : Fr [(158, 9999), (157, 1), (1, 1)] S (sI (sI T1 157 1 (oo 1)) 1 1 (oo 0)) := Fr.sIp (Fr.sIp (Fr.trans (hF0.mono rfl) (t3.mono rfl)) rfl) rfl
        have hF2 : Fr [(158, 9999), (157, 1), (1, 1), (188, 0), (188, 2)] S (sI (sI (sI (sI T1 157 1 (oo 1)) 1 1 (oo 0)) 188 0 (oo 0)) 188 2 (oo 0)) := Fr.sIp (Fr.sIp (hF1.mono rfl) rfl) rfl
        have hF3 : Fr [(199, 9999)] (sI (sI (sI (sI T1 157 1 (oo 1)) 1 1 (oo 0)) 188 0 (oo 0)) 188 2 (oo 0)) (blk (sI (sI (sI (sI T1 157 1 (oo 1)) 1 1 (oo 0)) 188 0 (oo 0)) 188 2 (oo 0)) 199 0 6 (fun _ => oo 0)) := Fr.blk (Fr.rf _ _) rfl
        have hF4 : Fr [(158, 9999), (157, 1), (1, 1), (188, 0), (188, 2), (199, 9999)] S (blk (sI (sI (sI (sI T1 157 1 (oo 1)) 1 1 (oo 0)) 188 0 (oo 0)) 188 2 (oo 0)) 199 0 6 (fun _ => oo 0)) := Fr.trans (hF2.mono rfl) (hF3.mono rfl)
        obtain ⟨U, u1, u2, u3⟩ := drow_n (v := v) (b := b) hS hN8 hbC N 0 1000000 (blk (sI (sI (sI (sI T1 157 1 (oo 1)) 1 1 (oo 0)) 188 0 (oo 0)) 188 2 (oo 0)) 199 0 6 (fun _ => oo 0)) (by omega) (by omega) (hN.cell (hF4.row rfl)) (fun j hj => by rw [hF4.row (c := 189) rfl]; exact (hb j (by omega)).2.1) (fun s hs => by rw [blk_in (by omega)]; rfl)
        have hl := loop_blk (L := f_X12_drowned_L143 (enc (anN v b N)) (oo N) 188) (a := 205) (lo := 0) (st := 0) (m := 6) (f := fun j => oo (lfN v b N j)) (S := U) (R := some (blk U 205 0 6 (fun j => oo (lfN v b N j)))) (fun n k hk => by
          have e := u2 k hk
          simp (disch := omega) only [f_X12_drowned_L143, ↓oo_m1, oo_0, oo_1, oo_2, oo_3, oo_4, oo_5, oo_6, oo_7, oo_8, oo_9, oo_10, oo_12, oo_13, oo_14, oo_15, oo_16, oo_17, oo_18, oo_20, oo_24, oo_30, oo_32, oo_36, oo_40, oo_41, oo_48, oo_50, oo_57, oo_59, oo_60, oo_61, oo_62, oo_63, oo_64, oo_66, oo_72, oo_78, oo_96, oo_97, oo_99, oo_100, oo_101, oo_105, oo_107, oo_108, oo_109, oo_110, oo_111, oo_112, oo_114, oo_115, oo_116, oo_117, oo_119, oo_122, oo_128, oo_130, oo_134, oo_135, oo_136, oo_137, oo_138, oo_139, oo_140, oo_141, oo_142, oo_143, oo_144, oo_145, oo_151, oo_157, oo_194, oo_200, oo_240, oo_255, oo_256, oo_274, oo_276, oo_300, oo_516, oo_900, oo_940, oo_941, oo_999, oo_1000, oo_1040, oo_10000, oo_add, oo_mul, oo_sub, oo_lt, oo_le, oo_eq, oo_nat, oo_div, oo_rem, oo_nn, nn_oo, oo_nnlt, nn_oolt, oo_nnle, nn_oole, ↓reduceIte, if_pos, if_neg, or_false, false_or, or_true, true_or, and_true, true_and, and_false, false_and, not_true_eq_false, not_false_eq_true, Nat.not_lt_zero, Bool.false_eq_true, Bool.true_eq_false, rf_188_1, rf_188_14, rf_188_15, rf_188_16, rf_188_17, rf_188_18, rf_188_19, rf_188_20, rf_188_21, rf_188_22, rf_188_24, rf_188_25, rf_188_26, rf_188_27, rf_188_28, rf_188_31, rf_188_32, rf_188_34, rf_188_35, rf_188_36, rf_188_37, rf_188_38, rf_188_42, rf_188_43, rf_188_51, rf_188_52, rf_188_53, rf_188_55, ln_199, ln_205, blk_cell, Nat.zero_add, e]) (fun n => by
          simp (disch := omega) only [f_X12_drowned_L143, ↓oo_m1, oo_0, oo_1, oo_2, oo_3, oo_4, oo_5, oo_6, oo_7, oo_8, oo_9, oo_10, oo_12, oo_13, oo_14, oo_15, oo_16, oo_17, oo_18, oo_20, oo_24, oo_30, oo_32, oo_36, oo_40, oo_41, oo_48, oo_50, oo_57, oo_59, oo_60, oo_61, oo_62, oo_63, oo_64, oo_66, oo_72, oo_78, oo_96, oo_97, oo_99, oo_100, oo_101, oo_105, oo_107, oo_108, oo_109, oo_110, oo_111, oo_112, oo_114, oo_115, oo_116, oo_117, oo_119, oo_122, oo_128, oo_130, oo_134, oo_135, oo_136, oo_137, oo_138, oo_139, oo_140, oo_141, oo_142, oo_143, oo_144, oo_145, oo_151, oo_157, oo_194, oo_200, oo_240, oo_255, oo_256, oo_274, oo_276, oo_300, oo_516, oo_900, oo_940, oo_941, oo_999, oo_1000, oo_1040, oo_10000, oo_add, oo_mul, oo_sub, oo_lt, oo_le, oo_eq, oo_nat, oo_div, oo_rem, oo_nn, nn_oo, oo_nnlt, nn_oolt, oo_nnle, nn_oole, ↓reduceIte, if_pos, if_neg, or_false, false_or, or_true, true_or, and_true, true_and, and_false, false_and, not_true_eq_false, not_false_eq_true, Nat.not_lt_zero, Bool.false_eq_true, Bool.true_eq_false]) 1000000 (by decide)
        have hFU : Fr [(1, 1), (188, 0), (188, 2), (157, 1), (188, 33), (158, 9999), (199, 9999), (205, 9999)] S (sI (blk U 205 0 6 (fun j => oo (lfN v b N j))) 188 33 (oo 1)) := Fr.sIp (Fr.blk (Fr.trans (hF4.mono rfl) (u3.mono rfl)) rfl) rfl
        have hFW : Fr [(199, 9999), (205, 9999), (188, 33), (188, 0), (188, 2)] (sI (sI T1 157 1 (oo 1)) 1 1 (oo 0)) (sI (blk U 205 0 6 (fun j => oo (lfN v b N j))) 188 33 (oo 1)) := Fr.sIp (Fr.blk (Fr.trans (Fr.sIp (Fr.sIp (Fr.rf _ _) rfl) rfl) (Fr.trans (hF3.mono rfl) (u3.mono rfl))) rfl) rfl
        have hFV : Fr [(199, 9999), (205, 9999), (188, 33)] (sI (sI (sI (sI T1 157 1 (oo 1)) 1 1 (oo 0)) 188 0 (oo 0)) 188 2 (oo 0)) (sI (blk U 205 0 6 (fun j => oo (lfN v b N j))) 188 33 (oo 1)) := Fr.sIp (Fr.blk (Fr.trans (hF3.mono rfl) (u3.mono rfl)) rfl) rfl
        refine ⟨enc (anN v b N), _, _, hc, ?_, dr_rel hR hFU (by rw [hFW.get rfl]; exact sI_same _ _ _ _) (by rw [hFV.get rfl]; exact sI_same _ _ _ _) ?_⟩
        · unfold f_X12_drowned
          rw [take2 _ (by rw [hF1.get rfl]; exact e2)]
          dsimp only
          rw [hin, if_pos rfl, show (0 : Int32) = oo 0 from rfl, hS2 _ (by simp (disch := omega) only [sI_same, sI_place, sI_cell, sI_long, sL_int, sL_same, sL_place, sL_cell]; rw [t3.row (c := 190) rfl, hF0.row (c := 190) rfl]) (by simp (disch := omega) only [sI_same, sI_place, sI_cell, sI_long, sL_int, sL_same, sL_place, sL_cell]; rw [t3.row (c := 189) rfl, hF0.row (c := 189) rfl]), hq, if_pos rfl, Option.bind_some]
          dsimp only
          rw [start_n, Option.bind_some, show (-1 : Int32) = enc (anN v b 0) from rfl, u1, Option.bind_some]
          dsimp only
          rw [hl, Option.bind_some]
          rfl
        · obtain ⟨k, f, hk, hf, p1, p2, p3, p4, p5, p6, p7, p8⟩ := hNo
          refine ⟨k, 1, hk, Nat.le_refl _, ?_, ?_, fun i hi => ?_, ?_, ?_, fun s hs => ?_, ?_, fun s hs => ?_⟩
          · rw [hFU.get rfl]; exact p1
          · rw [hFU.get rfl]; exact p2
          · rw [hFU.row (c := 159) rfl, hFU.row (c := 201) rfl]; exact p3 i hi
          · rw [hFW.get rfl, sI_cell (by decide)]; exact sI_same _ _ _ _
          · exact sI_same _ _ _ _
          · rw [sI_cell (by decide), sI_cell (by decide), blk_in (by omega), show (blk U 205 0 6 (fun j => oo (lfN v b N j))).1 158 = T1.1 158 by rw [blk_cell (by decide), u3.row (c := 158) rfl, hF3.row (c := 158) rfl]; simp (disch := omega) only [sI_same, sI_place, sI_cell, sI_long, sL_int, sL_same, sL_place, sL_cell]]
            exact t2 s hs
          · rw [hFU.get rfl]; exact p7
          · rw [hFU.row (c := 162) rfl]; exact p8 s hs
    · have hf : rwN b (v 193) N 0 0 = false := by
        cases hq : rwN b (v 193) N 0 0 with
        | false => rfl
        | true =>
          obtain ⟨g1, g2⟩ := rwN_spec _ _ _ hq
          have := pig (v 193) N b (fun i hi => (g1 i (by omega) (by omega)).1) (fun i j hi hj h => g2 i j (by omega) (by omega) (by omega) (by omega) h)
          omega
      have hin : t_X12_isIn (oo N) 1 8 = false := by
        simp (disch := omega) only [t_X12_isIn, ↓oo_m1, oo_0, oo_1, oo_2, oo_3, oo_4, oo_5, oo_6, oo_7, oo_8, oo_9, oo_10, oo_12, oo_13, oo_14, oo_15, oo_16, oo_17, oo_18, oo_20, oo_24, oo_30, oo_32, oo_36, oo_40, oo_41, oo_48, oo_50, oo_57, oo_59, oo_60, oo_61, oo_62, oo_63, oo_64, oo_66, oo_72, oo_78, oo_96, oo_97, oo_99, oo_100, oo_101, oo_105, oo_107, oo_108, oo_109, oo_110, oo_111, oo_112, oo_114, oo_115, oo_116, oo_117, oo_119, oo_122, oo_128, oo_130, oo_134, oo_135, oo_136, oo_137, oo_138, oo_139, oo_140, oo_141, oo_142, oo_143, oo_144, oo_145, oo_151, oo_157, oo_194, oo_200, oo_240, oo_255, oo_256, oo_274, oo_276, oo_300, oo_516, oo_900, oo_940, oo_941, oo_999, oo_1000, oo_1040, oo_10000, oo_add, oo_mul, oo_sub, oo_lt, oo_le, oo_eq, oo_nat, oo_div, oo_rem, oo_nn, nn_oo, oo_nnlt, nn_oolt, oo_nnle, nn_oole, ↓reduceIte, if_pos, if_neg, or_false, false_or, or_true, true_or, and_true, true_and, and_false, false_and, not_true_eq_false, not_false_eq_true, Nat.not_lt_zero, Bool.false_eq_true, Bool.true_eq_false]
      refine ⟨-2, _, _, bad (.inl hf), ?_, hRb⟩
      unfold f_X12_drowned
      rw [take2 _ e2']
      dsimp only
      rw [hin]
      rfl
