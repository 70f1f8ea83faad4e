/-! CLOTHS opened -/
theorem fil_in {S : XS} {a j : Nat} {x : Int32} (h : j < ln a) : (filI S a x).1 a j = x := if_pos ⟨rfl, h⟩
theorem fil_fr {l : List (Nat × Nat)} {S : XS} {a : Nat} {x : Int32} (hc : l.contains (a, 9999) = true) : Fr l S (filI S a x) := fun d j hd => by
  have hne : d ≠ a := fun q => by
    subst q
    unfold tch at hd
    rw [List.any_eq_false] at hd
    exact hd _ (List.contains_iff_mem.mp hc) (by simp)
  exact ⟨(if_neg (fun q => hne q.1)), rfl⟩
/-- pigeons -/
theorem pig : ∀ (m n : Nat) (f : Nat → Nat), (∀ i, i < n → f i < m) → (∀ i j, i < n → j < n → f i = f j → i = j) → n ≤ m := by
  intro m
  induction m with
  | zero =>
    intro n f h1 _
    cases n with
    | zero => exact Nat.le_refl _
    | succ n => exact absurd (h1 0 (Nat.succ_pos _)) (Nat.not_lt_zero _)
  | succ m ih =>
    intro n f h1 h2
    cases n with
    | zero => exact Nat.zero_le _
    | succ n =>
      have := ih n (fun i => if f i = m then f n else f i) (fun i hi => by
        have a1 := h1 i (by omega)
        have a2 := h1 n (by omega)
        try dsimp only
        split
        · have : f n ≠ m := fun q => by
            have := h2 i n (by omega) (by omega) (by omega)
            omega
          omega
        · omega) (fun i j hi hj hq => by
        try dsimp only at hq
        have b1 := h2 i j (by omega) (by omega)
        have b2 := h2 i n (by omega) (by omega)
        have b3 := h2 j n (by omega) (by omega)
        split at hq <;> split at hq <;> omega)
      omega
/-- whether a row of the tape is told -/
def rwN (b : Nat → Nat) (C : Nat) : Nat → Nat → Nat → Bool
  | 0, _, _ => true
  | m + 1, i, s => if C ≤ b i then false else if s.testBit (b i) = true then false else rwN b C m (i + 1) (s ||| 2 ^ b i)
theorem rwN_spec {b : Nat → Nat} {C : Nat} : ∀ m i s, rwN b C m i s = true → (∀ j, i ≤ j → j < i + m → b j < C ∧ ¬ s.testBit (b j) = true) ∧ (∀ j k, i ≤ j → j < i + m → i ≤ k → k < i + m → b j = b k → j = k) := by
  intro m
  induction m with
  | zero => intro i s _; exact ⟨fun j h1 h2 => by omega, fun j k h1 h2 => by omega⟩
  | succ m ih =>
    intro i s h
    rw [rwN] at h
    split at h
    · cases h
    · split at h
      · cases h
      · obtain ⟨g1, g2⟩ := ih _ _ h
        have key : ∀ j, i + 1 ≤ j → j < i + 1 + m → b j < C ∧ ¬ s.testBit (b j) = true ∧ b j ≠ b i := fun j h1 h2 => by
          obtain ⟨q1, q2⟩ := g1 j h1 h2
          rw [Nat.testBit_or, Nat.testBit_two_pow] at q2
          refine ⟨q1, fun q => q2 (by rw [q]; rfl), fun q => q2 (by rw [q]; simp)⟩
        refine ⟨fun j h1 h2 => ?_, fun j k h1 h2 h3 h4 hq => ?_⟩
        · by_cases hj : j = i
          · subst hj; exact ⟨by omega, by assumption⟩
          · have := key j (by omega) (by omega)
            exact ⟨this.1, this.2.1⟩
        · by_cases hj : j = i
          · by_cases hk : k = i
            · omega
            · exact absurd (by rw [← hq, hj]) (key k (by omega) (by omega)).2.2
          · by_cases hk : k = i
            · exact absurd (by rw [hq, hk]) (key j (by omega) (by omega)).2.2
            · exact g2 j k (by omega) (by omega) (by omega) (by omega) hq
theorem row_c {S : XS} {v b : Nat → Nat} {N : Nat} (hN : N ≤ 940) (h284 : S.1 28 4 = oo (v 193)) (h8 : v 193 ≤ 8) (e1 : S.1 1 1 = oo N) (hb : ∀ j, j < 940 → S.1 2 j = oo (b j) ∧ b j < 256) : ∀ m i n s, i + m = N → m < n → s < 256 → f_X4_isRowTold_L4 28 1 n (oo s) (oo i) S = some (if rwN b (v 193) m i s = true then .inr () else .inl (false, S)) := by
  intro m
  induction m with
  | zero =>
    intro i n s hi hn hs
    obtain ⟨n, rfl⟩ : ∃ n', n = n' + 1 := ⟨n - 1, by omega⟩
    simp (disch := omega) only [f_X4_isRowTold_L4, ↓oo_m1, oo_0, oo_1, oo_2, oo_3, oo_4, oo_5, oo_6, oo_7, oo_8, oo_9, oo_10, oo_12, oo_13, oo_14, oo_15, oo_16, oo_17, oo_18, oo_20, oo_24, oo_30, oo_32, oo_36, oo_40, oo_41, oo_48, oo_50, oo_57, oo_59, oo_60, oo_61, oo_62, oo_63, oo_64, oo_66, oo_72, oo_78, oo_96, oo_97, oo_99, oo_100, oo_101, oo_105, oo_107, oo_108, oo_109, oo_110, oo_111, oo_112, oo_114, oo_115, oo_116, oo_117, oo_119, oo_122, oo_128, oo_130, oo_134, oo_135, oo_136, oo_137, oo_138, oo_139, oo_140, oo_141, oo_142, oo_143, oo_144, oo_145, oo_151, oo_157, oo_194, oo_200, oo_240, oo_255, oo_256, oo_274, oo_276, oo_300, oo_516, oo_900, oo_940, oo_941, oo_999, oo_1000, oo_1040, oo_10000, oo_add, oo_mul, oo_sub, oo_lt, oo_le, oo_eq, oo_nat, oo_div, oo_rem, oo_nn, nn_oo, oo_nnlt, nn_oolt, oo_nnle, nn_oole, ↓reduceIte, if_pos, if_neg, or_false, false_or, or_true, true_or, and_true, true_and, and_false, false_and, not_true_eq_false, not_false_eq_true, Nat.not_lt_zero, Bool.false_eq_true, Bool.true_eq_false, e1, rwN]
  | succ m ih =>
    intro i n s hi hn hs
    obtain ⟨n, rfl⟩ : ∃ n', n = n' + 1 := ⟨n - 1, by omega⟩
    obtain ⟨e2, hlt⟩ := hb i (by omega)
    rw [rwN]
    by_cases hC : v 193 ≤ b i
    · rw [if_pos hC]
      simp (disch := omega) only [f_X4_isRowTold_L4, t_X10_hasCloth, ↓oo_m1, oo_0, oo_1, oo_2, oo_3, oo_4, oo_5, oo_6, oo_7, oo_8, oo_9, oo_10, oo_12, oo_13, oo_14, oo_15, oo_16, oo_17, oo_18, oo_20, oo_24, oo_30, oo_32, oo_36, oo_40, oo_41, oo_48, oo_50, oo_57, oo_59, oo_60, oo_61, oo_62, oo_63, oo_64, oo_66, oo_72, oo_78, oo_96, oo_97, oo_99, oo_100, oo_101, oo_105, oo_107, oo_108, oo_109, oo_110, oo_111, oo_112, oo_114, oo_115, oo_116, oo_117, oo_119, oo_122, oo_128, oo_130, oo_134, oo_135, oo_136, oo_137, oo_138, oo_139, oo_140, oo_141, oo_142, oo_143, oo_144, oo_145, oo_151, oo_157, oo_194, oo_200, oo_240, oo_255, oo_256, oo_274, oo_276, oo_300, oo_516, oo_900, oo_940, oo_941, oo_999, oo_1000, oo_1040, oo_10000, oo_add, oo_mul, oo_sub, oo_lt, oo_le, oo_eq, oo_nat, oo_div, oo_rem, oo_nn, nn_oo, oo_nnlt, nn_oolt, oo_nnle, nn_oole, ↓reduceIte, if_pos, if_neg, or_false, false_or, or_true, true_or, and_true, true_and, and_false, false_and, not_true_eq_false, not_false_eq_true, Nat.not_lt_zero, Bool.false_eq_true, Bool.true_eq_false, rf_1_0, rf_1_4, rf_1_5, rf_1_6, rf_1_7, rf_28_1, rf_28_2, rf_28_3, rf_28_5, rf_28_6, rf_28_7, rf_28_8, g_2, e1, e2, h284]
    · rw [if_neg hC]
      have hb8 : b i < 8 := by omega
      by_cases hT : s.testBit (b i) = true
      · rw [if_pos hT]
        have q := bt_has s hs (b i) hb8
        rw [if_pos hT] at q
        simp (disch := omega) only [f_X4_isRowTold_L4, t_X10_hasCloth, ↓oo_m1, oo_0, oo_1, oo_2, oo_3, oo_4, oo_5, oo_6, oo_7, oo_8, oo_9, oo_10, oo_12, oo_13, oo_14, oo_15, oo_16, oo_17, oo_18, oo_20, oo_24, oo_30, oo_32, oo_36, oo_40, oo_41, oo_48, oo_50, oo_57, oo_59, oo_60, oo_61, oo_62, oo_63, oo_64, oo_66, oo_72, oo_78, oo_96, oo_97, oo_99, oo_100, oo_101, oo_105, oo_107, oo_108, oo_109, oo_110, oo_111, oo_112, oo_114, oo_115, oo_116, oo_117, oo_119, oo_122, oo_128, oo_130, oo_134, oo_135, oo_136, oo_137, oo_138, oo_139, oo_140, oo_141, oo_142, oo_143, oo_144, oo_145, oo_151, oo_157, oo_194, oo_200, oo_240, oo_255, oo_256, oo_274, oo_276, oo_300, oo_516, oo_900, oo_940, oo_941, oo_999, oo_1000, oo_1040, oo_10000, oo_add, oo_mul, oo_sub, oo_lt, oo_le, oo_eq, oo_nat, oo_div, oo_rem, oo_nn, nn_oo, oo_nnlt, nn_oolt, oo_nnle, nn_oole, ↓reduceIte, if_pos, if_neg, or_false, false_or, or_true, true_or, and_true, true_and, and_false, false_and, not_true_eq_false, not_false_eq_true, Nat.not_lt_zero, Bool.false_eq_true, Bool.true_eq_false, rf_1_0, rf_1_4, rf_1_5, rf_1_6, rf_1_7, rf_28_1, rf_28_2, rf_28_3, rf_28_5, rf_28_6, rf_28_7, rf_28_8, g_2, e1, e2, h284, q]
      · rw [if_neg hT]
        have q := bt_has s hs (b i) hb8
        rw [if_neg hT] at q
        simp (disch := omega) only [f_X4_isRowTold_L4, t_X10_hasCloth, ↓oo_m1, oo_0, oo_1, oo_2, oo_3, oo_4, oo_5, oo_6, oo_7, oo_8, oo_9, oo_10, oo_12, oo_13, oo_14, oo_15, oo_16, oo_17, oo_18, oo_20, oo_24, oo_30, oo_32, oo_36, oo_40, oo_41, oo_48, oo_50, oo_57, oo_59, oo_60, oo_61, oo_62, oo_63, oo_64, oo_66, oo_72, oo_78, oo_96, oo_97, oo_99, oo_100, oo_101, oo_105, oo_107, oo_108, oo_109, oo_110, oo_111, oo_112, oo_114, oo_115, oo_116, oo_117, oo_119, oo_122, oo_128, oo_130, oo_134, oo_135, oo_136, oo_137, oo_138, oo_139, oo_140, oo_141, oo_142, oo_143, oo_144, oo_145, oo_151, oo_157, oo_194, oo_200, oo_240, oo_255, oo_256, oo_274, oo_276, oo_300, oo_516, oo_900, oo_940, oo_941, oo_999, oo_1000, oo_1040, oo_10000, oo_add, oo_mul, oo_sub, oo_lt, oo_le, oo_eq, oo_nat, oo_div, oo_rem, oo_nn, nn_oo, oo_nnlt, nn_oolt, oo_nnle, nn_oole, ↓reduceIte, if_pos, if_neg, or_false, false_or, or_true, true_or, and_true, true_and, and_false, false_and, not_true_eq_false, not_false_eq_true, Nat.not_lt_zero, Bool.false_eq_true, Bool.true_eq_false, rf_1_0, rf_1_4, rf_1_5, rf_1_6, rf_1_7, rf_28_1, rf_28_2, rf_28_3, rf_28_5, rf_28_6, rf_28_7, rf_28_8, g_2, e1, e2, h284, q, bt_or s hs (b i) hb8]
        exact ih (i + 1) n _ (by omega) (by omega) (bt_lt s hs (b i) hb8)
theorem row_n {S : XS} {v b : Nat → Nat} {N : Nat} (hN : N ≤ 940) (hC3 : S.1 190 193 = oo (v 193)) (h8 : v 193 ≤ 8) (hb : ∀ j, j < 940 → S.1 189 j = oo (b j) ∧ b j < 256) : ∀ m i n s, i + m = N → m < n → s < 256 → f_X12_drowned_L27 (oo N) 188 n (oo s) (oo i) S = some (if rwN b (v 193) m i s = true then .inr () else .inl (oo 0 - oo 2, S)) := by
  intro m
  induction m with
  | zero =>
    intro i n s hi hn hs
    obtain ⟨n, rfl⟩ : ∃ n', n = n' + 1 := ⟨n - 1, by omega⟩
    simp (disch := omega) only [f_X12_drowned_L27, ↓oo_m1, oo_0, oo_1, oo_2, oo_3, oo_4, oo_5, oo_6, oo_7, oo_8, oo_9, oo_10, oo_12, oo_13, oo_14, oo_15, oo_16, oo_17, oo_18, oo_20, oo_24, oo_30, oo_32, oo_36, oo_40, oo_41, oo_48, oo_50, oo_57, oo_59, oo_60, oo_61, oo_62, oo_63, oo_64, oo_66, oo_72, oo_78, oo_96, oo_97, oo_99, oo_100, oo_101, oo_105, oo_107, oo_108, oo_109, oo_110, oo_111, oo_112, oo_114, oo_115, oo_116, oo_117, oo_119, oo_122, oo_128, oo_130, oo_134, oo_135, oo_136, oo_137, oo_138, oo_139, oo_140, oo_141, oo_142, oo_143, oo_144, oo_145, oo_151, oo_157, oo_194, oo_200, oo_240, oo_255, oo_256, oo_274, oo_276, oo_300, oo_516, oo_900, oo_940, oo_941, oo_999, oo_1000, oo_1040, oo_10000, oo_add, oo_mul, oo_sub, oo_lt, oo_le, oo_eq, oo_nat, oo_div, oo_rem, oo_nn, nn_oo, oo_nnlt, nn_oolt, oo_nnle, nn_oole, ↓reduceIte, if_pos, if_neg, or_false, false_or, or_true, true_or, and_true, true_and, and_false, false_and, not_true_eq_false, not_false_eq_true, Nat.not_lt_zero, Bool.false_eq_true, Bool.true_eq_false, rwN]
  | succ m ih =>
    intro i n s hi hn hs
    obtain ⟨n, rfl⟩ : ∃ n', n = n' + 1 := ⟨n - 1, by omega⟩
    obtain ⟨e2, hlt⟩ := hb i (by omega)
    rw [rwN]
    by_cases hC : v 193 ≤ b i
    · rw [if_pos hC]
      simp (disch := omega) only [f_X12_drowned_L27, ↓oo_m1, oo_0, oo_1, oo_2, oo_3, oo_4, oo_5, oo_6, oo_7, oo_8, oo_9, oo_10, oo_12, oo_13, oo_14, oo_15, oo_16, oo_17, oo_18, oo_20, oo_24, oo_30, oo_32, oo_36, oo_40, oo_41, oo_48, oo_50, oo_57, oo_59, oo_60, oo_61, oo_62, oo_63, oo_64, oo_66, oo_72, oo_78, oo_96, oo_97, oo_99, oo_100, oo_101, oo_105, oo_107, oo_108, oo_109, oo_110, oo_111, oo_112, oo_114, oo_115, oo_116, oo_117, oo_119, oo_122, oo_128, oo_130, oo_134, oo_135, oo_136, oo_137, oo_138, oo_139, oo_140, oo_141, oo_142, oo_143, oo_144, oo_145, oo_151, oo_157, oo_194, oo_200, oo_240, oo_255, oo_256, oo_274, oo_276, oo_300, oo_516, oo_900, oo_940, oo_941, oo_999, oo_1000, oo_1040, oo_10000, oo_add, oo_mul, oo_sub, oo_lt, oo_le, oo_eq, oo_nat, oo_div, oo_rem, oo_nn, nn_oo, oo_nnlt, nn_oolt, oo_nnle, nn_oole, ↓reduceIte, if_pos, if_neg, or_false, false_or, or_true, true_or, and_true, true_and, and_false, false_and, not_true_eq_false, not_false_eq_true, Nat.not_lt_zero, Bool.false_eq_true, Bool.true_eq_false, rf_188_1, rf_188_14, rf_188_15, rf_188_16, rf_188_17, rf_188_18, rf_188_19, rf_188_20, rf_188_21, rf_188_22, rf_188_24, rf_188_25, rf_188_26, rf_188_27, rf_188_28, rf_188_31, rf_188_32, rf_188_34, rf_188_35, rf_188_36, rf_188_37, rf_188_38, rf_188_42, rf_188_43, rf_188_51, rf_188_52, rf_188_53, rf_188_55, ln_189, e2, hC3]
      try rfl
    · rw [if_neg hC]
      have hb8 : b i < 8 := by omega
      by_cases hT : s.testBit (b i) = true
      · rw [if_pos hT]
        simp (disch := omega) only [f_X12_drowned_L27, ↓oo_m1, oo_0, oo_1, oo_2, oo_3, oo_4, oo_5, oo_6, oo_7, oo_8, oo_9, oo_10, oo_12, oo_13, oo_14, oo_15, oo_16, oo_17, oo_18, oo_20, oo_24, oo_30, oo_32, oo_36, oo_40, oo_41, oo_48, oo_50, oo_57, oo_59, oo_60, oo_61, oo_62, oo_63, oo_64, oo_66, oo_72, oo_78, oo_96, oo_97, oo_99, oo_100, oo_101, oo_105, oo_107, oo_108, oo_109, oo_110, oo_111, oo_112, oo_114, oo_115, oo_116, oo_117, oo_119, oo_122, oo_128, oo_130, oo_134, oo_135, oo_136, oo_137, oo_138, oo_139, oo_140, oo_141, oo_142, oo_143, oo_144, oo_145, oo_151, oo_157, oo_194, oo_200, oo_240, oo_255, oo_256, oo_274, oo_276, oo_300, oo_516, oo_900, oo_940, oo_941, oo_999, oo_1000, oo_1040, oo_10000, oo_add, oo_mul, oo_sub, oo_lt, oo_le, oo_eq, oo_nat, oo_div, oo_rem, oo_nn, nn_oo, oo_nnlt, nn_oolt, oo_nnle, nn_oole, ↓reduceIte, if_pos, if_neg, or_false, false_or, or_true, true_or, and_true, true_and, and_false, false_and, not_true_eq_false, not_false_eq_true, Nat.not_lt_zero, Bool.false_eq_true, Bool.true_eq_false, rf_188_1, rf_188_14, rf_188_15, rf_188_16, rf_188_17, rf_188_18, rf_188_19, rf_188_20, rf_188_21, rf_188_22, rf_188_24, rf_188_25, rf_188_26, rf_188_27, rf_188_28, rf_188_31, rf_188_32, rf_188_34, rf_188_35, rf_188_36, rf_188_37, rf_188_38, rf_188_42, rf_188_43, rf_188_51, rf_188_52, rf_188_53, rf_188_55, ln_189, e2, hC3, bt_t hs hb8 hT]
        try rfl
      · rw [if_neg hT]
        simp (disch := omega) only [f_X12_drowned_L27, ↓oo_m1, oo_0, oo_1, oo_2, oo_3, oo_4, oo_5, oo_6, oo_7, oo_8, oo_9, oo_10, oo_12, oo_13, oo_14, oo_15, oo_16, oo_17, oo_18, oo_20, oo_24, oo_30, oo_32, oo_36, oo_40, oo_41, oo_48, oo_50, oo_57, oo_59, oo_60, oo_61, oo_62, oo_63, oo_64, oo_66, oo_72, oo_78, oo_96, oo_97, oo_99, oo_100, oo_101, oo_105, oo_107, oo_108, oo_109, oo_110, oo_111, oo_112, oo_114, oo_115, oo_116, oo_117, oo_119, oo_122, oo_128, oo_130, oo_134, oo_135, oo_136, oo_137, oo_138, oo_139, oo_140, oo_141, oo_142, oo_143, oo_144, oo_145, oo_151, oo_157, oo_194, oo_200, oo_240, oo_255, oo_256, oo_274, oo_276, oo_300, oo_516, oo_900, oo_940, oo_941, oo_999, oo_1000, oo_1040, oo_10000, oo_add, oo_mul, oo_sub, oo_lt, oo_le, oo_eq, oo_nat, oo_div, oo_rem, oo_nn, nn_oo, oo_nnlt, nn_oolt, oo_nnle, nn_oole, ↓reduceIte, if_pos, if_neg, or_false, false_or, or_true, true_or, and_true, true_and, and_false, false_and, not_true_eq_false, not_false_eq_true, Nat.not_lt_zero, Bool.false_eq_true, Bool.true_eq_false, rf_188_1, rf_188_14, rf_188_15, rf_188_16, rf_188_17, rf_188_18, rf_188_19, rf_188_20, rf_188_21, rf_188_22, rf_188_24, rf_188_25, rf_188_26, rf_188_27, rf_188_28, rf_188_31, rf_188_32, rf_188_34, rf_188_35, rf_188_36, rf_188_37, rf_188_38, rf_188_42, rf_188_43, rf_188_51, rf_188_52, rf_188_53, rf_188_55, ln_189, e2, hC3, bt_f hs hb8 hT, bt_or s hs (b i) hb8]
        exact ih (i + 1) n _ (by omega) (by omega) (bt_lt s hs (b i) hb8)
/-- what remains behind a CLOTH -/
def opN (v : Nat → Nat) (c : Nat) (l : Nat → Nat) : Nat → Nat := fun s => if l s / 2 ≤ clothG v c s then clothG v c s else l s / 2
def dnN (v : Nat → Nat) (c : Nat) (l : Nat → Nat) : Bool := decide (sgF (clothG v c) 6 = 0 ∨ clothG v c (sgF (clothG v c) 6 - 1) ≤ l (sgF (clothG v c) 6 - 1))
theorem cl99 {v : Nat → Nat} (hS : SOK v) {c s : Nat} (hc : c < v 193) (hs : s < 6) : clothG v c s ≤ 99 := (hS.2.2.2.2.2.2 c s hc hs).1
theorem opN_le {v : Nat → Nat} (hS : SOK v) {c : Nat} {l : Nat → Nat} (hc : c < v 193) {s : Nat} (hs : s < 6) (hl : l s ≤ 99) : opN v c l s ≤ 99 := by
  unfold opN
  have := cl99 hS hc hs
  split <;> omega
section DR
variable {S : XS} {v : Nat → Nat}
theorem dn_c (hW : IsWd S 28 v) (hS : SOK v) {c a r N : Nat} {l : Nat → Nat} (hc : c < v 193) (hln : ln a = N) (hN : N ≤ 1000) (hr : r * 6 + 6 ≤ N) (hl : ∀ s, s < 6 → S.1 a (r * 6 + s) = oo (l s) ∧ l s ≤ 99) : t_X4_isDrowned 28 (oo c) (enc (sgF (clothG v c) 6)) a (oo r) S = dnN v c l := by
  have h8 := hS.c8
  have h6 := sgF_le (clothG v c) 6
  unfold dnN
  by_cases h : sgF (clothG v c) 6 = 0
  · rw [h, enc_0]
    simp (disch := omega) only [t_X4_isDrowned, ↓oo_m1, oo_0, oo_1, oo_2, oo_3, oo_4, oo_5, oo_6, oo_7, oo_8, oo_9, oo_10, oo_12, oo_13, oo_14, oo_15, oo_16, oo_17, oo_18, oo_20, oo_24, oo_30, oo_32, oo_36, oo_40, oo_41, oo_48, oo_50, oo_57, oo_59, oo_60, oo_61, oo_62, oo_63, oo_64, oo_66, oo_72, oo_78, oo_96, oo_97, oo_99, oo_100, oo_101, oo_105, oo_107, oo_108, oo_109, oo_110, oo_111, oo_112, oo_114, oo_115, oo_116, oo_117, oo_119, oo_122, oo_128, oo_130, oo_134, oo_135, oo_136, oo_137, oo_138, oo_139, oo_140, oo_141, oo_142, oo_143, oo_144, oo_145, oo_151, oo_157, oo_194, oo_200, oo_240, oo_255, oo_256, oo_274, oo_276, oo_300, oo_516, oo_900, oo_940, oo_941, oo_999, oo_1000, oo_1040, oo_10000, oo_add, oo_mul, oo_sub, oo_lt, oo_le, oo_eq, oo_nat, oo_div, oo_rem, oo_nn, nn_oo, oo_nnlt, nn_oolt, oo_nnle, nn_oole, ↓reduceIte, if_pos, if_neg, or_false, false_or, or_true, true_or, and_true, true_and, and_false, false_and, not_true_eq_false, not_false_eq_true, Nat.not_lt_zero, Bool.false_eq_true, Bool.true_eq_false, decide_true]
  · obtain ⟨q, hq⟩ : ∃ q, sgF (clothG v c) 6 = q + 1 := ⟨sgF (clothG v c) 6 - 1, by omega⟩
    rw [hq, enc_s, Nat.add_sub_cancel]
    have hg : gat S a (oo (r * 6 + q)) = S.1 a (r * 6 + q) := gat_of hln (by omega) (by omega)
    obtain ⟨e1, e2⟩ := hl q (by omega)
    have hcl := cloth_g hW hS hc q (by omega)
    have h99 := cl99 hS hc (s := q) (by omega)
    by_cases h2 : clothG v c q ≤ l q
    · rw [decide_eq_true (.inr h2)]
      simp (disch := omega) only [t_X4_isDrowned, ↓oo_m1, oo_0, oo_1, oo_2, oo_3, oo_4, oo_5, oo_6, oo_7, oo_8, oo_9, oo_10, oo_12, oo_13, oo_14, oo_15, oo_16, oo_17, oo_18, oo_20, oo_24, oo_30, oo_32, oo_36, oo_40, oo_41, oo_48, oo_50, oo_57, oo_59, oo_60, oo_61, oo_62, oo_63, oo_64, oo_66, oo_72, oo_78, oo_96, oo_97, oo_99, oo_100, oo_101, oo_105, oo_107, oo_108, oo_109, oo_110, oo_111, oo_112, oo_114, oo_115, oo_116, oo_117, oo_119, oo_122, oo_128, oo_130, oo_134, oo_135, oo_136, oo_137, oo_138, oo_139, oo_140, oo_141, oo_142, oo_143, oo_144, oo_145, oo_151, oo_157, oo_194, oo_200, oo_240, oo_255, oo_256, oo_274, oo_276, oo_300, oo_516, oo_900, oo_940, oo_941, oo_999, oo_1000, oo_1040, oo_10000, oo_add, oo_mul, oo_sub, oo_lt, oo_le, oo_eq, oo_nat, oo_div, oo_rem, oo_nn, nn_oo, oo_nnlt, nn_oolt, oo_nnle, nn_oole, ↓reduceIte, if_pos, if_neg, or_false, false_or, or_true, true_or, and_true, true_and, and_false, false_and, not_true_eq_false, not_false_eq_true, Nat.not_lt_zero, Bool.false_eq_true, Bool.true_eq_false, rf_28_1, rf_28_2, rf_28_3, rf_28_5, rf_28_6, rf_28_7, rf_28_8, hg, hcl, e1]
    · rw [decide_eq_false (fun z => by rcases z with z | z <;> omega)]
      simp (disch := omega) only [t_X4_isDrowned, ↓oo_m1, oo_0, oo_1, oo_2, oo_3, oo_4, oo_5, oo_6, oo_7, oo_8, oo_9, oo_10, oo_12, oo_13, oo_14, oo_15, oo_16, oo_17, oo_18, oo_20, oo_24, oo_30, oo_32, oo_36, oo_40, oo_41, oo_48, oo_50, oo_57, oo_59, oo_60, oo_61, oo_62, oo_63, oo_64, oo_66, oo_72, oo_78, oo_96, oo_97, oo_99, oo_100, oo_101, oo_105, oo_107, oo_108, oo_109, oo_110, oo_111, oo_112, oo_114, oo_115, oo_116, oo_117, oo_119, oo_122, oo_128, oo_130, oo_134, oo_135, oo_136, oo_137, oo_138, oo_139, oo_140, oo_141, oo_142, oo_143, oo_144, oo_145, oo_151, oo_157, oo_194, oo_200, oo_240, oo_255, oo_256, oo_274, oo_276, oo_300, oo_516, oo_900, oo_940, oo_941, oo_999, oo_1000, oo_1040, oo_10000, oo_add, oo_mul, oo_sub, oo_lt, oo_le, oo_eq, oo_nat, oo_div, oo_rem, oo_nn, nn_oo, oo_nnlt, nn_oolt, oo_nnle, nn_oole, ↓reduceIte, if_pos, if_neg, or_false, false_or, or_true, true_or, and_true, true_and, and_false, false_and, not_true_eq_false, not_false_eq_true, Nat.not_lt_zero, Bool.false_eq_true, Bool.true_eq_false, rf_28_1, rf_28_2, rf_28_3, rf_28_5, rf_28_6, rf_28_7, rf_28_8, hg, hcl, e1]
theorem dn_n (hN : IsC S 190 516 v) (hS : SOK v) {c r : Nat} {l : Nat → Nat} (hc : c < v 193) (hr : r ≤ 8) (hl : ∀ s, s < 6 → S.1 199 (6 * r + s) = oo (l s) ∧ l s ≤ 99) : f_X12_isDrowned 188 (oo c) (oo r) S = some (dnN v c l, S) := by
  have h8 := hS.c8
  have h6 := sgF_le (clothG v c) 6
  have hst := sta6 (S := S) (b := 194 + 10 * c + 4) (g := clothG v c) (fun s hs => hN _ (by omega)) (by omega) (fun s hs => by have := cl99 hS hc hs; omega)
  unfold dnN
  by_cases h : sgF (clothG v c) 6 = 0
  · rw [h, enc_0] at hst
    rw [h]
    simp (disch := omega) only [f_X12_isDrowned, ↓oo_m1, oo_0, oo_1, oo_2, oo_3, oo_4, oo_5, oo_6, oo_7, oo_8, oo_9, oo_10, oo_12, oo_13, oo_14, oo_15, oo_16, oo_17, oo_18, oo_20, oo_24, oo_30, oo_32, oo_36, oo_40, oo_41, oo_48, oo_50, oo_57, oo_59, oo_60, oo_61, oo_62, oo_63, oo_64, oo_66, oo_72, oo_78, oo_96, oo_97, oo_99, oo_100, oo_101, oo_105, oo_107, oo_108, oo_109, oo_110, oo_111, oo_112, oo_114, oo_115, oo_116, oo_117, oo_119, oo_122, oo_128, oo_130, oo_134, oo_135, oo_136, oo_137, oo_138, oo_139, oo_140, oo_141, oo_142, oo_143, oo_144, oo_145, oo_151, oo_157, oo_194, oo_200, oo_240, oo_255, oo_256, oo_274, oo_276, oo_300, oo_516, oo_900, oo_940, oo_941, oo_999, oo_1000, oo_1040, oo_10000, oo_add, oo_mul, oo_sub, oo_lt, oo_le, oo_eq, oo_nat, oo_div, oo_rem, oo_nn, nn_oo, oo_nnlt, nn_oolt, oo_nnle, nn_oole, ↓reduceIte, if_pos, if_neg, or_false, false_or, or_true, true_or, and_true, true_and, and_false, false_and, not_true_eq_false, not_false_eq_true, Nat.not_lt_zero, Bool.false_eq_true, Bool.true_eq_false, Option.bind_some, Option.bind_none, hst, decide_true]
  · obtain ⟨q, hq⟩ : ∃ q, sgF (clothG v c) 6 = q + 1 := ⟨sgF (clothG v c) 6 - 1, by omega⟩
    rw [hq, enc_s] at hst
    rw [hq, Nat.add_sub_cancel]
    obtain ⟨e1, e2⟩ := hl q (by omega)
    have hcl : S.1 190 (194 + 10 * c + 4 + q) = oo (clothG v c q) := hN _ (by omega)
    have h99 := cl99 hS hc (s := q) (by omega)
    by_cases h2 : clothG v c q ≤ l q
    · rw [decide_eq_true (.inr h2)]
      simp (disch := omega) only [f_X12_isDrowned, f_X12_onCloth, ↓oo_m1, oo_0, oo_1, oo_2, oo_3, oo_4, oo_5, oo_6, oo_7, oo_8, oo_9, oo_10, oo_12, oo_13, oo_14, oo_15, oo_16, oo_17, oo_18, oo_20, oo_24, oo_30, oo_32, oo_36, oo_40, oo_41, oo_48, oo_50, oo_57, oo_59, oo_60, oo_61, oo_62, oo_63, oo_64, oo_66, oo_72, oo_78, oo_96, oo_97, oo_99, oo_100, oo_101, oo_105, oo_107, oo_108, oo_109, oo_110, oo_111, oo_112, oo_114, oo_115, oo_116, oo_117, oo_119, oo_122, oo_128, oo_130, oo_134, oo_135, oo_136, oo_137, oo_138, oo_139, oo_140, oo_141, oo_142, oo_143, oo_144, oo_145, oo_151, oo_157, oo_194, oo_200, oo_240, oo_255, oo_256, oo_274, oo_276, oo_300, oo_516, oo_900, oo_940, oo_941, oo_999, oo_1000, oo_1040, oo_10000, oo_add, oo_mul, oo_sub, oo_lt, oo_le, oo_eq, oo_nat, oo_div, oo_rem, oo_nn, nn_oo, oo_nnlt, nn_oolt, oo_nnle, nn_oole, ↓reduceIte, if_pos, if_neg, or_false, false_or, or_true, true_or, and_true, true_and, and_false, false_and, not_true_eq_false, not_false_eq_true, Nat.not_lt_zero, Bool.false_eq_true, Bool.true_eq_false, Option.bind_some, Option.bind_none, rf_188_1, rf_188_14, rf_188_15, rf_188_16, rf_188_17, rf_188_18, rf_188_19, rf_188_20, rf_188_21, rf_188_22, rf_188_24, rf_188_25, rf_188_26, rf_188_27, rf_188_28, rf_188_31, rf_188_32, rf_188_34, rf_188_35, rf_188_36, rf_188_37, rf_188_38, rf_188_42, rf_188_43, rf_188_51, rf_188_52, rf_188_53, rf_188_55, ln_190, ln_199, hst, hcl, e1]
    · rw [decide_eq_false (fun z => by rcases z with z | z <;> omega)]
      simp (disch := omega) only [f_X12_isDrowned, f_X12_onCloth, ↓oo_m1, oo_0, oo_1, oo_2, oo_3, oo_4, oo_5, oo_6, oo_7, oo_8, oo_9, oo_10, oo_12, oo_13, oo_14, oo_15, oo_16, oo_17, oo_18, oo_20, oo_24, oo_30, oo_32, oo_36, oo_40, oo_41, oo_48, oo_50, oo_57, oo_59, oo_60, oo_61, oo_62, oo_63, oo_64, oo_66, oo_72, oo_78, oo_96, oo_97, oo_99, oo_100, oo_101, oo_105, oo_107, oo_108, oo_109, oo_110, oo_111, oo_112, oo_114, oo_115, oo_116, oo_117, oo_119, oo_122, oo_128, oo_130, oo_134, oo_135, oo_136, oo_137, oo_138, oo_139, oo_140, oo_141, oo_142, oo_143, oo_144, oo_145, oo_151, oo_157, oo_194, oo_200, oo_240, oo_255, oo_256, oo_274, oo_276, oo_300, oo_516, oo_900, oo_940, oo_941, oo_999, oo_1000, oo_1040, oo_10000, oo_add, oo_mul, oo_sub, oo_lt, oo_le, oo_eq, oo_nat, oo_div, oo_rem, oo_nn, nn_oo, oo_nnlt, nn_oolt, oo_nnle, nn_oole, ↓reduceIte, if_pos, if_neg, or_false, false_or, or_true, true_or, and_true, true_and, and_false, false_and, not_true_eq_false, not_false_eq_true, Nat.not_lt_zero, Bool.false_eq_true, Bool.true_eq_false, Option.bind_some, Option.bind_none, rf_188_1, rf_188_14, rf_188_15, rf_188_16, rf_188_17, rf_188_18, rf_188_19, rf_188_20, rf_188_21, rf_188_22, rf_188_24, rf_188_25, rf_188_26, rf_188_27, rf_188_28, rf_188_31, rf_188_32, rf_188_34, rf_188_35, rf_188_36, rf_188_37, rf_188_38, rf_188_42, rf_188_43, rf_188_51, rf_188_52, rf_188_53, rf_188_55, ln_190, ln_199, hst, hcl, e1]
/-- open in place, or from a row to the next -/
theorem open_c (hW : IsWd S 28 v) (hS : SOK v) {c a r q N : Nat} {l : Nat → Nat} (hc : c < v 193) (hln : ln a = N) (hN : N ≤ 1000) (ha : a < 28 ∨ 36 ≤ a) (hr : r * 6 + 6 ≤ N) (hq : q = r ∨ q = r + 1) (hq2 : q * 6 + 6 ≤ N) (hl : ∀ s, s < 6 → S.1 a (r * 6 + s) = oo (l s) ∧ l s ≤ 99) : f_X4_open 28 (oo c) a (oo r) (oo q) S = some (blk S a (q * 6) 6 (fun j => oo (opN v c l (j - q * 6)))) := by
  have h8 := hS.c8
  have hl2 := loop_blk (L := f_X4_open_L3 28 (oo c) a (oo r) (oo q)) (a := a) (lo := q * 6) (st := 0) (m := 6) (f := fun j => oo (opN v c l (j - q * 6))) (S := S) (R := some (blk S a (q * 6) 6 (fun j => oo (opN v c l (j - q * 6))))) (fun n k hk => by
    have hcl := cloth_g hW hS hc k hk
    have h99 := cl99 hS hc hk
    obtain ⟨e1, e2⟩ := hl k hk
    have g1 : gat (blk S a (q * 6) k (fun j => oo (opN v c l (j - q * 6)))) a (oo (r * 6 + k)) = oo (l k) := by
      rw [gat_of hln (by omega) (by omega), blk_out (by omega)]
      exact e1
    have g2 : gat (blk S a (q * 6) k (fun j => oo (opN v c l (j - q * 6)))) 32 (oo (c * 6 + k)) = oo (clothG v c k) := by
      rw [g_32 (by omega), blk_cell (by omega)]
      rw [g_32 (by omega)] at hcl
      exact hcl
    have g3 : ∀ x, pat (blk S a (q * 6) k (fun j => oo (opN v c l (j - q * 6)))) a (oo (q * 6 + k)) x = sI (blk S a (q * 6) k (fun j => oo (opN v c l (j - q * 6)))) a (q * 6 + k) x := fun x => pat_of hln (by omega) (by omega)
    have hop : opN v c l (q * 6 + k - q * 6) = if l k / 2 < clothG v c k then clothG v c k else l k / 2 := by
      rw [Nat.add_sub_cancel_left]
      unfold opN
      split <;> split <;> omega
    by_cases h : l k / 2 < clothG v c k
    · rw [if_pos h] at hop
      simp (disch := omega) only [f_X4_open_L3, ↓oo_m1, oo_0, oo_1, oo_2, oo_3, oo_4, oo_5, oo_6, oo_7, oo_8, oo_9, oo_10, oo_12, oo_13, oo_14, oo_15, oo_16, oo_17, oo_18, oo_20, oo_24, oo_30, oo_32, oo_36, oo_40, oo_41, oo_48, oo_50, oo_57, oo_59, oo_60, oo_61, oo_62, oo_63, oo_64, oo_66, oo_72, oo_78, oo_96, oo_97, oo_99, oo_100, oo_101, oo_105, oo_107, oo_108, oo_109, oo_110, oo_111, oo_112, oo_114, oo_115, oo_116, oo_117, oo_119, oo_122, oo_128, oo_130, oo_134, oo_135, oo_136, oo_137, oo_138, oo_139, oo_140, oo_141, oo_142, oo_143, oo_144, oo_145, oo_151, oo_157, oo_194, oo_200, oo_240, oo_255, oo_256, oo_274, oo_276, oo_300, oo_516, oo_900, oo_940, oo_941, oo_999, oo_1000, oo_1040, oo_10000, oo_add, oo_mul, oo_sub, oo_lt, oo_le, oo_eq, oo_nat, oo_div, oo_rem, oo_nn, nn_oo, oo_nnlt, nn_oolt, oo_nnle, nn_oole, ↓reduceIte, if_pos, if_neg, or_false, false_or, or_true, true_or, and_true, true_and, and_false, false_and, not_true_eq_false, not_false_eq_true, Nat.not_lt_zero, Bool.false_eq_true, Bool.true_eq_false, rf_28_1, rf_28_2, rf_28_3, rf_28_5, rf_28_6, rf_28_7, rf_28_8, Nat.zero_add, g1, g2, g3, hop]
    · rw [if_neg h] at hop
      simp (disch := omega) only [f_X4_open_L3, ↓oo_m1, oo_0, oo_1, oo_2, oo_3, oo_4, oo_5, oo_6, oo_7, oo_8, oo_9, oo_10, oo_12, oo_13, oo_14, oo_15, oo_16, oo_17, oo_18, oo_20, oo_24, oo_30, oo_32, oo_36, oo_40, oo_41, oo_48, oo_50, oo_57, oo_59, oo_60, oo_61, oo_62, oo_63, oo_64, oo_66, oo_72, oo_78, oo_96, oo_97, oo_99, oo_100, oo_101, oo_105, oo_107, oo_108, oo_109, oo_110, oo_111, oo_112, oo_114, oo_115, oo_116, oo_117, oo_119, oo_122, oo_128, oo_130, oo_134, oo_135, oo_136, oo_137, oo_138, oo_139, oo_140, oo_141, oo_142, oo_143, oo_144, oo_145, oo_151, oo_157, oo_194, oo_200, oo_240, oo_255, oo_256, oo_274, oo_276, oo_300, oo_516, oo_900, oo_940, oo_941, oo_999, oo_1000, oo_1040, oo_10000, oo_add, oo_mul, oo_sub, oo_lt, oo_le, oo_eq, oo_nat, oo_div, oo_rem, oo_nn, nn_oo, oo_nnlt, nn_oolt, oo_nnle, nn_oole, ↓reduceIte, if_pos, if_neg, or_false, false_or, or_true, true_or, and_true, true_and, and_false, false_and, not_true_eq_false, not_false_eq_true, Nat.not_lt_zero, Bool.false_eq_true, Bool.true_eq_false, rf_28_1, rf_28_2, rf_28_3, rf_28_5, rf_28_6, rf_28_7, rf_28_8, Nat.zero_add, g1, g2, g3, hop]) (fun n => by
    simp (disch := omega) only [f_X4_open_L3, ↓oo_m1, oo_0, oo_1, oo_2, oo_3, oo_4, oo_5, oo_6, oo_7, oo_8, oo_9, oo_10, oo_12, oo_13, oo_14, oo_15, oo_16, oo_17, oo_18, oo_20, oo_24, oo_30, oo_32, oo_36, oo_40, oo_41, oo_48, oo_50, oo_57, oo_59, oo_60, oo_61, oo_62, oo_63, oo_64, oo_66, oo_72, oo_78, oo_96, oo_97, oo_99, oo_100, oo_101, oo_105, oo_107, oo_108, oo_109, oo_110, oo_111, oo_112, oo_114, oo_115, oo_116, oo_117, oo_119, oo_122, oo_128, oo_130, oo_134, oo_135, oo_136, oo_137, oo_138, oo_139, oo_140, oo_141, oo_142, oo_143, oo_144, oo_145, oo_151, oo_157, oo_194, oo_200, oo_240, oo_255, oo_256, oo_274, oo_276, oo_300, oo_516, oo_900, oo_940, oo_941, oo_999, oo_1000, oo_1040, oo_10000, oo_add, oo_mul, oo_sub, oo_lt, oo_le, oo_eq, oo_nat, oo_div, oo_rem, oo_nn, nn_oo, oo_nnlt, nn_oolt, oo_nnle, nn_oole, ↓reduceIte, if_pos, if_neg, or_false, false_or, or_true, true_or, and_true, true_and, and_false, false_and, not_true_eq_false, not_false_eq_true, Nat.not_lt_zero, Bool.false_eq_true, Bool.true_eq_false]) 1000000 (by decide)
  unfold f_X4_open
  rw [show (0 : Int32) = oo 0 from rfl, hl2, Option.bind_some]
theorem open_n (hN : IsC S 190 516 v) (hS : SOK v) {c r : Nat} {l : Nat → Nat} (hc : c < v 193) (hr : r < 8) (hl : ∀ s, s < 6 → S.1 199 (6 * r + s) = oo (l s) ∧ l s ≤ 99) : f_X12_open 188 (oo c) (oo r) S = some (blk S 199 (6 * r + 6) 6 (fun j => oo (opN v c l (j - (6 * r + 6))))) := by
  have h8 := hS.c8
  have hl2 := loop_blk (L := f_X12_open_L2 188 (oo c) (oo r)) (a := 199) (lo := 6 * r + 6) (st := 0) (m := 6) (f := fun j => oo (opN v c l (j - (6 * r + 6)))) (S := S) (R := some (blk S 199 (6 * r + 6) 6 (fun j => oo (opN v c l (j - (6 * r + 6)))))) (fun n k hk => by
    have h99 := cl99 hS hc hk
    obtain ⟨e1, e2⟩ := hl k hk
    have g1 : (blk S 199 (6 * r + 6) k (fun j => oo (opN v c l (j - (6 * r + 6))))).1 199 (6 * r + k) = oo (l k) := by
      rw [blk_out (by omega)]
      exact e1
    have g2 : (blk S 199 (6 * r + 6) k (fun j => oo (opN v c l (j - (6 * r + 6))))).1 190 (194 + 10 * c + 4 + k) = oo (clothG v c k) := by
      rw [blk_cell (by omega)]
      exact hN _ (by omega)
    have hop : opN v c l (6 * r + 6 + k - (6 * r + 6)) = if l k / 2 ≤ clothG v c k then clothG v c k else l k / 2 := by
      rw [Nat.add_sub_cancel_left]
      rfl
    by_cases h : l k / 2 ≤ clothG v c k
    · rw [if_pos h] at hop
      simp (disch := omega) only [f_X12_open_L2, f_X12_onCloth, ↓oo_m1, oo_0, oo_1, oo_2, oo_3, oo_4, oo_5, oo_6, oo_7, oo_8, oo_9, oo_10, oo_12, oo_13, oo_14, oo_15, oo_16, oo_17, oo_18, oo_20, oo_24, oo_30, oo_32, oo_36, oo_40, oo_41, oo_48, oo_50, oo_57, oo_59, oo_60, oo_61, oo_62, oo_63, oo_64, oo_66, oo_72, oo_78, oo_96, oo_97, oo_99, oo_100, oo_101, oo_105, oo_107, oo_108, oo_109, oo_110, oo_111, oo_112, oo_114, oo_115, oo_116, oo_117, oo_119, oo_122, oo_128, oo_130, oo_134, oo_135, oo_136, oo_137, oo_138, oo_139, oo_140, oo_141, oo_142, oo_143, oo_144, oo_145, oo_151, oo_157, oo_194, oo_200, oo_240, oo_255, oo_256, oo_274, oo_276, oo_300, oo_516, oo_900, oo_940, oo_941, oo_999, oo_1000, oo_1040, oo_10000, oo_add, oo_mul, oo_sub, oo_lt, oo_le, oo_eq, oo_nat, oo_div, oo_rem, oo_nn, nn_oo, oo_nnlt, nn_oolt, oo_nnle, nn_oole, ↓reduceIte, if_pos, if_neg, or_false, false_or, or_true, true_or, and_true, true_and, and_false, false_and, not_true_eq_false, not_false_eq_true, Nat.not_lt_zero, Bool.false_eq_true, Bool.true_eq_false, Option.bind_some, Option.bind_none, rf_188_1, rf_188_14, rf_188_15, rf_188_16, rf_188_17, rf_188_18, rf_188_19, rf_188_20, rf_188_21, rf_188_22, rf_188_24, rf_188_25, rf_188_26, rf_188_27, rf_188_28, rf_188_31, rf_188_32, rf_188_34, rf_188_35, rf_188_36, rf_188_37, rf_188_38, rf_188_42, rf_188_43, rf_188_51, rf_188_52, rf_188_53, rf_188_55, ln_190, ln_199, Nat.zero_add, g1, g2, hop]
    · rw [if_neg h] at hop
      simp (disch := omega) only [f_X12_open_L2, f_X12_onCloth, ↓oo_m1, oo_0, oo_1, oo_2, oo_3, oo_4, oo_5, oo_6, oo_7, oo_8, oo_9, oo_10, oo_12, oo_13, oo_14, oo_15, oo_16, oo_17, oo_18, oo_20, oo_24, oo_30, oo_32, oo_36, oo_40, oo_41, oo_48, oo_50, oo_57, oo_59, oo_60, oo_61, oo_62, oo_63, oo_64, oo_66, oo_72, oo_78, oo_96, oo_97, oo_99, oo_100, oo_101, oo_105, oo_107, oo_108, oo_109, oo_110, oo_111, oo_112, oo_114, oo_115, oo_116, oo_117, oo_119, oo_122, oo_128, oo_130, oo_134, oo_135, oo_136, oo_137, oo_138, oo_139, oo_140, oo_141, oo_142, oo_143, oo_144, oo_145, oo_151, oo_157, oo_194, oo_200, oo_240, oo_255, oo_256, oo_274, oo_276, oo_300, oo_516, oo_900, oo_940, oo_941, oo_999, oo_1000, oo_1040, oo_10000, oo_add, oo_mul, oo_sub, oo_lt, oo_le, oo_eq, oo_nat, oo_div, oo_rem, oo_nn, nn_oo, oo_nnlt, nn_oolt, oo_nnle, nn_oole, ↓reduceIte, if_pos, if_neg, or_false, false_or, or_true, true_or, and_true, true_and, and_false, false_and, not_true_eq_false, not_false_eq_true, Nat.not_lt_zero, Bool.false_eq_true, Bool.true_eq_false, Option.bind_some, Option.bind_none, rf_188_1, rf_188_14, rf_188_15, rf_188_16, rf_188_17, rf_188_18, rf_188_19, rf_188_20, rf_188_21, rf_188_22, rf_188_24, rf_188_25, rf_188_26, rf_188_27, rf_188_28, rf_188_31, rf_188_32, rf_188_34, rf_188_35, rf_188_36, rf_188_37, rf_188_38, rf_188_42, rf_188_43, rf_188_51, rf_188_52, rf_188_53, rf_188_55, ln_190, ln_199, Nat.zero_add, g1, g2, hop]) (fun n => by
    simp (disch := omega) only [f_X12_open_L2, ↓oo_m1, oo_0, oo_1, oo_2, oo_3, oo_4, oo_5, oo_6, oo_7, oo_8, oo_9, oo_10, oo_12, oo_13, oo_14, oo_15, oo_16, oo_17, oo_18, oo_20, oo_24, oo_30, oo_32, oo_36, oo_40, oo_41, oo_48, oo_50, oo_57, oo_59, oo_60, oo_61, oo_62, oo_63, oo_64, oo_66, oo_72, oo_78, oo_96, oo_97, oo_99, oo_100, oo_101, oo_105, oo_107, oo_108, oo_109, oo_110, oo_111, oo_112, oo_114, oo_115, oo_116, oo_117, oo_119, oo_122, oo_128, oo_130, oo_134, oo_135, oo_136, oo_137, oo_138, oo_139, oo_140, oo_141, oo_142, oo_143, oo_144, oo_145, oo_151, oo_157, oo_194, oo_200, oo_240, oo_255, oo_256, oo_274, oo_276, oo_300, oo_516, oo_900, oo_940, oo_941, oo_999, oo_1000, oo_1040, oo_10000, oo_add, oo_mul, oo_sub, oo_lt, oo_le, oo_eq, oo_nat, oo_div, oo_rem, oo_nn, nn_oo, oo_nnlt, nn_oolt, oo_nnle, nn_oole, ↓reduceIte, if_pos, if_neg, or_false, false_or, or_true, true_or, and_true, true_and, and_false, false_and, not_true_eq_false, not_false_eq_true, Nat.not_lt_zero, Bool.false_eq_true, Bool.true_eq_false]) 1000000 (by decide)
  unfold f_X12_open
  rw [show (0 : Int32) = oo 0 from rfl, hl2, Option.bind_some]
end DR
