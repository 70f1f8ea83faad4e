/-! hours that go by -/
def itN (v : Nat → Nat) : Nat → Nat → Nat
  | 0 => v
  | k + 1 => pnN (itN v k) (wetN (itN v k) false)
theorem itN_s (v : Nat → Nat) (k : Nat) : itN v (k + 1) = pnN (itN v k) (wetN (itN v k) false) := rfl
theorem itN_o {v : Nat → Nat} {j : Nat} (h : j < 144 ∨ (151 ≤ j ∧ j < 157) ∨ j = 193 ∨ 274 ≤ j) : ∀ k, itN v k j = v j := by
  intro k
  induction k with
  | zero => rfl
  | succ k ih => rw [itN_s, pnN_o h, ih]
theorem itN_144 {v : Nat → Nat} : ∀ k, itN v k 144 = v 144 + k := by
  intro k
  induction k with
  | zero => rfl
  | succ k ih => rw [itN_s, pnN_144, ih]; omega
theorem itN_ok {v : Nat → Nat} (hO : HOK v) (hS : SOK v) : ∀ k, v 144 + k ≤ 999 → HOK (itN v k) ∧ SOK (itN v k) := by
  intro k
  induction k with
  | zero => intro _; exact ⟨hO, hS⟩
  | succ k ih =>
    intro h
    obtain ⟨h1, h2⟩ := ih (by omega)
    exact ⟨hO.ext (fun j hj => (itN_o (by omega) _).symm), pnN_ok h1 h2 (by rw [itN_144]; omega)⟩
theorem on_c {v : Nat → Nat} {N : Nat} (hO : HOK v) (hS : SOK v) (hN : v 144 + N ≤ 999) : ∀ m k n T, k + m = N → m < n → IsHill T 7 v → IsWd T 28 (itN v k) → ∃ U, f_X11_on_L16 0 (oo N) n (oo k) T = some U ∧ IsWd U 28 (itN v N) ∧ Fr (rows 28 8) T U := by
  intro m
  induction m with
  | zero =>
    intro k n T hk hn hH hW
    obtain ⟨n, rfl⟩ : ∃ n', n = n' + 1 := ⟨n - 1, by omega⟩
    obtain rfl : k = N := by omega
    exact ⟨T, by simp (disch := omega) only [f_X11_on_L16, ↓oo_m1, oo_0, oo_1, oo_2, oo_3, oo_4, oo_5, oo_6, oo_7, oo_8, oo_9, oo_10, oo_12, oo_13, oo_14, oo_15, oo_16, oo_17, oo_18, oo_20, oo_24, oo_30, oo_32, oo_36, oo_40, oo_41, oo_48, oo_50, oo_57, oo_59, oo_60, oo_61, oo_62, oo_63, oo_64, oo_66, oo_72, oo_78, oo_96, oo_97, oo_99, oo_100, oo_101, oo_105, oo_107, oo_108, oo_109, oo_110, oo_111, oo_112, oo_114, oo_115, oo_116, oo_117, oo_119, oo_122, oo_128, oo_130, oo_134, oo_135, oo_136, oo_137, oo_138, oo_139, oo_140, oo_141, oo_142, oo_143, oo_144, oo_145, oo_151, oo_157, oo_194, oo_200, oo_240, oo_255, oo_256, oo_274, oo_276, oo_300, oo_516, oo_900, oo_940, oo_941, oo_999, oo_1000, oo_1040, oo_10000, oo_add, oo_mul, oo_sub, oo_lt, oo_le, oo_eq, oo_nat, oo_div, oo_rem, oo_nn, nn_oo, oo_nnlt, nn_oolt, oo_nnle, nn_oole, ↓reduceIte, if_pos, if_neg, or_false, false_or, or_true, true_or, and_true, true_and, and_false, false_and, not_true_eq_false, not_false_eq_true, Nat.not_lt_zero, Bool.false_eq_true, Bool.true_eq_false], hW, Fr.rf _ _⟩
  | succ m ih =>
    intro k n T hk hn hH hW
    obtain ⟨n, rfl⟩ : ∃ n', n = n' + 1 := ⟨n - 1, by omega⟩
    obtain ⟨h1, h2⟩ := itN_ok hO hS k (by omega)
    obtain ⟨U1, u1, u2, u3⟩ := pass_c (b := false) (hH.ext hO (fun j hj => (itN_o (by omega) k).symm)) hW h1 h2
    obtain ⟨U, z1, z2, z3⟩ := ih (k + 1) n U1 (by omega) (by omega) (hH.fr u3 rfl) u2
    refine ⟨U, ?_, z2, Fr.trans u3 z3⟩
    simp (disch := omega) only [f_X11_on_L16, ↓oo_m1, oo_0, oo_1, oo_2, oo_3, oo_4, oo_5, oo_6, oo_7, oo_8, oo_9, oo_10, oo_12, oo_13, oo_14, oo_15, oo_16, oo_17, oo_18, oo_20, oo_24, oo_30, oo_32, oo_36, oo_40, oo_41, oo_48, oo_50, oo_57, oo_59, oo_60, oo_61, oo_62, oo_63, oo_64, oo_66, oo_72, oo_78, oo_96, oo_97, oo_99, oo_100, oo_101, oo_105, oo_107, oo_108, oo_109, oo_110, oo_111, oo_112, oo_114, oo_115, oo_116, oo_117, oo_119, oo_122, oo_128, oo_130, oo_134, oo_135, oo_136, oo_137, oo_138, oo_139, oo_140, oo_141, oo_142, oo_143, oo_144, oo_145, oo_151, oo_157, oo_194, oo_200, oo_240, oo_255, oo_256, oo_274, oo_276, oo_300, oo_516, oo_900, oo_940, oo_941, oo_999, oo_1000, oo_1040, oo_10000, oo_add, oo_mul, oo_sub, oo_lt, oo_le, oo_eq, oo_nat, oo_div, oo_rem, oo_nn, nn_oo, oo_nnlt, nn_oolt, oo_nnle, nn_oole, ↓reduceIte, if_pos, if_neg, or_false, false_or, or_true, true_or, and_true, true_and, and_false, false_and, not_true_eq_false, not_false_eq_true, Nat.not_lt_zero, Bool.false_eq_true, Bool.true_eq_false, Option.bind_some, Option.bind_none, rf_0_0, rf_0_1, rf_0_2, rf_0_3, rf_0_4, rf_0_5, rf_0_6, rf_0_7, rf_0_10, rf_0_11, rf_0_12, rf_0_13, rf_0_14, rf_0_15, rf_0_16, rf_0_17, rf_0_18, u1]
    exact z1
theorem on_n {v : Nat → Nat} {N : Nat} (hO : HOK v) (hS : SOK v) (hN : v 144 + N ≤ 999) : ∀ m k n T, k + m = N → m < n → IsC T 190 516 (itN v k) → ∃ U, f_X12_on_L39 188 (oo N) n (oo k) T = some U ∧ IsC U 190 516 (itN v N) ∧ Fr [(190, 9999)] T U := by
  intro m
  induction m with
  | zero =>
    intro k n T hk hn hT
    obtain ⟨n, rfl⟩ : ∃ n', n = n' + 1 := ⟨n - 1, by omega⟩
    obtain rfl : k = N := by omega
    exact ⟨T, by simp (disch := omega) only [f_X12_on_L39, ↓oo_m1, oo_0, oo_1, oo_2, oo_3, oo_4, oo_5, oo_6, oo_7, oo_8, oo_9, oo_10, oo_12, oo_13, oo_14, oo_15, oo_16, oo_17, oo_18, oo_20, oo_24, oo_30, oo_32, oo_36, oo_40, oo_41, oo_48, oo_50, oo_57, oo_59, oo_60, oo_61, oo_62, oo_63, oo_64, oo_66, oo_72, oo_78, oo_96, oo_97, oo_99, oo_100, oo_101, oo_105, oo_107, oo_108, oo_109, oo_110, oo_111, oo_112, oo_114, oo_115, oo_116, oo_117, oo_119, oo_122, oo_128, oo_130, oo_134, oo_135, oo_136, oo_137, oo_138, oo_139, oo_140, oo_141, oo_142, oo_143, oo_144, oo_145, oo_151, oo_157, oo_194, oo_200, oo_240, oo_255, oo_256, oo_274, oo_276, oo_300, oo_516, oo_900, oo_940, oo_941, oo_999, oo_1000, oo_1040, oo_10000, oo_add, oo_mul, oo_sub, oo_lt, oo_le, oo_eq, oo_nat, oo_div, oo_rem, oo_nn, nn_oo, oo_nnlt, nn_oolt, oo_nnle, nn_oole, ↓reduceIte, if_pos, if_neg, or_false, false_or, or_true, true_or, and_true, true_and, and_false, false_and, not_true_eq_false, not_false_eq_true, Nat.not_lt_zero, Bool.false_eq_true, Bool.true_eq_false], hT, Fr.rf _ _⟩
  | succ m ih =>
    intro k n T hk hn hT
    obtain ⟨n, rfl⟩ : ∃ n', n = n' + 1 := ⟨n - 1, by omega⟩
    obtain ⟨h1, h2⟩ := itN_ok hO hS k (by omega)
    obtain ⟨U1, u1, u2, u3⟩ := pass_n (b := false) hT h1 h2
    obtain ⟨U, z1, z2, z3⟩ := ih (k + 1) n U1 (by omega) (by omega) u2
    refine ⟨U, ?_, z2, Fr.trans u3 z3⟩
    simp (disch := omega) only [f_X12_on_L39, ↓oo_m1, oo_0, oo_1, oo_2, oo_3, oo_4, oo_5, oo_6, oo_7, oo_8, oo_9, oo_10, oo_12, oo_13, oo_14, oo_15, oo_16, oo_17, oo_18, oo_20, oo_24, oo_30, oo_32, oo_36, oo_40, oo_41, oo_48, oo_50, oo_57, oo_59, oo_60, oo_61, oo_62, oo_63, oo_64, oo_66, oo_72, oo_78, oo_96, oo_97, oo_99, oo_100, oo_101, oo_105, oo_107, oo_108, oo_109, oo_110, oo_111, oo_112, oo_114, oo_115, oo_116, oo_117, oo_119, oo_122, oo_128, oo_130, oo_134, oo_135, oo_136, oo_137, oo_138, oo_139, oo_140, oo_141, oo_142, oo_143, oo_144, oo_145, oo_151, oo_157, oo_194, oo_200, oo_240, oo_255, oo_256, oo_274, oo_276, oo_300, oo_516, oo_900, oo_940, oo_941, oo_999, oo_1000, oo_1040, oo_10000, oo_add, oo_mul, oo_sub, oo_lt, oo_le, oo_eq, oo_nat, oo_div, oo_rem, oo_nn, nn_oo, oo_nnlt, nn_oolt, oo_nnle, nn_oole, ↓reduceIte, if_pos, if_neg, or_false, false_or, or_true, true_or, and_true, true_and, and_false, false_and, not_true_eq_false, not_false_eq_true, Nat.not_lt_zero, Bool.false_eq_true, Bool.true_eq_false, Option.bind_some, Option.bind_none, u1]
    exact z1
theorem one_nng {i : Int32} (h : ¬ i < oo 1) : ∃ t, t < 2147483648 ∧ i = oo t ∧ 1 ≤ t := by
  obtain ⟨t, ht, rfl⟩ : ∃ t, t < 2147483648 ∧ i = oo t := oo_nng (fun q => h (by
    rw [Int32.lt_iff_toInt_lt, oo_int (by decide)] at q ⊢
    omega))
  rw [oo_lt ht (by decide)] at h
  exact ⟨t, ht, rfl, by omega⟩
theorem ag_on : Ag_on Rel := by
  intro S hR i
  obtain ⟨hT, hFa, hK, ⟨v, hv, hP⟩, hKe, hNo, hWa, hC, hD, hX⟩ := id hR; obtain ⟨hN, hO, hS, hH, hW, hNm, hSe⟩ := id hv; obtain ⟨⟨b0, b1, b2, b3, b4, b5⟩, -⟩ := id hO
  have h999 := hS.1
  by_cases hi : i < oo 1
  · refine ⟨nn, S, sI S 188 0 (oo 0), ?_, ?_, hR.fr (Fr.sIp (Fr.rf [(188, 0)] S) rfl) rfl rfl rfl rfl rfl⟩
    · simp (disch := omega) only [f_X11_on, t_X11_canPass, ↓oo_m1, oo_0, oo_1, oo_2, oo_3, oo_4, oo_5, oo_6, oo_7, oo_8, oo_9, oo_10, oo_12, oo_13, oo_14, oo_15, oo_16, oo_17, oo_18, oo_20, oo_24, oo_30, oo_32, oo_36, oo_40, oo_41, oo_48, oo_50, oo_57, oo_59, oo_60, oo_61, oo_62, oo_63, oo_64, oo_66, oo_72, oo_78, oo_96, oo_97, oo_99, oo_100, oo_101, oo_105, oo_107, oo_108, oo_109, oo_110, oo_111, oo_112, oo_114, oo_115, oo_116, oo_117, oo_119, oo_122, oo_128, oo_130, oo_134, oo_135, oo_136, oo_137, oo_138, oo_139, oo_140, oo_141, oo_142, oo_143, oo_144, oo_145, oo_151, oo_157, oo_194, oo_200, oo_240, oo_255, oo_256, oo_274, oo_276, oo_300, oo_516, oo_900, oo_940, oo_941, oo_999, oo_1000, oo_1040, oo_10000, oo_add, oo_mul, oo_sub, oo_lt, oo_le, oo_eq, oo_nat, oo_div, oo_rem, oo_nn, nn_oo, oo_nnlt, nn_oolt, oo_nnle, nn_oole, ↓reduceIte, if_pos, if_neg, or_false, false_or, or_true, true_or, and_true, true_and, and_false, false_and, not_true_eq_false, not_false_eq_true, Nat.not_lt_zero, Bool.false_eq_true, Bool.true_eq_false, sI_same, sI_place, sI_cell, sI_long, sL_int, sL_same, sL_place, sL_cell, Option.bind_some, Option.bind_none, rf_0_0, rf_0_1, rf_0_2, rf_0_3, rf_0_4, rf_0_5, rf_0_6, rf_0_7, rf_0_10, rf_0_11, rf_0_12, rf_0_13, rf_0_14, rf_0_15, rf_0_16, rf_0_17, rf_0_18, rf_1_0, rf_1_4, rf_1_5, rf_1_6, rf_1_7, rf_7_0, rf_7_1, rf_7_2, rf_7_3, rf_7_4, rf_7_5, rf_7_6, rf_7_7, rf_28_1, rf_28_2, rf_28_3, rf_28_5, rf_28_6, rf_28_7, rf_28_8, rf_188_1, rf_188_14, rf_188_15, rf_188_16, rf_188_17, rf_188_18, rf_188_19, rf_188_20, rf_188_21, rf_188_22, rf_188_24, rf_188_25, rf_188_26, rf_188_27, rf_188_28, rf_188_31, rf_188_32, rf_188_34, rf_188_35, rf_188_36, rf_188_37, rf_188_38, rf_188_42, rf_188_43, rf_188_51, rf_188_52, rf_188_53, rf_188_55, ln_190, hi]
    · simp (disch := omega) only [f_X12_on, t_X12_isIn, ↓oo_m1, oo_0, oo_1, oo_2, oo_3, oo_4, oo_5, oo_6, oo_7, oo_8, oo_9, oo_10, oo_12, oo_13, oo_14, oo_15, oo_16, oo_17, oo_18, oo_20, oo_24, oo_30, oo_32, oo_36, oo_40, oo_41, oo_48, oo_50, oo_57, oo_59, oo_60, oo_61, oo_62, oo_63, oo_64, oo_66, oo_72, oo_78, oo_96, oo_97, oo_99, oo_100, oo_101, oo_105, oo_107, oo_108, oo_109, oo_110, oo_111, oo_112, oo_114, oo_115, oo_116, oo_117, oo_119, oo_122, oo_128, oo_130, oo_134, oo_135, oo_136, oo_137, oo_138, oo_139, oo_140, oo_141, oo_142, oo_143, oo_144, oo_145, oo_151, oo_157, oo_194, oo_200, oo_240, oo_255, oo_256, oo_274, oo_276, oo_300, oo_516, oo_900, oo_940, oo_941, oo_999, oo_1000, oo_1040, oo_10000, oo_add, oo_mul, oo_sub, oo_lt, oo_le, oo_eq, oo_nat, oo_div, oo_rem, oo_nn, nn_oo, oo_nnlt, nn_oolt, oo_nnle, nn_oole, ↓reduceIte, if_pos, if_neg, or_false, false_or, or_true, true_or, and_true, true_and, and_false, false_and, not_true_eq_false, not_false_eq_true, Nat.not_lt_zero, Bool.false_eq_true, Bool.true_eq_false, sI_same, sI_place, sI_cell, sI_long, sL_int, sL_same, sL_place, sL_cell, Option.bind_some, Option.bind_none, rf_0_0, rf_0_1, rf_0_2, rf_0_3, rf_0_4, rf_0_5, rf_0_6, rf_0_7, rf_0_10, rf_0_11, rf_0_12, rf_0_13, rf_0_14, rf_0_15, rf_0_16, rf_0_17, rf_0_18, rf_1_0, rf_1_4, rf_1_5, rf_1_6, rf_1_7, rf_7_0, rf_7_1, rf_7_2, rf_7_3, rf_7_4, rf_7_5, rf_7_6, rf_7_7, rf_28_1, rf_28_2, rf_28_3, rf_28_5, rf_28_6, rf_28_7, rf_28_8, rf_188_1, rf_188_14, rf_188_15, rf_188_16, rf_188_17, rf_188_18, rf_188_19, rf_188_20, rf_188_21, rf_188_22, rf_188_24, rf_188_25, rf_188_26, rf_188_27, rf_188_28, rf_188_31, rf_188_32, rf_188_34, rf_188_35, rf_188_36, rf_188_37, rf_188_38, rf_188_42, rf_188_43, rf_188_51, rf_188_52, rf_188_53, rf_188_55, ln_190, hi]
  · obtain ⟨N, hN2, rfl, hN1⟩ := one_nng hi
    by_cases h60 : N ≤ 60
    · by_cases hsum : v 144 + N ≤ 999
      · obtain ⟨T, k1, k2, k3, -, k4, k5⟩ := act_start hR hv hP
        obtain ⟨T1, t1, t2, t3⟩ := on_c hO hS hsum N 0 1000000 T (by omega) (by omega) k3 k2
        obtain ⟨U, u1, u2, u3, u4⟩ := k5 T1 t3
        obtain ⟨V, w1, w2, w3⟩ := on_n hO hS hsum N 0 1000000 U (by omega) (by omega) u2
        have e1 : T1.1 28 0 = oo (v 144 + N) := by rw [t2.hr, itN_144]
        have e2 : V.1 190 144 = oo (v 144 + N) := by rw [w2 144 (by decide), itN_144]
        refine ⟨oo (v 144 + N), T1, V, ?_, ?_, u4 V _ w3 w2 (fun k hk => (itN_o (by omega) N).symm) (itN_ok hO hS N hsum).2 t2⟩
        · simp (disch := omega) only [f_X11_on, t_X11_canPass, ↓oo_m1, oo_0, oo_1, oo_2, oo_3, oo_4, oo_5, oo_6, oo_7, oo_8, oo_9, oo_10, oo_12, oo_13, oo_14, oo_15, oo_16, oo_17, oo_18, oo_20, oo_24, oo_30, oo_32, oo_36, oo_40, oo_41, oo_48, oo_50, oo_57, oo_59, oo_60, oo_61, oo_62, oo_63, oo_64, oo_66, oo_72, oo_78, oo_96, oo_97, oo_99, oo_100, oo_101, oo_105, oo_107, oo_108, oo_109, oo_110, oo_111, oo_112, oo_114, oo_115, oo_116, oo_117, oo_119, oo_122, oo_128, oo_130, oo_134, oo_135, oo_136, oo_137, oo_138, oo_139, oo_140, oo_141, oo_142, oo_143, oo_144, oo_145, oo_151, oo_157, oo_194, oo_200, oo_240, oo_255, oo_256, oo_274, oo_276, oo_300, oo_516, oo_900, oo_940, oo_941, oo_999, oo_1000, oo_1040, oo_10000, oo_add, oo_mul, oo_sub, oo_lt, oo_le, oo_eq, oo_nat, oo_div, oo_rem, oo_nn, nn_oo, oo_nnlt, nn_oolt, oo_nnle, nn_oole, ↓reduceIte, if_pos, if_neg, or_false, false_or, or_true, true_or, and_true, true_and, and_false, false_and, not_true_eq_false, not_false_eq_true, Nat.not_lt_zero, Bool.false_eq_true, Bool.true_eq_false, Option.bind_some, Option.bind_none, rf_0_0, rf_0_1, rf_0_2, rf_0_3, rf_0_4, rf_0_5, rf_0_6, rf_0_7, rf_0_10, rf_0_11, rf_0_12, rf_0_13, rf_0_14, rf_0_15, rf_0_16, rf_0_17, rf_0_18, hW.hr, k1, t1, e1]
        · simp (disch := omega) only [f_X12_on, t_X12_isIn, ↓oo_m1, oo_0, oo_1, oo_2, oo_3, oo_4, oo_5, oo_6, oo_7, oo_8, oo_9, oo_10, oo_12, oo_13, oo_14, oo_15, oo_16, oo_17, oo_18, oo_20, oo_24, oo_30, oo_32, oo_36, oo_40, oo_41, oo_48, oo_50, oo_57, oo_59, oo_60, oo_61, oo_62, oo_63, oo_64, oo_66, oo_72, oo_78, oo_96, oo_97, oo_99, oo_100, oo_101, oo_105, oo_107, oo_108, oo_109, oo_110, oo_111, oo_112, oo_114, oo_115, oo_116, oo_117, oo_119, oo_122, oo_128, oo_130, oo_134, oo_135, oo_136, oo_137, oo_138, oo_139, oo_140, oo_141, oo_142, oo_143, oo_144, oo_145, oo_151, oo_157, oo_194, oo_200, oo_240, oo_255, oo_256, oo_274, oo_276, oo_300, oo_516, oo_900, oo_940, oo_941, oo_999, oo_1000, oo_1040, oo_10000, oo_add, oo_mul, oo_sub, oo_lt, oo_le, oo_eq, oo_nat, oo_div, oo_rem, oo_nn, nn_oo, oo_nnlt, nn_oolt, oo_nnle, nn_oole, ↓reduceIte, if_pos, if_neg, or_false, false_or, or_true, true_or, and_true, true_and, and_false, false_and, not_true_eq_false, not_false_eq_true, Nat.not_lt_zero, Bool.false_eq_true, Bool.true_eq_false, Option.bind_some, Option.bind_none, rf_188_1, rf_188_14, rf_188_15, rf_188_16, rf_188_17, rf_188_18, rf_188_19, rf_188_20, rf_188_21, rf_188_22, rf_188_24, rf_188_25, rf_188_26, rf_188_27, rf_188_28, rf_188_31, rf_188_32, rf_188_34, rf_188_35, rf_188_36, rf_188_37, rf_188_38, rf_188_42, rf_188_43, rf_188_51, rf_188_52, rf_188_53, rf_188_55, sI_same, sI_place, sI_cell, sI_long, sL_int, sL_same, sL_place, sL_cell, (t3.row (c := 190) rfl), (k4.row (c := 190) rfl), hN 144, u1, w1, e2]
      · refine ⟨nn, S, sI S 188 0 (oo 0), ?_, ?_, hR.fr (Fr.sIp (Fr.rf [(188, 0)] S) rfl) rfl rfl rfl rfl rfl⟩
        · simp (disch := omega) only [f_X11_on, t_X11_canPass, hH.n0, hH.n1, hH.n2, hH.n3, hH.n4, hH.n5, hH.fade, hH.air, hH.keep, hH.start, hH.went, hH.rain, hW.hr, hW.pl, hW.wn, hW.ct, hW.cn, hW.cl, hW.cf, hW.li, hW.ca, hN _, ↓oo_m1, oo_0, oo_1, oo_2, oo_3, oo_4, oo_5, oo_6, oo_7, oo_8, oo_9, oo_10, oo_12, oo_13, oo_14, oo_15, oo_16, oo_17, oo_18, oo_20, oo_24, oo_30, oo_32, oo_36, oo_40, oo_41, oo_48, oo_50, oo_57, oo_59, oo_60, oo_61, oo_62, oo_63, oo_64, oo_66, oo_72, oo_78, oo_96, oo_97, oo_99, oo_100, oo_101, oo_105, oo_107, oo_108, oo_109, oo_110, oo_111, oo_112, oo_114, oo_115, oo_116, oo_117, oo_119, oo_122, oo_128, oo_130, oo_134, oo_135, oo_136, oo_137, oo_138, oo_139, oo_140, oo_141, oo_142, oo_143, oo_144, oo_145, oo_151, oo_157, oo_194, oo_200, oo_240, oo_255, oo_256, oo_274, oo_276, oo_300, oo_516, oo_900, oo_940, oo_941, oo_999, oo_1000, oo_1040, oo_10000, oo_add, oo_mul, oo_sub, oo_lt, oo_le, oo_eq, oo_nat, oo_div, oo_rem, oo_nn, nn_oo, oo_nnlt, nn_oolt, oo_nnle, nn_oole, ↓reduceIte, if_pos, if_neg, or_false, false_or, or_true, true_or, and_true, true_and, and_false, false_and, not_true_eq_false, not_false_eq_true, Nat.not_lt_zero, Bool.false_eq_true, Bool.true_eq_false, sI_same, sI_place, sI_cell, sI_long, sL_int, sL_same, sL_place, sL_cell, Option.bind_some, Option.bind_none, rf_0_0, rf_0_1, rf_0_2, rf_0_3, rf_0_4, rf_0_5, rf_0_6, rf_0_7, rf_0_10, rf_0_11, rf_0_12, rf_0_13, rf_0_14, rf_0_15, rf_0_16, rf_0_17, rf_0_18, rf_1_0, rf_1_4, rf_1_5, rf_1_6, rf_1_7, rf_7_0, rf_7_1, rf_7_2, rf_7_3, rf_7_4, rf_7_5, rf_7_6, rf_7_7, rf_28_1, rf_28_2, rf_28_3, rf_28_5, rf_28_6, rf_28_7, rf_28_8, rf_188_1, rf_188_14, rf_188_15, rf_188_16, rf_188_17, rf_188_18, rf_188_19, rf_188_20, rf_188_21, rf_188_22, rf_188_24, rf_188_25, rf_188_26, rf_188_27, rf_188_28, rf_188_31, rf_188_32, rf_188_34, rf_188_35, rf_188_36, rf_188_37, rf_188_38, rf_188_42, rf_188_43, rf_188_51, rf_188_52, rf_188_53, rf_188_55, ln_190]
        · simp (disch := omega) only [f_X12_on, t_X12_isIn, hH.n0, hH.n1, hH.n2, hH.n3, hH.n4, hH.n5, hH.fade, hH.air, hH.keep, hH.start, hH.went, hH.rain, hW.hr, hW.pl, hW.wn, hW.ct, hW.cn, hW.cl, hW.cf, hW.li, hW.ca, hN _, ↓oo_m1, oo_0, oo_1, oo_2, oo_3, oo_4, oo_5, oo_6, oo_7, oo_8, oo_9, oo_10, oo_12, oo_13, oo_14, oo_15, oo_16, oo_17, oo_18, oo_20, oo_24, oo_30, oo_32, oo_36, oo_40, oo_41, oo_48, oo_50, oo_57, oo_59, oo_60, oo_61, oo_62, oo_63, oo_64, oo_66, oo_72, oo_78, oo_96, oo_97, oo_99, oo_100, oo_101, oo_105, oo_107, oo_108, oo_109, oo_110, oo_111, oo_112, oo_114, oo_115, oo_116, oo_117, oo_119, oo_122, oo_128, oo_130, oo_134, oo_135, oo_136, oo_137, oo_138, oo_139, oo_140, oo_141, oo_142, oo_143, oo_144, oo_145, oo_151, oo_157, oo_194, oo_200, oo_240, oo_255, oo_256, oo_274, oo_276, oo_300, oo_516, oo_900, oo_940, oo_941, oo_999, oo_1000, oo_1040, oo_10000, oo_add, oo_mul, oo_sub, oo_lt, oo_le, oo_eq, oo_nat, oo_div, oo_rem, oo_nn, nn_oo, oo_nnlt, nn_oolt, oo_nnle, nn_oole, ↓reduceIte, if_pos, if_neg, or_false, false_or, or_true, true_or, and_true, true_and, and_false, false_and, not_true_eq_false, not_false_eq_true, Nat.not_lt_zero, Bool.false_eq_true, Bool.true_eq_false, sI_same, sI_place, sI_cell, sI_long, sL_int, sL_same, sL_place, sL_cell, Option.bind_some, Option.bind_none, rf_0_0, rf_0_1, rf_0_2, rf_0_3, rf_0_4, rf_0_5, rf_0_6, rf_0_7, rf_0_10, rf_0_11, rf_0_12, rf_0_13, rf_0_14, rf_0_15, rf_0_16, rf_0_17, rf_0_18, rf_1_0, rf_1_4, rf_1_5, rf_1_6, rf_1_7, rf_7_0, rf_7_1, rf_7_2, rf_7_3, rf_7_4, rf_7_5, rf_7_6, rf_7_7, rf_28_1, rf_28_2, rf_28_3, rf_28_5, rf_28_6, rf_28_7, rf_28_8, rf_188_1, rf_188_14, rf_188_15, rf_188_16, rf_188_17, rf_188_18, rf_188_19, rf_188_20, rf_188_21, rf_188_22, rf_188_24, rf_188_25, rf_188_26, rf_188_27, rf_188_28, rf_188_31, rf_188_32, rf_188_34, rf_188_35, rf_188_36, rf_188_37, rf_188_38, rf_188_42, rf_188_43, rf_188_51, rf_188_52, rf_188_53, rf_188_55, ln_190]
    · refine ⟨nn, S, sI S 188 0 (oo 0), ?_, ?_, hR.fr (Fr.sIp (Fr.rf [(188, 0)] S) rfl) rfl rfl rfl rfl rfl⟩
      · simp (disch := omega) only [f_X11_on, t_X11_canPass, hH.n0, hH.n1, hH.n2, hH.n3, hH.n4, hH.n5, hH.fade, hH.air, hH.keep, hH.start, hH.went, hH.rain, hW.hr, hW.pl, hW.wn, hW.ct, hW.cn, hW.cl, hW.cf, hW.li, hW.ca, hN _, ↓oo_m1, oo_0, oo_1, oo_2, oo_3, oo_4, oo_5, oo_6, oo_7, oo_8, oo_9, oo_10, oo_12, oo_13, oo_14, oo_15, oo_16, oo_17, oo_18, oo_20, oo_24, oo_30, oo_32, oo_36, oo_40, oo_41, oo_48, oo_50, oo_57, oo_59, oo_60, oo_61, oo_62, oo_63, oo_64, oo_66, oo_72, oo_78, oo_96, oo_97, oo_99, oo_100, oo_101, oo_105, oo_107, oo_108, oo_109, oo_110, oo_111, oo_112, oo_114, oo_115, oo_116, oo_117, oo_119, oo_122, oo_128, oo_130, oo_134, oo_135, oo_136, oo_137, oo_138, oo_139, oo_140, oo_141, oo_142, oo_143, oo_144, oo_145, oo_151, oo_157, oo_194, oo_200, oo_240, oo_255, oo_256, oo_274, oo_276, oo_300, oo_516, oo_900, oo_940, oo_941, oo_999, oo_1000, oo_1040, oo_10000, oo_add, oo_mul, oo_sub, oo_lt, oo_le, oo_eq, oo_nat, oo_div, oo_rem, oo_nn, nn_oo, oo_nnlt, nn_oolt, oo_nnle, nn_oole, ↓reduceIte, if_pos, if_neg, or_false, false_or, or_true, true_or, and_true, true_and, and_false, false_and, not_true_eq_false, not_false_eq_true, Nat.not_lt_zero, Bool.false_eq_true, Bool.true_eq_false, sI_same, sI_place, sI_cell, sI_long, sL_int, sL_same, sL_place, sL_cell, Option.bind_some, Option.bind_none, rf_0_0, rf_0_1, rf_0_2, rf_0_3, rf_0_4, rf_0_5, rf_0_6, rf_0_7, rf_0_10, rf_0_11, rf_0_12, rf_0_13, rf_0_14, rf_0_15, rf_0_16, rf_0_17, rf_0_18, rf_1_0, rf_1_4, rf_1_5, rf_1_6, rf_1_7, rf_7_0, rf_7_1, rf_7_2, rf_7_3, rf_7_4, rf_7_5, rf_7_6, rf_7_7, rf_28_1, rf_28_2, rf_28_3, rf_28_5, rf_28_6, rf_28_7, rf_28_8, rf_188_1, rf_188_14, rf_188_15, rf_188_16, rf_188_17, rf_188_18, rf_188_19, rf_188_20, rf_188_21, rf_188_22, rf_188_24, rf_188_25, rf_188_26, rf_188_27, rf_188_28, rf_188_31, rf_188_32, rf_188_34, rf_188_35, rf_188_36, rf_188_37, rf_188_38, rf_188_42, rf_188_43, rf_188_51, rf_188_52, rf_188_53, rf_188_55, ln_190]
      · simp (disch := omega) only [f_X12_on, t_X12_isIn, hH.n0, hH.n1, hH.n2, hH.n3, hH.n4, hH.n5, hH.fade, hH.air, hH.keep, hH.start, hH.went, hH.rain, hW.hr, hW.pl, hW.wn, hW.ct, hW.cn, hW.cl, hW.cf, hW.li, hW.ca, hN _, ↓oo_m1, oo_0, oo_1, oo_2, oo_3, oo_4, oo_5, oo_6, oo_7, oo_8, oo_9, oo_10, oo_12, oo_13, oo_14, oo_15, oo_16, oo_17, oo_18, oo_20, oo_24, oo_30, oo_32, oo_36, oo_40, oo_41, oo_48, oo_50, oo_57, oo_59, oo_60, oo_61, oo_62, oo_63, oo_64, oo_66, oo_72, oo_78, oo_96, oo_97, oo_99, oo_100, oo_101, oo_105, oo_107, oo_108, oo_109, oo_110, oo_111, oo_112, oo_114, oo_115, oo_116, oo_117, oo_119, oo_122, oo_128, oo_130, oo_134, oo_135, oo_136, oo_137, oo_138, oo_139, oo_140, oo_141, oo_142, oo_143, oo_144, oo_145, oo_151, oo_157, oo_194, oo_200, oo_240, oo_255, oo_256, oo_274, oo_276, oo_300, oo_516, oo_900, oo_940, oo_941, oo_999, oo_1000, oo_1040, oo_10000, oo_add, oo_mul, oo_sub, oo_lt, oo_le, oo_eq, oo_nat, oo_div, oo_rem, oo_nn, nn_oo, oo_nnlt, nn_oolt, oo_nnle, nn_oole, ↓reduceIte, if_pos, if_neg, or_false, false_or, or_true, true_or, and_true, true_and, and_false, false_and, not_true_eq_false, not_false_eq_true, Nat.not_lt_zero, Bool.false_eq_true, Bool.true_eq_false, sI_same, sI_place, sI_cell, sI_long, sL_int, sL_same, sL_place, sL_cell, Option.bind_some, Option.bind_none, rf_0_0, rf_0_1, rf_0_2, rf_0_3, rf_0_4, rf_0_5, rf_0_6, rf_0_7, rf_0_10, rf_0_11, rf_0_12, rf_0_13, rf_0_14, rf_0_15, rf_0_16, rf_0_17, rf_0_18, rf_1_0, rf_1_4, rf_1_5, rf_1_6, rf_1_7, rf_7_0, rf_7_1, rf_7_2, rf_7_3, rf_7_4, rf_7_5, rf_7_6, rf_7_7, rf_28_1, rf_28_2, rf_28_3, rf_28_5, rf_28_6, rf_28_7, rf_28_8, rf_188_1, rf_188_14, rf_188_15, rf_188_16, rf_188_17, rf_188_18, rf_188_19, rf_188_20, rf_188_21, rf_188_22, rf_188_24, rf_188_25, rf_188_26, rf_188_27, rf_188_28, rf_188_31, rf_188_32, rf_188_34, rf_188_35, rf_188_36, rf_188_37, rf_188_38, rf_188_42, rf_188_43, rf_188_51, rf_188_52, rf_188_53, rf_188_55, ln_190]
/-! draws -/
def nxD (x : Int32) : Int32 := x * 1103515245 + 12345
def drD (x : Int32) (k : Nat) : Nat := (ushr32 (nxD x) (oo 8)).toNatClampNeg % k
theorem drD_lt (x : Int32) {k : Nat} (h : 1 ≤ k) : drD x k < k := Nat.mod_lt _ h
theorem ushr8 (x : Int32) : ∃ y, y < 2147483648 ∧ ushr32 x (oo 8) = oo y := by
  have h : (ushr32 x (oo 8)).toBitVec.toNat < 16777216 := by
    show (x.toUInt32 >>> ((oo 8).toUInt32 &&& Int32.toUInt32 31)).toNat < 16777216
    rw [UInt32.toNat_shiftRight, show ((oo 8).toUInt32 &&& Int32.toUInt32 31).toNat % 32 = 8 from rfl, Nat.shiftRight_eq_div_pow]
    have := x.toUInt32.toNat_lt
    omega
  refine ⟨(ushr32 x (oo 8)).toBitVec.toNat, by omega, ?_⟩
  apply Int32.toBitVec_inj.mp
  show _ = BitVec.ofNat 32 _
  rw [BitVec.ofNat_toNat, BitVec.setWidth_eq]
theorem drD_oo (x : Int32) {k : Nat} (h1 : 1 ≤ k) (hk : k < 2147483648) : rem32 (ushr32 (nxD x) (oo 8)) (oo k) = oo (drD x k) := by
  obtain ⟨y, hy, e⟩ := ushr8 (nxD x)
  unfold drD
  rw [e, oo_nat hy, oo_rem hy hk]
theorem draw_c {S : XS} {k : Nat} (h1 : 1 ≤ k) (hk : k < 2147483648) : f_X1_draw 178 (oo k) S = some (oo (drD (S.1 178 4) k), sI S 178 4 (nxD (S.1 178 4))) := by
  have e := drD_oo (S.1 178 4) h1 hk
  unfold f_X1_draw
  rw [show (S.1 178 4 * (1103515245 : Int32)) + (12345 : Int32) = nxD (S.1 178 4) from rfl, show (8 : Int32) = oo 8 from rfl, sI_same, e]
  simp (disch := omega) only [↓oo_m1, oo_0, oo_1, oo_2, oo_3, oo_4, oo_5, oo_6, oo_7, oo_8, oo_9, oo_10, oo_12, oo_13, oo_14, oo_15, oo_16, oo_17, oo_18, oo_20, oo_24, oo_30, oo_32, oo_36, oo_40, oo_41, oo_48, oo_50, oo_57, oo_59, oo_60, oo_61, oo_62, oo_63, oo_64, oo_66, oo_72, oo_78, oo_96, oo_97, oo_99, oo_100, oo_101, oo_105, oo_107, oo_108, oo_109, oo_110, oo_111, oo_112, oo_114, oo_115, oo_116, oo_117, oo_119, oo_122, oo_128, oo_130, oo_134, oo_135, oo_136, oo_137, oo_138, oo_139, oo_140, oo_141, oo_142, oo_143, oo_144, oo_145, oo_151, oo_157, oo_194, oo_200, oo_240, oo_255, oo_256, oo_274, oo_276, oo_300, oo_516, oo_900, oo_940, oo_941, oo_999, oo_1000, oo_1040, oo_10000, oo_add, oo_mul, oo_sub, oo_lt, oo_le, oo_eq, oo_nat, oo_div, oo_rem, oo_nn, nn_oo, oo_nnlt, nn_oolt, oo_nnle, nn_oole, ↓reduceIte, if_pos, if_neg, or_false, false_or, or_true, true_or, and_true, true_and, and_false, false_and, not_true_eq_false, not_false_eq_true, Nat.not_lt_zero, Bool.false_eq_true, Bool.true_eq_false]
theorem draw_n {S : XS} {k : Nat} (h1 : 1 ≤ k) (hk : k < 2147483648) : f_X12_draw 188 (oo k) S = some (oo (drD (S.1 188 47) k), sI S 188 47 (nxD (S.1 188 47))) := by
  have e := drD_oo (S.1 188 47) h1 hk
  unfold f_X12_draw
  rw [show (S.1 188 47 * (1103515245 : Int32)) + (12345 : Int32) = nxD (S.1 188 47) from rfl, show (8 : Int32) = oo 8 from rfl, sI_same, e]
  simp (disch := omega) only [↓oo_m1, oo_0, oo_1, oo_2, oo_3, oo_4, oo_5, oo_6, oo_7, oo_8, oo_9, oo_10, oo_12, oo_13, oo_14, oo_15, oo_16, oo_17, oo_18, oo_20, oo_24, oo_30, oo_32, oo_36, oo_40, oo_41, oo_48, oo_50, oo_57, oo_59, oo_60, oo_61, oo_62, oo_63, oo_64, oo_66, oo_72, oo_78, oo_96, oo_97, oo_99, oo_100, oo_101, oo_105, oo_107, oo_108, oo_109, oo_110, oo_111, oo_112, oo_114, oo_115, oo_116, oo_117, oo_119, oo_122, oo_128, oo_130, oo_134, oo_135, oo_136, oo_137, oo_138, oo_139, oo_140, oo_141, oo_142, oo_143, oo_144, oo_145, oo_151, oo_157, oo_194, oo_200, oo_240, oo_255, oo_256, oo_274, oo_276, oo_300, oo_516, oo_900, oo_940, oo_941, oo_999, oo_1000, oo_1040, oo_10000, oo_add, oo_mul, oo_sub, oo_lt, oo_le, oo_eq, oo_nat, oo_div, oo_rem, oo_nn, nn_oo, oo_nnlt, nn_oolt, oo_nnle, nn_oole, ↓reduceIte, if_pos, if_neg, or_false, false_or, or_true, true_or, and_true, true_and, and_false, false_and, not_true_eq_false, not_false_eq_true, Nat.not_lt_zero, Bool.false_eq_true, Bool.true_eq_false]
/-- who walks: seed, how many, places -/
def wkN (nx : Int32 → Int32) (dr : Int32 → Nat → Nat) (np : Nat) : Nat → Nat → Int32 → Nat → (Nat → Nat) → Int32 × Nat × (Nat → Nat)
  | 0, _, x, c, p => (x, c, p)
  | m + 1, k, x, c, p => if dr x 3 = 0 then wkN nx dr np m (k + 1) (nx (nx x)) (c + 1) (upN p k (dr (nx x) np)) else wkN nx dr np m (k + 1) (nx x) c p
section WK
variable {nx : Int32 → Int32} {dr : Int32 → Nat → Nat} {np : Nat}
theorem wkN_c : ∀ m k x c p, (wkN nx dr np m k x c p).2.1 ≤ c + m := by
  intro m
  induction m with
  | zero => intro k x c p; exact Nat.le_refl _
  | succ m ih =>
    intro k x c p
    rw [wkN]
    split
    · have := ih (k + 1) (nx (nx x)) (c + 1) (upN p k (dr (nx x) np)); omega
    · have := ih (k + 1) (nx x) c p; omega
theorem wkN_p (h1 : ∀ x, dr x np < np) : ∀ m k x c p, (∀ i, i < k + m → p i < np) → ∀ i, i < k + m → (wkN nx dr np m k x c p).2.2 i < np := by
  intro m
  induction m with
  | zero => intro k x c p hp i hi; exact hp i hi
  | succ m ih =>
    intro k x c p hp i hi
    rw [wkN]
    split
    · refine ih (k + 1) (nx (nx x)) (c + 1) (upN p k (dr (nx x) np)) (fun j hj => ?_) i (by omega)
      by_cases h : j = k
      · rw [h, upN_same]; exact h1 _
      · rw [upN_ne h]; exact hp j (by omega)
    · exact ih (k + 1) (nx x) c p (fun j hj => hp j (by omega)) i (by omega)
theorem wkN_o : ∀ m k x c p i, (i < k ∨ k + m ≤ i) → (wkN nx dr np m k x c p).2.2 i = p i := by
  intro m
  induction m with
  | zero => intro k x c p i _; rfl
  | succ m ih =>
    intro k x c p i hi
    rw [wkN]
    split
    · rw [ih (k + 1) (nx (nx x)) (c + 1) (upN p k (dr (nx x) np)) i (by omega), upN_ne (by omega)]
    · exact ih (k + 1) (nx x) c p i (by omega)
theorem wkN_cc : ∀ m k x c d p, wkN nx dr np m k x (c + d) p = ((wkN nx dr np m k x c p).1, (wkN nx dr np m k x c p).2.1 + d, (wkN nx dr np m k x c p).2.2) := by
  intro m
  induction m with
  | zero => intro k x c d p; rfl
  | succ m ih =>
    intro k x c d p
    rw [wkN, wkN]
    split
    · rw [show c + d + 1 = c + 1 + d by omega, ih]
    · rw [ih]
end WK
