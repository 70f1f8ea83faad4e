theorem al_mem {s p : Nat} (hs : s < 256) (h1 : 1 ≤ p) (h2 : p ≤ s) (h3 : p &&& (255 ^^^ s) = 0) : s &&& (255 ^^^ p) = s ^^^ p ∧ s ^^^ p < s := by
  have hm : p ∈ al s := List.mem_filter.mpr ⟨List.mem_range'_1.mpr ⟨h1, by omega⟩, decide_eq_true h3⟩
  have h := List.all_eq_true.mp (al_rest s hs) p hm
  rw [Bool.and_eq_true, Bool.and_eq_true, decide_eq_true_eq, decide_eq_true_eq, decide_eq_true_eq] at h
  exact ⟨h.1, h.2.1⟩
theorem share_L {M : Nat → Bool} {G : Nat → Nat} {s : Nat} (hs : s < 256) (hG : ∀ x, x < s → G x ≤ 8) {T : XS} (hm : ∀ x, x < 256 → T.1 163 x = if M x = true then oo 1 else oo 0) (h164 : ∀ x, x < s → T.1 164 x = oo (G x)) : ∀ m p n b, p + m = s + 1 → m < n → 1 ≤ p → b ≤ 8 → f_X4_share_L5 157 (oo s) n (oo b) (oo p) T = some (oo (((List.range' p m).filter (fun p => decide (p &&& (255 ^^^ s) = 0))).foldl (cvS M G s) b), T) := by
  intro m
  induction m with
  | zero =>
    intro p n b hp hn h1 hb
    obtain ⟨n, rfl⟩ : ∃ n', n = n' + 1 := ⟨n - 1, by omega⟩
    rw [List.range'_zero, List.filter_nil, List.foldl_nil]
    simp (disch := omega) only [f_X4_share_L5, ↓oo_m1, oo_0, oo_1, oo_2, oo_3, oo_4, oo_5, oo_6, oo_7, oo_8, oo_9, oo_10, oo_12, oo_13, oo_14, oo_15, oo_16, oo_17, oo_18, oo_20, oo_24, oo_30, oo_32, oo_36, oo_40, oo_41, oo_48, oo_50, oo_57, oo_59, oo_60, oo_61, oo_62, oo_63, oo_64, oo_66, oo_72, oo_78, oo_96, oo_97, oo_99, oo_100, oo_101, oo_105, oo_107, oo_108, oo_109, oo_110, oo_111, oo_112, oo_114, oo_115, oo_116, oo_117, oo_119, oo_122, oo_128, oo_130, oo_134, oo_135, oo_136, oo_137, oo_138, oo_139, oo_140, oo_141, oo_142, oo_143, oo_144, oo_145, oo_151, oo_157, oo_194, oo_200, oo_240, oo_255, oo_256, oo_274, oo_276, oo_300, oo_516, oo_900, oo_940, oo_941, oo_999, oo_1000, oo_1040, oo_10000, oo_add, oo_mul, oo_sub, oo_lt, oo_le, oo_eq, oo_nat, oo_div, oo_rem, oo_nn, nn_oo, oo_nnlt, nn_oolt, oo_nnle, nn_oole, ↓reduceIte, if_pos, if_neg, or_false, false_or, or_true, true_or, and_true, true_and, and_false, false_and, not_true_eq_false, not_false_eq_true, Nat.not_lt_zero, Bool.false_eq_true, Bool.true_eq_false]
  | succ m ih =>
    intro p n b hp hn h1 hb
    obtain ⟨n, rfl⟩ : ∃ n', n = n' + 1 := ⟨n - 1, by omega⟩
    have e1 := set_not (a := p) (b := s) (by omega) hs
    have hle := Nat.and_le_left (n := p) (m := 255 ^^^ s)
    rw [List.range'_succ]
    by_cases hsub : p &&& (255 ^^^ s) = 0
    · rw [List.filter_cons_of_pos (by simpa using hsub), List.foldl_cons]
      obtain ⟨-, hlt⟩ := al_mem hs h1 (by omega) hsub
      have e2 := set_xor (a := s) (b := p) hs (by omega)
      have e3 := h164 _ hlt
      have e4 := hm p (by omega)
      have hG8 := hG _ hlt
      have e5 : gat T 164 (oo (s ^^^ p)) = oo (G (s ^^^ p)) := by rw [g_164 (by omega)]; exact e3
      have e6 : gat T 163 (oo p) = if M p = true then oo 1 else oo 0 := by rw [g_163 (by omega)]; exact e4
      by_cases hM : M p = true
      · rw [if_pos hM] at e6
        have hcv : cvS M G s b p = if G (s ^^^ p) + 1 < b then G (s ^^^ p) + 1 else b := by unfold cvS; rw [if_pos hM]
        rw [hcv]
        by_cases hc : G (s ^^^ p) + 1 < b
        · rw [if_pos hc]
          simp (disch := omega) only [f_X4_share_L5, ↓oo_m1, oo_0, oo_1, oo_2, oo_3, oo_4, oo_5, oo_6, oo_7, oo_8, oo_9, oo_10, oo_12, oo_13, oo_14, oo_15, oo_16, oo_17, oo_18, oo_20, oo_24, oo_30, oo_32, oo_36, oo_40, oo_41, oo_48, oo_50, oo_57, oo_59, oo_60, oo_61, oo_62, oo_63, oo_64, oo_66, oo_72, oo_78, oo_96, oo_97, oo_99, oo_100, oo_101, oo_105, oo_107, oo_108, oo_109, oo_110, oo_111, oo_112, oo_114, oo_115, oo_116, oo_117, oo_119, oo_122, oo_128, oo_130, oo_134, oo_135, oo_136, oo_137, oo_138, oo_139, oo_140, oo_141, oo_142, oo_143, oo_144, oo_145, oo_151, oo_157, oo_194, oo_200, oo_240, oo_255, oo_256, oo_274, oo_276, oo_300, oo_516, oo_900, oo_940, oo_941, oo_999, oo_1000, oo_1040, oo_10000, oo_add, oo_mul, oo_sub, oo_lt, oo_le, oo_eq, oo_nat, oo_div, oo_rem, oo_nn, nn_oo, oo_nnlt, nn_oolt, oo_nnle, nn_oole, ↓reduceIte, if_pos, if_neg, or_false, false_or, or_true, true_or, and_true, true_and, and_false, false_and, not_true_eq_false, not_false_eq_true, Nat.not_lt_zero, Bool.false_eq_true, Bool.true_eq_false, rf_157_0, rf_157_3, rf_157_4, rf_157_5, rf_157_6, rf_157_7, rf_157_8, e1, hsub, e6, e2, e5]
          exact ih (p + 1) n _ (by omega) (by omega) (by omega) (by omega)
        · rw [if_neg hc]
          simp (disch := omega) only [f_X4_share_L5, ↓oo_m1, oo_0, oo_1, oo_2, oo_3, oo_4, oo_5, oo_6, oo_7, oo_8, oo_9, oo_10, oo_12, oo_13, oo_14, oo_15, oo_16, oo_17, oo_18, oo_20, oo_24, oo_30, oo_32, oo_36, oo_40, oo_41, oo_48, oo_50, oo_57, oo_59, oo_60, oo_61, oo_62, oo_63, oo_64, oo_66, oo_72, oo_78, oo_96, oo_97, oo_99, oo_100, oo_101, oo_105, oo_107, oo_108, oo_109, oo_110, oo_111, oo_112, oo_114, oo_115, oo_116, oo_117, oo_119, oo_122, oo_128, oo_130, oo_134, oo_135, oo_136, oo_137, oo_138, oo_139, oo_140, oo_141, oo_142, oo_143, oo_144, oo_145, oo_151, oo_157, oo_194, oo_200, oo_240, oo_255, oo_256, oo_274, oo_276, oo_300, oo_516, oo_900, oo_940, oo_941, oo_999, oo_1000, oo_1040, oo_10000, oo_add, oo_mul, oo_sub, oo_lt, oo_le, oo_eq, oo_nat, oo_div, oo_rem, oo_nn, nn_oo, oo_nnlt, nn_oolt, oo_nnle, nn_oole, ↓reduceIte, if_pos, if_neg, or_false, false_or, or_true, true_or, and_true, true_and, and_false, false_and, not_true_eq_false, not_false_eq_true, Nat.not_lt_zero, Bool.false_eq_true, Bool.true_eq_false, rf_157_0, rf_157_3, rf_157_4, rf_157_5, rf_157_6, rf_157_7, rf_157_8, e1, hsub, e6, e2, e5]
          exact ih (p + 1) n _ (by omega) (by omega) (by omega) hb
      · rw [if_neg hM] at e6
        have hcv : cvS M G s b p = b := by unfold cvS; rw [if_neg hM]
        rw [hcv]
        simp (disch := omega) only [f_X4_share_L5, ↓oo_m1, oo_0, oo_1, oo_2, oo_3, oo_4, oo_5, oo_6, oo_7, oo_8, oo_9, oo_10, oo_12, oo_13, oo_14, oo_15, oo_16, oo_17, oo_18, oo_20, oo_24, oo_30, oo_32, oo_36, oo_40, oo_41, oo_48, oo_50, oo_57, oo_59, oo_60, oo_61, oo_62, oo_63, oo_64, oo_66, oo_72, oo_78, oo_96, oo_97, oo_99, oo_100, oo_101, oo_105, oo_107, oo_108, oo_109, oo_110, oo_111, oo_112, oo_114, oo_115, oo_116, oo_117, oo_119, oo_122, oo_128, oo_130, oo_134, oo_135, oo_136, oo_137, oo_138, oo_139, oo_140, oo_141, oo_142, oo_143, oo_144, oo_145, oo_151, oo_157, oo_194, oo_200, oo_240, oo_255, oo_256, oo_274, oo_276, oo_300, oo_516, oo_900, oo_940, oo_941, oo_999, oo_1000, oo_1040, oo_10000, oo_add, oo_mul, oo_sub, oo_lt, oo_le, oo_eq, oo_nat, oo_div, oo_rem, oo_nn, nn_oo, oo_nnlt, nn_oolt, oo_nnle, nn_oole, ↓reduceIte, if_pos, if_neg, or_false, false_or, or_true, true_or, and_true, true_and, and_false, false_and, not_true_eq_false, not_false_eq_true, Nat.not_lt_zero, Bool.false_eq_true, Bool.true_eq_false, rf_157_0, rf_157_3, rf_157_4, rf_157_5, rf_157_6, rf_157_7, rf_157_8, e1, hsub, e6]
        exact ih (p + 1) n _ (by omega) (by omega) (by omega) hb
    · rw [List.filter_cons_of_neg (by simpa using hsub)]
      simp (disch := omega) only [f_X4_share_L5, ↓oo_m1, oo_0, oo_1, oo_2, oo_3, oo_4, oo_5, oo_6, oo_7, oo_8, oo_9, oo_10, oo_12, oo_13, oo_14, oo_15, oo_16, oo_17, oo_18, oo_20, oo_24, oo_30, oo_32, oo_36, oo_40, oo_41, oo_48, oo_50, oo_57, oo_59, oo_60, oo_61, oo_62, oo_63, oo_64, oo_66, oo_72, oo_78, oo_96, oo_97, oo_99, oo_100, oo_101, oo_105, oo_107, oo_108, oo_109, oo_110, oo_111, oo_112, oo_114, oo_115, oo_116, oo_117, oo_119, oo_122, oo_128, oo_130, oo_134, oo_135, oo_136, oo_137, oo_138, oo_139, oo_140, oo_141, oo_142, oo_143, oo_144, oo_145, oo_151, oo_157, oo_194, oo_200, oo_240, oo_255, oo_256, oo_274, oo_276, oo_300, oo_516, oo_900, oo_940, oo_941, oo_999, oo_1000, oo_1040, oo_10000, oo_add, oo_mul, oo_sub, oo_lt, oo_le, oo_eq, oo_nat, oo_div, oo_rem, oo_nn, nn_oo, oo_nnlt, nn_oolt, oo_nnle, nn_oole, ↓reduceIte, if_pos, if_neg, or_false, false_or, or_true, true_or, and_true, true_and, and_false, false_and, not_true_eq_false, not_false_eq_true, Nat.not_lt_zero, Bool.false_eq_true, Bool.true_eq_false, rf_157_0, rf_157_3, rf_157_4, rf_157_5, rf_157_6, rf_157_7, rf_157_8, e1, hsub]
      exact ih (p + 1) n _ (by omega) (by omega) (by omega) hb
theorem cv_le {M : Nat → Bool} {G : Nat → Nat} {s : Nat} : cvN M G s ≤ 8 := fold_le _ _ (Nat.le_refl _) (fun p _ b hb => by
  unfold cvS
  split
  · split <;> omega
  · exact hb)
theorem cv_ext {M : Nat → Bool} {F G : Nat → Nat} {s : Nat} (hs : s < 256) (h : ∀ x, x < s → F x = G x) : cvN M F s = cvN M G s := fold_ext _ _ (fun p hp b => by
  have h2 := List.all_eq_true.mp (al_rest s hs) p hp
  rw [Bool.and_eq_true, Bool.and_eq_true, decide_eq_true_eq, decide_eq_true_eq, decide_eq_true_eq] at h2
  unfold cvS
  rw [h _ h2.2.1])
theorem sets_c {M : Nat → Bool} {A : Nat} (hA : A < 256) : ∀ m s n (T : XS) (F : Nat → Nat), s + m = A + 1 → m < n → 1 ≤ s → (∀ x, x < 256 → T.1 163 x = if M x = true then oo 1 else oo 0) → (∀ x, x < s → T.1 164 x = oo (F x)) → F 0 = 0 → (∀ x, 1 ≤ x → x < s → F x = cvN M F x) → (∀ x, x < s → F x ≤ 8) → ∃ (U : XS) (G : Nat → Nat), f_X4_fewest_L37 (oo A) 157 n (oo s) T = some U ∧ Fr [(164, 9999)] T U ∧ (∀ x, x ≤ A → U.1 164 x = oo (G x)) ∧ G 0 = 0 ∧ (∀ x, 1 ≤ x → x ≤ A → G x = cvN M G x) := by
  intro m
  induction m with
  | zero =>
    intro s n T F hk hn h1 hm h164 h0 hrec hle
    obtain ⟨n, rfl⟩ : ∃ n', n = n' + 1 := ⟨n - 1, by omega⟩
    refine ⟨T, F, ?_, Fr.rf _ _, fun x hx => h164 x (by omega), h0, fun x q1 q2 => hrec x q1 (by omega)⟩
    simp (disch := omega) only [f_X4_fewest_L37, ↓oo_m1, oo_0, oo_1, oo_2, oo_3, oo_4, oo_5, oo_6, oo_7, oo_8, oo_9, oo_10, oo_12, oo_13, oo_14, oo_15, oo_16, oo_17, oo_18, oo_20, oo_24, oo_30, oo_32, oo_36, oo_40, oo_41, oo_48, oo_50, oo_57, oo_59, oo_60, oo_61, oo_62, oo_63, oo_64, oo_66, oo_72, oo_78, oo_96, oo_97, oo_99, oo_100, oo_101, oo_105, oo_107, oo_108, oo_109, oo_110, oo_111, oo_112, oo_114, oo_115, oo_116, oo_117, oo_119, oo_122, oo_128, oo_130, oo_134, oo_135, oo_136, oo_137, oo_138, oo_139, oo_140, oo_141, oo_142, oo_143, oo_144, oo_145, oo_151, oo_157, oo_194, oo_200, oo_240, oo_255, oo_256, oo_274, oo_276, oo_300, oo_516, oo_900, oo_940, oo_941, oo_999, oo_1000, oo_1040, oo_10000, oo_add, oo_mul, oo_sub, oo_lt, oo_le, oo_eq, oo_nat, oo_div, oo_rem, oo_nn, nn_oo, oo_nnlt, nn_oolt, oo_nnle, nn_oole, ↓reduceIte, if_pos, if_neg, or_false, false_or, or_true, true_or, and_true, true_and, and_false, false_and, not_true_eq_false, not_false_eq_true, Nat.not_lt_zero, Bool.false_eq_true, Bool.true_eq_false]
  | succ m ih =>
    intro s n T F hk hn h1 hm h164 h0 hrec hle
    obtain ⟨n, rfl⟩ : ∃ n', n = n' + 1 := ⟨n - 1, by omega⟩
    have hsh := share_L (M := M) (G := F) (s := s) (T := T) (by omega) hle hm h164 s 1 1000000 8 (by omega) (by omega) (Nat.le_refl _) (Nat.le_refl _)
    change f_X4_share_L5 157 (oo s) 1000000 (oo 8) (oo 1) T = some (oo (cvN M F s), T) at hsh
    have hF0 : Fr [(164, 9999)] T (sI T 164 s (oo (cvN M F s))) := Fr.sIr (Fr.rf _ _) rfl
    have hp : ∀ x, pat T 164 (oo s) x = sI T 164 s x := fun x => p_164 (by omega)
    obtain ⟨U, G, u1, u2, u3, u4, u5⟩ := ih (s + 1) n (sI T 164 s (oo (cvN M F s))) (upN F s (cvN M F s)) (by omega) (by omega) (by omega) (fun x hx => by rw [sI_cell (by decide)]; exact hm x hx) (fun x hx => by
      by_cases h : x = s
      · rw [h, upN_same, sI_same]
      · rw [upN_ne h, sI_place h]; exact h164 x (by omega)) (by rw [upN_ne (by omega)]; exact h0) (fun x q1 q2 => by
      by_cases h : x = s
      · rw [h, upN_same]
        exact cv_ext (by omega) (fun y hy => (upN_ne (by omega)).symm)
      · rw [upN_ne h, hrec x q1 (by omega)]
        exact cv_ext (by omega) (fun y hy => (upN_ne (by omega)).symm)) (fun x hx => by
      by_cases h : x = s
      · rw [h, upN_same]; exact cv_le
      · rw [upN_ne h]; exact hle x (by omega))
    refine ⟨U, G, ?_, Fr.trans hF0 u2, u3, u4, u5⟩
    simp (disch := omega) only [f_X4_fewest_L37, f_X4_share, ↓oo_m1, oo_0, oo_1, oo_2, oo_3, oo_4, oo_5, oo_6, oo_7, oo_8, oo_9, oo_10, oo_12, oo_13, oo_14, oo_15, oo_16, oo_17, oo_18, oo_20, oo_24, oo_30, oo_32, oo_36, oo_40, oo_41, oo_48, oo_50, oo_57, oo_59, oo_60, oo_61, oo_62, oo_63, oo_64, oo_66, oo_72, oo_78, oo_96, oo_97, oo_99, oo_100, oo_101, oo_105, oo_107, oo_108, oo_109, oo_110, oo_111, oo_112, oo_114, oo_115, oo_116, oo_117, oo_119, oo_122, oo_128, oo_130, oo_134, oo_135, oo_136, oo_137, oo_138, oo_139, oo_140, oo_141, oo_142, oo_143, oo_144, oo_145, oo_151, oo_157, oo_194, oo_200, oo_240, oo_255, oo_256, oo_274, oo_276, oo_300, oo_516, oo_900, oo_940, oo_941, oo_999, oo_1000, oo_1040, oo_10000, oo_add, oo_mul, oo_sub, oo_lt, oo_le, oo_eq, oo_nat, oo_div, oo_rem, oo_nn, nn_oo, oo_nnlt, nn_oolt, oo_nnle, nn_oole, ↓reduceIte, if_pos, if_neg, or_false, false_or, or_true, true_or, and_true, true_and, and_false, false_and, not_true_eq_false, not_false_eq_true, Nat.not_lt_zero, Bool.false_eq_true, Bool.true_eq_false, Option.bind_some, Option.bind_none, rf_157_0, rf_157_3, rf_157_4, rf_157_5, rf_157_6, rf_157_7, rf_157_8, hsh, hp]
    exact u1
