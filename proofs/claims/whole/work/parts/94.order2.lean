theorem lpA_ex {p : Nat → Bool} : ∀ m c, lpA p m c = true → ∃ x, c ≤ x ∧ x < c + m ∧ p x = true := by
  intro m
  induction m with
  | zero => intro c h; cases h
  | succ m ih =>
    intro c h
    rw [lpA_s, Bool.or_eq_true] at h
    rcases h with h | h
    · exact ⟨c, Nat.le_refl _, by omega, h⟩
    · obtain ⟨x, h1, h2, h3⟩ := ih (c + 1) h
      exact ⟨x, by omega, by omega, h3⟩
theorem lpA_no {p : Nat → Bool} : ∀ m c, lpA p m c = false → ∀ x, c ≤ x → x < c + m → p x = false := by
  intro m
  induction m with
  | zero => intro c _ x h1 h2; omega
  | succ m ih =>
    intro c h x h1 h2
    rw [lpA_s, Bool.or_eq_false_iff] at h
    by_cases hx : x = c
    · rw [hx]; exact h.1
    · exact ih (c + 1) h.2 x (by omega) (by omega)
def anyC (v : Nat → Nat) : Bool := lpA (fun c => decide (sgF (clothG v c) 6 = 0)) (v 193) 0
def FOv (v : Nat → Nat) : Option (Nat → Nat) := FO v (v 193) 0 0 (fun _ => 0) (fun _ => 0)
def RSv (v : Nat → Nat) : Nat → Bool := RS v (v 193) 0 (fun _ => 0)
theorem FOv_clean {v : Nat → Nat} (hS : SOK v) (h : anyC v = true) : FOv v = none := by
  obtain ⟨x, -, h2, h3⟩ := lpA_ex _ _ h
  exact FO_clean hS.c8 (c0 := x) (by omega) (of_decide_eq_true h3) _ _ _ _ _ (by omega) PI_0 (by rw [Nat.zero_testBit]; decide)
section OR
variable {S : XS} {v : Nat → Nat}
theorem any_L (hW : IsWd S 28 v) (hS : SOK v) : ∀ m c n, c + m = v 193 → m < n → f_X4_isAnyClean_L2 28 n (oo c) S = some (if lpA (fun c => decide (sgF (clothG v c) 6 = 0)) m c = true then .inl (true, S) else .inr S) := by
  have h8 := hS.c8
  intro m
  induction m with
  | zero =>
    intro c n hc hn
    obtain ⟨n, rfl⟩ : ∃ n', n = n' + 1 := ⟨n - 1, by omega⟩
    have e := hW.cn
    simp (disch := omega) only [f_X4_isAnyClean_L2, ↓oo_m1, oo_0, oo_1, oo_2, oo_3, oo_4, oo_5, oo_6, oo_7, oo_8, oo_9, oo_10, oo_12, oo_13, oo_14, oo_15, oo_16, oo_17, oo_18, oo_20, oo_24, oo_30, oo_32, oo_36, oo_40, oo_41, oo_48, oo_50, oo_57, oo_59, oo_60, oo_61, oo_62, oo_63, oo_64, oo_66, oo_72, oo_78, oo_96, oo_97, oo_99, oo_100, oo_101, oo_105, oo_107, oo_108, oo_109, oo_110, oo_111, oo_112, oo_114, oo_115, oo_116, oo_117, oo_119, oo_122, oo_128, oo_130, oo_134, oo_135, oo_136, oo_137, oo_138, oo_139, oo_140, oo_141, oo_142, oo_143, oo_144, oo_145, oo_151, oo_157, oo_194, oo_200, oo_240, oo_255, oo_256, oo_274, oo_276, oo_300, oo_516, oo_900, oo_940, oo_941, oo_999, oo_1000, oo_1040, oo_10000, oo_add, oo_mul, oo_sub, oo_lt, oo_le, oo_eq, oo_nat, oo_div, oo_rem, oo_nn, nn_oo, oo_nnlt, nn_oolt, oo_nnle, nn_oole, ↓reduceIte, if_pos, if_neg, or_false, false_or, or_true, true_or, and_true, true_and, and_false, false_and, not_true_eq_false, not_false_eq_true, Nat.not_lt_zero, Bool.false_eq_true, Bool.true_eq_false, e, lpA]
  | succ m ih =>
    intro c n hc hn
    obtain ⟨n, rfl⟩ : ∃ n', n = n' + 1 := ⟨n - 1, by omega⟩
    have e := hW.cn
    have hst := str6 (S := S) (c := 32) (r := c) (g := clothG v c) (cloth_g hW hS (by omega)) (fun s hs => by have := cl99 hS (c := c) (by omega) hs; omega)
    rw [lpA_s]
    by_cases h : sgF (clothG v c) 6 = 0
    · rw [decide_eq_true h, Bool.true_or, if_pos rfl]
      rw [h, enc_0] at hst
      simp (disch := omega) only [f_X4_isAnyClean_L2, ↓oo_m1, oo_0, oo_1, oo_2, oo_3, oo_4, oo_5, oo_6, oo_7, oo_8, oo_9, oo_10, oo_12, oo_13, oo_14, oo_15, oo_16, oo_17, oo_18, oo_20, oo_24, oo_30, oo_32, oo_36, oo_40, oo_41, oo_48, oo_50, oo_57, oo_59, oo_60, oo_61, oo_62, oo_63, oo_64, oo_66, oo_72, oo_78, oo_96, oo_97, oo_99, oo_100, oo_101, oo_105, oo_107, oo_108, oo_109, oo_110, oo_111, oo_112, oo_114, oo_115, oo_116, oo_117, oo_119, oo_122, oo_128, oo_130, oo_134, oo_135, oo_136, oo_137, oo_138, oo_139, oo_140, oo_141, oo_142, oo_143, oo_144, oo_145, oo_151, oo_157, oo_194, oo_200, oo_240, oo_255, oo_256, oo_274, oo_276, oo_300, oo_516, oo_900, oo_940, oo_941, oo_999, oo_1000, oo_1040, oo_10000, oo_add, oo_mul, oo_sub, oo_lt, oo_le, oo_eq, oo_nat, oo_div, oo_rem, oo_nn, nn_oo, oo_nnlt, nn_oolt, oo_nnle, nn_oole, ↓reduceIte, if_pos, if_neg, or_false, false_or, or_true, true_or, and_true, true_and, and_false, false_and, not_true_eq_false, not_false_eq_true, Nat.not_lt_zero, Bool.false_eq_true, Bool.true_eq_false, Option.bind_some, Option.bind_none, rf_28_1, rf_28_2, rf_28_3, rf_28_5, rf_28_6, rf_28_7, rf_28_8, e, hst]
    · have h6 := sgF_le (clothG v c) 6
      have hne : ¬ enc (sgF (clothG v c) 6) = nn := by rw [enc_nn (by omega)]; exact h
      rw [decide_eq_false h, Bool.false_or]
      simp (disch := omega) only [f_X4_isAnyClean_L2, ↓oo_m1, oo_0, oo_1, oo_2, oo_3, oo_4, oo_5, oo_6, oo_7, oo_8, oo_9, oo_10, oo_12, oo_13, oo_14, oo_15, oo_16, oo_17, oo_18, oo_20, oo_24, oo_30, oo_32, oo_36, oo_40, oo_41, oo_48, oo_50, oo_57, oo_59, oo_60, oo_61, oo_62, oo_63, oo_64, oo_66, oo_72, oo_78, oo_96, oo_97, oo_99, oo_100, oo_101, oo_105, oo_107, oo_108, oo_109, oo_110, oo_111, oo_112, oo_114, oo_115, oo_116, oo_117, oo_119, oo_122, oo_128, oo_130, oo_134, oo_135, oo_136, oo_137, oo_138, oo_139, oo_140, oo_141, oo_142, oo_143, oo_144, oo_145, oo_151, oo_157, oo_194, oo_200, oo_240, oo_255, oo_256, oo_274, oo_276, oo_300, oo_516, oo_900, oo_940, oo_941, oo_999, oo_1000, oo_1040, oo_10000, oo_add, oo_mul, oo_sub, oo_lt, oo_le, oo_eq, oo_nat, oo_div, oo_rem, oo_nn, nn_oo, oo_nnlt, nn_oolt, oo_nnle, nn_oole, ↓reduceIte, if_pos, if_neg, or_false, false_or, or_true, true_or, and_true, true_and, and_false, false_and, not_true_eq_false, not_false_eq_true, Nat.not_lt_zero, Bool.false_eq_true, Bool.true_eq_false, Option.bind_some, Option.bind_none, rf_28_1, rf_28_2, rf_28_3, rf_28_5, rf_28_6, rf_28_7, rf_28_8, e, hst, hne]
      exact ih (c + 1) n (by omega) (by omega)
theorem any_c (hW : IsWd S 28 v) (hS : SOK v) : f_X4_isAnyClean 28 S = some (anyC v, S) := by
  have h := any_L hW hS (v 193) 0 1000000 (by omega) (by have := hS.c8; omega)
  unfold f_X4_isAnyClean
  rw [show (0 : Int32) = oo 0 from rfl, h, Option.bind_some]
  unfold anyC
  cases lpA (fun c => decide (sgF (clothG v c) 6 = 0)) (v 193) 0 <;> rfl
theorem one_c (hW : IsWd S 28 v) (hS : SOK v) (h162 : ∀ s, s < 6 → S.1 162 s = oo 0) : ∃ U, f_X4_canOneNose 157 28 S = some ((FOv v).isSome, U) ∧ Fr [(160, 9999), (161, 9999), (162, 9999), (163, 9999)] S U ∧ (∀ j, j < 6 → U.1 162 j = oo 0) ∧ (∀ p, FOv v = some p → ∀ i, i < v 193 → U.1 161 i = oo (p i)) ∧ (FOv v = none → ∀ x, x < 256 → U.1 163 x = if RSv v x = true then oo 1 else oo 0) := by
  have h8 := hS.c8
  have hF0 : Fr [(163, 9999)] S (filI S 163 (oo 0)) := fil_fr rfl
  have hl := loop_blk (L := f_X4_canOneNose_L10 157 28) (a := 160) (lo := 0) (st := 0) (m := v 193) (f := fun j => enc (sgF (clothG v j) 6)) (S := filI S 163 (oo 0)) (R := some (blk (filI S 163 (oo 0)) 160 0 (v 193) (fun j => enc (sgF (clothG v j) 6)))) (fun n k hk => by
    have hFk : Fr [(160, 9999), (163, 9999)] S (blk (filI S 163 (oo 0)) 160 0 k (fun j => enc (sgF (clothG v j) 6))) := Fr.blk (hF0.mono rfl) rfl
    have hWk := hW.fr hFk rfl
    have e := hWk.cn
    have hst := str6 (c := 32) (r := k) (g := clothG v k) (cloth_g hWk hS hk) (fun s hs => by have := cl99 hS (c := k) hk hs; omega)
    have hp : ∀ x, pat (blk (filI S 163 (oo 0)) 160 0 k (fun j => enc (sgF (clothG v j) 6))) 160 (oo k) x = sI (blk (filI S 163 (oo 0)) 160 0 k (fun j => enc (sgF (clothG v j) 6))) 160 k x := fun x => p_160 (by omega)
    simp (disch := omega) only [f_X4_canOneNose_L10, ↓oo_m1, oo_0, oo_1, oo_2, oo_3, oo_4, oo_5, oo_6, oo_7, oo_8, oo_9, oo_10, oo_12, oo_13, oo_14, oo_15, oo_16, oo_17, oo_18, oo_20, oo_24, oo_30, oo_32, oo_36, oo_40, oo_41, oo_48, oo_50, oo_57, oo_59, oo_60, oo_61, oo_62, oo_63, oo_64, oo_66, oo_72, oo_78, oo_96, oo_97, oo_99, oo_100, oo_101, oo_105, oo_107, oo_108, oo_109, oo_110, oo_111, oo_112, oo_114, oo_115, oo_116, oo_117, oo_119, oo_122, oo_128, oo_130, oo_134, oo_135, oo_136, oo_137, oo_138, oo_139, oo_140, oo_141, oo_142, oo_143, oo_144, oo_145, oo_151, oo_157, oo_194, oo_200, oo_240, oo_255, oo_256, oo_274, oo_276, oo_300, oo_516, oo_900, oo_940, oo_941, oo_999, oo_1000, oo_1040, oo_10000, oo_add, oo_mul, oo_sub, oo_lt, oo_le, oo_eq, oo_nat, oo_div, oo_rem, oo_nn, nn_oo, oo_nnlt, nn_oolt, oo_nnle, nn_oole, ↓reduceIte, if_pos, if_neg, or_false, false_or, or_true, true_or, and_true, true_and, and_false, false_and, not_true_eq_false, not_false_eq_true, Nat.not_lt_zero, Bool.false_eq_true, Bool.true_eq_false, Option.bind_some, Option.bind_none, rf_28_1, rf_28_2, rf_28_3, rf_28_5, rf_28_6, rf_28_7, rf_28_8, rf_157_0, rf_157_3, rf_157_4, rf_157_5, rf_157_6, rf_157_7, rf_157_8, Nat.zero_add, e, hst, hp]) (fun n => by
    have hFk : Fr [(160, 9999), (163, 9999)] S (blk (filI S 163 (oo 0)) 160 0 (v 193) (fun j => enc (sgF (clothG v j) 6))) := Fr.blk (hF0.mono rfl) rfl
    have e := (hW.fr hFk rfl).cn
    simp (disch := omega) only [f_X4_canOneNose_L10, ↓oo_m1, oo_0, oo_1, oo_2, oo_3, oo_4, oo_5, oo_6, oo_7, oo_8, oo_9, oo_10, oo_12, oo_13, oo_14, oo_15, oo_16, oo_17, oo_18, oo_20, oo_24, oo_30, oo_32, oo_36, oo_40, oo_41, oo_48, oo_50, oo_57, oo_59, oo_60, oo_61, oo_62, oo_63, oo_64, oo_66, oo_72, oo_78, oo_96, oo_97, oo_99, oo_100, oo_101, oo_105, oo_107, oo_108, oo_109, oo_110, oo_111, oo_112, oo_114, oo_115, oo_116, oo_117, oo_119, oo_122, oo_128, oo_130, oo_134, oo_135, oo_136, oo_137, oo_138, oo_139, oo_140, oo_141, oo_142, oo_143, oo_144, oo_145, oo_151, oo_157, oo_194, oo_200, oo_240, oo_255, oo_256, oo_274, oo_276, oo_300, oo_516, oo_900, oo_940, oo_941, oo_999, oo_1000, oo_1040, oo_10000, oo_add, oo_mul, oo_sub, oo_lt, oo_le, oo_eq, oo_nat, oo_div, oo_rem, oo_nn, nn_oo, oo_nnlt, nn_oolt, oo_nnle, nn_oole, ↓reduceIte, if_pos, if_neg, or_false, false_or, or_true, true_or, and_true, true_and, and_false, false_and, not_true_eq_false, not_false_eq_true, Nat.not_lt_zero, Bool.false_eq_true, Bool.true_eq_false, Nat.zero_add, e]) 1000000 (by omega)
  have hF1 : Fr [(160, 9999), (163, 9999)] S (blk (filI S 163 (oo 0)) 160 0 (v 193) (fun j => enc (sgF (clothG v j) 6))) := Fr.blk (hF0.mono rfl) rfl
  obtain ⟨U, u1, u2, u3, u4, u5, u6⟩ := try_c hS 12 (v 193) 0 0 (fun _ => 0) (fun _ => 0) (blk (filI S 163 (oo 0)) 160 0 (v 193) (fun j => enc (sgF (clothG v j) 6))) (by omega) (by omega) PI_0 ⟨hW.fr hF1 rfl, fun c hc => by rw [blk_in (by omega)], fun s hs => ⟨by rw [hF1.row (c := 162) rfl, Nat.zero_mul, Nat.zero_add]; exact h162 s hs, Nat.zero_le _⟩, fun i hi => by omega⟩
  refine ⟨U, ?_, Fr.trans (hF1.mono rfl) (u2.mono rfl), fun j hj => by rw [u4 j (by omega), hF1.row (c := 162) rfl]; exact h162 j hj, u5, fun hq x hx => ?_⟩
  · unfold f_X4_canOneNose
    rw [show rf 157 7 = 163 from rfl, show (0 : Int32) = oo 0 from rfl, hl, Option.bind_some, u1, Option.bind_some]
    rfl
  · rw [u6 hq x hx, blk_cell (by decide), fil_in hx]
    rfl
theorem all_n (hN : IsC S 190 516 v) (hS : SOK v) : ∃ U, f_X12_openAll 188 S = some U ∧ Fr [(188, 30), (199, 9999), (200, 9999), (202, 9999), (204, 9999)] S U ∧ (∀ x, x < 256 → U.1 202 x = if RSv v x = true then oo 1 else oo 0) ∧ (FOv v = none → U.1 188 30 = oo 0) ∧ (∀ p, FOv v = some p → U.1 188 30 = oo 1 ∧ ∀ i, i < v 193 → U.1 204 i = oo (p i)) := by
  have h8 := hS.c8
  have hl := loop_blk (L := f_X12_openAll_L2 188) (a := 202) (lo := 0) (st := 0) (m := 256) (f := fun _ => oo 0) (S := S) (R := some (blk S 202 0 256 (fun _ => oo 0))) (fun n k hk => by
    simp (disch := omega) only [f_X12_openAll_L2, vp_b0, ↓oo_m1, oo_0, oo_1, oo_2, oo_3, oo_4, oo_5, oo_6, oo_7, oo_8, oo_9, oo_10, oo_12, oo_13, oo_14, oo_15, oo_16, oo_17, oo_18, oo_20, oo_24, oo_30, oo_32, oo_36, oo_40, oo_41, oo_48, oo_50, oo_57, oo_59, oo_60, oo_61, oo_62, oo_63, oo_64, oo_66, oo_72, oo_78, oo_96, oo_97, oo_99, oo_100, oo_101, oo_105, oo_107, oo_108, oo_109, oo_110, oo_111, oo_112, oo_114, oo_115, oo_116, oo_117, oo_119, oo_122, oo_128, oo_130, oo_134, oo_135, oo_136, oo_137, oo_138, oo_139, oo_140, oo_141, oo_142, oo_143, oo_144, oo_145, oo_151, oo_157, oo_194, oo_200, oo_240, oo_255, oo_256, oo_274, oo_276, oo_300, oo_516, oo_900, oo_940, oo_941, oo_999, oo_1000, oo_1040, oo_10000, oo_add, oo_mul, oo_sub, oo_lt, oo_le, oo_eq, oo_nat, oo_div, oo_rem, oo_nn, nn_oo, oo_nnlt, nn_oolt, oo_nnle, nn_oole, ↓reduceIte, if_pos, if_neg, or_false, false_or, or_true, true_or, and_true, true_and, and_false, false_and, not_true_eq_false, not_false_eq_true, Nat.not_lt_zero, Bool.false_eq_true, Bool.true_eq_false, rf_188_1, rf_188_14, rf_188_15, rf_188_16, rf_188_17, rf_188_18, rf_188_19, rf_188_20, rf_188_21, rf_188_22, rf_188_24, rf_188_25, rf_188_26, rf_188_27, rf_188_28, rf_188_31, rf_188_32, rf_188_34, rf_188_35, rf_188_36, rf_188_37, rf_188_38, rf_188_42, rf_188_43, rf_188_51, rf_188_52, rf_188_53, rf_188_55, ln_202, Nat.zero_add]) (fun n => by
    simp (disch := omega) only [f_X12_openAll_L2, ↓oo_m1, oo_0, oo_1, oo_2, oo_3, oo_4, oo_5, oo_6, oo_7, oo_8, oo_9, oo_10, oo_12, oo_13, oo_14, oo_15, oo_16, oo_17, oo_18, oo_20, oo_24, oo_30, oo_32, oo_36, oo_40, oo_41, oo_48, oo_50, oo_57, oo_59, oo_60, oo_61, oo_62, oo_63, oo_64, oo_66, oo_72, oo_78, oo_96, oo_97, oo_99, oo_100, oo_101, oo_105, oo_107, oo_108, oo_109, oo_110, oo_111, oo_112, oo_114, oo_115, oo_116, oo_117, oo_119, oo_122, oo_128, oo_130, oo_134, oo_135, oo_136, oo_137, oo_138, oo_139, oo_140, oo_141, oo_142, oo_143, oo_144, oo_145, oo_151, oo_157, oo_194, oo_200, oo_240, oo_255, oo_256, oo_274, oo_276, oo_300, oo_516, oo_900, oo_940, oo_941, oo_999, oo_1000, oo_1040, oo_10000, oo_add, oo_mul, oo_sub, oo_lt, oo_le, oo_eq, oo_nat, oo_div, oo_rem, oo_nn, nn_oo, oo_nnlt, nn_oolt, oo_nnle, nn_oole, ↓reduceIte, if_pos, if_neg, or_false, false_or, or_true, true_or, and_true, true_and, and_false, false_and, not_true_eq_false, not_false_eq_true, Nat.not_lt_zero, Bool.false_eq_true, Bool.true_eq_false]) 1000000 (by decide)
  have hF1 : Fr [(188, 30), (199, 9999), (200, 9999), (202, 9999), (204, 9999)] S (blk (sI (blk S 202 0 256 (fun _ => oo 0)) 188 30 (oo 0)) 199 0 6 (fun _ => oo 0)) := Fr.blk (Fr.sIp (Fr.blk (Fr.rf _ _) rfl) rfl) rfl
  have f30 : (blk (sI (blk S 202 0 256 (fun _ => oo 0)) 188 30 (oo 0)) 199 0 6 (fun _ => oo 0)).1 188 30 = oo 0 := by rw [blk_cell (by decide)]; exact sI_same _ _ _ _
  obtain ⟨U, u1, u2, u3, u4, u5, u6, u7, u8⟩ := open_dn hS 12 (v 193) 0 0 (fun _ => 0) (fun _ => 0) (blk (sI (blk S 202 0 256 (fun _ => oo 0)) 188 30 (oo 0)) 199 0 6 (fun _ => oo 0)) (by omega) (by omega) PI_0 ⟨hN.cell (hF1.row rfl), fun s hs => ⟨by rw [blk_in (by omega)], Nat.zero_le _⟩, fun i hi => by omega, .inl f30⟩
  refine ⟨U, ?_, Fr.trans hF1 u2, fun x hx => ?_, u7 f30, u8 f30⟩
  · unfold f_X12_openAll
    rw [show (0 : Int32) = oo 0 from rfl, hl, Option.bind_some, start_n, Option.bind_some, u1, Option.bind_some]
  · rw [u5 x hx, blk_cell (by decide), sI_cell (by decide), blk_in (by omega)]
    rfl
end OR
theorem nos_rel {S U : XS} (hR : Rel S) (hF : Fr [(157, 2), (188, 29), (159, 9999), (201, 9999), (160, 9999), (161, 9999), (162, 9999), (163, 9999), (188, 0), (188, 30), (199, 9999), (200, 9999), (202, 9999), (204, 9999), (203, 9999), (164, 9999)] S U) (hNo : RNos U) : Rel U := by
  obtain ⟨a1, a2, a3, ⟨v, hv, hP⟩, a6, a7, a8, a9, a10, a11⟩ := hR
  exact ⟨a1.fr hF rfl, a2.fr hF rfl, a3.fr hF rfl, ⟨v, hv.fr hF rfl rfl rfl rfl, hP.fr hF rfl rfl⟩, a6.fr hF rfl rfl, hNo, a8.fr hF rfl, a9.fr hF rfl, a10.fr hF rfl, a11.fr hF rfl⟩
theorem ag_order : Ag_order Rel := by
  intro S hR
  obtain ⟨hT, hFa, hK, ⟨v, hv, hP⟩, hKe, hNo, hWa, hC, hD, hX⟩ := id hR; obtain ⟨hN, hO, hS, hH, hW, hNm, hSe⟩ := id hv; obtain ⟨⟨b0, b1, b2, b3, b4, b5⟩, -⟩ := id hO
  have h8 := hS.c8
  obtain ⟨kn, f, hkn, hf, p1, p2, p3, p4, p5, p6, p7, h162⟩ := id hNo
  have hany := any_c hW hS
  have goes : ∀ T : XS, T.1 190 = S.1 190 → FOv v = none → ∃ U, f_X12_order 188 T = some (nn, U) ∧ Fr ((188, 0) :: [(188, 30), (199, 9999), (200, 9999), (202, 9999), (204, 9999)]) T U := fun T h1 h2 => by
    obtain ⟨U, u1, u2, u3, u4, u5⟩ := all_n (S := sI T 188 0 (oo 0)) ((hN.cell h1).ne (d := 188) (by decide)) hS
    refine ⟨U, ?_, Fr.trans (Fr.sIp (Fr.rf _ _) rfl) (u2.mono rfl)⟩
    unfold f_X12_order
    rw [show (0 : Int32) = oo 0 from rfl, u1, Option.bind_some, if_pos (u4 h2)]
    rfl
  have keep : ∀ U : XS, Fr ((188, 0) :: (160, 9999) :: (161, 9999) :: (162, 9999) :: (163, 9999) :: [(188, 30), (199, 9999), (200, 9999), (202, 9999), (204, 9999)]) S U → (∀ j, j < 6 → U.1 162 j = oo 0) → Rel U := fun U hF h => by
    refine nos_rel hR (hF.mono2 (by decide)) ⟨kn, f, hkn, hf, ?_, ?_, fun i hi => ?_, ?_, ?_, fun s hs => ?_, ?_, h⟩
    · rw [hF.get rfl]; exact p1
    · rw [hF.get rfl]; exact p2
    · rw [hF.row (c := 159) rfl, hF.row (c := 201) rfl]; exact p3 i hi
    · rw [hF.get rfl]; exact p4
    · rw [hF.get rfl]; exact p5
    · rw [hF.row (c := 158) rfl, hF.row (c := 205) rfl]; exact p6 s hs
    · rw [hF.get rfl]; exact p7
  cases hA : anyC v with
  | true =>
    rw [hA] at hany
    obtain ⟨U, u1, u2⟩ := goes S rfl (FOv_clean hS hA)
    refine ⟨nn, S, U, ?_, u1, keep U (u2.mono rfl) (fun j hj => by rw [u2.row (c := 162) rfl]; exact h162 j hj)⟩
    simp (disch := omega) only [f_X11_order, f_X4_findOrder, ↓oo_m1, oo_0, oo_1, oo_2, oo_3, oo_4, oo_5, oo_6, oo_7, oo_8, oo_9, oo_10, oo_12, oo_13, oo_14, oo_15, oo_16, oo_17, oo_18, oo_20, oo_24, oo_30, oo_32, oo_36, oo_40, oo_41, oo_48, oo_50, oo_57, oo_59, oo_60, oo_61, oo_62, oo_63, oo_64, oo_66, oo_72, oo_78, oo_96, oo_97, oo_99, oo_100, oo_101, oo_105, oo_107, oo_108, oo_109, oo_110, oo_111, oo_112, oo_114, oo_115, oo_116, oo_117, oo_119, oo_122, oo_128, oo_130, oo_134, oo_135, oo_136, oo_137, oo_138, oo_139, oo_140, oo_141, oo_142, oo_143, oo_144, oo_145, oo_151, oo_157, oo_194, oo_200, oo_240, oo_255, oo_256, oo_274, oo_276, oo_300, oo_516, oo_900, oo_940, oo_941, oo_999, oo_1000, oo_1040, oo_10000, oo_add, oo_mul, oo_sub, oo_lt, oo_le, oo_eq, oo_nat, oo_div, oo_rem, oo_nn, nn_oo, oo_nnlt, nn_oolt, oo_nnle, nn_oole, ↓reduceIte, if_pos, if_neg, or_false, false_or, or_true, true_or, and_true, true_and, and_false, false_and, not_true_eq_false, not_false_eq_true, Nat.not_lt_zero, Bool.false_eq_true, Bool.true_eq_false, Option.bind_some, Option.bind_none, rf_0_0, rf_0_1, rf_0_2, rf_0_3, rf_0_4, rf_0_5, rf_0_6, rf_0_7, rf_0_10, rf_0_11, rf_0_12, rf_0_13, rf_0_14, rf_0_15, rf_0_16, rf_0_17, rf_0_18, hany]
  | false =>
    rw [hA] at hany
    obtain ⟨T, t1, t2, t3, t4, t5⟩ := one_c hW hS h162
    cases hO2 : FOv v with
    | none =>
      rw [hO2] at t1
      obtain ⟨U, u1, u2⟩ := goes T (t2.row rfl) hO2
      refine ⟨nn, T, U, ?_, u1, keep U (Fr.trans (t2.mono rfl) (u2.mono rfl)) (fun j hj => by rw [u2.row (c := 162) rfl]; exact t3 j hj)⟩
      simp (disch := omega) only [f_X11_order, f_X4_findOrder, ↓oo_m1, oo_0, oo_1, oo_2, oo_3, oo_4, oo_5, oo_6, oo_7, oo_8, oo_9, oo_10, oo_12, oo_13, oo_14, oo_15, oo_16, oo_17, oo_18, oo_20, oo_24, oo_30, oo_32, oo_36, oo_40, oo_41, oo_48, oo_50, oo_57, oo_59, oo_60, oo_61, oo_62, oo_63, oo_64, oo_66, oo_72, oo_78, oo_96, oo_97, oo_99, oo_100, oo_101, oo_105, oo_107, oo_108, oo_109, oo_110, oo_111, oo_112, oo_114, oo_115, oo_116, oo_117, oo_119, oo_122, oo_128, oo_130, oo_134, oo_135, oo_136, oo_137, oo_138, oo_139, oo_140, oo_141, oo_142, oo_143, oo_144, oo_145, oo_151, oo_157, oo_194, oo_200, oo_240, oo_255, oo_256, oo_274, oo_276, oo_300, oo_516, oo_900, oo_940, oo_941, oo_999, oo_1000, oo_1040, oo_10000, oo_add, oo_mul, oo_sub, oo_lt, oo_le, oo_eq, oo_nat, oo_div, oo_rem, oo_nn, nn_oo, oo_nnlt, nn_oolt, oo_nnle, nn_oole, ↓reduceIte, if_pos, if_neg, or_false, false_or, or_true, true_or, and_true, true_and, and_false, false_and, not_true_eq_false, not_false_eq_true, Nat.not_lt_zero, Bool.false_eq_true, Bool.true_eq_false, Option.bind_some, Option.bind_none, rf_0_0, rf_0_1, rf_0_2, rf_0_3, rf_0_4, rf_0_5, rf_0_6, rf_0_7, rf_0_10, rf_0_11, rf_0_12, rf_0_13, rf_0_14, rf_0_15, rf_0_16, rf_0_17, rf_0_18, hany, t1, Option.isSome_none]
    | some p =>
      rw [hO2] at t1
      have e284 : T.1 28 4 = oo (v 193) := (hW.fr t2 rfl).cn
      have hc : f_X11_order 0 S = some (oo (v 193), cpy (sI T 157 2 (oo (v 193))) 161 159) := by
        have e2 : (cpy (sI T 157 2 (oo (v 193))) 161 159).1 157 2 = oo (v 193) := by rw [cpy_cell (by decide)]; exact sI_same _ _ _ _
        simp (disch := omega) only [f_X11_order, f_X4_findOrder, ↓oo_m1, oo_0, oo_1, oo_2, oo_3, oo_4, oo_5, oo_6, oo_7, oo_8, oo_9, oo_10, oo_12, oo_13, oo_14, oo_15, oo_16, oo_17, oo_18, oo_20, oo_24, oo_30, oo_32, oo_36, oo_40, oo_41, oo_48, oo_50, oo_57, oo_59, oo_60, oo_61, oo_62, oo_63, oo_64, oo_66, oo_72, oo_78, oo_96, oo_97, oo_99, oo_100, oo_101, oo_105, oo_107, oo_108, oo_109, oo_110, oo_111, oo_112, oo_114, oo_115, oo_116, oo_117, oo_119, oo_122, oo_128, oo_130, oo_134, oo_135, oo_136, oo_137, oo_138, oo_139, oo_140, oo_141, oo_142, oo_143, oo_144, oo_145, oo_151, oo_157, oo_194, oo_200, oo_240, oo_255, oo_256, oo_274, oo_276, oo_300, oo_516, oo_900, oo_940, oo_941, oo_999, oo_1000, oo_1040, oo_10000, oo_add, oo_mul, oo_sub, oo_lt, oo_le, oo_eq, oo_nat, oo_div, oo_rem, oo_nn, nn_oo, oo_nnlt, nn_oolt, oo_nnle, nn_oole, ↓reduceIte, if_pos, if_neg, or_false, false_or, or_true, true_or, and_true, true_and, and_false, false_and, not_true_eq_false, not_false_eq_true, Nat.not_lt_zero, Bool.false_eq_true, Bool.true_eq_false, Option.bind_some, Option.bind_none, rf_0_0, rf_0_1, rf_0_2, rf_0_3, rf_0_4, rf_0_5, rf_0_6, rf_0_7, rf_0_10, rf_0_11, rf_0_12, rf_0_13, rf_0_14, rf_0_15, rf_0_16, rf_0_17, rf_0_18, rf_157_0, rf_157_3, rf_157_4, rf_157_5, rf_157_6, rf_157_7, rf_157_8, hany, t1, Option.isSome_some, e284, e2]
      have hFc : Fr [(157, 2), (159, 9999), (160, 9999), (161, 9999), (162, 9999), (163, 9999)] S (cpy (sI T 157 2 (oo (v 193))) 161 159) := Fr.trans (Fr.sIp (t2.mono rfl) rfl) (fun c j hd => by
        have hne : c ≠ 159 := fun q => by
          subst q
          revert hd
          simp [tch]
        exact ⟨by rw [cpy_cell hne], by rw [cpy_long]⟩)
      have c162 : (cpy (sI T 157 2 (oo (v 193))) 161 159).1 162 = T.1 162 := by rw [cpy_cell (by decide), sI_cell (by decide)]
      have c157 : (cpy (sI T 157 2 (oo (v 193))) 161 159).1 157 2 = oo (v 193) := by rw [cpy_cell (by decide)]; exact sI_same _ _ _ _
      have c159 : ∀ i, i < v 193 → (cpy (sI T 157 2 (oo (v 193))) 161 159).1 159 i = oo (p i) := fun i hi => by
        rw [cpy_same (n := 8) rfl rfl (by omega), sI_cell (by decide)]
        exact t4 p hO2 i hi
      generalize cpy (sI T 157 2 (oo (v 193))) 161 159 = T2 at *
      obtain ⟨U, u1, u2, u3, u4, u5⟩ := all_n (S := sI T2 188 0 (oo 0)) ((hN.cell (hFc.row rfl)).ne (d := 188) (by decide)) hS
      obtain ⟨q1, q2⟩ := u5 p hO2
      have hU : Fr ((188, 0) :: [(188, 30), (199, 9999), (200, 9999), (202, 9999), (204, 9999)]) T2 U := Fr.trans (Fr.sIp (Fr.rf _ _) rfl) (u2.mono rfl)
      have e190 : U.1 190 193 = oo (v 193) := by rw [hU.row (c := 190) rfl, hFc.row (c := 190) rfl]; exact hN 193 (by decide)
      have hl := loop_blk (L := f_X12_order_L32 188) (a := 201) (lo := 0) (st := 0) (m := v 193) (f := fun j => oo (p j)) (S := sI U 188 29 (oo (v 193))) (R := some (blk (sI U 188 29 (oo (v 193))) 201 0 (v 193) (fun j => oo (p j)))) (fun n k hk => by
        have e := q2 k hk
        simp (disch := omega) only [f_X12_order_L32, ↓oo_m1, oo_0, oo_1, oo_2, oo_3, oo_4, oo_5, oo_6, oo_7, oo_8, oo_9, oo_10, oo_12, oo_13, oo_14, oo_15, oo_16, oo_17, oo_18, oo_20, oo_24, oo_30, oo_32, oo_36, oo_40, oo_41, oo_48, oo_50, oo_57, oo_59, oo_60, oo_61, oo_62, oo_63, oo_64, oo_66, oo_72, oo_78, oo_96, oo_97, oo_99, oo_100, oo_101, oo_105, oo_107, oo_108, oo_109, oo_110, oo_111, oo_112, oo_114, oo_115, oo_116, oo_117, oo_119, oo_122, oo_128, oo_130, oo_134, oo_135, oo_136, oo_137, oo_138, oo_139, oo_140, oo_141, oo_142, oo_143, oo_144, oo_145, oo_151, oo_157, oo_194, oo_200, oo_240, oo_255, oo_256, oo_274, oo_276, oo_300, oo_516, oo_900, oo_940, oo_941, oo_999, oo_1000, oo_1040, oo_10000, oo_add, oo_mul, oo_sub, oo_lt, oo_le, oo_eq, oo_nat, oo_div, oo_rem, oo_nn, nn_oo, oo_nnlt, nn_oolt, oo_nnle, nn_oole, ↓reduceIte, if_pos, if_neg, or_false, false_or, or_true, true_or, and_true, true_and, and_false, false_and, not_true_eq_false, not_false_eq_true, Nat.not_lt_zero, Bool.false_eq_true, Bool.true_eq_false, rf_188_1, rf_188_14, rf_188_15, rf_188_16, rf_188_17, rf_188_18, rf_188_19, rf_188_20, rf_188_21, rf_188_22, rf_188_24, rf_188_25, rf_188_26, rf_188_27, rf_188_28, rf_188_31, rf_188_32, rf_188_34, rf_188_35, rf_188_36, rf_188_37, rf_188_38, rf_188_42, rf_188_43, rf_188_51, rf_188_52, rf_188_53, rf_188_55, ln_201, ln_204, blk_cell, sI_same, sI_place, sI_cell, sI_long, sL_int, sL_same, sL_place, sL_cell, Nat.zero_add, e]) (fun n => by
        simp (disch := omega) only [f_X12_order_L32, ↓oo_m1, oo_0, oo_1, oo_2, oo_3, oo_4, oo_5, oo_6, oo_7, oo_8, oo_9, oo_10, oo_12, oo_13, oo_14, oo_15, oo_16, oo_17, oo_18, oo_20, oo_24, oo_30, oo_32, oo_36, oo_40, oo_41, oo_48, oo_50, oo_57, oo_59, oo_60, oo_61, oo_62, oo_63, oo_64, oo_66, oo_72, oo_78, oo_96, oo_97, oo_99, oo_100, oo_101, oo_105, oo_107, oo_108, oo_109, oo_110, oo_111, oo_112, oo_114, oo_115, oo_116, oo_117, oo_119, oo_122, oo_128, oo_130, oo_134, oo_135, oo_136, oo_137, oo_138, oo_139, oo_140, oo_141, oo_142, oo_143, oo_144, oo_145, oo_151, oo_157, oo_194, oo_200, oo_240, oo_255, oo_256, oo_274, oo_276, oo_300, oo_516, oo_900, oo_940, oo_941, oo_999, oo_1000, oo_1040, oo_10000, oo_add, oo_mul, oo_sub, oo_lt, oo_le, oo_eq, oo_nat, oo_div, oo_rem, oo_nn, nn_oo, oo_nnlt, nn_oolt, oo_nnle, nn_oole, ↓reduceIte, if_pos, if_neg, or_false, false_or, or_true, true_or, and_true, true_and, and_false, false_and, not_true_eq_false, not_false_eq_true, Nat.not_lt_zero, Bool.false_eq_true, Bool.true_eq_false, blk_cell, sI_same, sI_place, sI_cell, sI_long, sL_int, sL_same, sL_place, sL_cell, Nat.zero_add]) 1000000 (by omega)
      have hFV : Fr [(157, 2), (188, 29), (159, 9999), (201, 9999), (160, 9999), (161, 9999), (162, 9999), (163, 9999), (188, 0), (188, 30), (199, 9999), (200, 9999), (202, 9999), (204, 9999), (203, 9999), (164, 9999)] S (blk (sI U 188 29 (oo (v 193))) 201 0 (v 193) (fun j => oo (p j))) := Fr.trans (hFc.mono2 (by decide)) (Fr.blk (Fr.sIp (hU.mono2 (by decide)) (by decide)) (by decide))
      have hFW : Fr ((188, 29) :: (201, 9999) :: (188, 0) :: [(188, 30), (199, 9999), (200, 9999), (202, 9999), (204, 9999)]) T2 (blk (sI U 188 29 (oo (v 193))) 201 0 (v 193) (fun j => oo (p j))) := Fr.blk (Fr.sIp (hU.mono2 (by decide)) rfl) rfl
      have hFX : Fr ((188, 29) :: (201, 9999) :: (157, 2) :: (159, 9999) :: (160, 9999) :: (161, 9999) :: (162, 9999) :: (163, 9999) :: (188, 0) :: [(188, 30), (199, 9999), (200, 9999), (202, 9999), (204, 9999)]) S (blk (sI U 188 29 (oo (v 193))) 201 0 (v 193) (fun j => oo (p j))) := Fr.trans (hFc.mono2 (by decide)) (hFW.mono2 (by decide))
      refine ⟨oo (v 193), T2, blk (sI U 188 29 (oo (v 193))) 201 0 (v 193) (fun j => oo (p j)), hc, ?_, nos_rel hR hFV ⟨v 193, f, h8, hf, ?_, ?_, fun i hi => ?_, ?_, ?_, fun s hs => ?_, ?_, fun s hs => ?_⟩⟩
      · unfold f_X12_order
        rw [show (0 : Int32) = oo 0 from rfl, u1, Option.bind_some, if_neg (by rw [q1]; decide), show rf 188 14 = 190 from rfl, e190, hl, Option.bind_some, blk_cell (by decide), sI_same]
      · rw [hFW.get rfl]; exact c157
      · rw [blk_cell (by decide)]; exact sI_same _ _ _ _
      · rw [hFW.row (c := 159) rfl, blk_in (by omega)]; exact c159 i hi
      · rw [hFX.get rfl]; exact p4
      · rw [hFX.get rfl]; exact p5
      · rw [hFX.row (c := 158) rfl, hFX.row (c := 205) rfl]; exact p6 s hs
      · rw [hFX.get rfl]; exact p7
      · rw [hFW.row (c := 162) rfl, c162]; exact t3 s hs
