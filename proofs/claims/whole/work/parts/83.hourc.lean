/-! the class's hour -/
theorem gat_out {S : XS} {c k : Nat} (h : ln c ≤ k) (hk : k < 2147483648) : gat S c (oo k) = oo 0 := by
  unfold gat
  rw [if_pos (.inr (by rw [oo_nat hk]; exact h))]
  rfl
section CP
variable {S : XS} {v : Nat → Nat}
theorem went_c (hH : IsHill S 7 v) (hO : HOK v) {h w : Nat} (hh : h ≤ 2000) (hw : w < 6) : gat S 14 (oo (h * 6 + w)) = oo (wtN v w h (v 4)) := by
  by_cases h1 : h ≤ 60
  · rw [g_14 (by omega), hH.went h w h1 hw]
  · rw [gat_out (by rw [ln_14]; omega) (by omega), wtN_0 hO (by omega) (v 4) (Nat.le_refl _)]
theorem rain_c (hH : IsHill S 7 v) (hO : HOK v) {h : Nat} (hh : h ≤ 2000) : gat S 15 (oo h) = oo (rnN v h (v 5)) := by
  by_cases h1 : h ≤ 60
  · rw [g_15 (by omega), hH.rain h h1]
  · rw [gat_out (by rw [ln_15]; omega) (by omega), rnN_0 hO (by omega) (v 5) (Nat.le_refl _)]
theorem fades_c (hH : IsHill S 7 v) {h c : Nat} (hh : h ≤ 2000) (hc : c < 6) (hk : 1 ≤ v (66 + c)) (hk9 : v (66 + c) ≤ 9) : f_X2_fades 7 (oo c) (oo h) S = some (decide (h % v (66 + c) = 0), S) := by
  have h1 := Nat.mod_lt h (show v (66 + c) > 0 by omega)
  by_cases h2 : h % v (66 + c) = 0
  · rw [decide_eq_true h2]
    simp (disch := omega) only [f_X2_fades, ↓oo_m1, oo_0, oo_1, oo_2, oo_3, oo_4, oo_5, oo_6, oo_7, oo_8, oo_9, oo_10, oo_12, oo_13, oo_14, oo_15, oo_16, oo_17, oo_18, oo_20, oo_24, oo_30, oo_32, oo_36, oo_40, oo_41, oo_48, oo_50, oo_57, oo_59, oo_60, oo_61, oo_62, oo_63, oo_64, oo_66, oo_72, oo_78, oo_96, oo_97, oo_99, oo_100, oo_101, oo_105, oo_107, oo_108, oo_109, oo_110, oo_111, oo_112, oo_114, oo_115, oo_116, oo_117, oo_119, oo_122, oo_128, oo_130, oo_134, oo_135, oo_136, oo_137, oo_138, oo_139, oo_140, oo_141, oo_142, oo_143, oo_144, oo_145, oo_151, oo_157, oo_194, oo_200, oo_240, oo_255, oo_256, oo_274, oo_276, oo_300, oo_516, oo_900, oo_940, oo_941, oo_999, oo_1000, oo_1040, oo_10000, oo_add, oo_mul, oo_sub, oo_lt, oo_le, oo_eq, oo_nat, oo_div, oo_rem, oo_nn, nn_oo, oo_nnlt, nn_oolt, oo_nnle, nn_oole, ↓reduceIte, if_pos, if_neg, or_false, false_or, or_true, true_or, and_true, true_and, and_false, false_and, not_true_eq_false, not_false_eq_true, Nat.not_lt_zero, Bool.false_eq_true, Bool.true_eq_false, rf_7_0, rf_7_1, rf_7_2, rf_7_3, rf_7_4, rf_7_5, rf_7_6, rf_7_7, g_12, p_12, hH.keep, h2]
  · rw [decide_eq_false h2]
    simp (disch := omega) only [f_X2_fades, ↓oo_m1, oo_0, oo_1, oo_2, oo_3, oo_4, oo_5, oo_6, oo_7, oo_8, oo_9, oo_10, oo_12, oo_13, oo_14, oo_15, oo_16, oo_17, oo_18, oo_20, oo_24, oo_30, oo_32, oo_36, oo_40, oo_41, oo_48, oo_50, oo_57, oo_59, oo_60, oo_61, oo_62, oo_63, oo_64, oo_66, oo_72, oo_78, oo_96, oo_97, oo_99, oo_100, oo_101, oo_105, oo_107, oo_108, oo_109, oo_110, oo_111, oo_112, oo_114, oo_115, oo_116, oo_117, oo_119, oo_122, oo_128, oo_130, oo_134, oo_135, oo_136, oo_137, oo_138, oo_139, oo_140, oo_141, oo_142, oo_143, oo_144, oo_145, oo_151, oo_157, oo_194, oo_200, oo_240, oo_255, oo_256, oo_274, oo_276, oo_300, oo_516, oo_900, oo_940, oo_941, oo_999, oo_1000, oo_1040, oo_10000, oo_add, oo_mul, oo_sub, oo_lt, oo_le, oo_eq, oo_nat, oo_div, oo_rem, oo_nn, nn_oo, oo_nnlt, nn_oolt, oo_nnle, nn_oole, ↓reduceIte, if_pos, if_neg, or_false, false_or, or_true, true_or, and_true, true_and, and_false, false_and, not_true_eq_false, not_false_eq_true, Nat.not_lt_zero, Bool.false_eq_true, Bool.true_eq_false, rf_7_0, rf_7_1, rf_7_2, rf_7_3, rf_7_4, rf_7_5, rf_7_6, rf_7_7, g_12, p_12, hH.keep, h2]
theorem hour_c {a N r c h p : Nat} {x : Nat → Nat} {b : Bool} (hH : IsHill S 7 v) (hO : HOK v) (hln : ln a = N) (hN : N ≤ 100000) (ha : a ≠ 10 ∧ a ≠ 11) (hr : r * 6 + 6 ≤ N) (hc : c < 6) (hk : 1 ≤ v (66 + c)) (hk9 : v (66 + c) ≤ 9) (hp : p < 6) (hh : h ≤ 2000) (hx : ∀ s, s < 6 → S.1 a (r * 6 + s) = oo (x s) ∧ x s ≤ 1000) : f_X2_passHour 7 a (oo r) (oo c) (oo h) b (oo p) S = some (blk S a (r * 6) 6 (fun j => oo (hrN v c h (if b = true then 2 else 0) p (x (j - r * 6)) (j - r * 6)))) := by
  obtain ⟨⟨b0, b1, b2, b3, b4, b5⟩, hf, -⟩ := id hO
  have hl := loop_blk (L := f_X2_passHour_L12 (decide (h % v (66 + c) = 0)) 7 a (oo r) b (oo p)) (a := a) (lo := r * 6) (st := 0) (m := 6) (f := fun j => oo (hrN v c h (if b = true then 2 else 0) p (x (j - r * 6)) (j - r * 6))) (S := S) (R := some (blk S a (r * 6) 6 (fun j => oo (hrN v c h (if b = true then 2 else 0) p (x (j - r * 6)) (j - r * 6))))) (fun n k hk2 => by
    have h1 := hf k (by omega)
    have h2 := airN_le hO hp hk2
    obtain ⟨h3, h4⟩ := hx k hk2
    generalize hB : blk S a (r * 6) k (fun j => oo (hrN v c h (if b = true then 2 else 0) p (x (j - r * 6)) (j - r * 6))) = B
    have e1 : gat B 10 (oo k) = oo (v (6 + k)) := by rw [g_10 hk2, ← hB, blk_cell (Ne.symm ha.1), hH.fade k hk2]
    have e2 : gat B 11 (oo (p * 6 + k)) = oo (airN v p k) := by rw [g_11 (by omega), ← hB, blk_cell (Ne.symm ha.2), hH.air p k hp hk2]
    have e3 : gat B a (oo (r * 6 + k)) = oo (x k) := by rw [gat_of hln (by omega) (by omega), ← hB, blk_out (by omega), h3]
    have e4 : ∀ z, pat B a (oo (r * 6 + k)) z = sI B a (r * 6 + k) z := fun z => pat_of hln (by omega) (by omega)
    have e5 : hrN v c h (if b = true then 2 else 0) p (x (r * 6 + k - r * 6)) (r * 6 + k - r * 6) = capN (x k - ((if h % v (66 + c) = 0 then v (6 + k) else 0) + (if b = true then 2 else 0)) + airN v p k) := by rw [Nat.add_sub_cancel_left]; rfl
    rw [e5]
    have fin : ∀ g w, g ≤ 9 → w ≤ 2 → (if (if oo 0 < oo (x k) - oo (g + w) then oo (x k) - oo (g + w) else oo 0) + oo (airN v p k) < oo 99 then (if oo 0 < oo (x k) - oo (g + w) then oo (x k) - oo (g + w) else oo 0) + oo (airN v p k) else oo 99) = oo (capN (x k - (g + w) + airN v p k)) := fun g w hg hw => by
      rw [sub0_oo (by omega) (by omega), oo_add]
      simp (disch := omega) only [oo_lt, cap_oo]
    by_cases h5 : h % v (66 + c) = 0
    · cases b with
      | true =>
        have h6 := fin (v (6 + k)) 2 h1.1 (by decide)
        simp (disch := omega) only [f_X2_passHour_L12, ↓oo_m1, oo_0, oo_1, oo_2, oo_6, oo_99, oo_add k 1, oo_mul, oo_add (r * 6) k, oo_add (p * 6) k, oo_add (v (6 + k)) 2, oo_le, ↓reduceIte, if_pos, if_neg, or_false, false_or, or_true, true_or, and_true, true_and, and_false, false_and, not_true_eq_false, not_false_eq_true, Nat.not_lt_zero, Bool.false_eq_true, Bool.true_eq_false, Option.bind_some, Option.bind_none, rf_7_0, rf_7_1, rf_7_2, rf_7_3, rf_7_4, rf_7_5, rf_7_6, rf_7_7, e1, e2, e3, e4, h5, decide_true, decide_false, h6, Nat.zero_add]
      | false =>
        have h6 := fin (v (6 + k)) 0 h1.1 (by decide)
        simp (disch := omega) only [f_X2_passHour_L12, ↓oo_m1, oo_0, oo_1, oo_2, oo_6, oo_99, oo_add k 1, oo_mul, oo_add (r * 6) k, oo_add (p * 6) k, oo_add (v (6 + k)) 0, oo_le, ↓reduceIte, if_pos, if_neg, or_false, false_or, or_true, true_or, and_true, true_and, and_false, false_and, not_true_eq_false, not_false_eq_true, Nat.not_lt_zero, Bool.false_eq_true, Bool.true_eq_false, Option.bind_some, Option.bind_none, rf_7_0, rf_7_1, rf_7_2, rf_7_3, rf_7_4, rf_7_5, rf_7_6, rf_7_7, e1, e2, e3, e4, h5, decide_true, decide_false, h6, Nat.zero_add]
    · cases b with
      | true =>
        have h6 := fin 0 2 (by decide) (by decide)
        simp (disch := omega) only [f_X2_passHour_L12, ↓oo_m1, oo_0, oo_1, oo_2, oo_6, oo_99, oo_add k 1, oo_mul, oo_add (r * 6) k, oo_add (p * 6) k, oo_add 0 2, oo_le, ↓reduceIte, if_pos, if_neg, or_false, false_or, or_true, true_or, and_true, true_and, and_false, false_and, not_true_eq_false, not_false_eq_true, Nat.not_lt_zero, Bool.false_eq_true, Bool.true_eq_false, Option.bind_some, Option.bind_none, rf_7_0, rf_7_1, rf_7_2, rf_7_3, rf_7_4, rf_7_5, rf_7_6, rf_7_7, e1, e2, e3, e4, h5, decide_true, decide_false, h6, Nat.zero_add]
      | false =>
        have h6 := fin 0 0 (by decide) (by decide)
        simp (disch := omega) only [f_X2_passHour_L12, ↓oo_m1, oo_0, oo_1, oo_2, oo_6, oo_99, oo_add k 1, oo_mul, oo_add (r * 6) k, oo_add (p * 6) k, oo_add 0 0, oo_le, ↓reduceIte, if_pos, if_neg, or_false, false_or, or_true, true_or, and_true, true_and, and_false, false_and, not_true_eq_false, not_false_eq_true, Nat.not_lt_zero, Bool.false_eq_true, Bool.true_eq_false, Option.bind_some, Option.bind_none, rf_7_0, rf_7_1, rf_7_2, rf_7_3, rf_7_4, rf_7_5, rf_7_6, rf_7_7, e1, e2, e3, e4, h5, decide_true, decide_false, h6, Nat.zero_add]) (fun n => by
    simp (disch := omega) only [f_X2_passHour_L12, ↓oo_m1, oo_0, oo_1, oo_2, oo_3, oo_4, oo_5, oo_6, oo_7, oo_8, oo_9, oo_10, oo_12, oo_13, oo_14, oo_15, oo_16, oo_17, oo_18, oo_20, oo_24, oo_30, oo_32, oo_36, oo_40, oo_41, oo_48, oo_50, oo_57, oo_59, oo_60, oo_61, oo_62, oo_63, oo_64, oo_66, oo_72, oo_78, oo_96, oo_97, oo_99, oo_100, oo_101, oo_105, oo_107, oo_108, oo_109, oo_110, oo_111, oo_112, oo_114, oo_115, oo_116, oo_117, oo_119, oo_122, oo_128, oo_130, oo_134, oo_135, oo_136, oo_137, oo_138, oo_139, oo_140, oo_141, oo_142, oo_143, oo_144, oo_145, oo_151, oo_157, oo_194, oo_200, oo_240, oo_255, oo_256, oo_274, oo_276, oo_300, oo_516, oo_900, oo_940, oo_941, oo_999, oo_1000, oo_1040, oo_10000, oo_add, oo_mul, oo_sub, oo_lt, oo_le, oo_eq, oo_nat, oo_div, oo_rem, oo_nn, nn_oo, oo_nnlt, nn_oolt, oo_nnle, nn_oole, ↓reduceIte, if_pos, if_neg, or_false, false_or, or_true, true_or, and_true, true_and, and_false, false_and, not_true_eq_false, not_false_eq_true, Nat.not_lt_zero, Bool.false_eq_true, Bool.true_eq_false]) 1000000 (by decide)
  simp (disch := omega) only [f_X2_passHour, oo_0, Option.bind_some, Option.bind_none, fades_c hH hh hc hk hk9, hl]
end CP
