/-! the reference's hour -/
theorem IsC.blk {S : XS} {a n lo m : Nat} {w g : Nat → Nat} (h : IsC S a n w) : IsC (blk S a lo m (fun j => oo (g j))) a n (fun j => if lo ≤ j ∧ j < lo + m then g j else w j) := fun j hj => by
  by_cases h1 : lo ≤ j ∧ j < lo + m
  · rw [blk_in h1]
    exact congrArg oo (if_pos h1).symm
  · rw [blk_out (by omega), h j hj]
    exact congrArg oo (if_neg h1).symm
section NP
variable {S : XS} {w v : Nat → Nat}
def fdN (w : Nat → Nat) (at_ kp wet j : Nat) : Nat := w j - ((if w 144 % kp = 0 then w (6 + (j - at_)) else 0) + wet)
theorem fadeAt_n {at_ kp wet : Nat} (hN : IsC S 190 516 w) (h0 : w 0 ≤ 6) (hat : 145 ≤ at_) (hat2 : at_ + 6 ≤ 516) (hk : 1 ≤ kp) (hk9 : kp ≤ 9) (hw : wet ≤ 2) (h144 : w 144 ≤ 2000) (hf : ∀ s, s < 6 → w (6 + s) ≤ 9) (hx : ∀ s, s < w 0 → w (at_ + s) ≤ 1000) : ∃ T, f_X12_fadeAt 188 (oo at_) (oo kp) (oo wet) S = some T ∧ IsC T 190 516 (fun j => if at_ ≤ j ∧ j < at_ + w 0 then w j - ((if w 144 % kp = 0 then w (6 + (j - at_)) else 0) + wet) else w j) ∧ Fr [(190, 9999)] S T := by
  have hl := loop_blk (L := f_X12_fadeAt_L3 188 (oo at_) (oo kp) (oo wet)) (a := 190) (lo := at_) (st := 0) (m := w 0) (f := fun j => oo (fdN w at_ kp wet j)) (S := S) (R := some (blk S 190 at_ (w 0) (fun j => oo (fdN w at_ kp wet j)))) (fun n k hk2 => by
    have e0 : (blk S 190 at_ k (fun j => oo (fdN w at_ kp wet j))).1 190 0 = oo (w 0) := by rw [blk_out (by omega)]; exact hN 0 (by decide)
    have e1 : (blk S 190 at_ k (fun j => oo (fdN w at_ kp wet j))).1 190 144 = oo (w 144) := by rw [blk_out (by omega)]; exact hN 144 (by decide)
    have e2 : (blk S 190 at_ k (fun j => oo (fdN w at_ kp wet j))).1 190 (6 + k) = oo (w (6 + k)) := by rw [blk_out (by omega)]; exact hN _ (by omega)
    have e3 : (blk S 190 at_ k (fun j => oo (fdN w at_ kp wet j))).1 190 (at_ + k) = oo (w (at_ + k)) := by rw [blk_out (by omega)]; exact hN _ (by omega)
    have h1 := hf k (by omega)
    have h2 := hx k hk2
    have h3 : w 144 % kp < kp := Nat.mod_lt _ (by omega)
    by_cases h4 : w 144 % kp = 0
    · have h6 : fdN w at_ kp wet (at_ + k) = w (at_ + k) - (w (6 + k) + wet) := by unfold fdN; rw [if_pos h4, Nat.add_sub_cancel_left]
      simp (disch := omega) only [f_X12_fadeAt_L3, ↓oo_m1, oo_0, oo_1, oo_2, oo_3, oo_4, oo_5, oo_6, oo_7, oo_8, oo_9, oo_10, oo_12, oo_13, oo_14, oo_15, oo_16, oo_17, oo_18, oo_20, oo_24, oo_30, oo_32, oo_36, oo_40, oo_41, oo_48, oo_50, oo_57, oo_59, oo_60, oo_61, oo_62, oo_63, oo_64, oo_66, oo_72, oo_78, oo_96, oo_97, oo_99, oo_100, oo_101, oo_105, oo_107, oo_108, oo_109, oo_110, oo_111, oo_112, oo_114, oo_115, oo_116, oo_117, oo_119, oo_122, oo_128, oo_130, oo_134, oo_135, oo_136, oo_137, oo_138, oo_139, oo_140, oo_141, oo_142, oo_143, oo_144, oo_145, oo_151, oo_157, oo_194, oo_200, oo_240, oo_255, oo_256, oo_274, oo_276, oo_300, oo_516, oo_900, oo_940, oo_941, oo_999, oo_1000, oo_1040, oo_10000, oo_add, oo_mul, oo_sub, oo_lt, oo_le, oo_eq, oo_nat, oo_div, oo_rem, oo_nn, nn_oo, oo_nnlt, nn_oolt, oo_nnle, nn_oole, ↓reduceIte, if_pos, if_neg, or_false, false_or, or_true, true_or, and_true, true_and, and_false, false_and, not_true_eq_false, not_false_eq_true, Nat.not_lt_zero, Bool.false_eq_true, Bool.true_eq_false, Option.bind_some, Option.bind_none, rf_188_1, rf_188_14, rf_188_15, rf_188_16, rf_188_17, rf_188_18, rf_188_19, rf_188_20, rf_188_21, rf_188_22, rf_188_24, rf_188_25, rf_188_26, rf_188_27, rf_188_28, rf_188_31, rf_188_32, rf_188_34, rf_188_35, rf_188_36, rf_188_37, rf_188_38, rf_188_42, rf_188_43, rf_188_51, rf_188_52, rf_188_53, rf_188_55, ln_190, less_oo, e0, e1, e2, e3, Nat.zero_add, h4, h6]
    · have h6 : fdN w at_ kp wet (at_ + k) = w (at_ + k) - (0 + wet) := by unfold fdN; rw [if_neg h4]
      simp (disch := omega) only [f_X12_fadeAt_L3, ↓oo_m1, oo_0, oo_1, oo_2, oo_3, oo_4, oo_5, oo_6, oo_7, oo_8, oo_9, oo_10, oo_12, oo_13, oo_14, oo_15, oo_16, oo_17, oo_18, oo_20, oo_24, oo_30, oo_32, oo_36, oo_40, oo_41, oo_48, oo_50, oo_57, oo_59, oo_60, oo_61, oo_62, oo_63, oo_64, oo_66, oo_72, oo_78, oo_96, oo_97, oo_99, oo_100, oo_101, oo_105, oo_107, oo_108, oo_109, oo_110, oo_111, oo_112, oo_114, oo_115, oo_116, oo_117, oo_119, oo_122, oo_128, oo_130, oo_134, oo_135, oo_136, oo_137, oo_138, oo_139, oo_140, oo_141, oo_142, oo_143, oo_144, oo_145, oo_151, oo_157, oo_194, oo_200, oo_240, oo_255, oo_256, oo_274, oo_276, oo_300, oo_516, oo_900, oo_940, oo_941, oo_999, oo_1000, oo_1040, oo_10000, oo_add, oo_mul, oo_sub, oo_lt, oo_le, oo_eq, oo_nat, oo_div, oo_rem, oo_nn, nn_oo, oo_nnlt, nn_oolt, oo_nnle, nn_oole, ↓reduceIte, if_pos, if_neg, or_false, false_or, or_true, true_or, and_true, true_and, and_false, false_and, not_true_eq_false, not_false_eq_true, Nat.not_lt_zero, Bool.false_eq_true, Bool.true_eq_false, Option.bind_some, Option.bind_none, rf_188_1, rf_188_14, rf_188_15, rf_188_16, rf_188_17, rf_188_18, rf_188_19, rf_188_20, rf_188_21, rf_188_22, rf_188_24, rf_188_25, rf_188_26, rf_188_27, rf_188_28, rf_188_31, rf_188_32, rf_188_34, rf_188_35, rf_188_36, rf_188_37, rf_188_38, rf_188_42, rf_188_43, rf_188_51, rf_188_52, rf_188_53, rf_188_55, ln_190, less_oo, e0, e1, e2, e3, Nat.zero_add, h4, h6]) (fun n => by
    have e0 : (blk S 190 at_ (w 0) (fun j => oo (fdN w at_ kp wet j))).1 190 0 = oo (w 0) := by rw [blk_out (by omega)]; exact hN 0 (by decide)
    simp (disch := omega) only [f_X12_fadeAt_L3, ↓oo_m1, oo_0, oo_1, oo_2, oo_3, oo_4, oo_5, oo_6, oo_7, oo_8, oo_9, oo_10, oo_12, oo_13, oo_14, oo_15, oo_16, oo_17, oo_18, oo_20, oo_24, oo_30, oo_32, oo_36, oo_40, oo_41, oo_48, oo_50, oo_57, oo_59, oo_60, oo_61, oo_62, oo_63, oo_64, oo_66, oo_72, oo_78, oo_96, oo_97, oo_99, oo_100, oo_101, oo_105, oo_107, oo_108, oo_109, oo_110, oo_111, oo_112, oo_114, oo_115, oo_116, oo_117, oo_119, oo_122, oo_128, oo_130, oo_134, oo_135, oo_136, oo_137, oo_138, oo_139, oo_140, oo_141, oo_142, oo_143, oo_144, oo_145, oo_151, oo_157, oo_194, oo_200, oo_240, oo_255, oo_256, oo_274, oo_276, oo_300, oo_516, oo_900, oo_940, oo_941, oo_999, oo_1000, oo_1040, oo_10000, oo_add, oo_mul, oo_sub, oo_lt, oo_le, oo_eq, oo_nat, oo_div, oo_rem, oo_nn, nn_oo, oo_nnlt, nn_oolt, oo_nnle, nn_oole, ↓reduceIte, if_pos, if_neg, or_false, false_or, or_true, true_or, and_true, true_and, and_false, false_and, not_true_eq_false, not_false_eq_true, Nat.not_lt_zero, Bool.false_eq_true, Bool.true_eq_false, Option.bind_some, Option.bind_none, rf_188_1, rf_188_14, rf_188_15, rf_188_16, rf_188_17, rf_188_18, rf_188_19, rf_188_20, rf_188_21, rf_188_22, rf_188_24, rf_188_25, rf_188_26, rf_188_27, rf_188_28, rf_188_31, rf_188_32, rf_188_34, rf_188_35, rf_188_36, rf_188_37, rf_188_38, rf_188_42, rf_188_43, rf_188_51, rf_188_52, rf_188_53, rf_188_55, e0, Nat.zero_add]) 1000000 (by omega)
  refine ⟨blk S 190 at_ (w 0) (fun j => oo (fdN w at_ kp wet j)), ?_, hN.blk (g := fdN w at_ kp wet), Fr.blk (Fr.rf _ _) rfl⟩
  simp (disch := omega) only [f_X12_fadeAt, ↓oo_m1, oo_0, oo_1, oo_2, oo_3, oo_4, oo_5, oo_6, oo_7, oo_8, oo_9, oo_10, oo_12, oo_13, oo_14, oo_15, oo_16, oo_17, oo_18, oo_20, oo_24, oo_30, oo_32, oo_36, oo_40, oo_41, oo_48, oo_50, oo_57, oo_59, oo_60, oo_61, oo_62, oo_63, oo_64, oo_66, oo_72, oo_78, oo_96, oo_97, oo_99, oo_100, oo_101, oo_105, oo_107, oo_108, oo_109, oo_110, oo_111, oo_112, oo_114, oo_115, oo_116, oo_117, oo_119, oo_122, oo_128, oo_130, oo_134, oo_135, oo_136, oo_137, oo_138, oo_139, oo_140, oo_141, oo_142, oo_143, oo_144, oo_145, oo_151, oo_157, oo_194, oo_200, oo_240, oo_255, oo_256, oo_274, oo_276, oo_300, oo_516, oo_900, oo_940, oo_941, oo_999, oo_1000, oo_1040, oo_10000, oo_add, oo_mul, oo_sub, oo_lt, oo_le, oo_eq, oo_nat, oo_div, oo_rem, oo_nn, nn_oo, oo_nnlt, nn_oolt, oo_nnle, nn_oole, Option.bind_some, Option.bind_none, hl]
theorem addAir_n {p c : Nat} {x y : Int32} (hN : IsC S 190 516 w) (hO : HOK w) (hp : p < 6) (hc : c < 6) (hx : ∀ s, s < w 0 → w (157 + 6 * c + s) ≤ 1000) : ∃ T, (∀ n, 6 < n → f_X12_pass_L165 (oo p) (oo c) x 188 n (oo 0) S = some T) ∧ IsC T 190 516 (fun j => if 157 + 6 * c ≤ j ∧ j < 157 + 6 * c + w 0 then capN (w j + airN w p (j - (157 + 6 * c))) else w j) ∧ Fr [(190, 9999)] S T := by
  obtain ⟨⟨b0, b1, b2, b3, b4, b5⟩, -⟩ := id hO
  have hl := fun n (hn : 6 < n) => loop_blk (L := f_X12_pass_L165 (oo p) (oo c) x 188) (a := 190) (lo := 157 + 6 * c) (st := 0) (m := w 0) (f := fun j => oo (capN (w j + airN w p (j - (157 + 6 * c))))) (S := S) (R := some (blk S 190 (157 + 6 * c) (w 0) (fun j => oo (capN (w j + airN w p (j - (157 + 6 * c))))))) (fun n k hk2 => by
    have hB := hN.blk (lo := 157 + 6 * c) (m := k) (g := fun j => capN (w j + airN w p (j - (157 + 6 * c))))
    have eB : ∀ j, j < 144 → w j = (fun j => if 157 + 6 * c ≤ j ∧ j < 157 + 6 * c + k then (fun j => capN (w j + airN w p (j - (157 + 6 * c)))) j else w j) j := fun j hj => (if_neg (by omega)).symm
    have hair := airOf6 hB (hO.ext eB) hp (show k < 6 by omega)
    rw [← airN_ext hO eB hp (show k < 6 by omega)] at hair
    have e0 : (blk S 190 (157 + 6 * c) k (fun j => oo (capN (w j + airN w p (j - (157 + 6 * c)))))).1 190 0 = oo (w 0) := by rw [blk_out (by omega)]; exact hN 0 (by decide)
    have e3 : (blk S 190 (157 + 6 * c) k (fun j => oo (capN (w j + airN w p (j - (157 + 6 * c)))))).1 190 (157 + 6 * c + k) = oo (w (157 + 6 * c + k)) := by rw [blk_out (by omega)]; exact hN _ (by omega)
    have h1 := airN_le hO hp (show k < 6 by omega)
    have h2 := hx k hk2
    simp (disch := omega) only [f_X12_pass_L165, f_X12_onCoat, ↓oo_m1, oo_0, oo_1, oo_2, oo_3, oo_4, oo_5, oo_6, oo_7, oo_8, oo_9, oo_10, oo_12, oo_13, oo_14, oo_15, oo_16, oo_17, oo_18, oo_20, oo_24, oo_30, oo_32, oo_36, oo_40, oo_41, oo_48, oo_50, oo_57, oo_59, oo_60, oo_61, oo_62, oo_63, oo_64, oo_66, oo_72, oo_78, oo_96, oo_97, oo_99, oo_100, oo_101, oo_105, oo_107, oo_108, oo_109, oo_110, oo_111, oo_112, oo_114, oo_115, oo_116, oo_117, oo_119, oo_122, oo_128, oo_130, oo_134, oo_135, oo_136, oo_137, oo_138, oo_139, oo_140, oo_141, oo_142, oo_143, oo_144, oo_145, oo_151, oo_157, oo_194, oo_200, oo_240, oo_255, oo_256, oo_274, oo_276, oo_300, oo_516, oo_900, oo_940, oo_941, oo_999, oo_1000, oo_1040, oo_10000, oo_add, oo_mul, oo_sub, oo_lt, oo_le, oo_eq, oo_nat, oo_div, oo_rem, oo_nn, nn_oo, oo_nnlt, nn_oolt, oo_nnle, nn_oole, ↓reduceIte, if_pos, if_neg, or_false, false_or, or_true, true_or, and_true, true_and, and_false, false_and, not_true_eq_false, not_false_eq_true, Nat.not_lt_zero, Bool.false_eq_true, Bool.true_eq_false, Option.bind_some, Option.bind_none, rf_188_1, rf_188_14, rf_188_15, rf_188_16, rf_188_17, rf_188_18, rf_188_19, rf_188_20, rf_188_21, rf_188_22, rf_188_24, rf_188_25, rf_188_26, rf_188_27, rf_188_28, rf_188_31, rf_188_32, rf_188_34, rf_188_35, rf_188_36, rf_188_37, rf_188_38, rf_188_42, rf_188_43, rf_188_51, rf_188_52, rf_188_53, rf_188_55, ln_190, least_oo, e0, e3, hair, Nat.zero_add, Nat.add_sub_cancel_left]) (fun n => by
    have e0 : (blk S 190 (157 + 6 * c) (w 0) (fun j => oo (capN (w j + airN w p (j - (157 + 6 * c)))))).1 190 0 = oo (w 0) := by rw [blk_out (by omega)]; exact hN 0 (by decide)
    simp (disch := omega) only [f_X12_pass_L165, ↓oo_m1, oo_0, oo_1, oo_2, oo_3, oo_4, oo_5, oo_6, oo_7, oo_8, oo_9, oo_10, oo_12, oo_13, oo_14, oo_15, oo_16, oo_17, oo_18, oo_20, oo_24, oo_30, oo_32, oo_36, oo_40, oo_41, oo_48, oo_50, oo_57, oo_59, oo_60, oo_61, oo_62, oo_63, oo_64, oo_66, oo_72, oo_78, oo_96, oo_97, oo_99, oo_100, oo_101, oo_105, oo_107, oo_108, oo_109, oo_110, oo_111, oo_112, oo_114, oo_115, oo_116, oo_117, oo_119, oo_122, oo_128, oo_130, oo_134, oo_135, oo_136, oo_137, oo_138, oo_139, oo_140, oo_141, oo_142, oo_143, oo_144, oo_145, oo_151, oo_157, oo_194, oo_200, oo_240, oo_255, oo_256, oo_274, oo_276, oo_300, oo_516, oo_900, oo_940, oo_941, oo_999, oo_1000, oo_1040, oo_10000, oo_add, oo_mul, oo_sub, oo_lt, oo_le, oo_eq, oo_nat, oo_div, oo_rem, oo_nn, nn_oo, oo_nnlt, nn_oolt, oo_nnle, nn_oole, ↓reduceIte, if_pos, if_neg, or_false, false_or, or_true, true_or, and_true, true_and, and_false, false_and, not_true_eq_false, not_false_eq_true, Nat.not_lt_zero, Bool.false_eq_true, Bool.true_eq_false, Option.bind_some, Option.bind_none, rf_188_1, rf_188_14, rf_188_15, rf_188_16, rf_188_17, rf_188_18, rf_188_19, rf_188_20, rf_188_21, rf_188_22, rf_188_24, rf_188_25, rf_188_26, rf_188_27, rf_188_28, rf_188_31, rf_188_32, rf_188_34, rf_188_35, rf_188_36, rf_188_37, rf_188_38, rf_188_42, rf_188_43, rf_188_51, rf_188_52, rf_188_53, rf_188_55, e0, Nat.zero_add]) n (by omega)
  exact ⟨_, hl, hN.blk, Fr.blk (Fr.rf _ _) rfl⟩
/-- behind the first k of who went -/
def vW (v : Nat → Nat) (k : Nat) : Nat → Nat := fun j => if j = 144 then v 144 + 1 else if 145 ≤ j ∧ j < 151 then whN v (j - 145) (v 144 + 1) k else v j
theorem vW_o {k j : Nat} (h : j < 144 ∨ 151 ≤ j) : vW v k j = v j := by
  unfold vW
  rw [if_neg (by omega), if_neg (by omega)]
theorem vW_144 {k : Nat} : vW v k 144 = v 144 + 1 := rfl
theorem vW_wh {k w : Nat} (hw : w < 6) : vW v k (145 + w) = whN v w (v 144 + 1) k := by
  unfold vW
  rw [if_neg (by omega), if_pos (by omega), Nat.add_sub_cancel_left]
theorem went_n (hO : HOK v) (h144 : v 144 ≤ 999) {b : Bool} : ∀ m k n T, k + m = v 4 → m < n → IsC T 190 516 (vW v k) → ∃ U, f_X12_pass_L14 188 b n (oo k) T = some U ∧ IsC U 190 516 (vW v (v 4)) ∧ Fr [(190, 9999)] T U := by
  obtain ⟨⟨b0, b1, b2, b3, b4, b5⟩, -⟩ := id hO
  intro m
  induction m with
  | zero =>
    intro k n T hk hn hT
    obtain ⟨n, rfl⟩ : ∃ n', n = n' + 1 := ⟨n - 1, by omega⟩
    obtain rfl : k = v 4 := by omega
    have e4 : T.1 190 4 = oo (v 4) := by rw [hT 4 (by decide), vW_o (by omega)]
    exact ⟨T, by simp (disch := omega) only [f_X12_pass_L14, ↓oo_m1, oo_0, oo_1, oo_2, oo_3, oo_4, oo_5, oo_6, oo_7, oo_8, oo_9, oo_10, oo_12, oo_13, oo_14, oo_15, oo_16, oo_17, oo_18, oo_20, oo_24, oo_30, oo_32, oo_36, oo_40, oo_41, oo_48, oo_50, oo_57, oo_59, oo_60, oo_61, oo_62, oo_63, oo_64, oo_66, oo_72, oo_78, oo_96, oo_97, oo_99, oo_100, oo_101, oo_105, oo_107, oo_108, oo_109, oo_110, oo_111, oo_112, oo_114, oo_115, oo_116, oo_117, oo_119, oo_122, oo_128, oo_130, oo_134, oo_135, oo_136, oo_137, oo_138, oo_139, oo_140, oo_141, oo_142, oo_143, oo_144, oo_145, oo_151, oo_157, oo_194, oo_200, oo_240, oo_255, oo_256, oo_274, oo_276, oo_300, oo_516, oo_900, oo_940, oo_941, oo_999, oo_1000, oo_1040, oo_10000, oo_add, oo_mul, oo_sub, oo_lt, oo_le, oo_eq, oo_nat, oo_div, oo_rem, oo_nn, nn_oo, oo_nnlt, nn_oolt, oo_nnle, nn_oole, ↓reduceIte, if_pos, if_neg, or_false, false_or, or_true, true_or, and_true, true_and, and_false, false_and, not_true_eq_false, not_false_eq_true, Nat.not_lt_zero, Bool.false_eq_true, Bool.true_eq_false, rf_188_1, rf_188_14, rf_188_15, rf_188_16, rf_188_17, rf_188_18, rf_188_19, rf_188_20, rf_188_21, rf_188_22, rf_188_24, rf_188_25, rf_188_26, rf_188_27, rf_188_28, rf_188_31, rf_188_32, rf_188_34, rf_188_35, rf_188_36, rf_188_37, rf_188_38, rf_188_42, rf_188_43, rf_188_51, rf_188_52, rf_188_53, rf_188_55, e4], hT, Fr.rf _ _⟩
  | succ m ih =>
    intro k n T hk hn hT
    obtain ⟨n, rfl⟩ : ∃ n', n = n' + 1 := ⟨n - 1, by omega⟩
    obtain ⟨g1, g2, g3, g4⟩ := hO.2.2.2.2.2.1 k (by omega)
    have e4 : T.1 190 4 = oo (v 4) := by rw [hT 4 (by decide), vW_o (by omega)]
    have e5 : T.1 190 (78 + 3 * k) = oo (v (78 + 3 * k)) := by rw [hT _ (by omega), vW_o (by omega)]
    have e6 : T.1 190 (78 + 3 * k + 1) = oo (v (78 + 3 * k + 1)) := by rw [hT _ (by omega), vW_o (by omega)]
    have e7 : T.1 190 (78 + 3 * k + 2) = oo (v (78 + 3 * k + 2)) := by rw [hT _ (by omega), vW_o (by omega)]
    have e8 : T.1 190 144 = oo (v 144 + 1) := hT 144 (by decide)
    by_cases h1 : v (78 + 3 * k + 1) = v 144 + 1
    · obtain ⟨U, u1, u2, u3⟩ := ih (k + 1) n (sI T 190 (145 + v (78 + 3 * k)) (oo (v (78 + 3 * k + 2)))) (by omega) (by omega) (hT.set.ext (fun j hj => by
        by_cases h2 : j = 145 + v (78 + 3 * k)
        · rw [h2, upN_same, vW_wh (by omega)]
          have e : wtN v (v (78 + 3 * k)) (v 144 + 1) (k + 1) = v (78 + 3 * k + 2) + 1 := by rw [wtN, if_pos ⟨rfl, h1⟩]
          unfold whN
          rw [e, if_neg (by omega)]
          omega
        · rw [upN_ne h2]
          unfold vW
          by_cases h3 : j = 144
          · rw [if_pos h3, if_pos h3]
          · rw [if_neg h3, if_neg h3]
            by_cases h4 : 145 ≤ j ∧ j < 151
            · rw [if_pos h4, if_pos h4]
              have e : wtN v (j - 145) (v 144 + 1) (k + 1) = wtN v (j - 145) (v 144 + 1) k := by rw [wtN, if_neg (by omega)]
              unfold whN
              rw [e]
            · rw [if_neg h4, if_neg h4]))
      refine ⟨U, ?_, u2, Fr.trans (Fr.sIr (Fr.rf _ _) rfl) u3⟩
      simp (disch := omega) only [f_X12_pass_L14, ↓oo_m1, oo_0, oo_1, oo_2, oo_3, oo_4, oo_5, oo_6, oo_7, oo_8, oo_9, oo_10, oo_12, oo_13, oo_14, oo_15, oo_16, oo_17, oo_18, oo_20, oo_24, oo_30, oo_32, oo_36, oo_40, oo_41, oo_48, oo_50, oo_57, oo_59, oo_60, oo_61, oo_62, oo_63, oo_64, oo_66, oo_72, oo_78, oo_96, oo_97, oo_99, oo_100, oo_101, oo_105, oo_107, oo_108, oo_109, oo_110, oo_111, oo_112, oo_114, oo_115, oo_116, oo_117, oo_119, oo_122, oo_128, oo_130, oo_134, oo_135, oo_136, oo_137, oo_138, oo_139, oo_140, oo_141, oo_142, oo_143, oo_144, oo_145, oo_151, oo_157, oo_194, oo_200, oo_240, oo_255, oo_256, oo_274, oo_276, oo_300, oo_516, oo_900, oo_940, oo_941, oo_999, oo_1000, oo_1040, oo_10000, oo_add, oo_mul, oo_sub, oo_lt, oo_le, oo_eq, oo_nat, oo_div, oo_rem, oo_nn, nn_oo, oo_nnlt, nn_oolt, oo_nnle, nn_oole, ↓reduceIte, if_pos, if_neg, or_false, false_or, or_true, true_or, and_true, true_and, and_false, false_and, not_true_eq_false, not_false_eq_true, Nat.not_lt_zero, Bool.false_eq_true, Bool.true_eq_false, rf_188_1, rf_188_14, rf_188_15, rf_188_16, rf_188_17, rf_188_18, rf_188_19, rf_188_20, rf_188_21, rf_188_22, rf_188_24, rf_188_25, rf_188_26, rf_188_27, rf_188_28, rf_188_31, rf_188_32, rf_188_34, rf_188_35, rf_188_36, rf_188_37, rf_188_38, rf_188_42, rf_188_43, rf_188_51, rf_188_52, rf_188_53, rf_188_55, ln_190, e4, e5, e6, e7, e8, h1]
      exact u1
    · obtain ⟨U, u1, u2, u3⟩ := ih (k + 1) n T (by omega) (by omega) (hT.ext (fun j hj => by
        unfold vW
        by_cases h3 : j = 144
        · rw [if_pos h3, if_pos h3]
        · rw [if_neg h3, if_neg h3]
          by_cases h4 : 145 ≤ j ∧ j < 151
          · rw [if_pos h4, if_pos h4]
            have e : wtN v (j - 145) (v 144 + 1) (k + 1) = wtN v (j - 145) (v 144 + 1) k := by rw [wtN, if_neg (fun q => h1 q.2)]
            unfold whN
            rw [e]
          · rw [if_neg h4, if_neg h4]))
      refine ⟨U, ?_, u2, u3⟩
      simp (disch := omega) only [f_X12_pass_L14, ↓oo_m1, oo_0, oo_1, oo_2, oo_3, oo_4, oo_5, oo_6, oo_7, oo_8, oo_9, oo_10, oo_12, oo_13, oo_14, oo_15, oo_16, oo_17, oo_18, oo_20, oo_24, oo_30, oo_32, oo_36, oo_40, oo_41, oo_48, oo_50, oo_57, oo_59, oo_60, oo_61, oo_62, oo_63, oo_64, oo_66, oo_72, oo_78, oo_96, oo_97, oo_99, oo_100, oo_101, oo_105, oo_107, oo_108, oo_109, oo_110, oo_111, oo_112, oo_114, oo_115, oo_116, oo_117, oo_119, oo_122, oo_128, oo_130, oo_134, oo_135, oo_136, oo_137, oo_138, oo_139, oo_140, oo_141, oo_142, oo_143, oo_144, oo_145, oo_151, oo_157, oo_194, oo_200, oo_240, oo_255, oo_256, oo_274, oo_276, oo_300, oo_516, oo_900, oo_940, oo_941, oo_999, oo_1000, oo_1040, oo_10000, oo_add, oo_mul, oo_sub, oo_lt, oo_le, oo_eq, oo_nat, oo_div, oo_rem, oo_nn, nn_oo, oo_nnlt, nn_oolt, oo_nnle, nn_oole, ↓reduceIte, if_pos, if_neg, or_false, false_or, or_true, true_or, and_true, true_and, and_false, false_and, not_true_eq_false, not_false_eq_true, Nat.not_lt_zero, Bool.false_eq_true, Bool.true_eq_false, rf_188_1, rf_188_14, rf_188_15, rf_188_16, rf_188_17, rf_188_18, rf_188_19, rf_188_20, rf_188_21, rf_188_22, rf_188_24, rf_188_25, rf_188_26, rf_188_27, rf_188_28, rf_188_31, rf_188_32, rf_188_34, rf_188_35, rf_188_36, rf_188_37, rf_188_38, rf_188_42, rf_188_43, rf_188_51, rf_188_52, rf_188_53, rf_188_55, ln_190, e4, e5, e6, e7, e8, h1]
      exact u1
theorem isRain_L (hN : IsC S 190 516 w) (h5 : w 5 ≤ 6) (hb : ∀ k, k < w 5 → w (138 + k) ≤ 60) {h : Nat} (hh : h ≤ 2000) : ∀ m k n, k + m = w 5 → m < n → ∃ r, f_X12_isRain_L2 188 (oo h) n (oo k) S = some r ∧ ((r = .inr () ∧ ∀ j, k ≤ j → j < w 5 → w (138 + j) ≠ h) ∨ (r = .inl (true, S) ∧ ∃ j, j < w 5 ∧ w (138 + j) = h)) := by
  intro m
  induction m with
  | zero =>
    intro k n hk hn
    obtain ⟨n, rfl⟩ : ∃ n', n = n' + 1 := ⟨n - 1, by omega⟩
    refine ⟨.inr (), ?_, .inl ⟨rfl, fun j h1 h2 => by omega⟩⟩
    simp (disch := omega) only [f_X12_isRain_L2, ↓oo_m1, oo_0, oo_1, oo_2, oo_3, oo_4, oo_5, oo_6, oo_7, oo_8, oo_9, oo_10, oo_12, oo_13, oo_14, oo_15, oo_16, oo_17, oo_18, oo_20, oo_24, oo_30, oo_32, oo_36, oo_40, oo_41, oo_48, oo_50, oo_57, oo_59, oo_60, oo_61, oo_62, oo_63, oo_64, oo_66, oo_72, oo_78, oo_96, oo_97, oo_99, oo_100, oo_101, oo_105, oo_107, oo_108, oo_109, oo_110, oo_111, oo_112, oo_114, oo_115, oo_116, oo_117, oo_119, oo_122, oo_128, oo_130, oo_134, oo_135, oo_136, oo_137, oo_138, oo_139, oo_140, oo_141, oo_142, oo_143, oo_144, oo_145, oo_151, oo_157, oo_194, oo_200, oo_240, oo_255, oo_256, oo_274, oo_276, oo_300, oo_516, oo_900, oo_940, oo_941, oo_999, oo_1000, oo_1040, oo_10000, oo_add, oo_mul, oo_sub, oo_lt, oo_le, oo_eq, oo_nat, oo_div, oo_rem, oo_nn, nn_oo, oo_nnlt, nn_oolt, oo_nnle, nn_oole, ↓reduceIte, if_pos, if_neg, or_false, false_or, or_true, true_or, and_true, true_and, and_false, false_and, not_true_eq_false, not_false_eq_true, Nat.not_lt_zero, Bool.false_eq_true, Bool.true_eq_false, rf_188_1, rf_188_14, rf_188_15, rf_188_16, rf_188_17, rf_188_18, rf_188_19, rf_188_20, rf_188_21, rf_188_22, rf_188_24, rf_188_25, rf_188_26, rf_188_27, rf_188_28, rf_188_31, rf_188_32, rf_188_34, rf_188_35, rf_188_36, rf_188_37, rf_188_38, rf_188_42, rf_188_43, rf_188_51, rf_188_52, rf_188_53, rf_188_55, hN 5]
  | succ m ih =>
    intro k n hk hn
    obtain ⟨n, rfl⟩ : ∃ n', n = n' + 1 := ⟨n - 1, by omega⟩
    have h1 := hb k (by omega)
    by_cases h2 : w (138 + k) = h
    · refine ⟨.inl (true, S), ?_, .inr ⟨rfl, k, by omega, h2⟩⟩
      simp (disch := omega) only [f_X12_isRain_L2, ↓oo_m1, oo_0, oo_1, oo_2, oo_3, oo_4, oo_5, oo_6, oo_7, oo_8, oo_9, oo_10, oo_12, oo_13, oo_14, oo_15, oo_16, oo_17, oo_18, oo_20, oo_24, oo_30, oo_32, oo_36, oo_40, oo_41, oo_48, oo_50, oo_57, oo_59, oo_60, oo_61, oo_62, oo_63, oo_64, oo_66, oo_72, oo_78, oo_96, oo_97, oo_99, oo_100, oo_101, oo_105, oo_107, oo_108, oo_109, oo_110, oo_111, oo_112, oo_114, oo_115, oo_116, oo_117, oo_119, oo_122, oo_128, oo_130, oo_134, oo_135, oo_136, oo_137, oo_138, oo_139, oo_140, oo_141, oo_142, oo_143, oo_144, oo_145, oo_151, oo_157, oo_194, oo_200, oo_240, oo_255, oo_256, oo_274, oo_276, oo_300, oo_516, oo_900, oo_940, oo_941, oo_999, oo_1000, oo_1040, oo_10000, oo_add, oo_mul, oo_sub, oo_lt, oo_le, oo_eq, oo_nat, oo_div, oo_rem, oo_nn, nn_oo, oo_nnlt, nn_oolt, oo_nnle, nn_oole, ↓reduceIte, if_pos, if_neg, or_false, false_or, or_true, true_or, and_true, true_and, and_false, false_and, not_true_eq_false, not_false_eq_true, Nat.not_lt_zero, Bool.false_eq_true, Bool.true_eq_false, rf_188_1, rf_188_14, rf_188_15, rf_188_16, rf_188_17, rf_188_18, rf_188_19, rf_188_20, rf_188_21, rf_188_22, rf_188_24, rf_188_25, rf_188_26, rf_188_27, rf_188_28, rf_188_31, rf_188_32, rf_188_34, rf_188_35, rf_188_36, rf_188_37, rf_188_38, rf_188_42, rf_188_43, rf_188_51, rf_188_52, rf_188_53, rf_188_55, ln_190, hN 5, hN (138 + k), h2]
    · obtain ⟨r, r1, r2⟩ := ih (k + 1) n (by omega) (by omega)
      refine ⟨r, ?_, ?_⟩
      · simp (disch := omega) only [f_X12_isRain_L2, ↓oo_m1, oo_0, oo_1, oo_2, oo_3, oo_4, oo_5, oo_6, oo_7, oo_8, oo_9, oo_10, oo_12, oo_13, oo_14, oo_15, oo_16, oo_17, oo_18, oo_20, oo_24, oo_30, oo_32, oo_36, oo_40, oo_41, oo_48, oo_50, oo_57, oo_59, oo_60, oo_61, oo_62, oo_63, oo_64, oo_66, oo_72, oo_78, oo_96, oo_97, oo_99, oo_100, oo_101, oo_105, oo_107, oo_108, oo_109, oo_110, oo_111, oo_112, oo_114, oo_115, oo_116, oo_117, oo_119, oo_122, oo_128, oo_130, oo_134, oo_135, oo_136, oo_137, oo_138, oo_139, oo_140, oo_141, oo_142, oo_143, oo_144, oo_145, oo_151, oo_157, oo_194, oo_200, oo_240, oo_255, oo_256, oo_274, oo_276, oo_300, oo_516, oo_900, oo_940, oo_941, oo_999, oo_1000, oo_1040, oo_10000, oo_add, oo_mul, oo_sub, oo_lt, oo_le, oo_eq, oo_nat, oo_div, oo_rem, oo_nn, nn_oo, oo_nnlt, nn_oolt, oo_nnle, nn_oole, ↓reduceIte, if_pos, if_neg, or_false, false_or, or_true, true_or, and_true, true_and, and_false, false_and, not_true_eq_false, not_false_eq_true, Nat.not_lt_zero, Bool.false_eq_true, Bool.true_eq_false, rf_188_1, rf_188_14, rf_188_15, rf_188_16, rf_188_17, rf_188_18, rf_188_19, rf_188_20, rf_188_21, rf_188_22, rf_188_24, rf_188_25, rf_188_26, rf_188_27, rf_188_28, rf_188_31, rf_188_32, rf_188_34, rf_188_35, rf_188_36, rf_188_37, rf_188_38, rf_188_42, rf_188_43, rf_188_51, rf_188_52, rf_188_53, rf_188_55, ln_190, hN 5, hN (138 + k), h2]
        exact r1
      · rcases r2 with ⟨q1, q2⟩ | q
        · refine .inl ⟨q1, fun j g1 g2 => ?_⟩
          by_cases g3 : j = k
          · rw [g3]; exact h2
          · exact q2 j (by omega) g2
        · exact .inr q
theorem rnN_iff {t : Nat} : ∀ n, (rnN v t n ≠ 0 ↔ ∃ j, j < n ∧ v (138 + j) = t) := by
  intro n
  induction n with
  | zero => exact ⟨fun h => absurd rfl h, fun ⟨j, h1, _⟩ => absurd h1 (Nat.not_lt_zero _)⟩
  | succ n ih =>
    rw [rnN]
    by_cases h1 : v (138 + n) = t
    · rw [if_pos h1]
      exact ⟨fun _ => ⟨n, by omega, h1⟩, fun _ => by decide⟩
    · rw [if_neg h1, ih]
      exact ⟨fun ⟨j, h2, h3⟩ => ⟨j, by omega, h3⟩, fun ⟨j, h2, h3⟩ => ⟨j, by
        rcases Nat.lt_or_ge j n with h4 | h4
        · exact h4
        · rw [show j = n by omega] at h3; exact absurd h3 h1, h3⟩⟩
theorem isRain_n (hN : IsC S 190 516 w) (h5 : w 5 ≤ 6) (hb : ∀ k, k < w 5 → w (138 + k) ≤ 60) {h : Nat} (hh : h ≤ 2000) : f_X12_isRain 188 (oo h) S = some (decide (rnN w h (w 5) ≠ 0), S) := by
  obtain ⟨r, r1, r2⟩ := isRain_L hN h5 hb hh (w 5) 0 1000000 (by omega) (by omega)
  rcases r2 with ⟨q1, q2⟩ | ⟨q1, j, q2, q3⟩
  · have : ¬ rnN w h (w 5) ≠ 0 := fun q => by
      obtain ⟨j, g1, g2⟩ := (rnN_iff (w 5)).mp q
      exact q2 j (Nat.zero_le _) g1 g2
    rw [decide_eq_false this]
    simp (disch := omega) only [f_X12_isRain, ↓oo_m1, oo_0, oo_1, oo_2, oo_3, oo_4, oo_5, oo_6, oo_7, oo_8, oo_9, oo_10, oo_12, oo_13, oo_14, oo_15, oo_16, oo_17, oo_18, oo_20, oo_24, oo_30, oo_32, oo_36, oo_40, oo_41, oo_48, oo_50, oo_57, oo_59, oo_60, oo_61, oo_62, oo_63, oo_64, oo_66, oo_72, oo_78, oo_96, oo_97, oo_99, oo_100, oo_101, oo_105, oo_107, oo_108, oo_109, oo_110, oo_111, oo_112, oo_114, oo_115, oo_116, oo_117, oo_119, oo_122, oo_128, oo_130, oo_134, oo_135, oo_136, oo_137, oo_138, oo_139, oo_140, oo_141, oo_142, oo_143, oo_144, oo_145, oo_151, oo_157, oo_194, oo_200, oo_240, oo_255, oo_256, oo_274, oo_276, oo_300, oo_516, oo_900, oo_940, oo_941, oo_999, oo_1000, oo_1040, oo_10000, oo_add, oo_mul, oo_sub, oo_lt, oo_le, oo_eq, oo_nat, oo_div, oo_rem, oo_nn, nn_oo, oo_nnlt, nn_oolt, oo_nnle, nn_oole, Option.bind_some, Option.bind_none, r1, q1]
  · rw [decide_eq_true ((rnN_iff (w 5)).mpr ⟨j, q2, q3⟩)]
    simp (disch := omega) only [f_X12_isRain, ↓oo_m1, oo_0, oo_1, oo_2, oo_3, oo_4, oo_5, oo_6, oo_7, oo_8, oo_9, oo_10, oo_12, oo_13, oo_14, oo_15, oo_16, oo_17, oo_18, oo_20, oo_24, oo_30, oo_32, oo_36, oo_40, oo_41, oo_48, oo_50, oo_57, oo_59, oo_60, oo_61, oo_62, oo_63, oo_64, oo_66, oo_72, oo_78, oo_96, oo_97, oo_99, oo_100, oo_101, oo_105, oo_107, oo_108, oo_109, oo_110, oo_111, oo_112, oo_114, oo_115, oo_116, oo_117, oo_119, oo_122, oo_128, oo_130, oo_134, oo_135, oo_136, oo_137, oo_138, oo_139, oo_140, oo_141, oo_142, oo_143, oo_144, oo_145, oo_151, oo_157, oo_194, oo_200, oo_240, oo_255, oo_256, oo_274, oo_276, oo_300, oo_516, oo_900, oo_940, oo_941, oo_999, oo_1000, oo_1040, oo_10000, oo_add, oo_mul, oo_sub, oo_lt, oo_le, oo_eq, oo_nat, oo_div, oo_rem, oo_nn, nn_oo, oo_nnlt, nn_oolt, oo_nnle, nn_oole, Option.bind_some, Option.bind_none, r1, q1]
/-- behind the first k coats -/
def vK (v : Nat → Nat) (wet k : Nat) : Nat → Nat := fun j => if 157 ≤ j ∧ j < 193 then (if (j - 157) / 6 < k then pnN v wet j else v j) else vW v (v 4) j
theorem vK_o {wet k j : Nat} (h : ¬ (157 ≤ j ∧ j < 193)) : vK v wet k j = vW v (v 4) j := if_neg h
theorem vK_in {wet k c s : Nat} (hs : s < 6) (hc : c < 6) : vK v wet k (157 + 6 * c + s) = if c < k then pnN v wet (157 + 6 * c + s) else v (157 + 6 * c + s) := by
  unfold vK
  rw [if_pos (by omega), show (157 + 6 * c + s - 157) / 6 = c by omega]
theorem coats_n (hO : HOK v) (hS : SOK v) {wet : Nat} (hw : wet ≤ 2) : ∀ m k n T, k + m = v 3 → m < n → IsC T 190 516 (vK v wet k) → ∃ U, f_X12_pass_L114 (oo wet) 188 n (oo k) T = some U ∧ IsC U 190 516 (vK v wet (v 3)) ∧ Fr [(190, 9999)] T U := by
  obtain ⟨⟨b0, b1, b2, b3, b4, b5⟩, hf, -, -, hkp, -, -, -⟩ := id hO
  have h999 := hS.1
  intro m
  induction m with
  | zero =>
    intro k n T hk hn hT
    obtain ⟨n, rfl⟩ : ∃ n', n = n' + 1 := ⟨n - 1, by omega⟩
    obtain rfl : k = v 3 := by omega
    have e4 : T.1 190 3 = oo (v 3) := by rw [hT 3 (by decide), vK_o (by omega), vW_o (by omega)]
    exact ⟨T, by simp (disch := omega) only [f_X12_pass_L114, ↓oo_m1, oo_0, oo_1, oo_2, oo_3, oo_4, oo_5, oo_6, oo_7, oo_8, oo_9, oo_10, oo_12, oo_13, oo_14, oo_15, oo_16, oo_17, oo_18, oo_20, oo_24, oo_30, oo_32, oo_36, oo_40, oo_41, oo_48, oo_50, oo_57, oo_59, oo_60, oo_61, oo_62, oo_63, oo_64, oo_66, oo_72, oo_78, oo_96, oo_97, oo_99, oo_100, oo_101, oo_105, oo_107, oo_108, oo_109, oo_110, oo_111, oo_112, oo_114, oo_115, oo_116, oo_117, oo_119, oo_122, oo_128, oo_130, oo_134, oo_135, oo_136, oo_137, oo_138, oo_139, oo_140, oo_141, oo_142, oo_143, oo_144, oo_145, oo_151, oo_157, oo_194, oo_200, oo_240, oo_255, oo_256, oo_274, oo_276, oo_300, oo_516, oo_900, oo_940, oo_941, oo_999, oo_1000, oo_1040, oo_10000, oo_add, oo_mul, oo_sub, oo_lt, oo_le, oo_eq, oo_nat, oo_div, oo_rem, oo_nn, nn_oo, oo_nnlt, nn_oolt, oo_nnle, nn_oole, ↓reduceIte, if_pos, if_neg, or_false, false_or, or_true, true_or, and_true, true_and, and_false, false_and, not_true_eq_false, not_false_eq_true, Nat.not_lt_zero, Bool.false_eq_true, Bool.true_eq_false, rf_188_1, rf_188_14, rf_188_15, rf_188_16, rf_188_17, rf_188_18, rf_188_19, rf_188_20, rf_188_21, rf_188_22, rf_188_24, rf_188_25, rf_188_26, rf_188_27, rf_188_28, rf_188_31, rf_188_32, rf_188_34, rf_188_35, rf_188_36, rf_188_37, rf_188_38, rf_188_42, rf_188_43, rf_188_51, rf_188_52, rf_188_53, rf_188_55, e4], hT, Fr.rf _ _⟩
  | succ m ih =>
    intro k n T hk hn hT
    obtain ⟨n, rfl⟩ : ∃ n', n = n' + 1 := ⟨n - 1, by omega⟩
    obtain ⟨g1, g2, g3⟩ := hkp k (by omega)
    have lo : ∀ j, j < 144 → vK v wet k j = v j := fun j hj => by rw [vK_o (by omega), vW_o (by omega)]
    have e4 : T.1 190 3 = oo (v 3) := by rw [hT 3 (by decide), lo 3 (by decide)]
    have e5 : T.1 190 (66 + k) = oo (v (66 + k)) := by rw [hT _ (by omega), lo _ (by omega)]
    have e0 := lo 0 (by decide)
    have e144 : vK v wet k 144 = v 144 + 1 := by rw [vK_o (by omega), vW_144]
    obtain ⟨U1, u1, u2, u3⟩ := fadeAt_n (at_ := 157 + 6 * k) (kp := v (66 + k)) (wet := wet) hT (by rw [e0]; exact b0) (by omega) (by omega) g1 g2 hw (by rw [e144]; omega) (fun s hs => by rw [lo _ (by omega)]; exact (hf s hs).1) (fun s hs => by
      rw [e0] at hs
      rw [vK_in (by omega) (by omega), if_neg (by omega)]
      have := (hS.2.2.2.1 k s (by omega) (by omega)).1
      omega)
    rw [e0, e144] at u2
    have hw1 : ∀ j, j < 157 → (fun j => if 157 + 6 * k ≤ j ∧ j < 157 + 6 * k + v 0 then vK v wet k j - ((if (v 144 + 1) % v (66 + k) = 0 then vK v wet k (6 + (j - (157 + 6 * k))) else 0) + wet) else vK v wet k j) j = vW v (v 4) j := fun j hj => by
      show (if 157 + 6 * k ≤ j ∧ j < 157 + 6 * k + v 0 then _ else _) = _
      rw [if_neg (by omega), vK_o (by omega)]
    have hO1 : HOK (fun j => if 157 + 6 * k ≤ j ∧ j < 157 + 6 * k + v 0 then vK v wet k j - ((if (v 144 + 1) % v (66 + k) = 0 then vK v wet k (6 + (j - (157 + 6 * k))) else 0) + wet) else vK v wet k j) := hO.ext (fun j hj => ((hw1 j (by omega)).trans (vW_o (by omega))).symm)
    have hwe : f_X12_wearerOf 188 (oo k) U1 = some (enc (weN v k 0 (v 3)), U1) := by
      have hq : ∀ m2 k2 n2, k2 + m2 = v 3 → m2 < n2 → f_X12_wearerOf_L2 188 (oo k) n2 (oo k2) U1 = some (if weN v k k2 m2 = 0 then .inr () else .inl (oo (weN v k k2 m2 - 1), U1)) := by
        have q3 : U1.1 190 3 = oo (v 3) := by rw [u2 3 (by decide), hw1 3 (by decide), vW_o (by omega)]
        intro m2
        induction m2 with
        | zero =>
          intro k2 n2 h1 h2
          obtain ⟨n2, rfl⟩ : ∃ n', n2 = n' + 1 := ⟨n2 - 1, by omega⟩
          simp (disch := omega) only [f_X12_wearerOf_L2, ↓oo_m1, oo_0, oo_1, oo_2, oo_3, oo_4, oo_5, oo_6, oo_7, oo_8, oo_9, oo_10, oo_12, oo_13, oo_14, oo_15, oo_16, oo_17, oo_18, oo_20, oo_24, oo_30, oo_32, oo_36, oo_40, oo_41, oo_48, oo_50, oo_57, oo_59, oo_60, oo_61, oo_62, oo_63, oo_64, oo_66, oo_72, oo_78, oo_96, oo_97, oo_99, oo_100, oo_101, oo_105, oo_107, oo_108, oo_109, oo_110, oo_111, oo_112, oo_114, oo_115, oo_116, oo_117, oo_119, oo_122, oo_128, oo_130, oo_134, oo_135, oo_136, oo_137, oo_138, oo_139, oo_140, oo_141, oo_142, oo_143, oo_144, oo_145, oo_151, oo_157, oo_194, oo_200, oo_240, oo_255, oo_256, oo_274, oo_276, oo_300, oo_516, oo_900, oo_940, oo_941, oo_999, oo_1000, oo_1040, oo_10000, oo_add, oo_mul, oo_sub, oo_lt, oo_le, oo_eq, oo_nat, oo_div, oo_rem, oo_nn, nn_oo, oo_nnlt, nn_oolt, oo_nnle, nn_oole, ↓reduceIte, if_pos, if_neg, or_false, false_or, or_true, true_or, and_true, true_and, and_false, false_and, not_true_eq_false, not_false_eq_true, Nat.not_lt_zero, Bool.false_eq_true, Bool.true_eq_false, rf_188_1, rf_188_14, rf_188_15, rf_188_16, rf_188_17, rf_188_18, rf_188_19, rf_188_20, rf_188_21, rf_188_22, rf_188_24, rf_188_25, rf_188_26, rf_188_27, rf_188_28, rf_188_31, rf_188_32, rf_188_34, rf_188_35, rf_188_36, rf_188_37, rf_188_38, rf_188_42, rf_188_43, rf_188_51, rf_188_52, rf_188_53, rf_188_55, q3, weN]
        | succ m2 ih2 =>
          intro k2 n2 h1 h2
          obtain ⟨n2, rfl⟩ : ∃ n', n2 = n' + 1 := ⟨n2 - 1, by omega⟩
          have q4 : U1.1 190 (151 + k2) = oo (v (151 + k2)) := by rw [u2 _ (by omega), hw1 _ (by omega), vW_o (by omega)]
          have q5 := (hS.2.1 k2 (by omega)).2
          by_cases h3 : v (151 + k2) = k
          · have hw : weN v k k2 (m2 + 1) = k2 + 1 := by rw [weN, if_pos h3]
            rw [hw]
            simp (disch := omega) only [f_X12_wearerOf_L2, ↓oo_m1, oo_0, oo_1, oo_2, oo_3, oo_4, oo_5, oo_6, oo_7, oo_8, oo_9, oo_10, oo_12, oo_13, oo_14, oo_15, oo_16, oo_17, oo_18, oo_20, oo_24, oo_30, oo_32, oo_36, oo_40, oo_41, oo_48, oo_50, oo_57, oo_59, oo_60, oo_61, oo_62, oo_63, oo_64, oo_66, oo_72, oo_78, oo_96, oo_97, oo_99, oo_100, oo_101, oo_105, oo_107, oo_108, oo_109, oo_110, oo_111, oo_112, oo_114, oo_115, oo_116, oo_117, oo_119, oo_122, oo_128, oo_130, oo_134, oo_135, oo_136, oo_137, oo_138, oo_139, oo_140, oo_141, oo_142, oo_143, oo_144, oo_145, oo_151, oo_157, oo_194, oo_200, oo_240, oo_255, oo_256, oo_274, oo_276, oo_300, oo_516, oo_900, oo_940, oo_941, oo_999, oo_1000, oo_1040, oo_10000, oo_add, oo_mul, oo_sub, oo_lt, oo_le, oo_eq, oo_nat, oo_div, oo_rem, oo_nn, nn_oo, oo_nnlt, nn_oolt, oo_nnle, nn_oole, ↓reduceIte, if_pos, if_neg, or_false, false_or, or_true, true_or, and_true, true_and, and_false, false_and, not_true_eq_false, not_false_eq_true, Nat.not_lt_zero, Bool.false_eq_true, Bool.true_eq_false, rf_188_1, rf_188_14, rf_188_15, rf_188_16, rf_188_17, rf_188_18, rf_188_19, rf_188_20, rf_188_21, rf_188_22, rf_188_24, rf_188_25, rf_188_26, rf_188_27, rf_188_28, rf_188_31, rf_188_32, rf_188_34, rf_188_35, rf_188_36, rf_188_37, rf_188_38, rf_188_42, rf_188_43, rf_188_51, rf_188_52, rf_188_53, rf_188_55, ln_190, q3, q4, h3, Nat.succ_ne_zero, Nat.add_sub_cancel]
          · have hw : weN v k k2 (m2 + 1) = weN v k (k2 + 1) m2 := by rw [weN, if_neg h3]
            rw [hw]
            simp (disch := omega) only [f_X12_wearerOf_L2, ↓oo_m1, oo_0, oo_1, oo_2, oo_3, oo_4, oo_5, oo_6, oo_7, oo_8, oo_9, oo_10, oo_12, oo_13, oo_14, oo_15, oo_16, oo_17, oo_18, oo_20, oo_24, oo_30, oo_32, oo_36, oo_40, oo_41, oo_48, oo_50, oo_57, oo_59, oo_60, oo_61, oo_62, oo_63, oo_64, oo_66, oo_72, oo_78, oo_96, oo_97, oo_99, oo_100, oo_101, oo_105, oo_107, oo_108, oo_109, oo_110, oo_111, oo_112, oo_114, oo_115, oo_116, oo_117, oo_119, oo_122, oo_128, oo_130, oo_134, oo_135, oo_136, oo_137, oo_138, oo_139, oo_140, oo_141, oo_142, oo_143, oo_144, oo_145, oo_151, oo_157, oo_194, oo_200, oo_240, oo_255, oo_256, oo_274, oo_276, oo_300, oo_516, oo_900, oo_940, oo_941, oo_999, oo_1000, oo_1040, oo_10000, oo_add, oo_mul, oo_sub, oo_lt, oo_le, oo_eq, oo_nat, oo_div, oo_rem, oo_nn, nn_oo, oo_nnlt, nn_oolt, oo_nnle, nn_oole, ↓reduceIte, if_pos, if_neg, or_false, false_or, or_true, true_or, and_true, true_and, and_false, false_and, not_true_eq_false, not_false_eq_true, Nat.not_lt_zero, Bool.false_eq_true, Bool.true_eq_false, rf_188_1, rf_188_14, rf_188_15, rf_188_16, rf_188_17, rf_188_18, rf_188_19, rf_188_20, rf_188_21, rf_188_22, rf_188_24, rf_188_25, rf_188_26, rf_188_27, rf_188_28, rf_188_31, rf_188_32, rf_188_34, rf_188_35, rf_188_36, rf_188_37, rf_188_38, rf_188_42, rf_188_43, rf_188_51, rf_188_52, rf_188_53, rf_188_55, ln_190, q3, q4, h3]
            exact ih2 (k2 + 1) n2 (by omega) (by omega)
      have h := hq (v 3) 0 1000000 (by omega) (by omega)
      simp (disch := omega) only [f_X12_wearerOf, oo_0, h, Option.bind_some, Option.bind_none]
      unfold enc
      by_cases h2 : weN v k 0 (v 3) = 0
      · rw [if_pos h2, if_pos h2]
        rfl
      · rw [if_neg h2, if_neg h2]
    obtain ⟨we1, we2⟩ := we_some hO hS (show k < v 3 by omega)
    have hwe2 : enc (weN v k 0 (v 3)) = oo (weN v k 0 (v 3) - 1) := by unfold enc; rw [if_neg we1]
    rw [hwe2] at hwe
    generalize hx : weN v k 0 (v 3) - 1 = x at hwe
    have hx3 : x < v 3 := by omega
    have e7 : U1.1 190 (145 + x) = oo (whN v x (v 144 + 1) (v 4)) := by rw [u2 _ (by omega), hw1 _ (by omega), vW_wh (by omega)]
    have hp := whN_lt hO hS (t := v 144 + 1) hx3
    obtain ⟨U2, w1, w2, w3⟩ := addAir_n (p := whN v x (v 144 + 1) (v 4)) (c := k) (x := oo wet) (y := oo 0) u2 hO1 (by omega) (by omega) (fun s hs => by
      show (if _ then _ else _) ≤ _
      rw [if_neg (by omega), e0] at hs
      rw [if_pos (by omega), vK_in (by omega) (by omega), if_neg (by omega)]
      have := (hS.2.2.2.1 k s (by omega) (by omega)).1
      omega)
    rw [if_neg (by omega), e0] at w2
    obtain ⟨U, z1, z2, z3⟩ := ih (k + 1) n U2 (by omega) (by omega) (w2.ext (fun j hj => by
      by_cases h1 : 157 + 6 * k ≤ j ∧ j < 157 + 6 * k + v 0
      · rw [if_pos h1, if_pos h1]
        obtain ⟨s, hs, rfl⟩ : ∃ s, s < v 0 ∧ j = 157 + 6 * k + s := ⟨j - (157 + 6 * k), by omega, by omega⟩
        rw [Nat.add_sub_cancel_left, vK_in (by omega) (by omega), if_neg (Nat.lt_irrefl k), vK_in (by omega) (by omega), if_pos (Nat.lt_succ_self k), pnN_ct (by omega) b3 hs b0, hx]
        unfold hrN
        rw [← airN_ext hO (fun j hj => ((hw1 j (by omega)).trans (vW_o (by omega))).symm) (by omega) (by omega), lo _ (by omega)]
      · rw [if_neg h1, if_neg h1]
        by_cases h2 : 157 ≤ j ∧ j < 193
        · obtain ⟨c, s, hc, hs, rfl⟩ : ∃ c s, c < 6 ∧ s < 6 ∧ j = 157 + 6 * c + s := ⟨(j - 157) / 6, (j - 157) % 6, by omega, by omega, by omega⟩
          rw [vK_in hs hc, vK_in hs hc]
          by_cases h3 : c < k
          · rw [if_pos h3, if_pos (by omega)]
          · rw [if_neg h3]
            by_cases h4 : c = k
            · rw [if_pos (by omega), pnN_cto (.inr (by omega)) hc hs]
            · rw [if_neg (by omega)]
        · rw [vK_o h2, vK_o h2]))
    refine ⟨U, ?_, z2, Fr.trans u3 (Fr.trans w3 z3)⟩
    simp (disch := omega) only [f_X12_pass_L114, ↓oo_m1, oo_0, oo_1, oo_2, oo_3, oo_4, oo_5, oo_6, oo_7, oo_8, oo_9, oo_10, oo_12, oo_13, oo_14, oo_15, oo_16, oo_17, oo_18, oo_20, oo_24, oo_30, oo_32, oo_36, oo_40, oo_41, oo_48, oo_50, oo_57, oo_59, oo_60, oo_61, oo_62, oo_63, oo_64, oo_66, oo_72, oo_78, oo_96, oo_97, oo_99, oo_100, oo_101, oo_105, oo_107, oo_108, oo_109, oo_110, oo_111, oo_112, oo_114, oo_115, oo_116, oo_117, oo_119, oo_122, oo_128, oo_130, oo_134, oo_135, oo_136, oo_137, oo_138, oo_139, oo_140, oo_141, oo_142, oo_143, oo_144, oo_145, oo_151, oo_157, oo_194, oo_200, oo_240, oo_255, oo_256, oo_274, oo_276, oo_300, oo_516, oo_900, oo_940, oo_941, oo_999, oo_1000, oo_1040, oo_10000, oo_add, oo_mul, oo_sub, oo_lt, oo_le, oo_eq, oo_nat, oo_div, oo_rem, oo_nn, nn_oo, oo_nnlt, nn_oolt, oo_nnle, nn_oole, ↓reduceIte, if_pos, if_neg, or_false, false_or, or_true, true_or, and_true, true_and, and_false, false_and, not_true_eq_false, not_false_eq_true, Nat.not_lt_zero, Bool.false_eq_true, Bool.true_eq_false, Option.bind_some, Option.bind_none, rf_188_1, rf_188_14, rf_188_15, rf_188_16, rf_188_17, rf_188_18, rf_188_19, rf_188_20, rf_188_21, rf_188_22, rf_188_24, rf_188_25, rf_188_26, rf_188_27, rf_188_28, rf_188_31, rf_188_32, rf_188_34, rf_188_35, rf_188_36, rf_188_37, rf_188_38, rf_188_42, rf_188_43, rf_188_51, rf_188_52, rf_188_53, rf_188_55, ln_190, e4, e5, u1, hwe, e7, w1]
    exact z1
/-- behind the first k cloths' fading -/
def vF (v : Nat → Nat) (wet k : Nat) : Nat → Nat := fun j => if 194 ≤ j ∧ j < 274 ∧ (j - 194) / 10 < k ∧ 4 ≤ (j - 194) % 10 ∧ (j - 194) % 10 - 4 < v 0 then clP v (v 144 + 1) ((j - 194) / 10) ((j - 194) % 10 - 4) else vK v wet (v 3) j
theorem vF_o {wet k j : Nat} (h : j < 194 ∨ 274 ≤ j) : vF v wet k j = vK v wet (v 3) j := if_neg (by omega)
theorem vF_in {wet k c s : Nat} (hs : s < v 0) (h0 : v 0 ≤ 6) (hc : c < 8) : vF v wet k (194 + 10 * c + 4 + s) = if c < k then clP v (v 144 + 1) c s else v (194 + 10 * c + 4 + s) := by
  unfold vF
  have e1 : (194 + 10 * c + 4 + s - 194) / 10 = c := by omega
  have e2 : (194 + 10 * c + 4 + s - 194) % 10 = 4 + s := by omega
  rw [e1, e2, Nat.add_sub_cancel_left]
  by_cases h : c < k
  · rw [if_pos (by omega), if_pos h]
  · rw [if_neg (by omega), if_neg h, vK_o (by omega), vW_o (by omega)]
theorem vF_io {wet k c z : Nat} (hc : c < 8) (hz : z < 10) (h : z < 4 ∨ 4 + v 0 ≤ z) : vF v wet k (194 + 10 * c + z) = v (194 + 10 * c + z) := by
  unfold vF
  rw [if_neg (by omega), vK_o (by omega), vW_o (by omega)]
theorem cloths_n (hO : HOK v) (hS : SOK v) {wet : Nat} : ∀ m k n T, k + m = v 193 → m < n → IsC T 190 516 (vF v wet k) → ∃ U, f_X12_pass_L227 188 n (oo k) T = some U ∧ IsC U 190 516 (vF v wet (v 193)) ∧ Fr [(190, 9999)] T U := by
  obtain ⟨⟨b0, b1, b2, b3, b4, b5⟩, hf, -, -, hkp, -, -, -⟩ := id hO
  have h999 := hS.1
  have c8 := hS.c8
  intro m
  induction m with
  | zero =>
    intro k n T hk hn hT
    obtain ⟨n, rfl⟩ : ∃ n', n = n' + 1 := ⟨n - 1, by omega⟩
    obtain rfl : k = v 193 := by omega
    have e4 : T.1 190 193 = oo (v 193) := by rw [hT 193 (by decide), vF_o (by omega), vK_o (by omega), vW_o (by omega)]
    exact ⟨T, by simp (disch := omega) only [f_X12_pass_L227, ↓oo_m1, oo_0, oo_1, oo_2, oo_3, oo_4, oo_5, oo_6, oo_7, oo_8, oo_9, oo_10, oo_12, oo_13, oo_14, oo_15, oo_16, oo_17, oo_18, oo_20, oo_24, oo_30, oo_32, oo_36, oo_40, oo_41, oo_48, oo_50, oo_57, oo_59, oo_60, oo_61, oo_62, oo_63, oo_64, oo_66, oo_72, oo_78, oo_96, oo_97, oo_99, oo_100, oo_101, oo_105, oo_107, oo_108, oo_109, oo_110, oo_111, oo_112, oo_114, oo_115, oo_116, oo_117, oo_119, oo_122, oo_128, oo_130, oo_134, oo_135, oo_136, oo_137, oo_138, oo_139, oo_140, oo_141, oo_142, oo_143, oo_144, oo_145, oo_151, oo_157, oo_194, oo_200, oo_240, oo_255, oo_256, oo_274, oo_276, oo_300, oo_516, oo_900, oo_940, oo_941, oo_999, oo_1000, oo_1040, oo_10000, oo_add, oo_mul, oo_sub, oo_lt, oo_le, oo_eq, oo_nat, oo_div, oo_rem, oo_nn, nn_oo, oo_nnlt, nn_oolt, oo_nnle, nn_oole, ↓reduceIte, if_pos, if_neg, or_false, false_or, or_true, true_or, and_true, true_and, and_false, false_and, not_true_eq_false, not_false_eq_true, Nat.not_lt_zero, Bool.false_eq_true, Bool.true_eq_false, rf_188_1, rf_188_14, rf_188_15, rf_188_16, rf_188_17, rf_188_18, rf_188_19, rf_188_20, rf_188_21, rf_188_22, rf_188_24, rf_188_25, rf_188_26, rf_188_27, rf_188_28, rf_188_31, rf_188_32, rf_188_34, rf_188_35, rf_188_36, rf_188_37, rf_188_38, rf_188_42, rf_188_43, rf_188_51, rf_188_52, rf_188_53, rf_188_55, e4], hT, Fr.rf _ _⟩
  | succ m ih =>
    intro k n T hk hn hT
    obtain ⟨n, rfl⟩ : ∃ n', n = n' + 1 := ⟨n - 1, by omega⟩
    obtain ⟨g1, g2, g3, g4⟩ := hS.2.2.2.2.2.1 k (by omega)
    obtain ⟨p1, p2, p3⟩ := hkp _ g1
    rw [← g4] at p1 p2
    have lo : ∀ j, j < 144 → vF v wet k j = v j := fun j hj => by rw [vF_o (by omega), vK_o (by omega), vW_o (by omega)]
    have e4 : T.1 190 193 = oo (v 193) := by rw [hT 193 (by decide), vF_o (by omega), vK_o (by omega), vW_o (by omega)]
    have e5 : T.1 190 (194 + 10 * k + 3) = oo (v (194 + 10 * k + 3)) := by rw [hT _ (by omega), vF_io (by omega) (by omega) (by omega)]
    have e0 := lo 0 (by decide)
    have e144 : vF v wet k 144 = v 144 + 1 := by rw [vF_o (by omega), vK_o (by omega), vW_144]
    obtain ⟨U1, u1, u2, u3⟩ := fadeAt_n (at_ := 194 + 10 * k + 4) (kp := v (194 + 10 * k + 3)) (wet := 0) hT (by rw [e0]; exact b0) (by omega) (by omega) p1 p2 (by decide) (by rw [e144]; omega) (fun s hs => by rw [lo _ (by omega)]; exact (hf s hs).1) (fun s hs => by
      rw [e0] at hs
      rw [vF_in hs b0 (by omega), if_neg (by omega)]
      have := (hS.2.2.2.2.2.2 k s (by omega) (by omega)).1
      omega)
    rw [e0, e144] at u2
    obtain ⟨U, z1, z2, z3⟩ := ih (k + 1) n U1 (by omega) (by omega) (u2.ext (fun j hj => by
      by_cases h1 : 194 + 10 * k + 4 ≤ j ∧ j < 194 + 10 * k + 4 + v 0
      · rw [if_pos h1]
        obtain ⟨s, hs, rfl⟩ : ∃ s, s < v 0 ∧ j = 194 + 10 * k + 4 + s := ⟨j - (194 + 10 * k + 4), by omega, by omega⟩
        rw [Nat.add_sub_cancel_left, vF_in hs b0 (by omega), if_neg (Nat.lt_irrefl k), vF_in hs b0 (by omega), if_pos (Nat.lt_succ_self k), lo _ (by omega)]
        rfl
      · rw [if_neg h1]
        by_cases h2 : 194 ≤ j ∧ j < 274
        · obtain ⟨c, z, hc, hz, rfl⟩ : ∃ c z, c < 8 ∧ z < 10 ∧ j = 194 + 10 * c + z := ⟨(j - 194) / 10, (j - 194) % 10, by omega, by omega, by omega⟩
          by_cases h3 : z < 4 ∨ 4 + v 0 ≤ z
          · rw [vF_io hc hz h3, vF_io hc hz h3]
          · obtain ⟨s, hs, rfl⟩ : ∃ s, s < v 0 ∧ z = 4 + s := ⟨z - 4, by omega, by omega⟩
            rw [← Nat.add_assoc, vF_in hs b0 hc, vF_in hs b0 hc]
            by_cases h4 : c < k
            · rw [if_pos h4, if_pos (by omega)]
            · rw [if_neg h4, if_neg (by omega)]
        · rw [vF_o (by omega), vF_o (by omega)]))
    refine ⟨U, ?_, z2, Fr.trans u3 z3⟩
    simp (disch := omega) only [f_X12_pass_L227, f_X12_ofCloth, ↓oo_m1, oo_0, oo_1, oo_2, oo_3, oo_4, oo_5, oo_6, oo_7, oo_8, oo_9, oo_10, oo_12, oo_13, oo_14, oo_15, oo_16, oo_17, oo_18, oo_20, oo_24, oo_30, oo_32, oo_36, oo_40, oo_41, oo_48, oo_50, oo_57, oo_59, oo_60, oo_61, oo_62, oo_63, oo_64, oo_66, oo_72, oo_78, oo_96, oo_97, oo_99, oo_100, oo_101, oo_105, oo_107, oo_108, oo_109, oo_110, oo_111, oo_112, oo_114, oo_115, oo_116, oo_117, oo_119, oo_122, oo_128, oo_130, oo_134, oo_135, oo_136, oo_137, oo_138, oo_139, oo_140, oo_141, oo_142, oo_143, oo_144, oo_145, oo_151, oo_157, oo_194, oo_200, oo_240, oo_255, oo_256, oo_274, oo_276, oo_300, oo_516, oo_900, oo_940, oo_941, oo_999, oo_1000, oo_1040, oo_10000, oo_add, oo_mul, oo_sub, oo_lt, oo_le, oo_eq, oo_nat, oo_div, oo_rem, oo_nn, nn_oo, oo_nnlt, nn_oolt, oo_nnle, nn_oole, ↓reduceIte, if_pos, if_neg, or_false, false_or, or_true, true_or, and_true, true_and, and_false, false_and, not_true_eq_false, not_false_eq_true, Nat.not_lt_zero, Bool.false_eq_true, Bool.true_eq_false, Option.bind_some, Option.bind_none, rf_188_1, rf_188_14, rf_188_15, rf_188_16, rf_188_17, rf_188_18, rf_188_19, rf_188_20, rf_188_21, rf_188_22, rf_188_24, rf_188_25, rf_188_26, rf_188_27, rf_188_28, rf_188_31, rf_188_32, rf_188_34, rf_188_35, rf_188_36, rf_188_37, rf_188_38, rf_188_42, rf_188_43, rf_188_51, rf_188_52, rf_188_53, rf_188_55, ln_190, e4, e5, u1]
    exact z1
end NP
