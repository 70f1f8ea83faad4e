section TN
variable {v : Nat → Nat}
theorem vp_b0 : vp_nar .boolean (oo 0) = oo 0 := by decide
theorem vp_b1 : vp_nar .boolean (oo 1) = oo 1 := by decide
def TN (v : Nat → Nat) (d : Nat) (l o : Nat → Nat) (T : XS) : Prop := IsC T 190 516 v ∧ (∀ s, s < 6 → T.1 199 (6 * d + s) = oo (l s) ∧ l s ≤ 99) ∧ (∀ i, i < d → T.1 200 i = oo (o i)) ∧ (T.1 188 30 = oo 0 ∨ T.1 188 30 = oo 1)
def UN (v : Nat → Nat) (d : Nat) (o : Nat → Nat) (F : Option (Nat → Nat)) (R : Nat → Bool) (T U : XS) : Prop := Fr [(188, 30), (199, 9999), (200, 9999), (202, 9999), (204, 9999)] T U ∧ (∀ i, i < d → U.1 200 i = oo (o i)) ∧ (∀ j, j < 6 * d + 6 → U.1 199 j = T.1 199 j) ∧ (∀ x, x < 256 → U.1 202 x = if R x = true then oo 1 else T.1 202 x) ∧ (T.1 188 30 = oo 1 → U.1 188 30 = oo 1 ∧ ∀ i, i < 8 → U.1 204 i = T.1 204 i) ∧ (T.1 188 30 = oo 0 → F = none → U.1 188 30 = oo 0) ∧ (T.1 188 30 = oo 0 → ∀ p, F = some p → U.1 188 30 = oo 1 ∧ ∀ i, i < v 193 → U.1 204 i = oo (p i))
theorem UN.flag {d : Nat} {o : Nat → Nat} {F : Option (Nat → Nat)} {R : Nat → Bool} {T U : XS} (h : UN v d o F R T U) (hT : T.1 188 30 = oo 0 ∨ T.1 188 30 = oo 1) : U.1 188 30 = oo 0 ∨ U.1 188 30 = oo 1 := by
  obtain ⟨-, -, -, -, h1, h2, h3⟩ := h
  rcases hT with q | q
  · cases hF : F with
    | none => exact .inl (h2 q hF)
    | some p => exact .inr (h3 q p hF).1
  · exact .inr (h1 q).1
theorem TN.keep {d : Nat} {l o : Nat → Nat} {T U : XS} (h : TN v d l o T) (hF : Fr [(188, 30), (199, 9999), (200, 9999), (202, 9999), (204, 9999)] T U) (h1 : ∀ i, i < d → U.1 200 i = oo (o i)) (h2 : ∀ j, j < 6 * d + 6 → U.1 199 j = T.1 199 j) (h3 : U.1 188 30 = oo 0 ∨ U.1 188 30 = oo 1) : TN v d l o U := by
  obtain ⟨a1, a2, a3, a4⟩ := h
  exact ⟨a1.cell (hF.row rfl), fun s hs => by rw [h2 _ (by omega)]; exact a2 s hs, h1, h3⟩
theorem open_dn (hS : SOK v) : ∀ f k d set l o T, k < f → d + k = v 193 → PI (v 193) o d set → TN v d l o T → ∃ U, rX12_openOn f 188 (oo d) (oo set) T = some U ∧ UN v d o (FO v k d set l o) (RS v k set l) T U := by
  have h8 := hS.c8
  intro f
  induction f with
  | zero => intro k d set l o T hk; omega
  | succ f ih =>
    intro k d set l o T hk hd hP hT
    have hset := hP.2.2.2.2
    have hF0 : Fr [(188, 30), (199, 9999), (200, 9999), (202, 9999), (204, 9999)] T (sI T 202 set (oo 1)) := Fr.sIr (Fr.rf _ _) rfl
    have hT0 : TN v d l o (sI T 202 set (oo 1)) := hT.keep hF0 (fun i hi => by rw [sI_cell (by decide)]; exact hT.2.2.1 i hi) (fun j _ => by rw [sI_cell (by decide)]) (by rw [sI_cell (by decide)]; exact hT.2.2.2)
    have hC0 : (sI T 202 set (oo 1)).1 190 193 = oo (v 193) := hT0.1 193 (by decide)
    have hm0 : ∀ x, x < 256 → (sI T 202 set (oo 1)).1 202 x = if (x == set) = true then oo 1 else T.1 202 x := fun x hx => by
      by_cases h : x = set
      · rw [h, sI_same, if_pos (by simp)]
      · rw [sI_place h, if_neg (by simpa using h)]
    have h30 : (sI T 202 set (oo 1)).1 188 30 = T.1 188 30 := by rw [sI_cell (by decide)]
    have h204 : (sI T 202 set (oo 1)).1 204 = T.1 204 := by rw [sI_cell (by decide)]
    have h199 : (sI T 202 set (oo 1)).1 199 = T.1 199 := by rw [sI_cell (by decide)]
    cases k with
    | zero =>
      obtain rfl : d = v 193 := by omega
      -- nothing is left to open
      have hloop : ∀ m c n T1, c + m = v 193 → m < n → IsC T1 190 516 v → f_X12_openOn_L58 (rX12_openOn f) 188 (oo (v 193)) (oo set) n (oo c) T1 = some T1 := by
        intro m
        induction m with
        | zero =>
          intro c n T1 hc hn h1
          obtain ⟨n, rfl⟩ : ∃ n', n = n' + 1 := ⟨n - 1, by omega⟩
          have e := h1 193 (by decide)
          simp (disch := omega) only [f_X12_openOn_L58, ↓oo_m1, oo_0, oo_1, oo_2, oo_3, oo_4, oo_5, oo_6, oo_7, oo_8, oo_9, oo_10, oo_12, oo_13, oo_14, oo_15, oo_16, oo_17, oo_18, oo_20, oo_24, oo_30, oo_32, oo_36, oo_40, oo_41, oo_48, oo_50, oo_57, oo_59, oo_60, oo_61, oo_62, oo_63, oo_64, oo_66, oo_72, oo_78, oo_96, oo_97, oo_99, oo_100, oo_101, oo_105, oo_107, oo_108, oo_109, oo_110, oo_111, oo_112, oo_114, oo_115, oo_116, oo_117, oo_119, oo_122, oo_128, oo_130, oo_134, oo_135, oo_136, oo_137, oo_138, oo_139, oo_140, oo_141, oo_142, oo_143, oo_144, oo_145, oo_151, oo_157, oo_194, oo_200, oo_240, oo_255, oo_256, oo_274, oo_276, oo_300, oo_516, oo_900, oo_940, oo_941, oo_999, oo_1000, oo_1040, oo_10000, oo_add, oo_mul, oo_sub, oo_lt, oo_le, oo_eq, oo_nat, oo_div, oo_rem, oo_nn, nn_oo, oo_nnlt, nn_oolt, oo_nnle, nn_oole, ↓reduceIte, if_pos, if_neg, or_false, false_or, or_true, true_or, and_true, true_and, and_false, false_and, not_true_eq_false, not_false_eq_true, Nat.not_lt_zero, Bool.false_eq_true, Bool.true_eq_false, rf_188_1, rf_188_14, rf_188_15, rf_188_16, rf_188_17, rf_188_18, rf_188_19, rf_188_20, rf_188_21, rf_188_22, rf_188_24, rf_188_25, rf_188_26, rf_188_27, rf_188_28, rf_188_31, rf_188_32, rf_188_34, rf_188_35, rf_188_36, rf_188_37, rf_188_38, rf_188_42, rf_188_43, rf_188_51, rf_188_52, rf_188_53, rf_188_55, e]
        | succ m ihm =>
          intro c n T1 hc hn h1
          obtain ⟨n, rfl⟩ : ∃ n', n = n' + 1 := ⟨n - 1, by omega⟩
          have e := h1 193 (by decide)
          have hb := bt_t hset (k := c) (by omega) (PI_full hP h8 (by omega))
          simp (disch := omega) only [f_X12_openOn_L58, ↓oo_m1, oo_0, oo_1, oo_2, oo_3, oo_4, oo_5, oo_6, oo_7, oo_8, oo_9, oo_10, oo_12, oo_13, oo_14, oo_15, oo_16, oo_17, oo_18, oo_20, oo_24, oo_30, oo_32, oo_36, oo_40, oo_41, oo_48, oo_50, oo_57, oo_59, oo_60, oo_61, oo_62, oo_63, oo_64, oo_66, oo_72, oo_78, oo_96, oo_97, oo_99, oo_100, oo_101, oo_105, oo_107, oo_108, oo_109, oo_110, oo_111, oo_112, oo_114, oo_115, oo_116, oo_117, oo_119, oo_122, oo_128, oo_130, oo_134, oo_135, oo_136, oo_137, oo_138, oo_139, oo_140, oo_141, oo_142, oo_143, oo_144, oo_145, oo_151, oo_157, oo_194, oo_200, oo_240, oo_255, oo_256, oo_274, oo_276, oo_300, oo_516, oo_900, oo_940, oo_941, oo_999, oo_1000, oo_1040, oo_10000, oo_add, oo_mul, oo_sub, oo_lt, oo_le, oo_eq, oo_nat, oo_div, oo_rem, oo_nn, nn_oo, oo_nnlt, nn_oolt, oo_nnle, nn_oole, ↓reduceIte, if_pos, if_neg, or_false, false_or, or_true, true_or, and_true, true_and, and_false, false_and, not_true_eq_false, not_false_eq_true, Nat.not_lt_zero, Bool.false_eq_true, Bool.true_eq_false, rf_188_1, rf_188_14, rf_188_15, rf_188_16, rf_188_17, rf_188_18, rf_188_19, rf_188_20, rf_188_21, rf_188_22, rf_188_24, rf_188_25, rf_188_26, rf_188_27, rf_188_28, rf_188_31, rf_188_32, rf_188_34, rf_188_35, rf_188_36, rf_188_37, rf_188_38, rf_188_42, rf_188_43, rf_188_51, rf_188_52, rf_188_53, rf_188_55, e, hb]
          exact ihm (c + 1) n T1 (by omega) (by omega) h1
      rcases hT.2.2.2 with hz | hz
      · have hl := loop_blk (L := f_X12_openOn_L33 (rX12_openOn f) 188 (oo (v 193)) (oo set)) (a := 204) (lo := 0) (st := 0) (m := v 193) (f := fun j => oo (o j)) (S := sI (sI T 202 set (oo 1)) 188 30 (oo 1)) (R := some (blk (sI (sI T 202 set (oo 1)) 188 30 (oo 1)) 204 0 (v 193) (fun j => oo (o j)))) (fun n k hk => by
          have e := hT0.2.2.1 k hk
          simp (disch := omega) only [f_X12_openOn_L33, ↓oo_m1, oo_0, oo_1, oo_2, oo_3, oo_4, oo_5, oo_6, oo_7, oo_8, oo_9, oo_10, oo_12, oo_13, oo_14, oo_15, oo_16, oo_17, oo_18, oo_20, oo_24, oo_30, oo_32, oo_36, oo_40, oo_41, oo_48, oo_50, oo_57, oo_59, oo_60, oo_61, oo_62, oo_63, oo_64, oo_66, oo_72, oo_78, oo_96, oo_97, oo_99, oo_100, oo_101, oo_105, oo_107, oo_108, oo_109, oo_110, oo_111, oo_112, oo_114, oo_115, oo_116, oo_117, oo_119, oo_122, oo_128, oo_130, oo_134, oo_135, oo_136, oo_137, oo_138, oo_139, oo_140, oo_141, oo_142, oo_143, oo_144, oo_145, oo_151, oo_157, oo_194, oo_200, oo_240, oo_255, oo_256, oo_274, oo_276, oo_300, oo_516, oo_900, oo_940, oo_941, oo_999, oo_1000, oo_1040, oo_10000, oo_add, oo_mul, oo_sub, oo_lt, oo_le, oo_eq, oo_nat, oo_div, oo_rem, oo_nn, nn_oo, oo_nnlt, nn_oolt, oo_nnle, nn_oole, ↓reduceIte, if_pos, if_neg, or_false, false_or, or_true, true_or, and_true, true_and, and_false, false_and, not_true_eq_false, not_false_eq_true, Nat.not_lt_zero, Bool.false_eq_true, Bool.true_eq_false, rf_188_1, rf_188_14, rf_188_15, rf_188_16, rf_188_17, rf_188_18, rf_188_19, rf_188_20, rf_188_21, rf_188_22, rf_188_24, rf_188_25, rf_188_26, rf_188_27, rf_188_28, rf_188_31, rf_188_32, rf_188_34, rf_188_35, rf_188_36, rf_188_37, rf_188_38, rf_188_42, rf_188_43, rf_188_51, rf_188_52, rf_188_53, rf_188_55, ln_200, ln_204, blk_cell, sI_cell, Nat.zero_add]
          rw [sI_cell (by decide)] at e
          rw [e]) (fun n => by
          simp (disch := omega) only [f_X12_openOn_L33, ↓oo_m1, oo_0, oo_1, oo_2, oo_3, oo_4, oo_5, oo_6, oo_7, oo_8, oo_9, oo_10, oo_12, oo_13, oo_14, oo_15, oo_16, oo_17, oo_18, oo_20, oo_24, oo_30, oo_32, oo_36, oo_40, oo_41, oo_48, oo_50, oo_57, oo_59, oo_60, oo_61, oo_62, oo_63, oo_64, oo_66, oo_72, oo_78, oo_96, oo_97, oo_99, oo_100, oo_101, oo_105, oo_107, oo_108, oo_109, oo_110, oo_111, oo_112, oo_114, oo_115, oo_116, oo_117, oo_119, oo_122, oo_128, oo_130, oo_134, oo_135, oo_136, oo_137, oo_138, oo_139, oo_140, oo_141, oo_142, oo_143, oo_144, oo_145, oo_151, oo_157, oo_194, oo_200, oo_240, oo_255, oo_256, oo_274, oo_276, oo_300, oo_516, oo_900, oo_940, oo_941, oo_999, oo_1000, oo_1040, oo_10000, oo_add, oo_mul, oo_sub, oo_lt, oo_le, oo_eq, oo_nat, oo_div, oo_rem, oo_nn, nn_oo, oo_nnlt, nn_oolt, oo_nnle, nn_oole, ↓reduceIte, if_pos, if_neg, or_false, false_or, or_true, true_or, and_true, true_and, and_false, false_and, not_true_eq_false, not_false_eq_true, Nat.not_lt_zero, Bool.false_eq_true, Bool.true_eq_false]) 1000000 (by omega)
        have hF1 : Fr [(188, 30), (199, 9999), (200, 9999), (202, 9999), (204, 9999)] T (blk (sI (sI T 202 set (oo 1)) 188 30 (oo 1)) 204 0 (v 193) (fun j => oo (o j))) := Fr.blk (Fr.sIp hF0 rfl) rfl
        have hlp := hloop (v 193) 0 1000000 (blk (sI (sI T 202 set (oo 1)) 188 30 (oo 1)) 204 0 (v 193) (fun j => oo (o j))) (by omega) (by omega) (hT.1.cell (hF1.row rfl))
        have hz0 : (sI T 202 set (oo 1)).1 188 30 = oo 0 := by rw [h30]; exact hz
        refine ⟨_, ?_, hF1, fun i hi => ?_, fun j _ => ?_, fun x hx => ?_, fun q => ?_, fun _ q => (by cases q), fun _ p hp => ?_⟩
        · show f_X12_openOn (rX12_openOn f) 188 (oo (v 193)) (oo set) T = _
          simp (disch := omega) only [f_X12_openOn, vp_b1, ↓oo_m1, oo_0, oo_1, oo_2, oo_3, oo_4, oo_5, oo_6, oo_7, oo_8, oo_9, oo_10, oo_12, oo_13, oo_14, oo_15, oo_16, oo_17, oo_18, oo_20, oo_24, oo_30, oo_32, oo_36, oo_40, oo_41, oo_48, oo_50, oo_57, oo_59, oo_60, oo_61, oo_62, oo_63, oo_64, oo_66, oo_72, oo_78, oo_96, oo_97, oo_99, oo_100, oo_101, oo_105, oo_107, oo_108, oo_109, oo_110, oo_111, oo_112, oo_114, oo_115, oo_116, oo_117, oo_119, oo_122, oo_128, oo_130, oo_134, oo_135, oo_136, oo_137, oo_138, oo_139, oo_140, oo_141, oo_142, oo_143, oo_144, oo_145, oo_151, oo_157, oo_194, oo_200, oo_240, oo_255, oo_256, oo_274, oo_276, oo_300, oo_516, oo_900, oo_940, oo_941, oo_999, oo_1000, oo_1040, oo_10000, oo_add, oo_mul, oo_sub, oo_lt, oo_le, oo_eq, oo_nat, oo_div, oo_rem, oo_nn, nn_oo, oo_nnlt, nn_oolt, oo_nnle, nn_oole, ↓reduceIte, if_pos, if_neg, or_false, false_or, or_true, true_or, and_true, true_and, and_false, false_and, not_true_eq_false, not_false_eq_true, Nat.not_lt_zero, Bool.false_eq_true, Bool.true_eq_false, Option.bind_some, Option.bind_none, rf_188_1, rf_188_14, rf_188_15, rf_188_16, rf_188_17, rf_188_18, rf_188_19, rf_188_20, rf_188_21, rf_188_22, rf_188_24, rf_188_25, rf_188_26, rf_188_27, rf_188_28, rf_188_31, rf_188_32, rf_188_34, rf_188_35, rf_188_36, rf_188_37, rf_188_38, rf_188_42, rf_188_43, rf_188_51, rf_188_52, rf_188_53, rf_188_55, ln_202, hC0, hz0, hl, hlp]
        · rw [blk_cell (by decide), sI_cell (by decide)]; exact hT0.2.2.1 i hi
        · rw [blk_cell (by decide), sI_cell (by decide), h199]
        · rw [blk_cell (by decide), sI_cell (by decide), hm0 x hx]
          rfl
        · rw [hz] at q
          exact absurd q (by decide)
        · obtain rfl : o = p := Option.some.inj hp
          refine ⟨by rw [blk_cell (by decide)]; exact sI_same _ _ _ _, fun i hi => by rw [blk_in (by omega)]⟩
      · have hlp := hloop (v 193) 0 1000000 (sI T 202 set (oo 1)) (by omega) (by omega) hT0.1
        have hz0 : (sI T 202 set (oo 1)).1 188 30 = oo 1 := by rw [h30]; exact hz
        refine ⟨_, ?_, hF0, hT0.2.2.1, fun j _ => by rw [h199], fun x hx => ?_, fun _ => ⟨hz0, fun i _ => by rw [h204]⟩, fun q => ?_, fun q => ?_⟩
        · show f_X12_openOn (rX12_openOn f) 188 (oo (v 193)) (oo set) T = _
          simp (disch := omega) only [f_X12_openOn, vp_b1, ↓oo_m1, oo_0, oo_1, oo_2, oo_3, oo_4, oo_5, oo_6, oo_7, oo_8, oo_9, oo_10, oo_12, oo_13, oo_14, oo_15, oo_16, oo_17, oo_18, oo_20, oo_24, oo_30, oo_32, oo_36, oo_40, oo_41, oo_48, oo_50, oo_57, oo_59, oo_60, oo_61, oo_62, oo_63, oo_64, oo_66, oo_72, oo_78, oo_96, oo_97, oo_99, oo_100, oo_101, oo_105, oo_107, oo_108, oo_109, oo_110, oo_111, oo_112, oo_114, oo_115, oo_116, oo_117, oo_119, oo_122, oo_128, oo_130, oo_134, oo_135, oo_136, oo_137, oo_138, oo_139, oo_140, oo_141, oo_142, oo_143, oo_144, oo_145, oo_151, oo_157, oo_194, oo_200, oo_240, oo_255, oo_256, oo_274, oo_276, oo_300, oo_516, oo_900, oo_940, oo_941, oo_999, oo_1000, oo_1040, oo_10000, oo_add, oo_mul, oo_sub, oo_lt, oo_le, oo_eq, oo_nat, oo_div, oo_rem, oo_nn, nn_oo, oo_nnlt, nn_oolt, oo_nnle, nn_oole, ↓reduceIte, if_pos, if_neg, or_false, false_or, or_true, true_or, and_true, true_and, and_false, false_and, not_true_eq_false, not_false_eq_true, Nat.not_lt_zero, Bool.false_eq_true, Bool.true_eq_false, Option.bind_some, Option.bind_none, rf_188_1, rf_188_14, rf_188_15, rf_188_16, rf_188_17, rf_188_18, rf_188_19, rf_188_20, rf_188_21, rf_188_22, rf_188_24, rf_188_25, rf_188_26, rf_188_27, rf_188_28, rf_188_31, rf_188_32, rf_188_34, rf_188_35, rf_188_36, rf_188_37, rf_188_38, rf_188_42, rf_188_43, rf_188_51, rf_188_52, rf_188_53, rf_188_55, ln_202, hC0, hz0, hlp]
        · rw [hm0 x hx]
          rfl
        · rw [hz] at q
          exact absurd q (by decide)
        · rw [hz] at q
          exact absurd q (by decide)
    | succ k =>
      have hstep : ∀ m c n T1, c + m = v 193 → m < n → TN v d l o T1 → ∃ U, f_X12_openOn_L58 (rX12_openOn f) 188 (oo d) (oo set) n (oo c) T1 = some U ∧ UN v d o (lpF (fun c => if set.testBit c = true then none else if dnN v c l = true then none else FO v k (d + 1) (set ||| 2 ^ c) (opN v c l) (upN o d c)) m c) (fun x => lpA (fun c => !set.testBit c && (!dnN v c l && RS v k (set ||| 2 ^ c) (opN v c l) x)) m c) T1 U := by
        intro m
        induction m with
        | zero =>
          intro c n T1 hc hn h1
          obtain ⟨n, rfl⟩ : ∃ n', n = n' + 1 := ⟨n - 1, by omega⟩
          have e := h1.1 193 (by decide)
          refine ⟨T1, ?_, Fr.rf _ _, h1.2.2.1, fun _ _ => rfl, fun x _ => ?_, fun q => ⟨q, fun _ _ => rfl⟩, fun q _ => q, fun _ p h => (by cases h)⟩
          · simp (disch := omega) only [f_X12_openOn_L58, ↓oo_m1, oo_0, oo_1, oo_2, oo_3, oo_4, oo_5, oo_6, oo_7, oo_8, oo_9, oo_10, oo_12, oo_13, oo_14, oo_15, oo_16, oo_17, oo_18, oo_20, oo_24, oo_30, oo_32, oo_36, oo_40, oo_41, oo_48, oo_50, oo_57, oo_59, oo_60, oo_61, oo_62, oo_63, oo_64, oo_66, oo_72, oo_78, oo_96, oo_97, oo_99, oo_100, oo_101, oo_105, oo_107, oo_108, oo_109, oo_110, oo_111, oo_112, oo_114, oo_115, oo_116, oo_117, oo_119, oo_122, oo_128, oo_130, oo_134, oo_135, oo_136, oo_137, oo_138, oo_139, oo_140, oo_141, oo_142, oo_143, oo_144, oo_145, oo_151, oo_157, oo_194, oo_200, oo_240, oo_255, oo_256, oo_274, oo_276, oo_300, oo_516, oo_900, oo_940, oo_941, oo_999, oo_1000, oo_1040, oo_10000, oo_add, oo_mul, oo_sub, oo_lt, oo_le, oo_eq, oo_nat, oo_div, oo_rem, oo_nn, nn_oo, oo_nnlt, nn_oolt, oo_nnle, nn_oole, ↓reduceIte, if_pos, if_neg, or_false, false_or, or_true, true_or, and_true, true_and, and_false, false_and, not_true_eq_false, not_false_eq_true, Nat.not_lt_zero, Bool.false_eq_true, Bool.true_eq_false, rf_188_1, rf_188_14, rf_188_15, rf_188_16, rf_188_17, rf_188_18, rf_188_19, rf_188_20, rf_188_21, rf_188_22, rf_188_24, rf_188_25, rf_188_26, rf_188_27, rf_188_28, rf_188_31, rf_188_32, rf_188_34, rf_188_35, rf_188_36, rf_188_37, rf_188_38, rf_188_42, rf_188_43, rf_188_51, rf_188_52, rf_188_53, rf_188_55, e]
          · exact (if_neg (by simp [lpA])).symm
        | succ m ihm =>
          intro c n T1 hc hn h1
          obtain ⟨n, rfl⟩ : ∃ n', n = n' + 1 := ⟨n - 1, by omega⟩
          have e := h1.1 193 (by decide)
          rw [lpF]
          by_cases ht : set.testBit c = true
          · have hb := bt_t hset (k := c) (by omega) ht
            obtain ⟨U, u1, u2, u3, u4, u5, u6⟩ := ihm (c + 1) n T1 (by omega) (by omega) h1
            rw [if_pos ht]
            refine ⟨U, ?_, u2, u3, u4, fun x hx => ?_, u6⟩
            · simp (disch := omega) only [f_X12_openOn_L58, ↓oo_m1, oo_0, oo_1, oo_2, oo_3, oo_4, oo_5, oo_6, oo_7, oo_8, oo_9, oo_10, oo_12, oo_13, oo_14, oo_15, oo_16, oo_17, oo_18, oo_20, oo_24, oo_30, oo_32, oo_36, oo_40, oo_41, oo_48, oo_50, oo_57, oo_59, oo_60, oo_61, oo_62, oo_63, oo_64, oo_66, oo_72, oo_78, oo_96, oo_97, oo_99, oo_100, oo_101, oo_105, oo_107, oo_108, oo_109, oo_110, oo_111, oo_112, oo_114, oo_115, oo_116, oo_117, oo_119, oo_122, oo_128, oo_130, oo_134, oo_135, oo_136, oo_137, oo_138, oo_139, oo_140, oo_141, oo_142, oo_143, oo_144, oo_145, oo_151, oo_157, oo_194, oo_200, oo_240, oo_255, oo_256, oo_274, oo_276, oo_300, oo_516, oo_900, oo_940, oo_941, oo_999, oo_1000, oo_1040, oo_10000, oo_add, oo_mul, oo_sub, oo_lt, oo_le, oo_eq, oo_nat, oo_div, oo_rem, oo_nn, nn_oo, oo_nnlt, nn_oolt, oo_nnle, nn_oole, ↓reduceIte, if_pos, if_neg, or_false, false_or, or_true, true_or, and_true, true_and, and_false, false_and, not_true_eq_false, not_false_eq_true, Nat.not_lt_zero, Bool.false_eq_true, Bool.true_eq_false, rf_188_1, rf_188_14, rf_188_15, rf_188_16, rf_188_17, rf_188_18, rf_188_19, rf_188_20, rf_188_21, rf_188_22, rf_188_24, rf_188_25, rf_188_26, rf_188_27, rf_188_28, rf_188_31, rf_188_32, rf_188_34, rf_188_35, rf_188_36, rf_188_37, rf_188_38, rf_188_42, rf_188_43, rf_188_51, rf_188_52, rf_188_53, rf_188_55, e, hb]
              exact u1
            · have e : lpA (fun c => !set.testBit c && (!dnN v c l && RS v k (set ||| 2 ^ c) (opN v c l) x)) (m + 1) c = lpA (fun c => !set.testBit c && (!dnN v c l && RS v k (set ||| 2 ^ c) (opN v c l) x)) m (c + 1) := lpA_f (by simp [ht])
              exact (u5 x hx).trans (congrArg (fun z : Bool => if z = true then oo 1 else T1.1 202 x) e.symm)
          · have hb := bt_f hset (k := c) (by omega) ht
            rw [if_neg ht]
            have hdn := dn_n h1.1 hS (c := c) (r := d) (l := l) (by omega) (by omega) h1.2.1
            by_cases hd2 : dnN v c l = true
            · rw [hd2] at hdn
              obtain ⟨U, u1, u2, u3, u4, u5, u6⟩ := ihm (c + 1) n T1 (by omega) (by omega) h1
              rw [if_pos hd2]
              refine ⟨U, ?_, u2, u3, u4, fun x hx => ?_, u6⟩
              · simp (disch := omega) only [f_X12_openOn_L58, ↓oo_m1, oo_0, oo_1, oo_2, oo_3, oo_4, oo_5, oo_6, oo_7, oo_8, oo_9, oo_10, oo_12, oo_13, oo_14, oo_15, oo_16, oo_17, oo_18, oo_20, oo_24, oo_30, oo_32, oo_36, oo_40, oo_41, oo_48, oo_50, oo_57, oo_59, oo_60, oo_61, oo_62, oo_63, oo_64, oo_66, oo_72, oo_78, oo_96, oo_97, oo_99, oo_100, oo_101, oo_105, oo_107, oo_108, oo_109, oo_110, oo_111, oo_112, oo_114, oo_115, oo_116, oo_117, oo_119, oo_122, oo_128, oo_130, oo_134, oo_135, oo_136, oo_137, oo_138, oo_139, oo_140, oo_141, oo_142, oo_143, oo_144, oo_145, oo_151, oo_157, oo_194, oo_200, oo_240, oo_255, oo_256, oo_274, oo_276, oo_300, oo_516, oo_900, oo_940, oo_941, oo_999, oo_1000, oo_1040, oo_10000, oo_add, oo_mul, oo_sub, oo_lt, oo_le, oo_eq, oo_nat, oo_div, oo_rem, oo_nn, nn_oo, oo_nnlt, nn_oolt, oo_nnle, nn_oole, ↓reduceIte, if_pos, if_neg, or_false, false_or, or_true, true_or, and_true, true_and, and_false, false_and, not_true_eq_false, not_false_eq_true, Nat.not_lt_zero, Bool.false_eq_true, Bool.true_eq_false, Option.bind_some, Option.bind_none, rf_188_1, rf_188_14, rf_188_15, rf_188_16, rf_188_17, rf_188_18, rf_188_19, rf_188_20, rf_188_21, rf_188_22, rf_188_24, rf_188_25, rf_188_26, rf_188_27, rf_188_28, rf_188_31, rf_188_32, rf_188_34, rf_188_35, rf_188_36, rf_188_37, rf_188_38, rf_188_42, rf_188_43, rf_188_51, rf_188_52, rf_188_53, rf_188_55, e, hb, hdn]
                exact u1
              · have e : lpA (fun c => !set.testBit c && (!dnN v c l && RS v k (set ||| 2 ^ c) (opN v c l) x)) (m + 1) c = lpA (fun c => !set.testBit c && (!dnN v c l && RS v k (set ||| 2 ^ c) (opN v c l) x)) m (c + 1) := lpA_f (by simp [hd2])
                exact (u5 x hx).trans (congrArg (fun z : Bool => if z = true then oo 1 else T1.1 202 x) e.symm)
            · have hd3 : dnN v c l = false := by cases hz : dnN v c l with | false => rfl | true => exact absurd hz hd2
              rw [hd3] at hdn
              rw [if_neg hd2]
              have ho := open_n h1.1 hS (c := c) (r := d) (l := l) (by omega) (by omega) h1.2.1
              have hF2 : Fr [(188, 30), (199, 9999), (200, 9999), (202, 9999), (204, 9999)] T1 (sI (blk T1 199 (6 * d + 6) 6 (fun j => oo (opN v c l (j - (6 * d + 6))))) 200 d (oo c)) := Fr.sIr (Fr.blk (Fr.rf _ _) rfl) rfl
              have k30 : (sI (blk T1 199 (6 * d + 6) 6 (fun j => oo (opN v c l (j - (6 * d + 6))))) 200 d (oo c)).1 188 = T1.1 188 := by rw [sI_cell (by decide), blk_cell (by decide)]
              have k204 : (sI (blk T1 199 (6 * d + 6) 6 (fun j => oo (opN v c l (j - (6 * d + 6))))) 200 d (oo c)).1 204 = T1.1 204 := by rw [sI_cell (by decide), blk_cell (by decide)]
              have hT2 : TN v (d + 1) (opN v c l) (upN o d c) (sI (blk T1 199 (6 * d + 6) 6 (fun j => oo (opN v c l (j - (6 * d + 6))))) 200 d (oo c)) := by
                refine ⟨h1.1.cell (hF2.row rfl), fun s hs => ⟨by rw [sI_cell (by decide), blk_in (by omega), show 6 * (d + 1) + s - (6 * d + 6) = s by omega], opN_le hS (by omega) hs (h1.2.1 s hs).2⟩, fun i hi => ?_, by rw [k30]; exact h1.2.2.2⟩
                by_cases hi2 : i = d
                · rw [hi2, sI_same, upN_same]
                · rw [sI_place hi2, upN_ne hi2, blk_cell (by decide)]; exact h1.2.2.1 i (by omega)
              have k199 : ∀ j, j < 6 * d + 6 → (sI (blk T1 199 (6 * d + 6) 6 (fun j => oo (opN v c l (j - (6 * d + 6))))) 200 d (oo c)).1 199 j = T1.1 199 j := fun j hj => by rw [sI_cell (by decide), blk_out (by omega)]
              have k202 : (sI (blk T1 199 (6 * d + 6) 6 (fun j => oo (opN v c l (j - (6 * d + 6))))) 200 d (oo c)).1 202 = T1.1 202 := by rw [sI_cell (by decide), blk_cell (by decide)]
              have hor := bt_or set hset c (by omega)
              have hgo : f_X12_openOn_L58 (rX12_openOn f) 188 (oo d) (oo set) (n + 1) (oo c) T1 = (rX12_openOn f 188 (oo (d + 1)) (oo (set ||| 2 ^ c)) (sI (blk T1 199 (6 * d + 6) 6 (fun j => oo (opN v c l (j - (6 * d + 6))))) 200 d (oo c))).bind (fun S8 => f_X12_openOn_L58 (rX12_openOn f) 188 (oo d) (oo set) n (oo (c + 1)) S8) := by
                simp (disch := omega) only [f_X12_openOn_L58, ↓oo_m1, oo_0, oo_1, oo_2, oo_3, oo_4, oo_5, oo_6, oo_7, oo_8, oo_9, oo_10, oo_12, oo_13, oo_14, oo_15, oo_16, oo_17, oo_18, oo_20, oo_24, oo_30, oo_32, oo_36, oo_40, oo_41, oo_48, oo_50, oo_57, oo_59, oo_60, oo_61, oo_62, oo_63, oo_64, oo_66, oo_72, oo_78, oo_96, oo_97, oo_99, oo_100, oo_101, oo_105, oo_107, oo_108, oo_109, oo_110, oo_111, oo_112, oo_114, oo_115, oo_116, oo_117, oo_119, oo_122, oo_128, oo_130, oo_134, oo_135, oo_136, oo_137, oo_138, oo_139, oo_140, oo_141, oo_142, oo_143, oo_144, oo_145, oo_151, oo_157, oo_194, oo_200, oo_240, oo_255, oo_256, oo_274, oo_276, oo_300, oo_516, oo_900, oo_940, oo_941, oo_999, oo_1000, oo_1040, oo_10000, oo_add, oo_mul, oo_sub, oo_lt, oo_le, oo_eq, oo_nat, oo_div, oo_rem, oo_nn, nn_oo, oo_nnlt, nn_oolt, oo_nnle, nn_oole, ↓reduceIte, if_pos, if_neg, or_false, false_or, or_true, true_or, and_true, true_and, and_false, false_and, not_true_eq_false, not_false_eq_true, Nat.not_lt_zero, Bool.false_eq_true, Bool.true_eq_false, Option.bind_some, Option.bind_none, rf_188_1, rf_188_14, rf_188_15, rf_188_16, rf_188_17, rf_188_18, rf_188_19, rf_188_20, rf_188_21, rf_188_22, rf_188_24, rf_188_25, rf_188_26, rf_188_27, rf_188_28, rf_188_31, rf_188_32, rf_188_34, rf_188_35, rf_188_36, rf_188_37, rf_188_38, rf_188_42, rf_188_43, rf_188_51, rf_188_52, rf_188_53, rf_188_55, ln_200, e, hb, hdn, ho, hor]
              rw [hgo]
              generalize sI (blk T1 199 (6 * d + 6) 6 (fun j => oo (opN v c l (j - (6 * d + 6))))) 200 d (oo c) = T2 at *
              obtain ⟨V, z1, zU⟩ := ih k (d + 1) (set ||| 2 ^ c) (opN v c l) (upN o d c) T2 (by omega) (by omega) (PI_step hP h8 (by omega) ht) hT2
              obtain ⟨z2, z3, z4, z5, z6, z7, z8⟩ := id zU
              have hF3 : Fr [(188, 30), (199, 9999), (200, 9999), (202, 9999), (204, 9999)] T1 V := Fr.trans hF2 z2
              have v161 : ∀ i, i < d → V.1 200 i = oo (o i) := fun i hi => by rw [z3 i (by omega), upN_ne (by omega)]
              have v162 : ∀ j, j < 6 * d + 6 → V.1 199 j = T1.1 199 j := fun j hj => by rw [z4 j (by omega), k199 j hj]
              obtain ⟨U, u1, u2, u3, u4, u5, u6, u7, u8⟩ := ihm (c + 1) n V (by omega) (by omega) (h1.keep hF3 v161 v162 (zU.flag hT2.2.2.2))
              rw [z1, Option.bind_some]
              rw [k30] at z6 z7 z8
              rw [k204] at z6
              refine ⟨U, u1, Fr.trans hF3 u2, u3, fun j hj => by rw [u4 j hj, v162 j hj], fun x hx => ?_, fun q => ?_, fun q hq => ?_, fun q p hp => ?_⟩
              · have ht2 : set.testBit c = false := by cases hz : set.testBit c with | false => rfl | true => exact absurd hz ht
                have e : lpA (fun c => !set.testBit c && (!dnN v c l && RS v k (set ||| 2 ^ c) (opN v c l) x)) (m + 1) c = (RS v k (set ||| 2 ^ c) (opN v c l) x || lpA (fun c => !set.testBit c && (!dnN v c l && RS v k (set ||| 2 ^ c) (opN v c l) x)) m (c + 1)) := by
                  rw [lpA_s]
                  simp [ht2, hd3]
                rw [u5 x hx, z5 x hx, k202]
                exact (ite_or _ _ _ _).trans (congrArg (fun z : Bool => if z = true then oo 1 else T1.1 202 x) e.symm)
              · obtain ⟨q1, q2⟩ := z6 q
                obtain ⟨q3, q4⟩ := u6 q1
                exact ⟨q3, fun i hi => by rw [q4 i hi, q2 i hi]⟩
              · cases hFO : FO v k (d + 1) (set ||| 2 ^ c) (opN v c l) (upN o d c) with
                | some p => rw [hFO] at hq; cases hq
                | none =>
                  rw [hFO] at hq
                  exact u7 (z7 q hFO) hq
              · cases hFO : FO v k (d + 1) (set ||| 2 ^ c) (opN v c l) (upN o d c) with
                | some p2 =>
                  rw [hFO] at hp
                  obtain rfl : p2 = p := Option.some.inj hp
                  obtain ⟨q1, q2⟩ := z8 q p2 hFO
                  obtain ⟨q3, q4⟩ := u6 q1
                  exact ⟨q3, fun i hi => by rw [q4 i (by omega), q2 i hi]⟩
                | none =>
                  rw [hFO] at hp
                  exact u8 (z7 q hFO) p hp
      obtain ⟨U, u1, u2, u3, u4, u5, u6, u7, u8⟩ := hstep (v 193) 0 1000000 (sI T 202 set (oo 1)) (by omega) (by omega) hT0
      rw [h30] at u6 u7 u8
      rw [h204] at u6
      have hFO : FO v (k + 1) d set l o = lpF (fun c => if set.testBit c = true then none else if dnN v c l = true then none else FO v k (d + 1) (set ||| 2 ^ c) (opN v c l) (upN o d c)) (v 193) 0 := rfl
      rw [hFO]
      refine ⟨U, ?_, Fr.trans hF0 u2, u3, fun j hj => by rw [u4 j hj, h199], fun x hx => ?_, u6, u7, u8⟩
      · show f_X12_openOn (rX12_openOn f) 188 (oo d) (oo set) T = _
        simp (disch := omega) only [f_X12_openOn, vp_b1, ↓oo_m1, oo_0, oo_1, oo_2, oo_3, oo_4, oo_5, oo_6, oo_7, oo_8, oo_9, oo_10, oo_12, oo_13, oo_14, oo_15, oo_16, oo_17, oo_18, oo_20, oo_24, oo_30, oo_32, oo_36, oo_40, oo_41, oo_48, oo_50, oo_57, oo_59, oo_60, oo_61, oo_62, oo_63, oo_64, oo_66, oo_72, oo_78, oo_96, oo_97, oo_99, oo_100, oo_101, oo_105, oo_107, oo_108, oo_109, oo_110, oo_111, oo_112, oo_114, oo_115, oo_116, oo_117, oo_119, oo_122, oo_128, oo_130, oo_134, oo_135, oo_136, oo_137, oo_138, oo_139, oo_140, oo_141, oo_142, oo_143, oo_144, oo_145, oo_151, oo_157, oo_194, oo_200, oo_240, oo_255, oo_256, oo_274, oo_276, oo_300, oo_516, oo_900, oo_940, oo_941, oo_999, oo_1000, oo_1040, oo_10000, oo_add, oo_mul, oo_sub, oo_lt, oo_le, oo_eq, oo_nat, oo_div, oo_rem, oo_nn, nn_oo, oo_nnlt, nn_oolt, oo_nnle, nn_oole, ↓reduceIte, if_pos, if_neg, or_false, false_or, or_true, true_or, and_true, true_and, and_false, false_and, not_true_eq_false, not_false_eq_true, Nat.not_lt_zero, Bool.false_eq_true, Bool.true_eq_false, Option.bind_some, Option.bind_none, rf_188_1, rf_188_14, rf_188_15, rf_188_16, rf_188_17, rf_188_18, rf_188_19, rf_188_20, rf_188_21, rf_188_22, rf_188_24, rf_188_25, rf_188_26, rf_188_27, rf_188_28, rf_188_31, rf_188_32, rf_188_34, rf_188_35, rf_188_36, rf_188_37, rf_188_38, rf_188_42, rf_188_43, rf_188_51, rf_188_52, rf_188_53, rf_188_55, ln_202, hC0, u1]
      · rw [u5 x hx, hm0 x hx, RS]
        exact ite_or _ _ _ _
end TN
