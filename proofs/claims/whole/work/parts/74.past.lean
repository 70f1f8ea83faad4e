/-! what depends on a part of v alone -/
theorem HOK.ext {v w : Nat → Nat} (h : HOK v) (e : ∀ k, k < 144 → v k = w k) : HOK w := by
  obtain ⟨⟨b0, b1, b2, b3, b4, b5⟩, a1, a2, a3, a4, a5, a6, a7⟩ := h
  have e0 := e 0 (by decide)
  have e1 := e 1 (by decide)
  have e2 := e 2 (by decide)
  have e3 := e 3 (by decide)
  have e4 := e 4 (by decide)
  have e5 := e 5 (by decide)
  refine ⟨by rw [← e0, ← e1, ← e2, ← e3, ← e4, ← e5]; exact ⟨b0, b1, b2, b3, b4, b5⟩, fun s hs => ?_, fun p s hp hs => ?_, fun k hk => ?_, fun k hk => ?_, fun k hk => ?_, fun k hk => ?_, fun k hk => ?_⟩
  · rw [← e0, ← e _ (by omega)]; exact a1 s hs
  · rw [← e0, ← e _ (by omega)]; exact a2 p s hp hs
  · rw [← e2] at hk
    rw [← e0, ← e1, ← e _ (by omega), ← e _ (by omega), ← e _ (by omega)]; exact a3 k hk
  · rw [← e3] at hk
    rw [← e1, ← e _ (by omega), ← e _ (by omega)]; exact a4 k hk
  · rw [← e4] at hk
    rw [← e3, ← e1, ← e _ (by omega), ← e _ (by omega), ← e _ (by omega)]; exact a5 k hk
  · rw [← e5] at hk
    rw [← e _ (by omega)]; exact a6 k hk
  · rw [← e k hk]; exact a7 k hk
theorem smkN_ext {v w : Nat → Nat} (h : HOK v) (e : ∀ k, k < 144 → v k = w k) {p s : Nat} (hs : s < 6) : ∀ m k, k + m ≤ v 2 → smkN v p s k m = smkN w p s k m := by
  obtain ⟨⟨b0, b1, b2, b3, b4, b5⟩, a1, a2, a3, -⟩ := h
  intro m
  induction m with
  | zero => intro k _; rfl
  | succ m ih =>
    intro k hk
    have h3 := a3 k (by omega)
    rw [smkN, smkN, ih (k + 1) (by omega), ← e (48 + 3 * k) (by omega), ← e (48 + 3 * k + 2) (by omega), ← e (48 + 3 * k + 1) (by omega), ← e (12 + 6 * v (48 + 3 * k + 1) + s) (by omega)]
theorem airN_ext {v w : Nat → Nat} (h : HOK v) (e : ∀ k, k < 144 → v k = w k) {p s : Nat} (hp : p < 6) (hs : s < 6) : airN v p s = airN w p s := by
  unfold airN
  rw [smkN_ext h e hs (v 2) 0 (by omega), e 2 (by decide), e _ (by omega)]
theorem wtN_ext {v w : Nat → Nat} (e : ∀ k, k < 144 → v k = w k) {x t : Nat} : ∀ n, n ≤ 20 → wtN v x t n = wtN w x t n := by
  intro n
  induction n with
  | zero => intro _; rfl
  | succ n ih =>
    intro hn
    rw [wtN, wtN, ih (by omega), e _ (by omega), e _ (by omega), e _ (by omega)]
theorem rnN_ext {v w : Nat → Nat} (e : ∀ k, k < 144 → v k = w k) {t : Nat} : ∀ n, n ≤ 6 → rnN v t n = rnN w t n := by
  intro n
  induction n with
  | zero => intro _; rfl
  | succ n ih =>
    intro hn
    rw [rnN, rnN, ih (by omega), e _ (by omega)]
theorem IsHill.ext {S : XS} {h : Nat} {v w : Nat → Nat} (hh : IsHill S h v) (hO : HOK v) (e : ∀ k, k < 144 → v k = w k) : IsHill S h w := by
  obtain ⟨⟨b0, b1, b2, b3, b4, b5⟩, -⟩ := id hO
  obtain ⟨⟨c0, c1, c2, c3, c4, c5⟩, a1, a2, a3, a4, a5, a6⟩ := hh
  refine ⟨⟨by rw [← e 0 (by decide)]; exact c0, by rw [← e 1 (by decide)]; exact c1, by rw [← e 3 (by decide)]; exact c2, by rw [← e 2 (by decide)]; exact c3, by rw [← e 4 (by decide)]; exact c4, by rw [← e 5 (by decide)]; exact c5⟩, fun s hs => ?_, fun p s hp hs => ?_, fun x hx => ?_, fun x hx => ?_, fun t x ht hx => ?_, fun t ht => ?_⟩
  · rw [← e _ (by omega)]; exact a1 s hs
  · rw [← airN_ext hO e hp hs]; exact a2 p s hp hs
  · rw [← e _ (by omega)]; exact a3 x hx
  · rw [← e _ (by omega)]; exact a4 x hx
  · rw [← e 4 (by decide), ← wtN_ext e (v 4) b4]; exact a5 t x ht hx
  · rw [← e 5 (by decide), ← rnN_ext e (v 5) b5]; exact a6 t ht
theorem NmOK.ext {x y : Nat → Int64} {v w : Nat → Nat} (h : NmOK x y v) (e : ∀ k, k < 144 → v k = w k) : NmOK x y w := by
  obtain ⟨d, hd⟩ := h
  refine ⟨d, fun i hi => ?_⟩
  have : v ([0, 1, 3].getD (i / 6) 0) = w ([0, 1, 3].getD (i / 6) 0) := by
    rcases (show i / 6 = 0 ∨ i / 6 = 1 ∨ i / 6 = 2 by omega) with h | h | h <;> rw [h]
    · exact e 0 (by decide)
    · exact e 1 (by decide)
    · exact e 3 (by decide)
  rw [← this]
  exact hd i hi
theorem postN_ext {v w : Nat → Nat} (e : ∀ k, 274 ≤ k → v k = w k) : ∀ f k, postN v f k = postN w f k := by
  intro f
  induction f with
  | zero => intro k; rfl
  | succ f ih =>
    intro k
    rw [postN, postN, e (276 + 4 * k) (by omega), e (276 + 4 * k + 1) (by omega), e (276 + 4 * k + 2) (by omega), e (276 + 4 * k + 3) (by omega)]
    simp only [ih]
theorem wfN_ext {v w : Nat → Nat} (e : ∀ k, 274 ≤ k → v k = w k) : ∀ f k, wfN v f k = wfN w f k := by
  intro f
  induction f with
  | zero => intro k; rfl
  | succ f ih =>
    intro k
    rw [wfN, wfN, e (276 + 4 * k) (by omega), e (276 + 4 * k + 1) (by omega), e (276 + 4 * k + 2) (by omega), e (276 + 4 * k + 3) (by omega)]
    simp only [ih]
theorem SenOK.ext {S : XS} {h : Nat} {v w : Nat → Nat} (hh : SenOK S h v) (e : ∀ k, 274 ≤ k → v k = w k) : SenOK S h w := by
  unfold SenOK at hh ⊢
  rw [← e 274 (by decide), ← e 275 (by decide), ← postN_ext e, ← wfN_ext e]
  exact hh
/-! the past -/
theorem SOK.c8 {v : Nat → Nat} (h : SOK v) : v 193 ≤ 8 := h.2.2.2.2.1
theorem keep_spec {S : XS} {v : Nat → Nat} {q m : Nat} (hW : IsWd S 28 v) (h8 : v 193 ≤ 8) (hq : q < 8) (hm : m ≤ 8) (e8 : S.1 0 8 = oo q) (e9 : S.1 0 9 = oo m) : ∃ T, f_X11_keepPast 0 S = some T ∧ T.1 0 8 = oo ((q + 1) % 8) ∧ T.1 0 9 = oo (min 8 (m + 1)) ∧ IsWd T (47 + 8 * q) v ∧ Fr (rows (47 + 8 * q) 8 ++ [(0, 8), (0, 9)]) S T := by
  obtain ⟨w1, w2⟩ := wd_past q hq
  have h1 := cpW_is w1 wd_28 (by omega) hW h8
  have h2 := cpW_fr (S := S) w1 wd_28 (by omega)
  have h3 := (h2.row (c := 0) (rows_out (by omega)))
  have f8 : (t_X10_copyFrom (47 + 8 * q) 28 S).1 0 8 = oo q := by rw [h3]; exact e8
  have f9 : (t_X10_copyFrom (47 + 8 * q) 28 S).1 0 9 = oo m := by rw [h3]; exact e9
  refine ⟨sI (sI (t_X10_copyFrom (47 + 8 * q) 28 S) 0 8 (oo ((q + 1) % 8))) 0 9 (oo (min 8 (m + 1))), ?_, ?_, ?_, ?_, ?_⟩
  · simp (disch := omega) only [f_X11_keepPast, ↓oo_m1, oo_0, oo_1, oo_2, oo_3, oo_4, oo_5, oo_6, oo_7, oo_8, oo_9, oo_10, oo_12, oo_13, oo_14, oo_15, oo_16, oo_17, oo_18, oo_20, oo_24, oo_30, oo_32, oo_36, oo_40, oo_41, oo_48, oo_50, oo_57, oo_59, oo_60, oo_61, oo_62, oo_63, oo_64, oo_66, oo_72, oo_78, oo_96, oo_97, oo_99, oo_100, oo_101, oo_105, oo_107, oo_108, oo_109, oo_110, oo_111, oo_112, oo_114, oo_115, oo_116, oo_117, oo_119, oo_122, oo_128, oo_130, oo_134, oo_135, oo_136, oo_137, oo_138, oo_139, oo_140, oo_141, oo_142, oo_143, oo_144, oo_145, oo_151, oo_157, oo_194, oo_200, oo_240, oo_255, oo_256, oo_274, oo_276, oo_300, oo_516, oo_900, oo_940, oo_941, oo_999, oo_1000, oo_1040, oo_10000, oo_add, oo_mul, oo_sub, oo_lt, oo_le, oo_eq, oo_nat, oo_div, oo_rem, oo_nn, nn_oo, oo_nnlt, nn_oolt, oo_nnle, nn_oole, ↓reduceIte, if_pos, if_neg, or_false, false_or, or_true, true_or, and_true, true_and, and_false, false_and, not_true_eq_false, not_false_eq_true, Nat.not_lt_zero, Bool.false_eq_true, Bool.true_eq_false, Option.bind_some, Option.bind_none, rf_0_0, rf_0_1, rf_0_2, rf_0_3, rf_0_4, rf_0_5, rf_0_6, rf_0_7, rf_0_10, rf_0_11, rf_0_12, rf_0_13, rf_0_14, rf_0_15, rf_0_16, rf_0_17, rf_0_18, ln_46, e8, w2, f8, f9, sI_same, sI_place, sI_cell, sI_long, sL_int, sL_same, sL_place, sL_cell]
    by_cases h : m + 1 < 8
    · rw [if_pos h, Nat.min_eq_right (by omega)]
    · rw [if_neg h, Nat.min_eq_left (by omega)]
  · simp (disch := omega) only [sI_same, sI_place, sI_cell, sI_long, sL_int, sL_same, sL_place, sL_cell]
  · simp (disch := omega) only [sI_same, sI_place, sI_cell, sI_long, sL_int, sL_same, sL_place, sL_cell]
  · refine h1.eq (fun j h1 h2 => ?_) ?_ ?_
    · simp (disch := omega) only [sI_same, sI_place, sI_cell, sI_long, sL_int, sL_same, sL_place, sL_cell]
    · simp (disch := omega) only [sI_same, sI_place, sI_cell, sI_long, sL_int, sL_same, sL_place, sL_cell]
    · simp (disch := omega) only [sI_same, sI_place, sI_cell, sI_long, sL_int, sL_same, sL_place, sL_cell]
  · exact Fr.sIp (Fr.sIp (h2.appL (l2 := [(0, 8), (0, 9)])) (by simp)) (by simp)
theorem snap_spec {S : XS} {v sn : Nat → Nat} {m : Nat} (hN : IsC S 190 516 v) (hS : IsC S 193 1040 sn) (hm : m ≤ 8) (e : S.1 188 23 = oo m) : ∃ T sn', f_X12_snap 188 S = some T ∧ T.1 188 23 = oo (min 8 (m + 1)) ∧ IsC T 193 1040 sn' ∧ (∀ j k, j < min 8 (m + 1) - 1 → k < 130 → sn' (130 * j + k) = sn (130 * (j + (m + 1 - min 8 (m + 1))) + k)) ∧ (∀ k, k < 130 → sn' (130 * (min 8 (m + 1) - 1) + k) = v (144 + k)) ∧ Fr [(193, 9999), (188, 23)] S T := by
  have main : ∀ (S1 : XS) (s1 : Nat → Nat) (m1 : Nat), m1 ≤ 7 → S1.1 188 23 = oo m1 → IsC S1 190 516 v → IsC S1 193 1040 s1 → ∃ T, ((f_X12_snap_L54 188 1000000 (oo 0) S1).bind (fun S5 => some (sI S5 188 23 ((S5.1 188 23) + oo 1)))) = some T ∧ T.1 188 23 = oo (m1 + 1) ∧ IsC T 193 1040 (fun j => if 130 * m1 ≤ j ∧ j < 130 * m1 + 130 then v (144 + (j - 130 * m1)) else s1 j) ∧ Fr [(193, 9999), (188, 23)] S1 T := by
    intro S1 s1 m1 h1 h2 h3 h4
    have hl := loop_blk (L := f_X12_snap_L54 188) (a := 193) (lo := 130 * m1) (st := 0) (m := 130) (f := fun j => S1.1 190 (144 + (j - 130 * m1))) (S := S1) (R := some (blk S1 193 (130 * m1) 130 (fun j => S1.1 190 (144 + (j - 130 * m1))))) (fun n k hk => by
      simp (disch := omega) only [f_X12_snap_L54, ↓oo_m1, oo_0, oo_1, oo_2, oo_3, oo_4, oo_5, oo_6, oo_7, oo_8, oo_9, oo_10, oo_12, oo_13, oo_14, oo_15, oo_16, oo_17, oo_18, oo_20, oo_24, oo_30, oo_32, oo_36, oo_40, oo_41, oo_48, oo_50, oo_57, oo_59, oo_60, oo_61, oo_62, oo_63, oo_64, oo_66, oo_72, oo_78, oo_96, oo_97, oo_99, oo_100, oo_101, oo_105, oo_107, oo_108, oo_109, oo_110, oo_111, oo_112, oo_114, oo_115, oo_116, oo_117, oo_119, oo_122, oo_128, oo_130, oo_134, oo_135, oo_136, oo_137, oo_138, oo_139, oo_140, oo_141, oo_142, oo_143, oo_144, oo_145, oo_151, oo_157, oo_194, oo_200, oo_240, oo_255, oo_256, oo_274, oo_276, oo_300, oo_516, oo_900, oo_940, oo_941, oo_999, oo_1000, oo_1040, oo_10000, oo_add, oo_mul, oo_sub, oo_lt, oo_le, oo_eq, oo_nat, oo_div, oo_rem, oo_nn, nn_oo, oo_nnlt, nn_oolt, oo_nnle, nn_oole, ↓reduceIte, if_pos, if_neg, or_false, false_or, or_true, true_or, and_true, true_and, and_false, false_and, not_true_eq_false, not_false_eq_true, Nat.not_lt_zero, Bool.false_eq_true, Bool.true_eq_false, rf_188_1, rf_188_14, rf_188_15, rf_188_16, rf_188_17, rf_188_18, rf_188_19, rf_188_20, rf_188_21, rf_188_22, rf_188_24, rf_188_25, rf_188_26, rf_188_27, rf_188_28, rf_188_31, rf_188_32, rf_188_34, rf_188_35, rf_188_36, rf_188_37, rf_188_38, rf_188_42, rf_188_43, rf_188_51, rf_188_52, rf_188_53, rf_188_55, ln_190, ln_193, blk_cell, h2, Nat.zero_add, Nat.add_sub_cancel_left]) (fun n => by
      simp (disch := omega) only [f_X12_snap_L54, ↓oo_m1, oo_0, oo_1, oo_2, oo_3, oo_4, oo_5, oo_6, oo_7, oo_8, oo_9, oo_10, oo_12, oo_13, oo_14, oo_15, oo_16, oo_17, oo_18, oo_20, oo_24, oo_30, oo_32, oo_36, oo_40, oo_41, oo_48, oo_50, oo_57, oo_59, oo_60, oo_61, oo_62, oo_63, oo_64, oo_66, oo_72, oo_78, oo_96, oo_97, oo_99, oo_100, oo_101, oo_105, oo_107, oo_108, oo_109, oo_110, oo_111, oo_112, oo_114, oo_115, oo_116, oo_117, oo_119, oo_122, oo_128, oo_130, oo_134, oo_135, oo_136, oo_137, oo_138, oo_139, oo_140, oo_141, oo_142, oo_143, oo_144, oo_145, oo_151, oo_157, oo_194, oo_200, oo_240, oo_255, oo_256, oo_274, oo_276, oo_300, oo_516, oo_900, oo_940, oo_941, oo_999, oo_1000, oo_1040, oo_10000, oo_add, oo_mul, oo_sub, oo_lt, oo_le, oo_eq, oo_nat, oo_div, oo_rem, oo_nn, nn_oo, oo_nnlt, nn_oolt, oo_nnle, nn_oole, ↓reduceIte, if_pos, if_neg, or_false, false_or, or_true, true_or, and_true, true_and, and_false, false_and, not_true_eq_false, not_false_eq_true, Nat.not_lt_zero, Bool.false_eq_true, Bool.true_eq_false]) 1000000 (by decide)
    refine ⟨sI (blk S1 193 (130 * m1) 130 (fun j => S1.1 190 (144 + (j - 130 * m1)))) 188 23 (oo (m1 + 1)), ?_, ?_, fun j hj => ?_, Fr.sIp (Fr.blk (Fr.rf _ _) rfl) rfl⟩
    · simp (disch := omega) only [hl, Option.bind_some, Option.bind_none, blk_cell, h2, ↓oo_m1, oo_0, oo_1, oo_2, oo_3, oo_4, oo_5, oo_6, oo_7, oo_8, oo_9, oo_10, oo_12, oo_13, oo_14, oo_15, oo_16, oo_17, oo_18, oo_20, oo_24, oo_30, oo_32, oo_36, oo_40, oo_41, oo_48, oo_50, oo_57, oo_59, oo_60, oo_61, oo_62, oo_63, oo_64, oo_66, oo_72, oo_78, oo_96, oo_97, oo_99, oo_100, oo_101, oo_105, oo_107, oo_108, oo_109, oo_110, oo_111, oo_112, oo_114, oo_115, oo_116, oo_117, oo_119, oo_122, oo_128, oo_130, oo_134, oo_135, oo_136, oo_137, oo_138, oo_139, oo_140, oo_141, oo_142, oo_143, oo_144, oo_145, oo_151, oo_157, oo_194, oo_200, oo_240, oo_255, oo_256, oo_274, oo_276, oo_300, oo_516, oo_900, oo_940, oo_941, oo_999, oo_1000, oo_1040, oo_10000, oo_add, oo_mul, oo_sub, oo_lt, oo_le, oo_eq, oo_nat, oo_div, oo_rem, oo_nn, nn_oo, oo_nnlt, nn_oolt, oo_nnle, nn_oole]
    · simp (disch := omega) only [sI_same, sI_place, sI_cell, sI_long, sL_int, sL_same, sL_place, sL_cell]
    · simp (disch := omega) only [sI_same, sI_place, sI_cell, sI_long, sL_int, sL_same, sL_place, sL_cell]
      by_cases h : 130 * m1 ≤ j ∧ j < 130 * m1 + 130
      · rw [blk_in h, if_pos h]
        exact h3 _ (by omega)
      · rw [blk_out (by omega), if_neg h]
        exact h4 j hj
  by_cases h8 : m = 8
  · subst h8
    have hl := loop_blk (L := f_X12_snap_L13 188) (a := 193) (lo := 0) (st := 130) (m := 910) (f := fun j => S.1 193 (j + 130)) (S := S) (R := some (blk S 193 0 910 (fun j => S.1 193 (j + 130)))) (fun n k hk => by
      simp (disch := omega) only [f_X12_snap_L13, ↓oo_m1, oo_0, oo_1, oo_2, oo_3, oo_4, oo_5, oo_6, oo_7, oo_8, oo_9, oo_10, oo_12, oo_13, oo_14, oo_15, oo_16, oo_17, oo_18, oo_20, oo_24, oo_30, oo_32, oo_36, oo_40, oo_41, oo_48, oo_50, oo_57, oo_59, oo_60, oo_61, oo_62, oo_63, oo_64, oo_66, oo_72, oo_78, oo_96, oo_97, oo_99, oo_100, oo_101, oo_105, oo_107, oo_108, oo_109, oo_110, oo_111, oo_112, oo_114, oo_115, oo_116, oo_117, oo_119, oo_122, oo_128, oo_130, oo_134, oo_135, oo_136, oo_137, oo_138, oo_139, oo_140, oo_141, oo_142, oo_143, oo_144, oo_145, oo_151, oo_157, oo_194, oo_200, oo_240, oo_255, oo_256, oo_274, oo_276, oo_300, oo_516, oo_900, oo_940, oo_941, oo_999, oo_1000, oo_1040, oo_10000, oo_add, oo_mul, oo_sub, oo_lt, oo_le, oo_eq, oo_nat, oo_div, oo_rem, oo_nn, nn_oo, oo_nnlt, nn_oolt, oo_nnle, nn_oole, ↓reduceIte, if_pos, if_neg, or_false, false_or, or_true, true_or, and_true, true_and, and_false, false_and, not_true_eq_false, not_false_eq_true, Nat.not_lt_zero, Bool.false_eq_true, Bool.true_eq_false, rf_188_1, rf_188_14, rf_188_15, rf_188_16, rf_188_17, rf_188_18, rf_188_19, rf_188_20, rf_188_21, rf_188_22, rf_188_24, rf_188_25, rf_188_26, rf_188_27, rf_188_28, rf_188_31, rf_188_32, rf_188_34, rf_188_35, rf_188_36, rf_188_37, rf_188_38, rf_188_42, rf_188_43, rf_188_51, rf_188_52, rf_188_53, rf_188_55, ln_193, blk_out, Nat.zero_add, Nat.add_sub_cancel_left, Nat.add_sub_cancel, Nat.add_comm 130 k]) (fun n => by
      simp (disch := omega) only [f_X12_snap_L13, ↓oo_m1, oo_0, oo_1, oo_2, oo_3, oo_4, oo_5, oo_6, oo_7, oo_8, oo_9, oo_10, oo_12, oo_13, oo_14, oo_15, oo_16, oo_17, oo_18, oo_20, oo_24, oo_30, oo_32, oo_36, oo_40, oo_41, oo_48, oo_50, oo_57, oo_59, oo_60, oo_61, oo_62, oo_63, oo_64, oo_66, oo_72, oo_78, oo_96, oo_97, oo_99, oo_100, oo_101, oo_105, oo_107, oo_108, oo_109, oo_110, oo_111, oo_112, oo_114, oo_115, oo_116, oo_117, oo_119, oo_122, oo_128, oo_130, oo_134, oo_135, oo_136, oo_137, oo_138, oo_139, oo_140, oo_141, oo_142, oo_143, oo_144, oo_145, oo_151, oo_157, oo_194, oo_200, oo_240, oo_255, oo_256, oo_274, oo_276, oo_300, oo_516, oo_900, oo_940, oo_941, oo_999, oo_1000, oo_1040, oo_10000, oo_add, oo_mul, oo_sub, oo_lt, oo_le, oo_eq, oo_nat, oo_div, oo_rem, oo_nn, nn_oo, oo_nnlt, nn_oolt, oo_nnle, nn_oole, ↓reduceIte, if_pos, if_neg, or_false, false_or, or_true, true_or, and_true, true_and, and_false, false_and, not_true_eq_false, not_false_eq_true, Nat.not_lt_zero, Bool.false_eq_true, Bool.true_eq_false]) 1000000 (by decide)
    obtain ⟨T, g1, g2, g3, g4⟩ := main (sI (blk S 193 0 910 (fun j => S.1 193 (j + 130))) 188 23 (oo 7)) (fun j => if j < 910 then sn (j + 130) else sn j) 7 (by decide) (by simp (disch := omega) only [sI_same, sI_place, sI_cell, sI_long, sL_int, sL_same, sL_place, sL_cell]) (hN.cell (by simp (disch := omega) only [sI_same, sI_place, sI_cell, sI_long, sL_int, sL_same, sL_place, sL_cell, blk_cell])) (fun j hj => by
      simp (disch := omega) only [sI_same, sI_place, sI_cell, sI_long, sL_int, sL_same, sL_place, sL_cell]
      by_cases h : j < 910
      · rw [blk_in (by omega), if_pos h]
        exact hS _ (by omega)
      · rw [blk_out (by omega), if_neg h]
        exact hS j hj)
    refine ⟨T, _, ?_, g2, g3, fun j k hj hk => ?_, fun k hk => ?_, Fr.trans (Fr.sIp (Fr.blk (Fr.rf _ _) rfl) rfl) g4⟩
    · simp (disch := omega) only [f_X12_snap, ↓oo_m1, oo_0, oo_1, oo_2, oo_3, oo_4, oo_5, oo_6, oo_7, oo_8, oo_9, oo_10, oo_12, oo_13, oo_14, oo_15, oo_16, oo_17, oo_18, oo_20, oo_24, oo_30, oo_32, oo_36, oo_40, oo_41, oo_48, oo_50, oo_57, oo_59, oo_60, oo_61, oo_62, oo_63, oo_64, oo_66, oo_72, oo_78, oo_96, oo_97, oo_99, oo_100, oo_101, oo_105, oo_107, oo_108, oo_109, oo_110, oo_111, oo_112, oo_114, oo_115, oo_116, oo_117, oo_119, oo_122, oo_128, oo_130, oo_134, oo_135, oo_136, oo_137, oo_138, oo_139, oo_140, oo_141, oo_142, oo_143, oo_144, oo_145, oo_151, oo_157, oo_194, oo_200, oo_240, oo_255, oo_256, oo_274, oo_276, oo_300, oo_516, oo_900, oo_940, oo_941, oo_999, oo_1000, oo_1040, oo_10000, oo_add, oo_mul, oo_sub, oo_lt, oo_le, oo_eq, oo_nat, oo_div, oo_rem, oo_nn, nn_oo, oo_nnlt, nn_oolt, oo_nnle, nn_oole, ↓reduceIte, if_pos, if_neg, or_false, false_or, or_true, true_or, and_true, true_and, and_false, false_and, not_true_eq_false, not_false_eq_true, Nat.not_lt_zero, Bool.false_eq_true, Bool.true_eq_false, Option.bind_some, Option.bind_none, e, hl, blk_cell]
      exact g1
    · have hj : j < 7 := hj
      have e2 : min 8 (8 + 1) = 8 := rfl
      rw [e2]
      rw [if_neg (by omega), if_pos (by omega)]
      exact congrArg sn (by omega)
    · have e2 : min 8 (8 + 1) - 1 = 7 := rfl
      rw [e2]
      rw [if_pos (by omega)]
      exact congrArg v (by omega)
  · obtain ⟨T, g1, g2, g3, g4⟩ := main S sn m (by omega) e hN hS
    have e2 : min 8 (m + 1) = m + 1 := Nat.min_eq_right (by omega)
    rw [e2]
    refine ⟨T, _, ?_, g2, g3, fun j k hj hk => ?_, fun k hk => ?_, g4⟩
    · simp (disch := omega) only [f_X12_snap, ↓oo_m1, oo_0, oo_1, oo_2, oo_3, oo_4, oo_5, oo_6, oo_7, oo_8, oo_9, oo_10, oo_12, oo_13, oo_14, oo_15, oo_16, oo_17, oo_18, oo_20, oo_24, oo_30, oo_32, oo_36, oo_40, oo_41, oo_48, oo_50, oo_57, oo_59, oo_60, oo_61, oo_62, oo_63, oo_64, oo_66, oo_72, oo_78, oo_96, oo_97, oo_99, oo_100, oo_101, oo_105, oo_107, oo_108, oo_109, oo_110, oo_111, oo_112, oo_114, oo_115, oo_116, oo_117, oo_119, oo_122, oo_128, oo_130, oo_134, oo_135, oo_136, oo_137, oo_138, oo_139, oo_140, oo_141, oo_142, oo_143, oo_144, oo_145, oo_151, oo_157, oo_194, oo_200, oo_240, oo_255, oo_256, oo_274, oo_276, oo_300, oo_516, oo_900, oo_940, oo_941, oo_999, oo_1000, oo_1040, oo_10000, oo_add, oo_mul, oo_sub, oo_lt, oo_le, oo_eq, oo_nat, oo_div, oo_rem, oo_nn, nn_oo, oo_nnlt, nn_oolt, oo_nnle, nn_oole, ↓reduceIte, if_pos, if_neg, or_false, false_or, or_true, true_or, and_true, true_and, and_false, false_and, not_true_eq_false, not_false_eq_true, Nat.not_lt_zero, Bool.false_eq_true, Bool.true_eq_false, Option.bind_some, Option.bind_none, e]
      exact g1
    · rw [if_neg (by omega), Nat.sub_self, Nat.add_zero]
    · rw [if_pos (by omega)]
      exact congrArg v (by omega)
/-- the past with one more act -/
theorem RPast.push {S T : XS} {v w sn sn' : Nat → Nat} {q m : Nat} (hS : SOK v) (hO : HOK v) (hm : m ≤ 8) (hq : q < 8) (hold : ∀ j, j < m → SOK (snv v sn j) ∧ IsWd S (47 + 8 * ((q + 8 - m + j) % 8)) (snv v sn j)) (e8 : T.1 0 8 = oo ((q + 1) % 8)) (e9 : T.1 0 9 = oo (min 8 (m + 1))) (e23 : T.1 188 23 = oo (min 8 (m + 1))) (hsn : IsC T 193 1040 sn') (h1 : ∀ j k, j < min 8 (m + 1) - 1 → k < 130 → sn' (130 * j + k) = sn (130 * (j + (m + 1 - min 8 (m + 1))) + k)) (h2 : ∀ k, k < 130 → sn' (130 * (min 8 (m + 1) - 1) + k) = v (144 + k)) (hw : IsWd T (47 + 8 * q) v) (hF : ∀ c, 47 ≤ c → c < 111 → (c < 47 + 8 * q ∨ 47 + 8 * q + 8 ≤ c) → T.1 c = S.1 c) (e : ∀ k, k < 144 → v k = w k) : RPast T w := by
  refine ⟨min 8 (m + 1), (q + 1) % 8, sn', by omega, by omega, e23, e9, e8, hsn, fun j hj => ?_⟩
  by_cases hl : j = min 8 (m + 1) - 1
  · have hx : (q + 1) % 8 + 8 - min 8 (m + 1) + j = (q + 1) % 8 + 7 := by omega
    rw [hx, show ((q + 1) % 8 + 7) % 8 = q by omega]
    have ex : ∀ k, k < 274 → v k = snv w sn' j k := fun k hk => by
      unfold snv
      by_cases h : k < 144
      · rw [if_pos h]; exact e k h
      · rw [if_neg h, hl, h2 _ (by omega)]
        exact congrArg v (by omega)
    exact ⟨hS.ext hO ex, hw.ext (fun k h3 h4 => ex k h4) hS.c8⟩
  · obtain ⟨g1, g2⟩ := hold (j + (m + 1 - min 8 (m + 1))) (by omega)
    have ex : ∀ k, k < 274 → snv v sn (j + (m + 1 - min 8 (m + 1))) k = snv w sn' j k := fun k hk => by
      unfold snv
      by_cases h : k < 144
      · rw [if_pos h, if_pos h]; exact e k h
      · rw [if_neg h, if_neg h, h1 j _ (by omega) (by omega)]
    have hx : ((q + 1) % 8 + 8 - min 8 (m + 1) + j) % 8 = (q + 8 - m + (j + (m + 1 - min 8 (m + 1)))) % 8 := by omega
    have hne : (q + 8 - m + (j + (m + 1 - min 8 (m + 1)))) % 8 ≠ q := by omega
    rw [hx]
    generalize hr : (q + 8 - m + (j + (m + 1 - min 8 (m + 1)))) % 8 = r at g2 hne
    have hr8 : r < 8 := by omega
    refine ⟨g1.ext (hO.ext (fun k hk => by unfold snv; rw [if_pos hk])) ex, (g2.eq (fun j h3 h4 => hF _ (by omega) (by omega) (by omega)) (by rw [hF _ (by omega) (by omega) (by omega)]) (by rw [hF _ (by omega) (by omega) (by omega)])).ext (fun k h3 h4 => ex k h4) g1.c8⟩
