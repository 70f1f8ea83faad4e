theorem Fr.mono2 {l l' : List (Nat × Nat)} {S T : XS} (h : Fr l S T) (hs : l.all (fun q => l'.contains q || l'.contains (q.1, 9999)) = true) : Fr l' S T := fun c j hc => h c j (by
  unfold tch at hc ⊢
  rw [List.any_eq_false] at hc ⊢
  intro q hq
  have h1 := List.all_eq_true.mp hs q hq
  rw [Bool.or_eq_true] at h1
  rcases h1 with h1 | h1
  · exact hc q (List.contains_iff_mem.mp h1)
  · have h2 := hc _ (List.contains_iff_mem.mp h1)
    intro h3
    refine h2 ?_
    simp at h3 ⊢
    exact h3.1)
section PC
variable {S : XS} {v : Nat → Nat}
/-- behind the first k witnesses: places, coats -/
def cX (v : Nat → Nat) (wet k c s : Nat) : Nat := if weN v c 0 (v 3) ≠ 0 ∧ weN v c 0 (v 3) ≤ k then pnN v wet (157 + 6 * c + s) else v (157 + 6 * c + s)
def pX (v : Nat → Nat) (k i : Nat) : Nat := if i < k then whN v i (v 144 + 1) (v 4) else v (145 + i)
theorem hrN_0 (hO : HOK v) {c h wet p s : Nat} (hp : p < 6) (hs : s < 6) (h0 : v 0 ≤ s) : hrN v c h wet p 0 s = 0 := by
  unfold hrN
  rw [airN_0 hO hp hs h0, Nat.zero_sub]
  rfl
theorem witn_c (hO : HOK v) (hS : SOK v) {b : Bool} {wet : Nat} (hwet : wet = if b = true then 2 else 0) : ∀ m k n T, k + m = v 3 → m < n → IsHill T 7 v → T.1 28 0 = oo (v 144 + 1) → (∀ i, i < 6 → T.1 29 i = oo (pX v k i)) → (∀ i, i < 6 → T.1 30 i = oo (v (151 + i))) → (∀ c s, c < 6 → s < 6 → T.1 31 (c * 6 + s) = oo (cX v wet k c s)) → ∃ U, f_X10_passHour_L34 b 28 7 n (oo k) T = some U ∧ (∀ i, i < 6 → U.1 29 i = oo (pX v (v 3) i)) ∧ (∀ c s, c < 6 → s < 6 → U.1 31 (c * 6 + s) = oo (cX v wet (v 3) c s)) ∧ Fr [(29, 9999), (31, 9999)] T U := by
  obtain ⟨⟨b0, b1, b2, b3, b4, b5⟩, hf, -, -, hkp, -, -, -⟩ := id hO
  have h999 := hS.1
  intro m
  induction m with
  | zero =>
    intro k n T hk hn hH h28 h29 h30 h31
    obtain ⟨n, rfl⟩ : ∃ n', n = n' + 1 := ⟨n - 1, by omega⟩
    obtain rfl : k = v 3 := by omega
    exact ⟨T, by simp (disch := omega) only [f_X10_passHour_L34, ↓oo_m1, oo_0, oo_1, oo_2, oo_3, oo_4, oo_5, oo_6, oo_7, oo_8, oo_9, oo_10, oo_12, oo_13, oo_14, oo_15, oo_16, oo_17, oo_18, oo_20, oo_24, oo_30, oo_32, oo_36, oo_40, oo_41, oo_48, oo_50, oo_57, oo_59, oo_60, oo_61, oo_62, oo_63, oo_64, oo_66, oo_72, oo_78, oo_96, oo_97, oo_99, oo_100, oo_101, oo_105, oo_107, oo_108, oo_109, oo_110, oo_111, oo_112, oo_114, oo_115, oo_116, oo_117, oo_119, oo_122, oo_128, oo_130, oo_134, oo_135, oo_136, oo_137, oo_138, oo_139, oo_140, oo_141, oo_142, oo_143, oo_144, oo_145, oo_151, oo_157, oo_194, oo_200, oo_240, oo_255, oo_256, oo_274, oo_276, oo_300, oo_516, oo_900, oo_940, oo_941, oo_999, oo_1000, oo_1040, oo_10000, oo_add, oo_mul, oo_sub, oo_lt, oo_le, oo_eq, oo_nat, oo_div, oo_rem, oo_nn, nn_oo, oo_nnlt, nn_oolt, oo_nnle, nn_oole, ↓reduceIte, if_pos, if_neg, or_false, false_or, or_true, true_or, and_true, true_and, and_false, false_and, not_true_eq_false, not_false_eq_true, Nat.not_lt_zero, Bool.false_eq_true, Bool.true_eq_false, rf_7_0, rf_7_1, rf_7_2, rf_7_3, rf_7_4, rf_7_5, rf_7_6, rf_7_7, g_8, p_8, hH.n2], h29, h31, Fr.rf _ _⟩
  | succ m ih =>
    intro k n T hk hn hH h28 h29 h30 h31
    obtain ⟨n, rfl⟩ : ∃ n', n = n' + 1 := ⟨n - 1, by omega⟩
    obtain ⟨q1, q2⟩ := hS.2.1 k (by omega)
    obtain ⟨g1, g2, g3⟩ := hkp (v (151 + k)) q2
    have hwt := went_c hH hO (h := v 144 + 1) (w := k) (by omega) (by omega)
    have hle := wtN_le hO (w := k) (t := v 144 + 1) (v 4) (Nat.le_refl _)
    have hwh := whN_lt hO hS (w := k) (t := v 144 + 1) (by omega)
    have hwe := we_of hS (show k < v 3 by omega)
    have key : ∀ T1 : XS, Fr [(29, 9999)] T T1 → (∀ i, i < 6 → T1.1 29 i = oo (pX v (k + 1) i)) → ∃ T2 U, f_X2_passHour 7 31 (oo (v (151 + k))) (oo (v (151 + k))) (oo (v 144 + 1)) b (oo (whN v k (v 144 + 1) (v 4))) T1 = some T2 ∧ f_X10_passHour_L34 b 28 7 n (oo (k + 1)) T2 = some U ∧ (∀ i, i < 6 → U.1 29 i = oo (pX v (v 3) i)) ∧ (∀ c s, c < 6 → s < 6 → U.1 31 (c * 6 + s) = oo (cX v wet (v 3) c s)) ∧ Fr [(29, 9999), (31, 9999)] T1 U := by
      intro T1 hF h29'
      have hH1 := hH.fr hF rfl
      have hrow : ∀ s, s < 6 → T1.1 31 (v (151 + k) * 6 + s) = oo (v (157 + 6 * v (151 + k) + s)) ∧ v (157 + 6 * v (151 + k) + s) ≤ 1000 := fun s hs => by
        rw [hF.row (c := 31) rfl, h31 _ s (by omega) hs]
        unfold cX
        rw [hwe, if_neg (by omega)]
        have := (hS.2.2.2.1 (v (151 + k)) s (by omega) hs).1
        exact ⟨rfl, by omega⟩
      have hhr := hour_c (b := b) (x := fun s => v (157 + 6 * v (151 + k) + s)) hH1 hO ln_31 (by decide) (by decide) (show v (151 + k) * 6 + 6 ≤ 36 by omega) (show v (151 + k) < 6 by omega) g1 g2 (show whN v k (v 144 + 1) (v 4) < 6 by omega) (show v 144 + 1 ≤ 2000 by omega) hrow
      have hF2 : Fr [(31, 9999)] T1 (blk T1 31 (v (151 + k) * 6) 6 (fun j => oo (hrN v (v (151 + k)) (v 144 + 1) (if b = true then 2 else 0) (whN v k (v 144 + 1) (v 4)) (v (157 + 6 * v (151 + k) + (j - v (151 + k) * 6))) (j - v (151 + k) * 6)))) := Fr.blk (Fr.rf _ _) rfl
      generalize hT2 : blk T1 31 (v (151 + k) * 6) 6 (fun j => oo (hrN v (v (151 + k)) (v 144 + 1) (if b = true then 2 else 0) (whN v k (v 144 + 1) (v 4)) (v (157 + 6 * v (151 + k) + (j - v (151 + k) * 6))) (j - v (151 + k) * 6))) = T2 at hhr hF2
      obtain ⟨U, u1, u2, u3, u4⟩ := ih (k + 1) n T2 (by omega) (by omega) (hH1.fr hF2 rfl) (by rw [hF2.row (c := 28) rfl, hF.row (c := 28) rfl]; exact h28) (fun i hi => by rw [hF2.row (c := 29) rfl]; exact h29' i hi) (fun i hi => by rw [hF2.row (c := 30) rfl, hF.row (c := 30) rfl]; exact h30 i hi) (fun c s hc hs => by
        rw [← hT2]
        unfold cX
        by_cases h : c = v (151 + k)
        · subst h
          rw [blk_in (by omega), hwe, if_pos (show k + 1 ≠ 0 ∧ k + 1 ≤ k + 1 from ⟨by omega, Nat.le_refl _⟩), Nat.add_sub_cancel_left, ← hwet]
          by_cases h0 : v 0 ≤ s
          · rw [pnN_cto (.inr h0) hc hs]
            have hz := (hS.2.2.2.1 (v (151 + k)) s hc hs).2 h0
            rw [hz, hrN_0 hO (by omega) hs h0]
          · rw [pnN_ct q2 b3 (by omega) b0, hwe, Nat.add_sub_cancel]
        · rw [blk_out (by omega), hF.row (c := 31) rfl, h31 c s hc hs]
          unfold cX
          have hne : weN v c 0 (v 3) ≠ k + 1 := fun q => by
            have := weN_wears v c (v 3) 0 (by rw [q]; omega)
            rw [q, Nat.add_sub_cancel] at this
            exact h this.symm
          by_cases h2 : weN v c 0 (v 3) ≠ 0 ∧ weN v c 0 (v 3) ≤ k
          · rw [if_pos h2, if_pos (by omega)]
          · rw [if_neg h2, if_neg (by omega)])
      exact ⟨T2, U, hhr, u1, u2, u3, Fr.trans (hF2.mono rfl) u4⟩
    by_cases hz : wtN v k (v 144 + 1) (v 4) = 0
    · obtain ⟨T2, U, x1, x2, x3, x4, x5⟩ := key T (Fr.rf _ _) (fun i hi => by
        rw [h29 i hi]
        unfold pX
        by_cases h : i < k
        · rw [if_pos h, if_pos (by omega)]
        · rw [if_neg h]
          by_cases h2 : i = k
          · rw [if_pos (by omega), h2]
            unfold whN
            rw [if_pos hz]
          · rw [if_neg (by omega)])
      refine ⟨U, ?_, x3, x4, x5⟩
      have hw0 : whN v k (v 144 + 1) (v 4) = v (145 + k) := by unfold whN; rw [if_pos hz]
      rw [hw0] at x1
      have h29k : gat T 29 (oo k) = oo (v (145 + k)) := by
        rw [g_29 (by omega), h29 k (by omega)]
        unfold pX
        rw [if_neg (by omega)]
      have h30k : gat T 30 (oo k) = oo (v (151 + k)) := by rw [g_30 (by omega), h30 k (by omega)]
      have e1 : oo 0 - oo 1 = nn := rfl
      simp (disch := omega) only [f_X10_passHour_L34, t_X2_wentTo, ↓oo_m1, oo_0, oo_1, oo_2, oo_3, oo_4, oo_5, oo_6, oo_7, oo_8, oo_9, oo_10, oo_12, oo_13, oo_14, oo_15, oo_16, oo_17, oo_18, oo_20, oo_24, oo_30, oo_32, oo_36, oo_40, oo_41, oo_48, oo_50, oo_57, oo_59, oo_60, oo_61, oo_62, oo_63, oo_64, oo_66, oo_72, oo_78, oo_96, oo_97, oo_99, oo_100, oo_101, oo_105, oo_107, oo_108, oo_109, oo_110, oo_111, oo_112, oo_114, oo_115, oo_116, oo_117, oo_119, oo_122, oo_128, oo_130, oo_134, oo_135, oo_136, oo_137, oo_138, oo_139, oo_140, oo_141, oo_142, oo_143, oo_144, oo_145, oo_151, oo_157, oo_194, oo_200, oo_240, oo_255, oo_256, oo_274, oo_276, oo_300, oo_516, oo_900, oo_940, oo_941, oo_999, oo_1000, oo_1040, oo_10000, oo_add, oo_mul, oo_sub, oo_lt, oo_le, oo_eq, oo_nat, oo_div, oo_rem, oo_nn, nn_oo, oo_nnlt, nn_oolt, oo_nnle, nn_oole, ↓reduceIte, if_pos, if_neg, or_false, false_or, or_true, true_or, and_true, true_and, and_false, false_and, not_true_eq_false, not_false_eq_true, Nat.not_lt_zero, Bool.false_eq_true, Bool.true_eq_false, Option.bind_some, Option.bind_none, rf_7_0, rf_7_1, rf_7_2, rf_7_3, rf_7_4, rf_7_5, rf_7_6, rf_7_7, rf_28_1, rf_28_2, rf_28_3, rf_28_5, rf_28_6, rf_28_7, rf_28_8, g_8, p_8, hH.n2, h28, hwt, hz, e1, h29k, h30k, x1]
      exact x2
    · obtain ⟨T2, U, x1, x2, x3, x4, x5⟩ := key (sI T 29 k (oo (wtN v k (v 144 + 1) (v 4) - 1))) (Fr.sIr (Fr.rf _ _) rfl) (fun i hi => by
        unfold pX
        by_cases h2 : i = k
        · rw [h2, sI_same, if_pos (by omega)]
          unfold whN
          rw [if_neg hz]
        · rw [sI_place h2, h29 i hi]
          unfold pX
          by_cases h : i < k
          · rw [if_pos h, if_pos (by omega)]
          · rw [if_neg h, if_neg (by omega)])
      refine ⟨U, ?_, x3, x4, Fr.trans (Fr.sIr (Fr.rf _ _) rfl) x5⟩
      have hw0 : whN v k (v 144 + 1) (v 4) = wtN v k (v 144 + 1) (v 4) - 1 := by unfold whN; rw [if_neg hz]
      rw [hw0] at x1
      have h29k : gat (sI T 29 k (oo (wtN v k (v 144 + 1) (v 4) - 1))) 29 (oo k) = oo (wtN v k (v 144 + 1) (v 4) - 1) := by rw [g_29 (by omega), sI_same]
      have h30k : gat (sI T 29 k (oo (wtN v k (v 144 + 1) (v 4) - 1))) 30 (oo k) = oo (v (151 + k)) := by rw [g_30 (by omega), sI_cell (by decide), h30 k (by omega)]
      simp (disch := omega) only [f_X10_passHour_L34, t_X2_wentTo, ↓oo_m1, oo_0, oo_1, oo_2, oo_3, oo_4, oo_5, oo_6, oo_7, oo_8, oo_9, oo_10, oo_12, oo_13, oo_14, oo_15, oo_16, oo_17, oo_18, oo_20, oo_24, oo_30, oo_32, oo_36, oo_40, oo_41, oo_48, oo_50, oo_57, oo_59, oo_60, oo_61, oo_62, oo_63, oo_64, oo_66, oo_72, oo_78, oo_96, oo_97, oo_99, oo_100, oo_101, oo_105, oo_107, oo_108, oo_109, oo_110, oo_111, oo_112, oo_114, oo_115, oo_116, oo_117, oo_119, oo_122, oo_128, oo_130, oo_134, oo_135, oo_136, oo_137, oo_138, oo_139, oo_140, oo_141, oo_142, oo_143, oo_144, oo_145, oo_151, oo_157, oo_194, oo_200, oo_240, oo_255, oo_256, oo_274, oo_276, oo_300, oo_516, oo_900, oo_940, oo_941, oo_999, oo_1000, oo_1040, oo_10000, oo_add, oo_mul, oo_sub, oo_lt, oo_le, oo_eq, oo_nat, oo_div, oo_rem, oo_nn, nn_oo, oo_nnlt, nn_oolt, oo_nnle, nn_oole, ↓reduceIte, if_pos, if_neg, or_false, false_or, or_true, true_or, and_true, true_and, and_false, false_and, not_true_eq_false, not_false_eq_true, Nat.not_lt_zero, Bool.false_eq_true, Bool.true_eq_false, Option.bind_some, Option.bind_none, rf_7_0, rf_7_1, rf_7_2, rf_7_3, rf_7_4, rf_7_5, rf_7_6, rf_7_7, rf_28_1, rf_28_2, rf_28_3, rf_28_5, rf_28_6, rf_28_7, rf_28_8, g_8, p_8, sI_same, sI_place, sI_cell, sI_long, sL_int, sL_same, sL_place, sL_cell, p_29, hH.n2, h28, hwt, h29k, h30k, x1]
      exact x2
/-- behind the first k cloths -/
def fX (v : Nat → Nat) (k c s : Nat) : Nat := if c < k then clP v (v 144 + 1) c s else v (194 + 10 * c + 4 + s)
theorem fadeC_c (hH : IsHill S 7 v) (hO : HOK v) {c : Nat} {x : Nat → Nat} (hc : c < 8) (hx : ∀ s, s < 6 → S.1 32 (c * 6 + s) = oo (x s) ∧ x s ≤ 1000) : f_X10_fadeCloth 28 7 (oo c) S = some (blk S 32 (c * 6) 6 (fun j => oo (x (j - c * 6) - v (6 + (j - c * 6))))) := by
  obtain ⟨-, hf, -⟩ := id hO
  have hl := loop_blk (L := f_X10_fadeCloth_L2 28 7 (oo c)) (a := 32) (lo := c * 6) (st := 0) (m := 6) (f := fun j => oo (x (j - c * 6) - v (6 + (j - c * 6)))) (S := S) (R := some (blk S 32 (c * 6) 6 (fun j => oo (x (j - c * 6) - v (6 + (j - c * 6)))))) (fun n k hk => by
    obtain ⟨h3, h4⟩ := hx k hk
    have h1 := (hf k hk).1
    generalize hB : blk S 32 (c * 6) k (fun j => oo (x (j - c * 6) - v (6 + (j - c * 6)))) = B
    have e1 : gat B 10 (oo k) = oo (v (6 + k)) := by rw [g_10 hk, ← hB, blk_cell (by decide), hH.fade k hk]
    have e3 : gat B 32 (oo (c * 6 + k)) = oo (x k) := by rw [g_32 (by omega), ← hB, blk_out (by omega), h3]
    have h6 := sub0_oo (k := x k) (j := v (6 + k)) (by omega) (by omega)
    simp (disch := omega) only [f_X10_fadeCloth_L2, ↓oo_m1, oo_0, oo_1, oo_6, oo_add k 1, oo_mul, oo_add (c * 6) k, oo_le, ↓reduceIte, if_pos, if_neg, or_false, false_or, or_true, true_or, and_true, true_and, and_false, false_and, not_true_eq_false, not_false_eq_true, Nat.not_lt_zero, Bool.false_eq_true, Bool.true_eq_false, Option.bind_some, Option.bind_none, rf_7_0, rf_7_1, rf_7_2, rf_7_3, rf_7_4, rf_7_5, rf_7_6, rf_7_7, rf_28_1, rf_28_2, rf_28_3, rf_28_5, rf_28_6, rf_28_7, rf_28_8, p_32, e1, e3, h6, Nat.zero_add, Nat.add_sub_cancel_left]) (fun n => by
    simp (disch := omega) only [f_X10_fadeCloth_L2, ↓oo_m1, oo_0, oo_1, oo_2, oo_3, oo_4, oo_5, oo_6, oo_7, oo_8, oo_9, oo_10, oo_12, oo_13, oo_14, oo_15, oo_16, oo_17, oo_18, oo_20, oo_24, oo_30, oo_32, oo_36, oo_40, oo_41, oo_48, oo_50, oo_57, oo_59, oo_60, oo_61, oo_62, oo_63, oo_64, oo_66, oo_72, oo_78, oo_96, oo_97, oo_99, oo_100, oo_101, oo_105, oo_107, oo_108, oo_109, oo_110, oo_111, oo_112, oo_114, oo_115, oo_116, oo_117, oo_119, oo_122, oo_128, oo_130, oo_134, oo_135, oo_136, oo_137, oo_138, oo_139, oo_140, oo_141, oo_142, oo_143, oo_144, oo_145, oo_151, oo_157, oo_194, oo_200, oo_240, oo_255, oo_256, oo_274, oo_276, oo_300, oo_516, oo_900, oo_940, oo_941, oo_999, oo_1000, oo_1040, oo_10000, oo_add, oo_mul, oo_sub, oo_lt, oo_le, oo_eq, oo_nat, oo_div, oo_rem, oo_nn, nn_oo, oo_nnlt, nn_oolt, oo_nnle, nn_oole, ↓reduceIte, if_pos, if_neg, or_false, false_or, or_true, true_or, and_true, true_and, and_false, false_and, not_true_eq_false, not_false_eq_true, Nat.not_lt_zero, Bool.false_eq_true, Bool.true_eq_false]) 1000000 (by decide)
  simp (disch := omega) only [f_X10_fadeCloth, oo_0, Option.bind_some, Option.bind_none, hl]
theorem cloths_c (hO : HOK v) (hS : SOK v) : ∀ m k n T, k + m = v 193 → m < n → IsHill T 7 v → T.1 28 0 = oo (v 144 + 1) → T.1 28 4 = oo (v 193) → (∀ c, c < v 193 → T.1 33 c = oo (v (194 + 10 * c))) → (∀ c s, c < v 193 → s < 6 → T.1 32 (c * 6 + s) = oo (fX v k c s)) → ∃ U, f_X10_passHour_L126 28 7 n (oo k) T = some U ∧ (∀ c s, c < v 193 → s < 6 → U.1 32 (c * 6 + s) = oo (clP v (v 144 + 1) c s)) ∧ Fr [(32, 9999)] T U := by
  obtain ⟨⟨b0, b1, b2, b3, b4, b5⟩, hf, -, -, hkp, -, -, -⟩ := id hO
  have h999 := hS.1
  have c8 := hS.c8
  intro m
  induction m with
  | zero =>
    intro k n T hk hn hH h28 h284 h33 h32
    obtain ⟨n, rfl⟩ : ∃ n', n = n' + 1 := ⟨n - 1, by omega⟩
    obtain rfl : k = v 193 := by omega
    refine ⟨T, by simp (disch := omega) only [f_X10_passHour_L126, ↓oo_m1, oo_0, oo_1, oo_2, oo_3, oo_4, oo_5, oo_6, oo_7, oo_8, oo_9, oo_10, oo_12, oo_13, oo_14, oo_15, oo_16, oo_17, oo_18, oo_20, oo_24, oo_30, oo_32, oo_36, oo_40, oo_41, oo_48, oo_50, oo_57, oo_59, oo_60, oo_61, oo_62, oo_63, oo_64, oo_66, oo_72, oo_78, oo_96, oo_97, oo_99, oo_100, oo_101, oo_105, oo_107, oo_108, oo_109, oo_110, oo_111, oo_112, oo_114, oo_115, oo_116, oo_117, oo_119, oo_122, oo_128, oo_130, oo_134, oo_135, oo_136, oo_137, oo_138, oo_139, oo_140, oo_141, oo_142, oo_143, oo_144, oo_145, oo_151, oo_157, oo_194, oo_200, oo_240, oo_255, oo_256, oo_274, oo_276, oo_300, oo_516, oo_900, oo_940, oo_941, oo_999, oo_1000, oo_1040, oo_10000, oo_add, oo_mul, oo_sub, oo_lt, oo_le, oo_eq, oo_nat, oo_div, oo_rem, oo_nn, nn_oo, oo_nnlt, nn_oolt, oo_nnle, nn_oole, ↓reduceIte, if_pos, if_neg, or_false, false_or, or_true, true_or, and_true, true_and, and_false, false_and, not_true_eq_false, not_false_eq_true, Nat.not_lt_zero, Bool.false_eq_true, Bool.true_eq_false, h284], fun c s hc hs => ?_, Fr.rf _ _⟩
    rw [h32 c s hc hs]
    unfold fX
    rw [if_pos hc]
  | succ m ih =>
    intro k n T hk hn hH h28 h284 h33 h32
    obtain ⟨n, rfl⟩ : ∃ n', n = n' + 1 := ⟨n - 1, by omega⟩
    obtain ⟨g1, g2, g3, g4⟩ := hS.2.2.2.2.2.1 k (by omega)
    obtain ⟨p1, p2, p3⟩ := hkp _ g1
    have hfd := fades_c hH (h := v 144 + 1) (by omega) (show v (194 + 10 * k) < 6 by omega) p1 p2
    have h33k : gat T 33 (oo k) = oo (v (194 + 10 * k)) := by rw [g_33 (by omega), h33 k (by omega)]
    rw [← g4] at hfd
    by_cases h : (v 144 + 1) % v (194 + 10 * k + 3) = 0
    · rw [decide_eq_true h] at hfd
      have hfc := fadeC_c (x := fun s => v (194 + 10 * k + 4 + s)) hH hO (show k < 8 by omega) (fun s hs => by
        rw [h32 k s (by omega) hs]
        unfold fX
        rw [if_neg (Nat.lt_irrefl k)]
        have := (hS.2.2.2.2.2.2 k s (by omega) hs).1
        exact ⟨rfl, by omega⟩)
      have hF2 : Fr [(32, 9999)] T (blk T 32 (k * 6) 6 (fun j => oo (v (194 + 10 * k + 4 + (j - k * 6)) - v (6 + (j - k * 6))))) := Fr.blk (Fr.rf _ _) rfl
      generalize hT2 : blk T 32 (k * 6) 6 (fun j => oo (v (194 + 10 * k + 4 + (j - k * 6)) - v (6 + (j - k * 6)))) = T2 at hfc hF2
      obtain ⟨U, u1, u2, u3⟩ := ih (k + 1) n T2 (by omega) (by omega) (hH.fr hF2 rfl) (by rw [hF2.row (c := 28) rfl]; exact h28) (by rw [hF2.row (c := 28) rfl]; exact h284) (fun c hc => by rw [hF2.row (c := 33) rfl]; exact h33 c hc) (fun c s hc hs => by
        rw [← hT2]
        unfold fX
        by_cases h5 : c = k
        · rw [h5, blk_in (by omega), if_pos (Nat.lt_succ_self k), Nat.add_sub_cancel_left]
          unfold clP
          rw [if_pos h]
        · rw [blk_out (by omega), h32 c s hc hs]
          unfold fX
          by_cases h6 : c < k
          · rw [if_pos h6, if_pos (by omega)]
          · rw [if_neg h6, if_neg (by omega)])
      refine ⟨U, ?_, u2, Fr.trans hF2 u3⟩
      simp (disch := omega) only [f_X10_passHour_L126, ↓oo_m1, oo_0, oo_1, oo_2, oo_3, oo_4, oo_5, oo_6, oo_7, oo_8, oo_9, oo_10, oo_12, oo_13, oo_14, oo_15, oo_16, oo_17, oo_18, oo_20, oo_24, oo_30, oo_32, oo_36, oo_40, oo_41, oo_48, oo_50, oo_57, oo_59, oo_60, oo_61, oo_62, oo_63, oo_64, oo_66, oo_72, oo_78, oo_96, oo_97, oo_99, oo_100, oo_101, oo_105, oo_107, oo_108, oo_109, oo_110, oo_111, oo_112, oo_114, oo_115, oo_116, oo_117, oo_119, oo_122, oo_128, oo_130, oo_134, oo_135, oo_136, oo_137, oo_138, oo_139, oo_140, oo_141, oo_142, oo_143, oo_144, oo_145, oo_151, oo_157, oo_194, oo_200, oo_240, oo_255, oo_256, oo_274, oo_276, oo_300, oo_516, oo_900, oo_940, oo_941, oo_999, oo_1000, oo_1040, oo_10000, oo_add, oo_mul, oo_sub, oo_lt, oo_le, oo_eq, oo_nat, oo_div, oo_rem, oo_nn, nn_oo, oo_nnlt, nn_oolt, oo_nnle, nn_oole, ↓reduceIte, if_pos, if_neg, or_false, false_or, or_true, true_or, and_true, true_and, and_false, false_and, not_true_eq_false, not_false_eq_true, Nat.not_lt_zero, Bool.false_eq_true, Bool.true_eq_false, Option.bind_some, Option.bind_none, rf_28_1, rf_28_2, rf_28_3, rf_28_5, rf_28_6, rf_28_7, rf_28_8, h28, h284, h33k, hfd, hfc]
      exact u1
    · rw [decide_eq_false h] at hfd
      obtain ⟨U, u1, u2, u3⟩ := ih (k + 1) n T (by omega) (by omega) hH h28 h284 h33 (fun c s hc hs => by
        rw [h32 c s hc hs]
        unfold fX
        by_cases h5 : c = k
        · rw [h5, if_neg (Nat.lt_irrefl k), if_pos (Nat.lt_succ_self k)]
          unfold clP
          rw [if_neg h]
          rfl
        · by_cases h6 : c < k
          · rw [if_pos h6, if_pos (by omega)]
          · rw [if_neg h6, if_neg (by omega)])
      refine ⟨U, ?_, u2, u3⟩
      simp (disch := omega) only [f_X10_passHour_L126, ↓oo_m1, oo_0, oo_1, oo_2, oo_3, oo_4, oo_5, oo_6, oo_7, oo_8, oo_9, oo_10, oo_12, oo_13, oo_14, oo_15, oo_16, oo_17, oo_18, oo_20, oo_24, oo_30, oo_32, oo_36, oo_40, oo_41, oo_48, oo_50, oo_57, oo_59, oo_60, oo_61, oo_62, oo_63, oo_64, oo_66, oo_72, oo_78, oo_96, oo_97, oo_99, oo_100, oo_101, oo_105, oo_107, oo_108, oo_109, oo_110, oo_111, oo_112, oo_114, oo_115, oo_116, oo_117, oo_119, oo_122, oo_128, oo_130, oo_134, oo_135, oo_136, oo_137, oo_138, oo_139, oo_140, oo_141, oo_142, oo_143, oo_144, oo_145, oo_151, oo_157, oo_194, oo_200, oo_240, oo_255, oo_256, oo_274, oo_276, oo_300, oo_516, oo_900, oo_940, oo_941, oo_999, oo_1000, oo_1040, oo_10000, oo_add, oo_mul, oo_sub, oo_lt, oo_le, oo_eq, oo_nat, oo_div, oo_rem, oo_nn, nn_oo, oo_nnlt, nn_oolt, oo_nnle, nn_oole, ↓reduceIte, if_pos, if_neg, or_false, false_or, or_true, true_or, and_true, true_and, and_false, false_and, not_true_eq_false, not_false_eq_true, Nat.not_lt_zero, Bool.false_eq_true, Bool.true_eq_false, Option.bind_some, Option.bind_none, rf_28_1, rf_28_2, rf_28_3, rf_28_5, rf_28_6, rf_28_7, rf_28_8, h28, h284, h33k, hfd]
      exact u1
/-- behind the boxes below b and the scents below s in it -/
def mX (v : Nat → Nat) (b s c x : Nat) : Nat := if bxN v c < b ∨ (bxN v c = b ∧ x < s) then mxN (clP v (v 144 + 1)) (bxN v) (v 193) c x else clP v (v 144 + 1) c x
def mXk (v : Nat → Nat) (b s k c x : Nat) : Nat := if c < k then mX v b (s + 1) c x else mX v b s c x
theorem greatest_c (hS : SOK v) {b s : Nat} (hb : b < 3) (hs : s < 6) {T : XS} (h284 : T.1 28 4 = oo (v 193)) (h34 : ∀ c, c < v 193 → T.1 34 c = oo (bxN v c)) (h32 : ∀ c x, c < v 193 → x < 6 → T.1 32 (c * 6 + x) = oo (mX v b s c x)) : ∀ m k n, k + m = v 193 → m < n → f_X10_mingle_L5 28 (oo b) (oo s) n (oo (gmN (clP v (v 144 + 1)) (bxN v) b s k)) (oo k) T = some (oo (gmN (clP v (v 144 + 1)) (bxN v) b s (v 193)), T) := by
  have c8 := hS.c8
  intro m
  induction m with
  | zero =>
    intro k n hk hn
    obtain ⟨n, rfl⟩ : ∃ n', n = n' + 1 := ⟨n - 1, by omega⟩
    obtain rfl : k = v 193 := by omega
    simp (disch := omega) only [f_X10_mingle_L5, ↓oo_m1, oo_0, oo_1, oo_2, oo_3, oo_4, oo_5, oo_6, oo_7, oo_8, oo_9, oo_10, oo_12, oo_13, oo_14, oo_15, oo_16, oo_17, oo_18, oo_20, oo_24, oo_30, oo_32, oo_36, oo_40, oo_41, oo_48, oo_50, oo_57, oo_59, oo_60, oo_61, oo_62, oo_63, oo_64, oo_66, oo_72, oo_78, oo_96, oo_97, oo_99, oo_100, oo_101, oo_105, oo_107, oo_108, oo_109, oo_110, oo_111, oo_112, oo_114, oo_115, oo_116, oo_117, oo_119, oo_122, oo_128, oo_130, oo_134, oo_135, oo_136, oo_137, oo_138, oo_139, oo_140, oo_141, oo_142, oo_143, oo_144, oo_145, oo_151, oo_157, oo_194, oo_200, oo_240, oo_255, oo_256, oo_274, oo_276, oo_300, oo_516, oo_900, oo_940, oo_941, oo_999, oo_1000, oo_1040, oo_10000, oo_add, oo_mul, oo_sub, oo_lt, oo_le, oo_eq, oo_nat, oo_div, oo_rem, oo_nn, nn_oo, oo_nnlt, nn_oolt, oo_nnle, nn_oole, ↓reduceIte, if_pos, if_neg, or_false, false_or, or_true, true_or, and_true, true_and, and_false, false_and, not_true_eq_false, not_false_eq_true, Nat.not_lt_zero, Bool.false_eq_true, Bool.true_eq_false, h284]
  | succ m ih =>
    intro k n hk hn
    obtain ⟨n, rfl⟩ : ∃ n', n = n' + 1 := ⟨n - 1, by omega⟩
    have e1 : gat T 34 (oo k) = oo (bxN v k) := by rw [g_34 (by omega), h34 k (by omega)]
    have e2 : bxN v k = b → gat T 32 (oo (k * 6 + s)) = oo (clP v (v 144 + 1) k s) := fun q => by
      rw [g_32 (by omega), h32 k s (by omega) hs]
      unfold mX
      rw [if_neg (by omega)]
    have h1 : bxN v k < 3 := (hS.2.2.2.2.2.1 k (by omega)).2.1
    have h2 := clP_le hS (h := v 144 + 1) (show k < v 193 by omega) hs
    have h3 := gmN_lt hS (h := v 144 + 1) (b := b) hs k (by omega)
    have h5 := ih (k + 1) n (by omega) (by omega)
    rw [gmN] at h5
    by_cases q : bxN v k = b
    · have e3 := e2 q
      by_cases q2 : gmN (clP v (v 144 + 1)) (bxN v) b s k < clP v (v 144 + 1) k s
      · rw [if_pos ⟨q, q2⟩] at h5
        simp (disch := omega) only [f_X10_mingle_L5, ↓oo_m1, oo_0, oo_1, oo_2, oo_3, oo_4, oo_5, oo_6, oo_7, oo_8, oo_9, oo_10, oo_12, oo_13, oo_14, oo_15, oo_16, oo_17, oo_18, oo_20, oo_24, oo_30, oo_32, oo_36, oo_40, oo_41, oo_48, oo_50, oo_57, oo_59, oo_60, oo_61, oo_62, oo_63, oo_64, oo_66, oo_72, oo_78, oo_96, oo_97, oo_99, oo_100, oo_101, oo_105, oo_107, oo_108, oo_109, oo_110, oo_111, oo_112, oo_114, oo_115, oo_116, oo_117, oo_119, oo_122, oo_128, oo_130, oo_134, oo_135, oo_136, oo_137, oo_138, oo_139, oo_140, oo_141, oo_142, oo_143, oo_144, oo_145, oo_151, oo_157, oo_194, oo_200, oo_240, oo_255, oo_256, oo_274, oo_276, oo_300, oo_516, oo_900, oo_940, oo_941, oo_999, oo_1000, oo_1040, oo_10000, oo_add, oo_mul, oo_sub, oo_lt, oo_le, oo_eq, oo_nat, oo_div, oo_rem, oo_nn, nn_oo, oo_nnlt, nn_oolt, oo_nnle, nn_oole, ↓reduceIte, if_pos, if_neg, or_false, false_or, or_true, true_or, and_true, true_and, and_false, false_and, not_true_eq_false, not_false_eq_true, Nat.not_lt_zero, Bool.false_eq_true, Bool.true_eq_false, rf_28_1, rf_28_2, rf_28_3, rf_28_5, rf_28_6, rf_28_7, rf_28_8, h284, e1, e3, q]
        exact h5
      · rw [if_neg (fun z => q2 z.2)] at h5
        simp (disch := omega) only [f_X10_mingle_L5, ↓oo_m1, oo_0, oo_1, oo_2, oo_3, oo_4, oo_5, oo_6, oo_7, oo_8, oo_9, oo_10, oo_12, oo_13, oo_14, oo_15, oo_16, oo_17, oo_18, oo_20, oo_24, oo_30, oo_32, oo_36, oo_40, oo_41, oo_48, oo_50, oo_57, oo_59, oo_60, oo_61, oo_62, oo_63, oo_64, oo_66, oo_72, oo_78, oo_96, oo_97, oo_99, oo_100, oo_101, oo_105, oo_107, oo_108, oo_109, oo_110, oo_111, oo_112, oo_114, oo_115, oo_116, oo_117, oo_119, oo_122, oo_128, oo_130, oo_134, oo_135, oo_136, oo_137, oo_138, oo_139, oo_140, oo_141, oo_142, oo_143, oo_144, oo_145, oo_151, oo_157, oo_194, oo_200, oo_240, oo_255, oo_256, oo_274, oo_276, oo_300, oo_516, oo_900, oo_940, oo_941, oo_999, oo_1000, oo_1040, oo_10000, oo_add, oo_mul, oo_sub, oo_lt, oo_le, oo_eq, oo_nat, oo_div, oo_rem, oo_nn, nn_oo, oo_nnlt, nn_oolt, oo_nnle, nn_oole, ↓reduceIte, if_pos, if_neg, or_false, false_or, or_true, true_or, and_true, true_and, and_false, false_and, not_true_eq_false, not_false_eq_true, Nat.not_lt_zero, Bool.false_eq_true, Bool.true_eq_false, rf_28_1, rf_28_2, rf_28_3, rf_28_5, rf_28_6, rf_28_7, rf_28_8, h284, e1, e3, q]
        exact h5
    · rw [if_neg (fun z => q z.1)] at h5
      simp (disch := omega) only [f_X10_mingle_L5, ↓oo_m1, oo_0, oo_1, oo_2, oo_3, oo_4, oo_5, oo_6, oo_7, oo_8, oo_9, oo_10, oo_12, oo_13, oo_14, oo_15, oo_16, oo_17, oo_18, oo_20, oo_24, oo_30, oo_32, oo_36, oo_40, oo_41, oo_48, oo_50, oo_57, oo_59, oo_60, oo_61, oo_62, oo_63, oo_64, oo_66, oo_72, oo_78, oo_96, oo_97, oo_99, oo_100, oo_101, oo_105, oo_107, oo_108, oo_109, oo_110, oo_111, oo_112, oo_114, oo_115, oo_116, oo_117, oo_119, oo_122, oo_128, oo_130, oo_134, oo_135, oo_136, oo_137, oo_138, oo_139, oo_140, oo_141, oo_142, oo_143, oo_144, oo_145, oo_151, oo_157, oo_194, oo_200, oo_240, oo_255, oo_256, oo_274, oo_276, oo_300, oo_516, oo_900, oo_940, oo_941, oo_999, oo_1000, oo_1040, oo_10000, oo_add, oo_mul, oo_sub, oo_lt, oo_le, oo_eq, oo_nat, oo_div, oo_rem, oo_nn, nn_oo, oo_nnlt, nn_oolt, oo_nnle, nn_oole, ↓reduceIte, if_pos, if_neg, or_false, false_or, or_true, true_or, and_true, true_and, and_false, false_and, not_true_eq_false, not_false_eq_true, Nat.not_lt_zero, Bool.false_eq_true, Bool.true_eq_false, rf_28_1, rf_28_2, rf_28_3, rf_28_5, rf_28_6, rf_28_7, rf_28_8, h284, e1, q]
      exact h5
theorem mingle_c (hS : SOK v) {b s : Nat} (hb : b < 3) (hs : s < 6) : ∀ m k n T, k + m = v 193 → m < n → T.1 28 4 = oo (v 193) → (∀ c, c < v 193 → T.1 34 c = oo (bxN v c)) → (∀ c x, c < v 193 → x < 6 → T.1 32 (c * 6 + x) = oo (mXk v b s k c x)) → ∃ U, f_X10_mingle_L55 (oo (gmN (clP v (v 144 + 1)) (bxN v) b s (v 193))) 28 (oo b) (oo s) n (oo k) T = some U ∧ (∀ c x, c < v 193 → x < 6 → U.1 32 (c * 6 + x) = oo (mX v b (s + 1) c x)) ∧ Fr [(32, 9999)] T U := by
  have c8 := hS.c8
  intro m
  induction m with
  | zero =>
    intro k n T hk hn h284 h34 h32
    obtain ⟨n, rfl⟩ : ∃ n', n = n' + 1 := ⟨n - 1, by omega⟩
    obtain rfl : k = v 193 := by omega
    refine ⟨T, by simp (disch := omega) only [f_X10_mingle_L55, ↓oo_m1, oo_0, oo_1, oo_2, oo_3, oo_4, oo_5, oo_6, oo_7, oo_8, oo_9, oo_10, oo_12, oo_13, oo_14, oo_15, oo_16, oo_17, oo_18, oo_20, oo_24, oo_30, oo_32, oo_36, oo_40, oo_41, oo_48, oo_50, oo_57, oo_59, oo_60, oo_61, oo_62, oo_63, oo_64, oo_66, oo_72, oo_78, oo_96, oo_97, oo_99, oo_100, oo_101, oo_105, oo_107, oo_108, oo_109, oo_110, oo_111, oo_112, oo_114, oo_115, oo_116, oo_117, oo_119, oo_122, oo_128, oo_130, oo_134, oo_135, oo_136, oo_137, oo_138, oo_139, oo_140, oo_141, oo_142, oo_143, oo_144, oo_145, oo_151, oo_157, oo_194, oo_200, oo_240, oo_255, oo_256, oo_274, oo_276, oo_300, oo_516, oo_900, oo_940, oo_941, oo_999, oo_1000, oo_1040, oo_10000, oo_add, oo_mul, oo_sub, oo_lt, oo_le, oo_eq, oo_nat, oo_div, oo_rem, oo_nn, nn_oo, oo_nnlt, nn_oolt, oo_nnle, nn_oole, ↓reduceIte, if_pos, if_neg, or_false, false_or, or_true, true_or, and_true, true_and, and_false, false_and, not_true_eq_false, not_false_eq_true, Nat.not_lt_zero, Bool.false_eq_true, Bool.true_eq_false, h284], fun c x hc hx => ?_, Fr.rf _ _⟩
    rw [h32 c x hc hx]
    unfold mXk
    rw [if_pos hc]
  | succ m ih =>
    intro k n T hk hn h284 h34 h32
    obtain ⟨n, rfl⟩ : ∃ n', n = n' + 1 := ⟨n - 1, by omega⟩
    have e1 : gat T 34 (oo k) = oo (bxN v k) := by rw [g_34 (by omega), h34 k (by omega)]
    have h1 : bxN v k < 3 := (hS.2.2.2.2.2.1 k (by omega)).2.1
    have h2 := clP_le hS (h := v 144 + 1) (show k < v 193 by omega) hs
    have h3 := gmN_lt hS (h := v 144 + 1) (b := b) hs (v 193) (Nat.le_refl _)
    have keep : (∀ x, x < 6 → mX v b (s + 1) k x = mX v b s k x) → ∀ c x, c < v 193 → x < 6 → T.1 32 (c * 6 + x) = oo (mXk v b s (k + 1) c x) := fun hq c x hc hx => by
      rw [h32 c x hc hx]
      unfold mXk
      by_cases h : c < k
      · rw [if_pos h, if_pos (by omega)]
      · rw [if_neg h]
        by_cases h4 : c = k
        · rw [if_pos (by omega), h4, hq x hx]
        · rw [if_neg (by omega)]
    by_cases q : bxN v k = b
    · have e3 : gat T 32 (oo (k * 6 + s)) = oo (clP v (v 144 + 1) k s) := by
        rw [g_32 (by omega), h32 k s (by omega) hs]
        unfold mXk mX
        rw [if_neg (Nat.lt_irrefl k), if_neg (by omega)]
      have hoth : ∀ x, x ≠ s → mX v b (s + 1) k x = mX v b s k x := fun x hx => by
        unfold mX
        by_cases h : bxN v k < b ∨ (bxN v k = b ∧ x < s)
        · rw [if_pos h, if_pos (by omega)]
        · rw [if_neg h, if_neg (by omega)]
      by_cases q2 : clP v (v 144 + 1) k s < gmN (clP v (v 144 + 1)) (bxN v) b s (v 193)
      · have hmx : mxN (clP v (v 144 + 1)) (bxN v) (v 193) k s = clP v (v 144 + 1) k s + 1 := by
          unfold mxN
          rw [q, if_pos q2]
        obtain ⟨U, u1, u2, u3⟩ := ih (k + 1) n (sI T 32 (k * 6 + s) (oo (clP v (v 144 + 1) k s + 1))) (by omega) (by omega) (by rw [sI_cell (by decide)]; exact h284) (fun c hc => by rw [sI_cell (by decide)]; exact h34 c hc) (fun c x hc hx => by
          by_cases h : c = k ∧ x = s
          · rw [h.1, h.2, sI_same]
            unfold mXk mX
            rw [if_pos (Nat.lt_succ_self k), if_pos (by omega), hmx]
          · rw [sI_place (by omega), h32 c x hc hx]
            unfold mXk
            by_cases h4 : c < k
            · rw [if_pos h4, if_pos (by omega)]
            · rw [if_neg h4]
              by_cases h6 : c = k
              · rw [if_pos (by omega), h6, hoth x (fun z => h ⟨h6, z⟩)]
              · rw [if_neg (by omega)])
        refine ⟨U, ?_, u2, Fr.trans (Fr.sIr (Fr.rf _ _) rfl) u3⟩
        simp (disch := omega) only [f_X10_mingle_L55, ↓oo_m1, oo_0, oo_1, oo_2, oo_3, oo_4, oo_5, oo_6, oo_7, oo_8, oo_9, oo_10, oo_12, oo_13, oo_14, oo_15, oo_16, oo_17, oo_18, oo_20, oo_24, oo_30, oo_32, oo_36, oo_40, oo_41, oo_48, oo_50, oo_57, oo_59, oo_60, oo_61, oo_62, oo_63, oo_64, oo_66, oo_72, oo_78, oo_96, oo_97, oo_99, oo_100, oo_101, oo_105, oo_107, oo_108, oo_109, oo_110, oo_111, oo_112, oo_114, oo_115, oo_116, oo_117, oo_119, oo_122, oo_128, oo_130, oo_134, oo_135, oo_136, oo_137, oo_138, oo_139, oo_140, oo_141, oo_142, oo_143, oo_144, oo_145, oo_151, oo_157, oo_194, oo_200, oo_240, oo_255, oo_256, oo_274, oo_276, oo_300, oo_516, oo_900, oo_940, oo_941, oo_999, oo_1000, oo_1040, oo_10000, oo_add, oo_mul, oo_sub, oo_lt, oo_le, oo_eq, oo_nat, oo_div, oo_rem, oo_nn, nn_oo, oo_nnlt, nn_oolt, oo_nnle, nn_oole, ↓reduceIte, if_pos, if_neg, or_false, false_or, or_true, true_or, and_true, true_and, and_false, false_and, not_true_eq_false, not_false_eq_true, Nat.not_lt_zero, Bool.false_eq_true, Bool.true_eq_false, rf_28_1, rf_28_2, rf_28_3, rf_28_5, rf_28_6, rf_28_7, rf_28_8, p_32, h284, e1, e3, q]
        exact u1
      · have hmx : mxN (clP v (v 144 + 1)) (bxN v) (v 193) k s = clP v (v 144 + 1) k s := by
          unfold mxN
          rw [q, if_neg q2]
        obtain ⟨U, u1, u2, u3⟩ := ih (k + 1) n T (by omega) (by omega) h284 h34 (keep (fun x hx => by
          by_cases h : x = s
          · rw [h]
            unfold mX
            rw [if_pos (by omega), if_neg (by omega), hmx]
          · exact hoth x h))
        refine ⟨U, ?_, u2, u3⟩
        simp (disch := omega) only [f_X10_mingle_L55, ↓oo_m1, oo_0, oo_1, oo_2, oo_3, oo_4, oo_5, oo_6, oo_7, oo_8, oo_9, oo_10, oo_12, oo_13, oo_14, oo_15, oo_16, oo_17, oo_18, oo_20, oo_24, oo_30, oo_32, oo_36, oo_40, oo_41, oo_48, oo_50, oo_57, oo_59, oo_60, oo_61, oo_62, oo_63, oo_64, oo_66, oo_72, oo_78, oo_96, oo_97, oo_99, oo_100, oo_101, oo_105, oo_107, oo_108, oo_109, oo_110, oo_111, oo_112, oo_114, oo_115, oo_116, oo_117, oo_119, oo_122, oo_128, oo_130, oo_134, oo_135, oo_136, oo_137, oo_138, oo_139, oo_140, oo_141, oo_142, oo_143, oo_144, oo_145, oo_151, oo_157, oo_194, oo_200, oo_240, oo_255, oo_256, oo_274, oo_276, oo_300, oo_516, oo_900, oo_940, oo_941, oo_999, oo_1000, oo_1040, oo_10000, oo_add, oo_mul, oo_sub, oo_lt, oo_le, oo_eq, oo_nat, oo_div, oo_rem, oo_nn, nn_oo, oo_nnlt, nn_oolt, oo_nnle, nn_oole, ↓reduceIte, if_pos, if_neg, or_false, false_or, or_true, true_or, and_true, true_and, and_false, false_and, not_true_eq_false, not_false_eq_true, Nat.not_lt_zero, Bool.false_eq_true, Bool.true_eq_false, rf_28_1, rf_28_2, rf_28_3, rf_28_5, rf_28_6, rf_28_7, rf_28_8, p_32, h284, e1, e3, q]
        exact u1
    · obtain ⟨U, u1, u2, u3⟩ := ih (k + 1) n T (by omega) (by omega) h284 h34 (keep (fun x hx => by
        unfold mX
        by_cases h : bxN v k < b
        · rw [if_pos (.inl h), if_pos (.inl h)]
        · rw [if_neg (by omega), if_neg (by omega)]))
      refine ⟨U, ?_, u2, u3⟩
      simp (disch := omega) only [f_X10_mingle_L55, ↓oo_m1, oo_0, oo_1, oo_2, oo_3, oo_4, oo_5, oo_6, oo_7, oo_8, oo_9, oo_10, oo_12, oo_13, oo_14, oo_15, oo_16, oo_17, oo_18, oo_20, oo_24, oo_30, oo_32, oo_36, oo_40, oo_41, oo_48, oo_50, oo_57, oo_59, oo_60, oo_61, oo_62, oo_63, oo_64, oo_66, oo_72, oo_78, oo_96, oo_97, oo_99, oo_100, oo_101, oo_105, oo_107, oo_108, oo_109, oo_110, oo_111, oo_112, oo_114, oo_115, oo_116, oo_117, oo_119, oo_122, oo_128, oo_130, oo_134, oo_135, oo_136, oo_137, oo_138, oo_139, oo_140, oo_141, oo_142, oo_143, oo_144, oo_145, oo_151, oo_157, oo_194, oo_200, oo_240, oo_255, oo_256, oo_274, oo_276, oo_300, oo_516, oo_900, oo_940, oo_941, oo_999, oo_1000, oo_1040, oo_10000, oo_add, oo_mul, oo_sub, oo_lt, oo_le, oo_eq, oo_nat, oo_div, oo_rem, oo_nn, nn_oo, oo_nnlt, nn_oolt, oo_nnle, nn_oole, ↓reduceIte, if_pos, if_neg, or_false, false_or, or_true, true_or, and_true, true_and, and_false, false_and, not_true_eq_false, not_false_eq_true, Nat.not_lt_zero, Bool.false_eq_true, Bool.true_eq_false, rf_28_1, rf_28_2, rf_28_3, rf_28_5, rf_28_6, rf_28_7, rf_28_8, h284, e1, q]
      exact u1
theorem mixS_c (hS : SOK v) {b : Nat} (hb : b < 3) : ∀ m s n T, s + m = 6 → m < n → T.1 28 4 = oo (v 193) → (∀ c, c < v 193 → T.1 34 c = oo (bxN v c)) → (∀ c x, c < v 193 → x < 6 → T.1 32 (c * 6 + x) = oo (mX v b s c x)) → ∃ U, f_X10_passHour_L180 (oo b) 28 n (oo s) T = some U ∧ (∀ c x, c < v 193 → x < 6 → U.1 32 (c * 6 + x) = oo (mX v (b + 1) 0 c x)) ∧ Fr [(32, 9999)] T U := by
  have c8 := hS.c8
  intro m
  induction m with
  | zero =>
    intro s n T hk hn h284 h34 h32
    obtain ⟨n, rfl⟩ : ∃ n', n = n' + 1 := ⟨n - 1, by omega⟩
    obtain rfl : s = 6 := by omega
    refine ⟨T, by simp (disch := omega) only [f_X10_passHour_L180, ↓oo_m1, oo_0, oo_1, oo_2, oo_3, oo_4, oo_5, oo_6, oo_7, oo_8, oo_9, oo_10, oo_12, oo_13, oo_14, oo_15, oo_16, oo_17, oo_18, oo_20, oo_24, oo_30, oo_32, oo_36, oo_40, oo_41, oo_48, oo_50, oo_57, oo_59, oo_60, oo_61, oo_62, oo_63, oo_64, oo_66, oo_72, oo_78, oo_96, oo_97, oo_99, oo_100, oo_101, oo_105, oo_107, oo_108, oo_109, oo_110, oo_111, oo_112, oo_114, oo_115, oo_116, oo_117, oo_119, oo_122, oo_128, oo_130, oo_134, oo_135, oo_136, oo_137, oo_138, oo_139, oo_140, oo_141, oo_142, oo_143, oo_144, oo_145, oo_151, oo_157, oo_194, oo_200, oo_240, oo_255, oo_256, oo_274, oo_276, oo_300, oo_516, oo_900, oo_940, oo_941, oo_999, oo_1000, oo_1040, oo_10000, oo_add, oo_mul, oo_sub, oo_lt, oo_le, oo_eq, oo_nat, oo_div, oo_rem, oo_nn, nn_oo, oo_nnlt, nn_oolt, oo_nnle, nn_oole, ↓reduceIte, if_pos, if_neg, or_false, false_or, or_true, true_or, and_true, true_and, and_false, false_and, not_true_eq_false, not_false_eq_true, Nat.not_lt_zero, Bool.false_eq_true, Bool.true_eq_false], fun c x hc hx => ?_, Fr.rf _ _⟩
    rw [h32 c x hc hx]
    unfold mX
    by_cases h : bxN v c < b ∨ (bxN v c = b ∧ x < 6)
    · rw [if_pos h, if_pos (by omega)]
    · rw [if_neg h, if_neg (by omega)]
  | succ m ih =>
    intro s n T hk hn h284 h34 h32
    obtain ⟨n, rfl⟩ : ∃ n', n = n' + 1 := ⟨n - 1, by omega⟩
    have h1 := greatest_c hS hb (show s < 6 by omega) h284 h34 h32 (v 193) 0 1000000 (by omega) (by omega)
    rw [show oo (gmN (clP v (v 144 + 1)) (bxN v) b s 0) = oo 0 from rfl] at h1
    obtain ⟨U1, u1, u2, u3⟩ := mingle_c hS hb (show s < 6 by omega) (v 193) 0 1000000 T (by omega) (by omega) h284 h34 (fun c x hc hx => by
      rw [h32 c x hc hx]
      unfold mXk
      rw [if_neg (Nat.not_lt_zero c)])
    obtain ⟨U, z1, z2, z3⟩ := ih (s + 1) n U1 (by omega) (by omega) (by rw [u3.row (c := 28) rfl]; exact h284) (fun c hc => by rw [u3.row (c := 34) rfl]; exact h34 c hc) u2
    refine ⟨U, ?_, z2, Fr.trans u3 z3⟩
    simp (disch := omega) only [f_X10_passHour_L180, f_X10_mingle, ↓oo_m1, oo_0, oo_1, oo_2, oo_3, oo_4, oo_5, oo_6, oo_7, oo_8, oo_9, oo_10, oo_12, oo_13, oo_14, oo_15, oo_16, oo_17, oo_18, oo_20, oo_24, oo_30, oo_32, oo_36, oo_40, oo_41, oo_48, oo_50, oo_57, oo_59, oo_60, oo_61, oo_62, oo_63, oo_64, oo_66, oo_72, oo_78, oo_96, oo_97, oo_99, oo_100, oo_101, oo_105, oo_107, oo_108, oo_109, oo_110, oo_111, oo_112, oo_114, oo_115, oo_116, oo_117, oo_119, oo_122, oo_128, oo_130, oo_134, oo_135, oo_136, oo_137, oo_138, oo_139, oo_140, oo_141, oo_142, oo_143, oo_144, oo_145, oo_151, oo_157, oo_194, oo_200, oo_240, oo_255, oo_256, oo_274, oo_276, oo_300, oo_516, oo_900, oo_940, oo_941, oo_999, oo_1000, oo_1040, oo_10000, oo_add, oo_mul, oo_sub, oo_lt, oo_le, oo_eq, oo_nat, oo_div, oo_rem, oo_nn, nn_oo, oo_nnlt, nn_oolt, oo_nnle, nn_oole, ↓reduceIte, if_pos, if_neg, or_false, false_or, or_true, true_or, and_true, true_and, and_false, false_and, not_true_eq_false, not_false_eq_true, Nat.not_lt_zero, Bool.false_eq_true, Bool.true_eq_false, Option.bind_some, Option.bind_none, h1, u1]
    exact z1
theorem mixB_c (hS : SOK v) : ∀ m b n T, b + m = 3 → m < n → T.1 28 4 = oo (v 193) → (∀ c, c < v 193 → T.1 34 c = oo (bxN v c)) → (∀ c x, c < v 193 → x < 6 → T.1 32 (c * 6 + x) = oo (mX v b 0 c x)) → ∃ U, f_X10_passHour_L171 28 n (oo b) T = some U ∧ (∀ c x, c < v 193 → x < 6 → U.1 32 (c * 6 + x) = oo (mX v 3 0 c x)) ∧ Fr [(32, 9999)] T U := by
  intro m
  induction m with
  | zero =>
    intro b n T hk hn h284 h34 h32
    obtain ⟨n, rfl⟩ : ∃ n', n = n' + 1 := ⟨n - 1, by omega⟩
    obtain rfl : b = 3 := by omega
    exact ⟨T, by simp (disch := omega) only [f_X10_passHour_L171, ↓oo_m1, oo_0, oo_1, oo_2, oo_3, oo_4, oo_5, oo_6, oo_7, oo_8, oo_9, oo_10, oo_12, oo_13, oo_14, oo_15, oo_16, oo_17, oo_18, oo_20, oo_24, oo_30, oo_32, oo_36, oo_40, oo_41, oo_48, oo_50, oo_57, oo_59, oo_60, oo_61, oo_62, oo_63, oo_64, oo_66, oo_72, oo_78, oo_96, oo_97, oo_99, oo_100, oo_101, oo_105, oo_107, oo_108, oo_109, oo_110, oo_111, oo_112, oo_114, oo_115, oo_116, oo_117, oo_119, oo_122, oo_128, oo_130, oo_134, oo_135, oo_136, oo_137, oo_138, oo_139, oo_140, oo_141, oo_142, oo_143, oo_144, oo_145, oo_151, oo_157, oo_194, oo_200, oo_240, oo_255, oo_256, oo_274, oo_276, oo_300, oo_516, oo_900, oo_940, oo_941, oo_999, oo_1000, oo_1040, oo_10000, oo_add, oo_mul, oo_sub, oo_lt, oo_le, oo_eq, oo_nat, oo_div, oo_rem, oo_nn, nn_oo, oo_nnlt, nn_oolt, oo_nnle, nn_oole, ↓reduceIte, if_pos, if_neg, or_false, false_or, or_true, true_or, and_true, true_and, and_false, false_and, not_true_eq_false, not_false_eq_true, Nat.not_lt_zero, Bool.false_eq_true, Bool.true_eq_false], h32, Fr.rf _ _⟩
  | succ m ih =>
    intro b n T hk hn h284 h34 h32
    obtain ⟨n, rfl⟩ : ∃ n', n = n' + 1 := ⟨n - 1, by omega⟩
    obtain ⟨U1, u1, u2, u3⟩ := mixS_c hS (show b < 3 by omega) 6 0 1000000 T rfl (by decide) h284 h34 h32
    obtain ⟨U, z1, z2, z3⟩ := ih (b + 1) n U1 (by omega) (by omega) (by rw [u3.row (c := 28) rfl]; exact h284) (fun c hc => by rw [u3.row (c := 34) rfl]; exact h34 c hc) u2
    refine ⟨U, ?_, z2, Fr.trans u3 z3⟩
    simp (disch := omega) only [f_X10_passHour_L171, ↓oo_m1, oo_0, oo_1, oo_2, oo_3, oo_4, oo_5, oo_6, oo_7, oo_8, oo_9, oo_10, oo_12, oo_13, oo_14, oo_15, oo_16, oo_17, oo_18, oo_20, oo_24, oo_30, oo_32, oo_36, oo_40, oo_41, oo_48, oo_50, oo_57, oo_59, oo_60, oo_61, oo_62, oo_63, oo_64, oo_66, oo_72, oo_78, oo_96, oo_97, oo_99, oo_100, oo_101, oo_105, oo_107, oo_108, oo_109, oo_110, oo_111, oo_112, oo_114, oo_115, oo_116, oo_117, oo_119, oo_122, oo_128, oo_130, oo_134, oo_135, oo_136, oo_137, oo_138, oo_139, oo_140, oo_141, oo_142, oo_143, oo_144, oo_145, oo_151, oo_157, oo_194, oo_200, oo_240, oo_255, oo_256, oo_274, oo_276, oo_300, oo_516, oo_900, oo_940, oo_941, oo_999, oo_1000, oo_1040, oo_10000, oo_add, oo_mul, oo_sub, oo_lt, oo_le, oo_eq, oo_nat, oo_div, oo_rem, oo_nn, nn_oo, oo_nnlt, nn_oolt, oo_nnle, nn_oole, ↓reduceIte, if_pos, if_neg, or_false, false_or, or_true, true_or, and_true, true_and, and_false, false_and, not_true_eq_false, not_false_eq_true, Nat.not_lt_zero, Bool.false_eq_true, Bool.true_eq_false, Option.bind_some, Option.bind_none, u1]
    exact z1
theorem mxN_0 (hS : SOK v) {h c s : Nat} (hc : c < v 193) (hs : s < 6) (h0 : v 0 ≤ s) : mxN (clP v h) (bxN v) (v 193) c s = 0 := by
  have hz : ∀ d, d < v 193 → clP v h d s = 0 := fun d hd => by
    unfold clP
    rw [(hS.2.2.2.2.2.2 d s hd hs).2 h0, Nat.zero_sub]
  have h1 := gmN_le (x := clP v h) (bx := bxN v) (b := bxN v c) (s := s) (k := 0) (v 193) (fun d hd => by rw [hz d hd]; exact Nat.le_refl 0)
  unfold mxN
  rw [hz c hc, if_neg (by omega)]
theorem pass_c {b : Bool} (hH : IsHill S 7 v) (hW : IsWd S 28 v) (hO : HOK v) (hS : SOK v) : ∃ T, f_X10_passHour 28 7 b S = some T ∧ IsWd T 28 (pnN v (wetN v b)) ∧ Fr (rows 28 8) S T := by
  obtain ⟨⟨b0, b1, b2, b3, b4, b5⟩, -⟩ := id hO
  have h999 := hS.1
  have c8 := hS.c8
  have hF0 : Fr [(28, 0)] S (sI S 28 0 (oo (v 144 + 1))) := Fr.sIp (Fr.rf _ _) rfl
  have hH0 : IsHill (sI S 28 0 (oo (v 144 + 1))) 7 v := hH.fr hF0 rfl
  have hrn := rain_c hH0 hO (h := v 144 + 1) (by omega)
  have hrl := rnN_le v (v 144 + 1) (v 5)
  generalize hB : (if b = true then true else decide (rnN v (v 144 + 1) (v 5) ≠ 0)) = B
  have hwet : wetN v b = if B = true then 2 else 0 := by
    rw [← hB]
    unfold wetN
    cases b with
    | true => simp
    | false => simp
  obtain ⟨T1, t1, t2, t3, t4⟩ := witn_c hO hS (b := B) hwet (v 3) 0 1000000 (sI S 28 0 (oo (v 144 + 1))) (by omega) (by omega) hH0 (sI_same _ _ _ _) (fun i hi => by
    rw [sI_cell (by decide), hW.pl i hi]
    unfold pX
    rw [if_neg (Nat.not_lt_zero i)]) (fun i hi => by rw [sI_cell (by decide), hW.wn i hi]) (fun c s hc hs => by
    rw [sI_cell (by decide), hW.ct c s hc hs]
    unfold cX
    rw [if_neg (by omega)])
  have hF1 : Fr [(28, 0), (29, 9999), (31, 9999)] S T1 := Fr.trans (hF0.mono rfl) (t4.mono rfl)
  have e280 : T1.1 28 0 = oo (v 144 + 1) := by rw [t4.row (c := 28) rfl]; exact sI_same _ _ _ _
  have e284 : T1.1 28 4 = oo (v 193) := by rw [t4.row (c := 28) rfl, sI_place (by decide)]; exact hW.cn
  obtain ⟨T2, s1, s2, s3⟩ := cloths_c hO hS (v 193) 0 1000000 T1 (by omega) (by omega) (hH.fr hF1 rfl) e280 e284 (fun c hc => by rw [hF1.row (c := 33) rfl]; exact hW.cf c hc) (fun c s hc hs => by
    rw [hF1.row (c := 32) rfl, hW.cl c s hc hs]
    unfold fX
    rw [if_neg (Nat.not_lt_zero c)])
  have hF2 : Fr [(28, 0), (29, 9999), (31, 9999), (32, 9999)] S T2 := Fr.trans (hF1.mono rfl) (s3.mono rfl)
  obtain ⟨T3, r1, r2, r3⟩ := mixB_c hS 3 0 1000000 T2 rfl (by decide) (by rw [s3.row (c := 28) rfl]; exact e284) (fun c hc => by rw [hF2.row (c := 34) rfl]; exact hW.li c hc) (fun c x hc hx => by
    rw [s2 c x hc hx]
    unfold mX
    rw [if_neg (by omega)])
  have hF3 : Fr [(28, 0), (29, 9999), (31, 9999), (32, 9999)] S T3 := Fr.trans hF2 (r3.mono rfl)
  have hF23 : Fr [(32, 9999)] T1 T3 := Fr.trans s3 r3
  refine ⟨T3, ?_, ⟨?_, fun i hi => ?_, fun i hi => ?_, fun c s hc hs => ?_, ?_, fun c s hc hs => ?_, fun c hc => ?_⟩, hF3.mono2 (by decide)⟩
  · have e0 := hW.hr
    have hsame : (if b = true then some true else if (if oo (rnN v (v 144 + 1) (v 5)) = oo 0 then false else true) = true then some true else some false) = some B := by
      rw [← hB]
      cases b with
      | true => rfl
      | false =>
        by_cases h : rnN v (v 144 + 1) (v 5) = 0
        · rw [h]; rfl
        · have h1 : rnN v (v 144 + 1) (v 5) = 1 := by omega
          rw [h1]; rfl
    have hx : (if b = true then some true else if t_X2_isRainTold 7 (oo (v 144 + 1)) (sI S 28 0 (oo (v 144 + 1))) = true then some true else some false) = some B := by
      rw [← hsame]
      unfold t_X2_isRainTold
      rw [show rf 7 7 = 15 from rfl, hrn]
      rfl
    simp (disch := omega) only [f_X10_passHour, ↓oo_m1, oo_0, oo_1, oo_add, sI_same, e0, hx, Option.bind_some, Option.bind_none, t1, s1, r1]
  · rw [pnN_144, hF23.row (c := 28) rfl]; exact e280
  · rw [show (28 + 1 : Nat) = 29 from rfl, hF23.row (c := 29) rfl, t2 i hi, pnN_wh hi]
    unfold pX
    by_cases h : i < v 3
    · rw [if_pos h]
    · rw [if_neg h]
      unfold whN
      rw [wtN_0 hO (.inl (by omega)) (v 4) (Nat.le_refl _), if_pos rfl]
  · rw [pnN_o (by omega), show (28 + 2 : Nat) = 30 from rfl, hF3.row (c := 30) rfl]; exact hW.wn i hi
  · rw [show (28 + 3 : Nat) = 31 from rfl, hF23.row (c := 31) rfl, t3 c s hc hs]
    unfold cX
    by_cases h : c < v 3
    · rw [if_pos (we_some hO hS h)]
    · rw [pnN_cto (.inl (by omega)) hc hs, ite_self]
  · rw [pnN_o (by omega), hF3.get (c := 28) (j := 4) rfl]; exact hW.cn
  · rw [pnN_o (show 193 < 144 ∨ (151 ≤ 193 ∧ 193 < 157) ∨ 193 = 193 ∨ 274 ≤ 193 by omega)] at hc
    rw [show (28 + 4 : Nat) = 32 from rfl, r2 c s hc hs]
    have h5 : bxN v c < 3 := (hS.2.2.2.2.2.1 c hc).2.1
    unfold mX
    rw [if_pos (.inl h5)]
    by_cases h0 : v 0 ≤ s
    · rw [mxN_0 hS hc hs h0, pnN_clo (.inr h0) (by omega) hs, (hS.2.2.2.2.2.2 c s hc hs).2 h0]
    · rw [pnN_cl hc c8 (by omega) b0]
  · rw [pnN_o (show 193 < 144 ∨ (151 ≤ 193 ∧ 193 < 157) ∨ 193 = 193 ∨ 274 ≤ 193 by omega)] at hc
    have p0 := pnN_ci (v := v) (wet := wetN v b) (show c < 8 by omega) (show 0 < 4 by decide)
    rw [Nat.add_zero] at p0
    rw [p0, pnN_ci (by omega) (by decide), pnN_ci (by omega) (by decide), show (28 + 5 : Nat) = 33 from rfl, show (28 + 6 : Nat) = 34 from rfl, show (28 + 7 : Nat) = 35 from rfl, hF3.row (c := 33) rfl, hF3.row (c := 34) rfl, hF3.row (c := 35) rfl]
    exact ⟨hW.cf c hc, hW.li c hc, hW.ca c hc⟩
end PC
