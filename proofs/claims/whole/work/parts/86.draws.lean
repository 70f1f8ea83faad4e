theorem wkN_ind {nx : Int32 → Int32} {dr : Int32 → Nat → Nat} {np : Nat} : ∀ m k x c p q, (wkN nx dr np m k x c p).1 = (wkN nx dr np m k x c q).1 ∧ (wkN nx dr np m k x c p).2.1 = (wkN nx dr np m k x c q).2.1 := by
  intro m
  induction m with
  | zero => intro k x c p q; exact ⟨rfl, rfl⟩
  | succ m ih =>
    intro k x c p q
    rw [wkN, wkN]
    split
    · exact ih (k + 1) (nx (nx x)) (c + 1) (upN p k (dr (nx x) np)) (upN q k (dr (nx x) np))
    · exact ih (k + 1) (nx x) c p q
def plN (v p : Nat → Nat) : Nat → Nat := fun j => if 145 ≤ j ∧ j < 151 then p (j - 145) else v j
theorem plN_o {v p : Nat → Nat} {j : Nat} (h : j < 145 ∨ 151 ≤ j) : plN v p j = v j := if_neg (by omega)
theorem plN_in {v p : Nat → Nat} {w : Nat} (h : w < 6) : plN v p (145 + w) = p w := by
  unfold plN
  rw [if_pos (by omega), Nat.add_sub_cancel_left]
theorem plN_ok {v p : Nat → Nat} (hS : SOK v) (hO : HOK v) (hp : ∀ w, w < v 3 → p w < v 1) : SOK (plN v p) := by
  obtain ⟨⟨b0, b1, b2, b3, b4, b5⟩, -⟩ := hO
  obtain ⟨a1, a2, a3, a4, a5, a6, a7⟩ := hS
  refine ⟨by simp (disch := omega) only [plN_o]; exact a1, fun x hx => ?_, fun x y hx hy => ?_, fun c s hc hs => ?_, by simp (disch := omega) only [plN_o]; exact a5, fun c hc => ?_, fun c s hc hs => ?_⟩
  · rw [plN_o (by omega)] at hx
    rw [plN_in (show x < 6 by omega), show plN v p 1 = v 1 from plN_o (by omega), show plN v p 3 = v 3 from plN_o (by omega), show plN v p (151 + x) = v (151 + x) from plN_o (by omega)]
    exact ⟨hp x hx, (a2 x hx).2⟩
  · rw [plN_o (by omega)] at hx hy
    simp (disch := omega) only [plN_o]
    exact a3 x y hx hy
  · simp (disch := omega) only [plN_o]
    exact a4 c s hc hs
  · rw [plN_o (by omega)] at hc
    have := a6 c hc
    simp (disch := omega) only [plN_o]
    exact this
  · rw [plN_o (by omega)] at hc
    simp (disch := omega) only [plN_o]
    exact a7 c s hc hs
def swN (v : Nat → Nat) (a b : Nat) : Nat → Nat := upN (upN v (151 + a) (v (151 + b))) (151 + b) (v (151 + a))
theorem swN_o {v : Nat → Nat} {a b j : Nat} (h : j < 151 ∨ 157 ≤ j) (ha : a < 6) (hb : b < 6) : swN v a b j = v j := by
  unfold swN
  rw [upN_ne (by omega), upN_ne (by omega)]
section DW
variable {nx : Int32 → Int32} {dr : Int32 → Nat → Nat} {v : Nat → Nat}
theorem walks_28 (hdc : ∀ (S : XS) (k : Nat), 1 ≤ k → k < 2147483648 → f_X1_draw 178 (oo k) S = some (oo (dr (S.1 178 4) k), sI S 178 4 (nx (S.1 178 4)))) (hlt : ∀ x k, 1 ≤ k → dr x k < k) (hO : HOK v) (hp1 : 1 ≤ v 1) : ∀ m k n c T x p, k + m = v 3 → m < n → IsHill T 7 v → T.1 178 4 = x → (∀ i, i < 6 → T.1 29 i = oo (p i)) → c + m ≤ 1000 → ∃ U, f_X1_drawWalks_L5 178 7 28 n (oo c) (oo k) T = some (oo (wkN nx dr (v 1) m k x c p).2.1, U) ∧ U.1 178 4 = (wkN nx dr (v 1) m k x c p).1 ∧ (∀ i, i < 6 → U.1 29 i = oo ((wkN nx dr (v 1) m k x c p).2.2 i)) ∧ Fr [(178, 4), (29, 9999)] T U := by
  obtain ⟨⟨b0, b1, b2, b3, b4, b5⟩, -⟩ := id hO
  intro m
  induction m with
  | zero =>
    intro k n c T x p hk hn hH hx hp hc
    obtain ⟨n, rfl⟩ : ∃ n', n = n' + 1 := ⟨n - 1, by omega⟩
    refine ⟨T, ?_, hx, hp, Fr.rf _ _⟩
    simp (disch := omega) only [f_X1_drawWalks_L5, ↓oo_m1, oo_0, oo_1, oo_2, oo_3, oo_4, oo_5, oo_6, oo_7, oo_8, oo_9, oo_10, oo_12, oo_13, oo_14, oo_15, oo_16, oo_17, oo_18, oo_20, oo_24, oo_30, oo_32, oo_36, oo_40, oo_41, oo_48, oo_50, oo_57, oo_59, oo_60, oo_61, oo_62, oo_63, oo_64, oo_66, oo_72, oo_78, oo_96, oo_97, oo_99, oo_100, oo_101, oo_105, oo_107, oo_108, oo_109, oo_110, oo_111, oo_112, oo_114, oo_115, oo_116, oo_117, oo_119, oo_122, oo_128, oo_130, oo_134, oo_135, oo_136, oo_137, oo_138, oo_139, oo_140, oo_141, oo_142, oo_143, oo_144, oo_145, oo_151, oo_157, oo_194, oo_200, oo_240, oo_255, oo_256, oo_274, oo_276, oo_300, oo_516, oo_900, oo_940, oo_941, oo_999, oo_1000, oo_1040, oo_10000, oo_add, oo_mul, oo_sub, oo_lt, oo_le, oo_eq, oo_nat, oo_div, oo_rem, oo_nn, nn_oo, oo_nnlt, nn_oolt, oo_nnle, nn_oole, ↓reduceIte, if_pos, if_neg, or_false, false_or, or_true, true_or, and_true, true_and, and_false, false_and, not_true_eq_false, not_false_eq_true, Nat.not_lt_zero, Bool.false_eq_true, Bool.true_eq_false, rf_7_0, rf_7_1, rf_7_2, rf_7_3, rf_7_4, rf_7_5, rf_7_6, rf_7_7, g_8, p_8, hH.n2, wkN]
  | succ m ih =>
    intro k n c T x p hk hn hH hx hp hc
    obtain ⟨n, rfl⟩ : ∃ n', n = n' + 1 := ⟨n - 1, by omega⟩
    have d1 := hdc T 3 (by decide) (by decide)
    rw [hx] at d1
    rw [wkN]
    have h3 := hlt x 3 (by decide)
    by_cases h : dr x 3 = 0
    · rw [if_pos h]
      have hF1 : Fr [(178, 4)] T (sI T 178 4 (nx x)) := Fr.sIp (Fr.rf _ _) rfl
      have hH1 := hH.fr hF1 rfl
      have d2 := hdc (sI T 178 4 (nx x)) (v 1) hp1 (by omega)
      rw [sI_same] at d2
      have hnp := hlt (nx x) (v 1) hp1
      obtain ⟨U, u1, u2, u3, u4⟩ := ih (k + 1) n (c + 1) (sI (sI (sI T 178 4 (nx x)) 178 4 (nx (nx x))) 29 k (oo (dr (nx x) (v 1)))) (nx (nx x)) (upN p k (dr (nx x) (v 1))) (by omega) (by omega) (hH1.fr (l := [(178, 4), (29, 9999)]) (Fr.sIr (Fr.sIp (Fr.rf _ _) rfl) rfl) rfl) (by rw [sI_cell (by decide), sI_same]) (fun i hi => by
        by_cases h5 : i = k
        · rw [h5, upN_same, sI_same]
        · rw [upN_ne h5, sI_place h5, sI_cell (by decide), sI_cell (by decide)]; exact hp i hi) (by omega)
      refine ⟨U, ?_, u2, u3, Fr.trans (Fr.sIr (Fr.sIp (Fr.sIp (Fr.rf _ _) rfl) rfl) rfl) u4⟩
      simp (disch := omega) only [f_X1_drawWalks_L5, ↓oo_m1, oo_0, oo_1, oo_2, oo_3, oo_4, oo_5, oo_6, oo_7, oo_8, oo_9, oo_10, oo_12, oo_13, oo_14, oo_15, oo_16, oo_17, oo_18, oo_20, oo_24, oo_30, oo_32, oo_36, oo_40, oo_41, oo_48, oo_50, oo_57, oo_59, oo_60, oo_61, oo_62, oo_63, oo_64, oo_66, oo_72, oo_78, oo_96, oo_97, oo_99, oo_100, oo_101, oo_105, oo_107, oo_108, oo_109, oo_110, oo_111, oo_112, oo_114, oo_115, oo_116, oo_117, oo_119, oo_122, oo_128, oo_130, oo_134, oo_135, oo_136, oo_137, oo_138, oo_139, oo_140, oo_141, oo_142, oo_143, oo_144, oo_145, oo_151, oo_157, oo_194, oo_200, oo_240, oo_255, oo_256, oo_274, oo_276, oo_300, oo_516, oo_900, oo_940, oo_941, oo_999, oo_1000, oo_1040, oo_10000, oo_add, oo_mul, oo_sub, oo_lt, oo_le, oo_eq, oo_nat, oo_div, oo_rem, oo_nn, nn_oo, oo_nnlt, nn_oolt, oo_nnle, nn_oole, ↓reduceIte, if_pos, if_neg, or_false, false_or, or_true, true_or, and_true, true_and, and_false, false_and, not_true_eq_false, not_false_eq_true, Nat.not_lt_zero, Bool.false_eq_true, Bool.true_eq_false, Option.bind_some, Option.bind_none, rf_7_0, rf_7_1, rf_7_2, rf_7_3, rf_7_4, rf_7_5, rf_7_6, rf_7_7, rf_28_1, rf_28_2, rf_28_3, rf_28_5, rf_28_6, rf_28_7, rf_28_8, g_8, p_8, p_29, hH.n2, d1, h, hH1.n1, d2]
      exact u1
    · rw [if_neg h]
      have hF1 : Fr [(178, 4)] T (sI T 178 4 (nx x)) := Fr.sIp (Fr.rf _ _) rfl
      obtain ⟨U, u1, u2, u3, u4⟩ := ih (k + 1) n c (sI T 178 4 (nx x)) (nx x) p (by omega) (by omega) (hH.fr hF1 rfl) (sI_same _ _ _ _) (fun i hi => by rw [sI_cell (by decide)]; exact hp i hi) (by omega)
      refine ⟨U, ?_, u2, u3, Fr.trans (Fr.sIp (Fr.rf _ _) rfl) u4⟩
      simp (disch := omega) only [f_X1_drawWalks_L5, ↓oo_m1, oo_0, oo_1, oo_2, oo_3, oo_4, oo_5, oo_6, oo_7, oo_8, oo_9, oo_10, oo_12, oo_13, oo_14, oo_15, oo_16, oo_17, oo_18, oo_20, oo_24, oo_30, oo_32, oo_36, oo_40, oo_41, oo_48, oo_50, oo_57, oo_59, oo_60, oo_61, oo_62, oo_63, oo_64, oo_66, oo_72, oo_78, oo_96, oo_97, oo_99, oo_100, oo_101, oo_105, oo_107, oo_108, oo_109, oo_110, oo_111, oo_112, oo_114, oo_115, oo_116, oo_117, oo_119, oo_122, oo_128, oo_130, oo_134, oo_135, oo_136, oo_137, oo_138, oo_139, oo_140, oo_141, oo_142, oo_143, oo_144, oo_145, oo_151, oo_157, oo_194, oo_200, oo_240, oo_255, oo_256, oo_274, oo_276, oo_300, oo_516, oo_900, oo_940, oo_941, oo_999, oo_1000, oo_1040, oo_10000, oo_add, oo_mul, oo_sub, oo_lt, oo_le, oo_eq, oo_nat, oo_div, oo_rem, oo_nn, nn_oo, oo_nnlt, nn_oolt, oo_nnle, nn_oole, ↓reduceIte, if_pos, if_neg, or_false, false_or, or_true, true_or, and_true, true_and, and_false, false_and, not_true_eq_false, not_false_eq_true, Nat.not_lt_zero, Bool.false_eq_true, Bool.true_eq_false, Option.bind_some, Option.bind_none, rf_7_0, rf_7_1, rf_7_2, rf_7_3, rf_7_4, rf_7_5, rf_7_6, rf_7_7, rf_28_1, rf_28_2, rf_28_3, rf_28_5, rf_28_6, rf_28_7, rf_28_8, g_8, p_8, hH.n2, d1, h]
      exact u1
theorem walks_179 (hdc : ∀ (S : XS) (k : Nat), 1 ≤ k → k < 2147483648 → f_X1_draw 178 (oo k) S = some (oo (dr (S.1 178 4) k), sI S 178 4 (nx (S.1 178 4)))) (hlt : ∀ x k, 1 ≤ k → dr x k < k) (hO : HOK v) (hp1 : 1 ≤ v 1) : ∀ m k n c T x p, k + m = v 3 → m < n → IsHill T 7 v → T.1 178 4 = x → c + m ≤ 1000 → ∃ U, f_X1_drawWalks_L5 178 7 179 n (oo c) (oo k) T = some (oo (wkN nx dr (v 1) m k x c p).2.1, U) ∧ U.1 178 4 = (wkN nx dr (v 1) m k x c p).1 ∧ Fr [(178, 4), (180, 9999)] T U := by
  obtain ⟨⟨b0, b1, b2, b3, b4, b5⟩, -⟩ := id hO
  intro m
  induction m with
  | zero =>
    intro k n c T x p hk hn hH hx hc
    obtain ⟨n, rfl⟩ : ∃ n', n = n' + 1 := ⟨n - 1, by omega⟩
    refine ⟨T, ?_, hx, Fr.rf _ _⟩
    simp (disch := omega) only [f_X1_drawWalks_L5, ↓oo_m1, oo_0, oo_1, oo_2, oo_3, oo_4, oo_5, oo_6, oo_7, oo_8, oo_9, oo_10, oo_12, oo_13, oo_14, oo_15, oo_16, oo_17, oo_18, oo_20, oo_24, oo_30, oo_32, oo_36, oo_40, oo_41, oo_48, oo_50, oo_57, oo_59, oo_60, oo_61, oo_62, oo_63, oo_64, oo_66, oo_72, oo_78, oo_96, oo_97, oo_99, oo_100, oo_101, oo_105, oo_107, oo_108, oo_109, oo_110, oo_111, oo_112, oo_114, oo_115, oo_116, oo_117, oo_119, oo_122, oo_128, oo_130, oo_134, oo_135, oo_136, oo_137, oo_138, oo_139, oo_140, oo_141, oo_142, oo_143, oo_144, oo_145, oo_151, oo_157, oo_194, oo_200, oo_240, oo_255, oo_256, oo_274, oo_276, oo_300, oo_516, oo_900, oo_940, oo_941, oo_999, oo_1000, oo_1040, oo_10000, oo_add, oo_mul, oo_sub, oo_lt, oo_le, oo_eq, oo_nat, oo_div, oo_rem, oo_nn, nn_oo, oo_nnlt, nn_oolt, oo_nnle, nn_oole, ↓reduceIte, if_pos, if_neg, or_false, false_or, or_true, true_or, and_true, true_and, and_false, false_and, not_true_eq_false, not_false_eq_true, Nat.not_lt_zero, Bool.false_eq_true, Bool.true_eq_false, rf_7_0, rf_7_1, rf_7_2, rf_7_3, rf_7_4, rf_7_5, rf_7_6, rf_7_7, g_8, p_8, hH.n2, wkN]
  | succ m ih =>
    intro k n c T x p hk hn hH hx hc
    obtain ⟨n, rfl⟩ : ∃ n', n = n' + 1 := ⟨n - 1, by omega⟩
    have d1 := hdc T 3 (by decide) (by decide)
    rw [hx] at d1
    rw [wkN]
    have h3 := hlt x 3 (by decide)
    by_cases h : dr x 3 = 0
    · rw [if_pos h]
      have hF1 : Fr [(178, 4)] T (sI T 178 4 (nx x)) := Fr.sIp (Fr.rf _ _) rfl
      have hH1 := hH.fr hF1 rfl
      have d2 := hdc (sI T 178 4 (nx x)) (v 1) hp1 (by omega)
      rw [sI_same] at d2
      have hnp := hlt (nx x) (v 1) hp1
      obtain ⟨U, u1, u2, u4⟩ := ih (k + 1) n (c + 1) (sI (sI (sI T 178 4 (nx x)) 178 4 (nx (nx x))) 180 k (oo (dr (nx x) (v 1)))) (nx (nx x)) (upN p k (dr (nx x) (v 1))) (by omega) (by omega) (hH1.fr (l := [(178, 4), (180, 9999)]) (Fr.sIr (Fr.sIp (Fr.rf _ _) rfl) rfl) rfl) (by rw [sI_cell (by decide), sI_same]) (by omega)
      refine ⟨U, ?_, u2, Fr.trans (Fr.sIr (Fr.sIp (Fr.sIp (Fr.rf _ _) rfl) rfl) rfl) u4⟩
      simp (disch := omega) only [f_X1_drawWalks_L5, ↓oo_m1, oo_0, oo_1, oo_2, oo_3, oo_4, oo_5, oo_6, oo_7, oo_8, oo_9, oo_10, oo_12, oo_13, oo_14, oo_15, oo_16, oo_17, oo_18, oo_20, oo_24, oo_30, oo_32, oo_36, oo_40, oo_41, oo_48, oo_50, oo_57, oo_59, oo_60, oo_61, oo_62, oo_63, oo_64, oo_66, oo_72, oo_78, oo_96, oo_97, oo_99, oo_100, oo_101, oo_105, oo_107, oo_108, oo_109, oo_110, oo_111, oo_112, oo_114, oo_115, oo_116, oo_117, oo_119, oo_122, oo_128, oo_130, oo_134, oo_135, oo_136, oo_137, oo_138, oo_139, oo_140, oo_141, oo_142, oo_143, oo_144, oo_145, oo_151, oo_157, oo_194, oo_200, oo_240, oo_255, oo_256, oo_274, oo_276, oo_300, oo_516, oo_900, oo_940, oo_941, oo_999, oo_1000, oo_1040, oo_10000, oo_add, oo_mul, oo_sub, oo_lt, oo_le, oo_eq, oo_nat, oo_div, oo_rem, oo_nn, nn_oo, oo_nnlt, nn_oolt, oo_nnle, nn_oole, ↓reduceIte, if_pos, if_neg, or_false, false_or, or_true, true_or, and_true, true_and, and_false, false_and, not_true_eq_false, not_false_eq_true, Nat.not_lt_zero, Bool.false_eq_true, Bool.true_eq_false, Option.bind_some, Option.bind_none, rf_7_0, rf_7_1, rf_7_2, rf_7_3, rf_7_4, rf_7_5, rf_7_6, rf_7_7, rf_179_1, rf_179_2, rf_179_3, rf_179_5, rf_179_6, rf_179_7, rf_179_8, g_8, p_8, p_180, hH.n2, d1, h, hH1.n1, d2]
      exact u1
    · rw [if_neg h]
      have hF1 : Fr [(178, 4)] T (sI T 178 4 (nx x)) := Fr.sIp (Fr.rf _ _) rfl
      obtain ⟨U, u1, u2, u4⟩ := ih (k + 1) n c (sI T 178 4 (nx x)) (nx x) p (by omega) (by omega) (hH.fr hF1 rfl) (sI_same _ _ _ _) (by omega)
      refine ⟨U, ?_, u2, Fr.trans (Fr.sIp (Fr.rf _ _) rfl) u4⟩
      simp (disch := omega) only [f_X1_drawWalks_L5, ↓oo_m1, oo_0, oo_1, oo_2, oo_3, oo_4, oo_5, oo_6, oo_7, oo_8, oo_9, oo_10, oo_12, oo_13, oo_14, oo_15, oo_16, oo_17, oo_18, oo_20, oo_24, oo_30, oo_32, oo_36, oo_40, oo_41, oo_48, oo_50, oo_57, oo_59, oo_60, oo_61, oo_62, oo_63, oo_64, oo_66, oo_72, oo_78, oo_96, oo_97, oo_99, oo_100, oo_101, oo_105, oo_107, oo_108, oo_109, oo_110, oo_111, oo_112, oo_114, oo_115, oo_116, oo_117, oo_119, oo_122, oo_128, oo_130, oo_134, oo_135, oo_136, oo_137, oo_138, oo_139, oo_140, oo_141, oo_142, oo_143, oo_144, oo_145, oo_151, oo_157, oo_194, oo_200, oo_240, oo_255, oo_256, oo_274, oo_276, oo_300, oo_516, oo_900, oo_940, oo_941, oo_999, oo_1000, oo_1040, oo_10000, oo_add, oo_mul, oo_sub, oo_lt, oo_le, oo_eq, oo_nat, oo_div, oo_rem, oo_nn, nn_oo, oo_nnlt, nn_oolt, oo_nnle, nn_oole, ↓reduceIte, if_pos, if_neg, or_false, false_or, or_true, true_or, and_true, true_and, and_false, false_and, not_true_eq_false, not_false_eq_true, Nat.not_lt_zero, Bool.false_eq_true, Bool.true_eq_false, Option.bind_some, Option.bind_none, rf_7_0, rf_7_1, rf_7_2, rf_7_3, rf_7_4, rf_7_5, rf_7_6, rf_7_7, rf_179_1, rf_179_2, rf_179_3, rf_179_5, rf_179_6, rf_179_7, rf_179_8, g_8, p_8, hH.n2, d1, h]
      exact u1
theorem walks_n (hdn : ∀ (S : XS) (k : Nat), 1 ≤ k → k < 2147483648 → f_X12_draw 188 (oo k) S = some (oo (dr (S.1 188 47) k), sI S 188 47 (nx (S.1 188 47)))) (hlt : ∀ x k, 1 ≤ k → dr x k < k) (hO : HOK v) (hp1 : 1 ≤ v 1) {z y : Int32} : ∀ m k n c T x p, k + m = v 3 → m < n → IsC T 190 516 (plN v p) → T.1 188 47 = x → T.1 188 50 = oo c → c + m ≤ 1000 → ∃ U, f_X12_drawHours_L30 z 188 y n (oo k) T = some U ∧ U.1 188 47 = (wkN nx dr (v 1) m k x c p).1 ∧ U.1 188 50 = oo (wkN nx dr (v 1) m k x c p).2.1 ∧ IsC U 190 516 (plN v (wkN nx dr (v 1) m k x c p).2.2) ∧ Fr [(188, 47), (188, 50), (190, 9999)] T U := by
  obtain ⟨⟨b0, b1, b2, b3, b4, b5⟩, -⟩ := id hO
  intro m
  induction m with
  | zero =>
    intro k n c T x p hk hn hT hx h50 hc
    obtain ⟨n, rfl⟩ : ∃ n', n = n' + 1 := ⟨n - 1, by omega⟩
    have e3 : T.1 190 3 = oo (v 3) := by rw [hT 3 (by decide), plN_o (by omega)]
    refine ⟨T, ?_, hx, h50, hT, Fr.rf _ _⟩
    simp (disch := omega) only [f_X12_drawHours_L30, ↓oo_m1, oo_0, oo_1, oo_2, oo_3, oo_4, oo_5, oo_6, oo_7, oo_8, oo_9, oo_10, oo_12, oo_13, oo_14, oo_15, oo_16, oo_17, oo_18, oo_20, oo_24, oo_30, oo_32, oo_36, oo_40, oo_41, oo_48, oo_50, oo_57, oo_59, oo_60, oo_61, oo_62, oo_63, oo_64, oo_66, oo_72, oo_78, oo_96, oo_97, oo_99, oo_100, oo_101, oo_105, oo_107, oo_108, oo_109, oo_110, oo_111, oo_112, oo_114, oo_115, oo_116, oo_117, oo_119, oo_122, oo_128, oo_130, oo_134, oo_135, oo_136, oo_137, oo_138, oo_139, oo_140, oo_141, oo_142, oo_143, oo_144, oo_145, oo_151, oo_157, oo_194, oo_200, oo_240, oo_255, oo_256, oo_274, oo_276, oo_300, oo_516, oo_900, oo_940, oo_941, oo_999, oo_1000, oo_1040, oo_10000, oo_add, oo_mul, oo_sub, oo_lt, oo_le, oo_eq, oo_nat, oo_div, oo_rem, oo_nn, nn_oo, oo_nnlt, nn_oolt, oo_nnle, nn_oole, ↓reduceIte, if_pos, if_neg, or_false, false_or, or_true, true_or, and_true, true_and, and_false, false_and, not_true_eq_false, not_false_eq_true, Nat.not_lt_zero, Bool.false_eq_true, Bool.true_eq_false, rf_188_1, rf_188_14, rf_188_15, rf_188_16, rf_188_17, rf_188_18, rf_188_19, rf_188_20, rf_188_21, rf_188_22, rf_188_24, rf_188_25, rf_188_26, rf_188_27, rf_188_28, rf_188_31, rf_188_32, rf_188_34, rf_188_35, rf_188_36, rf_188_37, rf_188_38, rf_188_42, rf_188_43, rf_188_51, rf_188_52, rf_188_53, rf_188_55, e3]
  | succ m ih =>
    intro k n c T x p hk hn hT hx h50 hc
    obtain ⟨n, rfl⟩ : ∃ n', n = n' + 1 := ⟨n - 1, by omega⟩
    have e3 : T.1 190 3 = oo (v 3) := by rw [hT 3 (by decide), plN_o (by omega)]
    have e1 : T.1 190 1 = oo (v 1) := by rw [hT 1 (by decide), plN_o (by omega)]
    have d1 := hdn T 3 (by decide) (by decide)
    rw [hx] at d1
    rw [wkN]
    have h3 := hlt x 3 (by decide)
    by_cases h : dr x 3 = 0
    · rw [if_pos h]
      have d2 := hdn (sI T 188 47 (nx x)) (v 1) hp1 (by omega)
      rw [sI_same] at d2
      have hnp := hlt (nx x) (v 1) hp1
      obtain ⟨U, u1, u2, u3, u4, u5⟩ := ih (k + 1) n (c + 1) (sI (sI (sI (sI T 188 47 (nx x)) 188 47 (nx (nx x))) 190 (145 + k) (oo (dr (nx x) (v 1)))) 188 50 (oo (c + 1))) (nx (nx x)) (upN p k (dr (nx x) (v 1))) (by omega) (by omega) ((((hT.ne (d := 188) (by decide)).ne (d := 188) (by decide)).set.ne (d := 188) (by decide)).ext (fun j hj => by
        by_cases h5 : j = 145 + k
        · rw [h5, upN_same, plN_in (by omega), upN_same]
        · rw [upN_ne h5]
          unfold plN
          by_cases h6 : 145 ≤ j ∧ j < 151
          · rw [if_pos h6, if_pos h6, upN_ne (by omega)]
          · rw [if_neg h6, if_neg h6])) (by simp (disch := omega) only [sI_same, sI_place, sI_cell, sI_long, sL_int, sL_same, sL_place, sL_cell]) (sI_same _ _ _ _) (by omega)
      refine ⟨U, ?_, u2, u3, u4, Fr.trans (Fr.sIp (Fr.sIr (Fr.sIp (Fr.sIp (Fr.rf _ _) rfl) rfl) rfl) rfl) u5⟩
      simp (disch := omega) only [f_X12_drawHours_L30, ↓oo_m1, oo_0, oo_1, oo_2, oo_3, oo_4, oo_5, oo_6, oo_7, oo_8, oo_9, oo_10, oo_12, oo_13, oo_14, oo_15, oo_16, oo_17, oo_18, oo_20, oo_24, oo_30, oo_32, oo_36, oo_40, oo_41, oo_48, oo_50, oo_57, oo_59, oo_60, oo_61, oo_62, oo_63, oo_64, oo_66, oo_72, oo_78, oo_96, oo_97, oo_99, oo_100, oo_101, oo_105, oo_107, oo_108, oo_109, oo_110, oo_111, oo_112, oo_114, oo_115, oo_116, oo_117, oo_119, oo_122, oo_128, oo_130, oo_134, oo_135, oo_136, oo_137, oo_138, oo_139, oo_140, oo_141, oo_142, oo_143, oo_144, oo_145, oo_151, oo_157, oo_194, oo_200, oo_240, oo_255, oo_256, oo_274, oo_276, oo_300, oo_516, oo_900, oo_940, oo_941, oo_999, oo_1000, oo_1040, oo_10000, oo_add, oo_mul, oo_sub, oo_lt, oo_le, oo_eq, oo_nat, oo_div, oo_rem, oo_nn, nn_oo, oo_nnlt, nn_oolt, oo_nnle, nn_oole, ↓reduceIte, if_pos, if_neg, or_false, false_or, or_true, true_or, and_true, true_and, and_false, false_and, not_true_eq_false, not_false_eq_true, Nat.not_lt_zero, Bool.false_eq_true, Bool.true_eq_false, Option.bind_some, Option.bind_none, rf_188_1, rf_188_14, rf_188_15, rf_188_16, rf_188_17, rf_188_18, rf_188_19, rf_188_20, rf_188_21, rf_188_22, rf_188_24, rf_188_25, rf_188_26, rf_188_27, rf_188_28, rf_188_31, rf_188_32, rf_188_34, rf_188_35, rf_188_36, rf_188_37, rf_188_38, rf_188_42, rf_188_43, rf_188_51, rf_188_52, rf_188_53, rf_188_55, ln_190, sI_same, sI_place, sI_cell, sI_long, sL_int, sL_same, sL_place, sL_cell, e3, e1, d1, h, d2, h50]
      exact u1
    · rw [if_neg h]
      obtain ⟨U, u1, u2, u3, u4, u5⟩ := ih (k + 1) n c (sI T 188 47 (nx x)) (nx x) p (by omega) (by omega) (hT.ne (d := 188) (by decide)) (sI_same _ _ _ _) (by rw [sI_place (by decide)]; exact h50) (by omega)
      refine ⟨U, ?_, u2, u3, u4, Fr.trans (Fr.sIp (Fr.rf _ _) rfl) u5⟩
      simp (disch := omega) only [f_X12_drawHours_L30, ↓oo_m1, oo_0, oo_1, oo_2, oo_3, oo_4, oo_5, oo_6, oo_7, oo_8, oo_9, oo_10, oo_12, oo_13, oo_14, oo_15, oo_16, oo_17, oo_18, oo_20, oo_24, oo_30, oo_32, oo_36, oo_40, oo_41, oo_48, oo_50, oo_57, oo_59, oo_60, oo_61, oo_62, oo_63, oo_64, oo_66, oo_72, oo_78, oo_96, oo_97, oo_99, oo_100, oo_101, oo_105, oo_107, oo_108, oo_109, oo_110, oo_111, oo_112, oo_114, oo_115, oo_116, oo_117, oo_119, oo_122, oo_128, oo_130, oo_134, oo_135, oo_136, oo_137, oo_138, oo_139, oo_140, oo_141, oo_142, oo_143, oo_144, oo_145, oo_151, oo_157, oo_194, oo_200, oo_240, oo_255, oo_256, oo_274, oo_276, oo_300, oo_516, oo_900, oo_940, oo_941, oo_999, oo_1000, oo_1040, oo_10000, oo_add, oo_mul, oo_sub, oo_lt, oo_le, oo_eq, oo_nat, oo_div, oo_rem, oo_nn, nn_oo, oo_nnlt, nn_oolt, oo_nnle, nn_oole, ↓reduceIte, if_pos, if_neg, or_false, false_or, or_true, true_or, and_true, true_and, and_false, false_and, not_true_eq_false, not_false_eq_true, Nat.not_lt_zero, Bool.false_eq_true, Bool.true_eq_false, Option.bind_some, Option.bind_none, rf_188_1, rf_188_14, rf_188_15, rf_188_16, rf_188_17, rf_188_18, rf_188_19, rf_188_20, rf_188_21, rf_188_22, rf_188_24, rf_188_25, rf_188_26, rf_188_27, rf_188_28, rf_188_31, rf_188_32, rf_188_34, rf_188_35, rf_188_36, rf_188_37, rf_188_38, rf_188_42, rf_188_43, rf_188_51, rf_188_52, rf_188_53, rf_188_55, e3, d1, h]
      exact u1
/-- a change drawn: seed, whether, who wears what -/
def chN (nx : Int32 → Int32) (dr : Int32 → Nat → Nat) (nw : Nat) (x : Int32) (w : Nat → Nat) : Int32 × Nat × (Nat → Nat) := if dr x 8 = 0 then (if dr (nx x) nw = dr (nx (nx x)) nw then (nx (nx (nx x)), 0, w) else (nx (nx (nx x)), 1, upN (upN w (dr (nx x) nw) (w (dr (nx (nx x)) nw))) (dr (nx (nx x)) nw) (w (dr (nx x) nw)))) else (nx x, 0, w)
end DW
theorem change_28 {nx : Int32 → Int32} {dr : Int32 → Nat → Nat} {v : Nat → Nat} (hdc : ∀ (S : XS) (k : Nat), 1 ≤ k → k < 2147483648 → f_X1_draw 178 (oo k) S = some (oo (dr (S.1 178 4) k), sI S 178 4 (nx (S.1 178 4)))) (hlt : ∀ x k, 1 ≤ k → dr x k < k) (hO : HOK v) (h31 : 1 ≤ v 3) {T : XS} {x : Int32} {w : Nat → Nat} (hH : IsHill T 7 v) (hx : T.1 178 4 = x) (hw : ∀ i, i < 6 → T.1 30 i = oo (w i)) : ∃ U, f_X1_drawChange 178 7 28 T = some (oo (chN nx dr (v 3) x w).2.1, U) ∧ U.1 178 4 = (chN nx dr (v 3) x w).1 ∧ (∀ i, i < 6 → U.1 30 i = oo ((chN nx dr (v 3) x w).2.2 i)) ∧ Fr [(178, 4), (30, 9999)] T U := by
  obtain ⟨⟨b0, b1, b2, b3, b4, b5⟩, -⟩ := id hO
  have d1 := hdc T 8 (by decide) (by decide)
  rw [hx] at d1
  have h8 := hlt x 8 (by decide)
  have hF1 : Fr [(178, 4)] T (sI T 178 4 (nx x)) := Fr.sIp (Fr.rf _ _) rfl
  have hH1 := hH.fr hF1 rfl
  unfold chN
  by_cases h : dr x 8 = 0
  · rw [if_pos h]
    have d2 := hdc (sI T 178 4 (nx x)) (v 3) h31 (by omega)
    rw [sI_same] at d2
    have hF2 : Fr [(178, 4)] (sI T 178 4 (nx x)) (sI (sI T 178 4 (nx x)) 178 4 (nx (nx x))) := Fr.sIp (Fr.rf _ _) rfl
    have hH2 := hH1.fr hF2 rfl
    have d3 := hdc (sI (sI T 178 4 (nx x)) 178 4 (nx (nx x))) (v 3) h31 (by omega)
    rw [sI_same] at d3
    have ha := hlt (nx x) (v 3) h31
    have hb := hlt (nx (nx x)) (v 3) h31
    generalize hga : dr (nx x) (v 3) = a at ha d2
    generalize hgb : dr (nx (nx x)) (v 3) = b at hb d3
    have hF3 : Fr [(178, 4)] T (sI (sI (sI T 178 4 (nx x)) 178 4 (nx (nx x))) 178 4 (nx (nx (nx x)))) := Fr.sIp (Fr.sIp (Fr.sIp (Fr.rf _ _) rfl) rfl) rfl
    have e4 : (sI (sI (sI T 178 4 (nx x)) 178 4 (nx (nx x))) 178 4 (nx (nx (nx x)))).1 178 4 = nx (nx (nx x)) := sI_same _ _ _ _
    have hw3 : ∀ i, i < 6 → (sI (sI (sI T 178 4 (nx x)) 178 4 (nx (nx x))) 178 4 (nx (nx (nx x)))).1 30 i = oo (w i) := fun i hi => by rw [hF3.row (c := 30) rfl]; exact hw i hi
    generalize sI (sI (sI T 178 4 (nx x)) 178 4 (nx (nx x))) 178 4 (nx (nx (nx x))) = T3 at d3 hF3 e4 hw3
    by_cases hab : a = b
    · rw [if_pos hab]
      refine ⟨T3, ?_, e4, hw3, hF3.mono rfl⟩
      simp (disch := omega) only [f_X1_drawChange, ↓oo_m1, oo_0, oo_1, oo_2, oo_3, oo_4, oo_5, oo_6, oo_7, oo_8, oo_9, oo_10, oo_12, oo_13, oo_14, oo_15, oo_16, oo_17, oo_18, oo_20, oo_24, oo_30, oo_32, oo_36, oo_40, oo_41, oo_48, oo_50, oo_57, oo_59, oo_60, oo_61, oo_62, oo_63, oo_64, oo_66, oo_72, oo_78, oo_96, oo_97, oo_99, oo_100, oo_101, oo_105, oo_107, oo_108, oo_109, oo_110, oo_111, oo_112, oo_114, oo_115, oo_116, oo_117, oo_119, oo_122, oo_128, oo_130, oo_134, oo_135, oo_136, oo_137, oo_138, oo_139, oo_140, oo_141, oo_142, oo_143, oo_144, oo_145, oo_151, oo_157, oo_194, oo_200, oo_240, oo_255, oo_256, oo_274, oo_276, oo_300, oo_516, oo_900, oo_940, oo_941, oo_999, oo_1000, oo_1040, oo_10000, oo_add, oo_mul, oo_sub, oo_lt, oo_le, oo_eq, oo_nat, oo_div, oo_rem, oo_nn, nn_oo, oo_nnlt, nn_oolt, oo_nnle, nn_oole, ↓reduceIte, if_pos, if_neg, or_false, false_or, or_true, true_or, and_true, true_and, and_false, false_and, not_true_eq_false, not_false_eq_true, Nat.not_lt_zero, Bool.false_eq_true, Bool.true_eq_false, Option.bind_some, Option.bind_none, rf_7_0, rf_7_1, rf_7_2, rf_7_3, rf_7_4, rf_7_5, rf_7_6, rf_7_7, g_8, p_8, d1, h, hH1.n2, d2, hH2.n2, d3, hab]
    · rw [if_neg hab]
      refine ⟨sI (sI T3 30 a (oo (w b))) 30 b (oo (w a)), ?_, ?_, fun i hi => ?_, Fr.sIr (Fr.sIr (hF3.mono rfl) rfl) rfl⟩
      · simp (disch := omega) only [f_X1_drawChange, t_X10_swap, ↓oo_m1, oo_0, oo_1, oo_2, oo_3, oo_4, oo_5, oo_6, oo_7, oo_8, oo_9, oo_10, oo_12, oo_13, oo_14, oo_15, oo_16, oo_17, oo_18, oo_20, oo_24, oo_30, oo_32, oo_36, oo_40, oo_41, oo_48, oo_50, oo_57, oo_59, oo_60, oo_61, oo_62, oo_63, oo_64, oo_66, oo_72, oo_78, oo_96, oo_97, oo_99, oo_100, oo_101, oo_105, oo_107, oo_108, oo_109, oo_110, oo_111, oo_112, oo_114, oo_115, oo_116, oo_117, oo_119, oo_122, oo_128, oo_130, oo_134, oo_135, oo_136, oo_137, oo_138, oo_139, oo_140, oo_141, oo_142, oo_143, oo_144, oo_145, oo_151, oo_157, oo_194, oo_200, oo_240, oo_255, oo_256, oo_274, oo_276, oo_300, oo_516, oo_900, oo_940, oo_941, oo_999, oo_1000, oo_1040, oo_10000, oo_add, oo_mul, oo_sub, oo_lt, oo_le, oo_eq, oo_nat, oo_div, oo_rem, oo_nn, nn_oo, oo_nnlt, nn_oolt, oo_nnle, nn_oole, ↓reduceIte, if_pos, if_neg, or_false, false_or, or_true, true_or, and_true, true_and, and_false, false_and, not_true_eq_false, not_false_eq_true, Nat.not_lt_zero, Bool.false_eq_true, Bool.true_eq_false, Option.bind_some, Option.bind_none, rf_7_0, rf_7_1, rf_7_2, rf_7_3, rf_7_4, rf_7_5, rf_7_6, rf_7_7, rf_28_1, rf_28_2, rf_28_3, rf_28_5, rf_28_6, rf_28_7, rf_28_8, g_8, p_8, g_30, p_30, d1, h, hH1.n2, d2, hH2.n2, d3, hab, hw3]
      · simp (disch := omega) only [sI_same, sI_place, sI_cell, sI_long, sL_int, sL_same, sL_place, sL_cell, e4]
      · by_cases h5 : i = b
        · dsimp only
          rw [h5, sI_same, upN_same]
        · dsimp only
          rw [sI_place h5, upN_ne h5]
          by_cases h6 : i = a
          · rw [h6, sI_same, upN_same]
          · rw [sI_place h6, upN_ne h6]; exact hw3 i hi
  · rw [if_neg h]
    refine ⟨sI T 178 4 (nx x), ?_, sI_same _ _ _ _, fun i hi => ?_, Fr.sIp (Fr.rf _ _) rfl⟩
    · simp (disch := omega) only [f_X1_drawChange, ↓oo_m1, oo_0, oo_1, oo_2, oo_3, oo_4, oo_5, oo_6, oo_7, oo_8, oo_9, oo_10, oo_12, oo_13, oo_14, oo_15, oo_16, oo_17, oo_18, oo_20, oo_24, oo_30, oo_32, oo_36, oo_40, oo_41, oo_48, oo_50, oo_57, oo_59, oo_60, oo_61, oo_62, oo_63, oo_64, oo_66, oo_72, oo_78, oo_96, oo_97, oo_99, oo_100, oo_101, oo_105, oo_107, oo_108, oo_109, oo_110, oo_111, oo_112, oo_114, oo_115, oo_116, oo_117, oo_119, oo_122, oo_128, oo_130, oo_134, oo_135, oo_136, oo_137, oo_138, oo_139, oo_140, oo_141, oo_142, oo_143, oo_144, oo_145, oo_151, oo_157, oo_194, oo_200, oo_240, oo_255, oo_256, oo_274, oo_276, oo_300, oo_516, oo_900, oo_940, oo_941, oo_999, oo_1000, oo_1040, oo_10000, oo_add, oo_mul, oo_sub, oo_lt, oo_le, oo_eq, oo_nat, oo_div, oo_rem, oo_nn, nn_oo, oo_nnlt, nn_oolt, oo_nnle, nn_oole, ↓reduceIte, if_pos, if_neg, or_false, false_or, or_true, true_or, and_true, true_and, and_false, false_and, not_true_eq_false, not_false_eq_true, Nat.not_lt_zero, Bool.false_eq_true, Bool.true_eq_false, Option.bind_some, Option.bind_none, d1, h]
    · rw [sI_cell (by decide)]; exact hw i hi
theorem change_179 {nx : Int32 → Int32} {dr : Int32 → Nat → Nat} {v : Nat → Nat} (hdc : ∀ (S : XS) (k : Nat), 1 ≤ k → k < 2147483648 → f_X1_draw 178 (oo k) S = some (oo (dr (S.1 178 4) k), sI S 178 4 (nx (S.1 178 4)))) (hlt : ∀ x k, 1 ≤ k → dr x k < k) (hO : HOK v) (h31 : 1 ≤ v 3) {T : XS} {x : Int32} {w : Nat → Nat} (hH : IsHill T 7 v) (hx : T.1 178 4 = x) (hw : ∀ i, i < 6 → T.1 181 i = oo (w i)) : ∃ U, f_X1_drawChange 178 7 179 T = some (oo (chN nx dr (v 3) x w).2.1, U) ∧ U.1 178 4 = (chN nx dr (v 3) x w).1 ∧ (∀ i, i < 6 → U.1 181 i = oo ((chN nx dr (v 3) x w).2.2 i)) ∧ Fr [(178, 4), (181, 9999)] T U := by
  obtain ⟨⟨b0, b1, b2, b3, b4, b5⟩, -⟩ := id hO
  have d1 := hdc T 8 (by decide) (by decide)
  rw [hx] at d1
  have h8 := hlt x 8 (by decide)
  have hF1 : Fr [(178, 4)] T (sI T 178 4 (nx x)) := Fr.sIp (Fr.rf _ _) rfl
  have hH1 := hH.fr hF1 rfl
  unfold chN
  by_cases h : dr x 8 = 0
  · rw [if_pos h]
    have d2 := hdc (sI T 178 4 (nx x)) (v 3) h31 (by omega)
    rw [sI_same] at d2
    have hF2 : Fr [(178, 4)] (sI T 178 4 (nx x)) (sI (sI T 178 4 (nx x)) 178 4 (nx (nx x))) := Fr.sIp (Fr.rf _ _) rfl
    have hH2 := hH1.fr hF2 rfl
    have d3 := hdc (sI (sI T 178 4 (nx x)) 178 4 (nx (nx x))) (v 3) h31 (by omega)
    rw [sI_same] at d3
    have ha := hlt (nx x) (v 3) h31
    have hb := hlt (nx (nx x)) (v 3) h31
    generalize hga : dr (nx x) (v 3) = a at ha d2
    generalize hgb : dr (nx (nx x)) (v 3) = b at hb d3
    have hF3 : Fr [(178, 4)] T (sI (sI (sI T 178 4 (nx x)) 178 4 (nx (nx x))) 178 4 (nx (nx (nx x)))) := Fr.sIp (Fr.sIp (Fr.sIp (Fr.rf _ _) rfl) rfl) rfl
    have e4 : (sI (sI (sI T 178 4 (nx x)) 178 4 (nx (nx x))) 178 4 (nx (nx (nx x)))).1 178 4 = nx (nx (nx x)) := sI_same _ _ _ _
    have hw3 : ∀ i, i < 6 → (sI (sI (sI T 178 4 (nx x)) 178 4 (nx (nx x))) 178 4 (nx (nx (nx x)))).1 181 i = oo (w i) := fun i hi => by rw [hF3.row (c := 181) rfl]; exact hw i hi
    generalize sI (sI (sI T 178 4 (nx x)) 178 4 (nx (nx x))) 178 4 (nx (nx (nx x))) = T3 at d3 hF3 e4 hw3
    by_cases hab : a = b
    · rw [if_pos hab]
      refine ⟨T3, ?_, e4, hw3, hF3.mono rfl⟩
      simp (disch := omega) only [f_X1_drawChange, ↓oo_m1, oo_0, oo_1, oo_2, oo_3, oo_4, oo_5, oo_6, oo_7, oo_8, oo_9, oo_10, oo_12, oo_13, oo_14, oo_15, oo_16, oo_17, oo_18, oo_20, oo_24, oo_30, oo_32, oo_36, oo_40, oo_41, oo_48, oo_50, oo_57, oo_59, oo_60, oo_61, oo_62, oo_63, oo_64, oo_66, oo_72, oo_78, oo_96, oo_97, oo_99, oo_100, oo_101, oo_105, oo_107, oo_108, oo_109, oo_110, oo_111, oo_112, oo_114, oo_115, oo_116, oo_117, oo_119, oo_122, oo_128, oo_130, oo_134, oo_135, oo_136, oo_137, oo_138, oo_139, oo_140, oo_141, oo_142, oo_143, oo_144, oo_145, oo_151, oo_157, oo_194, oo_200, oo_240, oo_255, oo_256, oo_274, oo_276, oo_300, oo_516, oo_900, oo_940, oo_941, oo_999, oo_1000, oo_1040, oo_10000, oo_add, oo_mul, oo_sub, oo_lt, oo_le, oo_eq, oo_nat, oo_div, oo_rem, oo_nn, nn_oo, oo_nnlt, nn_oolt, oo_nnle, nn_oole, ↓reduceIte, if_pos, if_neg, or_false, false_or, or_true, true_or, and_true, true_and, and_false, false_and, not_true_eq_false, not_false_eq_true, Nat.not_lt_zero, Bool.false_eq_true, Bool.true_eq_false, Option.bind_some, Option.bind_none, rf_7_0, rf_7_1, rf_7_2, rf_7_3, rf_7_4, rf_7_5, rf_7_6, rf_7_7, g_8, p_8, d1, h, hH1.n2, d2, hH2.n2, d3, hab]
    · rw [if_neg hab]
      refine ⟨sI (sI T3 181 a (oo (w b))) 181 b (oo (w a)), ?_, ?_, fun i hi => ?_, Fr.sIr (Fr.sIr (hF3.mono rfl) rfl) rfl⟩
      · simp (disch := omega) only [f_X1_drawChange, t_X10_swap, ↓oo_m1, oo_0, oo_1, oo_2, oo_3, oo_4, oo_5, oo_6, oo_7, oo_8, oo_9, oo_10, oo_12, oo_13, oo_14, oo_15, oo_16, oo_17, oo_18, oo_20, oo_24, oo_30, oo_32, oo_36, oo_40, oo_41, oo_48, oo_50, oo_57, oo_59, oo_60, oo_61, oo_62, oo_63, oo_64, oo_66, oo_72, oo_78, oo_96, oo_97, oo_99, oo_100, oo_101, oo_105, oo_107, oo_108, oo_109, oo_110, oo_111, oo_112, oo_114, oo_115, oo_116, oo_117, oo_119, oo_122, oo_128, oo_130, oo_134, oo_135, oo_136, oo_137, oo_138, oo_139, oo_140, oo_141, oo_142, oo_143, oo_144, oo_145, oo_151, oo_157, oo_194, oo_200, oo_240, oo_255, oo_256, oo_274, oo_276, oo_300, oo_516, oo_900, oo_940, oo_941, oo_999, oo_1000, oo_1040, oo_10000, oo_add, oo_mul, oo_sub, oo_lt, oo_le, oo_eq, oo_nat, oo_div, oo_rem, oo_nn, nn_oo, oo_nnlt, nn_oolt, oo_nnle, nn_oole, ↓reduceIte, if_pos, if_neg, or_false, false_or, or_true, true_or, and_true, true_and, and_false, false_and, not_true_eq_false, not_false_eq_true, Nat.not_lt_zero, Bool.false_eq_true, Bool.true_eq_false, Option.bind_some, Option.bind_none, rf_7_0, rf_7_1, rf_7_2, rf_7_3, rf_7_4, rf_7_5, rf_7_6, rf_7_7, rf_179_1, rf_179_2, rf_179_3, rf_179_5, rf_179_6, rf_179_7, rf_179_8, g_8, p_8, g_181, p_181, d1, h, hH1.n2, d2, hH2.n2, d3, hab, hw3]
      · simp (disch := omega) only [sI_same, sI_place, sI_cell, sI_long, sL_int, sL_same, sL_place, sL_cell, e4]
      · by_cases h5 : i = b
        · dsimp only
          rw [h5, sI_same, upN_same]
        · dsimp only
          rw [sI_place h5, upN_ne h5]
          by_cases h6 : i = a
          · rw [h6, sI_same, upN_same]
          · rw [sI_place h6, upN_ne h6]; exact hw3 i hi
  · rw [if_neg h]
    refine ⟨sI T 178 4 (nx x), ?_, sI_same _ _ _ _, fun i hi => ?_, Fr.sIp (Fr.rf _ _) rfl⟩
    · simp (disch := omega) only [f_X1_drawChange, ↓oo_m1, oo_0, oo_1, oo_2, oo_3, oo_4, oo_5, oo_6, oo_7, oo_8, oo_9, oo_10, oo_12, oo_13, oo_14, oo_15, oo_16, oo_17, oo_18, oo_20, oo_24, oo_30, oo_32, oo_36, oo_40, oo_41, oo_48, oo_50, oo_57, oo_59, oo_60, oo_61, oo_62, oo_63, oo_64, oo_66, oo_72, oo_78, oo_96, oo_97, oo_99, oo_100, oo_101, oo_105, oo_107, oo_108, oo_109, oo_110, oo_111, oo_112, oo_114, oo_115, oo_116, oo_117, oo_119, oo_122, oo_128, oo_130, oo_134, oo_135, oo_136, oo_137, oo_138, oo_139, oo_140, oo_141, oo_142, oo_143, oo_144, oo_145, oo_151, oo_157, oo_194, oo_200, oo_240, oo_255, oo_256, oo_274, oo_276, oo_300, oo_516, oo_900, oo_940, oo_941, oo_999, oo_1000, oo_1040, oo_10000, oo_add, oo_mul, oo_sub, oo_lt, oo_le, oo_eq, oo_nat, oo_div, oo_rem, oo_nn, nn_oo, oo_nnlt, nn_oolt, oo_nnle, nn_oole, ↓reduceIte, if_pos, if_neg, or_false, false_or, or_true, true_or, and_true, true_and, and_false, false_and, not_true_eq_false, not_false_eq_true, Nat.not_lt_zero, Bool.false_eq_true, Bool.true_eq_false, Option.bind_some, Option.bind_none, d1, h]
    · rw [sI_cell (by decide)]; exact hw i hi
theorem rain1_c {nx : Int32 → Int32} {dr : Int32 → Nat → Nat} (hdc : ∀ (S : XS) (k : Nat), 1 ≤ k → k < 2147483648 → f_X1_draw 178 (oo k) S = some (oo (dr (S.1 178 4) k), sI S 178 4 (nx (S.1 178 4)))) (hlt : ∀ x k, 1 ≤ k → dr x k < k) {T : XS} {x : Int32} (hx : T.1 178 4 = x) : f_X1_drawRain 178 T = some (oo (if dr x 5 = 0 then 1 else 0), sI T 178 4 (nx x)) := by
  have d1 := hdc T 5 (by decide) (by decide)
  rw [hx] at d1
  have h8 := hlt x 5 (by decide)
  by_cases h : dr x 5 = 0
  · rw [if_pos h]
    simp (disch := omega) only [f_X1_drawRain, ↓oo_m1, oo_0, oo_1, oo_2, oo_3, oo_4, oo_5, oo_6, oo_7, oo_8, oo_9, oo_10, oo_12, oo_13, oo_14, oo_15, oo_16, oo_17, oo_18, oo_20, oo_24, oo_30, oo_32, oo_36, oo_40, oo_41, oo_48, oo_50, oo_57, oo_59, oo_60, oo_61, oo_62, oo_63, oo_64, oo_66, oo_72, oo_78, oo_96, oo_97, oo_99, oo_100, oo_101, oo_105, oo_107, oo_108, oo_109, oo_110, oo_111, oo_112, oo_114, oo_115, oo_116, oo_117, oo_119, oo_122, oo_128, oo_130, oo_134, oo_135, oo_136, oo_137, oo_138, oo_139, oo_140, oo_141, oo_142, oo_143, oo_144, oo_145, oo_151, oo_157, oo_194, oo_200, oo_240, oo_255, oo_256, oo_274, oo_276, oo_300, oo_516, oo_900, oo_940, oo_941, oo_999, oo_1000, oo_1040, oo_10000, oo_add, oo_mul, oo_sub, oo_lt, oo_le, oo_eq, oo_nat, oo_div, oo_rem, oo_nn, nn_oo, oo_nnlt, nn_oolt, oo_nnle, nn_oole, ↓reduceIte, if_pos, if_neg, or_false, false_or, or_true, true_or, and_true, true_and, and_false, false_and, not_true_eq_false, not_false_eq_true, Nat.not_lt_zero, Bool.false_eq_true, Bool.true_eq_false, Option.bind_some, Option.bind_none, d1, h]
  · rw [if_neg h]
    simp (disch := omega) only [f_X1_drawRain, ↓oo_m1, oo_0, oo_1, oo_2, oo_3, oo_4, oo_5, oo_6, oo_7, oo_8, oo_9, oo_10, oo_12, oo_13, oo_14, oo_15, oo_16, oo_17, oo_18, oo_20, oo_24, oo_30, oo_32, oo_36, oo_40, oo_41, oo_48, oo_50, oo_57, oo_59, oo_60, oo_61, oo_62, oo_63, oo_64, oo_66, oo_72, oo_78, oo_96, oo_97, oo_99, oo_100, oo_101, oo_105, oo_107, oo_108, oo_109, oo_110, oo_111, oo_112, oo_114, oo_115, oo_116, oo_117, oo_119, oo_122, oo_128, oo_130, oo_134, oo_135, oo_136, oo_137, oo_138, oo_139, oo_140, oo_141, oo_142, oo_143, oo_144, oo_145, oo_151, oo_157, oo_194, oo_200, oo_240, oo_255, oo_256, oo_274, oo_276, oo_300, oo_516, oo_900, oo_940, oo_941, oo_999, oo_1000, oo_1040, oo_10000, oo_add, oo_mul, oo_sub, oo_lt, oo_le, oo_eq, oo_nat, oo_div, oo_rem, oo_nn, nn_oo, oo_nnlt, nn_oolt, oo_nnle, nn_oole, ↓reduceIte, if_pos, if_neg, or_false, false_or, or_true, true_or, and_true, true_and, and_false, false_and, not_true_eq_false, not_false_eq_true, Nat.not_lt_zero, Bool.false_eq_true, Bool.true_eq_false, Option.bind_some, Option.bind_none, d1, h]
