/-! least and greatest of a row of numbers, the first of like ones -/
/-- (and 1) of the first n, 0: none -/
def lmF (d : Nat → Nat) : Nat → Nat
  | 0 => 0
  | n + 1 => if lmF d n = 0 then n + 1 else if d n < d (lmF d n - 1) then n + 1 else lmF d n
def lvF (d : Nat → Nat) (n : Nat) : Nat := if lmF d n = 0 then 0 else d (lmF d n - 1)
theorem lmF_le (d : Nat → Nat) : ∀ n, lmF d n ≤ n := by
  intro n
  induction n with
  | zero => exact Nat.le_refl 0
  | succ n ih => rw [lmF]; split <;> (try split) <;> omega
theorem lmF_pos (d : Nat → Nat) : ∀ n, lmF d (n + 1) ≠ 0 := by
  intro n
  rw [lmF]
  split
  · omega
  · split <;> omega
theorem lvF_le {d : Nat → Nat} {c : Nat} {n : Nat} (h : ∀ o, o < n → d o ≤ c) : lvF d n ≤ c := by
  unfold lvF
  split
  · exact Nat.zero_le _
  · exact h _ (by have := lmF_le d n; omega)
theorem enc_nn {b : Nat} (h : b < 1000) : (enc b = nn) = (b = 0) := by
  unfold enc
  split
  · rename_i h1
    rw [h1]; simp
  · rename_i h1
    rw [oo_nn (by omega)]
    simp [h1]
section LU
variable {S : XS} {c d r : Nat} {g : Nat → Nat} {h : Nat → Nat → Nat} {cnt : Nat}
theorem lu_L (hg : ∀ s, s < 6 → gat S c (oo (r * 6 + s)) = oo (g s)) (hh : ∀ o, o < cnt → ∀ s, s < 6 → gat S d (oo (o * 6 + s)) = oo (h o s)) (hc : ∀ s, s < 6 → g s ≤ 99) (hd : ∀ o, o < cnt → ∀ s, s < 6 → h o s ≤ 99) (hcnt : cnt ≤ 6) : ∀ m k n, k + m = cnt → m < n → f_X11_leastUnlike_L9 c (oo r) d (oo cnt) n (enc (lmF (fun o => df g (h o) 6) k)) (oo (lvF (fun o => df g (h o) 6) k)) (oo k) S = some (enc (lmF (fun o => df g (h o) 6) cnt), S) := by
  have hD : ∀ o, o < cnt → df g (h o) 6 ≤ 594 := fun o ho => df_le hc (hd o ho) 6 (by decide)
  intro m
  induction m with
  | zero =>
    intro k n hk hn
    obtain ⟨n, rfl⟩ : ∃ n', n = n' + 1 := ⟨n - 1, by omega⟩
    obtain rfl : k = cnt := by omega
    simp (disch := omega) only [f_X11_leastUnlike_L9, ↓oo_m1, oo_0, oo_1, oo_2, oo_3, oo_4, oo_5, oo_6, oo_7, oo_8, oo_9, oo_10, oo_12, oo_13, oo_14, oo_15, oo_16, oo_17, oo_18, oo_20, oo_24, oo_30, oo_32, oo_36, oo_40, oo_41, oo_48, oo_50, oo_57, oo_59, oo_60, oo_61, oo_62, oo_63, oo_64, oo_66, oo_72, oo_78, oo_96, oo_97, oo_99, oo_100, oo_101, oo_105, oo_107, oo_108, oo_109, oo_110, oo_111, oo_112, oo_114, oo_115, oo_116, oo_117, oo_119, oo_122, oo_128, oo_130, oo_134, oo_135, oo_136, oo_137, oo_138, oo_139, oo_140, oo_141, oo_142, oo_143, oo_144, oo_145, oo_151, oo_157, oo_194, oo_200, oo_240, oo_255, oo_256, oo_274, oo_276, oo_300, oo_516, oo_900, oo_940, oo_941, oo_999, oo_1000, oo_1040, oo_10000, oo_add, oo_mul, oo_sub, oo_lt, oo_le, oo_eq, oo_nat, oo_div, oo_rem, oo_nn, nn_oo, oo_nnlt, nn_oolt, oo_nnle, nn_oole, ↓reduceIte, if_pos, if_neg, or_false, false_or, or_true, true_or, and_true, true_and, and_false, false_and, not_true_eq_false, not_false_eq_true, Nat.not_lt_zero, Bool.false_eq_true, Bool.true_eq_false, Option.bind_some, Option.bind_none]
  | succ m ih =>
    intro k n hk hn
    obtain ⟨n, rfl⟩ : ∃ n', n = n' + 1 := ⟨n - 1, by omega⟩
    have t1 := dif6 hg (hh k (by omega)) (fun s hs => Nat.lt_of_le_of_lt (hc s hs) (by decide)) (fun s hs => Nat.lt_of_le_of_lt (hd k (by omega) s hs) (by decide))
    have h1 := hD k (by omega)
    have h2 : lvF (fun o => df g (h o) 6) k ≤ 594 := lvF_le (fun o ho => hD o (by omega))
    have h3 := lmF_le (fun o => df g (h o) 6) k
    have h5 := ih (k + 1) n (by omega) (by omega)
    unfold lvF at h5 h2 ⊢
    rw [if_neg (lmF_pos _ k), lmF] at h5
    generalize lmF (fun o => df g (h o) 6) k = z at h3 h5 h2 ⊢
    match z, h3 with
    | 0, h3 =>
      simp (disch := omega) only [f_X11_leastUnlike_L9, ↓oo_m1, oo_0, oo_1, oo_2, oo_3, oo_4, oo_5, oo_6, oo_7, oo_8, oo_9, oo_10, oo_12, oo_13, oo_14, oo_15, oo_16, oo_17, oo_18, oo_20, oo_24, oo_30, oo_32, oo_36, oo_40, oo_41, oo_48, oo_50, oo_57, oo_59, oo_60, oo_61, oo_62, oo_63, oo_64, oo_66, oo_72, oo_78, oo_96, oo_97, oo_99, oo_100, oo_101, oo_105, oo_107, oo_108, oo_109, oo_110, oo_111, oo_112, oo_114, oo_115, oo_116, oo_117, oo_119, oo_122, oo_128, oo_130, oo_134, oo_135, oo_136, oo_137, oo_138, oo_139, oo_140, oo_141, oo_142, oo_143, oo_144, oo_145, oo_151, oo_157, oo_194, oo_200, oo_240, oo_255, oo_256, oo_274, oo_276, oo_300, oo_516, oo_900, oo_940, oo_941, oo_999, oo_1000, oo_1040, oo_10000, oo_add, oo_mul, oo_sub, oo_lt, oo_le, oo_eq, oo_nat, oo_div, oo_rem, oo_nn, nn_oo, oo_nnlt, nn_oolt, oo_nnle, nn_oole, ↓reduceIte, if_pos, if_neg, or_false, false_or, or_true, true_or, and_true, true_and, and_false, false_and, not_true_eq_false, not_false_eq_true, Nat.not_lt_zero, Bool.false_eq_true, Bool.true_eq_false, Option.bind_some, Option.bind_none, t1, enc_0]
      rw [if_pos rfl] at h5
      exact h5
    | z + 1, h3 =>
      have h6 := hD z (by omega)
      simp (disch := omega) only [f_X11_leastUnlike_L9, ↓oo_m1, oo_0, oo_1, oo_2, oo_3, oo_4, oo_5, oo_6, oo_7, oo_8, oo_9, oo_10, oo_12, oo_13, oo_14, oo_15, oo_16, oo_17, oo_18, oo_20, oo_24, oo_30, oo_32, oo_36, oo_40, oo_41, oo_48, oo_50, oo_57, oo_59, oo_60, oo_61, oo_62, oo_63, oo_64, oo_66, oo_72, oo_78, oo_96, oo_97, oo_99, oo_100, oo_101, oo_105, oo_107, oo_108, oo_109, oo_110, oo_111, oo_112, oo_114, oo_115, oo_116, oo_117, oo_119, oo_122, oo_128, oo_130, oo_134, oo_135, oo_136, oo_137, oo_138, oo_139, oo_140, oo_141, oo_142, oo_143, oo_144, oo_145, oo_151, oo_157, oo_194, oo_200, oo_240, oo_255, oo_256, oo_274, oo_276, oo_300, oo_516, oo_900, oo_940, oo_941, oo_999, oo_1000, oo_1040, oo_10000, oo_add, oo_mul, oo_sub, oo_lt, oo_le, oo_eq, oo_nat, oo_div, oo_rem, oo_nn, nn_oo, oo_nnlt, nn_oolt, oo_nnle, nn_oole, ↓reduceIte, if_pos, if_neg, or_false, false_or, or_true, true_or, and_true, true_and, and_false, false_and, not_true_eq_false, not_false_eq_true, Nat.not_lt_zero, Bool.false_eq_true, Bool.true_eq_false, Option.bind_some, Option.bind_none, t1, enc_s, Nat.add_sub_cancel, Nat.succ_ne_zero]
      rw [if_neg (by omega), Nat.add_sub_cancel] at h5
      by_cases h7 : df g (h z) 6 ≤ df g (h k) 6
      · rw [if_pos h7]
        rw [if_neg (Nat.not_lt.mpr h7), enc_s, Nat.add_sub_cancel] at h5
        exact h5
      · rw [if_neg h7]
        rw [if_pos (Nat.not_le.mp h7), enc_s, Nat.add_sub_cancel] at h5
        exact h5
theorem lu6 (hg : ∀ s, s < 6 → gat S c (oo (r * 6 + s)) = oo (g s)) (hh : ∀ o, o < cnt → ∀ s, s < 6 → gat S d (oo (o * 6 + s)) = oo (h o s)) (hc : ∀ s, s < 6 → g s ≤ 99) (hd : ∀ o, o < cnt → ∀ s, s < 6 → h o s ≤ 99) (hcnt : cnt ≤ 6) : f_X11_leastUnlike c (oo r) d (oo cnt) S = some (enc (lmF (fun o => df g (h o) 6) cnt), S) := by
  have := lu_L hg hh hc hd hcnt cnt 0 1000000 (by omega) (by omega)
  rw [f_X11_leastUnlike]
  rw [show enc (lmF (fun o => df g (h o) 6) 0) = (-1 : Int32) from rfl, show oo (lvF (fun o => df g (h o) 6) 0) = (0 : Int32) from rfl, show oo 0 = (0 : Int32) from rfl] at this
  rw [this]
  rfl
end LU
theorem dog_L {S : XS} {v : Nat → Nat} (hN : IsC S 190 516 v) (hO : HOK v) (hS : SOK v) {c : Nat} (hc : c < v 193) : ∀ m k n, k + m = v 3 → 1 ≤ k → m < n → f_X12_dog_L19 188 (oo c) n (oo (lmF (fun o => df (clothG v c) (coatG v o) 6) k - 1)) (oo k) S = some (oo (lmF (fun o => df (clothG v c) (coatG v o) 6) (v 3) - 1), S) := by
  obtain ⟨⟨b0, b1, b2, b3, b4, b5⟩, -⟩ := id hO
  have c8 := hS.2.2.2.2.1
  have lt : ∀ {g : Nat → Nat}, (∀ s, s < 6 → g s ≤ 99) → ∀ s, s < 6 → g s < 1000 := fun h s hs => Nat.lt_of_le_of_lt (h s hs) (by decide)
  have hD : ∀ o, o < v 3 → df (clothG v c) (coatG v o) 6 ≤ 594 := fun o ho => df_le (cloth_b hS hc) (coat_b hS (by omega)) 6 (by decide)
  have hA : ∀ o, o < v 3 → f_X12_apart 188 (oo (194 + 10 * c + 4)) (oo (157 + 6 * o)) S = some (oo (df (clothG v c) (coatG v o) 6), S) := fun o ho => apt6 (cloth_n hN (by omega)) (coat_n hN (by omega)) (by omega) (by omega) (lt (cloth_b hS hc)) (lt (coat_b hS (by omega)))
  intro m
  induction m with
  | zero =>
    intro k n hk hk1 hn
    obtain ⟨n, rfl⟩ : ∃ n', n = n' + 1 := ⟨n - 1, by omega⟩
    obtain rfl : k = v 3 := by omega
    simp (disch := omega) only [f_X12_dog_L19, ↓oo_m1, oo_0, oo_1, oo_2, oo_3, oo_4, oo_5, oo_6, oo_7, oo_8, oo_9, oo_10, oo_12, oo_13, oo_14, oo_15, oo_16, oo_17, oo_18, oo_20, oo_24, oo_30, oo_32, oo_36, oo_40, oo_41, oo_48, oo_50, oo_57, oo_59, oo_60, oo_61, oo_62, oo_63, oo_64, oo_66, oo_72, oo_78, oo_96, oo_97, oo_99, oo_100, oo_101, oo_105, oo_107, oo_108, oo_109, oo_110, oo_111, oo_112, oo_114, oo_115, oo_116, oo_117, oo_119, oo_122, oo_128, oo_130, oo_134, oo_135, oo_136, oo_137, oo_138, oo_139, oo_140, oo_141, oo_142, oo_143, oo_144, oo_145, oo_151, oo_157, oo_194, oo_200, oo_240, oo_255, oo_256, oo_274, oo_276, oo_300, oo_516, oo_900, oo_940, oo_941, oo_999, oo_1000, oo_1040, oo_10000, oo_add, oo_mul, oo_sub, oo_lt, oo_le, oo_eq, oo_nat, oo_div, oo_rem, oo_nn, nn_oo, oo_nnlt, nn_oolt, oo_nnle, nn_oole, ↓reduceIte, if_pos, if_neg, or_false, false_or, or_true, true_or, and_true, true_and, and_false, false_and, not_true_eq_false, not_false_eq_true, Nat.not_lt_zero, Bool.false_eq_true, Bool.true_eq_false, sI_same, sI_place, sI_cell, sI_long, sL_int, sL_same, sL_place, sL_cell, Option.bind_some, Option.bind_none, rf_0_0, rf_0_1, rf_0_2, rf_0_3, rf_0_4, rf_0_5, rf_0_6, rf_0_7, rf_0_10, rf_0_11, rf_0_12, rf_0_13, rf_0_14, rf_0_15, rf_0_16, rf_0_17, rf_0_18, rf_1_0, rf_1_4, rf_1_5, rf_1_6, rf_1_7, rf_7_0, rf_7_1, rf_7_2, rf_7_3, rf_7_4, rf_7_5, rf_7_6, rf_7_7, rf_28_1, rf_28_2, rf_28_3, rf_28_5, rf_28_6, rf_28_7, rf_28_8, rf_188_1, rf_188_14, rf_188_15, rf_188_16, rf_188_17, rf_188_18, rf_188_19, rf_188_20, rf_188_21, rf_188_22, rf_188_24, rf_188_25, rf_188_26, rf_188_27, rf_188_28, rf_188_31, rf_188_32, rf_188_34, rf_188_35, rf_188_36, rf_188_37, rf_188_38, rf_188_42, rf_188_43, rf_188_51, rf_188_52, rf_188_53, rf_188_55, ln_190, hN _]
  | succ m ih =>
    intro k n hk hk1 hn
    obtain ⟨n, rfl⟩ : ∃ n', n = n' + 1 := ⟨n - 1, by omega⟩
    have h3 := lmF_le (fun o => df (clothG v c) (coatG v o) 6) k
    have h4 : lmF (fun o => df (clothG v c) (coatG v o) 6) k ≠ 0 := by
      obtain ⟨k, rfl⟩ : ∃ k', k = k' + 1 := ⟨k - 1, by omega⟩
      exact lmF_pos _ _
    have h5 := ih (k + 1) n (by omega) (by omega) (by omega)
    have h1 := hA k (by omega)
    have h7 := hD k (by omega)
    rw [lmF, if_neg h4] at h5
    generalize lmF (fun o => df (clothG v c) (coatG v o) 6) k = z at h3 h4 h5 ⊢
    have h2 := hA (z - 1) (by omega)
    have h6 := hD (z - 1) (by omega)
    simp (disch := omega) only [f_X12_dog_L19, t_X12_clothAt, ↓oo_m1, oo_0, oo_1, oo_2, oo_3, oo_4, oo_5, oo_6, oo_7, oo_8, oo_9, oo_10, oo_12, oo_13, oo_14, oo_15, oo_16, oo_17, oo_18, oo_20, oo_24, oo_30, oo_32, oo_36, oo_40, oo_41, oo_48, oo_50, oo_57, oo_59, oo_60, oo_61, oo_62, oo_63, oo_64, oo_66, oo_72, oo_78, oo_96, oo_97, oo_99, oo_100, oo_101, oo_105, oo_107, oo_108, oo_109, oo_110, oo_111, oo_112, oo_114, oo_115, oo_116, oo_117, oo_119, oo_122, oo_128, oo_130, oo_134, oo_135, oo_136, oo_137, oo_138, oo_139, oo_140, oo_141, oo_142, oo_143, oo_144, oo_145, oo_151, oo_157, oo_194, oo_200, oo_240, oo_255, oo_256, oo_274, oo_276, oo_300, oo_516, oo_900, oo_940, oo_941, oo_999, oo_1000, oo_1040, oo_10000, oo_add, oo_mul, oo_sub, oo_lt, oo_le, oo_eq, oo_nat, oo_div, oo_rem, oo_nn, nn_oo, oo_nnlt, nn_oolt, oo_nnle, nn_oole, ↓reduceIte, if_pos, if_neg, or_false, false_or, or_true, true_or, and_true, true_and, and_false, false_and, not_true_eq_false, not_false_eq_true, Nat.not_lt_zero, Bool.false_eq_true, Bool.true_eq_false, sI_same, sI_place, sI_cell, sI_long, sL_int, sL_same, sL_place, sL_cell, Option.bind_some, Option.bind_none, rf_0_0, rf_0_1, rf_0_2, rf_0_3, rf_0_4, rf_0_5, rf_0_6, rf_0_7, rf_0_10, rf_0_11, rf_0_12, rf_0_13, rf_0_14, rf_0_15, rf_0_16, rf_0_17, rf_0_18, rf_1_0, rf_1_4, rf_1_5, rf_1_6, rf_1_7, rf_7_0, rf_7_1, rf_7_2, rf_7_3, rf_7_4, rf_7_5, rf_7_6, rf_7_7, rf_28_1, rf_28_2, rf_28_3, rf_28_5, rf_28_6, rf_28_7, rf_28_8, rf_188_1, rf_188_14, rf_188_15, rf_188_16, rf_188_17, rf_188_18, rf_188_19, rf_188_20, rf_188_21, rf_188_22, rf_188_24, rf_188_25, rf_188_26, rf_188_27, rf_188_28, rf_188_31, rf_188_32, rf_188_34, rf_188_35, rf_188_36, rf_188_37, rf_188_38, rf_188_42, rf_188_43, rf_188_51, rf_188_52, rf_188_53, rf_188_55, ln_190, hN _, h1, h2]
    by_cases h8 : df (clothG v c) (coatG v (z - 1)) 6 ≤ df (clothG v c) (coatG v k) 6
    · rw [if_pos h8]
      rw [if_neg (Nat.not_lt.mpr h8)] at h5
      exact h5
    · rw [if_neg h8]
      rw [if_pos (Nat.not_le.mp h8), Nat.add_sub_cancel] at h5
      exact h5
theorem ag_dog : Ag_dog Rel := by
  intro S hR i
  obtain ⟨hT, hFa, hK, ⟨v, hv, hP⟩, hKe, hNo, hWa, hC, hD, hX⟩ := id hR; obtain ⟨hN, hO, hS, hH, hW, hNm, hSe⟩ := id hv; obtain ⟨⟨b0, b1, b2, b3, b4, b5⟩, -⟩ := id hO
  have c8 := hS.2.2.2.2.1
  rcases rng2 i (v 193) (by omega) with ⟨k0, hk0, rfl⟩ | hx0
  · skip
    have hN2 : IsC (sI S 188 0 (oo 0)) 190 516 v := hN.cell (by simp (disch := omega) only [sI_same, sI_place, sI_cell, sI_long, sL_int, sL_same, sL_place, sL_cell])
    have w1 := (hS.2.2.2.2.2.1 k0 hk0).1
    have t1 := lu6 (cloth_g hW hS hk0) (fun o ho => coat_g hW (c := o) (by omega)) (cloth_b hS hk0) (fun o ho => coat_b hS (c := o) (by omega)) b3
    have t2 := dog_L hN2 hO hS hk0 (v 3 - 1) 1 1000000 (by omega) (by omega) (by omega)
    rw [show oo (lmF (fun o => df (clothG v k0) (coatG v o) 6) 1 - 1) = oo 0 from rfl] at t2
    have e : oo (lmF (fun o => df (clothG v k0) (coatG v o) 6) (v 3) - 1) = enc (lmF (fun o => df (clothG v k0) (coatG v o) 6) (v 3)) := by
      unfold enc
      rw [if_neg]
      obtain ⟨z, hz⟩ : ∃ z, v 3 = z + 1 := ⟨v 3 - 1, by omega⟩
      rw [hz]
      exact lmF_pos _ _
    rw [e] at t2
    refine ⟨enc (lmF (fun o => df (clothG v k0) (coatG v o) 6) (v 3)), S, sI S 188 0 (oo 0), ?_, ?_, hR.fr (Fr.sIp (Fr.rf [(188, 0)] S) rfl) rfl rfl rfl rfl rfl⟩
    · simp (disch := omega) only [f_X11_dog, t_X10_hasCloth, hH.n0, hH.n1, hH.n2, hH.n3, hH.n4, hH.n5, hH.fade, hH.air, hH.keep, hH.start, hH.went, hH.rain, hW.hr, hW.pl, hW.wn, hW.ct, hW.cn, hW.cl, hW.cf, hW.li, hW.ca, hN _, ↓oo_m1, oo_0, oo_1, oo_2, oo_3, oo_4, oo_5, oo_6, oo_7, oo_8, oo_9, oo_10, oo_12, oo_13, oo_14, oo_15, oo_16, oo_17, oo_18, oo_20, oo_24, oo_30, oo_32, oo_36, oo_40, oo_41, oo_48, oo_50, oo_57, oo_59, oo_60, oo_61, oo_62, oo_63, oo_64, oo_66, oo_72, oo_78, oo_96, oo_97, oo_99, oo_100, oo_101, oo_105, oo_107, oo_108, oo_109, oo_110, oo_111, oo_112, oo_114, oo_115, oo_116, oo_117, oo_119, oo_122, oo_128, oo_130, oo_134, oo_135, oo_136, oo_137, oo_138, oo_139, oo_140, oo_141, oo_142, oo_143, oo_144, oo_145, oo_151, oo_157, oo_194, oo_200, oo_240, oo_255, oo_256, oo_274, oo_276, oo_300, oo_516, oo_900, oo_940, oo_941, oo_999, oo_1000, oo_1040, oo_10000, oo_add, oo_mul, oo_sub, oo_lt, oo_le, oo_eq, oo_nat, oo_div, oo_rem, oo_nn, nn_oo, oo_nnlt, nn_oolt, oo_nnle, nn_oole, ↓reduceIte, if_pos, if_neg, or_false, false_or, or_true, true_or, and_true, true_and, and_false, false_and, not_true_eq_false, not_false_eq_true, Nat.not_lt_zero, Bool.false_eq_true, Bool.true_eq_false, sI_same, sI_place, sI_cell, sI_long, sL_int, sL_same, sL_place, sL_cell, Option.bind_some, Option.bind_none, rf_0_0, rf_0_1, rf_0_2, rf_0_3, rf_0_4, rf_0_5, rf_0_6, rf_0_7, rf_0_10, rf_0_11, rf_0_12, rf_0_13, rf_0_14, rf_0_15, rf_0_16, rf_0_17, rf_0_18, rf_1_0, rf_1_4, rf_1_5, rf_1_6, rf_1_7, rf_7_0, rf_7_1, rf_7_2, rf_7_3, rf_7_4, rf_7_5, rf_7_6, rf_7_7, rf_28_1, rf_28_2, rf_28_3, rf_28_5, rf_28_6, rf_28_7, rf_28_8, rf_188_1, rf_188_14, rf_188_15, rf_188_16, rf_188_17, rf_188_18, rf_188_19, rf_188_20, rf_188_21, rf_188_22, rf_188_24, rf_188_25, rf_188_26, rf_188_27, rf_188_28, rf_188_31, rf_188_32, rf_188_34, rf_188_35, rf_188_36, rf_188_37, rf_188_38, rf_188_42, rf_188_43, rf_188_51, rf_188_52, rf_188_53, rf_188_55, ln_190, g_8, p_8, t1]
    · simp (disch := omega) only [f_X12_dog, t_X12_isCloth, hH.n0, hH.n1, hH.n2, hH.n3, hH.n4, hH.n5, hH.fade, hH.air, hH.keep, hH.start, hH.went, hH.rain, hW.hr, hW.pl, hW.wn, hW.ct, hW.cn, hW.cl, hW.cf, hW.li, hW.ca, hN _, ↓oo_m1, oo_0, oo_1, oo_2, oo_3, oo_4, oo_5, oo_6, oo_7, oo_8, oo_9, oo_10, oo_12, oo_13, oo_14, oo_15, oo_16, oo_17, oo_18, oo_20, oo_24, oo_30, oo_32, oo_36, oo_40, oo_41, oo_48, oo_50, oo_57, oo_59, oo_60, oo_61, oo_62, oo_63, oo_64, oo_66, oo_72, oo_78, oo_96, oo_97, oo_99, oo_100, oo_101, oo_105, oo_107, oo_108, oo_109, oo_110, oo_111, oo_112, oo_114, oo_115, oo_116, oo_117, oo_119, oo_122, oo_128, oo_130, oo_134, oo_135, oo_136, oo_137, oo_138, oo_139, oo_140, oo_141, oo_142, oo_143, oo_144, oo_145, oo_151, oo_157, oo_194, oo_200, oo_240, oo_255, oo_256, oo_274, oo_276, oo_300, oo_516, oo_900, oo_940, oo_941, oo_999, oo_1000, oo_1040, oo_10000, oo_add, oo_mul, oo_sub, oo_lt, oo_le, oo_eq, oo_nat, oo_div, oo_rem, oo_nn, nn_oo, oo_nnlt, nn_oolt, oo_nnle, nn_oole, ↓reduceIte, if_pos, if_neg, or_false, false_or, or_true, true_or, and_true, true_and, and_false, false_and, not_true_eq_false, not_false_eq_true, Nat.not_lt_zero, Bool.false_eq_true, Bool.true_eq_false, sI_same, sI_place, sI_cell, sI_long, sL_int, sL_same, sL_place, sL_cell, Option.bind_some, Option.bind_none, rf_0_0, rf_0_1, rf_0_2, rf_0_3, rf_0_4, rf_0_5, rf_0_6, rf_0_7, rf_0_10, rf_0_11, rf_0_12, rf_0_13, rf_0_14, rf_0_15, rf_0_16, rf_0_17, rf_0_18, rf_1_0, rf_1_4, rf_1_5, rf_1_6, rf_1_7, rf_7_0, rf_7_1, rf_7_2, rf_7_3, rf_7_4, rf_7_5, rf_7_6, rf_7_7, rf_28_1, rf_28_2, rf_28_3, rf_28_5, rf_28_6, rf_28_7, rf_28_8, rf_188_1, rf_188_14, rf_188_15, rf_188_16, rf_188_17, rf_188_18, rf_188_19, rf_188_20, rf_188_21, rf_188_22, rf_188_24, rf_188_25, rf_188_26, rf_188_27, rf_188_28, rf_188_31, rf_188_32, rf_188_34, rf_188_35, rf_188_36, rf_188_37, rf_188_38, rf_188_42, rf_188_43, rf_188_51, rf_188_52, rf_188_53, rf_188_55, ln_190, t2]
  · skip
    refine ⟨nn, S, sI S 188 0 (oo 0), ?_, ?_, hR.fr (Fr.sIp (Fr.rf [(188, 0)] S) rfl) rfl rfl rfl rfl rfl⟩
    · simp (disch := omega) only [f_X11_dog, t_X10_hasCloth, hH.n0, hH.n1, hH.n2, hH.n3, hH.n4, hH.n5, hH.fade, hH.air, hH.keep, hH.start, hH.went, hH.rain, hW.hr, hW.pl, hW.wn, hW.ct, hW.cn, hW.cl, hW.cf, hW.li, hW.ca, hN _, ↓oo_m1, oo_0, oo_1, oo_2, oo_3, oo_4, oo_5, oo_6, oo_7, oo_8, oo_9, oo_10, oo_12, oo_13, oo_14, oo_15, oo_16, oo_17, oo_18, oo_20, oo_24, oo_30, oo_32, oo_36, oo_40, oo_41, oo_48, oo_50, oo_57, oo_59, oo_60, oo_61, oo_62, oo_63, oo_64, oo_66, oo_72, oo_78, oo_96, oo_97, oo_99, oo_100, oo_101, oo_105, oo_107, oo_108, oo_109, oo_110, oo_111, oo_112, oo_114, oo_115, oo_116, oo_117, oo_119, oo_122, oo_128, oo_130, oo_134, oo_135, oo_136, oo_137, oo_138, oo_139, oo_140, oo_141, oo_142, oo_143, oo_144, oo_145, oo_151, oo_157, oo_194, oo_200, oo_240, oo_255, oo_256, oo_274, oo_276, oo_300, oo_516, oo_900, oo_940, oo_941, oo_999, oo_1000, oo_1040, oo_10000, oo_add, oo_mul, oo_sub, oo_lt, oo_le, oo_eq, oo_nat, oo_div, oo_rem, oo_nn, nn_oo, oo_nnlt, nn_oolt, oo_nnle, nn_oole, ↓reduceIte, if_pos, if_neg, or_false, false_or, or_true, true_or, and_true, true_and, and_false, false_and, not_true_eq_false, not_false_eq_true, Nat.not_lt_zero, Bool.false_eq_true, Bool.true_eq_false, sI_same, sI_place, sI_cell, sI_long, sL_int, sL_same, sL_place, sL_cell, Option.bind_some, Option.bind_none, rf_0_0, rf_0_1, rf_0_2, rf_0_3, rf_0_4, rf_0_5, rf_0_6, rf_0_7, rf_0_10, rf_0_11, rf_0_12, rf_0_13, rf_0_14, rf_0_15, rf_0_16, rf_0_17, rf_0_18, rf_1_0, rf_1_4, rf_1_5, rf_1_6, rf_1_7, rf_7_0, rf_7_1, rf_7_2, rf_7_3, rf_7_4, rf_7_5, rf_7_6, rf_7_7, rf_28_1, rf_28_2, rf_28_3, rf_28_5, rf_28_6, rf_28_7, rf_28_8, rf_188_1, rf_188_14, rf_188_15, rf_188_16, rf_188_17, rf_188_18, rf_188_19, rf_188_20, rf_188_21, rf_188_22, rf_188_24, rf_188_25, rf_188_26, rf_188_27, rf_188_28, rf_188_31, rf_188_32, rf_188_34, rf_188_35, rf_188_36, rf_188_37, rf_188_38, rf_188_42, rf_188_43, rf_188_51, rf_188_52, rf_188_53, rf_188_55, ln_190, g_8, p_8, hx0]
    · simp (disch := omega) only [f_X12_dog, t_X12_isCloth, hH.n0, hH.n1, hH.n2, hH.n3, hH.n4, hH.n5, hH.fade, hH.air, hH.keep, hH.start, hH.went, hH.rain, hW.hr, hW.pl, hW.wn, hW.ct, hW.cn, hW.cl, hW.cf, hW.li, hW.ca, hN _, ↓oo_m1, oo_0, oo_1, oo_2, oo_3, oo_4, oo_5, oo_6, oo_7, oo_8, oo_9, oo_10, oo_12, oo_13, oo_14, oo_15, oo_16, oo_17, oo_18, oo_20, oo_24, oo_30, oo_32, oo_36, oo_40, oo_41, oo_48, oo_50, oo_57, oo_59, oo_60, oo_61, oo_62, oo_63, oo_64, oo_66, oo_72, oo_78, oo_96, oo_97, oo_99, oo_100, oo_101, oo_105, oo_107, oo_108, oo_109, oo_110, oo_111, oo_112, oo_114, oo_115, oo_116, oo_117, oo_119, oo_122, oo_128, oo_130, oo_134, oo_135, oo_136, oo_137, oo_138, oo_139, oo_140, oo_141, oo_142, oo_143, oo_144, oo_145, oo_151, oo_157, oo_194, oo_200, oo_240, oo_255, oo_256, oo_274, oo_276, oo_300, oo_516, oo_900, oo_940, oo_941, oo_999, oo_1000, oo_1040, oo_10000, oo_add, oo_mul, oo_sub, oo_lt, oo_le, oo_eq, oo_nat, oo_div, oo_rem, oo_nn, nn_oo, oo_nnlt, nn_oolt, oo_nnle, nn_oole, ↓reduceIte, if_pos, if_neg, or_false, false_or, or_true, true_or, and_true, true_and, and_false, false_and, not_true_eq_false, not_false_eq_true, Nat.not_lt_zero, Bool.false_eq_true, Bool.true_eq_false, sI_same, sI_place, sI_cell, sI_long, sL_int, sL_same, sL_place, sL_cell, Option.bind_some, Option.bind_none, rf_0_0, rf_0_1, rf_0_2, rf_0_3, rf_0_4, rf_0_5, rf_0_6, rf_0_7, rf_0_10, rf_0_11, rf_0_12, rf_0_13, rf_0_14, rf_0_15, rf_0_16, rf_0_17, rf_0_18, rf_1_0, rf_1_4, rf_1_5, rf_1_6, rf_1_7, rf_7_0, rf_7_1, rf_7_2, rf_7_3, rf_7_4, rf_7_5, rf_7_6, rf_7_7, rf_28_1, rf_28_2, rf_28_3, rf_28_5, rf_28_6, rf_28_7, rf_28_8, rf_188_1, rf_188_14, rf_188_15, rf_188_16, rf_188_17, rf_188_18, rf_188_19, rf_188_20, rf_188_21, rf_188_22, rf_188_24, rf_188_25, rf_188_26, rf_188_27, rf_188_28, rf_188_31, rf_188_32, rf_188_34, rf_188_35, rf_188_36, rf_188_37, rf_188_38, rf_188_42, rf_188_43, rf_188_51, rf_188_52, rf_188_53, rf_188_55, ln_190, hx0]
