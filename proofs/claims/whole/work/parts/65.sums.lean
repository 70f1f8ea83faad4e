/-! sums over the six scents -/
def su (g : Nat → Nat) : Nat → Nat
  | 0 => 0
  | n + 1 => su g n + g n
theorem su_le {g : Nat → Nat} {c : Nat} (h : ∀ s, s < 6 → g s ≤ c) : ∀ n, n ≤ 6 → su g n ≤ n * c := by
  intro n
  induction n with
  | zero => intro _; exact Nat.zero_le _
  | succ n ih =>
    intro hn
    have h1 := ih (by omega)
    have h2 := h n (by omega)
    rw [su, Nat.succ_mul]
    omega
theorem su_eq {g h : Nat → Nat} : ∀ n, (∀ s, s < n → g s = h s) → su g n = su h n := by
  intro n
  induction n with
  | zero => intro _; rfl
  | succ n ih => intro e; rw [su, su, ih (fun s hs => e s (by omega)), e n (by omega)]
/-- the strongest (and 1) of the first n, 0: none -/
def sgF (g : Nat → Nat) : Nat → Nat
  | 0 => 0
  | n + 1 => if sgF g n = 0 then (if g n = 0 then 0 else n + 1) else if g n ≤ g (sgF g n - 1) then sgF g n else n + 1
def enc (b : Nat) : Int32 := if b = 0 then nn else oo (b - 1)
theorem enc_0 : enc 0 = nn := rfl
theorem enc_s (b : Nat) : enc (b + 1) = oo b := rfl
def mtF (g : Nat → Nat) (n : Nat) : Nat := if sgF g n = 0 then 0 else g (sgF g n - 1)
theorem sgF_le (g : Nat → Nat) : ∀ n, sgF g n ≤ n := by
  intro n
  induction n with
  | zero => exact Nat.le_refl 0
  | succ n ih => rw [sgF]; split <;> split <;> omega
theorem sgF_eq {g h : Nat → Nat} : ∀ n, (∀ s, s < n → g s = h s) → sgF g n = sgF h n := by
  intro n
  induction n with
  | zero => intro _; rfl
  | succ n ih =>
    intro e
    have h1 := ih (fun s hs => e s (by omega))
    have h2 := sgF_le h n
    rw [sgF, sgF, h1, e n (by omega)]
    by_cases h3 : sgF h n = 0
    · rw [if_pos h3, if_pos h3]
    · rw [if_neg h3, if_neg h3, e (sgF h n - 1) (by omega)]
theorem sgF_pos {g : Nat → Nat} : ∀ n, sgF g n ≠ 0 → 0 < g (sgF g n - 1) := by
  intro n
  induction n with
  | zero => intro h; exact absurd rfl h
  | succ n ih =>
    rw [sgF]
    split
    · split
      · intro h; exact absurd rfl h
      · intro _; show 0 < g n; omega
    · rename_i h1
      split
      · intro _; exact ih h1
      · rename_i h2
        intro _
        have := ih h1
        show 0 < g n
        omega
/-- how unlike -/
def df (g h : Nat → Nat) : Nat → Nat
  | 0 => 0
  | n + 1 => df g h n + ((g n - h n) + (h n - g n))
theorem df_le {g h : Nat → Nat} {c : Nat} (hg : ∀ s, s < 6 → g s ≤ c) (hh : ∀ s, s < 6 → h s ≤ c) : ∀ n, n ≤ 6 → df g h n ≤ n * c := by
  intro n
  induction n with
  | zero => intro _; exact Nat.zero_le _
  | succ n ih =>
    intro hn
    have h1 := ih (by omega)
    have h2 := hg n (by omega)
    have h3 := hh n (by omega)
    rw [df, Nat.succ_mul]
    omega
theorem df_eq {g h g' h' : Nat → Nat} : ∀ n, (∀ s, s < n → g s = g' s) → (∀ s, s < n → h s = h' s) → df g h n = df g' h' n := by
  intro n
  induction n with
  | zero => intro _ _; rfl
  | succ n ih => intro e1 e2; rw [df, df, ih (fun s hs => e1 s (by omega)) (fun s hs => e2 s (by omega)), e1 n (by omega), e2 n (by omega)]
theorem oo_abs {k j : Nat} (h1 : k < 1073741824) (h2 : j < 1073741824) : (if oo 0 ≤ oo k - oo j then oo k - oo j else oo 0 - (oo k - oo j)) = oo ((k - j) + (j - k)) := by
  by_cases h : j ≤ k
  · rw [oo_sub h, if_pos (by rw [oo_le (by decide) (by omega)]; omega), Nat.sub_eq_zero_of_le h, Nat.add_zero]
  · have h3 : (oo k - oo j).toInt = (k : Int) - j := by
      rw [Int32.toInt_sub, oo_int (by omega), oo_int (by omega), Int.bmod_eq_of_le (by omega) (by omega)]
    rw [if_neg (by rw [Int32.le_iff_toInt_le, h3, oo_int (by decide)]; omega), Nat.sub_eq_zero_of_le (show k ≤ j by omega), Nat.zero_add]
    rw [← Int32.toInt_inj, Int32.toInt_sub, h3, oo_int (by decide), oo_int (by omega), Int.bmod_eq_of_le (by omega) (by omega)]
    omega
section SU
variable {S : XS} {c d r q b b2 : Nat} {g h : Nat → Nat}
theorem tot_L (hg : ∀ s, s < 6 → gat S c (oo (r * 6 + s)) = oo (g s)) : ∀ m k n, k + m = 6 → m < n → f_X11_total_L4 c (oo r) n (oo (su g k)) (oo k) S = some (oo (su g 6)) := by
  intro m
  induction m with
  | zero =>
    intro k n hk hn
    obtain ⟨n, rfl⟩ : ∃ n', n = n' + 1 := ⟨n - 1, by omega⟩
    obtain rfl : k = 6 := by omega
    simp (disch := omega) only [f_X11_total_L4, ↓oo_m1, oo_0, oo_1, oo_2, oo_3, oo_4, oo_5, oo_6, oo_7, oo_8, oo_9, oo_10, oo_12, oo_13, oo_14, oo_15, oo_16, oo_17, oo_18, oo_20, oo_24, oo_30, oo_32, oo_36, oo_40, oo_41, oo_48, oo_50, oo_57, oo_59, oo_60, oo_61, oo_62, oo_63, oo_64, oo_66, oo_72, oo_78, oo_96, oo_97, oo_99, oo_100, oo_101, oo_105, oo_107, oo_108, oo_109, oo_110, oo_111, oo_112, oo_114, oo_115, oo_116, oo_117, oo_119, oo_122, oo_128, oo_130, oo_134, oo_135, oo_136, oo_137, oo_138, oo_139, oo_140, oo_141, oo_142, oo_143, oo_144, oo_145, oo_151, oo_157, oo_194, oo_200, oo_240, oo_255, oo_256, oo_274, oo_276, oo_300, oo_516, oo_900, oo_940, oo_941, oo_999, oo_1000, oo_1040, oo_10000, oo_add, oo_mul, oo_sub, oo_lt, oo_le, oo_eq, oo_nat, oo_div, oo_rem, oo_nn, nn_oo, oo_nnlt, nn_oolt, oo_nnle, nn_oole, ↓reduceIte, if_pos, if_neg, or_false, false_or, or_true, true_or, and_true, true_and, and_false, false_and, not_true_eq_false, not_false_eq_true, Nat.not_lt_zero, Bool.false_eq_true, Bool.true_eq_false, Option.bind_some, Option.bind_none, rf_188_1, rf_188_14, rf_188_15, rf_188_16, rf_188_17, rf_188_18, rf_188_19, rf_188_20, rf_188_21, rf_188_22, rf_188_24, rf_188_25, rf_188_26, rf_188_27, rf_188_28, rf_188_31, rf_188_32, rf_188_34, rf_188_35, rf_188_36, rf_188_37, rf_188_38, rf_188_42, rf_188_43, rf_188_51, rf_188_52, rf_188_53, rf_188_55, ln_190]
  | succ m ih =>
    intro k n hk hn
    obtain ⟨n, rfl⟩ : ∃ n', n = n' + 1 := ⟨n - 1, by omega⟩
    simp (disch := omega) only [f_X11_total_L4, ↓oo_m1, oo_0, oo_1, oo_2, oo_3, oo_4, oo_5, oo_6, oo_7, oo_8, oo_9, oo_10, oo_12, oo_13, oo_14, oo_15, oo_16, oo_17, oo_18, oo_20, oo_24, oo_30, oo_32, oo_36, oo_40, oo_41, oo_48, oo_50, oo_57, oo_59, oo_60, oo_61, oo_62, oo_63, oo_64, oo_66, oo_72, oo_78, oo_96, oo_97, oo_99, oo_100, oo_101, oo_105, oo_107, oo_108, oo_109, oo_110, oo_111, oo_112, oo_114, oo_115, oo_116, oo_117, oo_119, oo_122, oo_128, oo_130, oo_134, oo_135, oo_136, oo_137, oo_138, oo_139, oo_140, oo_141, oo_142, oo_143, oo_144, oo_145, oo_151, oo_157, oo_194, oo_200, oo_240, oo_255, oo_256, oo_274, oo_276, oo_300, oo_516, oo_900, oo_940, oo_941, oo_999, oo_1000, oo_1040, oo_10000, oo_add, oo_mul, oo_sub, oo_lt, oo_le, oo_eq, oo_nat, oo_div, oo_rem, oo_nn, nn_oo, oo_nnlt, nn_oolt, oo_nnle, nn_oole, ↓reduceIte, if_pos, if_neg, or_false, false_or, or_true, true_or, and_true, true_and, and_false, false_and, not_true_eq_false, not_false_eq_true, Nat.not_lt_zero, Bool.false_eq_true, Bool.true_eq_false, Option.bind_some, Option.bind_none, rf_188_1, rf_188_14, rf_188_15, rf_188_16, rf_188_17, rf_188_18, rf_188_19, rf_188_20, rf_188_21, rf_188_22, rf_188_24, rf_188_25, rf_188_26, rf_188_27, rf_188_28, rf_188_31, rf_188_32, rf_188_34, rf_188_35, rf_188_36, rf_188_37, rf_188_38, rf_188_42, rf_188_43, rf_188_51, rf_188_52, rf_188_53, rf_188_55, ln_190, hg]
    exact ih (k + 1) n (by omega) (by omega)
theorem tot6 (hg : ∀ s, s < 6 → gat S c (oo (r * 6 + s)) = oo (g s)) : f_X11_total c (oo r) S = some (oo (su g 6), S) := by
  have := tot_L hg 6 0 1000000 rfl (by decide)
  rw [f_X11_total]
  rw [show oo (su g 0) = (0 : Int32) from rfl, show oo 0 = (0 : Int32) from rfl] at this
  rw [this]
  rfl
theorem sum_L (hg : ∀ s, s < 6 → S.1 190 (b + s) = oo (g s)) (hb : b + 6 ≤ 516) : ∀ m k n, k + m = 6 → m < n → f_X12_sumAt_L4 188 (oo b) n (oo (su g k)) (oo k) S = some (oo (su g 6)) := by
  intro m
  induction m with
  | zero =>
    intro k n hk hn
    obtain ⟨n, rfl⟩ : ∃ n', n = n' + 1 := ⟨n - 1, by omega⟩
    obtain rfl : k = 6 := by omega
    simp (disch := omega) only [f_X12_sumAt_L4, ↓oo_m1, oo_0, oo_1, oo_2, oo_3, oo_4, oo_5, oo_6, oo_7, oo_8, oo_9, oo_10, oo_12, oo_13, oo_14, oo_15, oo_16, oo_17, oo_18, oo_20, oo_24, oo_30, oo_32, oo_36, oo_40, oo_41, oo_48, oo_50, oo_57, oo_59, oo_60, oo_61, oo_62, oo_63, oo_64, oo_66, oo_72, oo_78, oo_96, oo_97, oo_99, oo_100, oo_101, oo_105, oo_107, oo_108, oo_109, oo_110, oo_111, oo_112, oo_114, oo_115, oo_116, oo_117, oo_119, oo_122, oo_128, oo_130, oo_134, oo_135, oo_136, oo_137, oo_138, oo_139, oo_140, oo_141, oo_142, oo_143, oo_144, oo_145, oo_151, oo_157, oo_194, oo_200, oo_240, oo_255, oo_256, oo_274, oo_276, oo_300, oo_516, oo_900, oo_940, oo_941, oo_999, oo_1000, oo_1040, oo_10000, oo_add, oo_mul, oo_sub, oo_lt, oo_le, oo_eq, oo_nat, oo_div, oo_rem, oo_nn, nn_oo, oo_nnlt, nn_oolt, oo_nnle, nn_oole, ↓reduceIte, if_pos, if_neg, or_false, false_or, or_true, true_or, and_true, true_and, and_false, false_and, not_true_eq_false, not_false_eq_true, Nat.not_lt_zero, Bool.false_eq_true, Bool.true_eq_false, Option.bind_some, Option.bind_none, rf_188_1, rf_188_14, rf_188_15, rf_188_16, rf_188_17, rf_188_18, rf_188_19, rf_188_20, rf_188_21, rf_188_22, rf_188_24, rf_188_25, rf_188_26, rf_188_27, rf_188_28, rf_188_31, rf_188_32, rf_188_34, rf_188_35, rf_188_36, rf_188_37, rf_188_38, rf_188_42, rf_188_43, rf_188_51, rf_188_52, rf_188_53, rf_188_55, ln_190]
  | succ m ih =>
    intro k n hk hn
    obtain ⟨n, rfl⟩ : ∃ n', n = n' + 1 := ⟨n - 1, by omega⟩
    simp (disch := omega) only [f_X12_sumAt_L4, ↓oo_m1, oo_0, oo_1, oo_2, oo_3, oo_4, oo_5, oo_6, oo_7, oo_8, oo_9, oo_10, oo_12, oo_13, oo_14, oo_15, oo_16, oo_17, oo_18, oo_20, oo_24, oo_30, oo_32, oo_36, oo_40, oo_41, oo_48, oo_50, oo_57, oo_59, oo_60, oo_61, oo_62, oo_63, oo_64, oo_66, oo_72, oo_78, oo_96, oo_97, oo_99, oo_100, oo_101, oo_105, oo_107, oo_108, oo_109, oo_110, oo_111, oo_112, oo_114, oo_115, oo_116, oo_117, oo_119, oo_122, oo_128, oo_130, oo_134, oo_135, oo_136, oo_137, oo_138, oo_139, oo_140, oo_141, oo_142, oo_143, oo_144, oo_145, oo_151, oo_157, oo_194, oo_200, oo_240, oo_255, oo_256, oo_274, oo_276, oo_300, oo_516, oo_900, oo_940, oo_941, oo_999, oo_1000, oo_1040, oo_10000, oo_add, oo_mul, oo_sub, oo_lt, oo_le, oo_eq, oo_nat, oo_div, oo_rem, oo_nn, nn_oo, oo_nnlt, nn_oolt, oo_nnle, nn_oole, ↓reduceIte, if_pos, if_neg, or_false, false_or, or_true, true_or, and_true, true_and, and_false, false_and, not_true_eq_false, not_false_eq_true, Nat.not_lt_zero, Bool.false_eq_true, Bool.true_eq_false, Option.bind_some, Option.bind_none, rf_188_1, rf_188_14, rf_188_15, rf_188_16, rf_188_17, rf_188_18, rf_188_19, rf_188_20, rf_188_21, rf_188_22, rf_188_24, rf_188_25, rf_188_26, rf_188_27, rf_188_28, rf_188_31, rf_188_32, rf_188_34, rf_188_35, rf_188_36, rf_188_37, rf_188_38, rf_188_42, rf_188_43, rf_188_51, rf_188_52, rf_188_53, rf_188_55, ln_190, hg]
    exact ih (k + 1) n (by omega) (by omega)
theorem sum6 (hg : ∀ s, s < 6 → S.1 190 (b + s) = oo (g s)) (hb : b + 6 ≤ 516) : f_X12_sumAt 188 (oo b) S = some (oo (su g 6), S) := by
  have := sum_L hg hb 6 0 1000000 rfl (by decide)
  rw [f_X12_sumAt]
  rw [show oo (su g 0) = (0 : Int32) from rfl, show oo 0 = (0 : Int32) from rfl] at this
  rw [this]
  rfl
theorem sgr_L (hg : ∀ s, s < 6 → gat S c (oo (r * 6 + s)) = oo (g s)) (hc : ∀ s, s < 6 → g s < 1000) : ∀ m k n, k + m = 6 → m < n → f_X11_strongest_L7 c (oo r) n (enc (sgF g k)) (oo (mtF g k)) (oo k) S = some (enc (sgF g 6)) := by
  intro m
  induction m with
  | zero =>
    intro k n hk hn
    obtain ⟨n, rfl⟩ : ∃ n', n = n' + 1 := ⟨n - 1, by omega⟩
    obtain rfl : k = 6 := by omega
    simp (disch := omega) only [f_X11_strongest_L7, ↓oo_m1, oo_0, oo_1, oo_2, oo_3, oo_4, oo_5, oo_6, oo_7, oo_8, oo_9, oo_10, oo_12, oo_13, oo_14, oo_15, oo_16, oo_17, oo_18, oo_20, oo_24, oo_30, oo_32, oo_36, oo_40, oo_41, oo_48, oo_50, oo_57, oo_59, oo_60, oo_61, oo_62, oo_63, oo_64, oo_66, oo_72, oo_78, oo_96, oo_97, oo_99, oo_100, oo_101, oo_105, oo_107, oo_108, oo_109, oo_110, oo_111, oo_112, oo_114, oo_115, oo_116, oo_117, oo_119, oo_122, oo_128, oo_130, oo_134, oo_135, oo_136, oo_137, oo_138, oo_139, oo_140, oo_141, oo_142, oo_143, oo_144, oo_145, oo_151, oo_157, oo_194, oo_200, oo_240, oo_255, oo_256, oo_274, oo_276, oo_300, oo_516, oo_900, oo_940, oo_941, oo_999, oo_1000, oo_1040, oo_10000, oo_add, oo_mul, oo_sub, oo_lt, oo_le, oo_eq, oo_nat, oo_div, oo_rem, oo_nn, nn_oo, oo_nnlt, nn_oolt, oo_nnle, nn_oole, ↓reduceIte, if_pos, if_neg, or_false, false_or, or_true, true_or, and_true, true_and, and_false, false_and, not_true_eq_false, not_false_eq_true, Nat.not_lt_zero, Bool.false_eq_true, Bool.true_eq_false, Option.bind_some, Option.bind_none, rf_188_1, rf_188_14, rf_188_15, rf_188_16, rf_188_17, rf_188_18, rf_188_19, rf_188_20, rf_188_21, rf_188_22, rf_188_24, rf_188_25, rf_188_26, rf_188_27, rf_188_28, rf_188_31, rf_188_32, rf_188_34, rf_188_35, rf_188_36, rf_188_37, rf_188_38, rf_188_42, rf_188_43, rf_188_51, rf_188_52, rf_188_53, rf_188_55, ln_190]
  | succ m ih =>
    intro k n hk hn
    obtain ⟨n, rfl⟩ : ∃ n', n = n' + 1 := ⟨n - 1, by omega⟩
    have h1 := hc k (by omega)
    have h0 := sgF_le g k
    have h2 : mtF g k < 1000 := by
      unfold mtF
      split
      · decide
      · exact hc _ (by omega)
    have h5 := ih (k + 1) n (by omega) (by omega)
    simp (disch := omega) only [f_X11_strongest_L7, ↓oo_m1, oo_0, oo_1, oo_2, oo_3, oo_4, oo_5, oo_6, oo_7, oo_8, oo_9, oo_10, oo_12, oo_13, oo_14, oo_15, oo_16, oo_17, oo_18, oo_20, oo_24, oo_30, oo_32, oo_36, oo_40, oo_41, oo_48, oo_50, oo_57, oo_59, oo_60, oo_61, oo_62, oo_63, oo_64, oo_66, oo_72, oo_78, oo_96, oo_97, oo_99, oo_100, oo_101, oo_105, oo_107, oo_108, oo_109, oo_110, oo_111, oo_112, oo_114, oo_115, oo_116, oo_117, oo_119, oo_122, oo_128, oo_130, oo_134, oo_135, oo_136, oo_137, oo_138, oo_139, oo_140, oo_141, oo_142, oo_143, oo_144, oo_145, oo_151, oo_157, oo_194, oo_200, oo_240, oo_255, oo_256, oo_274, oo_276, oo_300, oo_516, oo_900, oo_940, oo_941, oo_999, oo_1000, oo_1040, oo_10000, oo_add, oo_mul, oo_sub, oo_lt, oo_le, oo_eq, oo_nat, oo_div, oo_rem, oo_nn, nn_oo, oo_nnlt, nn_oolt, oo_nnle, nn_oole, ↓reduceIte, if_pos, if_neg, or_false, false_or, or_true, true_or, and_true, true_and, and_false, false_and, not_true_eq_false, not_false_eq_true, Nat.not_lt_zero, Bool.false_eq_true, Bool.true_eq_false, Option.bind_some, Option.bind_none, rf_188_1, rf_188_14, rf_188_15, rf_188_16, rf_188_17, rf_188_18, rf_188_19, rf_188_20, rf_188_21, rf_188_22, rf_188_24, rf_188_25, rf_188_26, rf_188_27, rf_188_28, rf_188_31, rf_188_32, rf_188_34, rf_188_35, rf_188_36, rf_188_37, rf_188_38, rf_188_42, rf_188_43, rf_188_51, rf_188_52, rf_188_53, rf_188_55, ln_190, hg]
    by_cases h3 : g k ≤ mtF g k
    · rw [if_pos h3]
      have h4 : sgF g (k + 1) = sgF g k := by
        rw [sgF]
        unfold mtF at h3
        split at h3
        · rename_i h6
          rw [if_pos h6, if_pos (by omega), h6]
        · rename_i h6
          rw [if_neg h6, if_pos h3]
      unfold mtF at h5 ⊢
      rw [h4] at h5
      exact h5
    · rw [if_neg h3]
      have h4 : sgF g (k + 1) = k + 1 := by
        rw [sgF]
        unfold mtF at h3
        split at h3
        · rename_i h6
          rw [if_pos h6, if_neg (by omega)]
        · rename_i h6
          rw [if_neg h6, if_neg h3]
      unfold mtF at h5
      rw [h4, enc_s, if_neg (by omega)] at h5
      exact h5
theorem str6 (hg : ∀ s, s < 6 → gat S c (oo (r * 6 + s)) = oo (g s)) (hc : ∀ s, s < 6 → g s < 1000) : f_X11_strongest c (oo r) S = some (enc (sgF g 6), S) := by
  have := sgr_L hg hc 6 0 1000000 rfl (by decide)
  rw [f_X11_strongest]
  rw [show enc (sgF g 0) = (-1 : Int32) from rfl, show oo (mtF g 0) = (0 : Int32) from rfl, show oo 0 = (0 : Int32) from rfl] at this
  rw [this]
  rfl
theorem sta_L (hg : ∀ s, s < 6 → S.1 190 (b + s) = oo (g s)) (hb : b + 6 ≤ 516) (hc : ∀ s, s < 6 → g s < 1000) : ∀ m k n, k + m = 6 → m < n → f_X12_strongestAt_L4 188 (oo b) n (enc (sgF g k)) (oo k) S = some (enc (sgF g 6)) := by
  intro m
  induction m with
  | zero =>
    intro k n hk hn
    obtain ⟨n, rfl⟩ : ∃ n', n = n' + 1 := ⟨n - 1, by omega⟩
    obtain rfl : k = 6 := by omega
    simp (disch := omega) only [f_X12_strongestAt_L4, ↓oo_m1, oo_0, oo_1, oo_2, oo_3, oo_4, oo_5, oo_6, oo_7, oo_8, oo_9, oo_10, oo_12, oo_13, oo_14, oo_15, oo_16, oo_17, oo_18, oo_20, oo_24, oo_30, oo_32, oo_36, oo_40, oo_41, oo_48, oo_50, oo_57, oo_59, oo_60, oo_61, oo_62, oo_63, oo_64, oo_66, oo_72, oo_78, oo_96, oo_97, oo_99, oo_100, oo_101, oo_105, oo_107, oo_108, oo_109, oo_110, oo_111, oo_112, oo_114, oo_115, oo_116, oo_117, oo_119, oo_122, oo_128, oo_130, oo_134, oo_135, oo_136, oo_137, oo_138, oo_139, oo_140, oo_141, oo_142, oo_143, oo_144, oo_145, oo_151, oo_157, oo_194, oo_200, oo_240, oo_255, oo_256, oo_274, oo_276, oo_300, oo_516, oo_900, oo_940, oo_941, oo_999, oo_1000, oo_1040, oo_10000, oo_add, oo_mul, oo_sub, oo_lt, oo_le, oo_eq, oo_nat, oo_div, oo_rem, oo_nn, nn_oo, oo_nnlt, nn_oolt, oo_nnle, nn_oole, ↓reduceIte, if_pos, if_neg, or_false, false_or, or_true, true_or, and_true, true_and, and_false, false_and, not_true_eq_false, not_false_eq_true, Nat.not_lt_zero, Bool.false_eq_true, Bool.true_eq_false, Option.bind_some, Option.bind_none, rf_188_1, rf_188_14, rf_188_15, rf_188_16, rf_188_17, rf_188_18, rf_188_19, rf_188_20, rf_188_21, rf_188_22, rf_188_24, rf_188_25, rf_188_26, rf_188_27, rf_188_28, rf_188_31, rf_188_32, rf_188_34, rf_188_35, rf_188_36, rf_188_37, rf_188_38, rf_188_42, rf_188_43, rf_188_51, rf_188_52, rf_188_53, rf_188_55, ln_190]
  | succ m ih =>
    intro k n hk hn
    obtain ⟨n, rfl⟩ : ∃ n', n = n' + 1 := ⟨n - 1, by omega⟩
    have h1 := hc k (by omega)
    have h0 := sgF_le g k
    have h5 := ih (k + 1) n (by omega) (by omega)
    rw [sgF] at h5
    generalize sgF g k = z at h0 h5 ⊢
    match z, h0 with
    | 0, h0 =>
      simp (disch := omega) only [f_X12_strongestAt_L4, ↓oo_m1, oo_0, oo_1, oo_2, oo_3, oo_4, oo_5, oo_6, oo_7, oo_8, oo_9, oo_10, oo_12, oo_13, oo_14, oo_15, oo_16, oo_17, oo_18, oo_20, oo_24, oo_30, oo_32, oo_36, oo_40, oo_41, oo_48, oo_50, oo_57, oo_59, oo_60, oo_61, oo_62, oo_63, oo_64, oo_66, oo_72, oo_78, oo_96, oo_97, oo_99, oo_100, oo_101, oo_105, oo_107, oo_108, oo_109, oo_110, oo_111, oo_112, oo_114, oo_115, oo_116, oo_117, oo_119, oo_122, oo_128, oo_130, oo_134, oo_135, oo_136, oo_137, oo_138, oo_139, oo_140, oo_141, oo_142, oo_143, oo_144, oo_145, oo_151, oo_157, oo_194, oo_200, oo_240, oo_255, oo_256, oo_274, oo_276, oo_300, oo_516, oo_900, oo_940, oo_941, oo_999, oo_1000, oo_1040, oo_10000, oo_add, oo_mul, oo_sub, oo_lt, oo_le, oo_eq, oo_nat, oo_div, oo_rem, oo_nn, nn_oo, oo_nnlt, nn_oolt, oo_nnle, nn_oole, ↓reduceIte, if_pos, if_neg, or_false, false_or, or_true, true_or, and_true, true_and, and_false, false_and, not_true_eq_false, not_false_eq_true, Nat.not_lt_zero, Bool.false_eq_true, Bool.true_eq_false, Option.bind_some, Option.bind_none, rf_188_1, rf_188_14, rf_188_15, rf_188_16, rf_188_17, rf_188_18, rf_188_19, rf_188_20, rf_188_21, rf_188_22, rf_188_24, rf_188_25, rf_188_26, rf_188_27, rf_188_28, rf_188_31, rf_188_32, rf_188_34, rf_188_35, rf_188_36, rf_188_37, rf_188_38, rf_188_42, rf_188_43, rf_188_51, rf_188_52, rf_188_53, rf_188_55, ln_190, hg, enc_0]
      rw [if_pos rfl] at h5
      by_cases h3 : g k ≤ 0
      · rw [if_pos (by omega)] at h5
        rw [if_pos h3]
        exact h5
      · rw [if_neg (by omega)] at h5
        rw [if_neg h3]
        exact h5
    | z + 1, h0 =>
      have h7 := hc z (by omega)
      simp (disch := omega) only [f_X12_strongestAt_L4, ↓oo_m1, oo_0, oo_1, oo_2, oo_3, oo_4, oo_5, oo_6, oo_7, oo_8, oo_9, oo_10, oo_12, oo_13, oo_14, oo_15, oo_16, oo_17, oo_18, oo_20, oo_24, oo_30, oo_32, oo_36, oo_40, oo_41, oo_48, oo_50, oo_57, oo_59, oo_60, oo_61, oo_62, oo_63, oo_64, oo_66, oo_72, oo_78, oo_96, oo_97, oo_99, oo_100, oo_101, oo_105, oo_107, oo_108, oo_109, oo_110, oo_111, oo_112, oo_114, oo_115, oo_116, oo_117, oo_119, oo_122, oo_128, oo_130, oo_134, oo_135, oo_136, oo_137, oo_138, oo_139, oo_140, oo_141, oo_142, oo_143, oo_144, oo_145, oo_151, oo_157, oo_194, oo_200, oo_240, oo_255, oo_256, oo_274, oo_276, oo_300, oo_516, oo_900, oo_940, oo_941, oo_999, oo_1000, oo_1040, oo_10000, oo_add, oo_mul, oo_sub, oo_lt, oo_le, oo_eq, oo_nat, oo_div, oo_rem, oo_nn, nn_oo, oo_nnlt, nn_oolt, oo_nnle, nn_oole, ↓reduceIte, if_pos, if_neg, or_false, false_or, or_true, true_or, and_true, true_and, and_false, false_and, not_true_eq_false, not_false_eq_true, Nat.not_lt_zero, Bool.false_eq_true, Bool.true_eq_false, Option.bind_some, Option.bind_none, rf_188_1, rf_188_14, rf_188_15, rf_188_16, rf_188_17, rf_188_18, rf_188_19, rf_188_20, rf_188_21, rf_188_22, rf_188_24, rf_188_25, rf_188_26, rf_188_27, rf_188_28, rf_188_31, rf_188_32, rf_188_34, rf_188_35, rf_188_36, rf_188_37, rf_188_38, rf_188_42, rf_188_43, rf_188_51, rf_188_52, rf_188_53, rf_188_55, ln_190, hg, enc_s]
      rw [if_neg (by omega), Nat.add_sub_cancel] at h5
      by_cases h3 : g k ≤ 0
      · rw [if_pos h3]
        rw [if_pos (by omega)] at h5
        exact h5
      · rw [if_neg h3]
        by_cases h4 : g k ≤ g z
        · rw [if_pos h4] at h5 ⊢
          exact h5
        · rw [if_neg h4] at h5 ⊢
          exact h5
theorem sta6 (hg : ∀ s, s < 6 → S.1 190 (b + s) = oo (g s)) (hb : b + 6 ≤ 516) (hc : ∀ s, s < 6 → g s < 1000) : f_X12_strongestAt 188 (oo b) S = some (enc (sgF g 6), S) := by
  have := sta_L hg hb hc 6 0 1000000 rfl (by decide)
  rw [f_X12_strongestAt]
  rw [show enc (sgF g 0) = (-1 : Int32) from rfl, show oo 0 = (0 : Int32) from rfl] at this
  rw [this]
  rfl
theorem dif_L (hg : ∀ s, s < 6 → gat S c (oo (r * 6 + s)) = oo (g s)) (hh : ∀ s, s < 6 → gat S d (oo (q * 6 + s)) = oo (h s)) (hc : ∀ s, s < 6 → g s < 1000) (hd : ∀ s, s < 6 → h s < 1000) : ∀ m k n, k + m = 6 → m < n → f_X11_difference_L6 c (oo r) d (oo q) n (oo (df g h k)) (oo k) S = some (oo (df g h 6), S) := by
  intro m
  induction m with
  | zero =>
    intro k n hk hn
    obtain ⟨n, rfl⟩ : ∃ n', n = n' + 1 := ⟨n - 1, by omega⟩
    obtain rfl : k = 6 := by omega
    simp (disch := omega) only [f_X11_difference_L6, ↓oo_m1, oo_0, oo_1, oo_2, oo_3, oo_4, oo_5, oo_6, oo_7, oo_8, oo_9, oo_10, oo_12, oo_13, oo_14, oo_15, oo_16, oo_17, oo_18, oo_20, oo_24, oo_30, oo_32, oo_36, oo_40, oo_41, oo_48, oo_50, oo_57, oo_59, oo_60, oo_61, oo_62, oo_63, oo_64, oo_66, oo_72, oo_78, oo_96, oo_97, oo_99, oo_100, oo_101, oo_105, oo_107, oo_108, oo_109, oo_110, oo_111, oo_112, oo_114, oo_115, oo_116, oo_117, oo_119, oo_122, oo_128, oo_130, oo_134, oo_135, oo_136, oo_137, oo_138, oo_139, oo_140, oo_141, oo_142, oo_143, oo_144, oo_145, oo_151, oo_157, oo_194, oo_200, oo_240, oo_255, oo_256, oo_274, oo_276, oo_300, oo_516, oo_900, oo_940, oo_941, oo_999, oo_1000, oo_1040, oo_10000, oo_add, oo_mul, oo_sub, oo_lt, oo_le, oo_eq, oo_nat, oo_div, oo_rem, oo_nn, nn_oo, oo_nnlt, nn_oolt, oo_nnle, nn_oole, ↓reduceIte, if_pos, if_neg, or_false, false_or, or_true, true_or, and_true, true_and, and_false, false_and, not_true_eq_false, not_false_eq_true, Nat.not_lt_zero, Bool.false_eq_true, Bool.true_eq_false, Option.bind_some, Option.bind_none, rf_188_1, rf_188_14, rf_188_15, rf_188_16, rf_188_17, rf_188_18, rf_188_19, rf_188_20, rf_188_21, rf_188_22, rf_188_24, rf_188_25, rf_188_26, rf_188_27, rf_188_28, rf_188_31, rf_188_32, rf_188_34, rf_188_35, rf_188_36, rf_188_37, rf_188_38, rf_188_42, rf_188_43, rf_188_51, rf_188_52, rf_188_53, rf_188_55, ln_190]
  | succ m ih =>
    intro k n hk hn
    obtain ⟨n, rfl⟩ : ∃ n', n = n' + 1 := ⟨n - 1, by omega⟩
    have h1 := hc k (by omega)
    have h2 := hd k (by omega)
    simp (disch := omega) only [f_X11_difference_L6, oo_abs, ↓oo_m1, oo_0, oo_1, oo_2, oo_3, oo_4, oo_5, oo_6, oo_7, oo_8, oo_9, oo_10, oo_12, oo_13, oo_14, oo_15, oo_16, oo_17, oo_18, oo_20, oo_24, oo_30, oo_32, oo_36, oo_40, oo_41, oo_48, oo_50, oo_57, oo_59, oo_60, oo_61, oo_62, oo_63, oo_64, oo_66, oo_72, oo_78, oo_96, oo_97, oo_99, oo_100, oo_101, oo_105, oo_107, oo_108, oo_109, oo_110, oo_111, oo_112, oo_114, oo_115, oo_116, oo_117, oo_119, oo_122, oo_128, oo_130, oo_134, oo_135, oo_136, oo_137, oo_138, oo_139, oo_140, oo_141, oo_142, oo_143, oo_144, oo_145, oo_151, oo_157, oo_194, oo_200, oo_240, oo_255, oo_256, oo_274, oo_276, oo_300, oo_516, oo_900, oo_940, oo_941, oo_999, oo_1000, oo_1040, oo_10000, oo_add, oo_mul, oo_sub, oo_lt, oo_le, oo_eq, oo_nat, oo_div, oo_rem, oo_nn, nn_oo, oo_nnlt, nn_oolt, oo_nnle, nn_oole, ↓reduceIte, if_pos, if_neg, or_false, false_or, or_true, true_or, and_true, true_and, and_false, false_and, not_true_eq_false, not_false_eq_true, Nat.not_lt_zero, Bool.false_eq_true, Bool.true_eq_false, Option.bind_some, Option.bind_none, rf_188_1, rf_188_14, rf_188_15, rf_188_16, rf_188_17, rf_188_18, rf_188_19, rf_188_20, rf_188_21, rf_188_22, rf_188_24, rf_188_25, rf_188_26, rf_188_27, rf_188_28, rf_188_31, rf_188_32, rf_188_34, rf_188_35, rf_188_36, rf_188_37, rf_188_38, rf_188_42, rf_188_43, rf_188_51, rf_188_52, rf_188_53, rf_188_55, ln_190, hg, hh]
    exact ih (k + 1) n (by omega) (by omega)
theorem dif6 (hg : ∀ s, s < 6 → gat S c (oo (r * 6 + s)) = oo (g s)) (hh : ∀ s, s < 6 → gat S d (oo (q * 6 + s)) = oo (h s)) (hc : ∀ s, s < 6 → g s < 1000) (hd : ∀ s, s < 6 → h s < 1000) : f_X11_difference c (oo r) d (oo q) S = some (oo (df g h 6), S) := by
  have := dif_L hg hh hc hd 6 0 1000000 rfl (by decide)
  rw [f_X11_difference]
  rw [show oo (df g h 0) = (0 : Int32) from rfl, show oo 0 = (0 : Int32) from rfl] at this
  rw [this]
  rfl
theorem apt_L (hg : ∀ s, s < 6 → S.1 190 (b + s) = oo (g s)) (hh : ∀ s, s < 6 → S.1 190 (b2 + s) = oo (h s)) (hb : b + 6 ≤ 516) (hb2 : b2 + 6 ≤ 516) (hc : ∀ s, s < 6 → g s < 1000) (hd : ∀ s, s < 6 → h s < 1000) : ∀ m k n, k + m = 6 → m < n → f_X12_apart_L5 188 (oo b) (oo b2) n (oo (df g h k)) (oo k) S = some (oo (df g h 6)) := by
  intro m
  induction m with
  | zero =>
    intro k n hk hn
    obtain ⟨n, rfl⟩ : ∃ n', n = n' + 1 := ⟨n - 1, by omega⟩
    obtain rfl : k = 6 := by omega
    simp (disch := omega) only [f_X12_apart_L5, ↓oo_m1, oo_0, oo_1, oo_2, oo_3, oo_4, oo_5, oo_6, oo_7, oo_8, oo_9, oo_10, oo_12, oo_13, oo_14, oo_15, oo_16, oo_17, oo_18, oo_20, oo_24, oo_30, oo_32, oo_36, oo_40, oo_41, oo_48, oo_50, oo_57, oo_59, oo_60, oo_61, oo_62, oo_63, oo_64, oo_66, oo_72, oo_78, oo_96, oo_97, oo_99, oo_100, oo_101, oo_105, oo_107, oo_108, oo_109, oo_110, oo_111, oo_112, oo_114, oo_115, oo_116, oo_117, oo_119, oo_122, oo_128, oo_130, oo_134, oo_135, oo_136, oo_137, oo_138, oo_139, oo_140, oo_141, oo_142, oo_143, oo_144, oo_145, oo_151, oo_157, oo_194, oo_200, oo_240, oo_255, oo_256, oo_274, oo_276, oo_300, oo_516, oo_900, oo_940, oo_941, oo_999, oo_1000, oo_1040, oo_10000, oo_add, oo_mul, oo_sub, oo_lt, oo_le, oo_eq, oo_nat, oo_div, oo_rem, oo_nn, nn_oo, oo_nnlt, nn_oolt, oo_nnle, nn_oole, ↓reduceIte, if_pos, if_neg, or_false, false_or, or_true, true_or, and_true, true_and, and_false, false_and, not_true_eq_false, not_false_eq_true, Nat.not_lt_zero, Bool.false_eq_true, Bool.true_eq_false, Option.bind_some, Option.bind_none, rf_188_1, rf_188_14, rf_188_15, rf_188_16, rf_188_17, rf_188_18, rf_188_19, rf_188_20, rf_188_21, rf_188_22, rf_188_24, rf_188_25, rf_188_26, rf_188_27, rf_188_28, rf_188_31, rf_188_32, rf_188_34, rf_188_35, rf_188_36, rf_188_37, rf_188_38, rf_188_42, rf_188_43, rf_188_51, rf_188_52, rf_188_53, rf_188_55, ln_190]
  | succ m ih =>
    intro k n hk hn
    obtain ⟨n, rfl⟩ : ∃ n', n = n' + 1 := ⟨n - 1, by omega⟩
    have h1 := hc k (by omega)
    have h2 := hd k (by omega)
    simp (disch := omega) only [f_X12_apart_L5, t_X12_size, oo_abs, ↓oo_m1, oo_0, oo_1, oo_2, oo_3, oo_4, oo_5, oo_6, oo_7, oo_8, oo_9, oo_10, oo_12, oo_13, oo_14, oo_15, oo_16, oo_17, oo_18, oo_20, oo_24, oo_30, oo_32, oo_36, oo_40, oo_41, oo_48, oo_50, oo_57, oo_59, oo_60, oo_61, oo_62, oo_63, oo_64, oo_66, oo_72, oo_78, oo_96, oo_97, oo_99, oo_100, oo_101, oo_105, oo_107, oo_108, oo_109, oo_110, oo_111, oo_112, oo_114, oo_115, oo_116, oo_117, oo_119, oo_122, oo_128, oo_130, oo_134, oo_135, oo_136, oo_137, oo_138, oo_139, oo_140, oo_141, oo_142, oo_143, oo_144, oo_145, oo_151, oo_157, oo_194, oo_200, oo_240, oo_255, oo_256, oo_274, oo_276, oo_300, oo_516, oo_900, oo_940, oo_941, oo_999, oo_1000, oo_1040, oo_10000, oo_add, oo_mul, oo_sub, oo_lt, oo_le, oo_eq, oo_nat, oo_div, oo_rem, oo_nn, nn_oo, oo_nnlt, nn_oolt, oo_nnle, nn_oole, ↓reduceIte, if_pos, if_neg, or_false, false_or, or_true, true_or, and_true, true_and, and_false, false_and, not_true_eq_false, not_false_eq_true, Nat.not_lt_zero, Bool.false_eq_true, Bool.true_eq_false, Option.bind_some, Option.bind_none, rf_188_1, rf_188_14, rf_188_15, rf_188_16, rf_188_17, rf_188_18, rf_188_19, rf_188_20, rf_188_21, rf_188_22, rf_188_24, rf_188_25, rf_188_26, rf_188_27, rf_188_28, rf_188_31, rf_188_32, rf_188_34, rf_188_35, rf_188_36, rf_188_37, rf_188_38, rf_188_42, rf_188_43, rf_188_51, rf_188_52, rf_188_53, rf_188_55, ln_190, hg, hh]
    exact ih (k + 1) n (by omega) (by omega)
theorem apt6 (hg : ∀ s, s < 6 → S.1 190 (b + s) = oo (g s)) (hh : ∀ s, s < 6 → S.1 190 (b2 + s) = oo (h s)) (hb : b + 6 ≤ 516) (hb2 : b2 + 6 ≤ 516) (hc : ∀ s, s < 6 → g s < 1000) (hd : ∀ s, s < 6 → h s < 1000) : f_X12_apart 188 (oo b) (oo b2) S = some (oo (df g h 6), S) := by
  have := apt_L hg hh hb hb2 hc hd 6 0 1000000 rfl (by decide)
  rw [f_X12_apart]
  rw [show oo (df g h 0) = (0 : Int32) from rfl, show oo 0 = (0 : Int32) from rfl] at this
  rw [this]
  rfl
end SU
