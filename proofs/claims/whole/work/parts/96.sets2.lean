theorem fold_ext {f g : Nat → Nat → Nat} : ∀ (l : List Nat) (b : Nat), (∀ p, p ∈ l → ∀ b, f b p = g b p) → l.foldl f b = l.foldl g b := by
  intro l
  induction l with
  | nil => intro b _; rfl
  | cons a l ih =>
    intro b h
    rw [List.foldl_cons, List.foldl_cons, h a (List.mem_cons_self ..)]
    exact ih _ (fun p hp => h p (List.mem_cons_of_mem _ hp))
theorem fold_le {f : Nat → Nat → Nat} {k : Nat} : ∀ (l : List Nat) (b : Nat), b ≤ k → (∀ p, p ∈ l → ∀ b, b ≤ k → f b p ≤ k) → l.foldl f b ≤ k := by
  intro l
  induction l with
  | nil => intro b hb _; exact hb
  | cons a l ih =>
    intro b hb h
    rw [List.foldl_cons]
    exact ih _ (h a (List.mem_cons_self ..) b hb) (fun p hp => h p (List.mem_cons_of_mem _ hp))
theorem dl_mem {s p : Nat} (hs : s < 256) (hp : p ∈ dl 256 s s) : s &&& (255 ^^^ p) = s ^^^ p ∧ s ^^^ p < s ∧ p ≤ s ∧ 1 ≤ p := by
  have h1 : p ∈ al s := by
    rw [← dl_al s hs]
    exact List.mem_reverse.mpr hp
  have h2 := List.all_eq_true.mp (al_rest s hs) p h1
  rw [Bool.and_eq_true, Bool.and_eq_true, decide_eq_true_eq, decide_eq_true_eq, decide_eq_true_eq] at h2
  exact h2
theorem rv_ext {M : Nat → Bool} {F G : Nat → Nat} {s : Nat} (hs : s < 256) (h : ∀ x, x < s → F x = G x) : rvN M F s = rvN M G s := fold_ext _ _ (fun p hp b => by
  obtain ⟨h1, h2, -⟩ := dl_mem hs hp
  unfold rvS
  rw [h1, h _ h2])
theorem rv_le {M : Nat → Bool} {F : Nat → Nat} {s : Nat} (hs : s < 256) (h : ∀ x, x < s → F x ≤ x + 1) : rvN M F s ≤ s + 1 := fold_le _ _ (Nat.zero_le _) (fun p hp b hb => by
  obtain ⟨h1, h2, -⟩ := dl_mem hs hp
  have := h _ h2
  unfold rvS
  rw [h1]
  split
  · split
    · exact hb
    · split
      · omega
      · split <;> omega
  · exact hb)
theorem sets_n {M : Nat → Bool} {A : Nat} (hA : A < 256) : ∀ m s n (T : XS) (F : Nat → Nat), s + m = A + 1 → m < n → 1 ≤ s → (∀ x, x < 256 → T.1 202 x = if M x = true then oo 1 else oo 0) → (∀ x, x < s → T.1 203 x = enc (F x)) → F 0 = 1 → (∀ x, 1 ≤ x → x < s → F x = rvN M F x) → (∀ x, x < s → F x ≤ x + 1) → ∃ (U : XS) (G : Nat → Nat), f_X12_noses_L31 (oo A) 188 n (oo s) T = some U ∧ Fr [(203, 9999)] T U ∧ (∀ x, x ≤ A → U.1 203 x = enc (G x)) ∧ G 0 = 1 ∧ (∀ x, 1 ≤ x → x ≤ A → G x = rvN M G x) ∧ (∀ x, x ≤ A → G x ≤ x + 1) := by
  intro m
  induction m with
  | zero =>
    intro s n T F hk hn h1 hm h203 h0 hrec hle
    obtain ⟨n, rfl⟩ : ∃ n', n = n' + 1 := ⟨n - 1, by omega⟩
    refine ⟨T, F, ?_, Fr.rf _ _, fun x hx => h203 x (by omega), h0, fun x q1 q2 => hrec x q1 (by omega), fun x hx => hle x (by omega)⟩
    simp (disch := omega) only [f_X12_noses_L31, ↓oo_m1, oo_0, oo_1, oo_2, oo_3, oo_4, oo_5, oo_6, oo_7, oo_8, oo_9, oo_10, oo_12, oo_13, oo_14, oo_15, oo_16, oo_17, oo_18, oo_20, oo_24, oo_30, oo_32, oo_36, oo_40, oo_41, oo_48, oo_50, oo_57, oo_59, oo_60, oo_61, oo_62, oo_63, oo_64, oo_66, oo_72, oo_78, oo_96, oo_97, oo_99, oo_100, oo_101, oo_105, oo_107, oo_108, oo_109, oo_110, oo_111, oo_112, oo_114, oo_115, oo_116, oo_117, oo_119, oo_122, oo_128, oo_130, oo_134, oo_135, oo_136, oo_137, oo_138, oo_139, oo_140, oo_141, oo_142, oo_143, oo_144, oo_145, oo_151, oo_157, oo_194, oo_200, oo_240, oo_255, oo_256, oo_274, oo_276, oo_300, oo_516, oo_900, oo_940, oo_941, oo_999, oo_1000, oo_1040, oo_10000, oo_add, oo_mul, oo_sub, oo_lt, oo_le, oo_eq, oo_nat, oo_div, oo_rem, oo_nn, nn_oo, oo_nnlt, nn_oolt, oo_nnle, nn_oole, ↓reduceIte, if_pos, if_neg, or_false, false_or, or_true, true_or, and_true, true_and, and_false, false_and, not_true_eq_false, not_false_eq_true, Nat.not_lt_zero, Bool.false_eq_true, Bool.true_eq_false]
  | succ m ih =>
    intro s n T F hk hn h1 hm h203 h0 hrec hle
    obtain ⟨n, rfl⟩ : ∃ n', n = n' + 1 := ⟨n - 1, by omega⟩
    have hF0 : Fr [(203, 9999)] T (sI T 203 s nn) := Fr.sIr (Fr.rf _ _) rfl
    have hself : s &&& (255 ^^^ s) = 0 := by
      apply Nat.eq_of_testBit_eq
      intro i
      rw [Nat.testBit_and, Nat.testBit_xor, Nat.zero_testBit, show (255 : Nat) = 2 ^ 8 - 1 from rfl, Nat.testBit_two_pow_sub_one]
      by_cases hi : i < 8
      · rw [decide_eq_true hi]
        cases s.testBit i <;> rfl
      · rw [Nat.testBit_lt_two_pow (x := s) (Nat.lt_of_lt_of_le (show s < 2 ^ 8 by omega) (Nat.pow_le_pow_right (n := 2) (i := 8) (by decide) (by omega)))]
        rfl
    obtain ⟨V, z1, z2, z3, z4⟩ := dp_n (M := M) (F := F) (s := s) (y := oo A) (by omega) hle 255 s 1000000 0 (sI T 203 s nn) (by omega) hself (Nat.le_refl _) (by decide) (by decide) (fun x hx => by rw [sI_cell (by decide)]; exact hm x hx) (fun x hx => by rw [sI_place (by omega)]; exact h203 x hx) (sI_same _ _ _ _)
    have hF1 : Fr [(203, 9999)] T V := Fr.trans hF0 z2
    have e3 : V.1 203 s = enc (rvN M F s) := z3
    have hup : ∀ x, x < s + 1 → x ≠ s → upN F s (rvN M F s) x = F x := fun x _ h => upN_ne h
    obtain ⟨U, G, u1, u2, u3, u4, u5, u6⟩ := ih (s + 1) n V (upN F s (rvN M F s)) (by omega) (by omega) (by omega) (fun x hx => by rw [hF1.row (c := 202) rfl]; exact hm x hx) (fun x hx => by
      by_cases h : x = s
      · rw [h, upN_same]; exact e3
      · rw [upN_ne h, z4 x h, sI_place h]; exact h203 x (by omega)) (by rw [upN_ne (by omega)]; exact h0) (fun x q1 q2 => by
      by_cases h : x = s
      · rw [h, upN_same]
        exact rv_ext (by omega) (fun y hy => (upN_ne (by omega)).symm)
      · rw [upN_ne h, hrec x q1 (by omega)]
        exact rv_ext (by omega) (fun y hy => (upN_ne (by omega)).symm)) (fun x hx => by
      by_cases h : x = s
      · rw [h, upN_same]; exact rv_le (by omega) hle
      · rw [upN_ne h]; exact hle x (by omega))
    refine ⟨U, G, ?_, Fr.trans hF1 u2, u3, u4, u5, u6⟩
    simp (disch := omega) only [f_X12_noses_L31, ↓oo_m1, oo_0, oo_1, oo_2, oo_3, oo_4, oo_5, oo_6, oo_7, oo_8, oo_9, oo_10, oo_12, oo_13, oo_14, oo_15, oo_16, oo_17, oo_18, oo_20, oo_24, oo_30, oo_32, oo_36, oo_40, oo_41, oo_48, oo_50, oo_57, oo_59, oo_60, oo_61, oo_62, oo_63, oo_64, oo_66, oo_72, oo_78, oo_96, oo_97, oo_99, oo_100, oo_101, oo_105, oo_107, oo_108, oo_109, oo_110, oo_111, oo_112, oo_114, oo_115, oo_116, oo_117, oo_119, oo_122, oo_128, oo_130, oo_134, oo_135, oo_136, oo_137, oo_138, oo_139, oo_140, oo_141, oo_142, oo_143, oo_144, oo_145, oo_151, oo_157, oo_194, oo_200, oo_240, oo_255, oo_256, oo_274, oo_276, oo_300, oo_516, oo_900, oo_940, oo_941, oo_999, oo_1000, oo_1040, oo_10000, oo_add, oo_mul, oo_sub, oo_lt, oo_le, oo_eq, oo_nat, oo_div, oo_rem, oo_nn, nn_oo, oo_nnlt, nn_oolt, oo_nnle, nn_oole, ↓reduceIte, if_pos, if_neg, or_false, false_or, or_true, true_or, and_true, true_and, and_false, false_and, not_true_eq_false, not_false_eq_true, Nat.not_lt_zero, Bool.false_eq_true, Bool.true_eq_false, Option.bind_some, Option.bind_none, rf_188_1, rf_188_14, rf_188_15, rf_188_16, rf_188_17, rf_188_18, rf_188_19, rf_188_20, rf_188_21, rf_188_22, rf_188_24, rf_188_25, rf_188_26, rf_188_27, rf_188_28, rf_188_31, rf_188_32, rf_188_34, rf_188_35, rf_188_36, rf_188_37, rf_188_38, rf_188_42, rf_188_43, rf_188_51, rf_188_52, rf_188_53, rf_188_55, ln_203, z1]
    exact u1
