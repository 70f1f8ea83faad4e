/-! sets -/
theorem oo_bv {a : Nat} (ha : a < 4294967296) : (oo a).toBitVec.toNat = a := by
  show (BitVec.ofNat 32 a).toNat = a
  rw [BitVec.toNat_ofNat]
  exact Nat.mod_eq_of_lt ha
theorem bv_eq {x y : Int32} (h : x.toBitVec.toNat = y.toBitVec.toNat) : x = y := Int32.toBitVec_inj.mp (BitVec.eq_of_toNat_eq h)
theorem set_and {a b : Nat} (ha : a < 256) (hb : b < 256) : oo a &&& oo b = oo (a &&& b) := by
  have h := Nat.and_le_left (n := a) (m := b)
  apply bv_eq
  rw [Int32.toBitVec_and, BitVec.toNat_and, oo_bv (by omega), oo_bv (by omega), oo_bv (by omega)]
theorem set_xor {a b : Nat} (ha : a < 256) (hb : b < 256) : oo a ^^^ oo b = oo (a ^^^ b) := by
  have h := Nat.xor_lt_two_pow (n := 8) ha hb
  apply bv_eq
  rw [Int32.toBitVec_xor, BitVec.toNat_xor, oo_bv (by omega), oo_bv (by omega), oo_bv (by omega)]
theorem set_not {a b : Nat} (ha : a < 256) (hb : b < 256) : oo a &&& (oo b ^^^ nn) = oo (a &&& (255 ^^^ b)) := by
  have h := Nat.and_le_left (n := a) (m := 255 ^^^ b)
  apply bv_eq
  rw [Int32.toBitVec_and, BitVec.toNat_and, Int32.toBitVec_xor, BitVec.toNat_xor, oo_bv (by omega), oo_bv (by omega), oo_bv (by omega), show nn.toBitVec.toNat = 2 ^ 32 - 1 from rfl]
  apply Nat.eq_of_testBit_eq
  intro i
  rw [Nat.testBit_and, Nat.testBit_and, Nat.testBit_xor, Nat.testBit_xor, Nat.testBit_two_pow_sub_one, show (255 : Nat) = 2 ^ 8 - 1 from rfl, Nat.testBit_two_pow_sub_one]
  by_cases hi : i < 8
  · rw [decide_eq_true (show i < 32 by omega), decide_eq_true hi, Bool.xor_comm]
  · rw [Nat.testBit_lt_two_pow (x := a) (Nat.lt_of_lt_of_le ha (Nat.pow_le_pow_right (n := 2) (i := 8) (by decide) (by omega)))]
    rfl
theorem set_shl : ∀ k, k < 9 → shl32 (oo 1) (oo k) = oo (2 ^ k) := by decide
/-- the parts of a set, downwards -/
def dl : Nat → Nat → Nat → List Nat
  | 0, _, _ => []
  | f + 1, p, s => if p = 0 then [] else p :: dl f ((p - 1) &&& s) s
def al (s : Nat) : List Nat := (List.range' 1 s).filter (fun p => decide (p &&& (255 ^^^ s) = 0))
theorem dl_al : ∀ s, s < 256 → (dl 256 s s).reverse = al s := by decide +kernel
theorem al_rest : ∀ s, s < 256 → (al s).all (fun p => decide (s &&& (255 ^^^ p) = s ^^^ p) && (decide (s ^^^ p < s) && decide (p ≤ s ∧ 1 ≤ p))) = true := by decide +kernel
def bitsN (s : Nat) : Nat := s % 2 + s / 2 % 2 + s / 4 % 2 + s / 8 % 2 + s / 16 % 2 + s / 32 % 2 + s / 64 % 2 + s / 128 % 2
theorem al_one : ∀ s, s < 256 → ∀ c, c < 8 → s.testBit c = true → (al s).contains (2 ^ c) = true ∧ bitsN (s ^^^ 2 ^ c) + 1 = bitsN s := by decide +kernel
theorem al_bit0 : ∀ s, s < 256 → s = 0 ∨ (List.range 8).any (fun c => s.testBit c) = true := by decide +kernel
theorem al_bit {s : Nat} (h1 : 1 ≤ s) (hs : s < 256) : ∃ c, c < 8 ∧ s.testBit c = true := by
  rcases al_bit0 s hs with h | h
  · omega
  · obtain ⟨c, h2, h3⟩ := List.any_eq_true.mp h
    exact ⟨c, List.mem_range.mp h2, h3⟩
/-- what the reference holds of a set (0: no way) -/
def rvS (M : Nat → Bool) (F : Nat → Nat) (s b p : Nat) : Nat := if M p = true then (if F (s &&& (255 ^^^ p)) = 0 then b else if b = 0 then F (s &&& (255 ^^^ p)) + 1 else if b ≤ F (s &&& (255 ^^^ p)) + 1 then b else F (s &&& (255 ^^^ p)) + 1) else b
def rvN (M : Nat → Bool) (F : Nat → Nat) (s : Nat) : Nat := (dl 256 s s).foldl (rvS M F s) 0
/-- what the class holds of a set -/
def cvS (M : Nat → Bool) (G : Nat → Nat) (s b p : Nat) : Nat := if M p = true then (if G (s ^^^ p) + 1 < b then G (s ^^^ p) + 1 else b) else b
def cvN (M : Nat → Bool) (G : Nat → Nat) (s : Nat) : Nat := (al s).foldl (cvS M G s) 8
section DP
variable {M : Nat → Bool}
theorem dp_n {F : Nat → Nat} {s : Nat} {y : Int32} (hs : s < 256) (hF : ∀ x, x < s → F x ≤ x + 1) : ∀ f p n b (T : XS), p ≤ f → p &&& (255 ^^^ s) = 0 → p ≤ s → f < n → b ≤ 300 → (∀ x, x < 256 → T.1 202 x = if M x = true then oo 1 else oo 0) → (∀ x, x < s → T.1 203 x = enc (F x)) → T.1 203 s = enc b → ∃ U, f_X12_noses_L45 (oo s) y 188 n (oo p) T = some U ∧ Fr [(203, 9999)] T U ∧ U.1 203 s = enc ((dl (f + 1) p s).foldl (rvS M F s) b) ∧ (∀ x, x ≠ s → U.1 203 x = T.1 203 x) := by
  intro f
  induction f with
  | zero =>
    intro p n b T hp hsub hps hn hb hm h203 hbs
    obtain ⟨n, rfl⟩ : ∃ n', n = n' + 1 := ⟨n - 1, by omega⟩
    obtain rfl : p = 0 := by omega
    exact ⟨T, by simp (disch := omega) only [f_X12_noses_L45, ↓oo_m1, oo_0, oo_1, oo_2, oo_3, oo_4, oo_5, oo_6, oo_7, oo_8, oo_9, oo_10, oo_12, oo_13, oo_14, oo_15, oo_16, oo_17, oo_18, oo_20, oo_24, oo_30, oo_32, oo_36, oo_40, oo_41, oo_48, oo_50, oo_57, oo_59, oo_60, oo_61, oo_62, oo_63, oo_64, oo_66, oo_72, oo_78, oo_96, oo_97, oo_99, oo_100, oo_101, oo_105, oo_107, oo_108, oo_109, oo_110, oo_111, oo_112, oo_114, oo_115, oo_116, oo_117, oo_119, oo_122, oo_128, oo_130, oo_134, oo_135, oo_136, oo_137, oo_138, oo_139, oo_140, oo_141, oo_142, oo_143, oo_144, oo_145, oo_151, oo_157, oo_194, oo_200, oo_240, oo_255, oo_256, oo_274, oo_276, oo_300, oo_516, oo_900, oo_940, oo_941, oo_999, oo_1000, oo_1040, oo_10000, oo_add, oo_mul, oo_sub, oo_lt, oo_le, oo_eq, oo_nat, oo_div, oo_rem, oo_nn, nn_oo, oo_nnlt, nn_oolt, oo_nnle, nn_oole, ↓reduceIte, if_pos, if_neg, or_false, false_or, or_true, true_or, and_true, true_and, and_false, false_and, not_true_eq_false, not_false_eq_true, Nat.not_lt_zero, Bool.false_eq_true, Bool.true_eq_false], Fr.rf _ _, by rw [dl, if_pos rfl]; exact hbs, fun _ _ => rfl⟩
  | succ f ih =>
    intro p n b T hp hsub hps hn hb hm h203 hbs
    obtain ⟨n, rfl⟩ : ∃ n', n = n' + 1 := ⟨n - 1, by omega⟩
    by_cases hp0 : p = 0
    · subst hp0
      exact ⟨T, by simp (disch := omega) only [f_X12_noses_L45, ↓oo_m1, oo_0, oo_1, oo_2, oo_3, oo_4, oo_5, oo_6, oo_7, oo_8, oo_9, oo_10, oo_12, oo_13, oo_14, oo_15, oo_16, oo_17, oo_18, oo_20, oo_24, oo_30, oo_32, oo_36, oo_40, oo_41, oo_48, oo_50, oo_57, oo_59, oo_60, oo_61, oo_62, oo_63, oo_64, oo_66, oo_72, oo_78, oo_96, oo_97, oo_99, oo_100, oo_101, oo_105, oo_107, oo_108, oo_109, oo_110, oo_111, oo_112, oo_114, oo_115, oo_116, oo_117, oo_119, oo_122, oo_128, oo_130, oo_134, oo_135, oo_136, oo_137, oo_138, oo_139, oo_140, oo_141, oo_142, oo_143, oo_144, oo_145, oo_151, oo_157, oo_194, oo_200, oo_240, oo_255, oo_256, oo_274, oo_276, oo_300, oo_516, oo_900, oo_940, oo_941, oo_999, oo_1000, oo_1040, oo_10000, oo_add, oo_mul, oo_sub, oo_lt, oo_le, oo_eq, oo_nat, oo_div, oo_rem, oo_nn, nn_oo, oo_nnlt, nn_oolt, oo_nnle, nn_oole, ↓reduceIte, if_pos, if_neg, or_false, false_or, or_true, true_or, and_true, true_and, and_false, false_and, not_true_eq_false, not_false_eq_true, Nat.not_lt_zero, Bool.false_eq_true, Bool.true_eq_false], Fr.rf _ _, by rw [dl, if_pos rfl]; exact hbs, fun _ _ => rfl⟩
    · have hnx := Nat.and_le_left (n := p - 1) (m := s)
      have hnx2 := Nat.and_le_right (n := p - 1) (m := s)
      have hrl : s &&& (255 ^^^ p) < s := by
        have h1 := Nat.and_le_left (n := s) (m := 255 ^^^ p)
        refine Nat.lt_of_le_of_ne h1 (fun q => hp0 ?_)
        apply Nat.eq_of_testBit_eq
        intro i
        rw [Nat.zero_testBit]
        have q1 := congrArg (fun z => z.testBit i) q
        have q2 := congrArg (fun z => z.testBit i) hsub
        try dsimp only at q1 q2
        rw [Nat.testBit_and, Nat.testBit_xor, show (255 : Nat) = 2 ^ 8 - 1 from rfl, Nat.testBit_two_pow_sub_one] at q1 q2
        rw [Nat.zero_testBit] at q2
        by_cases hi : i < 8
        · rw [decide_eq_true hi] at q1 q2
          revert q1 q2
          cases p.testBit i <;> cases s.testBit i <;> simp
        · exact Nat.testBit_lt_two_pow (x := p) (Nat.lt_of_lt_of_le (show p < 2 ^ 8 by omega) (Nat.pow_le_pow_right (n := 2) (i := 8) (by decide) (by omega)))
      have hnsub : ((p - 1) &&& s) &&& (255 ^^^ s) = 0 := by
        apply Nat.eq_of_testBit_eq
        intro i
        rw [Nat.testBit_and, Nat.testBit_and, Nat.testBit_xor, Nat.zero_testBit, show (255 : Nat) = 2 ^ 8 - 1 from rfl, Nat.testBit_two_pow_sub_one]
        by_cases hi : i < 8
        · rw [decide_eq_true hi]
          cases (p - 1).testBit i <;> cases s.testBit i <;> rfl
        · rw [Nat.testBit_lt_two_pow (x := s) (Nat.lt_of_lt_of_le hs (Nat.pow_le_pow_right (n := 2) (i := 8) (by decide) (by omega)))]
          cases (p - 1).testBit i <;> rfl
      have hmp := hm p (by omega)
      have hFr := hF _ hrl
      have hr := h203 _ hrl
      have e1 := set_not (a := s) (b := p) hs (by omega)
      have e2 := set_and (a := p - 1) (b := s) (by omega) hs
      have e3 : oo p - oo 1 = oo (p - 1) := by
        obtain ⟨q, rfl⟩ : ∃ q, p = q + 1 := ⟨p - 1, by omega⟩
        rw [Nat.add_sub_cancel, ← oo_add]
        exact Int32.add_sub_cancel _ _
      have hdl : dl (f + 1 + 1) p s = p :: dl (f + 1) ((p - 1) &&& s) s := by rw [dl, if_neg hp0]
      rw [hdl, List.foldl_cons]
      have hgo : ∀ b' T', b' ≤ 300 → Fr [(203, 9999)] T T' → T'.1 203 s = enc b' → (∀ x, x ≠ s → T'.1 203 x = T.1 203 x) → rvS M F s b p = b' → f_X12_noses_L45 (oo s) y 188 (n + 1) (oo p) T = f_X12_noses_L45 (oo s) y 188 n (oo ((p - 1) &&& s)) T' → ∃ U, f_X12_noses_L45 (oo s) y 188 (n + 1) (oo p) T = some U ∧ Fr [(203, 9999)] T U ∧ U.1 203 s = enc ((dl (f + 1) ((p - 1) &&& s) s).foldl (rvS M F s) (rvS M F s b p)) ∧ (∀ x, x ≠ s → U.1 203 x = T.1 203 x) := by
        intro b' T' q1 q2 q3 q4 q5 q6
        obtain ⟨U, u1, u2, u3, u4⟩ := ih ((p - 1) &&& s) n b' T' (by omega) hnsub hnx2 (by omega) q1 (fun x hx => by rw [q2.row (c := 202) rfl]; exact hm x hx) (fun x hx => by rw [q4 x (by omega)]; exact h203 x hx) q3
        refine ⟨U, by rw [q6]; exact u1, Fr.trans q2 u2, by rw [q5]; exact u3, fun x hx => by rw [u4 x hx, q4 x hx]⟩
      by_cases hM : M p = true
      · rw [if_pos hM] at hmp
        by_cases hz : F (s &&& (255 ^^^ p)) = 0
        · rw [hz, enc_0] at hr
          refine hgo b T hb (Fr.rf _ _) hbs (fun _ _ => rfl) (by unfold rvS; rw [if_pos hM, if_pos hz]) ?_
          simp (disch := omega) only [f_X12_noses_L45, ↓oo_m1, oo_0, oo_1, oo_2, oo_3, oo_4, oo_5, oo_6, oo_7, oo_8, oo_9, oo_10, oo_12, oo_13, oo_14, oo_15, oo_16, oo_17, oo_18, oo_20, oo_24, oo_30, oo_32, oo_36, oo_40, oo_41, oo_48, oo_50, oo_57, oo_59, oo_60, oo_61, oo_62, oo_63, oo_64, oo_66, oo_72, oo_78, oo_96, oo_97, oo_99, oo_100, oo_101, oo_105, oo_107, oo_108, oo_109, oo_110, oo_111, oo_112, oo_114, oo_115, oo_116, oo_117, oo_119, oo_122, oo_128, oo_130, oo_134, oo_135, oo_136, oo_137, oo_138, oo_139, oo_140, oo_141, oo_142, oo_143, oo_144, oo_145, oo_151, oo_157, oo_194, oo_200, oo_240, oo_255, oo_256, oo_274, oo_276, oo_300, oo_516, oo_900, oo_940, oo_941, oo_999, oo_1000, oo_1040, oo_10000, oo_add, oo_mul, oo_sub, oo_lt, oo_le, oo_eq, oo_nat, oo_div, oo_rem, oo_nn, nn_oo, oo_nnlt, nn_oolt, oo_nnle, nn_oole, ↓reduceIte, if_pos, if_neg, or_false, false_or, or_true, true_or, and_true, true_and, and_false, false_and, not_true_eq_false, not_false_eq_true, Nat.not_lt_zero, Bool.false_eq_true, Bool.true_eq_false, Option.bind_some, Option.bind_none, rf_188_1, rf_188_14, rf_188_15, rf_188_16, rf_188_17, rf_188_18, rf_188_19, rf_188_20, rf_188_21, rf_188_22, rf_188_24, rf_188_25, rf_188_26, rf_188_27, rf_188_28, rf_188_31, rf_188_32, rf_188_34, rf_188_35, rf_188_36, rf_188_37, rf_188_38, rf_188_42, rf_188_43, rf_188_51, rf_188_52, rf_188_53, rf_188_55, ln_202, ln_203, e1, e2, e3, hmp, hr]
        · obtain ⟨q, hq⟩ : ∃ q, F (s &&& (255 ^^^ p)) = q + 1 := ⟨F (s &&& (255 ^^^ p)) - 1, by omega⟩
          rw [hq, enc_s] at hr
          by_cases hb0 : b = 0
          · rw [hb0, enc_0] at hbs
            refine hgo (q + 2) (sI T 203 s (oo (q + 1))) (by omega) (Fr.sIr (Fr.rf _ _) rfl) (by rw [sI_same]; rfl) (fun x hx => sI_place hx) (by unfold rvS; rw [if_pos hM, if_neg hz, if_pos hb0, hq]) ?_
            simp (disch := omega) only [f_X12_noses_L45, ↓oo_m1, oo_0, oo_1, oo_2, oo_3, oo_4, oo_5, oo_6, oo_7, oo_8, oo_9, oo_10, oo_12, oo_13, oo_14, oo_15, oo_16, oo_17, oo_18, oo_20, oo_24, oo_30, oo_32, oo_36, oo_40, oo_41, oo_48, oo_50, oo_57, oo_59, oo_60, oo_61, oo_62, oo_63, oo_64, oo_66, oo_72, oo_78, oo_96, oo_97, oo_99, oo_100, oo_101, oo_105, oo_107, oo_108, oo_109, oo_110, oo_111, oo_112, oo_114, oo_115, oo_116, oo_117, oo_119, oo_122, oo_128, oo_130, oo_134, oo_135, oo_136, oo_137, oo_138, oo_139, oo_140, oo_141, oo_142, oo_143, oo_144, oo_145, oo_151, oo_157, oo_194, oo_200, oo_240, oo_255, oo_256, oo_274, oo_276, oo_300, oo_516, oo_900, oo_940, oo_941, oo_999, oo_1000, oo_1040, oo_10000, oo_add, oo_mul, oo_sub, oo_lt, oo_le, oo_eq, oo_nat, oo_div, oo_rem, oo_nn, nn_oo, oo_nnlt, nn_oolt, oo_nnle, nn_oole, ↓reduceIte, if_pos, if_neg, or_false, false_or, or_true, true_or, and_true, true_and, and_false, false_and, not_true_eq_false, not_false_eq_true, Nat.not_lt_zero, Bool.false_eq_true, Bool.true_eq_false, Option.bind_some, Option.bind_none, rf_188_1, rf_188_14, rf_188_15, rf_188_16, rf_188_17, rf_188_18, rf_188_19, rf_188_20, rf_188_21, rf_188_22, rf_188_24, rf_188_25, rf_188_26, rf_188_27, rf_188_28, rf_188_31, rf_188_32, rf_188_34, rf_188_35, rf_188_36, rf_188_37, rf_188_38, rf_188_42, rf_188_43, rf_188_51, rf_188_52, rf_188_53, rf_188_55, ln_202, ln_203, e1, e2, e3, hmp, hr, hbs]
          · obtain ⟨b2, rfl⟩ : ∃ b2, b = b2 + 1 := ⟨b - 1, by omega⟩
            rw [enc_s] at hbs
            by_cases hle : b2 ≤ q + 1
            · refine hgo (b2 + 1) T hb (Fr.rf _ _) hbs (fun _ _ => rfl) (by unfold rvS; rw [if_pos hM, if_neg hz, if_neg hb0, hq, if_pos (by omega)]) ?_
              simp (disch := omega) only [f_X12_noses_L45, ↓oo_m1, oo_0, oo_1, oo_2, oo_3, oo_4, oo_5, oo_6, oo_7, oo_8, oo_9, oo_10, oo_12, oo_13, oo_14, oo_15, oo_16, oo_17, oo_18, oo_20, oo_24, oo_30, oo_32, oo_36, oo_40, oo_41, oo_48, oo_50, oo_57, oo_59, oo_60, oo_61, oo_62, oo_63, oo_64, oo_66, oo_72, oo_78, oo_96, oo_97, oo_99, oo_100, oo_101, oo_105, oo_107, oo_108, oo_109, oo_110, oo_111, oo_112, oo_114, oo_115, oo_116, oo_117, oo_119, oo_122, oo_128, oo_130, oo_134, oo_135, oo_136, oo_137, oo_138, oo_139, oo_140, oo_141, oo_142, oo_143, oo_144, oo_145, oo_151, oo_157, oo_194, oo_200, oo_240, oo_255, oo_256, oo_274, oo_276, oo_300, oo_516, oo_900, oo_940, oo_941, oo_999, oo_1000, oo_1040, oo_10000, oo_add, oo_mul, oo_sub, oo_lt, oo_le, oo_eq, oo_nat, oo_div, oo_rem, oo_nn, nn_oo, oo_nnlt, nn_oolt, oo_nnle, nn_oole, ↓reduceIte, if_pos, if_neg, or_false, false_or, or_true, true_or, and_true, true_and, and_false, false_and, not_true_eq_false, not_false_eq_true, Nat.not_lt_zero, Bool.false_eq_true, Bool.true_eq_false, Option.bind_some, Option.bind_none, rf_188_1, rf_188_14, rf_188_15, rf_188_16, rf_188_17, rf_188_18, rf_188_19, rf_188_20, rf_188_21, rf_188_22, rf_188_24, rf_188_25, rf_188_26, rf_188_27, rf_188_28, rf_188_31, rf_188_32, rf_188_34, rf_188_35, rf_188_36, rf_188_37, rf_188_38, rf_188_42, rf_188_43, rf_188_51, rf_188_52, rf_188_53, rf_188_55, ln_202, ln_203, e1, e2, e3, hmp, hr, hbs]
            · refine hgo (q + 2) (sI T 203 s (oo (q + 1))) (by omega) (Fr.sIr (Fr.rf _ _) rfl) (by rw [sI_same]; rfl) (fun x hx => sI_place hx) (by unfold rvS; rw [if_pos hM, if_neg hz, if_neg hb0, hq, if_neg (by omega)]) ?_
              simp (disch := omega) only [f_X12_noses_L45, ↓oo_m1, oo_0, oo_1, oo_2, oo_3, oo_4, oo_5, oo_6, oo_7, oo_8, oo_9, oo_10, oo_12, oo_13, oo_14, oo_15, oo_16, oo_17, oo_18, oo_20, oo_24, oo_30, oo_32, oo_36, oo_40, oo_41, oo_48, oo_50, oo_57, oo_59, oo_60, oo_61, oo_62, oo_63, oo_64, oo_66, oo_72, oo_78, oo_96, oo_97, oo_99, oo_100, oo_101, oo_105, oo_107, oo_108, oo_109, oo_110, oo_111, oo_112, oo_114, oo_115, oo_116, oo_117, oo_119, oo_122, oo_128, oo_130, oo_134, oo_135, oo_136, oo_137, oo_138, oo_139, oo_140, oo_141, oo_142, oo_143, oo_144, oo_145, oo_151, oo_157, oo_194, oo_200, oo_240, oo_255, oo_256, oo_274, oo_276, oo_300, oo_516, oo_900, oo_940, oo_941, oo_999, oo_1000, oo_1040, oo_10000, oo_add, oo_mul, oo_sub, oo_lt, oo_le, oo_eq, oo_nat, oo_div, oo_rem, oo_nn, nn_oo, oo_nnlt, nn_oolt, oo_nnle, nn_oole, ↓reduceIte, if_pos, if_neg, or_false, false_or, or_true, true_or, and_true, true_and, and_false, false_and, not_true_eq_false, not_false_eq_true, Nat.not_lt_zero, Bool.false_eq_true, Bool.true_eq_false, Option.bind_some, Option.bind_none, rf_188_1, rf_188_14, rf_188_15, rf_188_16, rf_188_17, rf_188_18, rf_188_19, rf_188_20, rf_188_21, rf_188_22, rf_188_24, rf_188_25, rf_188_26, rf_188_27, rf_188_28, rf_188_31, rf_188_32, rf_188_34, rf_188_35, rf_188_36, rf_188_37, rf_188_38, rf_188_42, rf_188_43, rf_188_51, rf_188_52, rf_188_53, rf_188_55, ln_202, ln_203, e1, e2, e3, hmp, hr, hbs]
      · rw [if_neg hM] at hmp
        refine hgo b T hb (Fr.rf _ _) hbs (fun _ _ => rfl) (by unfold rvS; rw [if_neg hM]) ?_
        simp (disch := omega) only [f_X12_noses_L45, ↓oo_m1, oo_0, oo_1, oo_2, oo_3, oo_4, oo_5, oo_6, oo_7, oo_8, oo_9, oo_10, oo_12, oo_13, oo_14, oo_15, oo_16, oo_17, oo_18, oo_20, oo_24, oo_30, oo_32, oo_36, oo_40, oo_41, oo_48, oo_50, oo_57, oo_59, oo_60, oo_61, oo_62, oo_63, oo_64, oo_66, oo_72, oo_78, oo_96, oo_97, oo_99, oo_100, oo_101, oo_105, oo_107, oo_108, oo_109, oo_110, oo_111, oo_112, oo_114, oo_115, oo_116, oo_117, oo_119, oo_122, oo_128, oo_130, oo_134, oo_135, oo_136, oo_137, oo_138, oo_139, oo_140, oo_141, oo_142, oo_143, oo_144, oo_145, oo_151, oo_157, oo_194, oo_200, oo_240, oo_255, oo_256, oo_274, oo_276, oo_300, oo_516, oo_900, oo_940, oo_941, oo_999, oo_1000, oo_1040, oo_10000, oo_add, oo_mul, oo_sub, oo_lt, oo_le, oo_eq, oo_nat, oo_div, oo_rem, oo_nn, nn_oo, oo_nnlt, nn_oolt, oo_nnle, nn_oole, ↓reduceIte, if_pos, if_neg, or_false, false_or, or_true, true_or, and_true, true_and, and_false, false_and, not_true_eq_false, not_false_eq_true, Nat.not_lt_zero, Bool.false_eq_true, Bool.true_eq_false, Option.bind_some, Option.bind_none, rf_188_1, rf_188_14, rf_188_15, rf_188_16, rf_188_17, rf_188_18, rf_188_19, rf_188_20, rf_188_21, rf_188_22, rf_188_24, rf_188_25, rf_188_26, rf_188_27, rf_188_28, rf_188_31, rf_188_32, rf_188_34, rf_188_35, rf_188_36, rf_188_37, rf_188_38, rf_188_42, rf_188_43, rf_188_51, rf_188_52, rf_188_53, rf_188_55, ln_202, ln_203, e1, e2, e3, hmp]
end DP
