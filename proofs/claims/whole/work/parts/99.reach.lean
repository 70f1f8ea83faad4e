theorem RS_self {v : Nat → Nat} {k set : Nat} {l : Nat → Nat} : RS v k set l set = true := by
  cases k with
  | zero => rw [RS]; simp
  | succ k => rw [RS]; simp
theorem lpA_in {p : Nat → Bool} {x : Nat} (h : p x = true) : ∀ m c, c ≤ x → x < c + m → lpA p m c = true := by
  intro m
  induction m with
  | zero => intro c h1 h2; omega
  | succ m ih =>
    intro c h1 h2
    rw [lpA_s, Bool.or_eq_true]
    by_cases hx : x = c
    · exact .inl (by rw [← hx]; exact h)
    · exact .inr (ih (c + 1) (by omega) (by omega))
theorem lpF_ex {p : Nat → Option (Nat → Nat)} {q : Nat → Nat} : ∀ m c, lpF p m c = some q → ∃ x, c ≤ x ∧ x < c + m ∧ p x = some q := by
  intro m
  induction m with
  | zero => intro c h; cases h
  | succ m ih =>
    intro c h
    rw [lpF] at h
    cases hp : p c with
    | some r =>
      rw [hp] at h
      exact ⟨c, Nat.le_refl _, by omega, by rw [hp]; exact h⟩
    | none =>
      rw [hp] at h
      obtain ⟨x, h1, h2, h3⟩ := ih (c + 1) h
      exact ⟨x, by omega, by omega, h3⟩
theorem RS_clean {v : Nat → Nat} {c0 : Nat} (hcl : sgF (clothG v c0) 6 = 0) : ∀ k set l x, RS v k set l x = true → ¬ set.testBit c0 = true → ¬ x.testBit c0 = true := by
  intro k
  induction k with
  | zero =>
    intro set l x h ht
    rw [RS, beq_iff_eq] at h
    rw [h]; exact ht
  | succ k ih =>
    intro set l x h ht
    rw [RS, Bool.or_eq_true, beq_iff_eq] at h
    rcases h with h | h
    · rw [h]; exact ht
    · obtain ⟨c, -, -, h3⟩ := lpA_ex _ _ h
      rw [Bool.and_eq_true, Bool.and_eq_true, Bool.not_eq_true', Bool.not_eq_true'] at h3
      refine ih _ _ _ h3.2.2 ?_
      rw [Nat.testBit_or, Nat.testBit_two_pow, Bool.or_eq_true, decide_eq_true_eq]
      rintro (q | q)
      · exact ht q
      · have hd : dnN v c l = true := by
          unfold dnN
          rw [q]
          exact decide_eq_true (.inl hcl)
        rw [hd] at h3
        cases h3.2.1
theorem RS_one {v : Nat → Nat} {c : Nat} (hc : c < v 193) (hcl : sgF (clothG v c) 6 ≠ 0) : RSv v (2 ^ c) = true := by
  unfold RSv
  obtain ⟨k, hk⟩ : ∃ k, v 193 = k + 1 := ⟨v 193 - 1, by omega⟩
  have e : RS v (v 193) 0 (fun _ => 0) (2 ^ c) = RS v (k + 1) 0 (fun _ => 0) (2 ^ c) := by rw [hk]
  rw [e, RS, Bool.or_eq_true]
  refine .inr (lpA_in (x := c) ?_ _ _ (Nat.zero_le _) (by omega))
  have hd : dnN v c (fun _ => 0) = false := by
    have := sgF_pos 6 hcl
    unfold dnN
    exact decide_eq_false (fun z => by
      rcases z with z | z
      · exact hcl z
      · have z2 : clothG v c (sgF (clothG v c) 6 - 1) ≤ 0 := z
        omega)
  rw [hd, Nat.zero_testBit, Nat.zero_or, RS_self]
  rfl
theorem RS_all {v : Nat → Nat} (h8 : v 193 ≤ 8) {q : Nat → Nat} : ∀ k d set l o, FO v k d set l o = some q → d + k = v 193 → PI (v 193) o d set → RS v k set l (2 ^ v 193 - 1) = true := by
  intro k
  induction k with
  | zero =>
    intro d set l o _ hd hP
    obtain rfl : d = v 193 := by omega
    rw [RS, beq_iff_eq]
    apply Nat.eq_of_testBit_eq
    intro i
    rw [Nat.testBit_two_pow_sub_one]
    by_cases hi : i < v 193
    · rw [decide_eq_true hi, PI_full hP h8 hi]
    · rw [decide_eq_false hi]
      symm
      by_cases hi8 : i < 8
      · cases hz : set.testBit i with
        | false => rfl
        | true =>
          obtain ⟨j, hj, hj2⟩ := (hP.2.2.2.1 i hi8).mp hz
          have := hP.2.1 j hj
          omega
      · exact Nat.testBit_lt_two_pow (Nat.lt_of_lt_of_le (show set < 2 ^ 8 from hP.2.2.2.2) (Nat.pow_le_pow_right (n := 2) (i := 8) (by decide) (by omega)))
  | succ k ih =>
    intro d set l o h hd hP
    rw [FO] at h
    obtain ⟨c, -, h2, h3⟩ := lpF_ex _ _ h
    by_cases a : set.testBit c = true
    · rw [if_pos a] at h3; cases h3
    · rw [if_neg a] at h3
      by_cases b : dnN v c l = true
      · rw [if_pos b] at h3; cases h3
      · rw [if_neg b] at h3
        have hr := ih _ _ _ _ h3 (by omega) (PI_step hP h8 (by omega) a)
        rw [RS, Bool.or_eq_true]
        refine .inr (lpA_in (x := c) ?_ _ _ (Nat.zero_le _) h2)
        try dsimp only
        rw [hr]
        revert a b
        cases set.testBit c <;> cases dnN v c l <;> simp
theorem noses_n {S : XS} {v : Nat → Nat} (hN : IsC S 190 516 v) (hS : SOK v) : ∃ (U : XS) (F : Nat → Nat), f_X12_noses 188 S = some (enc (F (2 ^ v 193 - 1)), U) ∧ Fr [(188, 0), (203, 9999), (188, 30), (199, 9999), (200, 9999), (202, 9999), (204, 9999)] S U ∧ F 0 = 1 ∧ (∀ x, 1 ≤ x → x ≤ 2 ^ v 193 - 1 → F x = rvN (RSv v) F x) := by
  have h8 := hS.c8
  have hA : 2 ^ v 193 - 1 < 256 := by
    have : 2 ^ v 193 ≤ 2 ^ 8 := Nat.pow_le_pow_right (by decide) h8
    omega
  have hA1 : 1 ≤ 2 ^ v 193 := Nat.one_le_two_pow
  obtain ⟨T, t1, t2, t3, t4, t5⟩ := all_n (S := sI S 188 0 (oo 0)) (hN.ne (d := 188) (by decide)) hS
  have e193 : T.1 190 193 = oo (v 193) := by rw [t2.row (c := 190) rfl, sI_cell (by decide)]; exact hN 193 (by decide)
  have hF0 : Fr [(188, 0), (203, 9999), (188, 30), (199, 9999), (200, 9999), (202, 9999), (204, 9999)] S (sI T 203 0 (oo 0)) := Fr.sIr (Fr.trans (Fr.sIp (Fr.rf _ _) rfl) (t2.mono rfl)) rfl
  obtain ⟨U, F, u1, u2, u3, u4, u5, u6⟩ := sets_n (M := RSv v) hA (2 ^ v 193 - 1) 1 1000000 (sI T 203 0 (oo 0)) (fun x => 1) (by omega) (by omega) (Nat.le_refl _) (fun x hx => by rw [sI_cell (by decide)]; exact t3 x hx) (fun x hx => by
    obtain rfl : x = 0 := by omega
    rw [sI_same]; rfl) rfl (fun x q1 q2 => by omega) (fun x hx => by omega)
  refine ⟨U, F, ?_, Fr.trans hF0 (u2.mono rfl), u4, u5⟩
  have e3 : oo (2 ^ v 193) - oo 1 = oo (2 ^ v 193 - 1) := by
    obtain ⟨q, hq⟩ : ∃ q, 2 ^ v 193 = q + 1 := ⟨2 ^ v 193 - 1, by omega⟩
    rw [hq, Nat.add_sub_cancel, ← oo_add]
    exact Int32.add_sub_cancel _ _
  have e4 := u3 (2 ^ v 193 - 1) (Nat.le_refl _)
  have hln : ¬ (oo (2 ^ v 193 - 1) < 0 ∨ ln 203 ≤ (oo (2 ^ v 193 - 1)).toNatClampNeg) := by
    rw [oo_nat (by omega), show (0 : Int32) = oo 0 from rfl, oo_lt (by omega) (by omega), show ln 203 = 256 from rfl]
    omega
  unfold f_X12_noses
  rw [show (0 : Int32) = oo 0 from rfl, t1, Option.bind_some, show rf 188 14 = 190 from rfl, show rf 188 28 = 203 from rfl, e193, show (1 : Int32) = oo 1 from rfl, set_shl _ (by omega), e3, u1, Option.bind_some]
  rw [show (0 : Int32) = oo 0 from rfl] at hln
  rw [if_neg hln, oo_nat (by omega), e4]
theorem ag_noses : Ag_noses Rel := by
  intro S hR
  obtain ⟨hT, hFa, hK, ⟨v, hv, hP⟩, hKe, hNo, hWa, hC, hD, hX⟩ := id hR; obtain ⟨hN, hO, hS, hH, hW, hNm, hSe⟩ := id hv; obtain ⟨⟨b0, b1, b2, b3, b4, b5⟩, -⟩ := id hO
  have h8 := hS.c8
  obtain ⟨kn, f, hkn, hf, p1, p2, p3, p4, p5, p6, p7, h162⟩ := id hNo
  have hA : 2 ^ v 193 - 1 < 256 := by
    have : 2 ^ v 193 ≤ 2 ^ 8 := Nat.pow_le_pow_right (by decide) h8
    omega
  have hA1 : 1 ≤ 2 ^ v 193 := Nat.one_le_two_pow
  have hany := any_c hW hS
  have keep : ∀ U : XS, Fr [(160, 9999), (161, 9999), (162, 9999), (163, 9999), (188, 0), (203, 9999), (164, 9999), (188, 30), (199, 9999), (200, 9999), (202, 9999), (204, 9999)] S U → (∀ j, j < 6 → U.1 162 j = oo 0) → U.1 164 0 = oo 0 → Rel U := fun U hF h h164 => by
    refine nos_rel hR (hF.mono2 (by decide)) ⟨kn, f, hkn, hf, ?_, ?_, fun i hi => ?_, ?_, ?_, fun s hs => ?_, h164, h⟩
    · rw [hF.get rfl]; exact p1
    · rw [hF.get rfl]; exact p2
    · rw [hF.row (c := 159) rfl, hF.row (c := 201) rfl]; exact p3 i hi
    · rw [hF.get rfl]; exact p4
    · rw [hF.get rfl]; exact p5
    · rw [hF.row (c := 158) rfl, hF.row (c := 205) rfl]; exact p6 s hs
  cases hAn : anyC v with
  | true =>
    rw [hAn] at hany
    obtain ⟨U, F, u1, u2, u3, u4⟩ := noses_n hN hS
    obtain ⟨c0, -, hc0, hc1⟩ := lpA_ex _ _ hAn
    have hcl : sgF (clothG v c0) 6 = 0 := of_decide_eq_true hc1
    have hz : F (2 ^ v 193 - 1) = 0 := table_clean (M := RSv v) (c0 := c0) hA (fun x hx => RS_clean hcl _ _ _ _ hx (by rw [Nat.zero_testBit]; decide)) u4 _ _ (Nat.le_refl _) (Nat.le_refl _) (by rw [Nat.testBit_two_pow_sub_one]; exact decide_eq_true (by omega))
    rw [hz, enc_0] at u1
    refine ⟨nn, S, U, ?_, u1, keep U (u2.mono rfl) (fun j hj => by rw [u2.row (c := 162) rfl]; exact h162 j hj) (by rw [u2.row (c := 164) rfl]; exact p7)⟩
    simp (disch := omega) only [f_X11_noses, f_X4_fewest, ↓oo_m1, oo_0, oo_1, oo_2, oo_3, oo_4, oo_5, oo_6, oo_7, oo_8, oo_9, oo_10, oo_12, oo_13, oo_14, oo_15, oo_16, oo_17, oo_18, oo_20, oo_24, oo_30, oo_32, oo_36, oo_40, oo_41, oo_48, oo_50, oo_57, oo_59, oo_60, oo_61, oo_62, oo_63, oo_64, oo_66, oo_72, oo_78, oo_96, oo_97, oo_99, oo_100, oo_101, oo_105, oo_107, oo_108, oo_109, oo_110, oo_111, oo_112, oo_114, oo_115, oo_116, oo_117, oo_119, oo_122, oo_128, oo_130, oo_134, oo_135, oo_136, oo_137, oo_138, oo_139, oo_140, oo_141, oo_142, oo_143, oo_144, oo_145, oo_151, oo_157, oo_194, oo_200, oo_240, oo_255, oo_256, oo_274, oo_276, oo_300, oo_516, oo_900, oo_940, oo_941, oo_999, oo_1000, oo_1040, oo_10000, oo_add, oo_mul, oo_sub, oo_lt, oo_le, oo_eq, oo_nat, oo_div, oo_rem, oo_nn, nn_oo, oo_nnlt, nn_oolt, oo_nnle, nn_oole, ↓reduceIte, if_pos, if_neg, or_false, false_or, or_true, true_or, and_true, true_and, and_false, false_and, not_true_eq_false, not_false_eq_true, Nat.not_lt_zero, Bool.false_eq_true, Bool.true_eq_false, Option.bind_some, Option.bind_none, rf_0_0, rf_0_1, rf_0_2, rf_0_3, rf_0_4, rf_0_5, rf_0_6, rf_0_7, rf_0_10, rf_0_11, rf_0_12, rf_0_13, rf_0_14, rf_0_15, rf_0_16, rf_0_17, rf_0_18, hany]
  | false =>
    rw [hAn] at hany
    have hno : ∀ c, c < v 193 → sgF (clothG v c) 6 ≠ 0 := fun c hc => of_decide_eq_false (lpA_no _ _ hAn c (Nat.zero_le _) (by omega))
    obtain ⟨T, t1, t2, t3, t4, t5⟩ := one_c hW hS h162
    have e284 : T.1 28 4 = oo (v 193) := (hW.fr t2 rfl).cn
    cases hO2 : FOv v with
    | some p =>
      rw [hO2] at t1
      obtain ⟨U, F, u1, u2, u3, u4⟩ := noses_n (S := T) (hN.cell (t2.row rfl)) hS
      have hFA : F (2 ^ v 193 - 1) = (if 1 < v 193 then 1 else v 193) + 1 := by
        by_cases h0 : v 193 = 0
        · rw [h0]; exact u3
        · have hall : RSv v (2 ^ v 193 - 1) = true := RS_all h8 _ _ _ _ _ hO2 (by omega) PI_0
          have h2 : 2 ≤ 2 ^ v 193 := by
            have : 2 ^ 1 ≤ 2 ^ v 193 := Nat.pow_le_pow_right (by decide) (by omega)
            omega
          have hm : 2 ^ v 193 - 1 ∈ dl 256 (2 ^ v 193 - 1) (2 ^ v 193 - 1) := by
            rw [dl, if_neg (by omega)]
            exact List.mem_cons_self ..
          obtain ⟨d1, -⟩ := dl_mem hA hm
          rw [Nat.xor_self] at d1
          obtain ⟨r1, -, r3⟩ := rv_spec (M := RSv v) (F := F) (s := 2 ^ v 193 - 1) (dl 256 (2 ^ v 193 - 1) (2 ^ v 193 - 1)) 0
          change ∀ p, p ∈ dl 256 (2 ^ v 193 - 1) (2 ^ v 193 - 1) → RSv v p = true → F ((2 ^ v 193 - 1) &&& (255 ^^^ p)) ≠ 0 → rvN (RSv v) F (2 ^ v 193 - 1) ≠ 0 ∧ rvN (RSv v) F (2 ^ v 193 - 1) ≤ F ((2 ^ v 193 - 1) &&& (255 ^^^ p)) + 1 at r1
          change rvN (RSv v) F (2 ^ v 193 - 1) = 0 ∨ ∃ p, p ∈ dl 256 (2 ^ v 193 - 1) (2 ^ v 193 - 1) ∧ RSv v p = true ∧ F ((2 ^ v 193 - 1) &&& (255 ^^^ p)) ≠ 0 ∧ rvN (RSv v) F (2 ^ v 193 - 1) = F ((2 ^ v 193 - 1) &&& (255 ^^^ p)) + 1 at r3
          rw [← u4 _ (by omega) (Nat.le_refl _)] at r1 r3
          obtain ⟨q1, q2⟩ := r1 _ hm hall (by rw [d1, u3]; decide)
          rw [d1, u3] at q2
          have : F (2 ^ v 193 - 1) = 2 := by
            rcases r3 with q | ⟨p, -, -, q4, q5⟩ <;> omega
          rw [this]
          split <;> omega
      rw [hFA, enc_s] at u1
      refine ⟨oo (if 1 < v 193 then 1 else v 193), T, U, ?_, u1, keep U (Fr.trans (t2.mono rfl) (u2.mono rfl)) (fun j hj => by rw [u2.row (c := 162) rfl]; exact t3 j hj) (by rw [u2.row (c := 164) rfl, t2.row (c := 164) rfl]; exact p7)⟩
      by_cases h1 : 1 < v 193
      · rw [if_pos h1]
        simp (disch := omega) only [f_X11_noses, f_X4_fewest, ↓oo_m1, oo_0, oo_1, oo_2, oo_3, oo_4, oo_5, oo_6, oo_7, oo_8, oo_9, oo_10, oo_12, oo_13, oo_14, oo_15, oo_16, oo_17, oo_18, oo_20, oo_24, oo_30, oo_32, oo_36, oo_40, oo_41, oo_48, oo_50, oo_57, oo_59, oo_60, oo_61, oo_62, oo_63, oo_64, oo_66, oo_72, oo_78, oo_96, oo_97, oo_99, oo_100, oo_101, oo_105, oo_107, oo_108, oo_109, oo_110, oo_111, oo_112, oo_114, oo_115, oo_116, oo_117, oo_119, oo_122, oo_128, oo_130, oo_134, oo_135, oo_136, oo_137, oo_138, oo_139, oo_140, oo_141, oo_142, oo_143, oo_144, oo_145, oo_151, oo_157, oo_194, oo_200, oo_240, oo_255, oo_256, oo_274, oo_276, oo_300, oo_516, oo_900, oo_940, oo_941, oo_999, oo_1000, oo_1040, oo_10000, oo_add, oo_mul, oo_sub, oo_lt, oo_le, oo_eq, oo_nat, oo_div, oo_rem, oo_nn, nn_oo, oo_nnlt, nn_oolt, oo_nnle, nn_oole, ↓reduceIte, if_pos, if_neg, or_false, false_or, or_true, true_or, and_true, true_and, and_false, false_and, not_true_eq_false, not_false_eq_true, Nat.not_lt_zero, Bool.false_eq_true, Bool.true_eq_false, Option.bind_some, Option.bind_none, rf_0_0, rf_0_1, rf_0_2, rf_0_3, rf_0_4, rf_0_5, rf_0_6, rf_0_7, rf_0_10, rf_0_11, rf_0_12, rf_0_13, rf_0_14, rf_0_15, rf_0_16, rf_0_17, rf_0_18, hany, t1, Option.isSome_some, e284]
      · rw [if_neg h1]
        simp (disch := omega) only [f_X11_noses, f_X4_fewest, ↓oo_m1, oo_0, oo_1, oo_2, oo_3, oo_4, oo_5, oo_6, oo_7, oo_8, oo_9, oo_10, oo_12, oo_13, oo_14, oo_15, oo_16, oo_17, oo_18, oo_20, oo_24, oo_30, oo_32, oo_36, oo_40, oo_41, oo_48, oo_50, oo_57, oo_59, oo_60, oo_61, oo_62, oo_63, oo_64, oo_66, oo_72, oo_78, oo_96, oo_97, oo_99, oo_100, oo_101, oo_105, oo_107, oo_108, oo_109, oo_110, oo_111, oo_112, oo_114, oo_115, oo_116, oo_117, oo_119, oo_122, oo_128, oo_130, oo_134, oo_135, oo_136, oo_137, oo_138, oo_139, oo_140, oo_141, oo_142, oo_143, oo_144, oo_145, oo_151, oo_157, oo_194, oo_200, oo_240, oo_255, oo_256, oo_274, oo_276, oo_300, oo_516, oo_900, oo_940, oo_941, oo_999, oo_1000, oo_1040, oo_10000, oo_add, oo_mul, oo_sub, oo_lt, oo_le, oo_eq, oo_nat, oo_div, oo_rem, oo_nn, nn_oo, oo_nnlt, nn_oolt, oo_nnle, nn_oole, ↓reduceIte, if_pos, if_neg, or_false, false_or, or_true, true_or, and_true, true_and, and_false, false_and, not_true_eq_false, not_false_eq_true, Nat.not_lt_zero, Bool.false_eq_true, Bool.true_eq_false, Option.bind_some, Option.bind_none, rf_0_0, rf_0_1, rf_0_2, rf_0_3, rf_0_4, rf_0_5, rf_0_6, rf_0_7, rf_0_10, rf_0_11, rf_0_12, rf_0_13, rf_0_14, rf_0_15, rf_0_16, rf_0_17, rf_0_18, hany, t1, Option.isSome_some, e284]
    | none =>
      rw [hO2] at t1
      obtain ⟨V, G, w1, w2, w3, w4, w5⟩ := sets_c (M := RSv v) hA (2 ^ v 193 - 1) 1 1000000 T (fun _ => 0) (by omega) (by omega) (Nat.le_refl _) (t5 hO2) (fun x hx => by
        obtain rfl : x = 0 := by omega
        rw [t2.row (c := 164) rfl]; exact p7) rfl (fun x q1 q2 => by omega) (fun x _ => by omega)
      obtain ⟨U, F, u1, u2, u3, u4⟩ := noses_n (S := V) ((hN.cell (t2.row rfl)).cell (w2.row rfl)) hS
      have heq := (tables_eq (M := RSv v) hA (fun c s hc hs ht => RS_one (by
        refine Decidable.byContradiction (fun q => ?_)
        have : s < 2 ^ c := Nat.lt_of_lt_of_le (show s < 2 ^ v 193 by omega) (Nat.pow_le_pow_right (by decide) (by omega))
        rw [Nat.testBit_lt_two_pow this] at ht
        cases ht) (hno c (by
        refine Decidable.byContradiction (fun q => ?_)
        have : s < 2 ^ c := Nat.lt_of_lt_of_le (show s < 2 ^ v 193 by omega) (Nat.pow_le_pow_right (by decide) (by omega))
        rw [Nat.testBit_lt_two_pow this] at ht
        cases ht))) u3 w4 u4 w5 _ _ (Nat.le_refl _) (Nat.le_refl (2 ^ v 193 - 1))).1
      rw [heq, enc_s] at u1
      have e3 : oo (2 ^ v 193) - oo 1 = oo (2 ^ v 193 - 1) := by
        obtain ⟨q, hq⟩ : ∃ q, 2 ^ v 193 = q + 1 := ⟨2 ^ v 193 - 1, by omega⟩
        rw [hq, Nat.add_sub_cancel, ← oo_add]
        exact Int32.add_sub_cancel _ _
      have e4 : gat V 164 (oo (2 ^ v 193 - 1)) = oo (G (2 ^ v 193 - 1)) := by rw [g_164 hA]; exact w3 _ (Nat.le_refl _)
      have hsh := set_shl (v 193) (by omega)
      refine ⟨oo (G (2 ^ v 193 - 1)), V, U, ?_, u1, keep U (Fr.trans (t2.mono rfl) (Fr.trans (w2.mono rfl) (u2.mono rfl))) (fun j hj => by rw [u2.row (c := 162) rfl, w2.row (c := 162) rfl]; exact t3 j hj) (by rw [u2.row (c := 164) rfl, w3 0 (Nat.zero_le _), w4])⟩
      unfold f_X11_noses f_X4_fewest
      rw [show rf 0 14 = 157 from rfl, show rf 0 3 = 28 from rfl, hany, Option.bind_some]
      dsimp only
      rw [if_neg (by decide), t1, Option.bind_some]
      dsimp only
      rw [if_neg (by decide), e284, show (1 : Int32) = oo 1 from rfl, hsh, e3, w1, Option.bind_some, show rf 157 8 = 164 from rfl, e4, Option.bind_some]
