/-! a SENTENCE said of a witness -/
def sb : List Bool → Nat
  | [] => 0
  | b :: l => 2 * sb l + b.toNat
theorem sb_lt : ∀ l : List Bool, sb l < 2 ^ l.length := by
  intro l
  induction l with
  | nil => exact Nat.one_pos
  | cons b l ih =>
    have := b.toNat_le
    rw [sb, List.length_cons, Nat.pow_succ]
    omega
theorem sb_62 {l : List Bool} (h : l.length ≤ 62) : sb l < 4611686018427387904 + 1 := by
  have h1 := sb_lt l
  have h2 : 2 ^ l.length ≤ 2 ^ 62 := Nat.pow_le_pow_right (by decide) h
  omega
theorem bt_n (b : Bool) : (bi b).toInt64 = ll b.toNat := by cases b <;> rfl
theorem st_push {l : List Bool} (h : l.length ≤ 61) (b : Bool) : (shl64 (ll (sb l)) 1) ||| (bi b).toInt64 = ll (sb (b :: l)) := by
  have h1 := sb_62 (l := l) (by omega)
  have h2 := b.toNat_le
  apply ll_of
  rw [bt_n, tn_or, show (1 : Int32) = oo 1 from rfl, tn_shl (by decide), tn_ll (by omega), tn_ll (by omega), Nat.mod_eq_of_lt (by omega), or_low (by omega), sb]
  omega
theorem st_not {l : List Bool} (h : l.length ≤ 61) (b : Bool) : ll (sb (b :: l)) ^^^ 1 = ll (sb ((!b) :: l)) := by
  have h1 := sb_62 (l := l) (by omega)
  have h2 := b.toNat_le
  apply ll_of
  rw [tn_xor, sb, sb, tn_ll (by omega), show (1 : Int64) = ll 1 from rfl, tn_ll (by decide)]
  apply half_eq
  · rw [Nat.xor_div_two, show (2 * sb l + b.toNat) / 2 = sb l by omega, show 1 / 2 = 0 from rfl, Nat.xor_zero]
    have := (!b).toNat_le
    omega
  · have e := Nat.xor_mod_two_pow (a := 2 * sb l + b.toNat) (b := 1) (n := 1)
    rw [Nat.pow_one] at e
    rw [e, show (2 * sb l + b.toNat) % 2 = b.toNat by omega, show (2 * sb l + (!b).toNat) % 2 = (!b).toNat by have := (!b).toNat_le; omega]
    cases b <;> rfl
theorem st_low {l : List Bool} (h : l.length ≤ 61) (b : Bool) : tn (ll (sb (b :: l)) &&& 1) = b.toNat := by
  have h1 := sb_62 (l := l) (by omega)
  have h2 := b.toNat_le
  rw [tn_and, sb, tn_ll (by omega), show (1 : Int64) = ll 1 from rfl, tn_ll (by decide), and1]
  omega
theorem st_pop {l : List Bool} (h : l.length ≤ 61) (b : Bool) : tn (ushr64 (ll (sb (b :: l))) 1) = sb l := by
  have h1 := sb_62 (l := l) (by omega)
  have h2 := b.toNat_le
  rw [show (1 : Int32) = oo 1 from rfl, tn_ushr (by decide), sb, tn_ll (by omega)]
  omega
theorem st_or {l : List Bool} (h : l.length ≤ 60) (a b : Bool) : (ushr64 (ll (sb (b :: a :: l))) 1) ||| (ll (sb (b :: a :: l)) &&& 1) = ll (sb ((a || b) :: l)) := by
  apply ll_of
  rw [tn_or, st_pop (by rw [List.length_cons]; omega), st_low (by rw [List.length_cons]; omega), sb, sb]
  apply half_eq
  · rw [Nat.or_div_two]
    have := a.toNat_le
    have := b.toNat_le
    have := (a || b).toNat_le
    rw [show (2 * sb l + a.toNat) / 2 = sb l by omega, show b.toNat / 2 = 0 by omega, Nat.or_zero]
    omega
  · have e := Nat.or_mod_two_pow (a := 2 * sb l + a.toNat) (b := b.toNat) (n := 1)
    rw [Nat.pow_one] at e
    have := a.toNat_le
    have := b.toNat_le
    have := (a || b).toNat_le
    rw [e, show (2 * sb l + a.toNat) % 2 = a.toNat by omega, show b.toNat % 2 = b.toNat by omega, show (2 * sb l + (a || b).toNat) % 2 = (a || b).toNat by omega]
    cases a <;> cases b <;> rfl
theorem st_and {l : List Bool} (h : l.length ≤ 60) (a b : Bool) : (ushr64 (ll (sb (b :: a :: l))) 1) &&& ((-2) ||| (ll (sb (b :: a :: l)) &&& 1)) = ll (sb ((a && b) :: l)) := by
  have h1 := sb_62 (l := l) (by omega)
  apply ll_of
  rw [tn_and, tn_or, st_pop (by rw [List.length_cons]; omega), st_low (by rw [List.length_cons]; omega), sb, sb, show tn (-2) = 18446744073709551614 from rfl]
  have := a.toNat_le
  have := b.toNat_le
  have := (a && b).toNat_le
  apply half_eq
  · rw [Nat.and_div_two, Nat.or_div_two]
    rw [show (2 * sb l + a.toNat) / 2 = sb l by omega, show b.toNat / 2 = 0 by omega, Nat.or_zero, show 18446744073709551614 / 2 = 2 ^ 63 - 1 from rfl, Nat.and_two_pow_sub_one_of_lt_two_pow (by omega)]
    omega
  · have e := Nat.and_mod_two_pow (a := 2 * sb l + a.toNat) (b := 18446744073709551614 ||| b.toNat) (n := 1)
    have e2 := Nat.or_mod_two_pow (a := 18446744073709551614) (b := b.toNat) (n := 1)
    rw [Nat.pow_one] at e e2
    rw [e, e2, show (2 * sb l + a.toNat) % 2 = a.toNat by omega, show b.toNat % 2 = b.toNat by omega, show (2 * sb l + (a && b).toNat) % 2 = (a && b).toNat by omega]
    cases a <;> cases b <;> rfl
/-- one measure held against a number -/
def cmpN (x sg n : Nat) : Bool := if sg = 60 then decide (x < n) else if sg = 62 then decide (n < x) else decide (x = n)
def lfS (v : Nat → Nat) (w : Nat) (q : Nat × Nat × Nat) : Bool :=
  if q.1 = 140 then decide (su (coatG v (v (151 + w))) 6 = 0)
  else if q.1 = 141 then decide (v (151 + w) = w)
  else if q.1 = 134 then decide (v (145 + w) = q.2.2)
  else if q.1 = 135 then decide (0 < coatG v (v (151 + w)) q.2.2)
  else if q.1 = 142 then cmpN (su (coatG v (v (151 + w))) 6) q.2.1 q.2.2
  else if q.1 = 143 then cmpN (mtF (coatG v (v (151 + w))) 6) q.2.1 q.2.2
  else cmpN (v (66 + v (151 + w))) q.2.1 q.2.2
def isLf (q : Nat × Nat × Nat) : Prop := q.1 = 140 ∨ q.1 = 141 ∨ (q.1 = 134 ∧ q.2.2 < 6) ∨ (q.1 = 135 ∧ q.2.2 < 6) ∨ ((q.1 = 142 ∨ q.1 = 143 ∨ q.1 = 144) ∧ q.2.2 ≤ 999 ∧ (q.2.1 = 60 ∨ q.2.1 = 61 ∨ q.2.1 = 62))
theorem cmp_c {x sg n : Nat} (hx : x < 100000) (hn : n ≤ 999) (hsg : sg = 60 ∨ sg = 61 ∨ sg = 62) : t_X6_compares (oo x) (oo sg) (oo n) = cmpN x sg n := by
  unfold t_X6_compares cmpN
  rcases hsg with rfl | rfl | rfl
  · rw [if_pos (show oo 60 = (60 : Int32) from rfl), if_pos rfl]
    by_cases h : x < n
    · rw [if_neg (by rw [oo_le (by omega) (by omega)]; omega), decide_eq_true h]
    · rw [if_pos (by rw [oo_le (by omega) (by omega)]; omega), decide_eq_false h]
  · rw [if_neg (show ¬ oo 61 = (60 : Int32) by decide), if_neg (show ¬ oo 61 = (62 : Int32) by decide), if_neg (show ¬ 61 = 60 by decide), if_neg (show ¬ 61 = 62 by decide)]
    by_cases h : x = n
    · rw [if_pos (by rw [h]), decide_eq_true h]
    · rw [if_neg (by rw [oo_eq (by omega) (by omega)]; exact h), decide_eq_false h]
  · rw [if_neg (show ¬ oo 62 = (60 : Int32) by decide), if_pos (show oo 62 = (62 : Int32) from rfl), if_neg (show ¬ 62 = 60 by decide), if_pos rfl]
    by_cases h : n < x
    · rw [if_neg (by rw [oo_le (by omega) (by omega)]; omega), decide_eq_true h]
    · rw [if_pos (by rw [oo_le (by omega) (by omega)]; omega), decide_eq_false h]
section SD
variable {S : XS} {v : Nat → Nat} {w : Nat}
theorem mtF_le {g : Nat → Nat} (h : ∀ s, s < 6 → g s ≤ 99) : mtF g 6 ≤ 99 := by
  unfold mtF
  split
  · exact Nat.zero_le _
  · have := sgF_le g 6
    exact h _ (by omega)
theorem leaf_c (hH : IsHill S 7 v) (hW : IsWd S 28 v) (hO : HOK v) (hS : SOK v) (hw : w < v 3) {q : Nat × Nat × Nat} {i : Nat} (hi : i < 40) (h1 : S.1 37 i = oo q.1) (h2 : S.1 38 i = oo q.2.1) (h3 : S.1 39 i = oo q.2.2) (hq : isLf q) : f_X6_holds 36 7 28 (oo w) (oo i) S = some (lfS v w q, S) := by
  obtain ⟨⟨b0, b1, b2, b3, b4, b5⟩, -, -, -, hkp, -⟩ := id hO
  have hc := wornB hS hO hw
  have hp := (hS.2.1 w hw)
  have hkw := hkp (v (151 + w)) hp.2
  have hcb := coat_b hS hc
  have hcg := coat_g hW hc
  have hsu := su_le hcb 6 (Nat.le_refl 6)
  have hmt := mtF_le hcb
  have e1 : gat S 37 (oo i) = oo q.1 := by rw [g_37 hi, h1]
  have e2 : gat S 38 (oo i) = oo q.2.1 := by rw [g_38 hi, h2]
  have e3 : gat S 39 (oo i) = oo q.2.2 := by rw [g_39 hi, h3]
  have ew : gat S 30 (oo w) = oo (v (151 + w)) := by rw [g_30 (by omega), hW.wn w (by omega)]
  have ep : gat S 29 (oo w) = oo (v (145 + w)) := by rw [g_29 (by omega), hW.pl w (by omega)]
  have ek : gat S 12 (oo (v (151 + w))) = oo (v (66 + v (151 + w))) := by rw [g_12 (by omega), hH.keep _ hc]
  have et := tot6 hcg
  have es := str6 hcg (lt1000 hcb)
  rcases hq with q1 | q1 | ⟨q1, q2⟩ | ⟨q1, q2⟩ | ⟨q1, q2, q3⟩
  · have e : lfS v w q = decide (su (coatG v (v (151 + w))) 6 = 0) := by unfold lfS; rw [q1]; rfl
    rw [q1] at e1
    by_cases hz : su (coatG v (v (151 + w))) 6 = 0
    · rw [e, decide_eq_true hz]
      rw [hz] at et
      simp (disch := omega) only [f_X6_holds, ↓oo_m1, oo_0, oo_1, oo_2, oo_3, oo_4, oo_5, oo_6, oo_7, oo_8, oo_9, oo_10, oo_12, oo_13, oo_14, oo_15, oo_16, oo_17, oo_18, oo_20, oo_24, oo_30, oo_32, oo_36, oo_40, oo_41, oo_48, oo_50, oo_57, oo_59, oo_60, oo_61, oo_62, oo_63, oo_64, oo_66, oo_72, oo_78, oo_96, oo_97, oo_99, oo_100, oo_101, oo_105, oo_107, oo_108, oo_109, oo_110, oo_111, oo_112, oo_114, oo_115, oo_116, oo_117, oo_119, oo_122, oo_128, oo_130, oo_134, oo_135, oo_136, oo_137, oo_138, oo_139, oo_140, oo_141, oo_142, oo_143, oo_144, oo_145, oo_151, oo_157, oo_194, oo_200, oo_240, oo_255, oo_256, oo_274, oo_276, oo_300, oo_516, oo_900, oo_940, oo_941, oo_999, oo_1000, oo_1040, oo_10000, oo_add, oo_mul, oo_sub, oo_lt, oo_le, oo_eq, oo_nat, oo_div, oo_rem, oo_nn, nn_oo, oo_nnlt, nn_oolt, oo_nnle, nn_oole, ↓reduceIte, if_pos, if_neg, or_false, false_or, or_true, true_or, and_true, true_and, and_false, false_and, not_true_eq_false, not_false_eq_true, Nat.not_lt_zero, Bool.false_eq_true, Bool.true_eq_false, Option.bind_some, Option.bind_none, rf_7_0, rf_7_1, rf_7_2, rf_7_3, rf_7_4, rf_7_5, rf_7_6, rf_7_7, rf_28_1, rf_28_2, rf_28_3, rf_28_5, rf_28_6, rf_28_7, rf_28_8, rf_36_0, rf_36_1, rf_36_2, e1, e2, e3, ew, et, show (137 : Int32) = oo 137 from rfl, show (138 : Int32) = oo 138 from rfl, show (139 : Int32) = oo 139 from rfl]
    · rw [e, decide_eq_false hz]
      simp (disch := omega) only [f_X6_holds, ↓oo_m1, oo_0, oo_1, oo_2, oo_3, oo_4, oo_5, oo_6, oo_7, oo_8, oo_9, oo_10, oo_12, oo_13, oo_14, oo_15, oo_16, oo_17, oo_18, oo_20, oo_24, oo_30, oo_32, oo_36, oo_40, oo_41, oo_48, oo_50, oo_57, oo_59, oo_60, oo_61, oo_62, oo_63, oo_64, oo_66, oo_72, oo_78, oo_96, oo_97, oo_99, oo_100, oo_101, oo_105, oo_107, oo_108, oo_109, oo_110, oo_111, oo_112, oo_114, oo_115, oo_116, oo_117, oo_119, oo_122, oo_128, oo_130, oo_134, oo_135, oo_136, oo_137, oo_138, oo_139, oo_140, oo_141, oo_142, oo_143, oo_144, oo_145, oo_151, oo_157, oo_194, oo_200, oo_240, oo_255, oo_256, oo_274, oo_276, oo_300, oo_516, oo_900, oo_940, oo_941, oo_999, oo_1000, oo_1040, oo_10000, oo_add, oo_mul, oo_sub, oo_lt, oo_le, oo_eq, oo_nat, oo_div, oo_rem, oo_nn, nn_oo, oo_nnlt, nn_oolt, oo_nnle, nn_oole, ↓reduceIte, if_pos, if_neg, or_false, false_or, or_true, true_or, and_true, true_and, and_false, false_and, not_true_eq_false, not_false_eq_true, Nat.not_lt_zero, Bool.false_eq_true, Bool.true_eq_false, Option.bind_some, Option.bind_none, rf_7_0, rf_7_1, rf_7_2, rf_7_3, rf_7_4, rf_7_5, rf_7_6, rf_7_7, rf_28_1, rf_28_2, rf_28_3, rf_28_5, rf_28_6, rf_28_7, rf_28_8, rf_36_0, rf_36_1, rf_36_2, e1, e2, e3, ew, et]
  · have e : lfS v w q = decide (v (151 + w) = w) := by unfold lfS; rw [q1]; rfl
    rw [q1] at e1
    by_cases hz : v (151 + w) = w
    · rw [e, decide_eq_true hz]
      rw [hz] at ew
      simp (disch := omega) only [f_X6_holds, ↓oo_m1, oo_0, oo_1, oo_2, oo_3, oo_4, oo_5, oo_6, oo_7, oo_8, oo_9, oo_10, oo_12, oo_13, oo_14, oo_15, oo_16, oo_17, oo_18, oo_20, oo_24, oo_30, oo_32, oo_36, oo_40, oo_41, oo_48, oo_50, oo_57, oo_59, oo_60, oo_61, oo_62, oo_63, oo_64, oo_66, oo_72, oo_78, oo_96, oo_97, oo_99, oo_100, oo_101, oo_105, oo_107, oo_108, oo_109, oo_110, oo_111, oo_112, oo_114, oo_115, oo_116, oo_117, oo_119, oo_122, oo_128, oo_130, oo_134, oo_135, oo_136, oo_137, oo_138, oo_139, oo_140, oo_141, oo_142, oo_143, oo_144, oo_145, oo_151, oo_157, oo_194, oo_200, oo_240, oo_255, oo_256, oo_274, oo_276, oo_300, oo_516, oo_900, oo_940, oo_941, oo_999, oo_1000, oo_1040, oo_10000, oo_add, oo_mul, oo_sub, oo_lt, oo_le, oo_eq, oo_nat, oo_div, oo_rem, oo_nn, nn_oo, oo_nnlt, nn_oolt, oo_nnle, nn_oole, ↓reduceIte, if_pos, if_neg, or_false, false_or, or_true, true_or, and_true, true_and, and_false, false_and, not_true_eq_false, not_false_eq_true, Nat.not_lt_zero, Bool.false_eq_true, Bool.true_eq_false, Option.bind_some, Option.bind_none, rf_7_0, rf_7_1, rf_7_2, rf_7_3, rf_7_4, rf_7_5, rf_7_6, rf_7_7, rf_28_1, rf_28_2, rf_28_3, rf_28_5, rf_28_6, rf_28_7, rf_28_8, rf_36_0, rf_36_1, rf_36_2, e1, e2, e3, ew]
    · rw [e, decide_eq_false hz]
      simp (disch := omega) only [f_X6_holds, ↓oo_m1, oo_0, oo_1, oo_2, oo_3, oo_4, oo_5, oo_6, oo_7, oo_8, oo_9, oo_10, oo_12, oo_13, oo_14, oo_15, oo_16, oo_17, oo_18, oo_20, oo_24, oo_30, oo_32, oo_36, oo_40, oo_41, oo_48, oo_50, oo_57, oo_59, oo_60, oo_61, oo_62, oo_63, oo_64, oo_66, oo_72, oo_78, oo_96, oo_97, oo_99, oo_100, oo_101, oo_105, oo_107, oo_108, oo_109, oo_110, oo_111, oo_112, oo_114, oo_115, oo_116, oo_117, oo_119, oo_122, oo_128, oo_130, oo_134, oo_135, oo_136, oo_137, oo_138, oo_139, oo_140, oo_141, oo_142, oo_143, oo_144, oo_145, oo_151, oo_157, oo_194, oo_200, oo_240, oo_255, oo_256, oo_274, oo_276, oo_300, oo_516, oo_900, oo_940, oo_941, oo_999, oo_1000, oo_1040, oo_10000, oo_add, oo_mul, oo_sub, oo_lt, oo_le, oo_eq, oo_nat, oo_div, oo_rem, oo_nn, nn_oo, oo_nnlt, nn_oolt, oo_nnle, nn_oole, ↓reduceIte, if_pos, if_neg, or_false, false_or, or_true, true_or, and_true, true_and, and_false, false_and, not_true_eq_false, not_false_eq_true, Nat.not_lt_zero, Bool.false_eq_true, Bool.true_eq_false, Option.bind_some, Option.bind_none, rf_7_0, rf_7_1, rf_7_2, rf_7_3, rf_7_4, rf_7_5, rf_7_6, rf_7_7, rf_28_1, rf_28_2, rf_28_3, rf_28_5, rf_28_6, rf_28_7, rf_28_8, rf_36_0, rf_36_1, rf_36_2, e1, e2, e3, ew]
  · have e : lfS v w q = decide (v (145 + w) = q.2.2) := by unfold lfS; rw [q1]; rfl
    rw [q1] at e1
    by_cases hz : v (145 + w) = q.2.2
    · rw [e, decide_eq_true hz]
      rw [hz] at ep
      simp (disch := omega) only [f_X6_holds, ↓oo_m1, oo_0, oo_1, oo_2, oo_3, oo_4, oo_5, oo_6, oo_7, oo_8, oo_9, oo_10, oo_12, oo_13, oo_14, oo_15, oo_16, oo_17, oo_18, oo_20, oo_24, oo_30, oo_32, oo_36, oo_40, oo_41, oo_48, oo_50, oo_57, oo_59, oo_60, oo_61, oo_62, oo_63, oo_64, oo_66, oo_72, oo_78, oo_96, oo_97, oo_99, oo_100, oo_101, oo_105, oo_107, oo_108, oo_109, oo_110, oo_111, oo_112, oo_114, oo_115, oo_116, oo_117, oo_119, oo_122, oo_128, oo_130, oo_134, oo_135, oo_136, oo_137, oo_138, oo_139, oo_140, oo_141, oo_142, oo_143, oo_144, oo_145, oo_151, oo_157, oo_194, oo_200, oo_240, oo_255, oo_256, oo_274, oo_276, oo_300, oo_516, oo_900, oo_940, oo_941, oo_999, oo_1000, oo_1040, oo_10000, oo_add, oo_mul, oo_sub, oo_lt, oo_le, oo_eq, oo_nat, oo_div, oo_rem, oo_nn, nn_oo, oo_nnlt, nn_oolt, oo_nnle, nn_oole, ↓reduceIte, if_pos, if_neg, or_false, false_or, or_true, true_or, and_true, true_and, and_false, false_and, not_true_eq_false, not_false_eq_true, Nat.not_lt_zero, Bool.false_eq_true, Bool.true_eq_false, Option.bind_some, Option.bind_none, rf_7_0, rf_7_1, rf_7_2, rf_7_3, rf_7_4, rf_7_5, rf_7_6, rf_7_7, rf_28_1, rf_28_2, rf_28_3, rf_28_5, rf_28_6, rf_28_7, rf_28_8, rf_36_0, rf_36_1, rf_36_2, e1, e2, e3, ep]
    · rw [e, decide_eq_false hz]
      simp (disch := omega) only [f_X6_holds, ↓oo_m1, oo_0, oo_1, oo_2, oo_3, oo_4, oo_5, oo_6, oo_7, oo_8, oo_9, oo_10, oo_12, oo_13, oo_14, oo_15, oo_16, oo_17, oo_18, oo_20, oo_24, oo_30, oo_32, oo_36, oo_40, oo_41, oo_48, oo_50, oo_57, oo_59, oo_60, oo_61, oo_62, oo_63, oo_64, oo_66, oo_72, oo_78, oo_96, oo_97, oo_99, oo_100, oo_101, oo_105, oo_107, oo_108, oo_109, oo_110, oo_111, oo_112, oo_114, oo_115, oo_116, oo_117, oo_119, oo_122, oo_128, oo_130, oo_134, oo_135, oo_136, oo_137, oo_138, oo_139, oo_140, oo_141, oo_142, oo_143, oo_144, oo_145, oo_151, oo_157, oo_194, oo_200, oo_240, oo_255, oo_256, oo_274, oo_276, oo_300, oo_516, oo_900, oo_940, oo_941, oo_999, oo_1000, oo_1040, oo_10000, oo_add, oo_mul, oo_sub, oo_lt, oo_le, oo_eq, oo_nat, oo_div, oo_rem, oo_nn, nn_oo, oo_nnlt, nn_oolt, oo_nnle, nn_oole, ↓reduceIte, if_pos, if_neg, or_false, false_or, or_true, true_or, and_true, true_and, and_false, false_and, not_true_eq_false, not_false_eq_true, Nat.not_lt_zero, Bool.false_eq_true, Bool.true_eq_false, Option.bind_some, Option.bind_none, rf_7_0, rf_7_1, rf_7_2, rf_7_3, rf_7_4, rf_7_5, rf_7_6, rf_7_7, rf_28_1, rf_28_2, rf_28_3, rf_28_5, rf_28_6, rf_28_7, rf_28_8, rf_36_0, rf_36_1, rf_36_2, e1, e2, e3, ep]
  · have e : lfS v w q = decide (0 < coatG v (v (151 + w)) q.2.2) := by unfold lfS; rw [q1]; rfl
    have h99 := hcb q.2.2 q2
    have ex := hcg q.2.2 q2
    rw [q1] at e1
    by_cases hz : 0 < coatG v (v (151 + w)) q.2.2
    · rw [e, decide_eq_true hz]
      simp (disch := omega) only [f_X6_holds, ↓oo_m1, oo_0, oo_1, oo_2, oo_3, oo_4, oo_5, oo_6, oo_7, oo_8, oo_9, oo_10, oo_12, oo_13, oo_14, oo_15, oo_16, oo_17, oo_18, oo_20, oo_24, oo_30, oo_32, oo_36, oo_40, oo_41, oo_48, oo_50, oo_57, oo_59, oo_60, oo_61, oo_62, oo_63, oo_64, oo_66, oo_72, oo_78, oo_96, oo_97, oo_99, oo_100, oo_101, oo_105, oo_107, oo_108, oo_109, oo_110, oo_111, oo_112, oo_114, oo_115, oo_116, oo_117, oo_119, oo_122, oo_128, oo_130, oo_134, oo_135, oo_136, oo_137, oo_138, oo_139, oo_140, oo_141, oo_142, oo_143, oo_144, oo_145, oo_151, oo_157, oo_194, oo_200, oo_240, oo_255, oo_256, oo_274, oo_276, oo_300, oo_516, oo_900, oo_940, oo_941, oo_999, oo_1000, oo_1040, oo_10000, oo_add, oo_mul, oo_sub, oo_lt, oo_le, oo_eq, oo_nat, oo_div, oo_rem, oo_nn, nn_oo, oo_nnlt, nn_oolt, oo_nnle, nn_oole, ↓reduceIte, if_pos, if_neg, or_false, false_or, or_true, true_or, and_true, true_and, and_false, false_and, not_true_eq_false, not_false_eq_true, Nat.not_lt_zero, Bool.false_eq_true, Bool.true_eq_false, Option.bind_some, Option.bind_none, rf_7_0, rf_7_1, rf_7_2, rf_7_3, rf_7_4, rf_7_5, rf_7_6, rf_7_7, rf_28_1, rf_28_2, rf_28_3, rf_28_5, rf_28_6, rf_28_7, rf_28_8, rf_36_0, rf_36_1, rf_36_2, e1, e2, e3, ew, ex]
    · rw [e, decide_eq_false hz]
      have hz0 : coatG v (v (151 + w)) q.2.2 = 0 := by omega
      rw [hz0] at ex
      simp (disch := omega) only [f_X6_holds, ↓oo_m1, oo_0, oo_1, oo_2, oo_3, oo_4, oo_5, oo_6, oo_7, oo_8, oo_9, oo_10, oo_12, oo_13, oo_14, oo_15, oo_16, oo_17, oo_18, oo_20, oo_24, oo_30, oo_32, oo_36, oo_40, oo_41, oo_48, oo_50, oo_57, oo_59, oo_60, oo_61, oo_62, oo_63, oo_64, oo_66, oo_72, oo_78, oo_96, oo_97, oo_99, oo_100, oo_101, oo_105, oo_107, oo_108, oo_109, oo_110, oo_111, oo_112, oo_114, oo_115, oo_116, oo_117, oo_119, oo_122, oo_128, oo_130, oo_134, oo_135, oo_136, oo_137, oo_138, oo_139, oo_140, oo_141, oo_142, oo_143, oo_144, oo_145, oo_151, oo_157, oo_194, oo_200, oo_240, oo_255, oo_256, oo_274, oo_276, oo_300, oo_516, oo_900, oo_940, oo_941, oo_999, oo_1000, oo_1040, oo_10000, oo_add, oo_mul, oo_sub, oo_lt, oo_le, oo_eq, oo_nat, oo_div, oo_rem, oo_nn, nn_oo, oo_nnlt, nn_oolt, oo_nnle, nn_oole, ↓reduceIte, if_pos, if_neg, or_false, false_or, or_true, true_or, and_true, true_and, and_false, false_and, not_true_eq_false, not_false_eq_true, Nat.not_lt_zero, Bool.false_eq_true, Bool.true_eq_false, Option.bind_some, Option.bind_none, rf_7_0, rf_7_1, rf_7_2, rf_7_3, rf_7_4, rf_7_5, rf_7_6, rf_7_7, rf_28_1, rf_28_2, rf_28_3, rf_28_5, rf_28_6, rf_28_7, rf_28_8, rf_36_0, rf_36_1, rf_36_2, e1, e2, e3, ew, ex]
  · rcases q1 with q1 | q1 | q1
    · have e : lfS v w q = cmpN (su (coatG v (v (151 + w))) 6) q.2.1 q.2.2 := by unfold lfS; rw [q1]; rfl
      rw [q1] at e1
      rw [e, ← cmp_c (by omega) q2 q3]
      simp (disch := omega) only [f_X6_holds, ↓oo_m1, oo_0, oo_1, oo_2, oo_3, oo_4, oo_5, oo_6, oo_7, oo_8, oo_9, oo_10, oo_12, oo_13, oo_14, oo_15, oo_16, oo_17, oo_18, oo_20, oo_24, oo_30, oo_32, oo_36, oo_40, oo_41, oo_48, oo_50, oo_57, oo_59, oo_60, oo_61, oo_62, oo_63, oo_64, oo_66, oo_72, oo_78, oo_96, oo_97, oo_99, oo_100, oo_101, oo_105, oo_107, oo_108, oo_109, oo_110, oo_111, oo_112, oo_114, oo_115, oo_116, oo_117, oo_119, oo_122, oo_128, oo_130, oo_134, oo_135, oo_136, oo_137, oo_138, oo_139, oo_140, oo_141, oo_142, oo_143, oo_144, oo_145, oo_151, oo_157, oo_194, oo_200, oo_240, oo_255, oo_256, oo_274, oo_276, oo_300, oo_516, oo_900, oo_940, oo_941, oo_999, oo_1000, oo_1040, oo_10000, oo_add, oo_mul, oo_sub, oo_lt, oo_le, oo_eq, oo_nat, oo_div, oo_rem, oo_nn, nn_oo, oo_nnlt, nn_oolt, oo_nnle, nn_oole, ↓reduceIte, if_pos, if_neg, or_false, false_or, or_true, true_or, and_true, true_and, and_false, false_and, not_true_eq_false, not_false_eq_true, Nat.not_lt_zero, Bool.false_eq_true, Bool.true_eq_false, Option.bind_some, Option.bind_none, rf_7_0, rf_7_1, rf_7_2, rf_7_3, rf_7_4, rf_7_5, rf_7_6, rf_7_7, rf_28_1, rf_28_2, rf_28_3, rf_28_5, rf_28_6, rf_28_7, rf_28_8, rf_36_0, rf_36_1, rf_36_2, e1, e2, e3, ew, et]
    · have e : lfS v w q = cmpN (mtF (coatG v (v (151 + w))) 6) q.2.1 q.2.2 := by unfold lfS; rw [q1]; rfl
      rw [q1] at e1
      have em : f_X6_most 28 (oo (v (151 + w))) S = some (oo (mtF (coatG v (v (151 + w))) 6), S) := by
        unfold f_X6_most mtF
        rw [show rf 28 3 = 31 from rfl, es, Option.bind_some]
        dsimp only
        by_cases h0 : sgF (coatG v (v (151 + w))) 6 = 0
        · rw [h0, if_pos (show enc 0 = (-1 : Int32) from rfl), if_pos rfl]
          rfl
        · have h6 := sgF_le (coatG v (v (151 + w))) 6
          have hne : ¬ enc (sgF (coatG v (v (151 + w))) 6) = -1 := by
            rw [show (-1 : Int32) = nn from rfl, enc_nn (by omega)]
            exact h0
          have hen : enc (sgF (coatG v (v (151 + w))) 6) = oo (sgF (coatG v (v (151 + w))) 6 - 1) := by unfold enc; rw [if_neg h0]
          rw [if_neg hne, if_neg h0, hen, show (6 : Int32) = oo 6 from rfl, oo_mul, oo_add, hcg _ (by omega)]
      rw [e, ← cmp_c (by omega) q2 q3]
      simp (disch := omega) only [f_X6_holds, ↓oo_m1, oo_0, oo_1, oo_2, oo_3, oo_4, oo_5, oo_6, oo_7, oo_8, oo_9, oo_10, oo_12, oo_13, oo_14, oo_15, oo_16, oo_17, oo_18, oo_20, oo_24, oo_30, oo_32, oo_36, oo_40, oo_41, oo_48, oo_50, oo_57, oo_59, oo_60, oo_61, oo_62, oo_63, oo_64, oo_66, oo_72, oo_78, oo_96, oo_97, oo_99, oo_100, oo_101, oo_105, oo_107, oo_108, oo_109, oo_110, oo_111, oo_112, oo_114, oo_115, oo_116, oo_117, oo_119, oo_122, oo_128, oo_130, oo_134, oo_135, oo_136, oo_137, oo_138, oo_139, oo_140, oo_141, oo_142, oo_143, oo_144, oo_145, oo_151, oo_157, oo_194, oo_200, oo_240, oo_255, oo_256, oo_274, oo_276, oo_300, oo_516, oo_900, oo_940, oo_941, oo_999, oo_1000, oo_1040, oo_10000, oo_add, oo_mul, oo_sub, oo_lt, oo_le, oo_eq, oo_nat, oo_div, oo_rem, oo_nn, nn_oo, oo_nnlt, nn_oolt, oo_nnle, nn_oole, ↓reduceIte, if_pos, if_neg, or_false, false_or, or_true, true_or, and_true, true_and, and_false, false_and, not_true_eq_false, not_false_eq_true, Nat.not_lt_zero, Bool.false_eq_true, Bool.true_eq_false, Option.bind_some, Option.bind_none, rf_7_0, rf_7_1, rf_7_2, rf_7_3, rf_7_4, rf_7_5, rf_7_6, rf_7_7, rf_28_1, rf_28_2, rf_28_3, rf_28_5, rf_28_6, rf_28_7, rf_28_8, rf_36_0, rf_36_1, rf_36_2, e1, e2, e3, ew, em]
    · have e : lfS v w q = cmpN (v (66 + v (151 + w))) q.2.1 q.2.2 := by unfold lfS; rw [q1]; rfl
      rw [q1] at e1
      rw [e, ← cmp_c (by omega) q2 q3]
      simp (disch := omega) only [f_X6_holds, ↓oo_m1, oo_0, oo_1, oo_2, oo_3, oo_4, oo_5, oo_6, oo_7, oo_8, oo_9, oo_10, oo_12, oo_13, oo_14, oo_15, oo_16, oo_17, oo_18, oo_20, oo_24, oo_30, oo_32, oo_36, oo_40, oo_41, oo_48, oo_50, oo_57, oo_59, oo_60, oo_61, oo_62, oo_63, oo_64, oo_66, oo_72, oo_78, oo_96, oo_97, oo_99, oo_100, oo_101, oo_105, oo_107, oo_108, oo_109, oo_110, oo_111, oo_112, oo_114, oo_115, oo_116, oo_117, oo_119, oo_122, oo_128, oo_130, oo_134, oo_135, oo_136, oo_137, oo_138, oo_139, oo_140, oo_141, oo_142, oo_143, oo_144, oo_145, oo_151, oo_157, oo_194, oo_200, oo_240, oo_255, oo_256, oo_274, oo_276, oo_300, oo_516, oo_900, oo_940, oo_941, oo_999, oo_1000, oo_1040, oo_10000, oo_add, oo_mul, oo_sub, oo_lt, oo_le, oo_eq, oo_nat, oo_div, oo_rem, oo_nn, nn_oo, oo_nnlt, nn_oolt, oo_nnle, nn_oole, ↓reduceIte, if_pos, if_neg, or_false, false_or, or_true, true_or, and_true, true_and, and_false, false_and, not_true_eq_false, not_false_eq_true, Nat.not_lt_zero, Bool.false_eq_true, Bool.true_eq_false, Option.bind_some, Option.bind_none, rf_7_0, rf_7_1, rf_7_2, rf_7_3, rf_7_4, rf_7_5, rf_7_6, rf_7_7, rf_28_1, rf_28_2, rf_28_3, rf_28_5, rf_28_6, rf_28_7, rf_28_8, rf_36_0, rf_36_1, rf_36_2, e1, e2, e3, ew, ek]
/-- what a node says of a witness -/
def evN (v : Nat → Nat) (w : Nat) : Nat → Nat → Bool
  | 0, _ => false
  | f + 1, k =>
    if v (276 + 4 * k) = 1 then !evN v w f (v (276 + 4 * k + 1))
    else if v (276 + 4 * k) = 2 then evN v w f (v (276 + 4 * k + 1)) && evN v w f (v (276 + 4 * k + 2))
    else if v (276 + 4 * k) = 3 then evN v w f (v (276 + 4 * k + 1)) || evN v w f (v (276 + 4 * k + 2))
    else lfS v w ((postN v (f + 1) k).getD 0 (0, 0, 0))
theorem post_leaf {f k : Nat} (h1 : v (276 + 4 * k) ≠ 1) (h2 : v (276 + 4 * k) ≠ 2) (h3 : v (276 + 4 * k) ≠ 3) (hw : wfN v (f + 1) k) : ∃ q, postN v (f + 1) k = [q] ∧ isLf q := by
  obtain ⟨-, hw⟩ := hw
  rw [if_neg h1, if_neg h2, if_neg h3] at hw
  rw [postN, if_neg h1, if_neg h2, if_neg h3]
  by_cases h4 : v (276 + 4 * k) = 60
  · rw [if_pos h4]
    exact ⟨_, rfl, .inl rfl⟩
  rw [if_neg h4] at hw ⊢
  by_cases h5 : v (276 + 4 * k) = 61
  · rw [if_pos h5]
    exact ⟨_, rfl, .inr (.inl rfl)⟩
  rw [if_neg h5] at hw ⊢
  by_cases h6 : v (276 + 4 * k) = 62
  · rw [if_pos h6] at hw ⊢
    exact ⟨_, rfl, .inr (.inr (.inl ⟨rfl, hw⟩))⟩
  rw [if_neg h6] at hw ⊢
  by_cases h7 : v (276 + 4 * k) = 63
  · rw [if_pos h7] at hw ⊢
    exact ⟨_, rfl, .inr (.inr (.inr (.inl ⟨rfl, hw⟩)))⟩
  rw [if_neg h7] at hw ⊢
  refine ⟨_, rfl, .inr (.inr (.inr (.inr ⟨?_, hw.2.2.1, ?_⟩)))⟩
  · show v (276 + 4 * k) + 78 = 142 ∨ v (276 + 4 * k) + 78 = 143 ∨ v (276 + 4 * k) + 78 = 144
    omega
  · show v (276 + 4 * k + 3) = 60 ∨ v (276 + 4 * k + 3) = 61 ∨ v (276 + 4 * k + 3) = 62
    omega
theorem gq_l {l m : List (Nat × Nat × Nat)} {j : Nat} (h : j < l.length) : (l ++ m).getD j (0, 0, 0) = l.getD j (0, 0, 0) := by
  rw [List.getD_eq_getElem?_getD, List.getElem?_append_left h, ← List.getD_eq_getElem?_getD]
theorem gq_r {l m : List (Nat × Nat × Nat)} {j : Nat} : (l ++ m).getD (l.length + j) (0, 0, 0) = m.getD j (0, 0, 0) := by
  rw [List.getD_eq_getElem?_getD, List.getElem?_append_right (Nat.le_add_right _ _), Nat.add_sub_cancel_left, ← List.getD_eq_getElem?_getD]
/-- the class's rows hold the steps q from the i-th on -/
def stAt (S : XS) (i : Nat) (l : List (Nat × Nat × Nat)) : Prop := ∀ j, j < l.length → S.1 37 (i + j) = oo (l.getD j (0, 0, 0)).1 ∧ S.1 38 (i + j) = oo (l.getD j (0, 0, 0)).2.1 ∧ S.1 39 (i + j) = oo (l.getD j (0, 0, 0)).2.2
theorem stAt.l {i : Nat} {l m : List (Nat × Nat × Nat)} (h : stAt S i (l ++ m)) : stAt S i l := fun j hj => by
  have := h j (by rw [List.length_append]; omega)
  rw [gq_l hj] at this
  exact this
theorem stAt.r {i : Nat} {l m : List (Nat × Nat × Nat)} (h : stAt S i (l ++ m)) : stAt S (i + l.length) m := fun j hj => by
  have := h (l.length + j) (by rw [List.length_append]; omega)
  rw [gq_r, ← Nat.add_assoc] at this
  exact this
theorem stp_not {N i n : Nat} {st : List Bool} {b : Bool} (hN : N ≤ 40) (hl : S.1 36 3 = oo N) (hi : i < N) (h1 : S.1 37 i = oo 139) (hst : st.length ≤ 60) : f_X6_isSaidOf_L6 36 7 28 (oo w) (n + 1) (ll (sb (b :: st))) (oo i) S = f_X6_isSaidOf_L6 36 7 28 (oo w) n (ll (sb ((!b) :: st))) (oo (i + 1)) S := by
  have e1 : gat S 37 (oo i) = oo 139 := by rw [g_37 (by omega), h1]
  rw [f_X6_isSaidOf_L6, hl, if_neg (by rw [oo_le (by omega) (by omega)]; omega), show rf 36 0 = 37 from rfl, e1, if_pos (show oo 139 = (139 : Int32) from rfl), st_not (by omega), show (1 : Int32) = oo 1 from rfl, oo_add]
theorem stp_and {N i n : Nat} {st : List Bool} {a b : Bool} (hN : N ≤ 40) (hl : S.1 36 3 = oo N) (hi : i < N) (h1 : S.1 37 i = oo 138) (hst : st.length ≤ 60) : f_X6_isSaidOf_L6 36 7 28 (oo w) (n + 1) (ll (sb (b :: a :: st))) (oo i) S = f_X6_isSaidOf_L6 36 7 28 (oo w) n (ll (sb ((a && b) :: st))) (oo (i + 1)) S := by
  have e1 : gat S 37 (oo i) = oo 138 := by rw [g_37 (by omega), h1]
  rw [f_X6_isSaidOf_L6, hl, if_neg (by rw [oo_le (by omega) (by omega)]; omega), show rf 36 0 = 37 from rfl, e1, if_neg (show ¬ oo 138 = (139 : Int32) by decide), if_pos (show oo 138 = (138 : Int32) from rfl), st_and (by omega), show (1 : Int32) = oo 1 from rfl, oo_add]
theorem stp_or {N i n : Nat} {st : List Bool} {a b : Bool} (hN : N ≤ 40) (hl : S.1 36 3 = oo N) (hi : i < N) (h1 : S.1 37 i = oo 137) (hst : st.length ≤ 60) : f_X6_isSaidOf_L6 36 7 28 (oo w) (n + 1) (ll (sb (b :: a :: st))) (oo i) S = f_X6_isSaidOf_L6 36 7 28 (oo w) n (ll (sb ((a || b) :: st))) (oo (i + 1)) S := by
  have e1 : gat S 37 (oo i) = oo 137 := by rw [g_37 (by omega), h1]
  rw [f_X6_isSaidOf_L6, hl, if_neg (by rw [oo_le (by omega) (by omega)]; omega), show rf 36 0 = 37 from rfl, e1, if_neg (show ¬ oo 137 = (139 : Int32) by decide), if_neg (show ¬ oo 137 = (138 : Int32) by decide), if_pos (show oo 137 = (137 : Int32) from rfl), st_or (by omega), show (1 : Int32) = oo 1 from rfl, oo_add]
theorem isLf.ne {q : Nat × Nat × Nat} (h : isLf q) : q.1 < 1000 ∧ q.1 ≠ 139 ∧ q.1 ≠ 138 ∧ q.1 ≠ 137 := by
  rcases h with h | h | ⟨h, -⟩ | ⟨h, -⟩ | ⟨h, -⟩ <;> omega
theorem stp_leaf (hH : IsHill S 7 v) (hW : IsWd S 28 v) (hO : HOK v) (hS : SOK v) (hw : w < v 3) {N i n : Nat} {st : List Bool} {q : Nat × Nat × Nat} (hN : N ≤ 40) (hl : S.1 36 3 = oo N) (hi : i < N) (hat : stAt S i [q]) (hq : isLf q) (hst : st.length ≤ 60) : f_X6_isSaidOf_L6 36 7 28 (oo w) (n + 1) (ll (sb st)) (oo i) S = f_X6_isSaidOf_L6 36 7 28 (oo w) n (ll (sb (lfS v w q :: st))) (oo (i + 1)) S := by
  obtain ⟨a1, a2, a3⟩ := hat 0 Nat.one_pos
  change S.1 37 i = oo q.1 at a1
  change S.1 38 i = oo q.2.1 at a2
  change S.1 39 i = oo q.2.2 at a3
  obtain ⟨n0, n1, n2, n3⟩ := hq.ne
  have e1 : gat S 37 (oo i) = oo q.1 := by rw [g_37 (by omega), a1]
  have e2 := leaf_c hH hW hO hS hw (show i < 40 by omega) a1 a2 a3 hq
  have e3 : (if lfS v w q = true then some true else some false) = some (lfS v w q) := by cases lfS v w q <;> rfl
  rw [f_X6_isSaidOf_L6, hl, if_neg (by rw [oo_le (by omega) (by omega)]; omega), show rf 36 0 = 37 from rfl, e1, show (139 : Int32) = oo 139 from rfl, show (138 : Int32) = oo 138 from rfl, show (137 : Int32) = oo 137 from rfl, if_neg (by rw [oo_eq (by omega) (by decide)]; exact n1), if_neg (by rw [oo_eq (by omega) (by decide)]; exact n2), if_neg (by rw [oo_eq (by omega) (by decide)]; exact n3), e2, Option.bind_some]
  dsimp only
  rw [e3, Option.bind_some, st_push (by omega), show (1 : Int32) = oo 1 from rfl, oo_add]
theorem post_c (hH : IsHill S 7 v) (hW : IsWd S 28 v) (hO : HOK v) (hS : SOK v) (hw : w < v 3) {N : Nat} (hN : N ≤ 40) (hl : S.1 36 3 = oo N) : ∀ f k i n st, wfN v f k → stAt S i (postN v f k) → i + (postN v f k).length ≤ N → st.length + (postN v f k).length ≤ 60 → f_X6_isSaidOf_L6 36 7 28 (oo w) (n + (postN v f k).length) (ll (sb st)) (oo i) S = f_X6_isSaidOf_L6 36 7 28 (oo w) n (ll (sb (evN v w f k :: st))) (oo (i + (postN v f k).length)) S := by
  intro f
  induction f with
  | zero => intro k i n st h; exact absurd h id
  | succ f ih =>
    intro k i n st hwf hat hle hst
    by_cases h1 : v (276 + 4 * k) = 1
    · have hw2 := hwf.2
      rw [if_pos h1] at hw2
      have ep : postN v (f + 1) k = postN v f (v (276 + 4 * k + 1)) ++ [(139, 0, 0)] := by rw [postN, if_pos h1]
      have ee : evN v w (f + 1) k = !evN v w f (v (276 + 4 * k + 1)) := by rw [evN, if_pos h1]
      rw [ep] at hat hle hst ⊢
      rw [ee]
      rw [List.length_append, List.length_singleton] at hle hst ⊢
      have a1 : S.1 37 (i + (postN v f (v (276 + 4 * k + 1))).length) = oo 139 := (hat.r 0 Nat.one_pos).1
      rw [show n + ((postN v f (v (276 + 4 * k + 1))).length + 1) = (n + 1) + (postN v f (v (276 + 4 * k + 1))).length by omega, ih _ i (n + 1) st hw2 hat.l (by omega) (by omega), stp_not hN hl (by omega) a1 (by omega)]
      rfl
    by_cases h2 : v (276 + 4 * k) = 2
    · have hw2 := hwf.2
      rw [if_neg h1, if_pos h2] at hw2
      have ep : postN v (f + 1) k = postN v f (v (276 + 4 * k + 1)) ++ (postN v f (v (276 + 4 * k + 2)) ++ [(138, 0, 0)]) := by rw [postN, if_neg h1, if_pos h2]
      have ee : evN v w (f + 1) k = (evN v w f (v (276 + 4 * k + 1)) && evN v w f (v (276 + 4 * k + 2))) := by rw [evN, if_neg h1, if_pos h2]
      rw [ep] at hat hle hst ⊢
      rw [ee]
      rw [List.length_append, List.length_append, List.length_singleton] at hle hst ⊢
      have a1 : S.1 37 (i + (postN v f (v (276 + 4 * k + 1))).length + (postN v f (v (276 + 4 * k + 2))).length) = oo 138 := (hat.r.r 0 Nat.one_pos).1
      rw [show n + ((postN v f (v (276 + 4 * k + 1))).length + ((postN v f (v (276 + 4 * k + 2))).length + 1)) = ((n + 1) + (postN v f (v (276 + 4 * k + 2))).length) + (postN v f (v (276 + 4 * k + 1))).length by omega, ih _ i _ st hw2.1 hat.l (by omega) (by omega), ih _ _ (n + 1) _ hw2.2 hat.r.l (by omega) (by rw [List.length_cons]; omega), stp_and hN hl (by omega) a1 (by omega)]
      congr 2
      omega
    by_cases h3 : v (276 + 4 * k) = 3
    · have hw2 := hwf.2
      rw [if_neg h1, if_neg h2, if_pos h3] at hw2
      have ep : postN v (f + 1) k = postN v f (v (276 + 4 * k + 1)) ++ (postN v f (v (276 + 4 * k + 2)) ++ [(137, 0, 0)]) := by rw [postN, if_neg h1, if_neg h2, if_pos h3]
      have ee : evN v w (f + 1) k = (evN v w f (v (276 + 4 * k + 1)) || evN v w f (v (276 + 4 * k + 2))) := by rw [evN, if_neg h1, if_neg h2, if_pos h3]
      rw [ep] at hat hle hst ⊢
      rw [ee]
      rw [List.length_append, List.length_append, List.length_singleton] at hle hst ⊢
      have a1 : S.1 37 (i + (postN v f (v (276 + 4 * k + 1))).length + (postN v f (v (276 + 4 * k + 2))).length) = oo 137 := (hat.r.r 0 Nat.one_pos).1
      rw [show n + ((postN v f (v (276 + 4 * k + 1))).length + ((postN v f (v (276 + 4 * k + 2))).length + 1)) = ((n + 1) + (postN v f (v (276 + 4 * k + 2))).length) + (postN v f (v (276 + 4 * k + 1))).length by omega, ih _ i _ st hw2.1 hat.l (by omega) (by omega), ih _ _ (n + 1) _ hw2.2 hat.r.l (by omega) (by rw [List.length_cons]; omega), stp_or hN hl (by omega) a1 (by omega)]
      congr 2
      omega
    obtain ⟨q, ep, hq⟩ := post_leaf h1 h2 h3 hwf
    have ee : evN v w (f + 1) k = lfS v w q := by
      rw [evN, if_neg h1, if_neg h2, if_neg h3, ep]
      rfl
    rw [ep] at hat hle hst ⊢
    rw [ee]
    rw [List.length_singleton] at hle hst ⊢
    exact stp_leaf hH hW hO hS hw hN hl (by omega) hat hq (by omega)
theorem said_c (hH : IsHill S 7 v) (hW : IsWd S 28 v) (hO : HOK v) (hS : SOK v) (hw : w < v 3) (hN : (postN v 64 (v 275)).length ≤ 40) (hl : S.1 36 3 = oo (postN v 64 (v 275)).length) (hwf : wfN v 64 (v 275)) (hat : stAt S 0 (postN v 64 (v 275))) : f_X6_isSaidOf 36 7 28 (oo w) S = some (evN v w 64 (v 275), S) := by
  have h := post_c hH hW hO hS hw hN hl 64 (v 275) 0 (1000000 - (postN v 64 (v 275)).length) [] hwf hat (by omega) (by rw [List.length_nil]; omega)
  rw [Nat.sub_add_cancel (by omega), Nat.zero_add] at h
  obtain ⟨n, hn⟩ : ∃ n, 1000000 - (postN v 64 (v 275)).length = n + 1 := ⟨1000000 - (postN v 64 (v 275)).length - 1, by omega⟩
  have e : f_X6_isSaidOf_L6 36 7 28 (oo w) (n + 1) (ll (sb [evN v w 64 (v 275)])) (oo (postN v 64 (v 275)).length) S = some (ll (sb [evN v w 64 (v 275)]), S) := by
    rw [f_X6_isSaidOf_L6, hl, if_pos (by rw [oo_le (by omega) (by omega)]; omega)]
  rw [hn, e] at h
  have e2 : ll (sb [evN v w 64 (v 275)]) &&& 1 = ll (evN v w 64 (v 275)).toNat := ll_of (st_low (l := []) (by decide) _)
  unfold f_X6_isSaidOf
  rw [show (0 : Int64) = ll (sb []) from rfl, show (0 : Int32) = oo 0 from rfl, h, Option.bind_some]
  dsimp only
  rw [e2]
  cases evN v w 64 (v 275) with
  | false => rfl
  | true => rfl
/-! the reference -/
theorem value_n (hN : IsC S 190 516 v) (hO : HOK v) (hS : SOK v) (hw : w < v 3) : f_X12_valueOf 188 (oo 14) (oo w) S = some (oo (su (coatG v (v (151 + w))) 6), S) ∧ f_X12_valueOf 188 (oo 15) (oo w) S = some (oo (mtF (coatG v (v (151 + w))) 6), S) ∧ f_X12_valueOf 188 (oo 16) (oo w) S = some (oo (v (66 + v (151 + w))), S) := by
  obtain ⟨⟨b0, b1, b2, b3, b4, b5⟩, -, -, -, hkp, -⟩ := id hO
  have hc := wornB hS hO hw
  have hcb := coat_b hS hc
  have hcn := coat_n hN hc
  have e1 := worn6 hN (show w < 6 by omega) hc
  have e2 := sum6 hcn (by omega)
  have e3 := sta6 hcn (by omega) (lt1000 hcb)
  have e4 := hN (151 + w) (by omega)
  refine ⟨?_, ?_, ?_⟩
  · simp (disch := omega) only [f_X12_valueOf, ↓oo_m1, oo_0, oo_1, oo_2, oo_3, oo_4, oo_5, oo_6, oo_7, oo_8, oo_9, oo_10, oo_12, oo_13, oo_14, oo_15, oo_16, oo_17, oo_18, oo_20, oo_24, oo_30, oo_32, oo_36, oo_40, oo_41, oo_48, oo_50, oo_57, oo_59, oo_60, oo_61, oo_62, oo_63, oo_64, oo_66, oo_72, oo_78, oo_96, oo_97, oo_99, oo_100, oo_101, oo_105, oo_107, oo_108, oo_109, oo_110, oo_111, oo_112, oo_114, oo_115, oo_116, oo_117, oo_119, oo_122, oo_128, oo_130, oo_134, oo_135, oo_136, oo_137, oo_138, oo_139, oo_140, oo_141, oo_142, oo_143, oo_144, oo_145, oo_151, oo_157, oo_194, oo_200, oo_240, oo_255, oo_256, oo_274, oo_276, oo_300, oo_516, oo_900, oo_940, oo_941, oo_999, oo_1000, oo_1040, oo_10000, oo_add, oo_mul, oo_sub, oo_lt, oo_le, oo_eq, oo_nat, oo_div, oo_rem, oo_nn, nn_oo, oo_nnlt, nn_oolt, oo_nnle, nn_oole, ↓reduceIte, if_pos, if_neg, or_false, false_or, or_true, true_or, and_true, true_and, and_false, false_and, not_true_eq_false, not_false_eq_true, Nat.not_lt_zero, Bool.false_eq_true, Bool.true_eq_false, Option.bind_some, Option.bind_none, e1, e2]
  · by_cases h0 : sgF (coatG v (v (151 + w))) 6 = 0
    · have em : mtF (coatG v (v (151 + w))) 6 = 0 := by unfold mtF; rw [if_pos h0]
      rw [h0, enc_0] at e3
      rw [em]
      simp (disch := omega) only [f_X12_valueOf, ↓oo_m1, oo_0, oo_1, oo_2, oo_3, oo_4, oo_5, oo_6, oo_7, oo_8, oo_9, oo_10, oo_12, oo_13, oo_14, oo_15, oo_16, oo_17, oo_18, oo_20, oo_24, oo_30, oo_32, oo_36, oo_40, oo_41, oo_48, oo_50, oo_57, oo_59, oo_60, oo_61, oo_62, oo_63, oo_64, oo_66, oo_72, oo_78, oo_96, oo_97, oo_99, oo_100, oo_101, oo_105, oo_107, oo_108, oo_109, oo_110, oo_111, oo_112, oo_114, oo_115, oo_116, oo_117, oo_119, oo_122, oo_128, oo_130, oo_134, oo_135, oo_136, oo_137, oo_138, oo_139, oo_140, oo_141, oo_142, oo_143, oo_144, oo_145, oo_151, oo_157, oo_194, oo_200, oo_240, oo_255, oo_256, oo_274, oo_276, oo_300, oo_516, oo_900, oo_940, oo_941, oo_999, oo_1000, oo_1040, oo_10000, oo_add, oo_mul, oo_sub, oo_lt, oo_le, oo_eq, oo_nat, oo_div, oo_rem, oo_nn, nn_oo, oo_nnlt, nn_oolt, oo_nnle, nn_oole, ↓reduceIte, if_pos, if_neg, or_false, false_or, or_true, true_or, and_true, true_and, and_false, false_and, not_true_eq_false, not_false_eq_true, Nat.not_lt_zero, Bool.false_eq_true, Bool.true_eq_false, Option.bind_some, Option.bind_none, e1, e3]
    · have h6 := sgF_le (coatG v (v (151 + w))) 6
      have em : mtF (coatG v (v (151 + w))) 6 = coatG v (v (151 + w)) (sgF (coatG v (v (151 + w))) 6 - 1) := by unfold mtF; rw [if_neg h0]
      have hen : enc (sgF (coatG v (v (151 + w))) 6) = oo (sgF (coatG v (v (151 + w))) 6 - 1) := by unfold enc; rw [if_neg h0]
      have e5 := hcn (sgF (coatG v (v (151 + w))) 6 - 1) (by omega)
      rw [hen] at e3
      rw [em]
      simp (disch := omega) only [f_X12_valueOf, ↓oo_m1, oo_0, oo_1, oo_2, oo_3, oo_4, oo_5, oo_6, oo_7, oo_8, oo_9, oo_10, oo_12, oo_13, oo_14, oo_15, oo_16, oo_17, oo_18, oo_20, oo_24, oo_30, oo_32, oo_36, oo_40, oo_41, oo_48, oo_50, oo_57, oo_59, oo_60, oo_61, oo_62, oo_63, oo_64, oo_66, oo_72, oo_78, oo_96, oo_97, oo_99, oo_100, oo_101, oo_105, oo_107, oo_108, oo_109, oo_110, oo_111, oo_112, oo_114, oo_115, oo_116, oo_117, oo_119, oo_122, oo_128, oo_130, oo_134, oo_135, oo_136, oo_137, oo_138, oo_139, oo_140, oo_141, oo_142, oo_143, oo_144, oo_145, oo_151, oo_157, oo_194, oo_200, oo_240, oo_255, oo_256, oo_274, oo_276, oo_300, oo_516, oo_900, oo_940, oo_941, oo_999, oo_1000, oo_1040, oo_10000, oo_add, oo_mul, oo_sub, oo_lt, oo_le, oo_eq, oo_nat, oo_div, oo_rem, oo_nn, nn_oo, oo_nnlt, nn_oolt, oo_nnle, nn_oole, ↓reduceIte, if_pos, if_neg, or_false, false_or, or_true, true_or, and_true, true_and, and_false, false_and, not_true_eq_false, not_false_eq_true, Nat.not_lt_zero, Bool.false_eq_true, Bool.true_eq_false, Option.bind_some, Option.bind_none, rf_188_1, rf_188_14, rf_188_15, rf_188_16, rf_188_17, rf_188_18, rf_188_19, rf_188_20, rf_188_21, rf_188_22, rf_188_24, rf_188_25, rf_188_26, rf_188_27, rf_188_28, rf_188_31, rf_188_32, rf_188_34, rf_188_35, rf_188_36, rf_188_37, rf_188_38, rf_188_42, rf_188_43, rf_188_51, rf_188_52, rf_188_53, rf_188_55, ln_190, e1, e3, e5]
  · simp (disch := omega) only [f_X12_valueOf, ↓oo_m1, oo_0, oo_1, oo_2, oo_3, oo_4, oo_5, oo_6, oo_7, oo_8, oo_9, oo_10, oo_12, oo_13, oo_14, oo_15, oo_16, oo_17, oo_18, oo_20, oo_24, oo_30, oo_32, oo_36, oo_40, oo_41, oo_48, oo_50, oo_57, oo_59, oo_60, oo_61, oo_62, oo_63, oo_64, oo_66, oo_72, oo_78, oo_96, oo_97, oo_99, oo_100, oo_101, oo_105, oo_107, oo_108, oo_109, oo_110, oo_111, oo_112, oo_114, oo_115, oo_116, oo_117, oo_119, oo_122, oo_128, oo_130, oo_134, oo_135, oo_136, oo_137, oo_138, oo_139, oo_140, oo_141, oo_142, oo_143, oo_144, oo_145, oo_151, oo_157, oo_194, oo_200, oo_240, oo_255, oo_256, oo_274, oo_276, oo_300, oo_516, oo_900, oo_940, oo_941, oo_999, oo_1000, oo_1040, oo_10000, oo_add, oo_mul, oo_sub, oo_lt, oo_le, oo_eq, oo_nat, oo_div, oo_rem, oo_nn, nn_oo, oo_nnlt, nn_oolt, oo_nnle, nn_oole, ↓reduceIte, if_pos, if_neg, or_false, false_or, or_true, true_or, and_true, true_and, and_false, false_and, not_true_eq_false, not_false_eq_true, Nat.not_lt_zero, Bool.false_eq_true, Bool.true_eq_false, Option.bind_some, Option.bind_none, rf_188_1, rf_188_14, rf_188_15, rf_188_16, rf_188_17, rf_188_18, rf_188_19, rf_188_20, rf_188_21, rf_188_22, rf_188_24, rf_188_25, rf_188_26, rf_188_27, rf_188_28, rf_188_31, rf_188_32, rf_188_34, rf_188_35, rf_188_36, rf_188_37, rf_188_38, rf_188_42, rf_188_43, rf_188_51, rf_188_52, rf_188_53, rf_188_55, ln_190, hN _]
theorem hold_n (hN : IsC S 190 516 v) (hO : HOK v) (hS : SOK v) (hw : w < v 3) : ∀ f k, wfN v f k → rX12_holds f 188 (oo k) (oo w) S = some (evN v w f k, S) := by
  obtain ⟨⟨b0, b1, b2, b3, b4, b5⟩, -, -, -, hkp, -⟩ := id hO
  have hc := wornB hS hO hw
  have hp := (hS.2.1 w hw)
  have hkw := hkp (v (151 + w)) hp.2
  have hcb := coat_b hS hc
  have hcn := coat_n hN hc
  have hsu := su_le hcb 6 (Nat.le_refl 6)
  have hmt := mtF_le hcb
  have ew := worn6 hN (show w < 6 by omega) hc
  have esu := sum6 hcn (by omega)
  obtain ⟨v14, v15, v16⟩ := value_n hN hO hS hw
  have e151 := hN (151 + w) (by omega)
  have e145 := hN (145 + w) (by omega)
  intro f
  induction f with
  | zero => intro k h; exact absurd h id
  | succ f ih =>
    intro k hwf
    have hk := hwf.1
    have r0 := hN (276 + 4 * k) (by omega)
    have r1 := hN (276 + 4 * k + 1) (by omega)
    have r2 := hN (276 + 4 * k + 2) (by omega)
    have r3 := hN (276 + 4 * k + 3) (by omega)
    by_cases h1 : v (276 + 4 * k) = 1
    · have hw2 := hwf.2
      rw [if_pos h1] at hw2
      have e1 := ih _ hw2
      rw [h1] at r0
      have ee : evN v w (f + 1) k = !evN v w f (v (276 + 4 * k + 1)) := by rw [evN, if_pos h1]
      rw [ee]
      simp (disch := omega) only [rX12_holds, f_X12_holds, ↓oo_m1, oo_0, oo_1, oo_2, oo_3, oo_4, oo_5, oo_6, oo_7, oo_8, oo_9, oo_10, oo_12, oo_13, oo_14, oo_15, oo_16, oo_17, oo_18, oo_20, oo_24, oo_30, oo_32, oo_36, oo_40, oo_41, oo_48, oo_50, oo_57, oo_59, oo_60, oo_61, oo_62, oo_63, oo_64, oo_66, oo_72, oo_78, oo_96, oo_97, oo_99, oo_100, oo_101, oo_105, oo_107, oo_108, oo_109, oo_110, oo_111, oo_112, oo_114, oo_115, oo_116, oo_117, oo_119, oo_122, oo_128, oo_130, oo_134, oo_135, oo_136, oo_137, oo_138, oo_139, oo_140, oo_141, oo_142, oo_143, oo_144, oo_145, oo_151, oo_157, oo_194, oo_200, oo_240, oo_255, oo_256, oo_274, oo_276, oo_300, oo_516, oo_900, oo_940, oo_941, oo_999, oo_1000, oo_1040, oo_10000, oo_add, oo_mul, oo_sub, oo_lt, oo_le, oo_eq, oo_nat, oo_div, oo_rem, oo_nn, nn_oo, oo_nnlt, nn_oolt, oo_nnle, nn_oole, ↓reduceIte, if_pos, if_neg, or_false, false_or, or_true, true_or, and_true, true_and, and_false, false_and, not_true_eq_false, not_false_eq_true, Nat.not_lt_zero, Bool.false_eq_true, Bool.true_eq_false, Option.bind_some, Option.bind_none, rf_188_1, rf_188_14, rf_188_15, rf_188_16, rf_188_17, rf_188_18, rf_188_19, rf_188_20, rf_188_21, rf_188_22, rf_188_24, rf_188_25, rf_188_26, rf_188_27, rf_188_28, rf_188_31, rf_188_32, rf_188_34, rf_188_35, rf_188_36, rf_188_37, rf_188_38, rf_188_42, rf_188_43, rf_188_51, rf_188_52, rf_188_53, rf_188_55, ln_190, r0, r1, e1]
      cases evN v w f (v (276 + 4 * k + 1)) <;> rfl
    by_cases h2 : v (276 + 4 * k) = 2
    · have hw2 := hwf.2
      rw [if_neg h1, if_pos h2] at hw2
      have e1 := ih _ hw2.1
      have e2 := ih _ hw2.2
      rw [h2] at r0
      have ee : evN v w (f + 1) k = (evN v w f (v (276 + 4 * k + 1)) && evN v w f (v (276 + 4 * k + 2))) := by rw [evN, if_neg h1, if_pos h2]
      rw [ee]
      simp (disch := omega) only [rX12_holds, f_X12_holds, ↓oo_m1, oo_0, oo_1, oo_2, oo_3, oo_4, oo_5, oo_6, oo_7, oo_8, oo_9, oo_10, oo_12, oo_13, oo_14, oo_15, oo_16, oo_17, oo_18, oo_20, oo_24, oo_30, oo_32, oo_36, oo_40, oo_41, oo_48, oo_50, oo_57, oo_59, oo_60, oo_61, oo_62, oo_63, oo_64, oo_66, oo_72, oo_78, oo_96, oo_97, oo_99, oo_100, oo_101, oo_105, oo_107, oo_108, oo_109, oo_110, oo_111, oo_112, oo_114, oo_115, oo_116, oo_117, oo_119, oo_122, oo_128, oo_130, oo_134, oo_135, oo_136, oo_137, oo_138, oo_139, oo_140, oo_141, oo_142, oo_143, oo_144, oo_145, oo_151, oo_157, oo_194, oo_200, oo_240, oo_255, oo_256, oo_274, oo_276, oo_300, oo_516, oo_900, oo_940, oo_941, oo_999, oo_1000, oo_1040, oo_10000, oo_add, oo_mul, oo_sub, oo_lt, oo_le, oo_eq, oo_nat, oo_div, oo_rem, oo_nn, nn_oo, oo_nnlt, nn_oolt, oo_nnle, nn_oole, ↓reduceIte, if_pos, if_neg, or_false, false_or, or_true, true_or, and_true, true_and, and_false, false_and, not_true_eq_false, not_false_eq_true, Nat.not_lt_zero, Bool.false_eq_true, Bool.true_eq_false, Option.bind_some, Option.bind_none, rf_188_1, rf_188_14, rf_188_15, rf_188_16, rf_188_17, rf_188_18, rf_188_19, rf_188_20, rf_188_21, rf_188_22, rf_188_24, rf_188_25, rf_188_26, rf_188_27, rf_188_28, rf_188_31, rf_188_32, rf_188_34, rf_188_35, rf_188_36, rf_188_37, rf_188_38, rf_188_42, rf_188_43, rf_188_51, rf_188_52, rf_188_53, rf_188_55, ln_190, r0, r1, r2, e1, e2]
      cases evN v w f (v (276 + 4 * k + 1)) <;> cases evN v w f (v (276 + 4 * k + 2)) <;> rfl
    by_cases h3 : v (276 + 4 * k) = 3
    · have hw2 := hwf.2
      rw [if_neg h1, if_neg h2, if_pos h3] at hw2
      have e1 := ih _ hw2.1
      have e2 := ih _ hw2.2
      rw [h3] at r0
      have ee : evN v w (f + 1) k = (evN v w f (v (276 + 4 * k + 1)) || evN v w f (v (276 + 4 * k + 2))) := by rw [evN, if_neg h1, if_neg h2, if_pos h3]
      rw [ee]
      simp (disch := omega) only [rX12_holds, f_X12_holds, ↓oo_m1, oo_0, oo_1, oo_2, oo_3, oo_4, oo_5, oo_6, oo_7, oo_8, oo_9, oo_10, oo_12, oo_13, oo_14, oo_15, oo_16, oo_17, oo_18, oo_20, oo_24, oo_30, oo_32, oo_36, oo_40, oo_41, oo_48, oo_50, oo_57, oo_59, oo_60, oo_61, oo_62, oo_63, oo_64, oo_66, oo_72, oo_78, oo_96, oo_97, oo_99, oo_100, oo_101, oo_105, oo_107, oo_108, oo_109, oo_110, oo_111, oo_112, oo_114, oo_115, oo_116, oo_117, oo_119, oo_122, oo_128, oo_130, oo_134, oo_135, oo_136, oo_137, oo_138, oo_139, oo_140, oo_141, oo_142, oo_143, oo_144, oo_145, oo_151, oo_157, oo_194, oo_200, oo_240, oo_255, oo_256, oo_274, oo_276, oo_300, oo_516, oo_900, oo_940, oo_941, oo_999, oo_1000, oo_1040, oo_10000, oo_add, oo_mul, oo_sub, oo_lt, oo_le, oo_eq, oo_nat, oo_div, oo_rem, oo_nn, nn_oo, oo_nnlt, nn_oolt, oo_nnle, nn_oole, ↓reduceIte, if_pos, if_neg, or_false, false_or, or_true, true_or, and_true, true_and, and_false, false_and, not_true_eq_false, not_false_eq_true, Nat.not_lt_zero, Bool.false_eq_true, Bool.true_eq_false, Option.bind_some, Option.bind_none, rf_188_1, rf_188_14, rf_188_15, rf_188_16, rf_188_17, rf_188_18, rf_188_19, rf_188_20, rf_188_21, rf_188_22, rf_188_24, rf_188_25, rf_188_26, rf_188_27, rf_188_28, rf_188_31, rf_188_32, rf_188_34, rf_188_35, rf_188_36, rf_188_37, rf_188_38, rf_188_42, rf_188_43, rf_188_51, rf_188_52, rf_188_53, rf_188_55, ln_190, r0, r1, r2, e1, e2]
      cases evN v w f (v (276 + 4 * k + 1)) <;> cases evN v w f (v (276 + 4 * k + 2)) <;> rfl
    have hw2 := hwf.2
    have ee : evN v w (f + 1) k = lfS v w ((postN v (f + 1) k).getD 0 (0, 0, 0)) := by rw [evN, if_neg h1, if_neg h2, if_neg h3]
    rw [ee, postN, if_neg h1, if_neg h2, if_neg h3]
    rw [if_neg h1, if_neg h2, if_neg h3] at hw2
    by_cases h4 : v (276 + 4 * k) = 60
    · rw [if_pos h4]
      rw [h4] at r0
      have e : lfS v w ([(140, 0, 0)].getD 0 (0, 0, 0)) = decide (su (coatG v (v (151 + w))) 6 = 0) := rfl
      rw [e]
      by_cases hz : su (coatG v (v (151 + w))) 6 = 0
      · rw [hz] at esu
        rw [decide_eq_true hz]
        simp (disch := omega) only [rX12_holds, f_X12_holds, ↓oo_m1, oo_0, oo_1, oo_2, oo_3, oo_4, oo_5, oo_6, oo_7, oo_8, oo_9, oo_10, oo_12, oo_13, oo_14, oo_15, oo_16, oo_17, oo_18, oo_20, oo_24, oo_30, oo_32, oo_36, oo_40, oo_41, oo_48, oo_50, oo_57, oo_59, oo_60, oo_61, oo_62, oo_63, oo_64, oo_66, oo_72, oo_78, oo_96, oo_97, oo_99, oo_100, oo_101, oo_105, oo_107, oo_108, oo_109, oo_110, oo_111, oo_112, oo_114, oo_115, oo_116, oo_117, oo_119, oo_122, oo_128, oo_130, oo_134, oo_135, oo_136, oo_137, oo_138, oo_139, oo_140, oo_141, oo_142, oo_143, oo_144, oo_145, oo_151, oo_157, oo_194, oo_200, oo_240, oo_255, oo_256, oo_274, oo_276, oo_300, oo_516, oo_900, oo_940, oo_941, oo_999, oo_1000, oo_1040, oo_10000, oo_add, oo_mul, oo_sub, oo_lt, oo_le, oo_eq, oo_nat, oo_div, oo_rem, oo_nn, nn_oo, oo_nnlt, nn_oolt, oo_nnle, nn_oole, ↓reduceIte, if_pos, if_neg, or_false, false_or, or_true, true_or, and_true, true_and, and_false, false_and, not_true_eq_false, not_false_eq_true, Nat.not_lt_zero, Bool.false_eq_true, Bool.true_eq_false, Option.bind_some, Option.bind_none, rf_188_1, rf_188_14, rf_188_15, rf_188_16, rf_188_17, rf_188_18, rf_188_19, rf_188_20, rf_188_21, rf_188_22, rf_188_24, rf_188_25, rf_188_26, rf_188_27, rf_188_28, rf_188_31, rf_188_32, rf_188_34, rf_188_35, rf_188_36, rf_188_37, rf_188_38, rf_188_42, rf_188_43, rf_188_51, rf_188_52, rf_188_53, rf_188_55, ln_190, r0, r1, r2, ew, esu]
      · rw [decide_eq_false hz]
        simp (disch := omega) only [rX12_holds, f_X12_holds, ↓oo_m1, oo_0, oo_1, oo_2, oo_3, oo_4, oo_5, oo_6, oo_7, oo_8, oo_9, oo_10, oo_12, oo_13, oo_14, oo_15, oo_16, oo_17, oo_18, oo_20, oo_24, oo_30, oo_32, oo_36, oo_40, oo_41, oo_48, oo_50, oo_57, oo_59, oo_60, oo_61, oo_62, oo_63, oo_64, oo_66, oo_72, oo_78, oo_96, oo_97, oo_99, oo_100, oo_101, oo_105, oo_107, oo_108, oo_109, oo_110, oo_111, oo_112, oo_114, oo_115, oo_116, oo_117, oo_119, oo_122, oo_128, oo_130, oo_134, oo_135, oo_136, oo_137, oo_138, oo_139, oo_140, oo_141, oo_142, oo_143, oo_144, oo_145, oo_151, oo_157, oo_194, oo_200, oo_240, oo_255, oo_256, oo_274, oo_276, oo_300, oo_516, oo_900, oo_940, oo_941, oo_999, oo_1000, oo_1040, oo_10000, oo_add, oo_mul, oo_sub, oo_lt, oo_le, oo_eq, oo_nat, oo_div, oo_rem, oo_nn, nn_oo, oo_nnlt, nn_oolt, oo_nnle, nn_oole, ↓reduceIte, if_pos, if_neg, or_false, false_or, or_true, true_or, and_true, true_and, and_false, false_and, not_true_eq_false, not_false_eq_true, Nat.not_lt_zero, Bool.false_eq_true, Bool.true_eq_false, Option.bind_some, Option.bind_none, rf_188_1, rf_188_14, rf_188_15, rf_188_16, rf_188_17, rf_188_18, rf_188_19, rf_188_20, rf_188_21, rf_188_22, rf_188_24, rf_188_25, rf_188_26, rf_188_27, rf_188_28, rf_188_31, rf_188_32, rf_188_34, rf_188_35, rf_188_36, rf_188_37, rf_188_38, rf_188_42, rf_188_43, rf_188_51, rf_188_52, rf_188_53, rf_188_55, ln_190, r0, r1, r2, ew, esu]
    rw [if_neg h4] at hw2 ⊢
    by_cases h5 : v (276 + 4 * k) = 61
    · rw [if_pos h5]
      rw [h5] at r0
      have e : lfS v w ([(141, 0, 0)].getD 0 (0, 0, 0)) = decide (v (151 + w) = w) := rfl
      rw [e]
      by_cases hz : v (151 + w) = w
      · rw [hz] at e151
        rw [decide_eq_true hz]
        simp (disch := omega) only [rX12_holds, f_X12_holds, ↓oo_m1, oo_0, oo_1, oo_2, oo_3, oo_4, oo_5, oo_6, oo_7, oo_8, oo_9, oo_10, oo_12, oo_13, oo_14, oo_15, oo_16, oo_17, oo_18, oo_20, oo_24, oo_30, oo_32, oo_36, oo_40, oo_41, oo_48, oo_50, oo_57, oo_59, oo_60, oo_61, oo_62, oo_63, oo_64, oo_66, oo_72, oo_78, oo_96, oo_97, oo_99, oo_100, oo_101, oo_105, oo_107, oo_108, oo_109, oo_110, oo_111, oo_112, oo_114, oo_115, oo_116, oo_117, oo_119, oo_122, oo_128, oo_130, oo_134, oo_135, oo_136, oo_137, oo_138, oo_139, oo_140, oo_141, oo_142, oo_143, oo_144, oo_145, oo_151, oo_157, oo_194, oo_200, oo_240, oo_255, oo_256, oo_274, oo_276, oo_300, oo_516, oo_900, oo_940, oo_941, oo_999, oo_1000, oo_1040, oo_10000, oo_add, oo_mul, oo_sub, oo_lt, oo_le, oo_eq, oo_nat, oo_div, oo_rem, oo_nn, nn_oo, oo_nnlt, nn_oolt, oo_nnle, nn_oole, ↓reduceIte, if_pos, if_neg, or_false, false_or, or_true, true_or, and_true, true_and, and_false, false_and, not_true_eq_false, not_false_eq_true, Nat.not_lt_zero, Bool.false_eq_true, Bool.true_eq_false, Option.bind_some, Option.bind_none, rf_188_1, rf_188_14, rf_188_15, rf_188_16, rf_188_17, rf_188_18, rf_188_19, rf_188_20, rf_188_21, rf_188_22, rf_188_24, rf_188_25, rf_188_26, rf_188_27, rf_188_28, rf_188_31, rf_188_32, rf_188_34, rf_188_35, rf_188_36, rf_188_37, rf_188_38, rf_188_42, rf_188_43, rf_188_51, rf_188_52, rf_188_53, rf_188_55, ln_190, r0, r1, r2, e151]
      · rw [decide_eq_false hz]
        simp (disch := omega) only [rX12_holds, f_X12_holds, ↓oo_m1, oo_0, oo_1, oo_2, oo_3, oo_4, oo_5, oo_6, oo_7, oo_8, oo_9, oo_10, oo_12, oo_13, oo_14, oo_15, oo_16, oo_17, oo_18, oo_20, oo_24, oo_30, oo_32, oo_36, oo_40, oo_41, oo_48, oo_50, oo_57, oo_59, oo_60, oo_61, oo_62, oo_63, oo_64, oo_66, oo_72, oo_78, oo_96, oo_97, oo_99, oo_100, oo_101, oo_105, oo_107, oo_108, oo_109, oo_110, oo_111, oo_112, oo_114, oo_115, oo_116, oo_117, oo_119, oo_122, oo_128, oo_130, oo_134, oo_135, oo_136, oo_137, oo_138, oo_139, oo_140, oo_141, oo_142, oo_143, oo_144, oo_145, oo_151, oo_157, oo_194, oo_200, oo_240, oo_255, oo_256, oo_274, oo_276, oo_300, oo_516, oo_900, oo_940, oo_941, oo_999, oo_1000, oo_1040, oo_10000, oo_add, oo_mul, oo_sub, oo_lt, oo_le, oo_eq, oo_nat, oo_div, oo_rem, oo_nn, nn_oo, oo_nnlt, nn_oolt, oo_nnle, nn_oole, ↓reduceIte, if_pos, if_neg, or_false, false_or, or_true, true_or, and_true, true_and, and_false, false_and, not_true_eq_false, not_false_eq_true, Nat.not_lt_zero, Bool.false_eq_true, Bool.true_eq_false, Option.bind_some, Option.bind_none, rf_188_1, rf_188_14, rf_188_15, rf_188_16, rf_188_17, rf_188_18, rf_188_19, rf_188_20, rf_188_21, rf_188_22, rf_188_24, rf_188_25, rf_188_26, rf_188_27, rf_188_28, rf_188_31, rf_188_32, rf_188_34, rf_188_35, rf_188_36, rf_188_37, rf_188_38, rf_188_42, rf_188_43, rf_188_51, rf_188_52, rf_188_53, rf_188_55, ln_190, r0, r1, r2, e151]
    rw [if_neg h5] at hw2 ⊢
    by_cases h6 : v (276 + 4 * k) = 62
    · rw [if_pos h6] at hw2 ⊢
      rw [h6] at r0
      have e : lfS v w ([(134, 0, v (276 + 4 * k + 1))].getD 0 (0, 0, 0)) = decide (v (145 + w) = v (276 + 4 * k + 1)) := rfl
      rw [e]
      by_cases hz : v (145 + w) = v (276 + 4 * k + 1)
      · rw [hz] at e145
        rw [decide_eq_true hz]
        simp (disch := omega) only [rX12_holds, f_X12_holds, ↓oo_m1, oo_0, oo_1, oo_2, oo_3, oo_4, oo_5, oo_6, oo_7, oo_8, oo_9, oo_10, oo_12, oo_13, oo_14, oo_15, oo_16, oo_17, oo_18, oo_20, oo_24, oo_30, oo_32, oo_36, oo_40, oo_41, oo_48, oo_50, oo_57, oo_59, oo_60, oo_61, oo_62, oo_63, oo_64, oo_66, oo_72, oo_78, oo_96, oo_97, oo_99, oo_100, oo_101, oo_105, oo_107, oo_108, oo_109, oo_110, oo_111, oo_112, oo_114, oo_115, oo_116, oo_117, oo_119, oo_122, oo_128, oo_130, oo_134, oo_135, oo_136, oo_137, oo_138, oo_139, oo_140, oo_141, oo_142, oo_143, oo_144, oo_145, oo_151, oo_157, oo_194, oo_200, oo_240, oo_255, oo_256, oo_274, oo_276, oo_300, oo_516, oo_900, oo_940, oo_941, oo_999, oo_1000, oo_1040, oo_10000, oo_add, oo_mul, oo_sub, oo_lt, oo_le, oo_eq, oo_nat, oo_div, oo_rem, oo_nn, nn_oo, oo_nnlt, nn_oolt, oo_nnle, nn_oole, ↓reduceIte, if_pos, if_neg, or_false, false_or, or_true, true_or, and_true, true_and, and_false, false_and, not_true_eq_false, not_false_eq_true, Nat.not_lt_zero, Bool.false_eq_true, Bool.true_eq_false, Option.bind_some, Option.bind_none, rf_188_1, rf_188_14, rf_188_15, rf_188_16, rf_188_17, rf_188_18, rf_188_19, rf_188_20, rf_188_21, rf_188_22, rf_188_24, rf_188_25, rf_188_26, rf_188_27, rf_188_28, rf_188_31, rf_188_32, rf_188_34, rf_188_35, rf_188_36, rf_188_37, rf_188_38, rf_188_42, rf_188_43, rf_188_51, rf_188_52, rf_188_53, rf_188_55, ln_190, r0, r1, r2, e145]
      · rw [decide_eq_false hz]
        simp (disch := omega) only [rX12_holds, f_X12_holds, ↓oo_m1, oo_0, oo_1, oo_2, oo_3, oo_4, oo_5, oo_6, oo_7, oo_8, oo_9, oo_10, oo_12, oo_13, oo_14, oo_15, oo_16, oo_17, oo_18, oo_20, oo_24, oo_30, oo_32, oo_36, oo_40, oo_41, oo_48, oo_50, oo_57, oo_59, oo_60, oo_61, oo_62, oo_63, oo_64, oo_66, oo_72, oo_78, oo_96, oo_97, oo_99, oo_100, oo_101, oo_105, oo_107, oo_108, oo_109, oo_110, oo_111, oo_112, oo_114, oo_115, oo_116, oo_117, oo_119, oo_122, oo_128, oo_130, oo_134, oo_135, oo_136, oo_137, oo_138, oo_139, oo_140, oo_141, oo_142, oo_143, oo_144, oo_145, oo_151, oo_157, oo_194, oo_200, oo_240, oo_255, oo_256, oo_274, oo_276, oo_300, oo_516, oo_900, oo_940, oo_941, oo_999, oo_1000, oo_1040, oo_10000, oo_add, oo_mul, oo_sub, oo_lt, oo_le, oo_eq, oo_nat, oo_div, oo_rem, oo_nn, nn_oo, oo_nnlt, nn_oolt, oo_nnle, nn_oole, ↓reduceIte, if_pos, if_neg, or_false, false_or, or_true, true_or, and_true, true_and, and_false, false_and, not_true_eq_false, not_false_eq_true, Nat.not_lt_zero, Bool.false_eq_true, Bool.true_eq_false, Option.bind_some, Option.bind_none, rf_188_1, rf_188_14, rf_188_15, rf_188_16, rf_188_17, rf_188_18, rf_188_19, rf_188_20, rf_188_21, rf_188_22, rf_188_24, rf_188_25, rf_188_26, rf_188_27, rf_188_28, rf_188_31, rf_188_32, rf_188_34, rf_188_35, rf_188_36, rf_188_37, rf_188_38, rf_188_42, rf_188_43, rf_188_51, rf_188_52, rf_188_53, rf_188_55, ln_190, r0, r1, r2, e145]
    rw [if_neg h6] at hw2 ⊢
    by_cases h7 : v (276 + 4 * k) = 63
    · rw [if_pos h7] at hw2 ⊢
      rw [h7] at r0
      have e : lfS v w ([(135, 0, v (276 + 4 * k + 1))].getD 0 (0, 0, 0)) = decide (0 < coatG v (v (151 + w)) (v (276 + 4 * k + 1))) := rfl
      have h99 := hcb _ hw2
      have ex := hcn _ hw2
      rw [e]
      by_cases hz : 0 < coatG v (v (151 + w)) (v (276 + 4 * k + 1))
      · rw [decide_eq_true hz]
        simp (disch := omega) only [rX12_holds, f_X12_holds, ↓oo_m1, oo_0, oo_1, oo_2, oo_3, oo_4, oo_5, oo_6, oo_7, oo_8, oo_9, oo_10, oo_12, oo_13, oo_14, oo_15, oo_16, oo_17, oo_18, oo_20, oo_24, oo_30, oo_32, oo_36, oo_40, oo_41, oo_48, oo_50, oo_57, oo_59, oo_60, oo_61, oo_62, oo_63, oo_64, oo_66, oo_72, oo_78, oo_96, oo_97, oo_99, oo_100, oo_101, oo_105, oo_107, oo_108, oo_109, oo_110, oo_111, oo_112, oo_114, oo_115, oo_116, oo_117, oo_119, oo_122, oo_128, oo_130, oo_134, oo_135, oo_136, oo_137, oo_138, oo_139, oo_140, oo_141, oo_142, oo_143, oo_144, oo_145, oo_151, oo_157, oo_194, oo_200, oo_240, oo_255, oo_256, oo_274, oo_276, oo_300, oo_516, oo_900, oo_940, oo_941, oo_999, oo_1000, oo_1040, oo_10000, oo_add, oo_mul, oo_sub, oo_lt, oo_le, oo_eq, oo_nat, oo_div, oo_rem, oo_nn, nn_oo, oo_nnlt, nn_oolt, oo_nnle, nn_oole, ↓reduceIte, if_pos, if_neg, or_false, false_or, or_true, true_or, and_true, true_and, and_false, false_and, not_true_eq_false, not_false_eq_true, Nat.not_lt_zero, Bool.false_eq_true, Bool.true_eq_false, Option.bind_some, Option.bind_none, rf_188_1, rf_188_14, rf_188_15, rf_188_16, rf_188_17, rf_188_18, rf_188_19, rf_188_20, rf_188_21, rf_188_22, rf_188_24, rf_188_25, rf_188_26, rf_188_27, rf_188_28, rf_188_31, rf_188_32, rf_188_34, rf_188_35, rf_188_36, rf_188_37, rf_188_38, rf_188_42, rf_188_43, rf_188_51, rf_188_52, rf_188_53, rf_188_55, ln_190, r0, r1, r2, ew, ex]
      · rw [decide_eq_false hz]
        simp (disch := omega) only [rX12_holds, f_X12_holds, ↓oo_m1, oo_0, oo_1, oo_2, oo_3, oo_4, oo_5, oo_6, oo_7, oo_8, oo_9, oo_10, oo_12, oo_13, oo_14, oo_15, oo_16, oo_17, oo_18, oo_20, oo_24, oo_30, oo_32, oo_36, oo_40, oo_41, oo_48, oo_50, oo_57, oo_59, oo_60, oo_61, oo_62, oo_63, oo_64, oo_66, oo_72, oo_78, oo_96, oo_97, oo_99, oo_100, oo_101, oo_105, oo_107, oo_108, oo_109, oo_110, oo_111, oo_112, oo_114, oo_115, oo_116, oo_117, oo_119, oo_122, oo_128, oo_130, oo_134, oo_135, oo_136, oo_137, oo_138, oo_139, oo_140, oo_141, oo_142, oo_143, oo_144, oo_145, oo_151, oo_157, oo_194, oo_200, oo_240, oo_255, oo_256, oo_274, oo_276, oo_300, oo_516, oo_900, oo_940, oo_941, oo_999, oo_1000, oo_1040, oo_10000, oo_add, oo_mul, oo_sub, oo_lt, oo_le, oo_eq, oo_nat, oo_div, oo_rem, oo_nn, nn_oo, oo_nnlt, nn_oolt, oo_nnle, nn_oole, ↓reduceIte, if_pos, if_neg, or_false, false_or, or_true, true_or, and_true, true_and, and_false, false_and, not_true_eq_false, not_false_eq_true, Nat.not_lt_zero, Bool.false_eq_true, Bool.true_eq_false, Option.bind_some, Option.bind_none, rf_188_1, rf_188_14, rf_188_15, rf_188_16, rf_188_17, rf_188_18, rf_188_19, rf_188_20, rf_188_21, rf_188_22, rf_188_24, rf_188_25, rf_188_26, rf_188_27, rf_188_28, rf_188_31, rf_188_32, rf_188_34, rf_188_35, rf_188_36, rf_188_37, rf_188_38, rf_188_42, rf_188_43, rf_188_51, rf_188_52, rf_188_53, rf_188_55, ln_190, r0, r1, r2, ew, ex]
    rw [if_neg h7] at hw2 ⊢
    obtain ⟨g1, g2, g3, g4, g5⟩ := hw2
    have key : ∀ (x z : Nat), x < 100000 → v (276 + 4 * k) = z → f_X12_valueOf 188 (oo (z - 50)) (oo w) S = some (oo x, S) → 64 ≤ z → z ≤ 66 → rX12_holds (f + 1) 188 (oo k) (oo w) S = some (cmpN x (v (276 + 4 * k + 3)) (v (276 + 4 * k + 2)), S) := fun x z hx hz hv hz1 hz2 => by
      rw [hz] at r0
      unfold cmpN
      rcases (show v (276 + 4 * k + 3) = 60 ∨ v (276 + 4 * k + 3) = 61 ∨ v (276 + 4 * k + 3) = 62 by omega) with h8 | h8 | h8
      · rw [h8] at r3 ⊢
        rw [if_pos rfl]
        by_cases hq : x < v (276 + 4 * k + 2)
        · rw [decide_eq_true hq]
          simp (disch := omega) only [rX12_holds, f_X12_holds, ↓oo_m1, oo_0, oo_1, oo_2, oo_3, oo_4, oo_5, oo_6, oo_7, oo_8, oo_9, oo_10, oo_12, oo_13, oo_14, oo_15, oo_16, oo_17, oo_18, oo_20, oo_24, oo_30, oo_32, oo_36, oo_40, oo_41, oo_48, oo_50, oo_57, oo_59, oo_60, oo_61, oo_62, oo_63, oo_64, oo_66, oo_72, oo_78, oo_96, oo_97, oo_99, oo_100, oo_101, oo_105, oo_107, oo_108, oo_109, oo_110, oo_111, oo_112, oo_114, oo_115, oo_116, oo_117, oo_119, oo_122, oo_128, oo_130, oo_134, oo_135, oo_136, oo_137, oo_138, oo_139, oo_140, oo_141, oo_142, oo_143, oo_144, oo_145, oo_151, oo_157, oo_194, oo_200, oo_240, oo_255, oo_256, oo_274, oo_276, oo_300, oo_516, oo_900, oo_940, oo_941, oo_999, oo_1000, oo_1040, oo_10000, oo_add, oo_mul, oo_sub, oo_lt, oo_le, oo_eq, oo_nat, oo_div, oo_rem, oo_nn, nn_oo, oo_nnlt, nn_oolt, oo_nnle, nn_oole, ↓reduceIte, if_pos, if_neg, or_false, false_or, or_true, true_or, and_true, true_and, and_false, false_and, not_true_eq_false, not_false_eq_true, Nat.not_lt_zero, Bool.false_eq_true, Bool.true_eq_false, Option.bind_some, Option.bind_none, rf_188_1, rf_188_14, rf_188_15, rf_188_16, rf_188_17, rf_188_18, rf_188_19, rf_188_20, rf_188_21, rf_188_22, rf_188_24, rf_188_25, rf_188_26, rf_188_27, rf_188_28, rf_188_31, rf_188_32, rf_188_34, rf_188_35, rf_188_36, rf_188_37, rf_188_38, rf_188_42, rf_188_43, rf_188_51, rf_188_52, rf_188_53, rf_188_55, ln_190, r0, r1, r2, r3, hv]
        · rw [decide_eq_false hq]
          simp (disch := omega) only [rX12_holds, f_X12_holds, ↓oo_m1, oo_0, oo_1, oo_2, oo_3, oo_4, oo_5, oo_6, oo_7, oo_8, oo_9, oo_10, oo_12, oo_13, oo_14, oo_15, oo_16, oo_17, oo_18, oo_20, oo_24, oo_30, oo_32, oo_36, oo_40, oo_41, oo_48, oo_50, oo_57, oo_59, oo_60, oo_61, oo_62, oo_63, oo_64, oo_66, oo_72, oo_78, oo_96, oo_97, oo_99, oo_100, oo_101, oo_105, oo_107, oo_108, oo_109, oo_110, oo_111, oo_112, oo_114, oo_115, oo_116, oo_117, oo_119, oo_122, oo_128, oo_130, oo_134, oo_135, oo_136, oo_137, oo_138, oo_139, oo_140, oo_141, oo_142, oo_143, oo_144, oo_145, oo_151, oo_157, oo_194, oo_200, oo_240, oo_255, oo_256, oo_274, oo_276, oo_300, oo_516, oo_900, oo_940, oo_941, oo_999, oo_1000, oo_1040, oo_10000, oo_add, oo_mul, oo_sub, oo_lt, oo_le, oo_eq, oo_nat, oo_div, oo_rem, oo_nn, nn_oo, oo_nnlt, nn_oolt, oo_nnle, nn_oole, ↓reduceIte, if_pos, if_neg, or_false, false_or, or_true, true_or, and_true, true_and, and_false, false_and, not_true_eq_false, not_false_eq_true, Nat.not_lt_zero, Bool.false_eq_true, Bool.true_eq_false, Option.bind_some, Option.bind_none, rf_188_1, rf_188_14, rf_188_15, rf_188_16, rf_188_17, rf_188_18, rf_188_19, rf_188_20, rf_188_21, rf_188_22, rf_188_24, rf_188_25, rf_188_26, rf_188_27, rf_188_28, rf_188_31, rf_188_32, rf_188_34, rf_188_35, rf_188_36, rf_188_37, rf_188_38, rf_188_42, rf_188_43, rf_188_51, rf_188_52, rf_188_53, rf_188_55, ln_190, r0, r1, r2, r3, hv]
      · rw [h8] at r3 ⊢
        rw [if_neg (by decide), if_neg (by decide)]
        by_cases hq : x = v (276 + 4 * k + 2)
        · rw [decide_eq_true hq]
          simp (disch := omega) only [rX12_holds, f_X12_holds, ↓oo_m1, oo_0, oo_1, oo_2, oo_3, oo_4, oo_5, oo_6, oo_7, oo_8, oo_9, oo_10, oo_12, oo_13, oo_14, oo_15, oo_16, oo_17, oo_18, oo_20, oo_24, oo_30, oo_32, oo_36, oo_40, oo_41, oo_48, oo_50, oo_57, oo_59, oo_60, oo_61, oo_62, oo_63, oo_64, oo_66, oo_72, oo_78, oo_96, oo_97, oo_99, oo_100, oo_101, oo_105, oo_107, oo_108, oo_109, oo_110, oo_111, oo_112, oo_114, oo_115, oo_116, oo_117, oo_119, oo_122, oo_128, oo_130, oo_134, oo_135, oo_136, oo_137, oo_138, oo_139, oo_140, oo_141, oo_142, oo_143, oo_144, oo_145, oo_151, oo_157, oo_194, oo_200, oo_240, oo_255, oo_256, oo_274, oo_276, oo_300, oo_516, oo_900, oo_940, oo_941, oo_999, oo_1000, oo_1040, oo_10000, oo_add, oo_mul, oo_sub, oo_lt, oo_le, oo_eq, oo_nat, oo_div, oo_rem, oo_nn, nn_oo, oo_nnlt, nn_oolt, oo_nnle, nn_oole, ↓reduceIte, if_pos, if_neg, or_false, false_or, or_true, true_or, and_true, true_and, and_false, false_and, not_true_eq_false, not_false_eq_true, Nat.not_lt_zero, Bool.false_eq_true, Bool.true_eq_false, Option.bind_some, Option.bind_none, rf_188_1, rf_188_14, rf_188_15, rf_188_16, rf_188_17, rf_188_18, rf_188_19, rf_188_20, rf_188_21, rf_188_22, rf_188_24, rf_188_25, rf_188_26, rf_188_27, rf_188_28, rf_188_31, rf_188_32, rf_188_34, rf_188_35, rf_188_36, rf_188_37, rf_188_38, rf_188_42, rf_188_43, rf_188_51, rf_188_52, rf_188_53, rf_188_55, ln_190, r0, r1, r2, r3, hv]
        · rw [decide_eq_false hq]
          simp (disch := omega) only [rX12_holds, f_X12_holds, ↓oo_m1, oo_0, oo_1, oo_2, oo_3, oo_4, oo_5, oo_6, oo_7, oo_8, oo_9, oo_10, oo_12, oo_13, oo_14, oo_15, oo_16, oo_17, oo_18, oo_20, oo_24, oo_30, oo_32, oo_36, oo_40, oo_41, oo_48, oo_50, oo_57, oo_59, oo_60, oo_61, oo_62, oo_63, oo_64, oo_66, oo_72, oo_78, oo_96, oo_97, oo_99, oo_100, oo_101, oo_105, oo_107, oo_108, oo_109, oo_110, oo_111, oo_112, oo_114, oo_115, oo_116, oo_117, oo_119, oo_122, oo_128, oo_130, oo_134, oo_135, oo_136, oo_137, oo_138, oo_139, oo_140, oo_141, oo_142, oo_143, oo_144, oo_145, oo_151, oo_157, oo_194, oo_200, oo_240, oo_255, oo_256, oo_274, oo_276, oo_300, oo_516, oo_900, oo_940, oo_941, oo_999, oo_1000, oo_1040, oo_10000, oo_add, oo_mul, oo_sub, oo_lt, oo_le, oo_eq, oo_nat, oo_div, oo_rem, oo_nn, nn_oo, oo_nnlt, nn_oolt, oo_nnle, nn_oole, ↓reduceIte, if_pos, if_neg, or_false, false_or, or_true, true_or, and_true, true_and, and_false, false_and, not_true_eq_false, not_false_eq_true, Nat.not_lt_zero, Bool.false_eq_true, Bool.true_eq_false, Option.bind_some, Option.bind_none, rf_188_1, rf_188_14, rf_188_15, rf_188_16, rf_188_17, rf_188_18, rf_188_19, rf_188_20, rf_188_21, rf_188_22, rf_188_24, rf_188_25, rf_188_26, rf_188_27, rf_188_28, rf_188_31, rf_188_32, rf_188_34, rf_188_35, rf_188_36, rf_188_37, rf_188_38, rf_188_42, rf_188_43, rf_188_51, rf_188_52, rf_188_53, rf_188_55, ln_190, r0, r1, r2, r3, hv]
      · rw [h8] at r3 ⊢
        rw [if_neg (by decide), if_pos rfl]
        by_cases hq : v (276 + 4 * k + 2) < x
        · rw [decide_eq_true hq]
          simp (disch := omega) only [rX12_holds, f_X12_holds, ↓oo_m1, oo_0, oo_1, oo_2, oo_3, oo_4, oo_5, oo_6, oo_7, oo_8, oo_9, oo_10, oo_12, oo_13, oo_14, oo_15, oo_16, oo_17, oo_18, oo_20, oo_24, oo_30, oo_32, oo_36, oo_40, oo_41, oo_48, oo_50, oo_57, oo_59, oo_60, oo_61, oo_62, oo_63, oo_64, oo_66, oo_72, oo_78, oo_96, oo_97, oo_99, oo_100, oo_101, oo_105, oo_107, oo_108, oo_109, oo_110, oo_111, oo_112, oo_114, oo_115, oo_116, oo_117, oo_119, oo_122, oo_128, oo_130, oo_134, oo_135, oo_136, oo_137, oo_138, oo_139, oo_140, oo_141, oo_142, oo_143, oo_144, oo_145, oo_151, oo_157, oo_194, oo_200, oo_240, oo_255, oo_256, oo_274, oo_276, oo_300, oo_516, oo_900, oo_940, oo_941, oo_999, oo_1000, oo_1040, oo_10000, oo_add, oo_mul, oo_sub, oo_lt, oo_le, oo_eq, oo_nat, oo_div, oo_rem, oo_nn, nn_oo, oo_nnlt, nn_oolt, oo_nnle, nn_oole, ↓reduceIte, if_pos, if_neg, or_false, false_or, or_true, true_or, and_true, true_and, and_false, false_and, not_true_eq_false, not_false_eq_true, Nat.not_lt_zero, Bool.false_eq_true, Bool.true_eq_false, Option.bind_some, Option.bind_none, rf_188_1, rf_188_14, rf_188_15, rf_188_16, rf_188_17, rf_188_18, rf_188_19, rf_188_20, rf_188_21, rf_188_22, rf_188_24, rf_188_25, rf_188_26, rf_188_27, rf_188_28, rf_188_31, rf_188_32, rf_188_34, rf_188_35, rf_188_36, rf_188_37, rf_188_38, rf_188_42, rf_188_43, rf_188_51, rf_188_52, rf_188_53, rf_188_55, ln_190, r0, r1, r2, r3, hv]
        · rw [decide_eq_false hq]
          simp (disch := omega) only [rX12_holds, f_X12_holds, ↓oo_m1, oo_0, oo_1, oo_2, oo_3, oo_4, oo_5, oo_6, oo_7, oo_8, oo_9, oo_10, oo_12, oo_13, oo_14, oo_15, oo_16, oo_17, oo_18, oo_20, oo_24, oo_30, oo_32, oo_36, oo_40, oo_41, oo_48, oo_50, oo_57, oo_59, oo_60, oo_61, oo_62, oo_63, oo_64, oo_66, oo_72, oo_78, oo_96, oo_97, oo_99, oo_100, oo_101, oo_105, oo_107, oo_108, oo_109, oo_110, oo_111, oo_112, oo_114, oo_115, oo_116, oo_117, oo_119, oo_122, oo_128, oo_130, oo_134, oo_135, oo_136, oo_137, oo_138, oo_139, oo_140, oo_141, oo_142, oo_143, oo_144, oo_145, oo_151, oo_157, oo_194, oo_200, oo_240, oo_255, oo_256, oo_274, oo_276, oo_300, oo_516, oo_900, oo_940, oo_941, oo_999, oo_1000, oo_1040, oo_10000, oo_add, oo_mul, oo_sub, oo_lt, oo_le, oo_eq, oo_nat, oo_div, oo_rem, oo_nn, nn_oo, oo_nnlt, nn_oolt, oo_nnle, nn_oole, ↓reduceIte, if_pos, if_neg, or_false, false_or, or_true, true_or, and_true, true_and, and_false, false_and, not_true_eq_false, not_false_eq_true, Nat.not_lt_zero, Bool.false_eq_true, Bool.true_eq_false, Option.bind_some, Option.bind_none, rf_188_1, rf_188_14, rf_188_15, rf_188_16, rf_188_17, rf_188_18, rf_188_19, rf_188_20, rf_188_21, rf_188_22, rf_188_24, rf_188_25, rf_188_26, rf_188_27, rf_188_28, rf_188_31, rf_188_32, rf_188_34, rf_188_35, rf_188_36, rf_188_37, rf_188_38, rf_188_42, rf_188_43, rf_188_51, rf_188_52, rf_188_53, rf_188_55, ln_190, r0, r1, r2, r3, hv]
    rcases (show v (276 + 4 * k) = 64 ∨ v (276 + 4 * k) = 65 ∨ v (276 + 4 * k) = 66 by omega) with h8 | h8 | h8
    · rw [key _ 64 (by omega) h8 v14 (by decide) (by decide), h8]
      rfl
    · rw [key _ 65 (by omega) h8 v15 (by decide) (by decide), h8]
      rfl
    · rw [key _ 66 (by omega) h8 v16 (by decide) (by decide), h8]
      rfl
/-- who it is said of, from the k-th on, c before it -/
def sdR (v : Nat → Nat) (i : Int32) (S : XS) : Nat → Nat → Nat → (Int32 × XS) ⊕ (Int32 × XS)
  | 0, _, c => .inr (oo c, S)
  | m + 1, k, c => if evN v k 64 (v 275) = true then (if oo c = i then .inl (oo k, S) else sdR v i S m (k + 1) (c + 1)) else sdR v i S m (k + 1) c
theorem saidL_c (hH : IsHill S 7 v) (hW : IsWd S 28 v) (hO : HOK v) (hS : SOK v) (hN : (postN v 64 (v 275)).length ≤ 40) (hl : S.1 36 3 = oo (postN v 64 (v 275)).length) (hwf : wfN v 64 (v 275)) (hat : stAt S 0 (postN v 64 (v 275))) {i : Int32} : ∀ m k n c, k + m = v 3 → m < n → f_X11_said_L21 0 i n (oo c) (oo k) S = some (sdR v i S m k c) := by
  obtain ⟨⟨b0, b1, b2, b3, b4, b5⟩, -⟩ := id hO
  have e8 : gat S 8 (oo 2) = oo (v 3) := by rw [g_8 (by decide), hH.n2]
  intro m
  induction m with
  | zero =>
    intro k n c hk hn
    obtain ⟨n, rfl⟩ : ∃ n', n = n' + 1 := ⟨n - 1, by omega⟩
    obtain rfl : k = v 3 := by omega
    rw [f_X11_said_L21, show rf (rf 0 1) 0 = 8 from rfl, show (2 : Int32) = oo 2 from rfl, e8, if_pos (Int32.le_refl _)]
    rfl
  | succ m ih =>
    intro k n c hk hn
    obtain ⟨n, rfl⟩ : ∃ n', n = n' + 1 := ⟨n - 1, by omega⟩
    have e := said_c hH hW hO hS (show k < v 3 by omega) hN hl hwf hat
    rw [f_X11_said_L21, show rf (rf 0 1) 0 = 8 from rfl, show (2 : Int32) = oo 2 from rfl, e8, if_neg (by rw [oo_le (by omega) (by omega)]; omega), show rf 0 4 = 36 from rfl, show rf 0 1 = 7 from rfl, show rf 0 3 = 28 from rfl, e, Option.bind_some]
    dsimp only
    rw [show (1 : Int32) = oo 1 from rfl, oo_add, oo_add, ih (k + 1) n (c + 1) (by omega) (by omega), ih (k + 1) n c (by omega) (by omega), sdR]
    split
    · split <;> rfl
    · rfl
theorem saidL_n (hN : IsC S 190 516 v) (hO : HOK v) (hS : SOK v) (hwf : wfN v 64 (v 275)) {i : Int32} : ∀ m k n c, k + m = v 3 → m < n → f_X12_said_L22 188 i n (oo c) (oo k) S = some (sdR v i S m k c) := by
  obtain ⟨⟨b0, b1, b2, b3, b4, b5⟩, -⟩ := id hO
  have e3 := hN 3 (by decide)
  have e275 := hN 275 (by decide)
  intro m
  induction m with
  | zero =>
    intro k n c hk hn
    obtain ⟨n, rfl⟩ : ∃ n', n = n' + 1 := ⟨n - 1, by omega⟩
    obtain rfl : k = v 3 := by omega
    rw [f_X12_said_L22, show rf 188 14 = 190 from rfl, e3, if_pos (Int32.le_refl _)]
    rfl
  | succ m ih =>
    intro k n c hk hn
    obtain ⟨n, rfl⟩ : ∃ n', n = n' + 1 := ⟨n - 1, by omega⟩
    have e := hold_n hN hO hS (show k < v 3 by omega) 64 (v 275) hwf
    rw [f_X12_said_L22, show rf 188 14 = 190 from rfl, e3, if_neg (by rw [oo_le (by omega) (by omega)]; omega), e275, e, Option.bind_some]
    dsimp only
    rw [show (1 : Int32) = oo 1 from rfl, oo_add, oo_add, ih (k + 1) n (c + 1) (by omega) (by omega), ih (k + 1) n c (by omega) (by omega), sdR]
    split
    · split <;> rfl
    · rfl
theorem sdR_neg {i : Int32} (h : i < nn) : ∀ m k c, c + m < 1000 → ∃ c', sdR v i S m k c = .inr (oo c', S) := by
  intro m
  induction m with
  | zero => intro k c _; exact ⟨c, rfl⟩
  | succ m ih =>
    intro k c hc
    have hne : ¬ oo c = i := fun q => by
      rw [← q, oo_nnlt (by omega)] at h
      exact h
    rw [sdR, if_neg hne]
    split
    · exact ih (k + 1) (c + 1) (by omega)
    · exact ih (k + 1) c (by omega)
theorem sdR_st {i : Int32} {T : XS} : ∀ m k c, (∃ z, sdR v i S m k c = .inl (z, S) ∧ sdR v i T m k c = .inl (z, T)) ∨ (∃ z, sdR v i S m k c = .inr (z, S) ∧ sdR v i T m k c = .inr (z, T)) := by
  intro m
  induction m with
  | zero => intro k c; exact .inr ⟨_, rfl, rfl⟩
  | succ m ih =>
    intro k c
    rw [sdR, sdR]
    split
    · split
      · exact .inl ⟨_, rfl, rfl⟩
      · exact ih _ _
    · exact ih _ _
end SD
theorem wf_pos {v : Nat → Nat} {f k : Nat} (h : wfN v f k) : 1 ≤ (postN v f k).length := by
  cases f with
  | zero => exact absurd h id
  | succ f =>
    by_cases h1 : v (276 + 4 * k) = 1
    · rw [postN, if_pos h1, List.length_append, List.length_singleton]
      omega
    by_cases h2 : v (276 + 4 * k) = 2
    · rw [postN, if_neg h1, if_pos h2, List.length_append, List.length_append, List.length_singleton]
      omega
    by_cases h3 : v (276 + 4 * k) = 3
    · rw [postN, if_neg h1, if_neg h2, if_pos h3, List.length_append, List.length_append, List.length_singleton]
      omega
    obtain ⟨q, ep, -⟩ := post_leaf h1 h2 h3 h
    rw [ep]
    exact Nat.le_refl 1
theorem ag_said : Ag_said Rel := by
  intro S hR i
  obtain ⟨hT, hFa, hK, ⟨v, hv, hP⟩, hKe, hNo, hWa, hC, hD, hX⟩ := id hR; obtain ⟨hN, hO, hS, hH, hW, hNm, hSe⟩ := id hv; obtain ⟨⟨b0, b1, b2, b3, b4, b5⟩, -⟩ := id hO
  have hN2 : IsC (sI S 188 0 (oo 0)) 190 516 v := hN.ne (by decide)
  rcases id hSe with ⟨h0, h3⟩ | ⟨h0, hwf, h40, h3, hrow⟩
  · have ha : f_X11_said 0 i S = some (nn, S) := by
      have : t_X6_isEmpty 36 S = true := by
        unfold t_X6_isEmpty
        rw [h3]
        rfl
      unfold f_X11_said
      rw [show rf 0 4 = 36 from rfl, this, if_pos rfl]
      split <;> rfl
    refine ⟨nn, S, sI S 188 0 (oo 0), ha, ?_, hR.fr (Fr.sIp (Fr.rf [(188, 0)] S) rfl) rfl rfl rfl rfl rfl⟩
    have e := hN2 274 (by decide)
    rw [h0] at e
    unfold f_X12_said
    rw [show rf 188 14 = 190 from rfl, show (0 : Int32) = oo 0 from rfl, e, if_pos rfl]
    rfl
  · have hpos := wf_pos hwf
    have hat : stAt S 0 (postN v 64 (v 275)) := fun j hj => by
      rw [Nat.zero_add]
      exact hrow j hj
    have hne : t_X6_isEmpty 36 S = false := by
      unfold t_X6_isEmpty
      rw [h3, if_neg (by rw [show (0 : Int32) = oo 0 from rfl, oo_eq (by omega) (by decide)]; omega)]
    have e1 := saidL_c hH hW hO hS h40 h3 hwf hat (i := i) (v 3) 0 1000000 0 (by omega) (by omega)
    have e2 := saidL_n hN2 hO hS hwf (i := i) (v 3) 0 1000000 0 (by omega) (by omega)
    have e := hN2 274 (by decide)
    rw [h0] at e
    have hc : f_X12_said 188 i S = (match sdR v i (sI S 188 0 (oo 0)) (v 3) 0 0 with | .inl r => some r | .inr (e7, S8) => (if i = (-1 : Int32) then some (e7, S8) else some ((-1 : Int32), S8))) := by
      unfold f_X12_said
      rw [show rf 188 14 = 190 from rfl, show (0 : Int32) = oo 0 from rfl, e, if_neg (by decide), e2, Option.bind_some]
      rfl
    by_cases hi : i < nn
    · obtain ⟨c', hc'⟩ := sdR_neg (v := v) (S := sI S 188 0 (oo 0)) hi (v 3) 0 0 (by omega)
      refine ⟨nn, S, sI S 188 0 (oo 0), ?_, ?_, hR.fr (Fr.sIp (Fr.rf [(188, 0)] S) rfl) rfl rfl rfl rfl rfl⟩
      · unfold f_X11_said
        rw [show (-1 : Int32) = nn from rfl, if_pos hi]
      · rw [hc, hc']
        dsimp only
        rw [if_neg (fun q => by
          rw [q] at hi
          exact Int32.lt_irrefl (a := nn) hi)]
        rfl
    · have hd : f_X11_said 0 i S = (match sdR v i S (v 3) 0 0 with | .inl r => some r | .inr (e8, S9) => (if i = (-1 : Int32) then some (e8, S9) else some ((-1 : Int32), S9))) := by
        unfold f_X11_said
        rw [if_neg (show ¬ i < (-1 : Int32) from hi), show rf 0 4 = 36 from rfl, hne, if_neg (by decide), show (0 : Int32) = oo 0 from rfl, e1, Option.bind_some]
        rfl
      rcases sdR_st (v := v) (i := i) (S := S) (T := sI S 188 0 (oo 0)) (v 3) 0 0 with ⟨z, z1, z2⟩ | ⟨z, z1, z2⟩
      · exact ⟨z, S, sI S 188 0 (oo 0), by rw [hd, z1], by rw [hc, z2], hR.fr (Fr.sIp (Fr.rf [(188, 0)] S) rfl) rfl rfl rfl rfl rfl⟩
      · by_cases hi2 : i = -1
        · exact ⟨z, S, sI S 188 0 (oo 0), by rw [hd, z1]; dsimp only; rw [if_pos hi2], by rw [hc, z2]; dsimp only; rw [if_pos hi2], hR.fr (Fr.sIp (Fr.rf [(188, 0)] S) rfl) rfl rfl rfl rfl rfl⟩
        · exact ⟨nn, S, sI S 188 0 (oo 0), by rw [hd, z1]; dsimp only; rw [if_neg hi2]; rfl, by rw [hc, z2]; dsimp only; rw [if_neg hi2]; rfl, hR.fr (Fr.sIp (Fr.rf [(188, 0)] S) rfl) rfl rfl rfl rfl rfl⟩
