/-! a COAT as a text -/
theorem gd_l {l m : List Nat} {j : Nat} (h : j < l.length) : (l ++ m).getD j 0 = l.getD j 0 := by
  rw [List.getD_eq_getElem?_getD, List.getElem?_append_left h, ← List.getD_eq_getElem?_getD]
theorem gd_last (l : List Nat) (b : Nat) : (l ++ [b]).getD l.length 0 = b := by
  rw [List.getD_eq_getElem?_getD, List.getElem?_append_right (Nat.le_refl _), Nat.sub_self]
  rfl
def HasT (S : XS) (a : Nat) (tx : List Nat) : Prop := ∀ j, j < tx.length → S.1 a j = oo (tx.getD j 0)
theorem HasT.push {S : XS} {a b : Nat} {tx : List Nat} (h : HasT S a tx) : HasT (sI S a tx.length (oo b)) a (tx ++ [b]) := fun j hj => by
  rw [List.length_append] at hj
  have hj : j < tx.length + 1 := hj
  by_cases e : j = tx.length
  · rw [e, sI_same, gd_last]
  · rw [sI_place e, h j (by omega), gd_l (by omega)]
def TxC (S T : XS) (tx : List Nat) : Prop := HasT T 187 tx ∧ T.1 0 19 = oo tx.length ∧ Fr [(187, 9999), (0, 19)] S T
def TxN (S T : XS) (tx : List Nat) : Prop := HasT T 214 tx ∧ T.1 188 54 = oo tx.length ∧ Fr [(214, 9999), (188, 54), (215, 9999)] S T
section WR
variable {S T : XS} {tx : List Nat}
theorem wb_c (h : TxC S T tx) {b : Nat} (hl : tx.length < 66) : TxC S (t_X11_writeByte 0 (oo b) T) (tx ++ [b]) := by
  obtain ⟨h1, h2, h3⟩ := h
  have e : t_X11_writeByte 0 (oo b) T = sI (sI T 187 tx.length (oo b)) 0 19 (oo (tx.length + 1)) := by
    have e1 : (if oo tx.length + oo 1 < oo 66 then oo tx.length + oo 1 else oo 66) = oo (tx.length + 1) := by
      rw [oo_add]
      by_cases h66 : tx.length + 1 < 66
      · rw [if_pos (by rw [oo_lt (by omega) (by decide)]; exact h66)]
      · rw [if_neg (by rw [oo_lt (by omega) (by decide)]; exact h66), show tx.length + 1 = 66 by omega]
    have e2 : (sI T 187 tx.length (oo b)).1 0 19 = oo tx.length := by rw [sI_cell (by decide)]; exact h2
    unfold t_X11_writeByte
    rw [show rf 0 18 = 187 from rfl, h2, p_187 hl, e2, show (1 : Int32) = oo 1 from rfl, show (66 : Int32) = oo 66 from rfl, e1]
  rw [e]
  refine ⟨fun j hj => ?_, ?_, Fr.sIp (Fr.sIr h3 rfl) rfl⟩
  · rw [sI_cell (by decide)]
    exact h1.push j hj
  · rw [sI_same, List.length_append]
    rfl
theorem put_n (h : TxN S T tx) {b : Nat} (hl : tx.length < 80) : ∃ U, f_X12_put 188 (oo b) T = some U ∧ TxN S U (tx ++ [b]) := by
  obtain ⟨h1, h2, h3⟩ := h
  refine ⟨sI (sI T 214 tx.length (oo b)) 188 54 (oo (tx.length + 1)), ?_, fun j hj => ?_, ?_, Fr.sIp (Fr.sIr h3 rfl) rfl⟩
  · simp (disch := omega) only [f_X12_put, ↓oo_m1, oo_0, oo_1, oo_2, oo_3, oo_4, oo_5, oo_6, oo_7, oo_8, oo_9, oo_10, oo_12, oo_13, oo_14, oo_15, oo_16, oo_17, oo_18, oo_20, oo_24, oo_30, oo_32, oo_36, oo_40, oo_41, oo_48, oo_50, oo_57, oo_59, oo_60, oo_61, oo_62, oo_63, oo_64, oo_66, oo_72, oo_78, oo_96, oo_97, oo_99, oo_100, oo_101, oo_105, oo_107, oo_108, oo_109, oo_110, oo_111, oo_112, oo_114, oo_115, oo_116, oo_117, oo_119, oo_122, oo_128, oo_130, oo_134, oo_135, oo_136, oo_137, oo_138, oo_139, oo_140, oo_141, oo_142, oo_143, oo_144, oo_145, oo_151, oo_157, oo_194, oo_200, oo_240, oo_255, oo_256, oo_274, oo_276, oo_300, oo_516, oo_900, oo_940, oo_941, oo_999, oo_1000, oo_1040, oo_10000, oo_add, oo_mul, oo_sub, oo_lt, oo_le, oo_eq, oo_nat, oo_div, oo_rem, oo_nn, nn_oo, oo_nnlt, nn_oolt, oo_nnle, nn_oole, ↓reduceIte, if_pos, if_neg, or_false, false_or, or_true, true_or, and_true, true_and, and_false, false_and, not_true_eq_false, not_false_eq_true, Nat.not_lt_zero, Bool.false_eq_true, Bool.true_eq_false, sI_same, sI_place, sI_cell, sI_long, sL_int, sL_same, sL_place, sL_cell, rf_188_1, rf_188_14, rf_188_15, rf_188_16, rf_188_17, rf_188_18, rf_188_19, rf_188_20, rf_188_21, rf_188_22, rf_188_24, rf_188_25, rf_188_26, rf_188_27, rf_188_28, rf_188_31, rf_188_32, rf_188_34, rf_188_35, rf_188_36, rf_188_37, rf_188_38, rf_188_42, rf_188_43, rf_188_51, rf_188_52, rf_188_53, rf_188_55, h2, ln_214]
  · rw [sI_cell (by decide)]
    exact h1.push j hj
  · rw [sI_same, List.length_append]
    rfl
def lets (l : List Nat) : List Nat := l.map (fun a => 96 + a)
theorem lets_len (l : List Nat) : (lets l).length = l.length := List.length_map ..
theorem lets_take {l : List Nat} {m : Nat} (h : m < l.length) : (lets (l.take (m + 1))).reverse = (96 + l.getD m 0) :: (lets (l.take m)).reverse := by
  unfold lets
  rw [List.take_succ, List.map_append, List.reverse_append, List.getD_eq_getElem?_getD, List.getElem?_eq_getElem h]
  rfl
theorem name_L {l : List Nat} (hl : isLs l) : ∀ m n (T : XS) (tx : List Nat), m ≤ 7 → m < n → TxC S T tx → tx.length + min m l.length ≤ 66 → ∃ U, f_X11_writeName_L3 0 (pk8 l) n (enc m) T = some U ∧ TxC S U (tx ++ (lets (l.take m)).reverse) := by
  intro m
  induction m with
  | zero =>
    intro n T tx _ hn h _
    obtain ⟨n, rfl⟩ : ∃ n', n = n' + 1 := ⟨n - 1, by omega⟩
    refine ⟨T, ?_, by rw [List.take_zero, show (lets []).reverse = [] from rfl, List.append_nil]; exact h⟩
    rw [enc_0, f_X11_writeName_L3, if_pos (by decide)]
  | succ m ih =>
    intro n T tx hm hn h hb
    obtain ⟨n, rfl⟩ : ∃ n', n = n' + 1 := ⟨n - 1, by omega⟩
    have hby := name_by hl (m := m) (by omega)
    have hnx : oo m + (-1) = enc m := oo_dec m
    rw [enc_s, f_X11_writeName_L3, if_neg (by rw [show (0 : Int32) = oo 0 from rfl, oo_lt (by omega) (by decide)]; omega), show (8 : Int32) = oo 8 from rfl, hby, hnx]
    by_cases hml : m < l.length
    · have e : byN l m = 96 + l.getD m 0 := by rw [byN, if_pos hml]
      rw [e]
      have h2 := wb_c h (b := 96 + l.getD m 0) (by omega)
      have hg : l.getD m 0 ≤ 26 := by
        rw [List.getD_eq_getElem?_getD, List.getElem?_eq_getElem hml]
        exact (hl.2 _ (List.getElem_mem hml)).2
      obtain ⟨U, u1, u2⟩ := ih n _ (tx ++ [96 + l.getD m 0]) (by omega) (by omega) h2 (by rw [List.length_append, List.length_singleton]; omega)
      refine ⟨U, ?_, ?_⟩
      · rw [if_neg (by rw [show (0 : Int32) = oo 0 from rfl, oo_eq (by omega) (by decide)]; omega)]
        exact u1
      · rw [lets_take hml]
        rw [List.append_assoc] at u2
        exact u2
    · have e : byN l m = 0 := by rw [byN, if_neg hml]
      rw [e, if_pos (show oo 0 = (0 : Int32) from rfl)]
      obtain ⟨U, u1, u2⟩ := ih n T tx (by omega) (by omega) h (by omega)
      refine ⟨U, u1, ?_⟩
      rw [List.take_of_length_le (by omega)] at u2 ⊢
      exact u2
theorem name_c {l : List Nat} (hl : isLs l) (h : TxC S T tx) (hb : tx.length + l.length ≤ 66) : ∃ U, f_X11_writeName 0 (pk8 l) T = some U ∧ TxC S U (tx ++ (lets l).reverse) := by
  obtain ⟨U, u1, u2⟩ := name_L hl 7 1000000 T tx (by decide) (by decide) h (by have := hl.1; omega)
  rw [List.take_of_length_le hl.1] at u2
  refine ⟨U, ?_, u2⟩
  rw [f_X11_writeName, show (6 : Int32) = enc 7 from rfl, u1]
  rfl
def numL (x : Nat) : List Nat := if x < 10 then [48 + x] else [48 + x / 10, 48 + x % 10]
theorem numL_len (x : Nat) : (numL x).length ≤ 2 := by
  unfold numL
  split
  · exact Nat.le_succ 1
  · exact Nat.le_refl 2
theorem num_c {x : Nat} (h : TxC S T tx) (hx : x ≤ 99) (hb : tx.length + 2 ≤ 66) : ∃ U, f_X11_writeNumber 0 (oo x) T = some U ∧ TxC S U (tx ++ numL x) := by
  unfold numL
  by_cases h10 : x < 10
  · rw [if_pos h10]
    refine ⟨_, ?_, wb_c h (by omega)⟩
    simp (disch := omega) only [f_X11_writeNumber, ↓oo_m1, oo_0, oo_1, oo_2, oo_3, oo_4, oo_5, oo_6, oo_7, oo_8, oo_9, oo_10, oo_12, oo_13, oo_14, oo_15, oo_16, oo_17, oo_18, oo_20, oo_24, oo_30, oo_32, oo_36, oo_40, oo_41, oo_48, oo_50, oo_57, oo_59, oo_60, oo_61, oo_62, oo_63, oo_64, oo_66, oo_72, oo_78, oo_96, oo_97, oo_99, oo_100, oo_101, oo_105, oo_107, oo_108, oo_109, oo_110, oo_111, oo_112, oo_114, oo_115, oo_116, oo_117, oo_119, oo_122, oo_128, oo_130, oo_134, oo_135, oo_136, oo_137, oo_138, oo_139, oo_140, oo_141, oo_142, oo_143, oo_144, oo_145, oo_151, oo_157, oo_194, oo_200, oo_240, oo_255, oo_256, oo_274, oo_276, oo_300, oo_516, oo_900, oo_940, oo_941, oo_999, oo_1000, oo_1040, oo_10000, oo_add, oo_mul, oo_sub, oo_lt, oo_le, oo_eq, oo_nat, oo_div, oo_rem, oo_nn, nn_oo, oo_nnlt, nn_oolt, oo_nnle, nn_oole, ↓reduceIte, if_pos, if_neg, or_false, false_or, or_true, true_or, and_true, true_and, and_false, false_and, not_true_eq_false, not_false_eq_true, Nat.not_lt_zero, Bool.false_eq_true, Bool.true_eq_false, Option.bind_some, Option.bind_none, Nat.mod_eq_of_lt h10]
  · rw [if_neg h10]
    have h2 := wb_c h (b := 48 + x / 10) (by omega)
    have h3 := wb_c h2 (b := 48 + x % 10) (by rw [List.length_append, List.length_singleton]; omega)
    rw [List.append_assoc] at h3
    refine ⟨_, ?_, h3⟩
    have e : x / 10 % 10 = x / 10 := Nat.mod_eq_of_lt (by omega)
    simp (disch := omega) only [f_X11_writeNumber, ↓oo_m1, oo_0, oo_1, oo_2, oo_3, oo_4, oo_5, oo_6, oo_7, oo_8, oo_9, oo_10, oo_12, oo_13, oo_14, oo_15, oo_16, oo_17, oo_18, oo_20, oo_24, oo_30, oo_32, oo_36, oo_40, oo_41, oo_48, oo_50, oo_57, oo_59, oo_60, oo_61, oo_62, oo_63, oo_64, oo_66, oo_72, oo_78, oo_96, oo_97, oo_99, oo_100, oo_101, oo_105, oo_107, oo_108, oo_109, oo_110, oo_111, oo_112, oo_114, oo_115, oo_116, oo_117, oo_119, oo_122, oo_128, oo_130, oo_134, oo_135, oo_136, oo_137, oo_138, oo_139, oo_140, oo_141, oo_142, oo_143, oo_144, oo_145, oo_151, oo_157, oo_194, oo_200, oo_240, oo_255, oo_256, oo_274, oo_276, oo_300, oo_516, oo_900, oo_940, oo_941, oo_999, oo_1000, oo_1040, oo_10000, oo_add, oo_mul, oo_sub, oo_lt, oo_le, oo_eq, oo_nat, oo_div, oo_rem, oo_nn, nn_oo, oo_nnlt, nn_oolt, oo_nnle, nn_oole, ↓reduceIte, if_pos, if_neg, or_false, false_or, or_true, true_or, and_true, true_and, and_false, false_and, not_true_eq_false, not_false_eq_true, Nat.not_lt_zero, Bool.false_eq_true, Bool.true_eq_false, Option.bind_some, Option.bind_none, e]
theorem let_n {x y z : Int32} : ∀ (l2 l1 : List Nat) n (T : XS), isLs l2 → l1.length + l2.length ≤ 7 → l2.length < n → (∀ j, j < l1.length → T.1 215 j = oo (96 + l1.getD j 0)) → ∃ U, f_X12_write_L57 x y 188 z n (oo l1.length) (pk27 l2) T = some (oo (l1.length + l2.length), U) ∧ (∀ j, j < l1.length + l2.length → U.1 215 j = oo (96 + (l1 ++ l2).getD j 0)) ∧ Fr [(215, 9999)] T U := by
  intro l2
  induction l2 with
  | nil =>
    intro l1 n T _ _ hn h
    obtain ⟨n, rfl⟩ : ∃ n', n = n' + 1 := ⟨n - 1, by omega⟩
    refine ⟨T, ?_, by rw [List.append_nil]; exact h, Fr.rf _ _⟩
    rw [f_X12_write_L57, if_pos (show lg_cmp (pk27 []) 0 ≤ 0 from (lg_cmp_le _ _).mpr (Int64.le_refl _))]
    rfl
  | cons a l2 ih =>
    intro l1 n T hls h7 hn h
    obtain ⟨n, rfl⟩ : ∃ n', n = n' + 1 := ⟨n - 1, by omega⟩
    obtain ⟨g1, g2, g3⟩ := hls.t
    have hkb := k27_b hls
    rw [List.length_cons] at h7 hn
    have ek : k27 (a :: l2) = k27 l2 * 27 + a := rfl
    have e1 : pk27 (a :: l2) / 27 = pk27 l2 := by
      rw [pk27_k _ hls, pk27_k _ g1, show (27 : Int64) = ll 27 from rfl, ll_div (by omega) (by decide)]
      congr 1
      omega
    have e2 : (rem64 (pk27 (a :: l2)) 27).toInt32 + (96 : Int32) = oo (96 + a) := by
      rw [pk27_k _ hls, show (27 : Int64) = ll 27 from rfl, ll_rem (by omega) (by decide), oo_ll, show (96 : Int32) = oo 96 from rfl, oo_add]
      congr 1
      omega
    have e3 : ¬ lg_cmp (pk27 (a :: l2)) 0 ≤ 0 := by
      rw [lg_cmp_le, pk27_k _ hls, show (0 : Int64) = ll 0 from rfl, ll_le (by omega) (by decide)]
      omega
    obtain ⟨U, u1, u2, u3⟩ := ih (l1 ++ [a]) n (sI T 215 l1.length (oo (96 + a))) g1 (by rw [List.length_append, List.length_singleton]; omega) (by omega) (fun j hj => by
      rw [List.length_append, List.length_singleton] at hj
      by_cases e : j = l1.length
      · rw [e, sI_same, gd_last]
      · rw [sI_place e, h j (by omega), gd_l (by omega)])
    rw [List.length_append, List.length_singleton] at u1 u2
    rw [List.append_assoc] at u2
    refine ⟨U, ?_, fun j hj => u2 j (by rw [List.length_cons] at hj; omega), Fr.trans (Fr.sIr (Fr.rf _ _) rfl) u3⟩
    rw [f_X12_write_L57, if_neg e3, e1, e2, show rf 188 53 = 215 from rfl, if_neg (by
      rw [ln_215]
      exact oo_inb (by omega) (by omega)), oo_nat (by omega), show (1 : Int32) = oo 1 from rfl, oo_add, u1, List.length_cons, Nat.add_right_comm, Nat.add_assoc]
theorem name_n {x y z : Int32} {l : List Nat} (hl : isLs l) : ∀ m n (T : XS) (tx : List Nat), m ≤ l.length → m < n → TxN S T tx → (∀ j, j < l.length → T.1 215 j = oo (96 + l.getD j 0)) → tx.length + m ≤ 80 → ∃ U, f_X12_write_L101 x y 188 z n (enc m) T = some U ∧ TxN S U (tx ++ (lets (l.take m)).reverse) := by
  have h7 := hl.1
  intro m
  induction m with
  | zero =>
    intro n T tx _ hn h _ _
    obtain ⟨n, rfl⟩ : ∃ n', n = n' + 1 := ⟨n - 1, by omega⟩
    refine ⟨T, ?_, by rw [List.take_zero, show (lets []).reverse = [] from rfl, List.append_nil]; exact h⟩
    rw [enc_0, f_X12_write_L101, if_pos (by decide)]
  | succ m ih =>
    intro n T tx hm hn h h215 hb
    obtain ⟨n, rfl⟩ : ∃ n', n = n' + 1 := ⟨n - 1, by omega⟩
    have hnx : oo m + (-1) = enc m := oo_dec m
    obtain ⟨W, w1, w2⟩ := put_n h (b := 96 + l.getD m 0) (by omega)
    have hW2 : Fr [(214, 9999), (188, 54)] T W := by
      have e : f_X12_put 188 (oo (96 + l.getD m 0)) T = some (sI (sI T 214 tx.length (oo (96 + l.getD m 0))) 188 54 (oo (tx.length + 1))) := by
        have h2 := h.2.1
        simp (disch := omega) only [f_X12_put, ↓oo_m1, oo_0, oo_1, oo_2, oo_3, oo_4, oo_5, oo_6, oo_7, oo_8, oo_9, oo_10, oo_12, oo_13, oo_14, oo_15, oo_16, oo_17, oo_18, oo_20, oo_24, oo_30, oo_32, oo_36, oo_40, oo_41, oo_48, oo_50, oo_57, oo_59, oo_60, oo_61, oo_62, oo_63, oo_64, oo_66, oo_72, oo_78, oo_96, oo_97, oo_99, oo_100, oo_101, oo_105, oo_107, oo_108, oo_109, oo_110, oo_111, oo_112, oo_114, oo_115, oo_116, oo_117, oo_119, oo_122, oo_128, oo_130, oo_134, oo_135, oo_136, oo_137, oo_138, oo_139, oo_140, oo_141, oo_142, oo_143, oo_144, oo_145, oo_151, oo_157, oo_194, oo_200, oo_240, oo_255, oo_256, oo_274, oo_276, oo_300, oo_516, oo_900, oo_940, oo_941, oo_999, oo_1000, oo_1040, oo_10000, oo_add, oo_mul, oo_sub, oo_lt, oo_le, oo_eq, oo_nat, oo_div, oo_rem, oo_nn, nn_oo, oo_nnlt, nn_oolt, oo_nnle, nn_oole, ↓reduceIte, if_pos, if_neg, or_false, false_or, or_true, true_or, and_true, true_and, and_false, false_and, not_true_eq_false, not_false_eq_true, Nat.not_lt_zero, Bool.false_eq_true, Bool.true_eq_false, sI_same, sI_place, sI_cell, sI_long, sL_int, sL_same, sL_place, sL_cell, rf_188_1, rf_188_14, rf_188_15, rf_188_16, rf_188_17, rf_188_18, rf_188_19, rf_188_20, rf_188_21, rf_188_22, rf_188_24, rf_188_25, rf_188_26, rf_188_27, rf_188_28, rf_188_31, rf_188_32, rf_188_34, rf_188_35, rf_188_36, rf_188_37, rf_188_38, rf_188_42, rf_188_43, rf_188_51, rf_188_52, rf_188_53, rf_188_55, h2, ln_214]
      rw [w1] at e
      rw [Option.some.inj e]
      exact Fr.sIp (Fr.sIr (Fr.rf _ _) rfl) rfl
    obtain ⟨U, u1, u2⟩ := ih n W (tx ++ [96 + l.getD m 0]) (by omega) (by omega) w2 (fun j hj => by rw [hW2.row (c := 215) rfl]; exact h215 j hj) (by rw [List.length_append, List.length_singleton]; omega)
    refine ⟨U, ?_, ?_⟩
    · rw [enc_s, f_X12_write_L101, if_neg (by rw [show (0 : Int32) = oo 0 from rfl, oo_lt (by omega) (by decide)]; omega), show rf 188 53 = 215 from rfl, if_neg (by
        rw [ln_215]
        exact oo_inb (by omega) (by omega)), oo_nat (by omega), h215 m (by omega), w1, Option.bind_some, hnx, u1]
    · rw [lets_take (by omega)]
      rw [List.append_assoc] at u2
      exact u2
theorem num_n {x : Nat} (h : TxN S T tx) (hx : x ≤ 99) (hb : tx.length + 2 ≤ 80) : ∃ W U, (if oo x ≤ (9 : Int32) then some T else ((f_X12_put 188 ((48 : Int32) + (oo x / (10 : Int32))) T).bind (fun S19 => some S19))) = some W ∧ f_X12_put 188 ((48 : Int32) + (rem32 (oo x) (10 : Int32))) W = some U ∧ TxN S U (tx ++ numL x) := by
  unfold numL
  by_cases h10 : x < 10
  · obtain ⟨U, u1, u2⟩ := put_n h (b := 48 + x) (by omega)
    rw [if_pos h10]
    refine ⟨T, U, ?_, ?_, u2⟩
    · simp (disch := omega) only [↓oo_m1, oo_0, oo_1, oo_2, oo_3, oo_4, oo_5, oo_6, oo_7, oo_8, oo_9, oo_10, oo_12, oo_13, oo_14, oo_15, oo_16, oo_17, oo_18, oo_20, oo_24, oo_30, oo_32, oo_36, oo_40, oo_41, oo_48, oo_50, oo_57, oo_59, oo_60, oo_61, oo_62, oo_63, oo_64, oo_66, oo_72, oo_78, oo_96, oo_97, oo_99, oo_100, oo_101, oo_105, oo_107, oo_108, oo_109, oo_110, oo_111, oo_112, oo_114, oo_115, oo_116, oo_117, oo_119, oo_122, oo_128, oo_130, oo_134, oo_135, oo_136, oo_137, oo_138, oo_139, oo_140, oo_141, oo_142, oo_143, oo_144, oo_145, oo_151, oo_157, oo_194, oo_200, oo_240, oo_255, oo_256, oo_274, oo_276, oo_300, oo_516, oo_900, oo_940, oo_941, oo_999, oo_1000, oo_1040, oo_10000, oo_add, oo_mul, oo_sub, oo_lt, oo_le, oo_eq, oo_nat, oo_div, oo_rem, oo_nn, nn_oo, oo_nnlt, nn_oolt, oo_nnle, nn_oole, ↓reduceIte, if_pos, if_neg, or_false, false_or, or_true, true_or, and_true, true_and, and_false, false_and, not_true_eq_false, not_false_eq_true, Nat.not_lt_zero, Bool.false_eq_true, Bool.true_eq_false]
    · simp (disch := omega) only [↓oo_m1, oo_0, oo_1, oo_2, oo_3, oo_4, oo_5, oo_6, oo_7, oo_8, oo_9, oo_10, oo_12, oo_13, oo_14, oo_15, oo_16, oo_17, oo_18, oo_20, oo_24, oo_30, oo_32, oo_36, oo_40, oo_41, oo_48, oo_50, oo_57, oo_59, oo_60, oo_61, oo_62, oo_63, oo_64, oo_66, oo_72, oo_78, oo_96, oo_97, oo_99, oo_100, oo_101, oo_105, oo_107, oo_108, oo_109, oo_110, oo_111, oo_112, oo_114, oo_115, oo_116, oo_117, oo_119, oo_122, oo_128, oo_130, oo_134, oo_135, oo_136, oo_137, oo_138, oo_139, oo_140, oo_141, oo_142, oo_143, oo_144, oo_145, oo_151, oo_157, oo_194, oo_200, oo_240, oo_255, oo_256, oo_274, oo_276, oo_300, oo_516, oo_900, oo_940, oo_941, oo_999, oo_1000, oo_1040, oo_10000, oo_add, oo_mul, oo_sub, oo_lt, oo_le, oo_eq, oo_nat, oo_div, oo_rem, oo_nn, nn_oo, oo_nnlt, nn_oolt, oo_nnle, nn_oole, Nat.mod_eq_of_lt h10, u1]
  · obtain ⟨W, w1, w2⟩ := put_n h (b := 48 + x / 10) (by omega)
    obtain ⟨U, u1, u2⟩ := put_n w2 (b := 48 + x % 10) (by rw [List.length_append, List.length_singleton]; omega)
    rw [if_neg h10]
    rw [List.append_assoc] at u2
    refine ⟨W, U, ?_, ?_, u2⟩
    · simp (disch := omega) only [↓oo_m1, oo_0, oo_1, oo_2, oo_3, oo_4, oo_5, oo_6, oo_7, oo_8, oo_9, oo_10, oo_12, oo_13, oo_14, oo_15, oo_16, oo_17, oo_18, oo_20, oo_24, oo_30, oo_32, oo_36, oo_40, oo_41, oo_48, oo_50, oo_57, oo_59, oo_60, oo_61, oo_62, oo_63, oo_64, oo_66, oo_72, oo_78, oo_96, oo_97, oo_99, oo_100, oo_101, oo_105, oo_107, oo_108, oo_109, oo_110, oo_111, oo_112, oo_114, oo_115, oo_116, oo_117, oo_119, oo_122, oo_128, oo_130, oo_134, oo_135, oo_136, oo_137, oo_138, oo_139, oo_140, oo_141, oo_142, oo_143, oo_144, oo_145, oo_151, oo_157, oo_194, oo_200, oo_240, oo_255, oo_256, oo_274, oo_276, oo_300, oo_516, oo_900, oo_940, oo_941, oo_999, oo_1000, oo_1040, oo_10000, oo_add, oo_mul, oo_sub, oo_lt, oo_le, oo_eq, oo_nat, oo_div, oo_rem, oo_nn, nn_oo, oo_nnlt, nn_oolt, oo_nnle, nn_oole, ↓reduceIte, if_pos, if_neg, or_false, false_or, or_true, true_or, and_true, true_and, and_false, false_and, not_true_eq_false, not_false_eq_true, Nat.not_lt_zero, Bool.false_eq_true, Bool.true_eq_false, Option.bind_some, Option.bind_none, w1]
    · simp (disch := omega) only [↓oo_m1, oo_0, oo_1, oo_2, oo_3, oo_4, oo_5, oo_6, oo_7, oo_8, oo_9, oo_10, oo_12, oo_13, oo_14, oo_15, oo_16, oo_17, oo_18, oo_20, oo_24, oo_30, oo_32, oo_36, oo_40, oo_41, oo_48, oo_50, oo_57, oo_59, oo_60, oo_61, oo_62, oo_63, oo_64, oo_66, oo_72, oo_78, oo_96, oo_97, oo_99, oo_100, oo_101, oo_105, oo_107, oo_108, oo_109, oo_110, oo_111, oo_112, oo_114, oo_115, oo_116, oo_117, oo_119, oo_122, oo_128, oo_130, oo_134, oo_135, oo_136, oo_137, oo_138, oo_139, oo_140, oo_141, oo_142, oo_143, oo_144, oo_145, oo_151, oo_157, oo_194, oo_200, oo_240, oo_255, oo_256, oo_274, oo_276, oo_300, oo_516, oo_900, oo_940, oo_941, oo_999, oo_1000, oo_1040, oo_10000, oo_add, oo_mul, oo_sub, oo_lt, oo_le, oo_eq, oo_nat, oo_div, oo_rem, oo_nn, nn_oo, oo_nnlt, nn_oolt, oo_nnle, nn_oole, u1]
end WR
/-- what stands behind the first k scents -/
def txN (d : Nat → List Nat) (g : Nat → Nat) : Nat → List Nat
  | 0 => []
  | k + 1 => txN d g k ++ (if g k = 0 then [] else (lets (d k)).reverse ++ ([32] ++ (numL (g k) ++ [59])))
theorem txN_len {d : Nat → List Nat} {g : Nat → Nat} : ∀ k, (∀ s, s < k → g s ≠ 0 → isLs (d s)) → (txN d g k).length ≤ 11 * k := by
  intro k
  induction k with
  | zero => intro _; exact Nat.le_refl 0
  | succ k ih =>
    intro h
    have h1 := ih (fun s hs => h s (by omega))
    rw [txN, List.length_append]
    by_cases h0 : g k = 0
    · rw [if_pos h0, List.length_nil]
      omega
    · have h2 := (h k (by omega) h0).1
      have h3 := numL_len (g k)
      rw [if_neg h0, List.length_append, List.length_reverse, lets_len, List.length_append, List.length_append, List.length_singleton, List.length_singleton]
      omega
section WR
variable {S : XS} {v : Nat → Nat} {d : Nat → List Nat} {w : Nat}
theorem write_c (hW : IsWd S 28 v) (hS : SOK v) (hO : HOK v) (hw : w < 6) (hd : ∀ s, s < 6 → coatG v w s ≠ 0 → isLs (d s) ∧ S.2 9 s = pk8 (d s)) : ∀ m k n T, k + m = 6 → m < n → TxC S T (txN d (coatG v w) k) → ∃ U, f_X11_write_L21 0 (oo w) n (oo k) T = some U ∧ TxC S U (txN d (coatG v w) 6) := by
  intro m
  induction m with
  | zero =>
    intro k n T hk hn h
    obtain ⟨n, rfl⟩ : ∃ n', n = n' + 1 := ⟨n - 1, by omega⟩
    obtain rfl : k = 6 := by omega
    exact ⟨T, by simp (disch := omega) only [f_X11_write_L21, ↓oo_m1, oo_0, oo_1, oo_2, oo_3, oo_4, oo_5, oo_6, oo_7, oo_8, oo_9, oo_10, oo_12, oo_13, oo_14, oo_15, oo_16, oo_17, oo_18, oo_20, oo_24, oo_30, oo_32, oo_36, oo_40, oo_41, oo_48, oo_50, oo_57, oo_59, oo_60, oo_61, oo_62, oo_63, oo_64, oo_66, oo_72, oo_78, oo_96, oo_97, oo_99, oo_100, oo_101, oo_105, oo_107, oo_108, oo_109, oo_110, oo_111, oo_112, oo_114, oo_115, oo_116, oo_117, oo_119, oo_122, oo_128, oo_130, oo_134, oo_135, oo_136, oo_137, oo_138, oo_139, oo_140, oo_141, oo_142, oo_143, oo_144, oo_145, oo_151, oo_157, oo_194, oo_200, oo_240, oo_255, oo_256, oo_274, oo_276, oo_300, oo_516, oo_900, oo_940, oo_941, oo_999, oo_1000, oo_1040, oo_10000, oo_add, oo_mul, oo_sub, oo_lt, oo_le, oo_eq, oo_nat, oo_div, oo_rem, oo_nn, nn_oo, oo_nnlt, nn_oolt, oo_nnle, nn_oole, ↓reduceIte, if_pos, if_neg, or_false, false_or, or_true, true_or, and_true, true_and, and_false, false_and, not_true_eq_false, not_false_eq_true, Nat.not_lt_zero, Bool.false_eq_true, Bool.true_eq_false], h⟩
  | succ m ih =>
    intro k n T hk hn h
    obtain ⟨n, rfl⟩ : ∃ n', n = n' + 1 := ⟨n - 1, by omega⟩
    have hF := h.2.2
    have hlen := txN_len (d := d) (g := coatG v w) k (fun s hs h0 => (hd s (by omega) h0).1)
    have hx := coat_b hS hw k (by omega)
    have eg : gat T 31 (oo (w * 6 + k)) = oo (coatG v w k) := by
      rw [g_31 (by omega), hF.row (c := 31) rfl, hW.ct w k hw (by omega)]
      rfl
    by_cases h0 : coatG v w k = 0
    · obtain ⟨U, u1, u2⟩ := ih (k + 1) n T (by omega) (by omega) (by rw [txN, if_pos h0, List.append_nil]; exact h)
      refine ⟨U, ?_, u2⟩
      simp (disch := omega) only [f_X11_write_L21, ↓oo_m1, oo_0, oo_1, oo_2, oo_3, oo_4, oo_5, oo_6, oo_7, oo_8, oo_9, oo_10, oo_12, oo_13, oo_14, oo_15, oo_16, oo_17, oo_18, oo_20, oo_24, oo_30, oo_32, oo_36, oo_40, oo_41, oo_48, oo_50, oo_57, oo_59, oo_60, oo_61, oo_62, oo_63, oo_64, oo_66, oo_72, oo_78, oo_96, oo_97, oo_99, oo_100, oo_101, oo_105, oo_107, oo_108, oo_109, oo_110, oo_111, oo_112, oo_114, oo_115, oo_116, oo_117, oo_119, oo_122, oo_128, oo_130, oo_134, oo_135, oo_136, oo_137, oo_138, oo_139, oo_140, oo_141, oo_142, oo_143, oo_144, oo_145, oo_151, oo_157, oo_194, oo_200, oo_240, oo_255, oo_256, oo_274, oo_276, oo_300, oo_516, oo_900, oo_940, oo_941, oo_999, oo_1000, oo_1040, oo_10000, oo_add, oo_mul, oo_sub, oo_lt, oo_le, oo_eq, oo_nat, oo_div, oo_rem, oo_nn, nn_oo, oo_nnlt, nn_oolt, oo_nnle, nn_oole, ↓reduceIte, if_pos, if_neg, or_false, false_or, or_true, true_or, and_true, true_and, and_false, false_and, not_true_eq_false, not_false_eq_true, Nat.not_lt_zero, Bool.false_eq_true, Bool.true_eq_false, rf_0_0, rf_0_1, rf_0_2, rf_0_3, rf_0_4, rf_0_5, rf_0_6, rf_0_7, rf_0_10, rf_0_11, rf_0_12, rf_0_13, rf_0_14, rf_0_15, rf_0_16, rf_0_17, rf_0_18, rf_28_1, rf_28_2, rf_28_3, rf_28_5, rf_28_6, rf_28_7, rf_28_8, eg, h0]
      exact u1
    · obtain ⟨d1, d2⟩ := hd k (by omega) h0
      have e0 : f_X2_nameOf 7 (oo 0) (oo k) T = some (pk8 (d k), T) := by
        simp (disch := omega) only [f_X2_nameOf, ↓oo_m1, oo_0, oo_1, oo_2, oo_3, oo_4, oo_5, oo_6, oo_7, oo_8, oo_9, oo_10, oo_12, oo_13, oo_14, oo_15, oo_16, oo_17, oo_18, oo_20, oo_24, oo_30, oo_32, oo_36, oo_40, oo_41, oo_48, oo_50, oo_57, oo_59, oo_60, oo_61, oo_62, oo_63, oo_64, oo_66, oo_72, oo_78, oo_96, oo_97, oo_99, oo_100, oo_101, oo_105, oo_107, oo_108, oo_109, oo_110, oo_111, oo_112, oo_114, oo_115, oo_116, oo_117, oo_119, oo_122, oo_128, oo_130, oo_134, oo_135, oo_136, oo_137, oo_138, oo_139, oo_140, oo_141, oo_142, oo_143, oo_144, oo_145, oo_151, oo_157, oo_194, oo_200, oo_240, oo_255, oo_256, oo_274, oo_276, oo_300, oo_516, oo_900, oo_940, oo_941, oo_999, oo_1000, oo_1040, oo_10000, oo_add, oo_mul, oo_sub, oo_lt, oo_le, oo_eq, oo_nat, oo_div, oo_rem, oo_nn, nn_oo, oo_nnlt, nn_oolt, oo_nnle, nn_oole, ↓reduceIte, if_pos, if_neg, or_false, false_or, or_true, true_or, and_true, true_and, and_false, false_and, not_true_eq_false, not_false_eq_true, Nat.not_lt_zero, Bool.false_eq_true, Bool.true_eq_false, rf_7_0, rf_7_1, rf_7_2, rf_7_3, rf_7_4, rf_7_5, rf_7_6, rf_7_7, ln_9, Nat.zero_mul, Nat.zero_add, hF.row2 (c := 9) rfl, d2]
      obtain ⟨T1, t1, t2⟩ := name_c d1 h (by have := d1.1; omega)
      have t3 := wb_c t2 (b := 32) (by rw [List.length_append, List.length_reverse, lets_len]; have := d1.1; omega)
      obtain ⟨T2, r1, r2⟩ := num_c t3 hx (by rw [List.length_append, List.length_append, List.length_reverse, lets_len, List.length_singleton]; have := d1.1; omega)
      have r3 := wb_c r2 (b := 59) (by
        have := d1.1
        have := numL_len (coatG v w k)
        rw [List.length_append, List.length_append, List.length_append, List.length_reverse, lets_len, List.length_singleton]
        omega)
      obtain ⟨U, u1, u2⟩ := ih (k + 1) n _ (by omega) (by omega) (by
        rw [txN, if_neg h0]
        rw [List.append_assoc, List.append_assoc, List.append_assoc] at r3
        exact r3)
      refine ⟨U, ?_, u2⟩
      simp (disch := omega) only [f_X11_write_L21, ↓oo_m1, oo_0, oo_1, oo_2, oo_3, oo_4, oo_5, oo_6, oo_7, oo_8, oo_9, oo_10, oo_12, oo_13, oo_14, oo_15, oo_16, oo_17, oo_18, oo_20, oo_24, oo_30, oo_32, oo_36, oo_40, oo_41, oo_48, oo_50, oo_57, oo_59, oo_60, oo_61, oo_62, oo_63, oo_64, oo_66, oo_72, oo_78, oo_96, oo_97, oo_99, oo_100, oo_101, oo_105, oo_107, oo_108, oo_109, oo_110, oo_111, oo_112, oo_114, oo_115, oo_116, oo_117, oo_119, oo_122, oo_128, oo_130, oo_134, oo_135, oo_136, oo_137, oo_138, oo_139, oo_140, oo_141, oo_142, oo_143, oo_144, oo_145, oo_151, oo_157, oo_194, oo_200, oo_240, oo_255, oo_256, oo_274, oo_276, oo_300, oo_516, oo_900, oo_940, oo_941, oo_999, oo_1000, oo_1040, oo_10000, oo_add, oo_mul, oo_sub, oo_lt, oo_le, oo_eq, oo_nat, oo_div, oo_rem, oo_nn, nn_oo, oo_nnlt, nn_oolt, oo_nnle, nn_oole, ↓reduceIte, if_pos, if_neg, or_false, false_or, or_true, true_or, and_true, true_and, and_false, false_and, not_true_eq_false, not_false_eq_true, Nat.not_lt_zero, Bool.false_eq_true, Bool.true_eq_false, Option.bind_some, Option.bind_none, rf_0_0, rf_0_1, rf_0_2, rf_0_3, rf_0_4, rf_0_5, rf_0_6, rf_0_7, rf_0_10, rf_0_11, rf_0_12, rf_0_13, rf_0_14, rf_0_15, rf_0_16, rf_0_17, rf_0_18, rf_28_1, rf_28_2, rf_28_3, rf_28_5, rf_28_6, rf_28_7, rf_28_8, eg, e0, t1, r1]
      exact u1
theorem write_n (hN : IsC S 190 516 v) (hS : SOK v) (hO : HOK v) (hw : w < 6) (hd : ∀ s, s < 6 → coatG v w s ≠ 0 → isLs (d s) ∧ S.2 195 s = pk27 (d s)) : ∀ m k n T, k + m = v 0 → m < n → TxN S T (txN d (coatG v w) k) → ∃ U, f_X12_write_L22 188 (oo w) n (oo k) T = some U ∧ TxN S U (txN d (coatG v w) (v 0)) := by
  obtain ⟨⟨b0, b1, b2, b3, b4, b5⟩, -⟩ := id hO
  intro m
  induction m with
  | zero =>
    intro k n T hk hn h
    obtain ⟨n, rfl⟩ : ∃ n', n = n' + 1 := ⟨n - 1, by omega⟩
    obtain rfl : k = v 0 := by omega
    have e9 : T.1 190 0 = oo (v 0) := by rw [h.2.2.row (c := 190) rfl]; exact hN 0 (by decide)
    exact ⟨T, by simp (disch := omega) only [f_X12_write_L22, ↓oo_m1, oo_0, oo_1, oo_2, oo_3, oo_4, oo_5, oo_6, oo_7, oo_8, oo_9, oo_10, oo_12, oo_13, oo_14, oo_15, oo_16, oo_17, oo_18, oo_20, oo_24, oo_30, oo_32, oo_36, oo_40, oo_41, oo_48, oo_50, oo_57, oo_59, oo_60, oo_61, oo_62, oo_63, oo_64, oo_66, oo_72, oo_78, oo_96, oo_97, oo_99, oo_100, oo_101, oo_105, oo_107, oo_108, oo_109, oo_110, oo_111, oo_112, oo_114, oo_115, oo_116, oo_117, oo_119, oo_122, oo_128, oo_130, oo_134, oo_135, oo_136, oo_137, oo_138, oo_139, oo_140, oo_141, oo_142, oo_143, oo_144, oo_145, oo_151, oo_157, oo_194, oo_200, oo_240, oo_255, oo_256, oo_274, oo_276, oo_300, oo_516, oo_900, oo_940, oo_941, oo_999, oo_1000, oo_1040, oo_10000, oo_add, oo_mul, oo_sub, oo_lt, oo_le, oo_eq, oo_nat, oo_div, oo_rem, oo_nn, nn_oo, oo_nnlt, nn_oolt, oo_nnle, nn_oole, ↓reduceIte, if_pos, if_neg, or_false, false_or, or_true, true_or, and_true, true_and, and_false, false_and, not_true_eq_false, not_false_eq_true, Nat.not_lt_zero, Bool.false_eq_true, Bool.true_eq_false, rf_188_1, rf_188_14, rf_188_15, rf_188_16, rf_188_17, rf_188_18, rf_188_19, rf_188_20, rf_188_21, rf_188_22, rf_188_24, rf_188_25, rf_188_26, rf_188_27, rf_188_28, rf_188_31, rf_188_32, rf_188_34, rf_188_35, rf_188_36, rf_188_37, rf_188_38, rf_188_42, rf_188_43, rf_188_51, rf_188_52, rf_188_53, rf_188_55, e9], h⟩
  | succ m ih =>
    intro k n T hk hn h
    obtain ⟨n, rfl⟩ : ∃ n', n = n' + 1 := ⟨n - 1, by omega⟩
    have hF := h.2.2
    have hlen := txN_len (d := d) (g := coatG v w) k (fun s hs h0 => (hd s (by omega) h0).1)
    have hx := coat_b hS hw k (by omega)
    have e9 : T.1 190 0 = oo (v 0) := by rw [hF.row (c := 190) rfl]; exact hN 0 (by decide)
    have eg : f_X12_onCoat 188 (oo w) (oo k) T = some (oo (coatG v w k), T) := by
      have e8 : T.1 190 (157 + 6 * w + k) = oo (coatG v w k) := by rw [hF.row (c := 190) rfl]; exact hN _ (by omega)
      simp (disch := omega) only [f_X12_onCoat, ↓oo_m1, oo_0, oo_1, oo_2, oo_3, oo_4, oo_5, oo_6, oo_7, oo_8, oo_9, oo_10, oo_12, oo_13, oo_14, oo_15, oo_16, oo_17, oo_18, oo_20, oo_24, oo_30, oo_32, oo_36, oo_40, oo_41, oo_48, oo_50, oo_57, oo_59, oo_60, oo_61, oo_62, oo_63, oo_64, oo_66, oo_72, oo_78, oo_96, oo_97, oo_99, oo_100, oo_101, oo_105, oo_107, oo_108, oo_109, oo_110, oo_111, oo_112, oo_114, oo_115, oo_116, oo_117, oo_119, oo_122, oo_128, oo_130, oo_134, oo_135, oo_136, oo_137, oo_138, oo_139, oo_140, oo_141, oo_142, oo_143, oo_144, oo_145, oo_151, oo_157, oo_194, oo_200, oo_240, oo_255, oo_256, oo_274, oo_276, oo_300, oo_516, oo_900, oo_940, oo_941, oo_999, oo_1000, oo_1040, oo_10000, oo_add, oo_mul, oo_sub, oo_lt, oo_le, oo_eq, oo_nat, oo_div, oo_rem, oo_nn, nn_oo, oo_nnlt, nn_oolt, oo_nnle, nn_oole, ↓reduceIte, if_pos, if_neg, or_false, false_or, or_true, true_or, and_true, true_and, and_false, false_and, not_true_eq_false, not_false_eq_true, Nat.not_lt_zero, Bool.false_eq_true, Bool.true_eq_false, rf_188_1, rf_188_14, rf_188_15, rf_188_16, rf_188_17, rf_188_18, rf_188_19, rf_188_20, rf_188_21, rf_188_22, rf_188_24, rf_188_25, rf_188_26, rf_188_27, rf_188_28, rf_188_31, rf_188_32, rf_188_34, rf_188_35, rf_188_36, rf_188_37, rf_188_38, rf_188_42, rf_188_43, rf_188_51, rf_188_52, rf_188_53, rf_188_55, ln_190, e8]
    by_cases h0 : coatG v w k = 0
    · obtain ⟨U, u1, u2⟩ := ih (k + 1) n T (by omega) (by omega) (by rw [txN, if_pos h0, List.append_nil]; exact h)
      refine ⟨U, ?_, u2⟩
      simp (disch := omega) only [f_X12_write_L22, ↓oo_m1, oo_0, oo_1, oo_2, oo_3, oo_4, oo_5, oo_6, oo_7, oo_8, oo_9, oo_10, oo_12, oo_13, oo_14, oo_15, oo_16, oo_17, oo_18, oo_20, oo_24, oo_30, oo_32, oo_36, oo_40, oo_41, oo_48, oo_50, oo_57, oo_59, oo_60, oo_61, oo_62, oo_63, oo_64, oo_66, oo_72, oo_78, oo_96, oo_97, oo_99, oo_100, oo_101, oo_105, oo_107, oo_108, oo_109, oo_110, oo_111, oo_112, oo_114, oo_115, oo_116, oo_117, oo_119, oo_122, oo_128, oo_130, oo_134, oo_135, oo_136, oo_137, oo_138, oo_139, oo_140, oo_141, oo_142, oo_143, oo_144, oo_145, oo_151, oo_157, oo_194, oo_200, oo_240, oo_255, oo_256, oo_274, oo_276, oo_300, oo_516, oo_900, oo_940, oo_941, oo_999, oo_1000, oo_1040, oo_10000, oo_add, oo_mul, oo_sub, oo_lt, oo_le, oo_eq, oo_nat, oo_div, oo_rem, oo_nn, nn_oo, oo_nnlt, nn_oolt, oo_nnle, nn_oole, ↓reduceIte, if_pos, if_neg, or_false, false_or, or_true, true_or, and_true, true_and, and_false, false_and, not_true_eq_false, not_false_eq_true, Nat.not_lt_zero, Bool.false_eq_true, Bool.true_eq_false, Option.bind_some, Option.bind_none, rf_188_1, rf_188_14, rf_188_15, rf_188_16, rf_188_17, rf_188_18, rf_188_19, rf_188_20, rf_188_21, rf_188_22, rf_188_24, rf_188_25, rf_188_26, rf_188_27, rf_188_28, rf_188_31, rf_188_32, rf_188_34, rf_188_35, rf_188_36, rf_188_37, rf_188_38, rf_188_42, rf_188_43, rf_188_51, rf_188_52, rf_188_53, rf_188_55, e9, eg, h0]
      exact u1
    · obtain ⟨d1, d2⟩ := hd k (by omega) h0
      have d7 := d1.1
      obtain ⟨T0, q1, q2, q3⟩ := let_n (x := oo (coatG v w k)) (y := oo k) (z := oo w) (d k) [] 1000000 T d1 (by rw [List.length_nil]; omega) (by omega) (fun j hj => absurd hj (Nat.not_lt_zero _))
      rw [List.length_nil, Nat.zero_add] at q1 q2
      rw [List.nil_append] at q2
      have h' : TxN S T0 (txN d (coatG v w) k) := ⟨fun j hj => by rw [q3.row (c := 214) rfl]; exact h.1 j hj, by rw [q3.get rfl]; exact h.2.1, Fr.trans h.2.2 (q3.mono rfl)⟩
      have hlp : oo (d k).length - oo 1 = enc (d k).length := by
        cases d k with
        | nil => rfl
        | cons a l => rw [List.length_cons, enc_s, oo_sub (by omega), Nat.add_sub_cancel]
      obtain ⟨T1, t1, t2⟩ := name_n (x := oo (coatG v w k)) (y := oo k) (z := oo w) d1 (d k).length 1000000 T0 _ (Nat.le_refl _) (by omega) h' q2 (by omega)
      rw [List.take_of_length_le (Nat.le_refl _)] at t2
      obtain ⟨T2, s1, s2⟩ := put_n t2 (b := 32) (by rw [List.length_append, List.length_reverse, lets_len]; omega)
      obtain ⟨T2', T3, r0, r1, r2⟩ := num_n s2 hx (by rw [List.length_append, List.length_append, List.length_reverse, lets_len, List.length_singleton]; omega)
      obtain ⟨T4, p1, p2⟩ := put_n r2 (b := 59) (by
        have := numL_len (coatG v w k)
        rw [List.length_append, List.length_append, List.length_append, List.length_reverse, lets_len, List.length_singleton]
        omega)
      obtain ⟨U, u1, u2⟩ := ih (k + 1) n T4 (by omega) (by omega) (by
        rw [txN, if_neg h0]
        rw [List.append_assoc, List.append_assoc, List.append_assoc] at p2
        exact p2)
      refine ⟨U, ?_, u2⟩
      have ed : T.2 195 k = pk27 (d k) := by rw [hF.row2 (c := 195) rfl]; exact d2
      rw [f_X12_write_L22, show rf 188 14 = 190 from rfl, e9, if_neg (by rw [oo_le (by omega) (by omega)]; omega), eg, Option.bind_some]
      dsimp only
      rw [if_neg (by rw [show (0 : Int32) = oo 0 from rfl, oo_eq (by omega) (by decide)]; exact h0), show rf 188 19 = 195 from rfl, if_neg (by
        rw [ln_195]
        exact oo_inb (by omega) (by omega)), oo_nat (by omega), ed, show (0 : Int32) = oo 0 from rfl, q1, Option.bind_some]
      dsimp only
      rw [show (1 : Int32) = oo 1 from rfl, hlp, t1, Option.bind_some, show (32 : Int32) = oo 32 from rfl, s1, Option.bind_some]
      rw [r0, Option.bind_some, r1, Option.bind_some, show (59 : Int32) = oo 59 from rfl, p1, Option.bind_some, oo_add, u1]
end WR
theorem tx_rel {S T : XS} (hR : Rel S) (hF : Fr [(187, 9999), (0, 19), (188, 0), (214, 9999), (188, 54), (215, 9999)] S T) (hX : RTxt T) : Rel T := by
  obtain ⟨a1, a2, a3, ⟨v, hv, hP⟩, a6, a7, a8, a9, a10, a11⟩ := hR
  exact ⟨a1.fr hF rfl, a2.fr hF rfl, a3.fr hF rfl, ⟨v, hv.fr hF rfl rfl rfl rfl, hP.fr hF rfl rfl⟩, a6.fr hF rfl rfl, a7.fr hF rfl, a8.fr hF rfl, a9.fr hF rfl, a10.fr hF rfl, hX⟩
theorem ag_write : Ag_write Rel := by
  intro S hR i
  obtain ⟨hT, hFa, hK, ⟨v, hv, hP⟩, hKe, hNo, hWa, hC, hD, hX⟩ := id hR; obtain ⟨hN, hO, hS, hH, hW, hNm, hSe⟩ := id hv; obtain ⟨⟨b0, b1, b2, b3, b4, b5⟩, -⟩ := id hO
  rcases rng2 i (v 3) (by omega) with ⟨w, hw, rfl⟩ | hx0
  · obtain ⟨d, hd⟩ := id hNm
    have hd1 : ∀ s, s < 6 → coatG v w s ≠ 0 → isLs (d s) ∧ S.2 9 s = pk8 (d s) ∧ S.2 195 s = pk27 (d s) := fun s hs h0 => by
      have h1 := (hd s (by omega)).1
      rw [Nat.mod_eq_of_lt hs, Nat.div_eq_of_lt hs] at h1
      obtain ⟨h2, h3, h4⟩ := h1 (by
        show s < v 0
        rcases Nat.lt_or_ge s (v 0) with q | q
        · exact q
        · exact absurd ((hS.2.2.2.1 w s (by omega) hs).2 q) h0)
      exact ⟨h2.ls, h3, h4⟩
    have hz : txN d (coatG v w) 6 = txN d (coatG v w) (v 0) := by
      have : ∀ m, v 0 + m ≤ 6 → txN d (coatG v w) (v 0 + m) = txN d (coatG v w) (v 0) := fun m => by
        induction m with
        | zero => intro _; rfl
        | succ m ih =>
          intro hm
          show txN d (coatG v w) (v 0 + m + 1) = _
          have hz0 : coatG v w (v 0 + m) = 0 := (hS.2.2.2.1 w (v 0 + m) (by omega) (by omega)).2 (by omega)
          rw [txN, if_pos hz0, List.append_nil]
          exact ih (by omega)
      have := this (6 - v 0) (by omega)
      rwa [show v 0 + (6 - v 0) = 6 by omega] at this
    have hlen := txN_len (d := d) (g := coatG v w) 6 (fun s hs h0 => (hd1 s hs h0).1)
    obtain ⟨T, t1, t2, t3, t4⟩ := write_c (d := d) (w := w) hW hS hO (by omega) (fun s hs h0 => ⟨(hd1 s hs h0).1, (hd1 s hs h0).2.1⟩) 6 0 1000000 (sI S 0 19 (oo 0)) rfl (by decide) ⟨fun j hj => absurd hj (Nat.not_lt_zero _), sI_same _ _ _ _, Fr.sIp (Fr.rf _ _) rfl⟩
    have hN2 : IsC (sI T 188 0 (oo 0)) 190 516 v := (hN.cell (t4.row (c := 190) rfl)).ne (by decide)
    obtain ⟨U, u1, u2, u3, u4⟩ := write_n (S := sI T 188 0 (oo 0)) (d := d) (w := w) hN2 hS hO (by omega) (fun s hs h0 => ⟨(hd1 s hs h0).1, by rw [sI_long, t4.row2 (c := 195) rfl]; exact (hd1 s hs h0).2.2⟩) (v 0) 0 1000000 (sI (sI T 188 0 (oo 0)) 188 54 (oo 0)) (by omega) (by omega) ⟨fun j hj => absurd hj (Nat.not_lt_zero _), sI_same _ _ _ _, Fr.sIp (Fr.rf _ _) rfl⟩
    have hF : Fr [(187, 9999), (0, 19), (188, 0), (214, 9999), (188, 54), (215, 9999)] S U := Fr.trans (Fr.sIp (t4.mono rfl) rfl) (u4.mono rfl)
    have e187 : U.1 187 = T.1 187 := by rw [u4.row (c := 187) rfl, sI_cell (by decide)]
    have e19 : U.1 0 19 = oo (txN d (coatG v w) 6).length := by rw [u4.get (c := 0) (j := 19) rfl, sI_cell (by decide)]; exact t3
    rw [← hz] at u2 u3
    refine ⟨oo (txN d (coatG v w) 6).length, T, U, ?_, ?_, tx_rel hR hF ⟨_, hlen, e19, u3, fun j hj => by rw [e187, t2 j hj, u2 j hj]⟩⟩
    · have hh : t_X2_has 7 (oo 2) (oo w) S = true := by simp (disch := omega) only [t_X2_has, ↓oo_m1, oo_0, oo_1, oo_2, oo_3, oo_4, oo_5, oo_6, oo_7, oo_8, oo_9, oo_10, oo_12, oo_13, oo_14, oo_15, oo_16, oo_17, oo_18, oo_20, oo_24, oo_30, oo_32, oo_36, oo_40, oo_41, oo_48, oo_50, oo_57, oo_59, oo_60, oo_61, oo_62, oo_63, oo_64, oo_66, oo_72, oo_78, oo_96, oo_97, oo_99, oo_100, oo_101, oo_105, oo_107, oo_108, oo_109, oo_110, oo_111, oo_112, oo_114, oo_115, oo_116, oo_117, oo_119, oo_122, oo_128, oo_130, oo_134, oo_135, oo_136, oo_137, oo_138, oo_139, oo_140, oo_141, oo_142, oo_143, oo_144, oo_145, oo_151, oo_157, oo_194, oo_200, oo_240, oo_255, oo_256, oo_274, oo_276, oo_300, oo_516, oo_900, oo_940, oo_941, oo_999, oo_1000, oo_1040, oo_10000, oo_add, oo_mul, oo_sub, oo_lt, oo_le, oo_eq, oo_nat, oo_div, oo_rem, oo_nn, nn_oo, oo_nnlt, nn_oolt, oo_nnle, nn_oole, ↓reduceIte, if_pos, if_neg, or_false, false_or, or_true, true_or, and_true, true_and, and_false, false_and, not_true_eq_false, not_false_eq_true, Nat.not_lt_zero, Bool.false_eq_true, Bool.true_eq_false, rf_7_0, rf_7_1, rf_7_2, rf_7_3, rf_7_4, rf_7_5, rf_7_6, rf_7_7, g_8, p_8, hH.n2]
      unfold f_X11_write
      rw [show rf 0 1 = 7 from rfl, show (2 : Int32) = oo 2 from rfl, hh, if_pos rfl, show (0 : Int32) = oo 0 from rfl, t1, Option.bind_some, t3]
    · have hh : t_X12_isWitness 188 (oo w) (sI T 188 0 (oo 0)) = true := by
        have := hN2 3 (by decide)
        simp (disch := omega) only [t_X12_isWitness, ↓oo_m1, oo_0, oo_1, oo_2, oo_3, oo_4, oo_5, oo_6, oo_7, oo_8, oo_9, oo_10, oo_12, oo_13, oo_14, oo_15, oo_16, oo_17, oo_18, oo_20, oo_24, oo_30, oo_32, oo_36, oo_40, oo_41, oo_48, oo_50, oo_57, oo_59, oo_60, oo_61, oo_62, oo_63, oo_64, oo_66, oo_72, oo_78, oo_96, oo_97, oo_99, oo_100, oo_101, oo_105, oo_107, oo_108, oo_109, oo_110, oo_111, oo_112, oo_114, oo_115, oo_116, oo_117, oo_119, oo_122, oo_128, oo_130, oo_134, oo_135, oo_136, oo_137, oo_138, oo_139, oo_140, oo_141, oo_142, oo_143, oo_144, oo_145, oo_151, oo_157, oo_194, oo_200, oo_240, oo_255, oo_256, oo_274, oo_276, oo_300, oo_516, oo_900, oo_940, oo_941, oo_999, oo_1000, oo_1040, oo_10000, oo_add, oo_mul, oo_sub, oo_lt, oo_le, oo_eq, oo_nat, oo_div, oo_rem, oo_nn, nn_oo, oo_nnlt, nn_oolt, oo_nnle, nn_oole, ↓reduceIte, if_pos, if_neg, or_false, false_or, or_true, true_or, and_true, true_and, and_false, false_and, not_true_eq_false, not_false_eq_true, Nat.not_lt_zero, Bool.false_eq_true, Bool.true_eq_false, rf_188_1, rf_188_14, rf_188_15, rf_188_16, rf_188_17, rf_188_18, rf_188_19, rf_188_20, rf_188_21, rf_188_22, rf_188_24, rf_188_25, rf_188_26, rf_188_27, rf_188_28, rf_188_31, rf_188_32, rf_188_34, rf_188_35, rf_188_36, rf_188_37, rf_188_38, rf_188_42, rf_188_43, rf_188_51, rf_188_52, rf_188_53, rf_188_55, this]
      unfold f_X12_write
      rw [show (0 : Int32) = oo 0 from rfl, hh, if_pos rfl, u1, Option.bind_some, u3]
  · refine ⟨nn, S, sI S 188 0 (oo 0), ?_, ?_, hR.fr (Fr.sIp (Fr.rf [(188, 0)] S) rfl) rfl rfl rfl rfl rfl⟩
    · simp (disch := omega) only [f_X11_write, t_X2_has, hH.n0, hH.n1, hH.n2, hH.n3, hH.n4, hH.n5, hH.fade, hH.air, hH.keep, hH.start, hH.went, hH.rain, hW.hr, hW.pl, hW.wn, hW.ct, hW.cn, hW.cl, hW.cf, hW.li, hW.ca, hN _, ↓oo_m1, oo_0, oo_1, oo_2, oo_3, oo_4, oo_5, oo_6, oo_7, oo_8, oo_9, oo_10, oo_12, oo_13, oo_14, oo_15, oo_16, oo_17, oo_18, oo_20, oo_24, oo_30, oo_32, oo_36, oo_40, oo_41, oo_48, oo_50, oo_57, oo_59, oo_60, oo_61, oo_62, oo_63, oo_64, oo_66, oo_72, oo_78, oo_96, oo_97, oo_99, oo_100, oo_101, oo_105, oo_107, oo_108, oo_109, oo_110, oo_111, oo_112, oo_114, oo_115, oo_116, oo_117, oo_119, oo_122, oo_128, oo_130, oo_134, oo_135, oo_136, oo_137, oo_138, oo_139, oo_140, oo_141, oo_142, oo_143, oo_144, oo_145, oo_151, oo_157, oo_194, oo_200, oo_240, oo_255, oo_256, oo_274, oo_276, oo_300, oo_516, oo_900, oo_940, oo_941, oo_999, oo_1000, oo_1040, oo_10000, oo_add, oo_mul, oo_sub, oo_lt, oo_le, oo_eq, oo_nat, oo_div, oo_rem, oo_nn, nn_oo, oo_nnlt, nn_oolt, oo_nnle, nn_oole, ↓reduceIte, if_pos, if_neg, or_false, false_or, or_true, true_or, and_true, true_and, and_false, false_and, not_true_eq_false, not_false_eq_true, Nat.not_lt_zero, Bool.false_eq_true, Bool.true_eq_false, sI_same, sI_place, sI_cell, sI_long, sL_int, sL_same, sL_place, sL_cell, Option.bind_some, Option.bind_none, rf_0_0, rf_0_1, rf_0_2, rf_0_3, rf_0_4, rf_0_5, rf_0_6, rf_0_7, rf_0_10, rf_0_11, rf_0_12, rf_0_13, rf_0_14, rf_0_15, rf_0_16, rf_0_17, rf_0_18, rf_1_0, rf_1_4, rf_1_5, rf_1_6, rf_1_7, rf_7_0, rf_7_1, rf_7_2, rf_7_3, rf_7_4, rf_7_5, rf_7_6, rf_7_7, rf_28_1, rf_28_2, rf_28_3, rf_28_5, rf_28_6, rf_28_7, rf_28_8, rf_188_1, rf_188_14, rf_188_15, rf_188_16, rf_188_17, rf_188_18, rf_188_19, rf_188_20, rf_188_21, rf_188_22, rf_188_24, rf_188_25, rf_188_26, rf_188_27, rf_188_28, rf_188_31, rf_188_32, rf_188_34, rf_188_35, rf_188_36, rf_188_37, rf_188_38, rf_188_42, rf_188_43, rf_188_51, rf_188_52, rf_188_53, rf_188_55, ln_190, g_8, p_8, hx0]
    · simp (disch := omega) only [f_X12_write, t_X12_isWitness, hH.n0, hH.n1, hH.n2, hH.n3, hH.n4, hH.n5, hH.fade, hH.air, hH.keep, hH.start, hH.went, hH.rain, hW.hr, hW.pl, hW.wn, hW.ct, hW.cn, hW.cl, hW.cf, hW.li, hW.ca, hN _, ↓oo_m1, oo_0, oo_1, oo_2, oo_3, oo_4, oo_5, oo_6, oo_7, oo_8, oo_9, oo_10, oo_12, oo_13, oo_14, oo_15, oo_16, oo_17, oo_18, oo_20, oo_24, oo_30, oo_32, oo_36, oo_40, oo_41, oo_48, oo_50, oo_57, oo_59, oo_60, oo_61, oo_62, oo_63, oo_64, oo_66, oo_72, oo_78, oo_96, oo_97, oo_99, oo_100, oo_101, oo_105, oo_107, oo_108, oo_109, oo_110, oo_111, oo_112, oo_114, oo_115, oo_116, oo_117, oo_119, oo_122, oo_128, oo_130, oo_134, oo_135, oo_136, oo_137, oo_138, oo_139, oo_140, oo_141, oo_142, oo_143, oo_144, oo_145, oo_151, oo_157, oo_194, oo_200, oo_240, oo_255, oo_256, oo_274, oo_276, oo_300, oo_516, oo_900, oo_940, oo_941, oo_999, oo_1000, oo_1040, oo_10000, oo_add, oo_mul, oo_sub, oo_lt, oo_le, oo_eq, oo_nat, oo_div, oo_rem, oo_nn, nn_oo, oo_nnlt, nn_oolt, oo_nnle, nn_oole, ↓reduceIte, if_pos, if_neg, or_false, false_or, or_true, true_or, and_true, true_and, and_false, false_and, not_true_eq_false, not_false_eq_true, Nat.not_lt_zero, Bool.false_eq_true, Bool.true_eq_false, sI_same, sI_place, sI_cell, sI_long, sL_int, sL_same, sL_place, sL_cell, Option.bind_some, Option.bind_none, rf_0_0, rf_0_1, rf_0_2, rf_0_3, rf_0_4, rf_0_5, rf_0_6, rf_0_7, rf_0_10, rf_0_11, rf_0_12, rf_0_13, rf_0_14, rf_0_15, rf_0_16, rf_0_17, rf_0_18, rf_1_0, rf_1_4, rf_1_5, rf_1_6, rf_1_7, rf_7_0, rf_7_1, rf_7_2, rf_7_3, rf_7_4, rf_7_5, rf_7_6, rf_7_7, rf_28_1, rf_28_2, rf_28_3, rf_28_5, rf_28_6, rf_28_7, rf_28_8, rf_188_1, rf_188_14, rf_188_15, rf_188_16, rf_188_17, rf_188_18, rf_188_19, rf_188_20, rf_188_21, rf_188_22, rf_188_24, rf_188_25, rf_188_26, rf_188_27, rf_188_28, rf_188_31, rf_188_32, rf_188_34, rf_188_35, rf_188_36, rf_188_37, rf_188_38, rf_188_42, rf_188_43, rf_188_51, rf_188_52, rf_188_53, rf_188_55, ln_190, hx0]
