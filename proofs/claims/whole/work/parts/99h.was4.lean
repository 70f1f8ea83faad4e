theorem take2 {T : XS} {N : Nat} (h : T.1 188 2 = oo N) : t_X12_take 188 (sI T 188 0 (oo 0)) = (oo N, sI (sI T 188 0 (oo 0)) 188 2 (oo 0)) := by
  unfold t_X12_take
  rw [sI_place (by decide), h]
  rfl
theorem pow_n {x3 x1 : Int32} {np n : Nat} {T : XS} (hn : n ≤ 6) : ∀ m k i z, k + m = n → m < i → f_X12_was_L127 (oo np) x3 188 x1 (oo n) i (oo z) (oo k) T = some (oo (z * np ^ m)) := by
  intro m
  induction m with
  | zero =>
    intro k i z hk hi
    obtain ⟨i, rfl⟩ : ∃ i', i = i' + 1 := ⟨i - 1, by omega⟩
    obtain rfl : k = n := by omega
    rw [f_X12_was_L127, if_pos (Int32.le_refl _), Nat.pow_zero, Nat.mul_one]
  | succ m ih =>
    intro k i z hk hi
    obtain ⟨i, rfl⟩ : ∃ i', i = i' + 1 := ⟨i - 1, by omega⟩
    rw [f_X12_was_L127, if_neg (by rw [oo_le (by omega) (by omega)]; omega), oo_mul, show (1 : Int32) = oo 1 from rfl, oo_add, ih (k + 1) i _ (by omega) (by omega), Nat.pow_succ, Nat.mul_assoc, Nat.mul_comm np]
def FWA : List (Nat × Nat) := [(1, 1), (165, 0), (165, 1), (165, 3), (165, 5), (166, 9999), (167, 9999), (168, 9999), (169, 9999), (170, 9999), (171, 9999), (188, 0), (188, 2), (188, 39), (188, 40), (188, 41), (206, 9999), (207, 9999), (208, 9999), (209, 9999), (210, 9999)]
theorem was_rel {S U : XS} (hR : Rel S) (hF : Fr FWA S U) (e1 : U.1 1 1 = oo 0) (e2 : U.1 188 2 = oo 0) (hWa : RWas U) : Rel U := by
  obtain ⟨a1, a2, a3, ⟨v, hv, hP⟩, a6, a7, a8, a9, a10, a11⟩ := hR
  obtain ⟨n, b, hn, -, -, hb⟩ := a1
  refine ⟨⟨0, b, Nat.zero_le _, e1, e2, fun j hj => ?_⟩, a2.fr hF rfl, a3.fr hF rfl, ⟨v, hv.fr hF rfl rfl rfl rfl, hP.fr hF rfl rfl⟩, a6.fr hF rfl rfl, a7.fr hF rfl, hWa, a9.fr hF rfl, a10.fr hF rfl, a11.fr hF rfl⟩
  rw [hF.row (c := 2) rfl, hF.row (c := 189) rfl]
  exact hb j hj
theorem six_pow {n : Nat} (h : n ≤ 6) {np : Nat} (hp : np ≤ 6) : np ^ n ≤ 46656 := by
  have h1 : np ^ n ≤ 6 ^ n := Nat.pow_le_pow_left hp n
  have h2 : 6 ^ n ≤ 6 ^ 6 := Nat.pow_le_pow_right (by decide) h
  omega
section WF
variable {S : XS} {v : Nat → Nat} {w n N : Nat} {b : Nat → Nat}
def tpN (b : Nat → Nat) (N j : Nat) : Nat := if j < N then b j else 0
def A0 : WAc := (0, fun _ _ => 0, [])
theorem was_c (hH : IsHill S 7 v) (hO : HOK v) (hw : w < v 3) (hn1 : 1 ≤ n) (hn6 : n ≤ 6) (hnp : 1 ≤ v 1) (hN6 : N ≤ 6) (e1 : S.1 1 1 = oo N) (hb : ∀ j, j < 6 → S.1 2 j = oo (b j) ∧ b j < 256) (h171 : ∀ s, s < 6 → S.1 171 s = oo 0) {A : WAc} (hA : A = foldP (fun x A => if okN v w (tpN b N) (dgR (v 1) n x) = true then addN n (dgR (v 1) n x) A else A) (v 1 ^ n) 0 A0) : ∃ U, f_X9_search 165 7 1 (oo w) (oo n) S = some (oo A.1, U) ∧ wC n S U A ∧ (∀ s, s < 6 → U.1 171 s = oo 0) ∧ U.1 165 0 = oo n ∧ U.1 165 1 = oo (v 1) ∧ Fr [(165, 0), (165, 1), (165, 3), (165, 5), (166, 9999), (167, 9999), (168, 9999), (169, 9999), (170, 9999), (171, 9999)] S U := by
  obtain ⟨⟨b0, b1, b2, b3, b4, b5⟩, -, -, -, hkp, -⟩ := id hO
  obtain ⟨k1, k2, k3⟩ := hkp w hw
  have e8 : gat (sI S 165 0 (oo n)) 8 (oo 1) = oo (v 1) := by rw [g_8 (by decide), sI_cell (by decide), hH.n1]
  generalize hS1 : sI (sI (sI S 165 0 (oo n)) 165 1 (oo (v 1))) 165 5 (oo 0) = S1
  have F1 : Fr [(165, 0), (165, 1), (165, 5)] S S1 := by rw [← hS1]; exact Fr.sIp (Fr.sIp (Fr.sIp (Fr.rf _ _) rfl) rfl) rfl
  have hl := loop_blk (L := f_X9_search_L26 165 7 1 (oo w)) (a := 168) (lo := 0) (st := 0) (m := 6) (f := fun j => oo (tpN b N j)) (S := S1) (R := some (blk S1 168 0 6 (fun j => oo (tpN b N j)))) (fun i k hk => by
    generalize hB : blk S1 168 0 k (fun j => oo (tpN b N j)) = B
    have f1 : B.1 1 1 = oo N := by rw [← hB, blk_cell (by decide), F1.get rfl]; exact e1
    have f2 : gat B 2 (oo k) = oo (b k) := by rw [g_2 (by omega), ← hB, blk_cell (by decide), F1.row (c := 2) rfl, (hb k hk).1]
    have f3 : (if oo N ≤ oo k then some (oo 0) else some (oo (b k))) = some (oo (tpN b N k)) := by
      unfold tpN
      by_cases hz : k < N
      · rw [if_neg (by rw [oo_le (by omega) (by omega)]; omega), if_pos hz]
      · rw [if_pos (by rw [oo_le (by omega) (by omega)]; omega), if_neg hz]
    rw [Nat.zero_add, f_X9_search_L26, if_neg (by rw [show (6 : Int32) = oo 6 from rfl, oo_le (by decide) (by omega)]; omega), f1, show rf 1 0 = 2 from rfl, f2, show (0 : Int32) = oo 0 from rfl, f3, Option.bind_some, show rf 165 6 = 168 from rfl, p_168 hk, show (1 : Int32) = oo 1 from rfl, oo_add]) (fun i => by
    rw [f_X9_search_L26, if_pos (by decide)]) 1000000 (by decide)
  have F2 : Fr [(168, 9999)] S1 (blk S1 168 0 6 (fun j => oo (tpN b N j))) := Fr.blk (Fr.rf _ _) rfl
  have h168 : ∀ s, s < 6 → (blk S1 168 0 6 (fun j => oo (tpN b N j))).1 168 s = oo (tpN b N s) := fun s hs => blk_in (by omega)
  generalize blk S1 168 0 6 (fun j => oo (tpN b N j)) = S2 at hl F2 h168
  obtain ⟨S3, mx, t1, t2, t3, t4⟩ := mostAir_c hO ((hH.fr F1 rfl).fr F2 rfl)
  have F4 : Fr [(166, 9999)] S3 (filI S3 166 (oo 0)) := fil_fr rfl
  have F : Fr [(165, 0), (165, 1), (165, 5), (166, 9999), (168, 9999), (169, 9999)] S (filI S3 166 (oo 0)) := Fr.trans (F1.mono rfl) (Fr.trans (F2.mono rfl) (Fr.trans (t4.mono rfl) (F4.mono rfl)))
  have c0 : (filI S3 166 (oo 0)).1 165 0 = oo n := by rw [F4.get rfl, t4.get rfl, F2.get rfl, ← hS1, sI_place (by decide), sI_place (by decide), sI_same]
  have c1 : (filI S3 166 (oo 0)).1 165 1 = oo (v 1) := by rw [F4.get rfl, t4.get rfl, F2.get rfl, ← hS1, sI_place (by decide), sI_same]
  have c5 : (filI S3 166 (oo 0)).1 165 5 = oo 0 := by rw [F4.get rfl, t4.get rfl, F2.get rfl, ← hS1, sI_same]
  have c166 : ∀ j, j < 42 → (filI S3 166 (oo 0)).1 166 j = oo 0 := fun j hj => fil_in (by rw [ln_166]; exact hj)
  have htp : ∀ s, s < 6 → tpN b N s ≤ 255 := fun s hs => by
    have := (hb s hs).2
    unfold tpN
    split <;> omega
  have h46 := six_pow hn6 (Nat.le_refl 6)
  obtain ⟨U, u1, u2, u3, u4, u5⟩ := hour_was (T0 := S) (np := v 1) (tp := tpN b N) (mx := mx) hO hw hn6 b1 n [] 12 (filI S3 166 (oo 0)) A0 (by rw [List.length_nil]; omega) (by omega) (fun p hp => absurd hp List.not_mem_nil) (hH.fr F rfl) c0 c1 (fun s hs => ⟨by rw [F4.row (c := 168) rfl, t4.row (c := 168) rfl]; exact h168 s hs, htp s hs⟩) (fun s hs => ⟨by rw [F4.row (c := 169) rfl]; exact (t2 s hs).1, (t2 s hs).2⟩) ⟨c5, fun t x h1 h2 h3 => ⟨c166 _ (by omega), Nat.zero_le _⟩, by
    rw [if_pos (show A0.1 = 0 from rfl)]
    exact ⟨F.get rfl, F.row rfl⟩⟩ ⟨fun t h1 h2 => absurd h2 (by rw [List.length_nil]; omega), fun t s h1 h2 => by
    have h0 : t = 0 := Nat.le_zero.mp h1
    subst h0
    rw [F.row (c := 171) rfl, Nat.zero_mul, Nat.zero_add]
    exact h171 s h2⟩ (by show 0 + 6 ^ n < 1000000; omega)
  rw [was_eq k1 k2 hn1 hnp (fun p s hp hs => t3 p s (by omega) hs) A0, ← hA] at u2
  refine ⟨U, ?_, u2, fun s hs => ?_, by rw [u5.get rfl]; exact c0, by rw [u5.get rfl]; exact c1, Fr.trans (F.mono rfl) (u5.mono rfl)⟩
  · unfold f_X9_search
    rw [show rf 7 0 = 8 from rfl, show (1 : Int32) = oo 1 from rfl, e8, show (0 : Int32) = oo 0 from rfl, hS1, hl, Option.bind_some, t1, Option.bind_some, show rf 165 2 = 166 from rfl, show (oo 1 : Int32) = oo (([] : List Nat).length + 1) from rfl, u1, Option.bind_some, u2.1]
  · have := u3.2 0 s (Nat.zero_le _) hs
    rw [Nat.zero_mul, Nat.zero_add] at this
    exact this
theorem was_n (hN : IsC S 190 516 v) (hO : HOK v) (hw : w < v 3) (hn1 : 1 ≤ n) (hn6 : n ≤ 6) (hnp : 1 ≤ v 1) (hb : ∀ j, j < 6 → S.1 189 j = oo (b j) ∧ b j < 256) (e2 : S.1 188 2 = oo (v 0)) {A : WAc} (hA : A = foldP (fun x A => if okN v w (tpN b (v 0)) (dgR (v 1) n x) = true then addN n (dgR (v 1) n x) A else A) (v 1 ^ n) 0 A0) : ∃ U, f_X12_was 188 (oo w) (oo n) S = some (oo A.1, U) ∧ wN n S U A ∧ U.1 188 39 = oo n ∧ U.1 188 40 = oo (v 1) ∧ U.1 188 2 = oo 0 ∧ Fr [(188, 0), (188, 2), (188, 39), (188, 40), (188, 41), (206, 9999), (207, 9999), (208, 9999), (209, 9999), (210, 9999)] S U := by
  obtain ⟨⟨b0, b1, b2, b3, b4, b5⟩, -, -, -, hkp, -⟩ := id hO
  have ht := take2 e2
  generalize hS1 : sI (sI S 188 0 (oo 0)) 188 2 (oo 0) = S1 at ht
  have F1 : Fr [(188, 0), (188, 2)] S S1 := by rw [← hS1]; exact Fr.sIp (Fr.sIp (Fr.rf _ _) rfl) rfl
  have hN1 : IsC S1 190 516 v := hN.cell (F1.row rfl)
  have z2 : S1.1 188 2 = oo 0 := by rw [← hS1, sI_same]
  have w1 : t_X12_isWitness 188 (oo w) S1 = true := by
    have := hN1 3 (by decide)
    simp (disch := omega) only [t_X12_isWitness, ↓oo_m1, oo_0, oo_1, oo_2, oo_3, oo_4, oo_5, oo_6, oo_7, oo_8, oo_9, oo_10, oo_12, oo_13, oo_14, oo_15, oo_16, oo_17, oo_18, oo_20, oo_24, oo_30, oo_32, oo_36, oo_40, oo_41, oo_48, oo_50, oo_57, oo_59, oo_60, oo_61, oo_62, oo_63, oo_64, oo_66, oo_72, oo_78, oo_96, oo_97, oo_99, oo_100, oo_101, oo_105, oo_107, oo_108, oo_109, oo_110, oo_111, oo_112, oo_114, oo_115, oo_116, oo_117, oo_119, oo_122, oo_128, oo_130, oo_134, oo_135, oo_136, oo_137, oo_138, oo_139, oo_140, oo_141, oo_142, oo_143, oo_144, oo_145, oo_151, oo_157, oo_194, oo_200, oo_240, oo_255, oo_256, oo_274, oo_276, oo_300, oo_516, oo_900, oo_940, oo_941, oo_999, oo_1000, oo_1040, oo_10000, oo_add, oo_mul, oo_sub, oo_lt, oo_le, oo_eq, oo_nat, oo_div, oo_rem, oo_nn, nn_oo, oo_nnlt, nn_oolt, oo_nnle, nn_oole, ↓reduceIte, if_pos, if_neg, or_false, false_or, or_true, true_or, and_true, true_and, and_false, false_and, not_true_eq_false, not_false_eq_true, Nat.not_lt_zero, Bool.false_eq_true, Bool.true_eq_false, rf_188_1, rf_188_14, rf_188_15, rf_188_16, rf_188_17, rf_188_18, rf_188_19, rf_188_20, rf_188_21, rf_188_22, rf_188_24, rf_188_25, rf_188_26, rf_188_27, rf_188_28, rf_188_31, rf_188_32, rf_188_34, rf_188_35, rf_188_36, rf_188_37, rf_188_38, rf_188_42, rf_188_43, rf_188_51, rf_188_52, rf_188_53, rf_188_55, this]
  have w2 : t_X12_isIn (oo n) (1 : Int32) (6 : Int32) = true := by simp (disch := omega) only [t_X12_isIn, ↓oo_m1, oo_0, oo_1, oo_2, oo_3, oo_4, oo_5, oo_6, oo_7, oo_8, oo_9, oo_10, oo_12, oo_13, oo_14, oo_15, oo_16, oo_17, oo_18, oo_20, oo_24, oo_30, oo_32, oo_36, oo_40, oo_41, oo_48, oo_50, oo_57, oo_59, oo_60, oo_61, oo_62, oo_63, oo_64, oo_66, oo_72, oo_78, oo_96, oo_97, oo_99, oo_100, oo_101, oo_105, oo_107, oo_108, oo_109, oo_110, oo_111, oo_112, oo_114, oo_115, oo_116, oo_117, oo_119, oo_122, oo_128, oo_130, oo_134, oo_135, oo_136, oo_137, oo_138, oo_139, oo_140, oo_141, oo_142, oo_143, oo_144, oo_145, oo_151, oo_157, oo_194, oo_200, oo_240, oo_255, oo_256, oo_274, oo_276, oo_300, oo_516, oo_900, oo_940, oo_941, oo_999, oo_1000, oo_1040, oo_10000, oo_add, oo_mul, oo_sub, oo_lt, oo_le, oo_eq, oo_nat, oo_div, oo_rem, oo_nn, nn_oo, oo_nnlt, nn_oolt, oo_nnle, nn_oole, ↓reduceIte, if_pos, if_neg, or_false, false_or, or_true, true_or, and_true, true_and, and_false, false_and, not_true_eq_false, not_false_eq_true, Nat.not_lt_zero, Bool.false_eq_true, Bool.true_eq_false]
  have w3 : S1.1 190 0 = oo (v 0) := hN1 0 (by decide)
  have hl := loop_blk (L := f_X12_was_L43 (oo (v 0)) 188 (oo w) (oo n)) (a := 206) (lo := 0) (st := 0) (m := v 0) (f := fun j => oo (b j)) (S := S1) (R := some (blk S1 206 0 (v 0) (fun j => oo (b j)))) (fun i k hk => by
    have f2 : (blk S1 206 0 k (fun j => oo (b j))).1 189 k = oo (b k) := by rw [blk_cell (by decide), F1.row (c := 189) rfl, (hb k (by omega)).1]
    rw [Nat.zero_add, f_X12_was_L43, if_neg (by rw [oo_le (by omega) (by omega)]; omega), show rf 188 1 = 189 from rfl, show rf 188 34 = 206 from rfl, if_neg (by rw [ln_189]; exact oo_inb (by omega) (by omega)), if_neg (by rw [ln_206]; exact oo_inb (by omega) (by omega)), oo_nat (by omega), f2, show (1 : Int32) = oo 1 from rfl, oo_add]) (fun i => by
    rw [f_X12_was_L43, if_pos (by rw [Nat.zero_add]; exact Int32.le_refl _)]) 1000000 (by omega)
  have F2 : Fr [(206, 9999)] S1 (blk S1 206 0 (v 0) (fun j => oo (b j))) := Fr.blk (Fr.rf _ _) rfl
  have h206 : ∀ s, s < v 0 → (blk S1 206 0 (v 0) (fun j => oo (b j))).1 206 s = oo (b s) := fun s hs => blk_in (by omega)
  generalize blk S1 206 0 (v 0) (fun j => oo (b j)) = S2 at hl F2 h206
  have hl2 := loop_blk (L := f_X12_was_L72 (oo (v 0)) 188 (oo w) (oo n)) (a := 207) (lo := 0) (st := 0) (m := 36) (f := fun _ => oo 0) (S := S2) (R := some (blk S2 207 0 36 (fun _ => oo 0))) (fun i k hk => by
    rw [Nat.zero_add, f_X12_was_L72, if_neg (by rw [show (36 : Int32) = oo 36 from rfl, oo_le (by decide) (by omega)]; omega), show rf 188 35 = 207 from rfl, if_neg (by rw [ln_207]; exact oo_inb (by omega) (by omega)), oo_nat (by omega), show (1 : Int32) = oo 1 from rfl, oo_add]
    rfl) (fun i => by
    rw [f_X12_was_L72, if_pos (by decide)]) 1000000 (by decide)
  have F3 : Fr [(207, 9999)] S2 (blk S2 207 0 36 (fun _ => oo 0)) := Fr.blk (Fr.rf _ _) rfl
  have h207 : ∀ s, s < 36 → (blk S2 207 0 36 (fun _ => oo 0)).1 207 s = oo 0 := fun s hs => blk_in (by omega)
  generalize blk S2 207 0 36 (fun _ => oo 0) = S3 at hl2 F3 h207
  have F4 : Fr [(188, 39)] S3 (sI S3 188 39 (oo n)) := Fr.sIp (Fr.rf _ _) rfl
  have e41 : (sI S3 188 39 (oo n)).1 190 1 = oo (v 1) := by rw [F4.row (c := 190) rfl, F3.row (c := 190) rfl, F2.row (c := 190) rfl]; exact hN1 1 (by decide)
  have F5 : Fr [(188, 40)] (sI S3 188 39 (oo n)) (sI (sI S3 188 39 (oo n)) 188 40 (oo (v 1))) := Fr.sIp (Fr.rf _ _) rfl
  have F : Fr [(188, 0), (188, 2), (188, 39), (188, 40), (206, 9999), (207, 9999)] S (sI (sI S3 188 39 (oo n)) 188 40 (oo (v 1))) := Fr.trans (F1.mono rfl) (Fr.trans (F2.mono rfl) (Fr.trans (F3.mono rfl) (Fr.trans (F4.mono rfl) (F5.mono rfl))))
  have h46 := six_pow hn6 b1
  have hpw := pow_n (x3 := oo (v 0)) (x1 := oo w) (np := v 1) (T := sI (sI S3 188 39 (oo n)) 188 40 (oo (v 1))) hn6 n 0 1000000 1 (by omega) (by omega)
  rw [Nat.one_mul] at hpw
  have htp : ∀ s, s < 6 → tpN b (v 0) s ≤ 255 ∧ (v 0 ≤ s → tpN b (v 0) s = 0) := fun s hs => by
    have := (hb s hs).2
    unfold tpN
    constructor
    · split <;> omega
    · intro h
      rw [if_neg (by omega)]
  obtain ⟨U, u1, u2, u3⟩ := codes_n (T0 := S) (tp := tpN b (v 0)) hO hw hn1 hn6 hnp b1 htp (C := v 1 ^ n) (by omega) (v 1 ^ n) 0 1000000 (sI (sI S3 188 39 (oo n)) 188 40 (oo (v 1))) A0 (by omega) (by omega) (hN.cell (F.row rfl)) (fun s hs => by
    rw [F5.row (c := 206) rfl, F4.row (c := 206) rfl, F3.row (c := 206) rfl, h206 s hs]
    unfold tpN
    rw [if_pos hs]) ⟨fun t x ht hx => ⟨by rw [F5.row (c := 207) rfl, F4.row (c := 207) rfl]; exact h207 _ (by omega), Nat.zero_le _⟩, by
    rw [if_pos (show A0.1 = 0 from rfl)]
    exact ⟨F.get rfl, F.row rfl⟩⟩ (Nat.le_refl _)
  rw [← hA] at u1 u2
  refine ⟨U, ?_, u2, ?_, ?_, ?_, Fr.trans (F.mono rfl) (u3.mono rfl)⟩
  · unfold f_X12_was
    rw [show (0 : Int32) = oo 0 from rfl, ht]
    dsimp only
    rw [w1, if_pos rfl, w2, if_pos rfl, show rf 188 14 = 190 from rfl, w3, if_pos rfl, hl, Option.bind_some, hl2, Option.bind_some, e41, if_neg (by rw [oo_eq (by omega) (by decide)]; omega), Option.bind_some, show bi true = oo 1 from rfl, hpw, Option.bind_some]
    rw [show (oo 0 : Int32) = oo A0.1 from rfl] at *
    rw [show f_X12_was_L152 (oo (v 1 ^ n)) (oo (v 1)) (oo (v 0)) 188 (oo w) (oo n) 1000000 (oo A0.1) (oo A0.1) (sI (sI S3 188 39 (oo n)) 188 40 (oo (v 1))) = some (oo A.1, U) from u1, Option.bind_some]
  · rw [u3.get rfl, F5.get rfl, sI_same]
  · rw [u3.get rfl, sI_same]
  · rw [u3.get rfl, F5.get rfl, F4.get rfl, F3.get rfl, F2.get rfl, z2]
end WF
theorem ag_was : Ag_was Rel := by
  intro S hR i j
  obtain ⟨hT, hFa, hK, ⟨v, hv, hP⟩, hKe, hNo, hWa, hC, hD, hX⟩ := id hR; obtain ⟨hN, hO, hS, hH, hW, hNm, hSe⟩ := id hv; obtain ⟨⟨b0, b1, b2, b3, b4, b5⟩, -⟩ := id hO
  obtain ⟨N, b, hN9, e1, e2, hb⟩ := id hT
  obtain ⟨h0, p0, f0, y1, y2, y3, y4, y5, y6, y7, y8, y9, ya, yb, yc⟩ := id hWa
  have e2' : (sI S 1 1 (oo 0)).1 188 2 = oo N := by rw [sI_cell (by decide)]; exact e2
  have htk := take2 e2'
  have FB : Fr [(1, 1), (188, 0), (188, 2)] S (sI (sI (sI S 1 1 (oo 0)) 188 0 (oo 0)) 188 2 (oo 0)) := Fr.sIp (Fr.sIp (Fr.sIp (Fr.rf _ _) rfl) rfl) rfl
  have hRb : Rel (sI (sI (sI S 1 1 (oo 0)) 188 0 (oo 0)) 188 2 (oo 0)) := was_rel hR (FB.mono rfl) (by simp (disch := omega) only [sI_same, sI_place, sI_cell, sI_long, sL_int, sL_same, sL_place, sL_cell]) (sI_same _ _ _ _) (hWa.fr FB rfl)
  have hNb : IsC (sI (sI (sI S 1 1 (oo 0)) 188 0 (oo 0)) 188 2 (oo 0)) 190 516 v := hN.cell (FB.row rfl)
  have c3 := hNb 3 (by decide)
  have c0 := hNb 0 (by decide)
  generalize hB : sI (sI (sI S 1 1 (oo 0)) 188 0 (oo 0)) 188 2 (oo 0) = B at htk FB hRb hNb c3 c0
  have e8 : gat S 8 (oo 0) = oo (v 0) := by rw [g_8 (by decide), hH.n0]
  have badc : ∀ x : Option (Int32 × XS), x = some (-1, S) → (x.bind (fun q => match q with | (x1, S2) => some (x1, (sI S2 1 1 (oo 0))))) = some (-1, sI S 1 1 (oo 0)) := fun x hx => by rw [hx]; rfl
  rcases rng2 i (v 3) (by omega) with ⟨w, hw, rfl⟩ | hx0
  · have hh : t_X2_has 7 (oo 2) (oo w) S = true := by simp (disch := omega) only [t_X2_has, ↓oo_m1, oo_0, oo_1, oo_2, oo_3, oo_4, oo_5, oo_6, oo_7, oo_8, oo_9, oo_10, oo_12, oo_13, oo_14, oo_15, oo_16, oo_17, oo_18, oo_20, oo_24, oo_30, oo_32, oo_36, oo_40, oo_41, oo_48, oo_50, oo_57, oo_59, oo_60, oo_61, oo_62, oo_63, oo_64, oo_66, oo_72, oo_78, oo_96, oo_97, oo_99, oo_100, oo_101, oo_105, oo_107, oo_108, oo_109, oo_110, oo_111, oo_112, oo_114, oo_115, oo_116, oo_117, oo_119, oo_122, oo_128, oo_130, oo_134, oo_135, oo_136, oo_137, oo_138, oo_139, oo_140, oo_141, oo_142, oo_143, oo_144, oo_145, oo_151, oo_157, oo_194, oo_200, oo_240, oo_255, oo_256, oo_274, oo_276, oo_300, oo_516, oo_900, oo_940, oo_941, oo_999, oo_1000, oo_1040, oo_10000, oo_add, oo_mul, oo_sub, oo_lt, oo_le, oo_eq, oo_nat, oo_div, oo_rem, oo_nn, nn_oo, oo_nnlt, nn_oolt, oo_nnle, nn_oole, ↓reduceIte, if_pos, if_neg, or_false, false_or, or_true, true_or, and_true, true_and, and_false, false_and, not_true_eq_false, not_false_eq_true, Nat.not_lt_zero, Bool.false_eq_true, Bool.true_eq_false, rf_7_0, rf_7_1, rf_7_2, rf_7_3, rf_7_4, rf_7_5, rf_7_6, rf_7_7, g_8, p_8, hH.n2]
    have hw2 : t_X12_isWitness 188 (oo w) B = true := by simp (disch := omega) only [t_X12_isWitness, ↓oo_m1, oo_0, oo_1, oo_2, oo_3, oo_4, oo_5, oo_6, oo_7, oo_8, oo_9, oo_10, oo_12, oo_13, oo_14, oo_15, oo_16, oo_17, oo_18, oo_20, oo_24, oo_30, oo_32, oo_36, oo_40, oo_41, oo_48, oo_50, oo_57, oo_59, oo_60, oo_61, oo_62, oo_63, oo_64, oo_66, oo_72, oo_78, oo_96, oo_97, oo_99, oo_100, oo_101, oo_105, oo_107, oo_108, oo_109, oo_110, oo_111, oo_112, oo_114, oo_115, oo_116, oo_117, oo_119, oo_122, oo_128, oo_130, oo_134, oo_135, oo_136, oo_137, oo_138, oo_139, oo_140, oo_141, oo_142, oo_143, oo_144, oo_145, oo_151, oo_157, oo_194, oo_200, oo_240, oo_255, oo_256, oo_274, oo_276, oo_300, oo_516, oo_900, oo_940, oo_941, oo_999, oo_1000, oo_1040, oo_10000, oo_add, oo_mul, oo_sub, oo_lt, oo_le, oo_eq, oo_nat, oo_div, oo_rem, oo_nn, nn_oo, oo_nnlt, nn_oolt, oo_nnle, nn_oole, ↓reduceIte, if_pos, if_neg, or_false, false_or, or_true, true_or, and_true, true_and, and_false, false_and, not_true_eq_false, not_false_eq_true, Nat.not_lt_zero, Bool.false_eq_true, Bool.true_eq_false, rf_188_1, rf_188_14, rf_188_15, rf_188_16, rf_188_17, rf_188_18, rf_188_19, rf_188_20, rf_188_21, rf_188_22, rf_188_24, rf_188_25, rf_188_26, rf_188_27, rf_188_28, rf_188_31, rf_188_32, rf_188_34, rf_188_35, rf_188_36, rf_188_37, rf_188_38, rf_188_42, rf_188_43, rf_188_51, rf_188_52, rf_188_53, rf_188_55, c3]
    by_cases hj : j < oo 1
    · refine ⟨-1, sI S 1 1 (oo 0), B, ?_, ?_, hRb⟩
      · unfold f_X11_was
        rw [show rf 0 1 = 7 from rfl, show (2 : Int32) = oo 2 from rfl, hh, if_pos rfl, show (1 : Int32) = oo 1 from rfl, if_pos hj]
        rfl
      · have hin : t_X12_isIn j (1 : Int32) (6 : Int32) = false := by simp (disch := omega) only [t_X12_isIn, ↓oo_m1, oo_0, oo_1, oo_2, oo_3, oo_4, oo_5, oo_6, oo_7, oo_8, oo_9, oo_10, oo_12, oo_13, oo_14, oo_15, oo_16, oo_17, oo_18, oo_20, oo_24, oo_30, oo_32, oo_36, oo_40, oo_41, oo_48, oo_50, oo_57, oo_59, oo_60, oo_61, oo_62, oo_63, oo_64, oo_66, oo_72, oo_78, oo_96, oo_97, oo_99, oo_100, oo_101, oo_105, oo_107, oo_108, oo_109, oo_110, oo_111, oo_112, oo_114, oo_115, oo_116, oo_117, oo_119, oo_122, oo_128, oo_130, oo_134, oo_135, oo_136, oo_137, oo_138, oo_139, oo_140, oo_141, oo_142, oo_143, oo_144, oo_145, oo_151, oo_157, oo_194, oo_200, oo_240, oo_255, oo_256, oo_274, oo_276, oo_300, oo_516, oo_900, oo_940, oo_941, oo_999, oo_1000, oo_1040, oo_10000, oo_add, oo_mul, oo_sub, oo_lt, oo_le, oo_eq, oo_nat, oo_div, oo_rem, oo_nn, nn_oo, oo_nnlt, nn_oolt, oo_nnle, nn_oole, ↓reduceIte, if_pos, if_neg, or_false, false_or, or_true, true_or, and_true, true_and, and_false, false_and, not_true_eq_false, not_false_eq_true, Nat.not_lt_zero, Bool.false_eq_true, Bool.true_eq_false, hj]
        unfold f_X12_was
        rw [show (0 : Int32) = oo 0 from rfl, htk]
        dsimp only
        rw [hw2, if_pos rfl, hin, if_neg (by decide)]
    · obtain ⟨n, hn2, rfl, hn1⟩ := one_nng hj
      by_cases hn6 : n ≤ 6
      · have hin : t_X12_isIn (oo n) (1 : Int32) (6 : Int32) = true := by simp (disch := omega) only [t_X12_isIn, ↓oo_m1, oo_0, oo_1, oo_2, oo_3, oo_4, oo_5, oo_6, oo_7, oo_8, oo_9, oo_10, oo_12, oo_13, oo_14, oo_15, oo_16, oo_17, oo_18, oo_20, oo_24, oo_30, oo_32, oo_36, oo_40, oo_41, oo_48, oo_50, oo_57, oo_59, oo_60, oo_61, oo_62, oo_63, oo_64, oo_66, oo_72, oo_78, oo_96, oo_97, oo_99, oo_100, oo_101, oo_105, oo_107, oo_108, oo_109, oo_110, oo_111, oo_112, oo_114, oo_115, oo_116, oo_117, oo_119, oo_122, oo_128, oo_130, oo_134, oo_135, oo_136, oo_137, oo_138, oo_139, oo_140, oo_141, oo_142, oo_143, oo_144, oo_145, oo_151, oo_157, oo_194, oo_200, oo_240, oo_255, oo_256, oo_274, oo_276, oo_300, oo_516, oo_900, oo_940, oo_941, oo_999, oo_1000, oo_1040, oo_10000, oo_add, oo_mul, oo_sub, oo_lt, oo_le, oo_eq, oo_nat, oo_div, oo_rem, oo_nn, nn_oo, oo_nnlt, nn_oolt, oo_nnle, nn_oole, ↓reduceIte, if_pos, if_neg, or_false, false_or, or_true, true_or, and_true, true_and, and_false, false_and, not_true_eq_false, not_false_eq_true, Nat.not_lt_zero, Bool.false_eq_true, Bool.true_eq_false]
        by_cases hNv : N = v 0
        · subst hNv
          have hnp : 1 ≤ v 1 := by
            have := (hO.2.2.2.2.1 w hw).2.2
            omega
          obtain ⟨T, t1, t2, t3, t4, t5, t6⟩ := was_c (n := n) (N := v 0) (b := b) hH hO hw hn1 hn6 hnp b0 e1 (fun j hj => ⟨(hb j (by omega)).1, (hb j (by omega)).2.2⟩) yc rfl
          have F1 : Fr [(1, 1)] T (sI T 1 1 (oo 0)) := Fr.sIp (Fr.rf _ _) rfl
          have F2 := Fr.trans (t6.mono (l' := FWA) rfl) (F1.mono (l' := FWA) rfl)
          obtain ⟨U, u1, u2, u3, u4, u5, u6⟩ := was_n (S := sI T 1 1 (oo 0)) (n := n) (b := b) (hN.cell (by rw [F1.row (c := 190) rfl, t6.row (c := 190) rfl])) hO hw hn1 hn6 hnp (fun j hj => ⟨by rw [F1.row (c := 189) rfl, t6.row (c := 189) rfl]; exact (hb j (by omega)).2.1, (hb j (by omega)).2.2⟩) (by rw [F1.get rfl, t6.get rfl]; exact e2) rfl
          generalize hA : foldP (fun x A => if okN v w (tpN b (v 0)) (dgR (v 1) n x) = true then addN n (dgR (v 1) n x) A else A) (v 1 ^ n) 0 A0 = A at t1 t2 u1 u2
          have F3 : Fr FWA S U := Fr.trans F2 (u6.mono rfl)
          refine ⟨oo A.1, sI T 1 1 (oo 0), U, ?_, u1, was_rel hR F3 (by rw [u6.get rfl, sI_same]) u5 ?_⟩
          · unfold f_X11_was
            rw [show rf 0 1 = 7 from rfl, show (2 : Int32) = oo 2 from rfl, hh, if_pos rfl, show (1 : Int32) = oo 1 from rfl, if_neg hj, show (6 : Int32) = oo 6 from rfl, if_neg (by rw [oo_lt (by decide) (by omega)]; omega), show rf 0 0 = 1 from rfl, show rf 7 0 = 8 from rfl, show (0 : Int32) = oo 0 from rfl, e8, if_pos (by rw [e1]), show rf 0 15 = 165 from rfl, t1]
            rfl
          · obtain ⟨m1, m2, m3⟩ := t2
            obtain ⟨n1, n2⟩ := u2
            have k165 : ∀ j, U.1 165 j = T.1 165 j := fun j => by rw [u6.row (c := 165) rfl, F1.row (c := 165) rfl]
            have k166 : U.1 166 = T.1 166 := by rw [u6.row (c := 166) rfl, F1.row (c := 166) rfl]
            have k167 : U.1 167 = T.1 167 := by rw [u6.row (c := 167) rfl, F1.row (c := 167) rfl]
            have k171 : U.1 171 = T.1 171 := by rw [u6.row (c := 171) rfl, F1.row (c := 171) rfl]
            have q1 : ∀ t x, t < n → x < 6 → U.1 166 ((t + 1) * 6 + x) = U.1 207 (6 * t + x) := fun t x ht hx => by
              rw [k166, (m2 (t + 1) x (by omega) (by omega) hx).1, (n1 t x ht hx).1]
            by_cases hA0 : A.1 = 0
            · rw [if_pos hA0] at m3 n2
              refine ⟨n, v 1, f0, hn6, b1, y3, by rw [k165]; exact t4, by rw [k165]; exact t5, by rw [k165, m3.1]; exact y6, by rw [u3, if_neg (by omega)], u4, by rw [n2.1, F1.get rfl, t6.get rfl]; exact y9, q1, fun t ht => ?_, fun s hs => by rw [k171]; exact t3 s hs⟩
              rw [k167, m3.2, n2.2, F1.row (c := 208) rfl, t6.row (c := 208) rfl]
              exact yb t ht
            · rw [if_neg hA0] at m3 n2
              refine ⟨n, v 1, n, hn6, b1, hn6, by rw [k165]; exact t4, by rw [k165]; exact t5, by rw [k165]; exact m3.1, by rw [u3, if_neg (by omega)], u4, n2.1, q1, fun t ht => ?_, fun s hs => by rw [k171]; exact t3 s hs⟩
              rw [k167, m3.2 (t + 1) (by omega) (by omega), n2.2 t ht]
        · have hne : ¬ oo N = oo (v 0) := by rw [oo_eq (by omega) (by omega)]; exact hNv
          refine ⟨-1, sI S 1 1 (oo 0), B, ?_, ?_, hRb⟩
          · unfold f_X11_was
            rw [show rf 0 1 = 7 from rfl, show (2 : Int32) = oo 2 from rfl, hh, if_pos rfl, show (1 : Int32) = oo 1 from rfl, if_neg hj, show (6 : Int32) = oo 6 from rfl, if_neg (by rw [oo_lt (by decide) (by omega)]; omega), show rf 0 0 = 1 from rfl, show rf 7 0 = 8 from rfl, show (0 : Int32) = oo 0 from rfl, e8, if_neg (by rw [e1]; exact hne)]
            rfl
          · unfold f_X12_was
            rw [show (0 : Int32) = oo 0 from rfl, htk]
            dsimp only
            rw [hw2, if_pos rfl, hin, if_pos rfl, show rf 188 14 = 190 from rfl, c0, if_neg hne]
      · refine ⟨-1, sI S 1 1 (oo 0), B, ?_, ?_, hRb⟩
        · unfold f_X11_was
          rw [show rf 0 1 = 7 from rfl, show (2 : Int32) = oo 2 from rfl, hh, if_pos rfl, show (1 : Int32) = oo 1 from rfl, if_neg hj, show (6 : Int32) = oo 6 from rfl, if_pos (by rw [oo_lt (by decide) (by omega)]; omega)]
          rfl
        · have hin : t_X12_isIn (oo n) (1 : Int32) (6 : Int32) = false := by simp (disch := omega) only [t_X12_isIn, ↓oo_m1, oo_0, oo_1, oo_2, oo_3, oo_4, oo_5, oo_6, oo_7, oo_8, oo_9, oo_10, oo_12, oo_13, oo_14, oo_15, oo_16, oo_17, oo_18, oo_20, oo_24, oo_30, oo_32, oo_36, oo_40, oo_41, oo_48, oo_50, oo_57, oo_59, oo_60, oo_61, oo_62, oo_63, oo_64, oo_66, oo_72, oo_78, oo_96, oo_97, oo_99, oo_100, oo_101, oo_105, oo_107, oo_108, oo_109, oo_110, oo_111, oo_112, oo_114, oo_115, oo_116, oo_117, oo_119, oo_122, oo_128, oo_130, oo_134, oo_135, oo_136, oo_137, oo_138, oo_139, oo_140, oo_141, oo_142, oo_143, oo_144, oo_145, oo_151, oo_157, oo_194, oo_200, oo_240, oo_255, oo_256, oo_274, oo_276, oo_300, oo_516, oo_900, oo_940, oo_941, oo_999, oo_1000, oo_1040, oo_10000, oo_add, oo_mul, oo_sub, oo_lt, oo_le, oo_eq, oo_nat, oo_div, oo_rem, oo_nn, nn_oo, oo_nnlt, nn_oolt, oo_nnle, nn_oole, ↓reduceIte, if_pos, if_neg, or_false, false_or, or_true, true_or, and_true, true_and, and_false, false_and, not_true_eq_false, not_false_eq_true, Nat.not_lt_zero, Bool.false_eq_true, Bool.true_eq_false]
          unfold f_X12_was
          rw [show (0 : Int32) = oo 0 from rfl, htk]
          dsimp only
          rw [hw2, if_pos rfl, hin, if_neg (by decide)]
  · refine ⟨-1, sI S 1 1 (oo 0), B, ?_, ?_, hRb⟩
    · have hh : t_X2_has 7 (oo 2) i S = false := by simp (disch := omega) only [t_X2_has, ↓oo_m1, oo_0, oo_1, oo_2, oo_3, oo_4, oo_5, oo_6, oo_7, oo_8, oo_9, oo_10, oo_12, oo_13, oo_14, oo_15, oo_16, oo_17, oo_18, oo_20, oo_24, oo_30, oo_32, oo_36, oo_40, oo_41, oo_48, oo_50, oo_57, oo_59, oo_60, oo_61, oo_62, oo_63, oo_64, oo_66, oo_72, oo_78, oo_96, oo_97, oo_99, oo_100, oo_101, oo_105, oo_107, oo_108, oo_109, oo_110, oo_111, oo_112, oo_114, oo_115, oo_116, oo_117, oo_119, oo_122, oo_128, oo_130, oo_134, oo_135, oo_136, oo_137, oo_138, oo_139, oo_140, oo_141, oo_142, oo_143, oo_144, oo_145, oo_151, oo_157, oo_194, oo_200, oo_240, oo_255, oo_256, oo_274, oo_276, oo_300, oo_516, oo_900, oo_940, oo_941, oo_999, oo_1000, oo_1040, oo_10000, oo_add, oo_mul, oo_sub, oo_lt, oo_le, oo_eq, oo_nat, oo_div, oo_rem, oo_nn, nn_oo, oo_nnlt, nn_oolt, oo_nnle, nn_oole, ↓reduceIte, if_pos, if_neg, or_false, false_or, or_true, true_or, and_true, true_and, and_false, false_and, not_true_eq_false, not_false_eq_true, Nat.not_lt_zero, Bool.false_eq_true, Bool.true_eq_false, rf_7_0, rf_7_1, rf_7_2, rf_7_3, rf_7_4, rf_7_5, rf_7_6, rf_7_7, g_8, p_8, hH.n2, hx0]
      unfold f_X11_was
      rw [show rf 0 1 = 7 from rfl, show (2 : Int32) = oo 2 from rfl, hh, if_neg (by decide)]
      rfl
    · have hh : t_X12_isWitness 188 i B = false := by simp (disch := omega) only [t_X12_isWitness, ↓oo_m1, oo_0, oo_1, oo_2, oo_3, oo_4, oo_5, oo_6, oo_7, oo_8, oo_9, oo_10, oo_12, oo_13, oo_14, oo_15, oo_16, oo_17, oo_18, oo_20, oo_24, oo_30, oo_32, oo_36, oo_40, oo_41, oo_48, oo_50, oo_57, oo_59, oo_60, oo_61, oo_62, oo_63, oo_64, oo_66, oo_72, oo_78, oo_96, oo_97, oo_99, oo_100, oo_101, oo_105, oo_107, oo_108, oo_109, oo_110, oo_111, oo_112, oo_114, oo_115, oo_116, oo_117, oo_119, oo_122, oo_128, oo_130, oo_134, oo_135, oo_136, oo_137, oo_138, oo_139, oo_140, oo_141, oo_142, oo_143, oo_144, oo_145, oo_151, oo_157, oo_194, oo_200, oo_240, oo_255, oo_256, oo_274, oo_276, oo_300, oo_516, oo_900, oo_940, oo_941, oo_999, oo_1000, oo_1040, oo_10000, oo_add, oo_mul, oo_sub, oo_lt, oo_le, oo_eq, oo_nat, oo_div, oo_rem, oo_nn, nn_oo, oo_nnlt, nn_oolt, oo_nnle, nn_oole, ↓reduceIte, if_pos, if_neg, or_false, false_or, or_true, true_or, and_true, true_and, and_false, false_and, not_true_eq_false, not_false_eq_true, Nat.not_lt_zero, Bool.false_eq_true, Bool.true_eq_false, rf_188_1, rf_188_14, rf_188_15, rf_188_16, rf_188_17, rf_188_18, rf_188_19, rf_188_20, rf_188_21, rf_188_22, rf_188_24, rf_188_25, rf_188_26, rf_188_27, rf_188_28, rf_188_31, rf_188_32, rf_188_34, rf_188_35, rf_188_36, rf_188_37, rf_188_38, rf_188_42, rf_188_43, rf_188_51, rf_188_52, rf_188_53, rf_188_55, c3, hx0]
      unfold f_X12_was
      rw [show (0 : Int32) = oo 0 from rfl, htk]
      dsimp only
      rw [hh, if_neg (by decide)]
