/-! orders tried -/
def lpA (p : Nat → Bool) : Nat → Nat → Bool
  | 0, _ => false
  | m + 1, c => p c || lpA p m (c + 1)
def lpF (p : Nat → Option (Nat → Nat)) : Nat → Nat → Option (Nat → Nat)
  | 0, _ => none
  | m + 1, c => match p c with | some q => some q | none => lpF p m (c + 1)
theorem lpA_s (p : Nat → Bool) (m c : Nat) : lpA p (m + 1) c = (p c || lpA p m (c + 1)) := rfl
theorem lpA_f {p : Nat → Bool} {m c : Nat} (h : p c = false) : lpA p (m + 1) c = lpA p m (c + 1) := by
  rw [lpA_s, h]
  rfl
theorem ite_or (A B : Bool) (a b : Int32) : (if A = true then a else if B = true then a else b) = if (B || A) = true then a else b := by
  cases A <;> cases B <;> rfl
/-- the sets that one NOSE comes to -/
def RS (v : Nat → Nat) : Nat → Nat → (Nat → Nat) → Nat → Bool
  | 0, set, _, x => x == set
  | k + 1, set, l, x => (x == set) || lpA (fun c => !set.testBit c && (!dnN v c l && RS v k (set ||| 2 ^ c) (opN v c l) x)) (v 193) 0
/-- the first order that opens all -/
def FO (v : Nat → Nat) : Nat → Nat → Nat → (Nat → Nat) → (Nat → Nat) → Option (Nat → Nat)
  | 0, _, _, _, o => some o
  | k + 1, d, set, l, o => lpF (fun c => if set.testBit c = true then none else if dnN v c l = true then none else FO v k (d + 1) (set ||| 2 ^ c) (opN v c l) (upN o d c)) (v 193) 0
def PI (C : Nat) (o : Nat → Nat) (d set : Nat) : Prop := d ≤ C ∧ (∀ i, i < d → o i < C) ∧ (∀ i j, i < d → j < d → o i = o j → i = j) ∧ (∀ c, c < 8 → (set.testBit c = true ↔ ∃ i, i < d ∧ o i = c)) ∧ set < 256
theorem PI_inj {C : Nat} {o : Nat → Nat} {d set c : Nat} (h : PI C o d set) (hC : C ≤ 8) (hc : c < C) (ht : ¬ set.testBit c = true) : ∀ i j, i < d + 1 → j < d + 1 → upN o d c i = upN o d c j → i = j := by
  obtain ⟨h1, h2, h3, h4, h5⟩ := h
  have hn : ∀ i, i < d → o i ≠ c := fun i hi q => ht ((h4 c (by omega)).mpr ⟨i, hi, q⟩)
  intro i j hi hj hq
  by_cases a : i = d
  · by_cases b : j = d
    · omega
    · rw [a, upN_same, upN_ne b] at hq
      exact absurd hq.symm (hn j (by omega))
  · by_cases b : j = d
    · rw [b, upN_same, upN_ne a] at hq
      exact absurd hq (hn i (by omega))
    · rw [upN_ne a, upN_ne b] at hq
      exact h3 i j (by omega) (by omega) hq
theorem PI_lt {C : Nat} {o : Nat → Nat} {d set c : Nat} (h : PI C o d set) (hC : C ≤ 8) (hc : c < C) (ht : ¬ set.testBit c = true) : ∀ i, i < d + 1 → upN o d c i < C := by
  obtain ⟨h1, h2, h3, h4, h5⟩ := h
  intro i hi
  by_cases a : i = d
  · rw [a, upN_same]; exact hc
  · rw [upN_ne a]; exact h2 i (by omega)
theorem PI_step {C : Nat} {o : Nat → Nat} {d set c : Nat} (h : PI C o d set) (hC : C ≤ 8) (hc : c < C) (ht : ¬ set.testBit c = true) : PI C (upN o d c) (d + 1) (set ||| 2 ^ c) := by
  refine ⟨pig C (d + 1) _ (PI_lt h hC hc ht) (PI_inj h hC hc ht), PI_lt h hC hc ht, PI_inj h hC hc ht, fun x hx => ?_, bt_lt set h.2.2.2.2 c (by omega)⟩
  obtain ⟨h1, h2, h3, h4, h5⟩ := h
  rw [Nat.testBit_or, Nat.testBit_two_pow, Bool.or_eq_true, decide_eq_true_eq, h4 x hx]
  constructor
  · rintro (⟨i, hi, q⟩ | q)
    · exact ⟨i, by omega, by rw [upN_ne (by omega)]; exact q⟩
    · exact ⟨d, by omega, by rw [upN_same]; exact q⟩
  · rintro ⟨i, hi, q⟩
    by_cases a : i = d
    · rw [a, upN_same] at q
      exact .inr q
    · rw [upN_ne a] at q
      exact .inl ⟨i, by omega, q⟩
theorem PI_full {C : Nat} {o : Nat → Nat} {set c : Nat} (h : PI C o C set) (hC : C ≤ 8) (hc : c < C) : set.testBit c = true := by
  by_cases ht : set.testBit c = true
  · exact ht
  · have := (PI_step h hC hc ht).1
    omega
theorem PI_0 {C : Nat} {o : Nat → Nat} : PI C o 0 0 := ⟨Nat.zero_le _, fun i hi => by omega, fun i j hi => by omega, fun c _ => ⟨fun q => (by rw [Nat.zero_testBit] at q; cases q), fun ⟨i, hi, _⟩ => by omega⟩, by decide⟩
/-- nothing is found while a CLOTH is clean -/
theorem lpF_none {p : Nat → Option (Nat → Nat)} : ∀ m c, (∀ x, c ≤ x → x < c + m → p x = none) → lpF p m c = none := by
  intro m
  induction m with
  | zero => intro c _; rfl
  | succ m ih =>
    intro c h
    rw [lpF, h c (by omega) (by omega)]
    exact ih (c + 1) (fun x h1 h2 => h x (by omega) (by omega))
theorem FO_clean {v : Nat → Nat} (h8 : v 193 ≤ 8) {c0 : Nat} (hc0 : c0 < v 193) (hcl : sgF (clothG v c0) 6 = 0) : ∀ k d set l o, d + k = v 193 → PI (v 193) o d set → ¬ set.testBit c0 = true → FO v k d set l o = none := by
  intro k
  induction k with
  | zero =>
    intro d set l o hd hP ht
    obtain rfl : d = v 193 := by omega
    exact absurd (PI_full hP h8 hc0) ht
  | succ k ih =>
    intro d set l o hd hP ht
    rw [FO]
    refine lpF_none _ _ (fun x h1 h2 => ?_)
    by_cases a : set.testBit x = true
    · rw [if_pos a]
    · rw [if_neg a]
      by_cases b : dnN v x l = true
      · rw [if_pos b]
      · rw [if_neg b]
        refine ih (d + 1) _ _ _ (by omega) (PI_step hP h8 (by omega) a) ?_
        rw [Nat.testBit_or, Nat.testBit_two_pow, Bool.or_eq_true, decide_eq_true_eq]
        rintro (q | q)
        · exact ht q
        · refine b ?_
          unfold dnN
          rw [q]
          exact decide_eq_true (.inl hcl)
theorem bit_not {s k : Nat} (hs : s < 256) (hk : k < 8) : (shr32 (oo s) (oo k)) &&& oo 1 = if s.testBit k = true then oo 1 else oo 0 := by
  rw [bt_has s hs k hk]
  split <;> rfl
section TR
variable {v : Nat → Nat}
def TC (v : Nat → Nat) (d : Nat) (l o : Nat → Nat) (T : XS) : Prop := IsWd T 28 v ∧ (∀ c, c < v 193 → T.1 160 c = enc (sgF (clothG v c) 6)) ∧ (∀ s, s < 6 → T.1 162 (d * 6 + s) = oo (l s) ∧ l s ≤ 99) ∧ (∀ i, i < d → T.1 161 i = oo (o i))
def UC (v : Nat → Nat) (d : Nat) (o : Nat → Nat) (F : Option (Nat → Nat)) (R : Nat → Bool) (T U : XS) : Prop := Fr [(161, 9999), (162, 9999), (163, 9999)] T U ∧ (∀ i, i < d → U.1 161 i = oo (o i)) ∧ (∀ j, j < d * 6 + 6 → U.1 162 j = T.1 162 j) ∧ (∀ p, F = some p → ∀ i, i < v 193 → U.1 161 i = oo (p i)) ∧ (F = none → ∀ x, x < 256 → U.1 163 x = if R x = true then oo 1 else T.1 163 x)
theorem TC.keep {d : Nat} {l o : Nat → Nat} {T U : XS} (h : TC v d l o T) (hF : Fr [(161, 9999), (162, 9999), (163, 9999)] T U) (h1 : ∀ i, i < d → U.1 161 i = oo (o i)) (h2 : ∀ j, j < d * 6 + 6 → U.1 162 j = T.1 162 j) : TC v d l o U := by
  obtain ⟨a1, a2, a3, a4⟩ := h
  exact ⟨a1.fr hF rfl, fun c hc => by rw [hF.row (c := 160) rfl]; exact a2 c hc, fun s hs => by rw [h2 _ (by omega)]; exact a3 s hs, h1⟩
theorem try_c (hS : SOK v) : ∀ f k d set l o T, k < f → d + k = v 193 → PI (v 193) o d set → TC v d l o T → ∃ U, rX4_tryNext f 157 28 (oo d) (oo set) T = some ((FO v k d set l o).isSome, U) ∧ UC v d o (FO v k d set l o) (RS v k set l) T U := by
  have h8 := hS.c8
  intro f
  induction f with
  | zero => intro k d set l o T hk; omega
  | succ f ih =>
    intro k d set l o T hk hd hP hT
    have hset := hP.2.2.2.2
    have hF0 : Fr [(161, 9999), (162, 9999), (163, 9999)] T (sI T 163 set (oo 1)) := Fr.sIr (Fr.rf _ _) rfl
    have hp : pat T 163 (oo set) (oo 1) = sI T 163 set (oo 1) := p_163 hset
    have hT0 : TC v d l o (sI T 163 set (oo 1)) := hT.keep hF0 (fun i hi => by rw [sI_cell (by decide)]; exact hT.2.2.2 i hi) (fun j _ => by rw [sI_cell (by decide)])
    have h284 : (sI T 163 set (oo 1)).1 28 4 = oo (v 193) := hT0.1.cn
    have hm0 : ∀ x, x < 256 → (sI T 163 set (oo 1)).1 163 x = if (x == set) = true then oo 1 else T.1 163 x := fun x hx => by
      by_cases h : x = set
      · rw [h, sI_same, if_pos (by simp)]
      · rw [sI_place h, if_neg (by simpa using h)]
    cases k with
    | zero =>
      obtain rfl : d = v 193 := by omega
      refine ⟨sI T 163 set (oo 1), ?_, hF0, hT0.2.2.2, fun j _ => by rw [sI_cell (by decide)], fun p hp2 i hi => ?_, fun h => by cases h⟩
      · show f_X4_tryNext (rX4_tryNext f) 157 28 (oo (v 193)) (oo set) T = _
        simp (disch := omega) only [f_X4_tryNext, ↓oo_m1, oo_0, oo_1, oo_2, oo_3, oo_4, oo_5, oo_6, oo_7, oo_8, oo_9, oo_10, oo_12, oo_13, oo_14, oo_15, oo_16, oo_17, oo_18, oo_20, oo_24, oo_30, oo_32, oo_36, oo_40, oo_41, oo_48, oo_50, oo_57, oo_59, oo_60, oo_61, oo_62, oo_63, oo_64, oo_66, oo_72, oo_78, oo_96, oo_97, oo_99, oo_100, oo_101, oo_105, oo_107, oo_108, oo_109, oo_110, oo_111, oo_112, oo_114, oo_115, oo_116, oo_117, oo_119, oo_122, oo_128, oo_130, oo_134, oo_135, oo_136, oo_137, oo_138, oo_139, oo_140, oo_141, oo_142, oo_143, oo_144, oo_145, oo_151, oo_157, oo_194, oo_200, oo_240, oo_255, oo_256, oo_274, oo_276, oo_300, oo_516, oo_900, oo_940, oo_941, oo_999, oo_1000, oo_1040, oo_10000, oo_add, oo_mul, oo_sub, oo_lt, oo_le, oo_eq, oo_nat, oo_div, oo_rem, oo_nn, nn_oo, oo_nnlt, nn_oolt, oo_nnle, nn_oole, ↓reduceIte, if_pos, if_neg, or_false, false_or, or_true, true_or, and_true, true_and, and_false, false_and, not_true_eq_false, not_false_eq_true, Nat.not_lt_zero, Bool.false_eq_true, Bool.true_eq_false, rf_28_1, rf_28_2, rf_28_3, rf_28_5, rf_28_6, rf_28_7, rf_28_8, rf_157_0, rf_157_3, rf_157_4, rf_157_5, rf_157_6, rf_157_7, rf_157_8, hp, h284, FO, Option.isSome_some]
      · obtain rfl : o = p := Option.some.inj hp2
        exact hT0.2.2.2 i hi
    | succ k =>
      have hstep : ∀ m c n T1, c + m = v 193 → m < n → TC v d l o T1 → ∃ U, f_X4_tryNext_L28 (rX4_tryNext f) 157 28 (oo d) (oo set) n (oo c) T1 = some (if (lpF (fun c => if set.testBit c = true then none else if dnN v c l = true then none else FO v k (d + 1) (set ||| 2 ^ c) (opN v c l) (upN o d c)) m c).isSome = true then .inl (true, U) else .inr U) ∧ UC v d o (lpF (fun c => if set.testBit c = true then none else if dnN v c l = true then none else FO v k (d + 1) (set ||| 2 ^ c) (opN v c l) (upN o d c)) m c) (fun x => lpA (fun c => !set.testBit c && (!dnN v c l && RS v k (set ||| 2 ^ c) (opN v c l) x)) m c) T1 U := by
        intro m
        induction m with
        | zero =>
          intro c n T1 hc hn h1
          obtain ⟨n, rfl⟩ : ∃ n', n = n' + 1 := ⟨n - 1, by omega⟩
          have e := h1.1.cn
          refine ⟨T1, ?_, Fr.rf _ _, h1.2.2.2, fun _ _ => rfl, fun p h => (by cases h), fun _ x _ => ?_⟩
          · simp (disch := omega) only [f_X4_tryNext_L28, ↓oo_m1, oo_0, oo_1, oo_2, oo_3, oo_4, oo_5, oo_6, oo_7, oo_8, oo_9, oo_10, oo_12, oo_13, oo_14, oo_15, oo_16, oo_17, oo_18, oo_20, oo_24, oo_30, oo_32, oo_36, oo_40, oo_41, oo_48, oo_50, oo_57, oo_59, oo_60, oo_61, oo_62, oo_63, oo_64, oo_66, oo_72, oo_78, oo_96, oo_97, oo_99, oo_100, oo_101, oo_105, oo_107, oo_108, oo_109, oo_110, oo_111, oo_112, oo_114, oo_115, oo_116, oo_117, oo_119, oo_122, oo_128, oo_130, oo_134, oo_135, oo_136, oo_137, oo_138, oo_139, oo_140, oo_141, oo_142, oo_143, oo_144, oo_145, oo_151, oo_157, oo_194, oo_200, oo_240, oo_255, oo_256, oo_274, oo_276, oo_300, oo_516, oo_900, oo_940, oo_941, oo_999, oo_1000, oo_1040, oo_10000, oo_add, oo_mul, oo_sub, oo_lt, oo_le, oo_eq, oo_nat, oo_div, oo_rem, oo_nn, nn_oo, oo_nnlt, nn_oolt, oo_nnle, nn_oole, ↓reduceIte, if_pos, if_neg, or_false, false_or, or_true, true_or, and_true, true_and, and_false, false_and, not_true_eq_false, not_false_eq_true, Nat.not_lt_zero, Bool.false_eq_true, Bool.true_eq_false, e, lpF, Option.isSome_none]
          · exact (if_neg (by simp [lpA])).symm
        | succ m ihm =>
          intro c n T1 hc hn h1
          obtain ⟨n, rfl⟩ : ∃ n', n = n' + 1 := ⟨n - 1, by omega⟩
          have e := h1.1.cn
          have hbn := bit_not hset (k := c) (by omega)
          rw [lpF]
          by_cases ht : set.testBit c = true
          · rw [if_pos ht] at hbn
            obtain ⟨U, u1, u2, u3, u4, u5, u6⟩ := ihm (c + 1) n T1 (by omega) (by omega) h1
            rw [if_pos ht]
            try dsimp only
            refine ⟨U, ?_, u2, u3, u4, u5, fun hq x hx => ?_⟩
            · simp (disch := omega) only [f_X4_tryNext_L28, ↓oo_m1, oo_0, oo_1, oo_2, oo_3, oo_4, oo_5, oo_6, oo_7, oo_8, oo_9, oo_10, oo_12, oo_13, oo_14, oo_15, oo_16, oo_17, oo_18, oo_20, oo_24, oo_30, oo_32, oo_36, oo_40, oo_41, oo_48, oo_50, oo_57, oo_59, oo_60, oo_61, oo_62, oo_63, oo_64, oo_66, oo_72, oo_78, oo_96, oo_97, oo_99, oo_100, oo_101, oo_105, oo_107, oo_108, oo_109, oo_110, oo_111, oo_112, oo_114, oo_115, oo_116, oo_117, oo_119, oo_122, oo_128, oo_130, oo_134, oo_135, oo_136, oo_137, oo_138, oo_139, oo_140, oo_141, oo_142, oo_143, oo_144, oo_145, oo_151, oo_157, oo_194, oo_200, oo_240, oo_255, oo_256, oo_274, oo_276, oo_300, oo_516, oo_900, oo_940, oo_941, oo_999, oo_1000, oo_1040, oo_10000, oo_add, oo_mul, oo_sub, oo_lt, oo_le, oo_eq, oo_nat, oo_div, oo_rem, oo_nn, nn_oo, oo_nnlt, nn_oolt, oo_nnle, nn_oole, ↓reduceIte, if_pos, if_neg, or_false, false_or, or_true, true_or, and_true, true_and, and_false, false_and, not_true_eq_false, not_false_eq_true, Nat.not_lt_zero, Bool.false_eq_true, Bool.true_eq_false, e, hbn]
              exact u1
            · have e : lpA (fun c => !set.testBit c && (!dnN v c l && RS v k (set ||| 2 ^ c) (opN v c l) x)) (m + 1) c = lpA (fun c => !set.testBit c && (!dnN v c l && RS v k (set ||| 2 ^ c) (opN v c l) x)) m (c + 1) := lpA_f (by simp [ht])
              exact (u6 hq x hx).trans (congrArg (fun z : Bool => if z = true then oo 1 else T1.1 163 x) e.symm)
          · rw [if_neg ht] at hbn
            rw [if_neg ht]
            have hdn := dn_c h1.1 hS (a := 162) (r := d) (N := 54) (l := l) (c := c) (by omega) rfl (by decide) (by omega) h1.2.2.1
            have e160 := h1.2.1 c (by omega)
            by_cases hd2 : dnN v c l = true
            · rw [hd2] at hdn
              obtain ⟨U, u1, u2, u3, u4, u5, u6⟩ := ihm (c + 1) n T1 (by omega) (by omega) h1
              rw [if_pos hd2]
              dsimp only
              refine ⟨U, ?_, u2, u3, u4, u5, fun hq x hx => ?_⟩
              · simp (disch := omega) only [f_X4_tryNext_L28, f_X4_tryCloth, ↓oo_m1, oo_0, oo_1, oo_2, oo_3, oo_4, oo_5, oo_6, oo_7, oo_8, oo_9, oo_10, oo_12, oo_13, oo_14, oo_15, oo_16, oo_17, oo_18, oo_20, oo_24, oo_30, oo_32, oo_36, oo_40, oo_41, oo_48, oo_50, oo_57, oo_59, oo_60, oo_61, oo_62, oo_63, oo_64, oo_66, oo_72, oo_78, oo_96, oo_97, oo_99, oo_100, oo_101, oo_105, oo_107, oo_108, oo_109, oo_110, oo_111, oo_112, oo_114, oo_115, oo_116, oo_117, oo_119, oo_122, oo_128, oo_130, oo_134, oo_135, oo_136, oo_137, oo_138, oo_139, oo_140, oo_141, oo_142, oo_143, oo_144, oo_145, oo_151, oo_157, oo_194, oo_200, oo_240, oo_255, oo_256, oo_274, oo_276, oo_300, oo_516, oo_900, oo_940, oo_941, oo_999, oo_1000, oo_1040, oo_10000, oo_add, oo_mul, oo_sub, oo_lt, oo_le, oo_eq, oo_nat, oo_div, oo_rem, oo_nn, nn_oo, oo_nnlt, nn_oolt, oo_nnle, nn_oole, ↓reduceIte, if_pos, if_neg, or_false, false_or, or_true, true_or, and_true, true_and, and_false, false_and, not_true_eq_false, not_false_eq_true, Nat.not_lt_zero, Bool.false_eq_true, Bool.true_eq_false, Option.bind_some, Option.bind_none, rf_157_0, rf_157_3, rf_157_4, rf_157_5, rf_157_6, rf_157_7, rf_157_8, e, hbn, g_160, e160, hdn]
                exact u1
              · have e : lpA (fun c => !set.testBit c && (!dnN v c l && RS v k (set ||| 2 ^ c) (opN v c l) x)) (m + 1) c = lpA (fun c => !set.testBit c && (!dnN v c l && RS v k (set ||| 2 ^ c) (opN v c l) x)) m (c + 1) := lpA_f (by simp [hd2])
                exact (u6 hq x hx).trans (congrArg (fun z : Bool => if z = true then oo 1 else T1.1 163 x) e.symm)
            · have hd3 : dnN v c l = false := by cases hz : dnN v c l with | false => rfl | true => exact absurd hz hd2
              rw [hd3] at hdn
              rw [if_neg hd2]
              have hF1 : Fr [(161, 9999), (162, 9999), (163, 9999)] T1 (sI T1 161 d (oo c)) := Fr.sIr (Fr.rf _ _) rfl
              have hW1 : IsWd (sI T1 161 d (oo c)) 28 v := h1.1.fr hF1 rfl
              have ho := open_c hW1 hS (c := c) (a := 162) (r := d) (q := d + 1) (N := 54) (l := l) (by omega) rfl (by decide) (by decide) (by omega) (.inr rfl) (by omega) (fun s hs => by rw [sI_cell (by decide)]; exact h1.2.2.1 s hs)
              have hF2 : Fr [(161, 9999), (162, 9999), (163, 9999)] T1 (blk (sI T1 161 d (oo c)) 162 ((d + 1) * 6) 6 (fun j => oo (opN v c l (j - (d + 1) * 6)))) := Fr.blk hF1 rfl
              have hT2 : TC v (d + 1) (opN v c l) (upN o d c) (blk (sI T1 161 d (oo c)) 162 ((d + 1) * 6) 6 (fun j => oo (opN v c l (j - (d + 1) * 6)))) := by
                refine ⟨h1.1.fr hF2 rfl, fun x hx => by rw [hF2.row (c := 160) rfl]; exact h1.2.1 x hx, fun s hs => ⟨by rw [blk_in (by omega), Nat.add_sub_cancel_left], opN_le hS (by omega) hs (h1.2.2.1 s hs).2⟩, fun i hi => ?_⟩
                rw [blk_cell (by decide)]
                by_cases hi2 : i = d
                · rw [hi2, sI_same, upN_same]
                · rw [sI_place hi2, upN_ne hi2]; exact h1.2.2.2 i (by omega)
              have k162 : ∀ j, j < d * 6 + 6 → (blk (sI T1 161 d (oo c)) 162 ((d + 1) * 6) 6 (fun j => oo (opN v c l (j - (d + 1) * 6)))).1 162 j = T1.1 162 j := fun j hj => by rw [blk_out (by omega), sI_cell (by decide)]
              have k163 : (blk (sI T1 161 d (oo c)) 162 ((d + 1) * 6) 6 (fun j => oo (opN v c l (j - (d + 1) * 6)))).1 163 = T1.1 163 := by rw [blk_cell (by decide), sI_cell (by decide)]
              have hpd : ∀ x, pat T1 161 (oo d) x = sI T1 161 d x := fun x => p_161 (by omega)
              have hor := bt_or set hset c (by omega)
              generalize blk (sI T1 161 d (oo c)) 162 ((d + 1) * 6) 6 (fun j => oo (opN v c l (j - (d + 1) * 6))) = T2 at *
              obtain ⟨V, z1, z2, z3, z4, z5, z6⟩ := ih k (d + 1) (set ||| 2 ^ c) (opN v c l) (upN o d c) T2 (by omega) (by omega) (PI_step hP h8 (by omega) ht) hT2
              have hF3 : Fr [(161, 9999), (162, 9999), (163, 9999)] T1 V := Fr.trans hF2 z2
              have v161 : ∀ i, i < d → V.1 161 i = oo (o i) := fun i hi => by rw [z3 i (by omega), upN_ne (by omega)]
              have v162 : ∀ j, j < d * 6 + 6 → V.1 162 j = T1.1 162 j := fun j hj => by rw [z4 j (by omega), k162 j hj]
              cases hFO : FO v k (d + 1) (set ||| 2 ^ c) (opN v c l) (upN o d c) with
              | some p =>
                rw [hFO] at z1 z5
                dsimp only
                refine ⟨V, ?_, hF3, v161, v162, fun p2 hp2 i hi => ?_, fun h => by cases h⟩
                · simp (disch := omega) only [f_X4_tryNext_L28, f_X4_tryCloth, ↓oo_m1, oo_0, oo_1, oo_2, oo_3, oo_4, oo_5, oo_6, oo_7, oo_8, oo_9, oo_10, oo_12, oo_13, oo_14, oo_15, oo_16, oo_17, oo_18, oo_20, oo_24, oo_30, oo_32, oo_36, oo_40, oo_41, oo_48, oo_50, oo_57, oo_59, oo_60, oo_61, oo_62, oo_63, oo_64, oo_66, oo_72, oo_78, oo_96, oo_97, oo_99, oo_100, oo_101, oo_105, oo_107, oo_108, oo_109, oo_110, oo_111, oo_112, oo_114, oo_115, oo_116, oo_117, oo_119, oo_122, oo_128, oo_130, oo_134, oo_135, oo_136, oo_137, oo_138, oo_139, oo_140, oo_141, oo_142, oo_143, oo_144, oo_145, oo_151, oo_157, oo_194, oo_200, oo_240, oo_255, oo_256, oo_274, oo_276, oo_300, oo_516, oo_900, oo_940, oo_941, oo_999, oo_1000, oo_1040, oo_10000, oo_add, oo_mul, oo_sub, oo_lt, oo_le, oo_eq, oo_nat, oo_div, oo_rem, oo_nn, nn_oo, oo_nnlt, nn_oolt, oo_nnle, nn_oole, ↓reduceIte, if_pos, if_neg, or_false, false_or, or_true, true_or, and_true, true_and, and_false, false_and, not_true_eq_false, not_false_eq_true, Nat.not_lt_zero, Bool.false_eq_true, Bool.true_eq_false, Option.bind_some, Option.bind_none, rf_157_0, rf_157_3, rf_157_4, rf_157_5, rf_157_6, rf_157_7, rf_157_8, e, hbn, g_160, e160, hdn, hpd, ho, hor, z1, Option.isSome_some]
                · obtain rfl : p = p2 := Option.some.inj hp2
                  exact z5 p rfl i hi
              | none =>
                rw [hFO] at z1 z6
                dsimp only
                obtain ⟨U, u1, u2, u3, u4, u5, u6⟩ := ihm (c + 1) n V (by omega) (by omega) (h1.keep hF3 v161 v162)
                refine ⟨U, ?_, Fr.trans hF3 u2, u3, fun j hj => by rw [u4 j hj, v162 j hj], u5, fun hq x hx => ?_⟩
                · simp (disch := omega) only [f_X4_tryNext_L28, f_X4_tryCloth, ↓oo_m1, oo_0, oo_1, oo_2, oo_3, oo_4, oo_5, oo_6, oo_7, oo_8, oo_9, oo_10, oo_12, oo_13, oo_14, oo_15, oo_16, oo_17, oo_18, oo_20, oo_24, oo_30, oo_32, oo_36, oo_40, oo_41, oo_48, oo_50, oo_57, oo_59, oo_60, oo_61, oo_62, oo_63, oo_64, oo_66, oo_72, oo_78, oo_96, oo_97, oo_99, oo_100, oo_101, oo_105, oo_107, oo_108, oo_109, oo_110, oo_111, oo_112, oo_114, oo_115, oo_116, oo_117, oo_119, oo_122, oo_128, oo_130, oo_134, oo_135, oo_136, oo_137, oo_138, oo_139, oo_140, oo_141, oo_142, oo_143, oo_144, oo_145, oo_151, oo_157, oo_194, oo_200, oo_240, oo_255, oo_256, oo_274, oo_276, oo_300, oo_516, oo_900, oo_940, oo_941, oo_999, oo_1000, oo_1040, oo_10000, oo_add, oo_mul, oo_sub, oo_lt, oo_le, oo_eq, oo_nat, oo_div, oo_rem, oo_nn, nn_oo, oo_nnlt, nn_oolt, oo_nnle, nn_oole, ↓reduceIte, if_pos, if_neg, or_false, false_or, or_true, true_or, and_true, true_and, and_false, false_and, not_true_eq_false, not_false_eq_true, Nat.not_lt_zero, Bool.false_eq_true, Bool.true_eq_false, Option.bind_some, Option.bind_none, rf_157_0, rf_157_3, rf_157_4, rf_157_5, rf_157_6, rf_157_7, rf_157_8, e, hbn, g_160, e160, hdn, hpd, ho, hor, z1, Option.isSome_none]
                  exact u1
                · have ht2 : set.testBit c = false := by cases hz : set.testBit c with | false => rfl | true => exact absurd hz ht
                  have e : lpA (fun c => !set.testBit c && (!dnN v c l && RS v k (set ||| 2 ^ c) (opN v c l) x)) (m + 1) c = (RS v k (set ||| 2 ^ c) (opN v c l) x || lpA (fun c => !set.testBit c && (!dnN v c l && RS v k (set ||| 2 ^ c) (opN v c l) x)) m (c + 1)) := by
                    rw [lpA_s]
                    simp [ht2, hd3]
                  rw [u6 hq x hx, z6 rfl x hx, k163]
                  exact (ite_or _ _ _ _).trans (congrArg (fun z : Bool => if z = true then oo 1 else T1.1 163 x) e.symm)
      obtain ⟨U, u1, u2, u3, u4, u5, u6⟩ := hstep (v 193) 0 1000000 (sI T 163 set (oo 1)) (by omega) (by omega) hT0
      have hFO : FO v (k + 1) d set l o = lpF (fun c => if set.testBit c = true then none else if dnN v c l = true then none else FO v k (d + 1) (set ||| 2 ^ c) (opN v c l) (upN o d c)) (v 193) 0 := rfl
      rw [hFO]
      refine ⟨U, ?_, Fr.trans hF0 u2, u3, fun j hj => by rw [u4 j hj, sI_cell (by decide)], u5, fun hq x hx => ?_⟩
      · show f_X4_tryNext (rX4_tryNext f) 157 28 (oo d) (oo set) T = _
        simp (disch := omega) only [f_X4_tryNext, ↓oo_m1, oo_0, oo_1, oo_2, oo_3, oo_4, oo_5, oo_6, oo_7, oo_8, oo_9, oo_10, oo_12, oo_13, oo_14, oo_15, oo_16, oo_17, oo_18, oo_20, oo_24, oo_30, oo_32, oo_36, oo_40, oo_41, oo_48, oo_50, oo_57, oo_59, oo_60, oo_61, oo_62, oo_63, oo_64, oo_66, oo_72, oo_78, oo_96, oo_97, oo_99, oo_100, oo_101, oo_105, oo_107, oo_108, oo_109, oo_110, oo_111, oo_112, oo_114, oo_115, oo_116, oo_117, oo_119, oo_122, oo_128, oo_130, oo_134, oo_135, oo_136, oo_137, oo_138, oo_139, oo_140, oo_141, oo_142, oo_143, oo_144, oo_145, oo_151, oo_157, oo_194, oo_200, oo_240, oo_255, oo_256, oo_274, oo_276, oo_300, oo_516, oo_900, oo_940, oo_941, oo_999, oo_1000, oo_1040, oo_10000, oo_add, oo_mul, oo_sub, oo_lt, oo_le, oo_eq, oo_nat, oo_div, oo_rem, oo_nn, nn_oo, oo_nnlt, nn_oolt, oo_nnle, nn_oole, ↓reduceIte, if_pos, if_neg, or_false, false_or, or_true, true_or, and_true, true_and, and_false, false_and, not_true_eq_false, not_false_eq_true, Nat.not_lt_zero, Bool.false_eq_true, Bool.true_eq_false, Option.bind_some, Option.bind_none, rf_28_1, rf_28_2, rf_28_3, rf_28_5, rf_28_6, rf_28_7, rf_28_8, rf_157_0, rf_157_3, rf_157_4, rf_157_5, rf_157_6, rf_157_7, rf_157_8, hp, h284, u1]
        cases (lpF (fun c => if set.testBit c = true then none else if dnN v c l = true then none else FO v k (d + 1) (set ||| 2 ^ c) (opN v c l) (upN o d c)) (v 193) 0).isSome <;> rfl
      · rw [u6 hq x hx, hm0 x hx, RS]
        exact ite_or _ _ _ _
end TR
