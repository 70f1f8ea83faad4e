/-! the class's search -/
def FW : List (Nat × Nat) := [(165, 3), (165, 5), (166, 9999), (167, 9999), (170, 9999), (171, 9999)]
def wC (n : Nat) (T0 T : XS) (A : WAc) : Prop := T.1 165 5 = oo A.1 ∧ (∀ t x, 1 ≤ t → t ≤ n → x < 6 → T.1 166 (t * 6 + x) = oo (A.2.1 t x) ∧ A.2.1 t x ≤ A.1) ∧ (if A.1 = 0 then T.1 165 3 = T0.1 165 3 ∧ T.1 167 = T0.1 167 else T.1 165 3 = oo n ∧ ∀ t, 1 ≤ t → t ≤ n → T.1 167 t = oo (A.2.2.getD (n - t) 0))
def wR (v : Nat → Nat) (w : Nat) (T : XS) (R : List Nat) : Prop := (∀ t, 1 ≤ t → t ≤ R.length → T.1 170 t = oo (R.getD (R.length - t) 0)) ∧ ∀ t s, t ≤ R.length → s < 6 → T.1 171 (t * 6 + s) = oo (ctR v w (R.drop (R.length - t)) s)
theorem mem_getD {R : List Nat} {j : Nat} (h : j < R.length) : R.getD j 0 ∈ R := by
  rw [List.getD_eq_getElem?_getD, List.getElem?_eq_getElem h]
  exact List.getElem_mem h
section WC
variable {v : Nat → Nat} {w n np : Nat} {T0 : XS}
theorem addL_c {A : WAc} {R : List Nat} (hn6 : n ≤ 6) (hR : R.length = n) (hR6 : ∀ p ∈ R, p < 6) (hA : A.1 < 1000000) : ∀ m k i (T : XS), k + m = n + 1 → m < i → 1 ≤ k → T.1 165 0 = oo n → (∀ t, 1 ≤ t → t ≤ n → T.1 170 t = oo (R.getD (n - t) 0)) → (∀ t x, 1 ≤ t → t ≤ n → x < 6 → T.1 166 (t * 6 + x) = oo (A.2.1 t x + (if t < k ∧ R.getD (n - t) 0 = x then 1 else 0)) ∧ A.2.1 t x ≤ A.1) → ∃ U, f_X9_addRow_L38 165 i (oo k) T = some U ∧ (∀ t x, 1 ≤ t → t ≤ n → x < 6 → U.1 166 (t * 6 + x) = oo (A.2.1 t x + (if R.getD (n - t) 0 = x then 1 else 0))) ∧ Fr [(166, 9999)] T U := by
  intro m
  induction m with
  | zero =>
    intro k i T hk hi h1 h0 h170 h166
    obtain ⟨i, rfl⟩ : ∃ i', i = i' + 1 := ⟨i - 1, by omega⟩
    obtain rfl : k = n + 1 := by omega
    refine ⟨T, ?_, fun t x ht1 ht2 hx => ?_, Fr.rf _ _⟩
    · rw [f_X9_addRow_L38, h0, if_pos (by rw [oo_lt (by omega) (by omega)]; omega)]
    · rw [(h166 t x ht1 ht2 hx).1]
      congr 2
      by_cases hq : R.getD (n - t) 0 = x
      · rw [if_pos ⟨by omega, hq⟩, if_pos hq]
      · rw [if_neg (fun z => hq z.2), if_neg hq]
  | succ m ih =>
    intro k i T hk hi h1 h0 h170 h166
    obtain ⟨i, rfl⟩ : ∃ i', i = i' + 1 := ⟨i - 1, by omega⟩
    have hp := hR6 _ (mem_getD (R := R) (j := n - k) (by omega))
    obtain ⟨e1, e2⟩ := h166 k (R.getD (n - k) 0) h1 (by omega) hp
    rw [if_neg (fun z => absurd z.1 (Nat.lt_irrefl _)), Nat.add_zero] at e1
    have e170 : gat T 170 (oo k) = oo (R.getD (n - k) 0) := by rw [g_170 (by omega), h170 k h1 (by omega)]
    generalize hpp : R.getD (n - k) 0 = p at hp e1 e2 e170
    have e166 : gat T 166 (oo (k * 6 + p)) = oo (A.2.1 k p) := by rw [g_166 (by omega), e1]
    have F1 : Fr [(166, 9999)] T (sI T 166 (k * 6 + p) (oo (A.2.1 k p + 1))) := Fr.sIr (Fr.rf _ _) rfl
    obtain ⟨U, u1, u2, u3⟩ := ih (k + 1) i (sI T 166 (k * 6 + p) (oo (A.2.1 k p + 1))) (by omega) (by omega) (by omega) (by rw [F1.get rfl]; exact h0) (fun t a b => by rw [F1.row (c := 170) rfl]; exact h170 t a b) (fun t x ht1 ht2 hx => by
      obtain ⟨g1, g2⟩ := h166 t x ht1 ht2 hx
      refine ⟨?_, g2⟩
      by_cases hq : t = k ∧ x = p
      · obtain ⟨rfl, rfl⟩ := hq
        rw [sI_same, if_pos ⟨Nat.lt_succ_self _, hpp⟩]
      · rw [sI_place (by omega), g1]
        congr 2
        by_cases hz : R.getD (n - t) 0 = x
        · by_cases hzt : t < k
          · rw [if_pos ⟨hzt, hz⟩, if_pos ⟨by omega, hz⟩]
          · rw [if_neg (fun z => hzt z.1), if_neg (fun z => by
              have ht : t = k := by omega
              rw [ht, hpp] at hz
              exact hq ⟨ht, hz.symm⟩)]
        · rw [if_neg (fun z => hz z.2), if_neg (fun z => hz z.2)])
    refine ⟨U, ?_, u2, Fr.trans F1 u3⟩
    simp (disch := omega) only [f_X9_addRow_L38, ↓oo_m1, oo_0, oo_1, oo_2, oo_3, oo_4, oo_5, oo_6, oo_7, oo_8, oo_9, oo_10, oo_12, oo_13, oo_14, oo_15, oo_16, oo_17, oo_18, oo_20, oo_24, oo_30, oo_32, oo_36, oo_40, oo_41, oo_48, oo_50, oo_57, oo_59, oo_60, oo_61, oo_62, oo_63, oo_64, oo_66, oo_72, oo_78, oo_96, oo_97, oo_99, oo_100, oo_101, oo_105, oo_107, oo_108, oo_109, oo_110, oo_111, oo_112, oo_114, oo_115, oo_116, oo_117, oo_119, oo_122, oo_128, oo_130, oo_134, oo_135, oo_136, oo_137, oo_138, oo_139, oo_140, oo_141, oo_142, oo_143, oo_144, oo_145, oo_151, oo_157, oo_194, oo_200, oo_240, oo_255, oo_256, oo_274, oo_276, oo_300, oo_516, oo_900, oo_940, oo_941, oo_999, oo_1000, oo_1040, oo_10000, oo_add, oo_mul, oo_sub, oo_lt, oo_le, oo_eq, oo_nat, oo_div, oo_rem, oo_nn, nn_oo, oo_nnlt, nn_oolt, oo_nnle, nn_oole, ↓reduceIte, if_pos, if_neg, or_false, false_or, or_true, true_or, and_true, true_and, and_false, false_and, not_true_eq_false, not_false_eq_true, Nat.not_lt_zero, Bool.false_eq_true, Bool.true_eq_false, rf_165_2, rf_165_4, rf_165_6, rf_165_7, rf_165_8, rf_165_9, h0, e170, e166, g_166, p_166]
    exact u1
theorem addRow_c {A : WAc} {R : List Nat} {T : XS} (hn6 : n ≤ 6) (hR : R.length = n) (hR6 : ∀ p ∈ R, p < 6) (hA : A.1 < 1000000) (h0 : T.1 165 0 = oo n) (hC : wC n T0 T A) (hr : wR v w T R) : ∃ U, f_X9_addRow 165 T = some U ∧ wC n T0 U (addN n R A) ∧ Fr [(165, 3), (165, 5), (166, 9999), (167, 9999)] T U := by
  obtain ⟨c1, c2, c3⟩ := hC
  have key : ∃ T1, (if T.1 165 5 = 0 then some (cpy (sI T 165 3 (T.1 165 0)) 170 167) else some T) = some T1 ∧ T1.1 165 5 = oo A.1 ∧ Fr [(165, 3), (167, 9999)] T T1 ∧ T1.1 165 3 = oo n ∧ (∀ t, 1 ≤ t → t ≤ n → T1.1 167 t = oo ((if A.1 = 0 then R else A.2.2).getD (n - t) 0)) := by
    by_cases hz : A.1 = 0
    · have F1 : Fr [(165, 3), (167, 9999)] T (cpy (sI T 165 3 (T.1 165 0)) 170 167) := fun d j hd => by
        have hne : d ≠ 167 := fun q => by
          subst q
          unfold tch at hd
          rw [List.any_eq_false] at hd
          exact hd (167, 9999) (by decide) (by simp)
        have hne2 : ¬ (d = 165 ∧ j = 3) := fun q => by
          obtain ⟨rfl, rfl⟩ := q
          unfold tch at hd
          rw [List.any_eq_false] at hd
          exact hd (165, 3) (by decide) (by simp)
        rw [cpy_cell hne, cpy_long]
        refine ⟨?_, rfl⟩
        simp only [sI, up2]
        exact if_neg hne2
      refine ⟨_, by rw [c1, hz, if_pos (show oo 0 = (0 : Int32) from rfl)], by rw [F1.get rfl, c1], F1, ?_, fun t h1 h2 => ?_⟩
      · rw [cpy_cell (by decide), sI_same, h0]
      · rw [cpy_same (n := 7) rfl rfl (by omega), sI_cell (by decide), hr.1 t h1 (by omega), hR, if_pos hz]
    · rw [if_neg hz] at c3
      refine ⟨T, by rw [c1, if_neg (by rw [show (0 : Int32) = oo 0 from rfl, oo_eq (by omega) (by decide)]; exact hz)], c1, Fr.rf _ _, c3.1, fun t h1 h2 => ?_⟩
      rw [if_neg hz]
      exact c3.2 t h1 h2
  obtain ⟨T1, k1, k2, k3, k4, k5⟩ := key
  have F2 : Fr [(165, 5)] T1 (sI T1 165 5 (oo (A.1 + 1))) := Fr.sIp (Fr.rf _ _) rfl
  obtain ⟨U, u1, u2, u3⟩ := addL_c (A := A) hn6 hR hR6 hA n 1 1000000 (sI T1 165 5 (oo (A.1 + 1))) (by omega) (by omega) (Nat.le_refl _) (by rw [F2.get rfl, k3.get rfl, h0]) (fun t a b => by
    rw [F2.row (c := 170) rfl, k3.row (c := 170) rfl, hr.1 t a (by omega), hR]) (fun t x a b c => by
    obtain ⟨g1, g2⟩ := c2 t x a b c
    rw [F2.row (c := 166) rfl, k3.row (c := 166) rfl, g1, if_neg (fun z => by omega)]
    exact ⟨rfl, g2⟩)
  refine ⟨U, ?_, ⟨?_, fun t x a b c => ⟨u2 t x a b c, ?_⟩, ?_⟩, Fr.trans (k3.mono rfl) (Fr.trans (F2.mono rfl) (u3.mono rfl))⟩
  · unfold f_X9_addRow
    rw [show rf 165 8 = 170 from rfl, show rf 165 4 = 167 from rfl, k1, Option.bind_some, k2, show (1 : Int32) = oo 1 from rfl, oo_add, u1, Option.bind_some]
  · rw [u3.get rfl, sI_same]
    rfl
  · have := (c2 t x a b c).2
    show A.2.1 t x + _ ≤ A.1 + 1
    split <;> omega
  · show (if A.1 + 1 = 0 then _ else _)
    rw [if_neg (by omega)]
    refine ⟨by rw [u3.get rfl, F2.get rfl]; exact k4, fun t h1 h2 => ?_⟩
    rw [u3.row (c := 167) rfl, F2.row (c := 167) rfl]
    exact k5 t h1 h2
theorem lt_sub {a b c : Nat} (h1 : a < 1000000) (h2 : b < 1000000) (h3 : c < 1000000) : (oo a < oo b - oo c) = (a + c < b) := propext (by
  have h4 : (oo b - oo c).toInt = (b : Int) - c := by
    rw [Int32.toInt_sub, oo_int (by omega), oo_int (by omega), Int.bmod_eq_of_le (by omega) (by omega)]
  rw [Int32.lt_iff_toInt_lt, h4, oo_int (by omega)]
  omega)
theorem canL_c {T : XS} {tp mx ct : Nat → Nat} {h q : Nat} (hO : HOK v) (hn6 : n ≤ 6) (hh : h ≤ n) (hq : q ≤ 6) (h0 : T.1 165 0 = oo n) (hH : IsHill T 7 v) (h168 : ∀ s, s < 6 → T.1 168 s = oo (tp s) ∧ tp s ≤ 255) (h169 : ∀ s, s < 6 → T.1 169 s = oo (mx s) ∧ mx s ≤ 33) (hct : ∀ s, s < 6 → T.1 171 (h * 6 + s) = oo (ct s) ∧ ct s ≤ 99) : ∀ m k i, k + m = 6 → m < i → ∃ b : Bool, f_X9_canEndAsTold_L36 (oo q) 165 7 (oo h) i (oo k) T = some (if b = true then .inr () else .inl (false, T)) ∧ (b = true ↔ ∀ s, k ≤ s → s < 6 → ct s ≤ tp s + q * v (6 + s) ∧ tp s ≤ ct s + (n - h) * mx s) := by
  intro m
  induction m with
  | zero =>
    intro k i hk hi
    obtain ⟨i, rfl⟩ : ∃ i', i = i' + 1 := ⟨i - 1, by omega⟩
    obtain rfl : k = 6 := by omega
    refine ⟨true, ?_, ⟨fun _ s h1 h2 => by omega, fun _ => rfl⟩⟩
    rw [f_X9_canEndAsTold_L36, if_pos (by decide), if_pos rfl]
  | succ m ih =>
    intro k i hk hi
    obtain ⟨i, rfl⟩ : ∃ i', i = i' + 1 := ⟨i - 1, by omega⟩
    obtain ⟨b, b1, b2⟩ := ih (k + 1) i (by omega) (by omega)
    obtain ⟨e1, e2⟩ := h168 k (by omega)
    obtain ⟨e3, e4⟩ := h169 k (by omega)
    obtain ⟨e5, e6⟩ := hct k (by omega)
    have e7 := (hO.2.1 k (by omega)).1
    have e8 : q * v (6 + k) ≤ 6 * 9 := Nat.mul_le_mul hq e7
    have e9 : (n - h) * mx k ≤ 6 * 33 := Nat.mul_le_mul (by omega) e4
    have f1 : gat T 168 (oo k) = oo (tp k) := by rw [g_168 (by omega), e1]
    have f2 : gat T 169 (oo k) = oo (mx k) := by rw [g_169 (by omega), e3]
    have f3 : gat T 171 (oo (h * 6 + k)) = oo (ct k) := by rw [g_171 (by omega), e5]
    have f4 : gat T 10 (oo k) = oo (v (6 + k)) := by rw [g_10 (by omega), hH.fade k (by omega)]
    by_cases g1 : tp k + q * v (6 + k) < ct k
    · refine ⟨false, ?_, ⟨fun z => (by cases z), fun z => by have := z k (Nat.le_refl _) (by omega); omega⟩⟩
      rw [f_X9_canEndAsTold_L36, if_neg (by rw [show (6 : Int32) = oo 6 from rfl, oo_le (by decide) (by omega)]; omega), show rf 165 6 = 168 from rfl, show rf 165 9 = 171 from rfl, show rf 7 2 = 10 from rfl, show (6 : Int32) = oo 6 from rfl, oo_mul, oo_add, f1, f3, f4, oo_mul, if_pos (by rw [lt_sub (by omega) (by omega) (by omega)]; exact g1)]
      rfl
    · by_cases g2 : tp k ≤ ct k + (n - h) * mx k
      · refine ⟨b, ?_, ?_⟩
        · rw [f_X9_canEndAsTold_L36, if_neg (by rw [show (6 : Int32) = oo 6 from rfl, oo_le (by decide) (by omega)]; omega), show rf 165 6 = 168 from rfl, show rf 165 9 = 171 from rfl, show rf 165 7 = 169 from rfl, show rf 7 2 = 10 from rfl, show (6 : Int32) = oo 6 from rfl, oo_mul, oo_add, f1, f3, f4, oo_mul, if_neg (by rw [lt_sub (by omega) (by omega) (by omega)]; exact g1), h0, oo_sub hh, f2, oo_mul, oo_add, if_pos (by rw [oo_le (by omega) (by omega)]; exact g2), show (1 : Int32) = oo 1 from rfl, oo_add, b1]
        · rw [b2]
          constructor
          · intro z s s1 s2
            by_cases hs : s = k
            · subst hs
              exact ⟨by omega, g2⟩
            · exact z s (by omega) s2
          · intro z s s1 s2
            exact z s (by omega) s2
      · refine ⟨false, ?_, ⟨fun z => (by cases z), fun z => by have := z k (Nat.le_refl _) (by omega); omega⟩⟩
        rw [f_X9_canEndAsTold_L36, if_neg (by rw [show (6 : Int32) = oo 6 from rfl, oo_le (by decide) (by omega)]; omega), show rf 165 6 = 168 from rfl, show rf 165 9 = 171 from rfl, show rf 165 7 = 169 from rfl, show rf 7 2 = 10 from rfl, show (6 : Int32) = oo 6 from rfl, oo_mul, oo_add, f1, f3, f4, oo_mul, if_neg (by rw [lt_sub (by omega) (by omega) (by omega)]; exact g1), h0, oo_sub hh, f2, oo_mul, oo_add, if_neg (by rw [oo_le (by omega) (by omega)]; exact g2)]
        rfl
theorem can_c {T : XS} {tp mx : Nat → Nat} {R : List Nat} (hO : HOK v) (hw : w < v 3) (hn6 : n ≤ 6) (hR : R.length ≤ n) (h0 : T.1 165 0 = oo n) (hH : IsHill T 7 v) (h168 : ∀ s, s < 6 → T.1 168 s = oo (tp s) ∧ tp s ≤ 255) (h169 : ∀ s, s < 6 → T.1 169 s = oo (mx s) ∧ mx s ≤ 33) (hct : ∀ s, s < 6 → T.1 171 (R.length * 6 + s) = oo (ctR v w R s)) : f_X9_canEndAsTold 165 7 (oo w) (oo R.length) T = some (canN v w n tp mx R, T) := by
  obtain ⟨⟨b0, b1, b2, b3, b4, b5⟩, -, -, -, hkp, -⟩ := id hO
  obtain ⟨k1, k2, k3⟩ := hkp w hw
  have e12 : gat T 12 (oo w) = oo (v (66 + w)) := by rw [g_12 (by omega), hH.keep w (by omega)]
  have d1 : R.length / v (66 + w) ≤ n / v (66 + w) := Nat.div_le_div_right hR
  have d2 : n / v (66 + w) ≤ n := Nat.div_le_self _ _
  obtain ⟨b, c1, c2⟩ := canL_c (ct := ctR v w R) hO hn6 hR (Nat.le_trans (Nat.sub_le _ _) (Nat.le_trans d2 hn6)) h0 hH h168 h169 (fun s hs => ⟨hct s hs, ctR_le R s⟩) 6 0 1000000 rfl (by decide)
  have e : canN v w n tp mx R = b := by
    have e : (canN v w n tp mx R = true) = (b = true) := propext (by
      rw [canN_iff, c2]
      unfold canG
      exact ⟨fun z s _ h2 => z s h2, fun z s h2 => z s (Nat.zero_le _) h2⟩)
    cases h1 : canN v w n tp mx R <;> cases b
    · rfl
    · rw [h1] at e
      exact absurd (e.mpr rfl) (by decide)
    · rw [h1] at e
      exact absurd (e.mp rfl) (by decide)
    · rfl
  rw [e]
  unfold f_X9_canEndAsTold
  rw [show rf 7 4 = 12 from rfl, e12, if_neg (by rw [show (0 : Int32) = oo 0 from rfl, oo_le (by omega) (by decide)]; omega), if_neg (by rw [show (0 : Int32) = oo 0 from rfl, oo_eq (by omega) (by decide)]; omega), if_neg (by rw [show (0 : Int32) = oo 0 from rfl, oo_eq (by omega) (by decide)]; omega), h0, oo_div (by omega) (by omega), oo_div (by omega) (by omega), oo_sub d1, Option.bind_some, show (0 : Int32) = oo 0 from rfl, c1, Option.bind_some]
  cases b <;> rfl
/-- a place is tried: row and coat of its hour -/
theorem place_c {T : XS} {R : List Nat} {p : Nat} {r : Nat → Nat → Int32 → Int32 → XS → Option XS} (hO : HOK v) (hw : w < v 3) (hn6 : n ≤ 6) (hR : R.length < n) (hp : p < 6) (hH : IsHill T 7 v) (hr : wR v w T R) : ∃ U, f_X9_tryPlace r 165 7 (oo w) (oo (R.length + 1)) (oo p) T = ((f_X9_canEndAsTold 165 7 (oo w) (oo (R.length + 1)) U).bind (fun q => match q with | (r4, S5) => (if r4 = true then ((r 165 7 (oo w) ((oo (R.length + 1)) + (1 : Int32)) S5).bind (fun S7 => some S7)) else some S5))) ∧ wR v w U (p :: R) ∧ Fr [(170, 9999), (171, 9999)] T U := by
  obtain ⟨⟨b0, b1, b2, b3, b4, b5⟩, -, -, -, hkp, -⟩ := id hO
  obtain ⟨k1, k2, k3⟩ := hkp w hw
  obtain ⟨r1, r2⟩ := hr
  have F1 : Fr [(170, 9999), (171, 9999)] T (sI T 170 (R.length + 1) (oo p)) := Fr.sIr (Fr.rf _ _) rfl
  have hl := loop_blk (L := f_X9_tryPlace_L13 r 165 7 (oo w) (oo (R.length + 1)) (oo p)) (a := 171) (lo := (R.length + 1) * 6) (st := 0) (m := 6) (f := fun j => oo (ctR v w R (j - (R.length + 1) * 6))) (S := sI T 170 (R.length + 1) (oo p)) (R := some (blk (sI T 170 (R.length + 1) (oo p)) 171 ((R.length + 1) * 6) 6 (fun j => oo (ctR v w R (j - (R.length + 1) * 6))))) (fun i k hk => by
    generalize hB : blk (sI T 170 (R.length + 1) (oo p)) 171 ((R.length + 1) * 6) k (fun j => oo (ctR v w R (j - (R.length + 1) * 6))) = B
    have e1 : gat B 171 (oo (R.length * 6 + k)) = oo (ctR v w R k) := by
      rw [g_171 (by omega), ← hB, blk_out (by omega), sI_cell (by decide), r2 _ k (Nat.le_refl _) hk, Nat.sub_self, List.drop_zero]
    have e2 : oo (R.length + 1) - oo 1 = oo R.length := oo_sub (by omega)
    have e3 : ∀ z, pat B 171 (oo ((R.length + 1) * 6 + k)) z = sI B 171 ((R.length + 1) * 6 + k) z := fun z => p_171 (by omega)
    rw [Nat.add_sub_cancel_left]
    rw [f_X9_tryPlace_L13, if_neg (by rw [show (6 : Int32) = oo 6 from rfl, oo_le (by decide) (by omega)]; omega), show rf 165 9 = 171 from rfl, show (6 : Int32) = oo 6 from rfl, show (1 : Int32) = oo 1 from rfl, e2, oo_mul, oo_mul, oo_add ((R.length + 1) * 6), oo_add, oo_add, Nat.zero_add, e1, e3]) (fun i => by
    rw [f_X9_tryPlace_L13, if_pos (by decide)]) 1000000 (by decide)
  generalize hB : blk (sI T 170 (R.length + 1) (oo p)) 171 ((R.length + 1) * 6) 6 (fun j => oo (ctR v w R (j - (R.length + 1) * 6))) = B at hl
  have F2 : Fr [(170, 9999), (171, 9999)] T B := by rw [← hB]; exact Fr.blk F1 rfl
  have hx : ∀ s, s < 6 → B.1 171 ((R.length + 1) * 6 + s) = oo (ctR v w R s) ∧ ctR v w R s ≤ 1000 := fun s hs => by
    have := ctR_le (v := v) (w := w) R s
    rw [← hB, blk_in (by omega), Nat.add_sub_cancel_left]
    exact ⟨rfl, by omega⟩
  have hh := hour_c (b := false) (x := fun s => ctR v w R s) (hH.fr F2 rfl) hO ln_171 (by decide) (by decide) (show (R.length + 1) * 6 + 6 ≤ 42 by omega) (show w < 6 by omega) k1 k2 hp (show R.length + 1 ≤ 2000 by omega) hx
  refine ⟨blk B 171 ((R.length + 1) * 6) 6 (fun j => oo (hrN v w (R.length + 1) 0 p (ctR v w R (j - (R.length + 1) * 6)) (j - (R.length + 1) * 6))), ?_, ?_, Fr.blk F2 rfl⟩
  · unfold f_X9_tryPlace
    rw [show rf 165 8 = 170 from rfl, show rf 165 9 = 171 from rfl, p_170 (by omega), show (0 : Int32) = oo 0 from rfl, hl, Option.bind_some, hh, Option.bind_some]
    rfl
  · refine ⟨fun t h1 h2 => ?_, fun t s h1 h2 => ?_⟩
    · rw [blk_cell (by decide), ← hB, blk_cell (by decide)]
      rw [List.length_cons] at h2 ⊢
      by_cases ht : t = R.length + 1
      · rw [ht, sI_same, Nat.sub_self]
        rfl
      · rw [sI_place ht, r1 t h1 (by omega), show R.length + 1 - t = (R.length - t) + 1 by omega]
        rfl
    · rw [List.length_cons] at h1 ⊢
      by_cases ht : t = R.length + 1
      · rw [ht, blk_in (by omega), Nat.sub_self, List.drop_zero, Nat.add_sub_cancel_left]
        rfl
      · rw [blk_out (by omega), ← hB, blk_out (by omega), sI_cell (by decide), r2 t s (by omega) h2, show R.length + 1 - t = (R.length - t) + 1 by omega, List.drop_succ_cons]
theorem wR.up {U : XS} {R : List Nat} {p : Nat} (h : wR v w U (p :: R)) : wR v w U R := by
  obtain ⟨r1, r2⟩ := h
  refine ⟨fun t h1 h2 => ?_, fun t s h1 h2 => ?_⟩
  · rw [r1 t h1 (by rw [List.length_cons]; omega), List.length_cons, show R.length + 1 - t = (R.length - t) + 1 by omega]
    rfl
  · rw [r2 t s (by rw [List.length_cons]; omega) h2, List.length_cons, show R.length + 1 - t = (R.length - t) + 1 by omega, List.drop_succ_cons]
theorem wC.fr {T U : XS} {A : WAc} (h : wC n T0 T A) (hF : Fr [(170, 9999), (171, 9999)] T U) : wC n T0 U A := by
  unfold wC at h ⊢
  rw [hF.get (c := 165) (j := 5) rfl, hF.get (c := 165) (j := 3) rfl, hF.row (c := 166) rfl, hF.row (c := 167) rfl]
  exact h
theorem wR.fr {T U : XS} {R : List Nat} (h : wR v w T R) (hF : Fr [(165, 3), (165, 5), (166, 9999), (167, 9999)] T U) : wR v w U R := by
  unfold wR at h ⊢
  rw [hF.row (c := 170) rfl, hF.row (c := 171) rfl]
  exact h
theorem hour_was {tp mx : Nat → Nat} (hO : HOK v) (hw : w < v 3) (hn6 : n ≤ 6) (hnp : np ≤ 6) : ∀ m R f (T : XS) (A : WAc), R.length + m = n → m + 1 < f → (∀ p ∈ R, p < 6) → IsHill T 7 v → T.1 165 0 = oo n → T.1 165 1 = oo np → (∀ s, s < 6 → T.1 168 s = oo (tp s) ∧ tp s ≤ 255) → (∀ s, s < 6 → T.1 169 s = oo (mx s) ∧ mx s ≤ 33) → wC n T0 T A → wR v w T R → A.1 + 6 ^ m < 1000000 → ∃ U, rX9_tryHour f 165 7 (oo w) (oo (R.length + 1)) T = some U ∧ wC n T0 U (dcN n np (canN v w n tp mx) m R A) ∧ wR v w U R ∧ (dcN n np (canN v w n tp mx) m R A).1 ≤ A.1 + 6 ^ m ∧ Fr FW T U := by
  intro m
  induction m with
  | zero =>
    intro R f T A hR hf hR6 hH h0 h1 h168 h169 hC hr hA
    obtain ⟨f, rfl⟩ : ∃ f', f = f' + 1 := ⟨f - 1, by omega⟩
    obtain ⟨U, u1, u2, u3⟩ := addRow_c hn6 hR hR6 (by omega) h0 hC hr
    refine ⟨U, ?_, u2, hr.fr u3, Nat.le_refl _, u3.mono rfl⟩
    rw [rX9_tryHour, f_X9_tryHour, h0, if_pos (by rw [oo_lt (by omega) (by omega)]; omega), u1]
    rfl
  | succ m ih =>
    intro R f T A hR hf hR6 hH h0 h1 h168 h169 hC hr hA
    obtain ⟨f, rfl⟩ : ∃ f', f = f' + 1 := ⟨f - 1, by omega⟩
    have hp6 : 1 ≤ 6 ^ m := Nat.pow_pos (by decide)
    have key : ∀ k p i (T : XS) (A : WAc), p + k = np → k < i → IsHill T 7 v → T.1 165 0 = oo n → T.1 165 1 = oo np → (∀ s, s < 6 → T.1 168 s = oo (tp s) ∧ tp s ≤ 255) → (∀ s, s < 6 → T.1 169 s = oo (mx s) ∧ mx s ≤ 33) → wC n T0 T A → wR v w T R → A.1 + k * 6 ^ m < 1000000 → ∃ U, f_X9_tryHour_L22 (rX9_tryHour f) 165 7 (oo w) (oo (R.length + 1)) i (oo p) T = some U ∧ wC n T0 U (foldP (fun p A => if canN v w n tp mx (p :: R) = true then dcN n np (canN v w n tp mx) m (p :: R) A else A) k p A) ∧ wR v w U R ∧ (foldP (fun p A => if canN v w n tp mx (p :: R) = true then dcN n np (canN v w n tp mx) m (p :: R) A else A) k p A).1 ≤ A.1 + k * 6 ^ m ∧ Fr FW T U := by
      intro k
      induction k with
      | zero =>
        intro p i T A hp hi hH h0 h1 h168 h169 hC hr hA
        obtain ⟨i, rfl⟩ : ∃ i', i = i' + 1 := ⟨i - 1, by omega⟩
        obtain rfl : p = np := by omega
        refine ⟨T, ?_, hC, hr, Nat.le_add_right _ _, Fr.rf _ _⟩
        rw [f_X9_tryHour_L22, h1, if_pos (Int32.le_refl _)]
      | succ k ik =>
        intro p i T A hp hi hH h0 h1 h168 h169 hC hr hA
        obtain ⟨i, rfl⟩ : ∃ i', i = i' + 1 := ⟨i - 1, by omega⟩
        obtain ⟨T1, t1, t2, t3⟩ := place_c (r := rX9_tryHour f) (p := p) hO hw hn6 (by omega) (by omega) hH hr
        have hc := can_c (tp := tp) (mx := mx) (R := p :: R) hO hw hn6 (by rw [List.length_cons]; omega) (by rw [t3.get rfl]; exact h0) (hH.fr t3 rfl) (fun s hs => by rw [t3.row (c := 168) rfl]; exact h168 s hs) (fun s hs => by rw [t3.row (c := 169) rfl]; exact h169 s hs) (fun s hs => by
          have := t2.2 _ s (Nat.le_refl _) hs
          rw [Nat.sub_self, List.drop_zero] at this
          exact this)
        rw [List.length_cons] at hc
        rw [hc, Option.bind_some] at t1
        dsimp only at t1
        rw [Nat.succ_mul] at hA ⊢
        have step : ∃ T2, f_X9_tryPlace (rX9_tryHour f) 165 7 (oo w) (oo (R.length + 1)) (oo p) T = some T2 ∧ wC n T0 T2 (if canN v w n tp mx (p :: R) = true then dcN n np (canN v w n tp mx) m (p :: R) A else A) ∧ wR v w T2 R ∧ (if canN v w n tp mx (p :: R) = true then dcN n np (canN v w n tp mx) m (p :: R) A else A).1 ≤ A.1 + 6 ^ m ∧ Fr FW T T2 := by
          by_cases hcan : canN v w n tp mx (p :: R) = true
          · obtain ⟨U, u1, u2, u3, u4, u5⟩ := ih (p :: R) f T1 A (by rw [List.length_cons]; omega) (by omega) (fun q hq => by
              rw [List.mem_cons] at hq
              rcases hq with rfl | hq
              · omega
              · exact hR6 q hq) (hH.fr t3 rfl) (by rw [t3.get rfl]; exact h0) (by rw [t3.get rfl]; exact h1) (fun s hs => by rw [t3.row (c := 168) rfl]; exact h168 s hs) (fun s hs => by rw [t3.row (c := 169) rfl]; exact h169 s hs) (hC.fr t3) t2 (by omega)
            rw [List.length_cons] at u1
            rw [if_pos hcan]
            refine ⟨U, ?_, u2, u3.up, u4, Fr.trans (t3.mono rfl) u5⟩
            rw [t1, if_pos hcan, show (1 : Int32) = oo 1 from rfl, oo_add, u1]
            rfl
          · rw [if_neg hcan]
            refine ⟨T1, ?_, hC.fr t3, t2.up, by omega, t3.mono rfl⟩
            rw [t1, if_neg hcan]
        obtain ⟨T2, s1, s2, s3, s4, s5⟩ := step
        obtain ⟨U, u1, u2, u3, u4, u5⟩ := ik (p + 1) i T2 _ (by omega) (by omega) (hH.fr s5 rfl) (by rw [s5.get rfl]; exact h0) (by rw [s5.get rfl]; exact h1) (fun s hs => by rw [s5.row (c := 168) rfl]; exact h168 s hs) (fun s hs => by rw [s5.row (c := 169) rfl]; exact h169 s hs) s2 s3 (by omega)
        refine ⟨U, ?_, u2, u3, by rw [foldP]; omega, Fr.trans s5 u5⟩
        rw [f_X9_tryHour_L22, h1, if_neg (by rw [oo_le (by omega) (by omega)]; omega), s1, Option.bind_some, show (1 : Int32) = oo 1 from rfl, oo_add, u1]
    have hpow : 6 ^ (m + 1) = 6 ^ m * 6 := Nat.pow_succ ..
    have hnm : np * 6 ^ m ≤ 6 * 6 ^ m := Nat.mul_le_mul_right _ hnp
    obtain ⟨U, u1, u2, u3, u4, u5⟩ := key np 0 1000000 T A (by omega) (by omega) hH h0 h1 h168 h169 hC hr (by omega)
    refine ⟨U, ?_, u2, u3, by rw [dcN]; omega, u5⟩
    rw [rX9_tryHour, f_X9_tryHour, h0, if_neg (by rw [oo_lt (by omega) (by omega)]; omega), show (6 : Int32) = oo 6 from rfl, if_pos (by rw [oo_le (by omega) (by omega)]; omega), show (0 : Int32) = oo 0 from rfl, u1]
    rfl
theorem mostAir_c {T : XS} (hO : HOK v) (hH : IsHill T 7 v) : ∃ (U : XS) (mx : Nat → Nat), f_X9_findMostAir 165 7 T = some U ∧ (∀ s, s < 6 → U.1 169 s = oo (mx s) ∧ mx s ≤ 33) ∧ (∀ p s, p < 6 → s < 6 → airN v p s ≤ mx s) ∧ Fr [(169, 9999)] T U := by
  have key : ∀ m k i (T : XS) (mx : Nat → Nat), k + m = 36 → m < i → IsHill T 7 v → (∀ s, s < 6 → T.1 169 s = oo (mx s) ∧ mx s ≤ 33) → (∀ p s, p < 6 → s < 6 → p * 6 + s < k → airN v p s ≤ mx s) → ∃ (U : XS) (mx : Nat → Nat), f_X9_findMostAir_L10 165 7 i (oo k) T = some U ∧ (∀ s, s < 6 → U.1 169 s = oo (mx s) ∧ mx s ≤ 33) ∧ (∀ p s, p < 6 → s < 6 → airN v p s ≤ mx s) ∧ Fr [(169, 9999)] T U := by
    intro m
    induction m with
    | zero =>
      intro k i T mx hk hi _ h1 h2
      obtain ⟨i, rfl⟩ : ∃ i', i = i' + 1 := ⟨i - 1, by omega⟩
      obtain rfl : k = 36 := by omega
      refine ⟨T, mx, ?_, h1, fun p s hp hs => h2 p s hp hs (by omega), Fr.rf _ _⟩
      rw [f_X9_findMostAir_L10, if_pos (by decide)]
    | succ m ih =>
      intro k i T mx hk hi hH h1 h2
      obtain ⟨i, rfl⟩ : ∃ i', i = i' + 1 := ⟨i - 1, by omega⟩
      obtain ⟨a1, a2⟩ := h1 (k % 6) (Nat.mod_lt _ (by decide))
      have a3 := airN_le hO (p := k / 6) (s := k % 6) (by omega) (by omega)
      have e1 : gat T 169 (oo (k % 6)) = oo (mx (k % 6)) := by rw [g_169 (by omega), a1]
      have e2 : gat T 11 (oo k) = oo (airN v (k / 6) (k % 6)) := by
        have := hH.air (k / 6) (k % 6) (by omega) (by omega)
        rw [show k / 6 * 6 + k % 6 = k by omega] at this
        rw [g_11 (by omega), this]
      have e3 : (if oo (mx (k % 6)) < oo (airN v (k / 6) (k % 6)) then oo (airN v (k / 6) (k % 6)) else oo (mx (k % 6))) = oo (max (mx (k % 6)) (airN v (k / 6) (k % 6))) := by
        by_cases hq : mx (k % 6) < airN v (k / 6) (k % 6)
        · rw [if_pos (by rw [oo_lt (by omega) (by omega)]; exact hq), show max (mx (k % 6)) (airN v (k / 6) (k % 6)) = airN v (k / 6) (k % 6) by omega]
        · rw [if_neg (by rw [oo_lt (by omega) (by omega)]; exact hq), show max (mx (k % 6)) (airN v (k / 6) (k % 6)) = mx (k % 6) by omega]
      have F1 : Fr [(169, 9999)] T (sI T 169 (k % 6) (oo (max (mx (k % 6)) (airN v (k / 6) (k % 6))))) := Fr.sIr (Fr.rf _ _) rfl
      obtain ⟨U, mx2, u1, u2, u3, u4⟩ := ih (k + 1) i _ (upN mx (k % 6) (max (mx (k % 6)) (airN v (k / 6) (k % 6)))) (by omega) (by omega) (hH.fr F1 rfl) (fun s hs => by
        by_cases hz : s = k % 6
        · rw [hz, sI_same, upN_same]
          exact ⟨rfl, by omega⟩
        · rw [sI_place hz, upN_ne hz]
          exact h1 s hs) (fun p s hp hs hlt => by
        by_cases hz : s = k % 6
        · rw [hz, upN_same]
          by_cases hpp : p = k / 6
          · rw [hpp]
            omega
          · have := h2 p (k % 6) hp (by omega) (by omega)
            omega
        · rw [upN_ne hz]
          exact h2 p s hp hs (by omega))
      refine ⟨U, mx2, ?_, u2, u3, Fr.trans F1 u4⟩
      rw [f_X9_findMostAir_L10, if_neg (by rw [show (36 : Int32) = oo 36 from rfl, oo_le (by decide) (by omega)]; omega), show rf 165 7 = 169 from rfl, show rf 7 3 = 11 from rfl, show (6 : Int32) = oo 6 from rfl, oo_rem (by omega) (by decide), e1, e2, e3, p_169 (by omega), show (1 : Int32) = oo 1 from rfl, oo_add, u1]
  have F0 : Fr [(169, 9999)] T (filI T 169 (oo 0)) := fil_fr rfl
  obtain ⟨U, mx, u1, u2, u3, u4⟩ := key 36 0 1000000 (filI T 169 (oo 0)) (fun _ => 0) rfl (by decide) (hH.fr F0 rfl) (fun s hs => ⟨fil_in (by rw [ln_169]; exact hs), Nat.zero_le _⟩) (fun p s _ _ h => absurd h (Nat.not_lt_zero _))
  refine ⟨U, mx, ?_, u2, u3, Fr.trans F0 u4⟩
  unfold f_X9_findMostAir
  rw [show rf 165 7 = 169 from rfl, show (0 : Int32) = oo 0 from rfl, u1, Option.bind_some]
end WC
