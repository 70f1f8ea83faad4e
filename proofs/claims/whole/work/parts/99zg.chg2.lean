/-! who can have changed coats: the reference -/
def okK (v bt f : Nat → Nat) (c E : Nat) : Bool := (List.range 6).all (fun s => decide (geN v f c E s = if s < v 0 then bt (v 0 * c + s) else 0))
def chP (v bt : Nat → Nat) (E a b h : Nat) : Bool := (List.range 6).all (fun c => decide (v 3 ≤ c) || okK v bt (wrN a b h c) c E)
theorem okK_iff {v bt f : Nat → Nat} {c E : Nat} : okK v bt f c E = true ↔ ∀ s, s < 6 → geN v f c E s = if s < v 0 then bt (v 0 * c + s) else 0 := by
  unfold okK
  rw [List.all_eq_true]
  constructor
  · intro h s hs
    have := h s (List.mem_range.mpr hs)
    rw [decide_eq_true_eq] at this
    exact this
  · intro h s hs
    rw [decide_eq_true_eq]
    exact h s (List.mem_range.mp hs)
theorem chP_iff {v bt : Nat → Nat} {E a b h : Nat} (h3 : v 3 ≤ 6) : chP v bt E a b h = true ↔ ∀ c, c < v 3 → okK v bt (wrN a b h c) c E = true := by
  unfold chP
  rw [List.all_eq_true]
  constructor
  · intro q c hc
    have := q c (List.mem_range.mpr (by omega))
    rw [Bool.or_eq_true, decide_eq_true_eq] at this
    exact this.resolve_left (by omega)
  · intro q c hc
    rw [Bool.or_eq_true, decide_eq_true_eq]
    by_cases h1 : v 3 ≤ c
    · exact .inl h1
    · exact .inr (q c (by omega))
def hrF (P : Nat → Bool) (a b : Nat) : Nat → Nat → List Nat → List Nat
  | 0, _, ws => ws
  | m + 1, h, ws => hrF P a b m (h + 1) (if P h = true then ws ++ [10000 * a + 1000 * b + h] else ws)
def prF (P : Nat → Nat → Bool) (a E : Nat) : Nat → Nat → List Nat → List Nat
  | 0, _, ws => ws
  | m + 1, b, ws => prF P a E m (b + 1) (hrF (P b) a b E 1 ws)
def alF (P : Nat → Nat → Nat → Bool) (n E : Nat) : Nat → Nat → List Nat → List Nat
  | 0, _, ws => ws
  | m + 1, a, ws => alF P n E m (a + 1) (prF (P a) a E (n - (a + 1)) (a + 1) ws)
def triN : Nat → Nat
  | 0 => 0
  | m + 1 => m + triN m
theorem hrF_len {P : Nat → Bool} {a b : Nat} : ∀ m h ws, (hrF P a b m h ws).length ≤ ws.length + m := by
  intro m
  induction m with
  | zero => intro h ws; exact Nat.le_refl _
  | succ m ih =>
    intro h ws
    have h1 := ih (h + 1) (if P h = true then ws ++ [10000 * a + 1000 * b + h] else ws)
    rw [hrF]
    by_cases q : P h = true
    · rw [if_pos q, List.length_append, List.length_singleton] at h1
      rw [if_pos q]
      omega
    · rw [if_neg q] at h1 ⊢
      omega
theorem hrF_no {P : Nat → Bool} {a b : Nat} (hP : ∀ h, ¬ P h = true) : ∀ m h ws, hrF P a b m h ws = ws := by
  intro m
  induction m with
  | zero => intro h ws; rfl
  | succ m ih => intro h ws; rw [hrF, if_neg (hP h), ih]
theorem prF_len {P : Nat → Nat → Bool} {a E : Nat} : ∀ m b ws, (prF P a E m b ws).length ≤ ws.length + m * E := by
  intro m
  induction m with
  | zero => intro b ws; rw [Nat.zero_mul]; exact Nat.le_refl _
  | succ m ih =>
    intro b ws
    have h1 := ih (b + 1) (hrF (P b) a b E 1 ws)
    have h2 := hrF_len (P := P b) (a := a) (b := b) E 1 ws
    rw [prF, Nat.succ_mul]
    omega
theorem alF_len {P : Nat → Nat → Nat → Bool} {n E : Nat} : ∀ m a ws, a + m = n → (alF P n E m a ws).length ≤ ws.length + triN m * E := by
  intro m
  induction m with
  | zero => intro a ws _; rw [triN, Nat.zero_mul]; exact Nat.le_refl _
  | succ m ih =>
    intro a ws ha
    have h1 := ih (a + 1) (prF (P a) a E (n - (a + 1)) (a + 1) ws) (by omega)
    have h2 := prF_len (P := P a) (a := a) (E := E) (n - (a + 1)) (a + 1) ws
    rw [alF, triN, Nat.add_mul]
    rw [show n - (a + 1) = m by omega] at *
    omega
theorem tri_le {m : Nat} (h : m ≤ 6) : triN m ≤ 15 := by
  have q : ∀ m, m ≤ 6 → triN m ≤ 15 := by decide
  exact q m h
def wsN (T : XS) (ws : List Nat) : Prop := T.1 188 44 = oo (min ws.length 40) ∧ ∀ k, k < 40 → k < ws.length → T.1 212 k = oo (ws.getD k 0)
def nowE (v : Nat → Nat) (T : XS) : Prop := ∃ u, IsC T 190 516 u ∧ ∀ j, (j < 144 ∨ 274 ≤ j) → u j = v j
section CHN
variable {v bt : Nat → Nat} {a b h E : Nat} {T : XS}
theorem sim_top (ha : a < 6) (hb : b < 6) : ∀ t j, 274 ≤ j → simN v a b h t j = v j := by
  intro t
  induction t with
  | zero =>
    intro j hj
    show newN v j = v j
    unfold newN
    rw [if_neg (by omega), if_neg (by omega), if_neg (by omega)]
  | succ t ih =>
    intro j hj
    rw [simN, pnN_o (by omega)]
    by_cases e : t + 1 = h
    · rw [if_pos e, swapN_o (by omega) (by omega)]
      exact ih j hj
    · rw [if_neg e]
      exact ih j hj
theorem swap_n {u : Nat → Nat} (hN : IsC T 190 516 u) (ha : a < 6) (hb : b < 6) : ∃ U, f_X12_changeBoth 188 (oo a) (oo b) T = some U ∧ IsC U 190 516 (swapN a b u) ∧ Fr [(190, 9999)] T U := by
  refine ⟨sI (sI T 190 (151 + a) (oo (u (151 + b)))) 190 (151 + b) (oo (u (151 + a))), ?_, hN.set.set, Fr.sIr (Fr.sIr (Fr.rf _ _) rfl) rfl⟩
  have i1 := oo_inb (k := 151 + a) (m := 516) (by omega) (by omega)
  have i2 := oo_inb (k := 151 + b) (m := 516) (by omega) (by omega)
  unfold f_X12_changeBoth
  rw [show rf 188 14 = 190 from rfl, ln_190, show (151 : Int32) = oo 151 from rfl, oo_add, oo_add, if_neg i1, if_neg i2, if_neg i1, if_neg i2, oo_nat (by omega), oo_nat (by omega), hN _ (by omega), hN _ (by omega)]
theorem hours_n (hO : HOK v) (ha : a < v 3) (hb : b < v 3) (hh : 1 ≤ h) (hhE : h ≤ E) (hE : E ≤ 60) {i3 : Int32} : ∀ m t f (T : XS), t + m = E → m < f → IsC T 190 516 (simN v a b h t) → ∃ U, f_X12_changed_L124 (oo h) (oo b) (oo a) i3 (oo E) 188 f T = some U ∧ IsC U 190 516 (simN v a b h E) ∧ Fr [(190, 9999)] T U := by
  obtain ⟨⟨b0, b1, b2, b3, b4, b5⟩, -⟩ := id hO
  intro m
  induction m with
  | zero =>
    intro t f T ht hf hN
    obtain ⟨f, rfl⟩ : ∃ f', f = f' + 1 := ⟨f - 1, by omega⟩
    obtain rfl : t = E := by omega
    have h144 := (sim_ok (h := h) hO ha hb hh t hE).2.2.2.1
    refine ⟨T, ?_, hN, Fr.rf _ _⟩
    rw [f_X12_changed_L124, show rf 188 14 = 190 from rfl, hN 144 (by decide), h144, if_pos (Int32.le_refl _)]
  | succ m ih =>
    intro t f T ht hf hN
    obtain ⟨f, rfl⟩ : ∃ f', f = f' + 1 := ⟨f - 1, by omega⟩
    obtain ⟨i1, i2, i3', i4, i5, i6, i7⟩ := sim_ok (h := h) hO ha hb hh t (by omega)
    have e3 : simN v a b h t 3 = v 3 := i3' 3 (by decide)
    obtain ⟨Y, y1, y2, y3⟩ : ∃ Y, (if T.1 190 144 = oo h - (1 : Int32) then ((f_X12_changeBoth 188 (oo a) (oo b) T).bind (fun S16 => some S16)) else some T) = some Y ∧ IsC Y 190 516 (if t + 1 = h then swapN a b (simN v a b h t) else simN v a b h t) ∧ Fr [(190, 9999)] T Y := by
      rw [hN 144 (by decide), i4, show (1 : Int32) = oo 1 from rfl, oo_sub hh, ieq (by omega) (by omega)]
      by_cases e : t + 1 = h
      · obtain ⟨Y, y1, y2, y3⟩ := swap_n (a := a) (b := b) hN (by omega) (by omega)
        rw [if_pos (by omega), if_pos e, y1]
        exact ⟨Y, rfl, y2, y3⟩
      · rw [if_neg (by omega), if_neg e]
        exact ⟨T, rfl, hN, Fr.rf _ _⟩
    have hOS : HOK (if t + 1 = h then swapN a b (simN v a b h t) else simN v a b h t) ∧ SOK (if t + 1 = h then swapN a b (simN v a b h t) else simN v a b h t) := by
      by_cases e : t + 1 = h
      · rw [if_pos e]
        exact ⟨i1.ext (fun j hj => (swapN_o (by omega) (by omega)).symm), swapN_SOK i1 i2 (by omega) (by omega)⟩
      · rw [if_neg e]
        exact ⟨i1, i2⟩
    obtain ⟨Z, z1, z2, z3⟩ := pass_n (b := false) y2 hOS.1 hOS.2
    obtain ⟨U, u1, u2, u3⟩ := ih (t + 1) f Z (by omega) (by omega) (by rw [simN]; exact z2)
    refine ⟨U, ?_, u2, Fr.trans y3 (Fr.trans z3 u3)⟩
    rw [f_X12_changed_L124, show rf 188 14 = 190 from rfl, if_neg (show ¬ oo E ≤ T.1 190 144 by rw [hN 144 (by decide), i4, oo_le (by omega) (by omega)]; omega), y1, Option.bind_some, z1, Option.bind_some, u1]
theorem so1_n {u : Nat → Nat} (hN : IsC T 190 516 u) (e0 : u 0 = v 0) (b0 : v 0 ≤ 6) {c : Nat} (hc : c < 6) (hx : ∀ s, s < v 0 → u (157 + 6 * c + s) ≤ 99) (hbt : ∀ s, s < v 0 → T.1 211 (v 0 * c + s) = oo (bt (v 0 * c + s)) ∧ bt (v 0 * c + s) < 256) : ∀ m k f, k + m = v 0 → m < f → ((∃ s, k ≤ s ∧ s < v 0 ∧ u (157 + 6 * c + s) ≠ bt (v 0 * c + s)) ∧ f_X12_areSo_L14 (oo c) 188 f (oo k) T = some (.inl (false, T))) ∨ ((∀ s, k ≤ s → s < v 0 → u (157 + 6 * c + s) = bt (v 0 * c + s)) ∧ f_X12_areSo_L14 (oo c) 188 f (oo k) T = some (.inr T)) := by
  have hmul : ∀ s, s < v 0 → v 0 * c + s < 36 := fun s hs => by
    have : v 0 * c ≤ 6 * c := Nat.mul_le_mul_right c b0
    have h2 : v 0 * c + s < v 0 * c + v 0 := by omega
    have h3 : v 0 * c + v 0 = v 0 * (c + 1) := by rw [Nat.mul_succ]
    have h4 : v 0 * (c + 1) ≤ 6 * 6 := Nat.mul_le_mul b0 (by omega)
    omega
  intro m
  induction m with
  | zero =>
    intro k f hk hf
    obtain ⟨f, rfl⟩ : ∃ f', f = f' + 1 := ⟨f - 1, by omega⟩
    exact .inr ⟨fun s h1 h2 => by omega, by rw [f_X12_areSo_L14, show rf 188 14 = 190 from rfl, hN 0 (by decide), e0, if_pos (by rw [oo_le (by omega) (by omega)]; omega)]⟩
  | succ m ih =>
    intro k f hk hf
    obtain ⟨f, rfl⟩ : ∃ f', f = f' + 1 := ⟨f - 1, by omega⟩
    have hkv : k < v 0 := by omega
    have h36 := hmul k hkv
    have h99 := hx k hkv
    obtain ⟨b1, b2⟩ := hbt k hkv
    have eg : f_X12_onCoat 188 (oo c) (oo k) T = some (oo (u (157 + 6 * c + k)), T) := by
      have e8 : T.1 190 (157 + 6 * c + k) = oo (u (157 + 6 * c + k)) := hN _ (by omega)
      simp (disch := omega) only [f_X12_onCoat, ↓oo_m1, oo_0, oo_1, oo_2, oo_3, oo_4, oo_5, oo_6, oo_7, oo_8, oo_9, oo_10, oo_12, oo_13, oo_14, oo_15, oo_16, oo_17, oo_18, oo_20, oo_24, oo_30, oo_32, oo_36, oo_40, oo_41, oo_48, oo_50, oo_57, oo_59, oo_60, oo_61, oo_62, oo_63, oo_64, oo_66, oo_72, oo_78, oo_96, oo_97, oo_99, oo_100, oo_101, oo_105, oo_107, oo_108, oo_109, oo_110, oo_111, oo_112, oo_114, oo_115, oo_116, oo_117, oo_119, oo_122, oo_128, oo_130, oo_134, oo_135, oo_136, oo_137, oo_138, oo_139, oo_140, oo_141, oo_142, oo_143, oo_144, oo_145, oo_151, oo_157, oo_194, oo_200, oo_240, oo_255, oo_256, oo_274, oo_276, oo_300, oo_516, oo_900, oo_940, oo_941, oo_999, oo_1000, oo_1040, oo_10000, oo_add, oo_mul, oo_sub, oo_lt, oo_le, oo_eq, oo_nat, oo_div, oo_rem, oo_nn, nn_oo, oo_nnlt, nn_oolt, oo_nnle, nn_oole, ↓reduceIte, if_pos, if_neg, or_false, false_or, or_true, true_or, and_true, true_and, and_false, false_and, not_true_eq_false, not_false_eq_true, Nat.not_lt_zero, Bool.false_eq_true, Bool.true_eq_false, rf_188_1, rf_188_14, rf_188_15, rf_188_16, rf_188_17, rf_188_18, rf_188_19, rf_188_20, rf_188_21, rf_188_22, rf_188_24, rf_188_25, rf_188_26, rf_188_27, rf_188_28, rf_188_31, rf_188_32, rf_188_34, rf_188_35, rf_188_36, rf_188_37, rf_188_38, rf_188_42, rf_188_43, rf_188_51, rf_188_52, rf_188_53, rf_188_55, ln_190, e8]
    have e : f_X12_areSo_L14 (oo c) 188 (f + 1) (oo k) T = if u (157 + 6 * c + k) = bt (v 0 * c + k) then f_X12_areSo_L14 (oo c) 188 f (oo (k + 1)) T else some (.inl (false, T)) := by
      rw [f_X12_areSo_L14, show rf 188 14 = 190 from rfl, hN 0 (by decide), e0, if_neg (by rw [oo_le (by omega) (by omega)]; omega), eg, Option.bind_some]
      dsimp only
      rw [hN 0 (by decide), e0, oo_mul, oo_add, show rf 188 42 = 211 from rfl, if_neg (by rw [ln_211]; exact oo_inb (by omega) (by omega)), oo_nat (by omega), b1, ieq (by omega) (by omega), show (1 : Int32) = oo 1 from rfl, oo_add]
    rw [e]
    by_cases q : u (157 + 6 * c + k) = bt (v 0 * c + k)
    · rw [if_pos q]
      rcases ih (k + 1) f (by omega) (by omega) with ⟨⟨s, s1, s2, s3⟩, r⟩ | ⟨r1, r2⟩
      · exact .inl ⟨⟨s, by omega, s2, s3⟩, r⟩
      · refine .inr ⟨fun s h1 h2 => ?_, r2⟩
        rcases Nat.lt_or_ge k s with z | z
        · exact r1 s z h2
        · obtain rfl : s = k := by omega
          exact q
    · rw [if_neg q]
      exact .inl ⟨⟨k, Nat.le_refl _, hkv, q⟩, rfl⟩
theorem so2_n {u : Nat → Nat} (hN : IsC T 190 516 u) (e0 : u 0 = v 0) (e3 : u 3 = v 3) (b0 : v 0 ≤ 6) (b3 : v 3 ≤ 6) (hx : ∀ c s, c < v 3 → s < v 0 → u (157 + 6 * c + s) ≤ 99) (hbt : ∀ c s, c < v 3 → s < v 0 → T.1 211 (v 0 * c + s) = oo (bt (v 0 * c + s)) ∧ bt (v 0 * c + s) < 256) : ∀ m k f, k + m = v 3 → m < f → ((∃ c s, k ≤ c ∧ c < v 3 ∧ s < v 0 ∧ u (157 + 6 * c + s) ≠ bt (v 0 * c + s)) ∧ f_X12_areSo_L2 188 f (oo k) T = some (.inl (false, T))) ∨ ((∀ c s, k ≤ c → c < v 3 → s < v 0 → u (157 + 6 * c + s) = bt (v 0 * c + s)) ∧ f_X12_areSo_L2 188 f (oo k) T = some (.inr T)) := by
  intro m
  induction m with
  | zero =>
    intro k f hk hf
    obtain ⟨f, rfl⟩ : ∃ f', f = f' + 1 := ⟨f - 1, by omega⟩
    exact .inr ⟨fun c s h1 h2 => by omega, by rw [f_X12_areSo_L2, show rf 188 14 = 190 from rfl, hN 3 (by decide), e3, if_pos (by rw [oo_le (by omega) (by omega)]; omega)]⟩
  | succ m ih =>
    intro k f hk hf
    obtain ⟨f, rfl⟩ : ∃ f', f = f' + 1 := ⟨f - 1, by omega⟩
    have hkv : k < v 3 := by omega
    rw [f_X12_areSo_L2, show rf 188 14 = 190 from rfl, hN 3 (by decide), e3, if_neg (by rw [oo_le (by omega) (by omega)]; omega), show (0 : Int32) = oo 0 from rfl]
    rcases so1_n hN e0 b0 (c := k) (by omega) (fun s hs => hx k s hkv hs) (fun s hs => hbt k s hkv hs) (v 0) 0 1000000 (by omega) (by omega) with ⟨⟨s, s1, s2, s3⟩, r⟩ | ⟨r1, r2⟩
    · exact .inl ⟨⟨k, s, Nat.le_refl _, hkv, s2, s3⟩, by rw [r]; rfl⟩
    · rw [r2, Option.bind_some]
      dsimp only
      rw [show (1 : Int32) = oo 1 from rfl, oo_add]
      rcases ih (k + 1) f (by omega) (by omega) with ⟨⟨c, s, c1, c2, c3, c4⟩, r⟩ | ⟨q1, q2⟩
      · exact .inl ⟨⟨c, s, by omega, c2, c3, c4⟩, r⟩
      · refine .inr ⟨fun c s h1 h2 h3 => ?_, q2⟩
        rcases Nat.lt_or_ge k c with z | z
        · exact q1 c s z h2 h3
        · obtain rfl : c = k := by omega
          exact r1 s (Nat.zero_le _) h3
theorem wr_lt (ha : a < v 3) (hb : b < v 3) {c : Nat} (hc : c < v 3) (t : Nat) : wrN a b h c t < v 3 := by
  unfold wrN
  split
  · exact sw2_lt ha hb hc
  · exact hc
theorem areSo_n (hO : HOK v) (ha : a < v 3) (hb : b < v 3) (hh : 1 ≤ h) (hE : E ≤ 60) (hN : IsC T 190 516 (simN v a b h E)) (hbt : ∀ c s, c < v 3 → s < v 0 → T.1 211 (v 0 * c + s) = oo (bt (v 0 * c + s)) ∧ bt (v 0 * c + s) < 256) : f_X12_areSo 188 T = some (chP v bt E a b h, T) := by
  obtain ⟨⟨b0, b1, b2, b3, b4, b5⟩, -⟩ := id hO
  obtain ⟨i1, i2, i3, i4, i5, i6, i7⟩ := sim_ok (h := h) hO ha hb hh E hE
  have hx : ∀ c s, c < v 3 → s < v 0 → simN v a b h E (157 + 6 * c + s) ≤ 99 := fun c s hc hs => by rw [i7 c s hc hs]; exact geN_le _ _
  unfold f_X12_areSo
  rw [show (0 : Int32) = oo 0 from rfl]
  rcases so2_n hN (i3 0 (by decide)) (i3 3 (by decide)) b0 b3 hx hbt (v 3) 0 1000000 (by omega) (by omega) with ⟨⟨c, s, c1, c2, c3, c4⟩, r⟩ | ⟨q1, q2⟩
  · rw [r, Option.bind_some]
    have : chP v bt E a b h = false := by
      cases q : chP v bt E a b h with
      | false => rfl
      | true =>
        have h1 := okK_iff.mp ((chP_iff b3).mp q c c2) s (by omega)
        rw [if_pos c3] at h1
        rw [i7 c s c2 c3] at c4
        exact absurd h1 c4
    rw [this]
  · rw [q2, Option.bind_some]
    have : chP v bt E a b h = true := by
      rw [chP_iff b3]
      intro c hc
      rw [okK_iff]
      intro s hs
      by_cases h0 : s < v 0
      · rw [if_pos h0, ← i7 c s hc h0]
        exact q1 c s (Nat.zero_le _) hc h0
      · rw [if_neg h0]
        exact geN_0 hO (fun t => wr_lt ha hb hc t) hs (by omega) E
    rw [this]
end CHN
