/-! who can have changed coats: the class, all ways -/
def wsC (S : XS) (ws : List Nat) : Prop := S.1 172 0 = oo ws.length ∧ ∀ k, k < 40 → k < ws.length → S.1 173 k = oo (ws.getD k 0)
theorem wsC.fr {S U : XS} {ws : List Nat} {l : List (Nat × Nat)} (h : wsC S ws) (hF : Fr l S U) (hl : ntc l [(172, 0)] [173] = true) : wsC U ws := by
  unfold wsC at h ⊢
  rw [hF.get (ntc_c hl (c := 172) (j := 0) rfl), hF.row (ntc_r hl (c := 173) rfl)]
  exact h
/-- what stands while ways are sought -/
def CB (v bt : Nat → Nat) (E : Nat) (S : XS) : Prop := S.1 172 2 = oo E ∧ S.1 172 3 = oo (v 3) ∧ IsHill S 7 v ∧ Good v S (E + 1) 0 ∧ Told v bt S
theorem CB.fr {v bt : Nat → Nat} {E : Nat} {S U : XS} {l : List (Nat × Nat)} (h : CB v bt E S) (hF : Fr l S U) (hl : ntc l [(172, 2), (172, 3)] [174, 175, 176] = true) (h7 : (List.range 8).all (fun j => !tcr l (7 + j + 1)) = true) : CB v bt E U := by
  obtain ⟨a1, a2, a3, a4, a5⟩ := h
  refine ⟨by rw [hF.get (ntc_c hl (c := 172) (j := 2) rfl)]; exact a1, by rw [hF.get (ntc_c hl (c := 172) (j := 3) rfl)]; exact a2, a3.fr hF h7, ?_, ?_⟩
  · unfold Good at a4 ⊢
    rw [hF.row (ntc_r hl (c := 175) rfl), hF.row (ntc_r hl (c := 176) rfl)]
    exact a4
  · unfold Told at a5 ⊢
    rw [hF.row (ntc_r hl (c := 174) rfl)]
    exact a5
def othN (v bt : Nat → Nat) (E a b : Nat) : Bool := (List.range 6).all (fun w => decide (v 3 ≤ w) || (decide (w = a) || (decide (w = b) || okK v bt (fun _ => w) w E)))
theorem othN_iff {v bt : Nat → Nat} {E a b : Nat} (b3 : v 3 ≤ 6) : othN v bt E a b = true ↔ ∀ w, w < v 3 → w ≠ a → w ≠ b → okK v bt (fun _ => w) w E = true := by
  unfold othN
  rw [List.all_eq_true]
  constructor
  · intro q w hw h1 h2
    have := q w (List.mem_range.mpr (by omega))
    rw [Bool.or_eq_true, Bool.or_eq_true, Bool.or_eq_true, decide_eq_true_eq, decide_eq_true_eq, decide_eq_true_eq] at this
    exact ((this.resolve_left (by omega)).resolve_left h1).resolve_left h2
  · intro q w hw
    rw [Bool.or_eq_true, Bool.or_eq_true, Bool.or_eq_true, decide_eq_true_eq, decide_eq_true_eq, decide_eq_true_eq]
    by_cases h0 : v 3 ≤ w
    · exact .inl h0
    · by_cases h1 : w = a
      · exact .inr (.inl h1)
      · by_cases h2 : w = b
        · exact .inr (.inr (.inl h2))
        · exact .inr (.inr (.inr (q w (by omega) h1 h2)))
/-- both ways to say it -/
theorem chP_eq {v bt : Nat → Nat} {E a b h : Nat} (b3 : v 3 ≤ 6) (ha : a < v 3) (hb : b < v 3) (hab : a ≠ b) : chP v bt E a b h = (othN v bt E a b && (okK v bt (fun t => if h ≤ t then b else a) a E && okK v bt (fun t => if h ≤ t then a else b) b E)) := by
  have cg : ∀ f g c, (∀ t, f t = g t) → okK v bt f c E = okK v bt g c E := fun f g c e => by rw [show f = g from funext e]
  have e1 : ∀ w, w ≠ a → w ≠ b → okK v bt (wrN a b h w) w E = okK v bt (fun _ => w) w E := fun w h1 h2 => cg _ _ w (fun t => by
    unfold wrN sw2
    rw [if_neg h1, if_neg h2, ite_self])
  have e2 : okK v bt (wrN a b h a) a E = okK v bt (fun t => if h ≤ t then b else a) a E := cg _ _ a (fun t => by
    unfold wrN sw2
    rw [if_pos rfl])
  have e3 : okK v bt (wrN a b h b) b E = okK v bt (fun t => if h ≤ t then a else b) b E := cg _ _ b (fun t => by
    unfold wrN sw2
    rw [if_neg (show ¬ b = a from fun q => hab q.symm), if_pos (show b = b from rfl)])
  have key : (chP v bt E a b h = true) ↔ ((othN v bt E a b && (okK v bt (fun t => if h ≤ t then b else a) a E && okK v bt (fun t => if h ≤ t then a else b) b E)) = true) := by
    rw [chP_iff b3, Bool.and_eq_true, Bool.and_eq_true, othN_iff b3]
    constructor
    · intro q
      exact ⟨fun w hw h1 h2 => by rw [← e1 w h1 h2]; exact q w hw, by rw [← e2]; exact q a ha, by rw [← e3]; exact q b hb⟩
    · rintro ⟨q1, q2, q3⟩ c hc
      by_cases h1 : c = a
      · rw [h1, e2]; exact q2
      · by_cases h2 : c = b
        · rw [h2, e3]; exact q3
        · rw [e1 c h1 h2]; exact q1 c hc h1 h2
  exact Bool.eq_iff_iff.mpr key
section CHS
variable {v bt : Nat → Nat} {E : Nat}
theorem tl_lt (hb : ∀ j, j < 940 → bt j < 256) (b0 : v 0 ≤ 6) {w s : Nat} (hw : w < 6) : tlN v bt w s < 1000 := by
  have hmul : v 0 * w ≤ 6 * 6 := Nat.mul_le_mul b0 (by omega)
  unfold tlN
  by_cases q : s < v 0
  · rw [if_pos q]
    have := hb (v 0 * w + s) (by omega)
    omega
  · rw [if_neg q]
    decide
theorem okK_df {f : Nat → Nat} {c : Nat} : okK v bt f c E = decide (df (fun s => geN v f c E s) (fun s => tlN v bt c s) 6 = 0) := by
  refine Bool.eq_iff_iff.mpr ?_
  rw [okK_iff, decide_eq_true_eq, df_0]
  exact Iff.rfl
theorem oth_c (hO : HOK v) (hE : E ≤ 60) (hb : ∀ j, j < 940 → bt j < 256) {a b : Nat} (ha : a < 6) (hbb : b < 6) {S : XS} (hB : CB v bt E S) : f_X0_areOthersAsTold 172 (oo a) (oo b) S = some (othN v bt E a b, S) := by
  obtain ⟨⟨b0, b1, b2, b3, b4, b5⟩, -⟩ := id hO
  obtain ⟨h2, h3, hH, hG, hT⟩ := hB
  have key : ∀ m k f, k + m = v 3 → m < f → ((∃ w, k ≤ w ∧ w < v 3 ∧ w ≠ a ∧ w ≠ b ∧ ¬ okK v bt (fun _ => w) w E = true) ∧ f_X0_areOthersAsTold_L2 172 (oo a) (oo b) f (oo k) S = some (.inl (false, S))) ∨ ((∀ w, k ≤ w → w < v 3 → w ≠ a → w ≠ b → okK v bt (fun _ => w) w E = true) ∧ f_X0_areOthersAsTold_L2 172 (oo a) (oo b) f (oo k) S = some (.inr S)) := by
    intro m
    induction m with
    | zero =>
      intro k f hk hf
      obtain ⟨f, rfl⟩ : ∃ f', f = f' + 1 := ⟨f - 1, by omega⟩
      exact .inr ⟨fun w h1 h2 => by omega, by rw [f_X0_areOthersAsTold_L2, h3, if_pos (by rw [oo_le (by omega) (by omega)]; omega)]⟩
    | succ m ih =>
      intro k f hk hf
      obtain ⟨f, rfl⟩ : ∃ f', f = f' + 1 := ⟨f - 1, by omega⟩
      have hkv : k < v 3 := by omega
      have hd := dif6 (S := S) (c := 176) (d := 174) (r := E * 6 + k) (q := k) (g := fun s => geN v (fun _ => k) k E s) (h := fun s => tlN v bt k s) (fun s hs => by rw [g_176 (by omega)]; exact (hG.1 E k hkv (.inl (by omega))).2 s hs) (fun s hs => by rw [g_174 (by omega)]; exact hT k s hkv hs) (fun s hs => by have := geN_le (v := v) (f := fun _ => k) (c := k) E s; omega) (fun s hs => tl_lt hb b0 (by omega))
      have e : f_X0_areOthersAsTold_L2 172 (oo a) (oo b) (f + 1) (oo k) S = if k = a ∨ k = b ∨ okK v bt (fun _ => k) k E = true then f_X0_areOthersAsTold_L2 172 (oo a) (oo b) f (oo (k + 1)) S else some (.inl (false, S)) := by
        rw [f_X0_areOthersAsTold_L2, h3, if_neg (by rw [oo_le (by omega) (by omega)]; omega), h2, show rf 172 6 = 176 from rfl, show rf 172 4 = 174 from rfl, show (6 : Int32) = oo 6 from rfl, oo_mul, oo_add, hd, Option.bind_some, ieq (by omega) (by omega), ieq (by omega) (by omega), show (1 : Int32) = oo 1 from rfl, oo_add]
        dsimp only
        have hdl : df (fun s => geN v (fun _ => k) k E s) (fun s => tlN v bt k s) 6 ≤ 6 * 1000 := df_le (fun s hs => by have := geN_le (v := v) (f := fun _ => k) (c := k) E s; omega) (fun s hs => by have := tl_lt (s := s) hb b0 (show k < 6 by omega); omega) 6 (Nat.le_refl _)
        rw [okK_df, show (0 : Int32) = oo 0 from rfl, ieq (by omega) (by decide)]
        by_cases q1 : k = a
        · rw [if_pos q1, if_pos (.inl q1)]
        · rw [if_neg q1]
          by_cases q2 : k = b
          · rw [if_pos q2, if_pos (.inr (.inl q2))]
          · rw [if_neg q2]
            by_cases q3 : df (fun s => geN v (fun _ => k) k E s) (fun s => tlN v bt k s) 6 = 0
            · rw [if_pos q3, if_pos (.inr (.inr (decide_eq_true q3)))]
            · rw [if_neg q3, if_neg (fun z => by
                rcases z with z | z | z
                · exact q1 z
                · exact q2 z
                · exact q3 (of_decide_eq_true z))]
      rw [e]
      by_cases q : k = a ∨ k = b ∨ okK v bt (fun _ => k) k E = true
      · rw [if_pos q]
        rcases ih (k + 1) f (by omega) (by omega) with ⟨⟨w, s1, s2, s3⟩, r⟩ | ⟨r1, r2⟩
        · exact .inl ⟨⟨w, by omega, s2, s3⟩, r⟩
        · refine .inr ⟨fun w c1 c2 c3 c4 => ?_, r2⟩
          rcases Nat.lt_or_ge k w with z | z
          · exact r1 w z c2 c3 c4
          · obtain rfl : w = k := by omega
            exact (q.resolve_left c3).resolve_left c4
      · rw [if_neg q]
        exact .inl ⟨⟨k, Nat.le_refl _, hkv, fun z => q (.inl z), fun z => q (.inr (.inl z)), fun z => q (.inr (.inr z))⟩, rfl⟩
  unfold f_X0_areOthersAsTold
  rw [show (0 : Int32) = oo 0 from rfl]
  rcases key (v 3) 0 1000000 (by omega) (by omega) with ⟨⟨w, w1, w2, w3, w4, w5⟩, r⟩ | ⟨r1, r2⟩
  · have : othN v bt E a b = false := by
      cases q : othN v bt E a b with
      | false => rfl
      | true => exact absurd ((othN_iff b3).mp q w w2 w3 w4) w5
    rw [r, this]
    rfl
  · have : othN v bt E a b = true := (othN_iff b3).mpr (fun w h1 h2 h3 => r1 w (Nat.zero_le _) h1 h2 h3)
    rw [r2, this]
    rfl
theorem asTold_c (hO : HOK v) (hE : E ≤ 60) (hb : ∀ j, j < 940 → bt j < 256) {c o h : Nat} (hc : c < v 3) (ho : o < v 3) (h1 : 1 ≤ h) (hhE : h ≤ E) {S : XS} (hB : CB v bt E S) : ∃ U, f_X0_isAsTold 172 7 (oo c) (oo o) (oo h) S = some (okK v bt (fun t => if h ≤ t then o else c) c E, U) ∧ Fr [(177, 9999)] S U := by
  obtain ⟨⟨b0, b1, b2, b3, b4, b5⟩, -, -, -, hkp, -⟩ := id hO
  obtain ⟨k1, k2, k3⟩ := hkp c hc
  obtain ⟨h2, h3, hH, hG, hT⟩ := id hB
  have base : ∀ t s, t < h → geN v (fun t => if h ≤ t then o else c) c t s = geN v (fun _ => c) c t s := fun t s ht => geN_cg t s (fun u u1 u2 => by
    show (if h ≤ u then o else c) = c
    rw [if_neg (by omega)])
  have htk := takeB_c (S := S) (i := (h - 1) * 6 + c) (x := fun s => geN v (fun t => if h ≤ t then o else c) c (h - 1) s) (by omega) (fun s hs => by
    rw [base (h - 1) s (by omega)]
    exact (hG.1 (h - 1) c hc (.inl (by omega))).2 s hs)
  have F1 : Fr [(177, 9999)] S (blk S 177 0 6 (fun z => oo (geN v (fun t => if h ≤ t then o else c) c (h - 1) z))) := Fr.blk (Fr.rf _ _) rfl
  have hin : ∀ s, s < 6 → (blk S 177 0 6 (fun z => oo (geN v (fun t => if h ≤ t then o else c) c (h - 1) z))).1 177 s = oo (geN v (fun t => if h ≤ t then o else c) c (h - 1) s) := fun s hs => blk_in (by omega)
  generalize blk S 177 0 6 (fun z => oo (geN v (fun t => if h ≤ t then o else c) c (h - 1) z)) = A at htk F1 hin
  have key : ∀ m t f (T : XS), t + m = E + 1 → m < f → h ≤ t → CB v bt E T → (∀ s, s < 6 → T.1 177 s = oo (geN v (fun t => if h ≤ t then o else c) c (t - 1) s)) → ∃ U, f_X0_isAsTold_L22 172 7 (oo c) (oo o) f (oo t) T = some U ∧ (∀ s, s < 6 → U.1 177 s = oo (geN v (fun t => if h ≤ t then o else c) c E s)) ∧ Fr [(177, 9999)] T U := by
    intro m
    induction m with
    | zero =>
      intro t f T ht hf hht hBT h177
      obtain ⟨f, rfl⟩ : ∃ f', f = f' + 1 := ⟨f - 1, by omega⟩
      obtain rfl : t = E + 1 := by omega
      rw [Nat.add_sub_cancel] at h177
      refine ⟨T, ?_, h177, Fr.rf _ _⟩
      rw [f_X0_isAsTold_L22, hBT.1, if_pos (by rw [oo_lt (by omega) (by omega)]; omega)]
    | succ m ih =>
      intro t f T ht hf hht hBT h177
      obtain ⟨f, rfl⟩ : ∃ f', f = f' + 1 := ⟨f - 1, by omega⟩
      obtain ⟨t, rfl⟩ : ∃ t', t = t' + 1 := ⟨t - 1, by omega⟩
      rw [Nat.add_sub_cancel] at h177
      obtain ⟨q2, q3, qH, qG, qT⟩ := id hBT
      have hp := wpN_lt hO ho (t + 1)
      have e175 : gat T 175 (oo ((t + 1) * 6 + o)) = oo (wpN v o (t + 1)) := by rw [g_175 (by omega)]; exact (qG.1 (t + 1) o ho (.inl (by omega))).1
      have hh := hour_c (S := T) (a := 177) (r := 0) (b := t_X2_isRainTold 7 (oo (t + 1)) T) (x := fun s => geN v (fun t => if h ≤ t then o else c) c t s) qH hO ln_177 (by decide) (by decide) (by decide) (show c < 6 by omega) k1 k2 (show wpN v o (t + 1) < 6 by omega) (show t + 1 ≤ 2000 by omega) (fun s hs => by
        have := geN_le (v := v) (f := fun t => if h ≤ t then o else c) (c := c) t s
        rw [show 0 * 6 + s = s by omega]
        exact ⟨h177 s hs, by omega⟩)
      rw [rainT_c qH hO (by omega)] at hh
      have F2 : Fr [(177, 9999)] T (blk T 177 (0 * 6) 6 (fun j => oo (hrN v c (t + 1) (rainW v (t + 1)) (wpN v o (t + 1)) ((fun s => geN v (fun t => if h ≤ t then o else c) c t s) (j - 0 * 6)) (j - 0 * 6)))) := Fr.blk (Fr.rf _ _) rfl
      have hin2 : ∀ s, s < 6 → (blk T 177 (0 * 6) 6 (fun j => oo (hrN v c (t + 1) (rainW v (t + 1)) (wpN v o (t + 1)) ((fun s => geN v (fun t => if h ≤ t then o else c) c t s) (j - 0 * 6)) (j - 0 * 6)))).1 177 s = oo (geN v (fun t => if h ≤ t then o else c) c (t + 1) s) := fun s hs => by
        rw [blk_in (by omega), geN]
        rw [show s - 0 * 6 = s by omega]
        show _ = oo (hrN v c (t + 1) (rainW v (t + 1)) (wpN v (if h ≤ t + 1 then o else c) (t + 1)) _ s)
        rw [if_pos hht]
      generalize blk T 177 (0 * 6) 6 (fun j => oo (hrN v c (t + 1) (rainW v (t + 1)) (wpN v o (t + 1)) ((fun s => geN v (fun t => if h ≤ t then o else c) c t s) (j - 0 * 6)) (j - 0 * 6))) = C at hh F2 hin2
      obtain ⟨U, u1, u2, u3⟩ := ih (t + 1 + 1) f C (by omega) (by omega) (by omega) (hBT.fr F2 rfl rfl) (by rw [Nat.add_sub_cancel]; exact hin2)
      refine ⟨U, ?_, u2, Fr.trans F2 u3⟩
      rw [f_X0_isAsTold_L22, q2, if_neg (by rw [oo_lt (by omega) (by omega)]; omega), show rf 172 7 = 177 from rfl, show rf 172 5 = 175 from rfl, show (6 : Int32) = oo 6 from rfl, oo_mul, oo_add, e175, show (0 : Int32) = oo 0 from rfl, hh, Option.bind_some, show (1 : Int32) = oo 1 from rfl, oo_add, u1]
  obtain ⟨U, u1, u2, u3⟩ := key (E + 1 - h) h 1000000 A (by omega) (by omega) (Nat.le_refl _) (hB.fr F1 rfl rfl) hin
  have FU : Fr [(177, 9999)] S U := Fr.trans F1 u3
  have hTU := (hB.fr FU rfl rfl).2.2.2.2
  have hd := dif6 (S := U) (c := 177) (d := 174) (r := 0) (q := c) (g := fun s => geN v (fun t => if h ≤ t then o else c) c E s) (h := fun s => tlN v bt c s) (fun s hs => by rw [show 0 * 6 + s = s by omega, g_177 (by omega)]; exact u2 s hs) (fun s hs => by rw [g_174 (by omega)]; exact hTU c s hc hs) (fun s hs => by have := geN_le (v := v) (f := fun t => if h ≤ t then o else c) (c := c) E s; omega) (fun s hs => tl_lt hb b0 (by omega))
  have hdl : df (fun s => geN v (fun t => if h ≤ t then o else c) c E s) (fun s => tlN v bt c s) 6 ≤ 6 * 1000 := df_le (fun s hs => by have := geN_le (v := v) (f := fun t => if h ≤ t then o else c) (c := c) E s; omega) (fun s hs => by have := tl_lt (s := s) hb b0 (show c < 6 by omega); omega) 6 (Nat.le_refl _)
  refine ⟨U, ?_, FU⟩
  unfold f_X0_isAsTold
  rw [show rf 172 7 = 177 from rfl, show rf 172 4 = 174 from rfl, show (1 : Int32) = oo 1 from rfl, oo_sub h1, show (6 : Int32) = oo 6 from rfl, oo_mul, oo_add, show (0 : Int32) = oo 0 from rfl, htk, Option.bind_some, u1, Option.bind_some, hd, Option.bind_some]
  dsimp only
  rw [ieq (by omega) (by decide), okK_df]
  by_cases q : df (fun s => geN v (fun t => if h ≤ t then o else c) c E s) (fun s => tlN v bt c s) 6 = 0
  · rw [if_pos q, decide_eq_true q]
  · rw [if_neg q, decide_eq_false q]
theorem srch_h (hO : HOK v) (hE : E ≤ 60) (hb : ∀ j, j < 940 → bt j < 256) {a b : Nat} (ha : a < v 3) (hbb : b < v 3) (hab : a ≠ b) (hoth : othN v bt E a b = true) : ∀ m h f (S : XS) (ws : List Nat), h + m = E + 1 → m < f → 1 ≤ h → CB v bt E S → wsC S ws → ws.length + m < 100000 → ∃ U, f_X0_searchHours_L3 172 7 (oo a) (oo b) f (oo h) S = some U ∧ wsC U (hrF (chP v bt E a b) a b m h ws) ∧ Fr [(177, 9999), (172, 0), (173, 9999)] S U := by
  obtain ⟨⟨b0, b1, b2, b3, b4, b5⟩, -⟩ := id hO
  intro m
  induction m with
  | zero =>
    intro h f S ws hh hf h1 hB hw hl
    obtain ⟨f, rfl⟩ : ∃ f', f = f' + 1 := ⟨f - 1, by omega⟩
    refine ⟨S, ?_, hw, Fr.rf _ _⟩
    rw [f_X0_searchHours_L3, hB.1, if_pos (by rw [oo_lt (by omega) (by omega)]; omega)]
  | succ m ih =>
    intro h f S ws hh hf h1 hB hw hl
    obtain ⟨f, rfl⟩ : ∃ f', f = f' + 1 := ⟨f - 1, by omega⟩
    obtain ⟨A, a1, a2⟩ := asTold_c hO hE hb ha hbb h1 (by omega) hB
    have hBA := hB.fr a2 rfl rfl
    obtain ⟨B, c1, c2⟩ := asTold_c hO hE hb hbb ha h1 (by omega) hBA
    have hBB := hBA.fr c2 rfl rfl
    have eP := chP_eq (bt := bt) (E := E) (h := h) b3 ha hbb hab
    rw [hoth, Bool.true_and] at eP
    have hlen : (ws ++ [10000 * a + 1000 * b + h]).length = ws.length + 1 := by rw [List.length_append]; rfl
    rw [f_X0_searchHours_L3, hB.1, if_neg (by rw [oo_lt (by omega) (by omega)]; omega), a1, Option.bind_some, hrF]
    dsimp only
    by_cases q1 : okK v bt (fun t => if h ≤ t then b else a) a E = true
    · rw [if_pos q1, c1, Option.bind_some]
      dsimp only
      by_cases q2 : okK v bt (fun t => if h ≤ t then a else b) b E = true
      · have hP : chP v bt E a b h = true := by rw [eP, q1, q2]; rfl
        have hwB : wsC B ws := (hw.fr a2 rfl).fr c2 rfl
        rw [if_pos q2, if_pos hP, show rf 172 1 = 173 from rfl, hwB.1, show (10000 : Int32) = oo 10000 from rfl, show (1000 : Int32) = oo 1000 from rfl, show (1 : Int32) = oo 1 from rfl, oo_mul, oo_mul, oo_add, oo_add, oo_add]
        obtain ⟨X, x1, x2, x3⟩ : ∃ X, sI (pat B 173 (oo ws.length) (oo (10000 * a + 1000 * b + h))) 172 0 ((pat B 173 (oo ws.length) (oo (10000 * a + 1000 * b + h))).1 172 0 + oo 1) = X ∧ wsC X (ws ++ [10000 * a + 1000 * b + h]) ∧ Fr [(177, 9999), (172, 0), (173, 9999)] B X := by
          by_cases q : ws.length < 40
          · refine ⟨_, rfl, ⟨?_, fun k k1 k2 => ?_⟩, ?_⟩
            · rw [sI_same, p_173 q, sI_cell (by decide), hwB.1, oo_add, hlen]
            · rw [hlen] at k2
              rw [sI_cell (by decide), p_173 q]
              by_cases e : k = ws.length
              · rw [e, sI_same, gd_last]
              · rw [sI_place e, gd_l (by omega)]
                exact hwB.2 k k1 (by omega)
            · rw [p_173 q]
              exact Fr.sIp (Fr.sIr (Fr.rf _ _) rfl) rfl
          · refine ⟨_, rfl, ⟨?_, fun k k1 k2 => ?_⟩, ?_⟩
            · rw [sI_same, patc_out ln_173 (by omega) (by omega), hwB.1, oo_add, hlen]
            · rw [sI_cell (by decide), patc_out ln_173 (by omega) (by omega), gd_l (by omega)]
              exact hwB.2 k k1 (by omega)
            · rw [patc_out ln_173 (by omega) (by omega)]
              exact Fr.sIp (Fr.rf _ _) rfl
        rw [x1]
        obtain ⟨U, u1, u2, u3⟩ := ih (h + 1) f X _ (by omega) (by omega) (by omega) (hBB.fr x3 rfl rfl) x2 (by rw [hlen]; omega)
        exact ⟨U, u1, u2, Fr.trans (a2.mono rfl) (Fr.trans (c2.mono rfl) (Fr.trans x3 u3))⟩
      · have hP : ¬ chP v bt E a b h = true := by
          rw [eP, Bool.and_eq_true]
          exact fun z => q2 z.2
        rw [if_neg q2, if_neg hP, show (1 : Int32) = oo 1 from rfl, oo_add]
        obtain ⟨U, u1, u2, u3⟩ := ih (h + 1) f B ws (by omega) (by omega) (by omega) hBB ((hw.fr a2 rfl).fr c2 rfl) (by omega)
        exact ⟨U, u1, u2, Fr.trans (a2.mono rfl) (Fr.trans (c2.mono rfl) u3)⟩
    · have hP : ¬ chP v bt E a b h = true := by
        rw [eP, Bool.and_eq_true]
        exact fun z => q1 z.1
      rw [if_neg q1, if_neg hP, show (1 : Int32) = oo 1 from rfl, oo_add]
      obtain ⟨U, u1, u2, u3⟩ := ih (h + 1) f A ws (by omega) (by omega) (by omega) hBA (hw.fr a2 rfl) (by omega)
      exact ⟨U, u1, u2, Fr.trans (a2.mono rfl) u3⟩
theorem srch_b (hO : HOK v) (hE : E ≤ 60) (hb : ∀ j, j < 940 → bt j < 256) {a : Nat} (ha : a < v 3) : ∀ m b f (S : XS) (ws : List Nat), b + m = v 3 → m < f → a < b → CB v bt E S → wsC S ws → ws.length + m * E < 50000 → ∃ U, f_X0_search_L58 (oo a) 172 7 f (oo b) S = some U ∧ wsC U (prF (chP v bt E a) a E m b ws) ∧ Fr [(177, 9999), (172, 0), (173, 9999)] S U := by
  obtain ⟨⟨b0, b1, b2, b3, b4, b5⟩, -⟩ := id hO
  intro m
  induction m with
  | zero =>
    intro b f S ws hh hf hab hB hw hl
    obtain ⟨f, rfl⟩ : ∃ f', f = f' + 1 := ⟨f - 1, by omega⟩
    refine ⟨S, ?_, hw, Fr.rf _ _⟩
    rw [f_X0_search_L58, hB.2.1, if_pos (by rw [oo_le (by omega) (by omega)]; omega)]
  | succ m ih =>
    intro b f S ws hh hf hab hB hw hl
    obtain ⟨f, rfl⟩ : ∃ f', f = f' + 1 := ⟨f - 1, by omega⟩
    rw [Nat.succ_mul] at hl
    have hlen := hrF_len (P := chP v bt E a b) (a := a) (b := b) E 1 ws
    rw [f_X0_search_L58, hB.2.1, if_neg (by rw [oo_le (by omega) (by omega)]; omega), oth_c hO hE hb (by omega) (by omega) hB, Option.bind_some, prF]
    dsimp only
    by_cases q : othN v bt E a b = true
    · obtain ⟨A, a1, a2, a3⟩ := srch_h hO hE hb ha (by omega) (by omega) q E 1 1000000 S ws (by omega) (by omega) (Nat.le_refl _) hB hw (by omega)
      obtain ⟨U, u1, u2, u3⟩ := ih (b + 1) f A _ (by omega) (by omega) (by omega) (hB.fr a3 rfl rfl) a2 (by omega)
      refine ⟨U, ?_, u2, Fr.trans a3 u3⟩
      unfold f_X0_searchHours
      rw [if_pos q, show (1 : Int32) = oo 1 from rfl, a1, Option.bind_some, Option.bind_some, oo_add, u1]
    · have hno : ∀ h, ¬ chP v bt E a b h = true := fun h z => by
        rw [chP_eq b3 ha (by omega) (by omega), Bool.and_eq_true] at z
        exact q z.1
      rw [hrF_no hno]
      obtain ⟨U, u1, u2, u3⟩ := ih (b + 1) f S ws (by omega) (by omega) (by omega) hB hw (by omega)
      refine ⟨U, ?_, u2, u3⟩
      rw [if_neg q, show (1 : Int32) = oo 1 from rfl, oo_add, u1]
theorem srch_a (hO : HOK v) (hE : E ≤ 60) (hb : ∀ j, j < 940 → bt j < 256) : ∀ m a f (S : XS) (ws : List Nat), a + m = v 3 → m < f → CB v bt E S → wsC S ws → ws.length + triN m * E < 10000 → ∃ U, f_X0_search_L43 172 7 f (oo a) S = some U ∧ wsC U (alF (chP v bt E) (v 3) E m a ws) ∧ Fr [(177, 9999), (172, 0), (173, 9999)] S U := by
  obtain ⟨⟨b0, b1, b2, b3, b4, b5⟩, -⟩ := id hO
  intro m
  induction m with
  | zero =>
    intro a f S ws hh hf hB hw hl
    obtain ⟨f, rfl⟩ : ∃ f', f = f' + 1 := ⟨f - 1, by omega⟩
    refine ⟨S, ?_, hw, Fr.rf _ _⟩
    rw [f_X0_search_L43, hB.2.1, if_pos (by rw [oo_le (by omega) (by omega)]; omega)]
  | succ m ih =>
    intro a f S ws hh hf hB hw hl
    obtain ⟨f, rfl⟩ : ∃ f', f = f' + 1 := ⟨f - 1, by omega⟩
    rw [triN, Nat.add_mul] at hl
    have hm : v 3 - (a + 1) = m := by omega
    obtain ⟨A, a1, a2, a3⟩ := srch_b (bt := bt) (a := a) hO hE hb (by omega) (v 3 - (a + 1)) (a + 1) 1000000 S ws (by omega) (by omega) (by omega) hB hw (by rw [hm]; omega)
    have hlen := prF_len (P := chP v bt E a) (a := a) (E := E) (v 3 - (a + 1)) (a + 1) ws
    rw [hm] at hlen
    obtain ⟨U, u1, u2, u3⟩ := ih (a + 1) f A _ (by omega) (by omega) (hB.fr a3 rfl rfl) a2 (by rw [hm]; omega)
    refine ⟨U, ?_, u2, Fr.trans a3 u3⟩
    rw [f_X0_search_L43, hB.2.1, if_neg (by rw [oo_le (by omega) (by omega)]; omega), show (1 : Int32) = oo 1 from rfl, oo_add, a1, Option.bind_some, u1]
end CHS
