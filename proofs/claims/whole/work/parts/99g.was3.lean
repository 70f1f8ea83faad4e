/-! the reference's rows, code by code -/
def FN : List (Nat × Nat) := [(207, 9999), (208, 9999), (209, 9999), (210, 9999), (188, 41)]
def wN (n : Nat) (T0 T : XS) (A : WAc) : Prop := (∀ t x, t < n → x < 6 → T.1 207 (6 * t + x) = oo (A.2.1 (t + 1) x) ∧ A.2.1 (t + 1) x ≤ A.1) ∧ (if A.1 = 0 then T.1 188 41 = T0.1 188 41 ∧ T.1 208 = T0.1 208 else T.1 188 41 = oo n ∧ ∀ t, t < n → T.1 208 t = oo (A.2.2.getD (n - (t + 1)) 0))
section WN
variable {v : Nat → Nat} {w n np : Nat} {T0 : XS}
theorem digits_n {x7 x6 x5 x3 x1 x2 : Int32} (hnp : 1 ≤ np) (hnp6 : np ≤ 6) : ∀ m i c (T : XS), m ≤ 6 → m < i → c < 1000000 → ∃ U, f_X12_was_L168 x7 x6 x5 (oo np) x3 188 x1 x2 i (oo c) (enc m) T = some U ∧ (∀ t, t < m → U.1 210 t = oo ((dgR np m c).getD (m - 1 - t) 0)) ∧ (∀ t, m ≤ t → U.1 210 t = T.1 210 t) ∧ Fr [(210, 9999)] T U := by
  intro m
  induction m with
  | zero =>
    intro i c T _ hi hc
    obtain ⟨i, rfl⟩ : ∃ i', i = i' + 1 := ⟨i - 1, by omega⟩
    refine ⟨T, ?_, fun t ht => absurd ht (Nat.not_lt_zero _), fun t _ => rfl, Fr.rf _ _⟩
    rw [enc_0, f_X12_was_L168, if_pos (by decide)]
  | succ m ih =>
    intro i c T hm hi hc
    obtain ⟨i, rfl⟩ : ∃ i', i = i' + 1 := ⟨i - 1, by omega⟩
    have hdv : c / np ≤ c := Nat.div_le_self _ _
    have hnx : oo m + (-1) = enc m := oo_dec m
    have F1 : Fr [(210, 9999)] T (sI T 210 m (oo (c % np))) := Fr.sIr (Fr.rf _ _) rfl
    obtain ⟨U, u1, u2, u3, u4⟩ := ih i (c / np) (sI T 210 m (oo (c % np))) (by omega) (by omega) (by omega)
    refine ⟨U, ?_, fun t ht => ?_, fun t ht => ?_, Fr.trans F1 u4⟩
    · have hne : ¬ oo np = 0 := by rw [show (0 : Int32) = oo 0 from rfl, oo_eq (by omega) (by decide)]; omega
      rw [enc_s, f_X12_was_L168, if_neg (by rw [show (0 : Int32) = oo 0 from rfl, oo_lt (by omega) (by decide)]; omega), if_neg hne, show rf 188 38 = 210 from rfl, if_neg (by
        rw [ln_210]
        exact oo_inb (by omega) (by omega)), if_neg hne, oo_nat (by omega), oo_rem (by omega) (by omega), oo_div (by omega) (by omega), hnx, u1]
    · rw [dgR]
      by_cases hz : t = m
      · rw [u3 t (by omega), hz, sI_same, show m + 1 - 1 - m = 0 by omega]
        rfl
      · rw [u2 t (by omega), show m + 1 - 1 - t = (m - 1 - t) + 1 by omega]
        rfl
    · rw [u3 t (by omega), sI_place (by omega)]
theorem wear_i {x3 x2 h : Nat} {T : XS} {R : List Nat} (hN : IsC T 190 516 v) (hO : HOK v) (hw : w < v 3) (hh : h = R.length + 1) (hh6 : h ≤ 6) {p : Nat} (hp : p < 6) : ∀ m k i (T : XS), k + m = v 0 → m < i → IsC T 190 516 v → T.1 210 (h - 1) = oo p → (∀ s, s < 6 → T.1 209 s = oo (if s < k then ctR v w (p :: R) s else ctR v w R s)) → ∃ U, f_X12_wearThrough_L31 (oo h) 188 (oo w) (oo x2) i (oo k) T = some U ∧ (∀ s, s < 6 → U.1 209 s = oo (if s < v 0 then ctR v w (p :: R) s else ctR v w R s)) ∧ Fr [(209, 9999)] T U := by
  obtain ⟨⟨b0, b1, b2, b3, b4, b5⟩, hfa, -, -, hkp, -⟩ := id hO
  obtain ⟨k1, k2, k3⟩ := hkp w hw
  intro m
  induction m with
  | zero =>
    intro k i T hk hi hN _ h1
    obtain ⟨i, rfl⟩ : ∃ i', i = i' + 1 := ⟨i - 1, by omega⟩
    obtain rfl : k = v 0 := by omega
    refine ⟨T, ?_, h1, Fr.rf _ _⟩
    rw [f_X12_wearThrough_L31, show rf 188 14 = 190 from rfl, hN 0 (by decide), if_pos (Int32.le_refl _)]
  | succ m ih =>
    intro k i T hk hi hN h210 h1
    obtain ⟨i, rfl⟩ : ∃ i', i = i' + 1 := ⟨i - 1, by omega⟩
    have h99 := ctR_le (v := v) (w := w) R k
    have hf9 := (hfa k (by omega)).1
    have hair := airN_le hO (p := p) (s := k) hp (by omega)
    have ha := airOf6 hN hO (p := p) (s := k) hp (by omega)
    have e209 : T.1 209 k = oo (ctR v w R k) := by rw [h1 k (by omega), if_neg (Nat.lt_irrefl _)]
    have ef : (if rem32 (oo h) (T.1 190 ((66 : Int32) + oo w).toNatClampNeg) = 0 then (if ((6 : Int32) + oo k) < 0 ∨ ln 190 ≤ ((6 : Int32) + oo k).toNatClampNeg then none else some (T.1 190 ((6 : Int32) + oo k).toNatClampNeg)) else some (0 : Int32)) = some (oo (if h % v (66 + w) = 0 then v (6 + k) else 0)) := by
      rw [show (66 : Int32) = oo 66 from rfl, show (6 : Int32) = oo 6 from rfl, oo_add, oo_add, oo_nat (by omega), oo_nat (by omega), hN _ (by omega), hN _ (by omega), oo_rem (by omega) (by omega)]
      have hmod := Nat.mod_lt h (show v (66 + w) > 0 by omega)
      by_cases hz : h % v (66 + w) = 0
      · rw [if_pos hz, hz, if_pos (show oo 0 = (0 : Int32) from rfl), if_neg (by
          rw [ln_190]
          have := oo_inb (k := 6 + k) (m := 516) (by omega) (by omega)
          rw [oo_nat (by omega)] at this
          exact this)]
      · rw [if_neg hz, if_neg (by rw [show (0 : Int32) = oo 0 from rfl, oo_eq (by omega) (by decide)]; exact hz)]
        rfl
    have hval : t_X12_least (99 : Int32) ((t_X12_less (oo (ctR v w R k)) (oo (if h % v (66 + w) = 0 then v (6 + k) else 0))) + oo (airN v p k)) = oo (ctR v w (p :: R) k) := by
      have hfb : (if h % v (66 + w) = 0 then v (6 + k) else 0) ≤ 9 := by split <;> omega
      rw [less_oo (by omega) (by omega), oo_add, show (99 : Int32) = oo 99 from rfl, least_oo (by omega), ctR, hh]
      rfl
    have F1 : Fr [(209, 9999)] T (sI T 209 k (oo (ctR v w (p :: R) k))) := Fr.sIr (Fr.rf _ _) rfl
    obtain ⟨U, u1, u2, u3⟩ := ih (k + 1) i (sI T 209 k (oo (ctR v w (p :: R) k))) (by omega) (by omega) (hN.cell (F1.row (c := 190) rfl)) (by rw [F1.row (c := 210) rfl]; exact h210) (fun s hs => by
      by_cases hz : s = k
      · rw [hz, sI_same, if_pos (Nat.lt_succ_self _)]
      · rw [sI_place hz, h1 s hs]
        by_cases hz2 : s < k
        · rw [if_pos hz2, if_pos (by omega)]
        · rw [if_neg hz2, if_neg (by omega)])
    refine ⟨U, ?_, u2, Fr.trans F1 u3⟩
    have e66 : T.1 190 ((66 : Int32) + oo w).toNatClampNeg = oo (v (66 + w)) := by
      rw [show (66 : Int32) = oo 66 from rfl, oo_add, oo_nat (by omega), hN _ (by omega)]
    rw [f_X12_wearThrough_L31, show rf 188 14 = 190 from rfl, hN 0 (by decide), if_neg (by rw [oo_le (by omega) (by omega)]; omega), show rf 188 37 = 209 from rfl, if_neg (by
      rw [ln_209]
      exact oo_inb (by omega) (by omega)), if_neg (by
      rw [ln_190, show (66 : Int32) = oo 66 from rfl, oo_add]
      exact oo_inb (by omega) (by omega)), ef, e66, if_neg (by rw [show (0 : Int32) = oo 0 from rfl, oo_eq (by omega) (by decide)]; omega), Option.bind_some, show rf 188 38 = 210 from rfl, show (1 : Int32) = oo 1 from rfl, oo_sub (by omega), if_neg (by
      rw [ln_210]
      exact oo_inb (by omega) (by omega)), oo_nat (by omega), h210, ha, Option.bind_some]
    dsimp only
    rw [if_neg (by
      rw [ln_209]
      exact oo_inb (by omega) (by omega)), oo_nat (by omega), e209, hval, oo_add, u1]
theorem wear_n {T : XS} {R : List Nat} (hO : HOK v) (hw : w < v 3) (hn6 : n ≤ 6) (hR : R.length = n) (hR6 : ∀ p ∈ R, p < 6) (hN : IsC T 190 516 v) (h210 : ∀ t, t < n → T.1 210 t = oo (R.getD (n - 1 - t) 0)) : ∃ U, f_X12_wearThrough 188 (oo w) (oo n) T = some U ∧ (∀ s, s < 6 → U.1 209 s = oo (ctR v w R s)) ∧ Fr [(209, 9999)] T U := by
  obtain ⟨⟨b0, b1, b2, b3, b4, b5⟩, -⟩ := id hO
  have hl := loop_blk (L := f_X12_wearThrough_L2 188 (oo w) (oo n)) (a := 209) (lo := 0) (st := 0) (m := 6) (f := fun _ => oo 0) (S := T) (R := some (blk T 209 0 6 (fun _ => oo 0))) (fun i k hk => by
    rw [Nat.zero_add, f_X12_wearThrough_L2, if_neg (by rw [show (6 : Int32) = oo 6 from rfl, oo_le (by decide) (by omega)]; omega), show rf 188 37 = 209 from rfl, if_neg (by
      rw [ln_209]
      exact oo_inb (by omega) (by omega)), oo_nat (by omega), show (1 : Int32) = oo 1 from rfl, oo_add]
    rfl) (fun i => by
    rw [f_X12_wearThrough_L2, if_pos (by decide)]) 1000000 (by decide)
  have F0 : Fr [(209, 9999)] T (blk T 209 0 6 (fun _ => oo 0)) := Fr.blk (Fr.rf _ _) rfl
  have key : ∀ m k i (T : XS), k + m = n → m < i → IsC T 190 516 v → (∀ t, t < n → T.1 210 t = oo (R.getD (n - 1 - t) 0)) → (∀ s, s < 6 → T.1 209 s = oo (ctR v w (R.drop (n - k)) s)) → ∃ U, f_X12_wearThrough_L23 188 (oo w) (oo n) i (oo (k + 1)) T = some U ∧ (∀ s, s < 6 → U.1 209 s = oo (ctR v w R s)) ∧ Fr [(209, 9999)] T U := by
    intro m
    induction m with
    | zero =>
      intro k i T hk hi hN _ h1
      obtain ⟨i, rfl⟩ : ∃ i', i = i' + 1 := ⟨i - 1, by omega⟩
      obtain rfl : k = n := by omega
      rw [Nat.sub_self, List.drop_zero] at h1
      refine ⟨T, ?_, h1, Fr.rf _ _⟩
      rw [f_X12_wearThrough_L23, if_pos (by rw [oo_lt (by omega) (by omega)]; omega)]
    | succ m ih =>
      intro k i T hk hi hN h210 h1
      obtain ⟨i, rfl⟩ : ∃ i', i = i' + 1 := ⟨i - 1, by omega⟩
      have hd : R.drop (n - (k + 1)) = R.getD (n - 1 - k) 0 :: R.drop (n - k) := by
        rw [List.drop_eq_getElem_cons (by omega), List.getD_eq_getElem?_getD, List.getElem?_eq_getElem (by omega)]
        rw [show n - (k + 1) + 1 = n - k by omega]
        congr 1
        show R[n - (k + 1)] = R[n - 1 - k]
        congr 1
        omega
      have hp := hR6 _ (mem_getD (R := R) (j := n - 1 - k) (by omega))
      obtain ⟨T1, t1, t2, t3⟩ := wear_i (x3 := 0) (x2 := n) (h := k + 1) (R := R.drop (n - k)) hN hO hw (by rw [List.length_drop]; omega) (by omega) hp (v 0) 0 1000000 T (by omega) (by omega) hN (by rw [Nat.add_sub_cancel]; exact h210 k (by omega)) (fun s hs => by rw [if_neg (Nat.not_lt_zero _)]; exact h1 s hs)
      obtain ⟨U, u1, u2, u3⟩ := ih (k + 1) i T1 (by omega) (by omega) (hN.cell (t3.row (c := 190) rfl)) (fun t ht => by rw [t3.row (c := 210) rfl]; exact h210 t ht) (fun s hs => by
        rw [t2 s hs, hd]
        by_cases hz : s < v 0
        · rw [if_pos hz]
        · have hm : ∀ q ∈ R.drop (n - k), q < 6 := fun q hq => hR6 q (List.mem_of_mem_drop hq)
          rw [if_neg hz, ctR_0 hO hs (by omega) _ hm, ctR_0 hO hs (by omega) _ (fun q hq => by
            rw [List.mem_cons] at hq
            rcases hq with rfl | hq
            · exact hp
            · exact hm q hq)])
      refine ⟨U, ?_, u2, Fr.trans t3 u3⟩
      rw [f_X12_wearThrough_L23, if_neg (by rw [oo_lt (by omega) (by omega)]; omega), show (0 : Int32) = oo 0 from rfl, t1, Option.bind_some, show (1 : Int32) = oo 1 from rfl, oo_add, u1]
  obtain ⟨U, u1, u2, u3⟩ := key n 0 1000000 _ (by omega) (by omega) (hN.cell (F0.row (c := 190) rfl)) (fun t ht => by rw [F0.row (c := 210) rfl]; exact h210 t ht) (fun s hs => by
    rw [blk_in (by omega), Nat.sub_zero, List.drop_of_length_le (by omega)]
    rfl)
  refine ⟨U, ?_, u2, Fr.trans F0 u3⟩
  unfold f_X12_wearThrough
  rw [show (0 : Int32) = oo 0 from rfl, hl, Option.bind_some, show (1 : Int32) = oo (0 + 1) from rfl, u1, Option.bind_some]
theorem so_n {x7 x6 x5 x4 x1 x2 : Int32} {T : XS} {tp ct : Nat → Nat} {N : Nat} (hN6 : N ≤ 6) (h206 : ∀ s, s < N → T.1 206 s = oo (tp s) ∧ tp s ≤ 255) (h209 : ∀ s, s < N → T.1 209 s = oo (ct s) ∧ ct s ≤ 255) : ∀ m k i (b : Bool), k + m = N → m < i → ∃ r : Bool, f_X12_was_L210 x7 x6 x5 x4 (oo N) 188 x1 x2 i (bi b) (oo k) T = some (bi r) ∧ (r = true ↔ b = true ∧ ∀ s, k ≤ s → s < N → ct s = tp s) := by
  intro m
  induction m with
  | zero =>
    intro k i b hk hi
    obtain ⟨i, rfl⟩ : ∃ i', i = i' + 1 := ⟨i - 1, by omega⟩
    obtain rfl : k = N := by omega
    refine ⟨b, ?_, ⟨fun h => ⟨h, fun s h1 h2 => by omega⟩, fun h => h.1⟩⟩
    rw [f_X12_was_L210, if_pos (Int32.le_refl _)]
  | succ m ih =>
    intro k i b hk hi
    obtain ⟨i, rfl⟩ : ∃ i', i = i' + 1 := ⟨i - 1, by omega⟩
    obtain ⟨e1, e2⟩ := h206 k (by omega)
    obtain ⟨e3, e4⟩ := h209 k (by omega)
    cases b with
    | false =>
      obtain ⟨r, r1, r2⟩ := ih (k + 1) i false (by omega) (by omega)
      refine ⟨r, ?_, ⟨fun h => absurd (r2.mp h).1 (by decide), fun h => absurd h.1 (by decide)⟩⟩
      rw [f_X12_was_L210, if_neg (by rw [oo_le (by omega) (by omega)]; omega), if_pos (show bi false = 0 from rfl), show (1 : Int32) = oo 1 from rfl, oo_add]
      exact r1
    | true =>
      have hin : ∀ M, M = 6 → ¬ (oo k < 0 ∨ M ≤ (oo k).toNatClampNeg) := fun M hM => oo_inb (by omega) (by omega)
      by_cases hq : ct k = tp k
      · obtain ⟨r, r1, r2⟩ := ih (k + 1) i true (by omega) (by omega)
        refine ⟨r, ?_, ?_⟩
        · rw [f_X12_was_L210, if_neg (by rw [oo_le (by omega) (by omega)]; omega), if_neg (by decide), show rf 188 37 = 209 from rfl, show rf 188 34 = 206 from rfl, if_neg (hin _ ln_209), if_neg (hin _ ln_206), oo_nat (by omega), e1, e3, if_pos (by rw [hq]), show (1 : Int32) = oo 1 from rfl, oo_add]
          exact r1
        · rw [r2]
          constructor
          · intro h
            refine ⟨rfl, fun s h1 h2 => ?_⟩
            by_cases hs : s = k
            · rw [hs]; exact hq
            · exact h.2 s (by omega) h2
          · intro h
            exact ⟨rfl, fun s h1 h2 => h.2 s (by omega) h2⟩
      · obtain ⟨r, r1, r2⟩ := ih (k + 1) i false (by omega) (by omega)
        refine ⟨r, ?_, ⟨fun h => absurd (r2.mp h).1 (by decide), fun h => absurd (h.2 k (Nat.le_refl _) (by omega)) hq⟩⟩
        rw [f_X12_was_L210, if_neg (by rw [oo_le (by omega) (by omega)]; omega), if_neg (by decide), show rf 188 37 = 209 from rfl, show rf 188 34 = 206 from rfl, if_neg (hin _ ln_209), if_neg (hin _ ln_206), oo_nat (by omega), e1, e3, if_neg (by rw [oo_eq (by omega) (by omega)]; exact hq), show (1 : Int32) = oo 1 from rfl, oo_add]
        exact r1
theorem addL_n {x7 x5 x4 x3 x1 : Int32} {A : WAc} {R : List Nat} (hn6 : n ≤ 6) (hR : R.length = n) (hR6 : ∀ p ∈ R, p < 6) (hA : A.1 < 1000000) : ∀ m k i (T : XS), k + m = n → m < i → (∀ t, t < n → T.1 210 t = oo (R.getD (n - 1 - t) 0)) → (∀ t x, t < n → x < 6 → T.1 207 (6 * t + x) = oo (A.2.1 (t + 1) x + (if t < k ∧ R.getD (n - (t + 1)) 0 = x then 1 else 0)) ∧ A.2.1 (t + 1) x ≤ A.1) → (∀ t, t < k → A.1 = 0 → T.1 208 t = oo (R.getD (n - (t + 1)) 0)) → ∃ U, f_X12_was_L262 x7 (oo A.1) x5 x4 x3 188 x1 (oo n) i (oo k) T = some U ∧ (∀ t x, t < n → x < 6 → U.1 207 (6 * t + x) = oo (A.2.1 (t + 1) x + (if R.getD (n - (t + 1)) 0 = x then 1 else 0))) ∧ (A.1 ≠ 0 → U.1 208 = T.1 208) ∧ (A.1 = 0 → ∀ t, t < n → U.1 208 t = oo (R.getD (n - (t + 1)) 0)) ∧ Fr [(207, 9999), (208, 9999)] T U := by
  intro m
  induction m with
  | zero =>
    intro k i T hk hi h210 h207 h208
    obtain ⟨i, rfl⟩ : ∃ i', i = i' + 1 := ⟨i - 1, by omega⟩
    obtain rfl : k = n := by omega
    refine ⟨T, ?_, fun t x ht hx => ?_, fun _ => rfl, fun h t ht => h208 t ht h, Fr.rf _ _⟩
    · rw [f_X12_was_L262, if_pos (Int32.le_refl _)]
    · rw [(h207 t x ht hx).1]
      congr 2
      by_cases hq : R.getD (k - (t + 1)) 0 = x
      · rw [if_pos ⟨by omega, hq⟩, if_pos hq]
      · rw [if_neg (fun z => hq z.2), if_neg hq]
  | succ m ih =>
    intro k i T hk hi h210 h207 h208
    obtain ⟨i, rfl⟩ : ∃ i', i = i' + 1 := ⟨i - 1, by omega⟩
    have hp := hR6 _ (mem_getD (R := R) (j := n - (k + 1)) (by omega))
    obtain ⟨e1, e2⟩ := h207 k (R.getD (n - (k + 1)) 0) (by omega) hp
    rw [if_neg (fun z => absurd z.1 (Nat.lt_irrefl _)), Nat.add_zero] at e1
    have e210 : T.1 210 k = oo (R.getD (n - (k + 1)) 0) := by rw [h210 k (by omega), show n - 1 - k = n - (k + 1) by omega]
    generalize hpp : R.getD (n - (k + 1)) 0 = p at hp e1 e2 e210
    have F1 : Fr [(207, 9999), (208, 9999)] T (sI T 207 (6 * k + p) (oo (A.2.1 (k + 1) p + 1))) := Fr.sIr (Fr.rf _ _) rfl
    have h207' : ∀ T1 : XS, T1.1 207 = (sI T 207 (6 * k + p) (oo (A.2.1 (k + 1) p + 1))).1 207 → ∀ t x, t < n → x < 6 → T1.1 207 (6 * t + x) = oo (A.2.1 (t + 1) x + (if t < k + 1 ∧ R.getD (n - (t + 1)) 0 = x then 1 else 0)) ∧ A.2.1 (t + 1) x ≤ A.1 := fun T1 hT1 t x ht hx => by
      obtain ⟨g1, g2⟩ := h207 t x ht hx
      refine ⟨?_, g2⟩
      rw [hT1]
      by_cases hq : t = k ∧ x = p
      · obtain ⟨rfl, rfl⟩ := hq
        rw [sI_same, if_pos ⟨Nat.lt_succ_self _, hpp⟩]
      · rw [sI_place (by omega), g1]
        congr 2
        by_cases hz : R.getD (n - (t + 1)) 0 = x
        · by_cases hzt : t < k
          · rw [if_pos ⟨hzt, hz⟩, if_pos ⟨by omega, hz⟩]
          · rw [if_neg (fun z => hzt z.1), if_neg (fun z => by
              have ht : t = k := by omega
              rw [ht, hpp] at hz
              exact hq ⟨ht, hz.symm⟩)]
        · rw [if_neg (fun z => hz z.2), if_neg (fun z => hz z.2)]
    by_cases hA0 : A.1 = 0
    · have F2 : Fr [(208, 9999)] (sI T 207 (6 * k + p) (oo (A.2.1 (k + 1) p + 1))) (sI (sI T 207 (6 * k + p) (oo (A.2.1 (k + 1) p + 1))) 208 k (oo p)) := Fr.sIr (Fr.rf _ _) rfl
      obtain ⟨U, u1, u2, -, u4, u5⟩ := ih (k + 1) i (sI (sI T 207 (6 * k + p) (oo (A.2.1 (k + 1) p + 1))) 208 k (oo p)) (by omega) (by omega) (fun t ht => by rw [F2.row (c := 210) rfl, F1.row (c := 210) rfl]; exact h210 t ht) (h207' _ (F2.row (c := 207) rfl)) (fun t ht h0 => by
        by_cases hz : t = k
        · rw [hz, sI_same, hpp]
        · rw [sI_place hz, sI_cell (by decide)]
          exact h208 t (by omega) h0)
      refine ⟨U, ?_, u2, fun h => absurd hA0 h, u4, Fr.trans F1 (Fr.trans (F2.mono rfl) u5)⟩
      have e210' : (sI T 207 (6 * k + p) (oo (A.2.1 (k + 1) p + 1))).1 210 k = oo p := by rw [F1.row (c := 210) rfl]; exact e210
      rw [hA0] at u1 ⊢
      simp (disch := omega) only [f_X12_was_L262, ↓oo_m1, oo_0, oo_1, oo_2, oo_3, oo_4, oo_5, oo_6, oo_7, oo_8, oo_9, oo_10, oo_12, oo_13, oo_14, oo_15, oo_16, oo_17, oo_18, oo_20, oo_24, oo_30, oo_32, oo_36, oo_40, oo_41, oo_48, oo_50, oo_57, oo_59, oo_60, oo_61, oo_62, oo_63, oo_64, oo_66, oo_72, oo_78, oo_96, oo_97, oo_99, oo_100, oo_101, oo_105, oo_107, oo_108, oo_109, oo_110, oo_111, oo_112, oo_114, oo_115, oo_116, oo_117, oo_119, oo_122, oo_128, oo_130, oo_134, oo_135, oo_136, oo_137, oo_138, oo_139, oo_140, oo_141, oo_142, oo_143, oo_144, oo_145, oo_151, oo_157, oo_194, oo_200, oo_240, oo_255, oo_256, oo_274, oo_276, oo_300, oo_516, oo_900, oo_940, oo_941, oo_999, oo_1000, oo_1040, oo_10000, oo_add, oo_mul, oo_sub, oo_lt, oo_le, oo_eq, oo_nat, oo_div, oo_rem, oo_nn, nn_oo, oo_nnlt, nn_oolt, oo_nnle, nn_oole, ↓reduceIte, if_pos, if_neg, or_false, false_or, or_true, true_or, and_true, true_and, and_false, false_and, not_true_eq_false, not_false_eq_true, Nat.not_lt_zero, Bool.false_eq_true, Bool.true_eq_false, rf_188_1, rf_188_14, rf_188_15, rf_188_16, rf_188_17, rf_188_18, rf_188_19, rf_188_20, rf_188_21, rf_188_22, rf_188_24, rf_188_25, rf_188_26, rf_188_27, rf_188_28, rf_188_31, rf_188_32, rf_188_34, rf_188_35, rf_188_36, rf_188_37, rf_188_38, rf_188_42, rf_188_43, rf_188_51, rf_188_52, rf_188_53, rf_188_55, ln_210, ln_207, ln_208, e210, e1, e210']
      exact u1
    · obtain ⟨U, u1, u2, u3, -, u5⟩ := ih (k + 1) i (sI T 207 (6 * k + p) (oo (A.2.1 (k + 1) p + 1))) (by omega) (by omega) (fun t ht => by rw [F1.row (c := 210) rfl]; exact h210 t ht) (h207' _ rfl) (fun t ht h0 => absurd h0 hA0)
      refine ⟨U, ?_, u2, fun h => by rw [u3 h, sI_cell (by decide)], fun h => absurd h hA0, Fr.trans F1 u5⟩
      simp (disch := omega) only [f_X12_was_L262, ↓oo_m1, oo_0, oo_1, oo_2, oo_3, oo_4, oo_5, oo_6, oo_7, oo_8, oo_9, oo_10, oo_12, oo_13, oo_14, oo_15, oo_16, oo_17, oo_18, oo_20, oo_24, oo_30, oo_32, oo_36, oo_40, oo_41, oo_48, oo_50, oo_57, oo_59, oo_60, oo_61, oo_62, oo_63, oo_64, oo_66, oo_72, oo_78, oo_96, oo_97, oo_99, oo_100, oo_101, oo_105, oo_107, oo_108, oo_109, oo_110, oo_111, oo_112, oo_114, oo_115, oo_116, oo_117, oo_119, oo_122, oo_128, oo_130, oo_134, oo_135, oo_136, oo_137, oo_138, oo_139, oo_140, oo_141, oo_142, oo_143, oo_144, oo_145, oo_151, oo_157, oo_194, oo_200, oo_240, oo_255, oo_256, oo_274, oo_276, oo_300, oo_516, oo_900, oo_940, oo_941, oo_999, oo_1000, oo_1040, oo_10000, oo_add, oo_mul, oo_sub, oo_lt, oo_le, oo_eq, oo_nat, oo_div, oo_rem, oo_nn, nn_oo, oo_nnlt, nn_oolt, oo_nnle, nn_oole, ↓reduceIte, if_pos, if_neg, or_false, false_or, or_true, true_or, and_true, true_and, and_false, false_and, not_true_eq_false, not_false_eq_true, Nat.not_lt_zero, Bool.false_eq_true, Bool.true_eq_false, rf_188_1, rf_188_14, rf_188_15, rf_188_16, rf_188_17, rf_188_18, rf_188_19, rf_188_20, rf_188_21, rf_188_22, rf_188_24, rf_188_25, rf_188_26, rf_188_27, rf_188_28, rf_188_31, rf_188_32, rf_188_34, rf_188_35, rf_188_36, rf_188_37, rf_188_38, rf_188_42, rf_188_43, rf_188_51, rf_188_52, rf_188_53, rf_188_55, ln_210, ln_207, e210, e1]
      exact u1
theorem codes_n {tp : Nat → Nat} (hO : HOK v) (hw : w < v 3) (hn1 : 1 ≤ n) (hn6 : n ≤ 6) (hnp : 1 ≤ np) (hnp6 : np ≤ 6) (htp : ∀ s, s < 6 → tp s ≤ 255 ∧ (v 0 ≤ s → tp s = 0)) {C : Nat} (hC : C ≤ 50000) : ∀ m c i (T : XS) (A : WAc), c + m = C → m < i → IsC T 190 516 v → (∀ s, s < v 0 → T.1 206 s = oo (tp s)) → wN n T0 T A → A.1 ≤ c → ∃ U, f_X12_was_L152 (oo C) (oo np) (oo (v 0)) 188 (oo w) (oo n) i (oo A.1) (oo c) T = some (oo (foldP (fun x A => if okN v w tp (dgR np n x) = true then addN n (dgR np n x) A else A) m c A).1, U) ∧ wN n T0 U (foldP (fun x A => if okN v w tp (dgR np n x) = true then addN n (dgR np n x) A else A) m c A) ∧ Fr FN T U := by
  obtain ⟨⟨b0, b1, b2, b3, b4, b5⟩, -⟩ := id hO
  intro m
  induction m with
  | zero =>
    intro c i T A hc hi hN h206 hA hAc
    obtain ⟨i, rfl⟩ : ∃ i', i = i' + 1 := ⟨i - 1, by omega⟩
    obtain rfl : c = C := by omega
    refine ⟨T, ?_, hA, Fr.rf _ _⟩
    rw [f_X12_was_L152, if_pos (Int32.le_refl _)]
    rfl
  | succ m ih =>
    intro c i T A hc hi hN h206 hA hAc
    obtain ⟨i, rfl⟩ : ∃ i', i = i' + 1 := ⟨i - 1, by omega⟩
    have hR : (dgR np n c).length = n := dgR_len n c
    have hR6 : ∀ p ∈ dgR np n c, p < 6 := fun p hp => by have := dgR_lt hnp n c p hp; omega
    have hen : oo n - oo 1 = enc n := by
      obtain ⟨n', rfl⟩ : ∃ n', n = n' + 1 := ⟨n - 1, by omega⟩
      rw [oo_sub (by omega), enc_s, Nat.add_sub_cancel]
    obtain ⟨T1, t1, t2, -, t4⟩ := digits_n (x7 := oo c) (x6 := oo A.1) (x5 := oo C) (x3 := oo (v 0)) (x1 := oo w) (x2 := oo n) hnp hnp6 n 1000000 c T hn6 (by omega) (by omega)
    obtain ⟨T2, s1, s2, s3⟩ := wear_n hO hw hn6 hR hR6 (hN.cell (t4.row (c := 190) rfl)) t2
    have F2 : Fr FN T T2 := Fr.trans (t4.mono rfl) (s3.mono rfl)
    have h206' : ∀ s, s < v 0 → T2.1 206 s = oo (tp s) := fun s hs => by rw [F2.row (c := 206) rfl]; exact h206 s hs
    obtain ⟨r, r1, r2⟩ := so_n (x7 := oo c) (x6 := oo A.1) (x5 := oo C) (x4 := oo np) (x1 := oo w) (x2 := oo n) (tp := tp) (ct := ctR v w (dgR np n c)) b0 (fun s hs => ⟨h206' s hs, (htp s (by omega)).1⟩) (fun s hs => ⟨s2 s (by omega), by have := ctR_le (v := v) (w := w) (dgR np n c) s; omega⟩) (v 0) 0 1000000 true (by omega) (by omega)
    have hok : (r = true) = (okN v w tp (dgR np n c) = true) := propext (by
      rw [r2, okN_iff]
      constructor
      · intro h s hs
        by_cases hz : s < v 0
        · exact h.2 s (Nat.zero_le _) hz
        · rw [ctR_0 hO hs (by omega) _ hR6, (htp s hs).2 (by omega)]
      · intro h
        exact ⟨rfl, fun s _ h2 => h s (by omega)⟩)
    have hA2 : wN n T0 T2 A := by
      unfold wN at hA ⊢
      have e41 : T2.1 188 41 = T.1 188 41 := by rw [s3.get (c := 188) (j := 41) rfl, t4.get (c := 188) (j := 41) rfl]
      have e207 : T2.1 207 = T.1 207 := by rw [s3.row (c := 207) rfl, t4.row (c := 207) rfl]
      have e208 : T2.1 208 = T.1 208 := by rw [s3.row (c := 208) rfl, t4.row (c := 208) rfl]
      rw [e41, e207, e208]
      exact hA
    have h210 : ∀ t, t < n → T2.1 210 t = oo ((dgR np n c).getD (n - 1 - t) 0) := fun t ht => by rw [s3.row (c := 210) rfl]; exact t2 t ht
    by_cases ho : okN v w tp (dgR np n c) = true
    · have hr : r = true := by rw [hok]; exact ho
      subst hr
      obtain ⟨T3, p1, p2, p3, p4, p5⟩ := addL_n (x7 := oo c) (x5 := oo C) (x4 := oo np) (x3 := oo (v 0)) (x1 := oo w) (A := A) hn6 hR hR6 (by omega) n 0 1000000 T2 (by omega) (by omega) h210 (fun t x ht hx => by
        obtain ⟨g1, g2⟩ := hA2.1 t x ht hx
        rw [if_neg (fun z => absurd z.1 (Nat.not_lt_zero _))]
        exact ⟨g1, g2⟩) (fun t ht => absurd ht (Nat.not_lt_zero _))
      have hadd : (foldP (fun x A => if okN v w tp (dgR np n x) = true then addN n (dgR np n x) A else A) (m + 1) c A) = foldP (fun x A => if okN v w tp (dgR np n x) = true then addN n (dgR np n x) A else A) m (c + 1) (addN n (dgR np n c) A) := by rw [foldP, if_pos ho]
      rw [hadd]
      have hbound : ∀ t x, t < n → x < 6 → (addN n (dgR np n c) A).2.1 (t + 1) x ≤ (addN n (dgR np n c) A).1 := fun t x ht hx => by
        have := (hA2.1 t x ht hx).2
        show A.2.1 (t + 1) x + _ ≤ A.1 + 1
        split <;> omega
      by_cases hA0 : A.1 = 0
      · have F4 : Fr [(188, 41)] T3 (sI T3 188 41 (oo n)) := Fr.sIp (Fr.rf _ _) rfl
        obtain ⟨U, u1, u2, u3⟩ := ih (c + 1) i (sI T3 188 41 (oo n)) (addN n (dgR np n c) A) (by omega) (by omega) (((hN.cell (F2.row (c := 190) rfl)).cell (p5.row (c := 190) rfl)).cell (F4.row (c := 190) rfl)) (fun s hs => by rw [F4.row (c := 206) rfl, p5.row (c := 206) rfl]; exact h206' s hs) ⟨fun t x ht hx => ⟨by rw [F4.row (c := 207) rfl]; exact p2 t x ht hx, hbound t x ht hx⟩, by
          rw [if_neg (by show ¬ A.1 + 1 = 0; omega)]
          refine ⟨sI_same _ _ _ _, fun t ht => ?_⟩
          rw [F4.row (c := 208) rfl, p4 hA0 t ht]
          show _ = oo ((if A.1 = 0 then dgR np n c else A.2.2).getD _ 0)
          rw [if_pos hA0]⟩ (by show A.1 + 1 ≤ c + 1; omega)
        refine ⟨U, ?_, u2, Fr.trans F2 (Fr.trans (p5.mono rfl) (Fr.trans (F4.mono rfl) u3))⟩
        rw [f_X12_was_L152, if_neg (by rw [oo_le (by omega) (by omega)]; omega), show (1 : Int32) = oo 1 from rfl, hen, t1, Option.bind_some, s1, Option.bind_some, show (oo 1 : Int32) = bi true from rfl, show (0 : Int32) = oo 0 from rfl, r1, Option.bind_some, if_neg (by decide), p1, Option.bind_some, if_pos (by rw [hA0]), show bi true = oo 1 from rfl, oo_add, oo_add]
        exact u1
      · obtain ⟨U, u1, u2, u3⟩ := ih (c + 1) i T3 (addN n (dgR np n c) A) (by omega) (by omega) ((hN.cell (F2.row (c := 190) rfl)).cell (p5.row (c := 190) rfl)) (fun s hs => by rw [p5.row (c := 206) rfl]; exact h206' s hs) ⟨fun t x ht hx => ⟨p2 t x ht hx, hbound t x ht hx⟩, by
          have h3 := hA2.2
          rw [if_neg hA0] at h3
          rw [if_neg (by show ¬ A.1 + 1 = 0; omega)]
          refine ⟨by rw [p5.get rfl]; exact h3.1, fun t ht => ?_⟩
          rw [p3 hA0, h3.2 t ht]
          show _ = oo ((if A.1 = 0 then dgR np n c else A.2.2).getD _ 0)
          rw [if_neg hA0]⟩ (by show A.1 + 1 ≤ c + 1; omega)
        refine ⟨U, ?_, u2, Fr.trans F2 (Fr.trans (p5.mono rfl) u3)⟩
        rw [f_X12_was_L152, if_neg (by rw [oo_le (by omega) (by omega)]; omega), show (1 : Int32) = oo 1 from rfl, hen, t1, Option.bind_some, s1, Option.bind_some, show (oo 1 : Int32) = bi true from rfl, show (0 : Int32) = oo 0 from rfl, r1, Option.bind_some, if_neg (by decide), p1, Option.bind_some, if_neg (by rw [oo_eq (by omega) (by decide)]; exact hA0), show bi true = oo 1 from rfl, oo_add, oo_add]
        exact u1
    · have hr : r = false := by
        cases r
        · rfl
        · exact absurd (hok ▸ rfl : okN v w tp (dgR np n c) = true) ho
      subst hr
      have hadd : (foldP (fun x A => if okN v w tp (dgR np n x) = true then addN n (dgR np n x) A else A) (m + 1) c A) = foldP (fun x A => if okN v w tp (dgR np n x) = true then addN n (dgR np n x) A else A) m (c + 1) A := by rw [foldP, if_neg ho]
      rw [hadd]
      obtain ⟨U, u1, u2, u3⟩ := ih (c + 1) i T2 A (by omega) (by omega) (hN.cell (F2.row (c := 190) rfl)) h206' hA2 (by omega)
      refine ⟨U, ?_, u2, Fr.trans F2 u3⟩
      rw [f_X12_was_L152, if_neg (by rw [oo_le (by omega) (by omega)]; omega), show (1 : Int32) = oo 1 from rfl, hen, t1, Option.bind_some, s1, Option.bind_some, show (oo 1 : Int32) = bi true from rfl, show (0 : Int32) = oo 0 from rfl, r1, Option.bind_some, if_pos (show bi false = oo 0 from rfl), show bi true = oo 1 from rfl, oo_add]
      exact u1
end WN
