/-! the reference goes on to the next token -/
def rfK (k : Nat) : Nat := if k = 0 then 0 else if k = 1 then 1 else if k = 3 then 3 else if k = 2 ∨ 128 ≤ k then 2 else 4
def tkN (b : Nat → Nat) (n lim p : Nat) (T : XS) : Prop := T.1 188 6 = oo (tkP b n lim p) ∧ T.1 188 7 = oo (rfK (tkK b n lim p)) ∧ (tkK b n lim p ≠ 0 → tkK b n lim p ≠ 1 → T.1 188 5 = oo (tkX b n p)) ∧ (isSg (tkK b n lim p) = true → T.1 188 9 = oo (tkK b n lim p)) ∧ (tkK b n lim p = 2 ∨ 128 ≤ tkK b n lim p → T.2 188 12 = pk27 (tkW b n p)) ∧ (tkK b n lim p = 3 → T.1 188 8 = oo (tkV b n p))
section LN
variable {b : Nat → Nat} {n lim : Nat}
theorem blank_n (hn : n ≤ 940) : ∀ m p f (T : XS), p + m = n → m < f → T.1 188 3 = oo n → T.1 188 5 = oo p → (∀ j, j < 940 → T.1 189 j = oo (b j) ∧ b j < 256) → ∃ U, f_X12_go_L0 188 f T = some U ∧ U.1 188 5 = oo (skN b m p) ∧ Fr [(188, 5)] T U := by
  intro m
  induction m with
  | zero =>
    intro p f T hp hf h3 h5 hb
    obtain ⟨f, rfl⟩ : ∃ f', f = f' + 1 := ⟨f - 1, by omega⟩
    obtain rfl : p = n := by omega
    exact ⟨T, by rw [f_X12_go_L0, h3, h5, if_pos (Int32.le_refl _)], h5, Fr.rf _ _⟩
  | succ m ih =>
    intro p f T hp hf h3 h5 hb
    obtain ⟨f, rfl⟩ : ∃ f', f = f' + 1 := ⟨f - 1, by omega⟩
    obtain ⟨e1, e2⟩ := hb p (by omega)
    have F1 : Fr [(188, 5)] T (sI T 188 5 (oo (p + 1))) := Fr.sIp (Fr.rf _ _) rfl
    obtain ⟨U, u1, u2, u3⟩ := ih (p + 1) f (sI T 188 5 (oo (p + 1))) (by omega) (by omega) (by rw [F1.get rfl]; exact h3) (sI_same _ _ _ _) (fun j hj => by rw [F1.row (c := 189) rfl]; exact hb j hj)
    rw [f_X12_go_L0, h3, h5, if_neg (by rw [oo_le (by omega) (by omega)]; omega), show rf 188 1 = 189 from rfl, if_neg (by rw [ln_189]; exact oo_inb (by omega) (by omega)), oo_nat (by omega), e1, show (1 : Int32) = oo 1 from rfl, oo_add, show (32 : Int32) = oo 32 from rfl, show (10 : Int32) = oo 10 from rfl, ieq (by omega) (by decide), skN]
    by_cases h32 : b p = 32
    · rw [if_pos h32, if_pos (by rw [h32]; rfl)]
      exact ⟨U, u1, u2, Fr.trans F1 u3⟩
    · rw [if_neg h32, if_neg (by rw [ln_189]; have := oo_inb (k := p) (m := 940) (by omega) (by omega); rwa [oo_nat (by omega)] at this), ieq (by omega) (by decide)]
      by_cases h10 : b p = 10
      · rw [if_pos h10, if_pos (by rw [h10]; rfl)]
        exact ⟨U, u1, u2, Fr.trans F1 u3⟩
      · rw [if_neg h10, if_neg (fun z => by
          have : isBl (b p) = false := by
            unfold isBl
            rw [Bool.or_eq_false_iff]
            exact ⟨beq_eq_false_iff_ne.mpr h32, beq_eq_false_iff_ne.mpr h10⟩
          rw [this] at z
          exact absurd z (by decide))]
        exact ⟨T, rfl, h5, Fr.rf _ _⟩
def gdN (b : Nat → Nat) (s : Nat) (lt : Bool) (k : Nat) : Bool := if lt = true then decide (clN b s k = k) else decide (clN b s k = 0)
theorem tapeAt_n {T : XS} {p : Nat} (hn : n ≤ 940) (hp : p ≤ n) (h3 : T.1 188 3 = oo n) (hb : ∀ j, j < 940 → T.1 189 j = oo (b j) ∧ b j < 256) : f_X12_tapeAt 188 (oo p) T = some (oo (if n ≤ p then 0 else b p), T) := by
  unfold f_X12_tapeAt
  rw [h3]
  by_cases h : n ≤ p
  · rw [if_pos (by rw [oo_le (by omega) (by omega)]; exact h), if_pos h]
    rfl
  · rw [if_neg (by rw [oo_le (by omega) (by omega)]; exact h), if_neg h, show rf 188 1 = 189 from rfl, if_neg (by rw [ln_189]; exact oo_inb (by omega) (by omega)), oo_nat (by omega), (hb p (by omega)).1]
theorem run_n {lt : Bool} {s : Nat} (hn : n ≤ 940) : ∀ m k f (T : XS), s + k + m = n → m < f → T.1 188 3 = oo n → T.1 188 5 = oo (s + k) → T.1 188 6 = oo s → (∀ j, j < 940 → T.1 189 j = oo (b j) ∧ b j < 256) → (clN b s k = k → k ≤ 7 → T.2 188 12 = pk27 (lwN b s k)) → (clN b s k = 0 → k ≤ 3 → T.1 188 8 = oo (nuN b s k)) → ∃ U, f_X12_go_L215 lt 188 f (bi (gdN b s lt k)) T = some (bi (gdN b s lt (enN b m (s + k) - s)), U) ∧ U.1 188 5 = oo (enN b m (s + k)) ∧ (clN b s (enN b m (s + k) - s) = enN b m (s + k) - s → enN b m (s + k) - s ≤ 7 → U.2 188 12 = pk27 (lwN b s (enN b m (s + k) - s))) ∧ (clN b s (enN b m (s + k) - s) = 0 → enN b m (s + k) - s ≤ 3 → U.1 188 8 = oo (nuN b s (enN b m (s + k) - s))) ∧ Fr [(188, 5), (188, 8), (188, 12)] T U := by
  intro m
  induction m with
  | zero =>
    intro k f T hk hf h3 h5 h6 hb hw hu
    obtain ⟨f, rfl⟩ : ∃ f', f = f' + 1 := ⟨f - 1, by omega⟩
    rw [enN, Nat.add_sub_cancel_left]
    refine ⟨T, ?_, h5, hw, hu, Fr.rf _ _⟩
    have e := tapeAt_n (p := s + k) hn (by omega) h3 hb
    rw [if_pos (by omega)] at e
    rw [f_X12_go_L215, h5, e, Option.bind_some]
    dsimp only
    rw [if_neg (by decide), h5, e, Option.bind_some]
    dsimp only
    rw [if_neg (by decide)]
  | succ m ih =>
    intro k f T hk hf h3 h5 h6 hb hw hu
    obtain ⟨f, rfl⟩ : ∃ f', f = f' + 1 := ⟨f - 1, by omega⟩
    obtain ⟨e1, e2⟩ := hb (s + k) (by omega)
    have hcl := clN_le (b := b) (s := s) k
    have e := tapeAt_n (p := s + k) hn (by omega) h3 hb
    rw [if_neg (by omega)] at e
    have eg : (if bi (gdN b s lt k) = 0 then some false else (if (bi (t_X12_isLetter (oo (b (s + k))))) = (bi lt) then some true else some false)) = some (gdN b s lt (k + 1)) := by
      rw [le_n _ e2]
      unfold gdN
      rw [clN]
      cases lt with
      | true =>
        rw [if_pos rfl, if_pos rfl]
        by_cases ha : clN b s k = k
        · rw [decide_eq_true ha, if_neg (by decide)]
          cases hl : isLe (b (s + k)) with
          | true => rw [if_pos rfl, if_pos rfl, decide_eq_true (by omega)]
          | false => rw [if_neg (by decide), if_neg (by decide), decide_eq_false (by omega)]
        · rw [decide_eq_false ha, if_pos (show bi false = 0 from rfl), decide_eq_false (by split <;> omega)]
      | false =>
        rw [if_neg (show ¬ (false = true) by decide), if_neg (show ¬ (false = true) by decide)]
        by_cases ha : clN b s k = 0
        · rw [decide_eq_true ha, if_neg (by decide)]
          cases hl : isLe (b (s + k)) with
          | true => rw [if_neg (by decide), if_pos rfl, decide_eq_false (by omega)]
          | false => rw [if_pos rfl, if_neg (by decide), decide_eq_true (by omega)]
        · rw [decide_eq_false ha, if_pos (show bi false = 0 from rfl), decide_eq_false (by omega)]
    have go : ∃ U, ((if (7 : Int32) ≤ (oo (s + k) - oo s) then some T else some (sL T 188 12 (((27 * (T.2 188 12)) + (oo (b (s + k))).toInt64) - 96))).bind (fun S14 => ((if (3 : Int32) ≤ ((S14.1 188 5) - (S14.1 188 6)) then some S14 else some (sI S14 188 8 ((((10 : Int32) * (S14.1 188 8)) + oo (b (s + k))) - (48 : Int32)))).bind (fun S15 => f_X12_go_L215 lt 188 f (bi (gdN b s lt (k + 1))) (sI S15 188 5 ((S15.1 188 5) + (1 : Int32))))))) = (f_X12_go_L215 lt 188 f (bi (gdN b s lt (k + 1))) U) ∧ U.1 188 5 = oo (s + (k + 1)) ∧ (clN b s (k + 1) = k + 1 → k + 1 ≤ 7 → U.2 188 12 = pk27 (lwN b s (k + 1))) ∧ (clN b s (k + 1) = 0 → k + 1 ≤ 3 → isDi (b (s + k)) = true → U.1 188 8 = oo (nuN b s (k + 1))) ∧ Fr [(188, 5), (188, 8), (188, 12)] T U := by
      rw [oo_sub (by omega), Nat.add_sub_cancel_left, show (7 : Int32) = oo 7 from rfl, ile (by decide) (by omega)]
      have hW : clN b s (k + 1) = k + 1 → k + 1 ≤ 7 → (27 * (T.2 188 12)) + (oo (b (s + k))).toInt64 - 96 = pk27 (lwN b s (k + 1)) := fun h h7 => by
        rw [clN] at h
        by_cases hl : isLe (b (s + k)) = true
        · rw [if_pos hl] at h
          have := isLe_b hl
          rw [hw (by omega) (by omega), lwN, pk27, show 96 + (b (s + k) - 96) = b (s + k) by omega]
        · rw [if_neg hl] at h
          omega
      have hV : clN b s (k + 1) = 0 → k + 1 ≤ 3 → isDi (b (s + k)) = true → oo 10 * T.1 188 8 + oo (b (s + k)) - oo 48 = oo (nuN b s (k + 1)) := fun h h4 hd => by
        have := isDi_b hd
        rw [clN] at h
        rw [hu (by omega) (by omega), nuN, oo_mul, oo_add, oo_sub (by omega)]
        congr 1
        omega
      have fin : ∀ S14 : XS, Fr [(188, 5), (188, 8), (188, 12)] T S14 → S14.1 = T.1 → (clN b s (k + 1) = k + 1 → k + 1 ≤ 7 → S14.2 188 12 = pk27 (lwN b s (k + 1))) → ∃ U, ((if (3 : Int32) ≤ ((S14.1 188 5) - (S14.1 188 6)) then some S14 else some (sI S14 188 8 ((((10 : Int32) * (S14.1 188 8)) + oo (b (s + k))) - (48 : Int32)))).bind (fun S15 => f_X12_go_L215 lt 188 f (bi (gdN b s lt (k + 1))) (sI S15 188 5 ((S15.1 188 5) + (1 : Int32))))) = (f_X12_go_L215 lt 188 f (bi (gdN b s lt (k + 1))) U) ∧ U.1 188 5 = oo (s + (k + 1)) ∧ (clN b s (k + 1) = k + 1 → k + 1 ≤ 7 → U.2 188 12 = pk27 (lwN b s (k + 1))) ∧ (clN b s (k + 1) = 0 → k + 1 ≤ 3 → isDi (b (s + k)) = true → U.1 188 8 = oo (nuN b s (k + 1))) ∧ Fr [(188, 5), (188, 8), (188, 12)] T U := fun S14 hF e14 hS => by
        rw [e14, h5, h6, oo_sub (by omega), Nat.add_sub_cancel_left, show (3 : Int32) = oo 3 from rfl, ile (by decide) (by omega)]
        by_cases h33 : 3 ≤ k
        · rw [if_pos h33, Option.bind_some]
          refine ⟨_, rfl, ?_, hS, fun _ q => by omega, Fr.sIp hF rfl⟩
          rw [sI_same, e14, h5, show (1 : Int32) = oo 1 from rfl, oo_add, Nat.add_assoc]
        · rw [if_neg h33, Option.bind_some]
          refine ⟨_, rfl, ?_, hS, fun q1 q2 q3 => ?_, Fr.sIp (Fr.sIp hF rfl) rfl⟩
          · rw [sI_same, sI_place (by decide), e14, h5, show (1 : Int32) = oo 1 from rfl, oo_add, Nat.add_assoc]
          · rw [sI_place (by decide), sI_same]
            exact hV q1 q2 q3
      by_cases h77 : 7 ≤ k
      · rw [if_pos h77, Option.bind_some]
        exact fin T (Fr.rf _ _) rfl (fun _ q => by omega)
      · rw [if_neg h77, Option.bind_some]
        exact fin _ (Fr.sLp (Fr.rf _ _) rfl) rfl (fun q1 q2 => by rw [sL_same]; exact hW q1 q2)
    obtain ⟨W, w1, w2, w3, w4, w5⟩ := go
    have rest : isLe (b (s + k)) = true ∨ isDi (b (s + k)) = true → ∃ U, f_X12_go_L215 lt 188 f (bi (gdN b s lt (k + 1))) W = some (bi (gdN b s lt (enN b m (s + (k + 1)) - s)), U) ∧ U.1 188 5 = oo (enN b m (s + (k + 1))) ∧ (clN b s (enN b m (s + (k + 1)) - s) = enN b m (s + (k + 1)) - s → enN b m (s + (k + 1)) - s ≤ 7 → U.2 188 12 = pk27 (lwN b s (enN b m (s + (k + 1)) - s))) ∧ (clN b s (enN b m (s + (k + 1)) - s) = 0 → enN b m (s + (k + 1)) - s ≤ 3 → U.1 188 8 = oo (nuN b s (enN b m (s + (k + 1)) - s))) ∧ Fr [(188, 5), (188, 8), (188, 12)] W U := fun hld => ih (k + 1) f W (by omega) (by omega) (by rw [w5.get rfl]; exact h3) w2 (by rw [w5.get rfl]; exact h6) (fun j hj => by rw [w5.row (c := 189) rfl]; exact hb j hj) w3 (fun q1 q2 => w4 q1 q2 (by
      rcases hld with q | q
      · rw [clN, if_pos q] at q1
        omega
      · exact q))
    have ei : ¬ (oo (s + k) < 0 ∨ ln 189 ≤ s + k) := by
      rw [ln_189]
      have := oo_inb (k := s + k) (m := 940) (by omega) (by omega)
      rwa [oo_nat (by omega)] at this
    rw [f_X12_go_L215, h5, e, Option.bind_some]
    dsimp only
    rw [le_n _ e2, show rf 188 1 = 189 from rfl, h5, oo_nat (by omega), e1, eg, Option.bind_some, h6, w1, enN]
    by_cases hl : isLe (b (s + k)) = true
    · obtain ⟨U, u1, u2, u3, u4, u5⟩ := rest (.inl hl)
      rw [if_pos hl, if_pos hl, if_neg ei]
      exact ⟨U, u1, u2, u3, u4, Fr.trans w5 u5⟩
    · rw [if_neg hl, if_neg hl, e, Option.bind_some]
      dsimp only
      rw [di_n _ e2, h5, oo_nat (by omega), e1, eg, Option.bind_some, h6, w1]
      by_cases hd : isDi (b (s + k)) = true
      · obtain ⟨U, u1, u2, u3, u4, u5⟩ := rest (.inr hd)
        rw [if_pos hd, if_pos hd, if_neg ei]
        exact ⟨U, u1, u2, u3, u4, Fr.trans w5 u5⟩
      · rw [if_neg hd, if_neg hd, Nat.add_sub_cancel_left]
        exact ⟨T, rfl, h5, hw, hu, Fr.rf _ _⟩
end LN
