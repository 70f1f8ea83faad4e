/-! who can have changed coats: the reference's hours told anew -/
def wpN (v : Nat → Nat) (w : Nat) : Nat → Nat
  | 0 => v (72 + w)
  | t + 1 => if wtN v w (t + 1) (v 4) = 0 then wpN v w t else wtN v w (t + 1) (v 4) - 1
def rainW (v : Nat → Nat) (t : Nat) : Nat := if rnN v t (v 5) ≠ 0 then 2 else 0
/-- the coat c behind the hour t, if at the hour t the witness f t wears it -/
def geN (v : Nat → Nat) (f : Nat → Nat) (c : Nat) : Nat → Nat → Nat
  | 0, _ => 0
  | t + 1, s => hrN v c (t + 1) (rainW v (t + 1)) (wpN v (f (t + 1)) (t + 1)) (geN v f c t s) s
def sw2 (a b c : Nat) : Nat := if c = a then b else if c = b then a else c
/-- who wears the coat c at the hour t, if a and b change at the hour h -/
def wrN (a b h c t : Nat) : Nat := if h ≤ t then sw2 a b c else c
def swapN (a b : Nat) (u : Nat → Nat) : Nat → Nat := upN (upN u (151 + a) (u (151 + b))) (151 + b) (u (151 + a))
def simN (v : Nat → Nat) (a b h : Nat) : Nat → Nat → Nat
  | 0 => newN v
  | t + 1 => pnN (if t + 1 = h then swapN a b (simN v a b h t) else simN v a b h t) (wetN (if t + 1 = h then swapN a b (simN v a b h t) else simN v a b h t) false)
theorem sw2_sw {a b c : Nat} : sw2 a b (sw2 a b c) = c := by
  unfold sw2
  by_cases h1 : c = a
  · rw [if_pos h1]
    by_cases h2 : b = a
    · rw [if_pos h2, h1, h2]
    · rw [if_neg h2, if_pos rfl, h1]
  · rw [if_neg h1]
    by_cases h2 : c = b
    · rw [if_pos h2, if_pos rfl, h2]
    · rw [if_neg h2, if_neg h1, if_neg h2]
theorem sw2_lt {a b c n : Nat} (ha : a < n) (hb : b < n) (hc : c < n) : sw2 a b c < n := by
  unfold sw2
  split
  · exact hb
  · split
    · exact ha
    · exact hc
theorem geN_cg {v f g c} : ∀ t s, (∀ u, 1 ≤ u → u ≤ t → f u = g u) → geN v f c t s = geN v g c t s := by
  intro t
  induction t with
  | zero => intro s _; rfl
  | succ t ih =>
    intro s h
    rw [geN, geN, ih s (fun u h1 h2 => h u h1 (by omega)), h (t + 1) (by omega) (Nat.le_refl _)]
theorem geN_le {v f c} : ∀ t s, geN v f c t s ≤ 99 := by
  intro t s
  cases t with
  | zero => exact Nat.zero_le _
  | succ t => exact capN_le _
theorem wpN_lt {v : Nat → Nat} (hO : HOK v) {w : Nat} (hw : w < v 3) : ∀ t, wpN v w t < v 1 := by
  intro t
  induction t with
  | zero => exact (hO.2.2.2.2.1 w hw).2.2
  | succ t ih =>
    have h1 := wtN_le hO (w := w) (t := t + 1) (v 4) (Nat.le_refl _)
    rw [wpN]
    split
    · exact ih
    · omega
theorem geN_0 {v : Nat → Nat} (hO : HOK v) {f : Nat → Nat} {c s : Nat} (hf : ∀ t, f t < v 3) (hs : s < 6) (h0 : v 0 ≤ s) : ∀ t, geN v f c t s = 0 := by
  obtain ⟨⟨b0, b1, b2, b3, b4, b5⟩, -⟩ := id hO
  intro t
  induction t with
  | zero => rfl
  | succ t ih =>
    have := wpN_lt hO (hf (t + 1)) (t + 1)
    rw [geN, ih]
    exact hrN_0 hO (by omega) hs h0
theorem new_SOK {v : Nat → Nat} (hO : HOK v) : SOK (newN v) := by
  refine (hl_SOK hO).ext (hO.ext (fun k hk => (hl_lo hk).symm)) (fun k hk => ?_)
  unfold newN hlN
  by_cases c1 : 145 ≤ k ∧ k < 151
  · rw [if_pos c1, if_pos c1, if_pos (by omega)]
  · rw [if_neg c1, if_neg c1]
    by_cases c2 : 151 ≤ k ∧ k < 157
    · rw [if_pos c2, if_pos c2]
    · rw [if_neg c2, if_neg c2]
      by_cases c3 : 144 ≤ k ∧ k < 274
      · rw [if_pos c3, if_pos c3]
      · rw [if_neg c3, if_neg c3, if_pos (by omega)]
theorem swapN_o {a b j : Nat} {u : Nat → Nat} (h : j ≠ 151 + a) (h2 : j ≠ 151 + b) : swapN a b u j = u j := by
  unfold swapN
  rw [upN_ne h2, upN_ne h]
theorem swapN_w {a b w : Nat} {u : Nat → Nat} : swapN a b u (151 + w) = u (151 + sw2 a b w) := by
  unfold swapN sw2
  by_cases h2 : w = b
  · rw [h2, upN_same]
    by_cases h1 : b = a
    · rw [if_pos h1, h1]
    · rw [if_neg h1, if_pos rfl]
  · rw [upN_ne (by omega)]
    by_cases h1 : w = a
    · rw [h1, upN_same, if_pos rfl]
    · rw [upN_ne (by omega), if_neg h1, if_neg h2]
theorem swapN_SOK {u : Nat → Nat} {a b : Nat} (hO : HOK u) (hS : SOK u) (ha : a < u 3) (hb : b < u 3) : SOK (swapN a b u) := by
  obtain ⟨⟨b0, b1, b2, b3, b4, b5⟩, -⟩ := id hO
  obtain ⟨a1, a2, a3, a4, a5, a6, a7⟩ := hS
  have e : ∀ j, (j < 151 ∨ 157 ≤ j) → swapN a b u j = u j := fun j h => swapN_o (by omega) (by omega)
  refine ⟨by rw [e 144 (by omega)]; exact a1, fun w hw => ?_, fun w x hw hx he => ?_, fun c s hc hs => ?_, by rw [e 193 (by omega)]; exact a5, fun c hc => ?_, fun c s hc hs => ?_⟩
  · rw [e 3 (by omega)] at hw
    rw [e _ (by omega), e 1 (by omega), e 3 (by omega), swapN_w]
    exact ⟨(a2 w hw).1, (a2 _ (sw2_lt ha hb hw)).2⟩
  · rw [e 3 (by omega)] at hw hx
    rw [swapN_w, swapN_w] at he
    have h1 := a3 _ _ (sw2_lt ha hb hw) (sw2_lt ha hb hx) he
    have h2 := congrArg (sw2 a b) h1
    rw [sw2_sw, sw2_sw] at h2
    exact h2
  · rw [e _ (by omega), e 0 (by omega)]
    exact a4 c s hc hs
  · rw [e 193 (by omega)] at hc
    have h6 := a6 c hc
    rw [e (194 + 10 * c) (by omega), e (194 + 10 * c + 1) (by omega), e (194 + 10 * c + 2) (by omega), e (194 + 10 * c + 3) (by omega), e (66 + u (194 + 10 * c)) (by have := h6.1; omega)]
    try rw [e 3 (by omega)]
    exact h6
  · rw [e 193 (by omega)] at hc
    rw [e _ (by omega), e 0 (by omega)]
    exact a7 c s hc hs
/-- what holds of the hours told anew -/
def simI (v : Nat → Nat) (a b h t : Nat) (u : Nat → Nat) : Prop := HOK u ∧ SOK u ∧ (∀ j, j < 144 → u j = v j) ∧ u 144 = t ∧ (∀ w, w < v 3 → u (145 + w) = wpN v w t) ∧ (∀ w, w < v 3 → u (151 + w) = wrN a b h w t) ∧ (∀ c s, c < v 3 → s < v 0 → u (157 + 6 * c + s) = geN v (wrN a b h c) c t s)
theorem sim_ok {v : Nat → Nat} {a b h : Nat} (hO : HOK v) (ha : a < v 3) (hb : b < v 3) (hh : 1 ≤ h) : ∀ t, t ≤ 60 → simI v a b h t (simN v a b h t) := by
  obtain ⟨⟨b0, b1, b2, b3, b4, b5⟩, -⟩ := id hO
  intro t
  induction t with
  | zero =>
    intro _
    have ext : ∀ j, j < 144 → newN v j = v j := fun j hj => by
      unfold newN
      rw [if_neg (by omega), if_neg (by omega), if_neg (by omega)]
    refine ⟨hO.ext (fun j hj => (ext j hj).symm), new_SOK hO, ext, ?_, fun w hw => ?_, fun w hw => ?_, fun c s hc hs => ?_⟩
    · show newN v 144 = 0
      unfold newN
      rw [if_neg (by decide), if_neg (by decide), if_pos (by decide)]
    · show newN v (145 + w) = v (72 + w)
      unfold newN
      rw [if_pos (by omega), Nat.add_sub_cancel_left]
    · show newN v (151 + w) = wrN a b h w 0
      unfold newN wrN
      rw [if_neg (by omega), if_pos (by omega), Nat.add_sub_cancel_left, if_neg (by omega)]
    · show newN v (157 + 6 * c + s) = 0
      unfold newN
      rw [if_neg (by omega), if_neg (by omega), if_pos (by omega)]
  | succ t ih =>
    intro ht
    obtain ⟨i1, i2, i3, i4, i5, i6, i7⟩ := ih (by omega)
    generalize hu : simN v a b h t = u at i1 i2 i3 i4 i5 i6 i7
    have e3 : u 3 = v 3 := i3 3 (by decide)
    -- behind the change
    obtain ⟨y, y0, y1, y2, y3, y4, y5, y6, y7⟩ : ∃ y, simN v a b h (t + 1) = pnN y (wetN y false) ∧ HOK y ∧ SOK y ∧ (∀ j, j < 144 → y j = v j) ∧ y 144 = t ∧ (∀ w, w < v 3 → y (145 + w) = wpN v w t) ∧ (∀ w, w < v 3 → y (151 + w) = wrN a b h w (t + 1)) ∧ (∀ c s, c < v 3 → s < v 0 → y (157 + 6 * c + s) = geN v (wrN a b h c) c t s) := by
      by_cases e : t + 1 = h
      · refine ⟨swapN a b u, by rw [simN, hu, if_pos e], i1.ext (fun j hj => (swapN_o (by omega) (by omega)).symm), swapN_SOK i1 i2 (by omega) (by omega), fun j hj => by rw [swapN_o (by omega) (by omega)]; exact i3 j hj, by rw [swapN_o (by omega) (by omega)]; exact i4, fun w hw => by rw [swapN_o (by omega) (by omega)]; exact i5 w hw, fun w hw => ?_, fun c s hc hs => by rw [swapN_o (by omega) (by omega)]; exact i7 c s hc hs⟩
        rw [swapN_w, i6 _ (sw2_lt ha hb hw)]
        unfold wrN
        rw [if_neg (by omega), if_pos (by omega)]
      · refine ⟨u, by rw [simN, hu, if_neg e], i1, i2, i3, i4, i5, fun w hw => ?_, i7⟩
        rw [i6 w hw]
        unfold wrN
        by_cases q : h ≤ t
        · rw [if_pos q, if_pos (by omega)]
        · rw [if_neg q, if_neg (by omega)]
    rw [y0]
    have f0 : y 0 = v 0 := y3 0 (by decide)
    have f3 : y 3 = v 3 := y3 3 (by decide)
    have f4 : y 4 = v 4 := y3 4 (by decide)
    have f5 : y 5 = v 5 := y3 5 (by decide)
    have hwt : ∀ w n, n ≤ 20 → wtN y w (t + 1) n = wtN v w (t + 1) n := fun w n hn => wtN_ext y3 n hn
    have hwh : ∀ w, w < v 3 → whN y w (t + 1) (v 4) = wpN v w (t + 1) := fun w hw => by
      unfold whN
      rw [hwt w (v 4) b4, y5 w hw, wpN]
    have hrn : rnN y (t + 1) (v 5) = rnN v (t + 1) (v 5) := rnN_ext y3 _ b5
    have hwet : wetN y false = rainW v (t + 1) := by
      unfold wetN rainW
      rw [y4, f5, hrn]
      by_cases q : rnN v (t + 1) (v 5) ≠ 0
      · rw [if_pos (.inr q), if_pos q]
      · rw [if_neg (fun z => z.elim (fun z => absurd z (by decide)) q), if_neg q]
    rw [hwet]
    have lo : ∀ j, j < 144 → pnN y (rainW v (t + 1)) j = v j := fun j hj => by rw [pnN_o (.inl hj)]; exact y3 j hj
    refine ⟨hO.ext (fun j hj => (lo j hj).symm), pnN_ok y1 y2 (by omega), lo, by rw [pnN_144, y4], fun w hw => ?_, fun w hw => ?_, fun c s hc hs => ?_⟩
    · rw [pnN_wh (by omega), y4, f4]
      exact hwh w hw
    · rw [pnN_o (by omega)]
      exact y6 w hw
    · rw [pnN_ct (by omega) (by omega) (by omega) (by omega), y4, f3, f4]
      have hwr : wrN a b h c (t + 1) < v 3 := by
        unfold wrN
        split
        · exact sw2_lt ha hb hc
        · exact hc
      have hwe : weN y c 0 (v 3) = wrN a b h c (t + 1) + 1 := by
        have h1 := we_of y2 (w := wrN a b h c (t + 1)) (by omega)
        rw [y6 _ hwr, f3] at h1
        have h2 : wrN a b h (wrN a b h c (t + 1)) (t + 1) = c := by
          unfold wrN
          by_cases q : h ≤ t + 1
          · rw [if_pos q, if_pos q, sw2_sw]
          · rw [if_neg q, if_neg q]
        rw [h2] at h1
        exact h1
      rw [hwe, Nat.add_sub_cancel, hwh _ hwr, y7 c s hc hs]
      show _ = hrN v c (t + 1) (rainW v (t + 1)) (wpN v (wrN a b h c (t + 1)) (t + 1)) (geN v (wrN a b h c) c t s) s
      have hp := wpN_lt hO hwr (t + 1)
      unfold hrN
      rw [y3 (66 + c) (by omega), y3 (6 + s) (by omega), airN_ext y1 y3 (by omega) (by omega)]
