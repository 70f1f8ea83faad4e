/-! who can have changed coats: the class -/
theorem df_0 {g h : Nat → Nat} : ∀ n, (df g h n = 0 ↔ ∀ s, s < n → g s = h s) := by
  intro n
  induction n with
  | zero => exact ⟨fun _ s hs => absurd hs (Nat.not_lt_zero _), fun _ => rfl⟩
  | succ n ih =>
    rw [df]
    constructor
    · intro e s hs
      by_cases q : s = n
      · rw [q]; omega
      · exact ih.mp (by omega) s (by omega)
    · intro e
      have h1 := ih.mpr (fun s hs => e s (by omega))
      have h2 := e n (by omega)
      omega
theorem patc_out {S : XS} {c k n : Nat} {x : Int32} (hn : ln c = n) (hk : k < 2147483648) (h : n ≤ k) : pat S c (oo k) x = S := by
  unfold pat
  rw [if_pos (.inr (by rw [oo_nat hk, hn]; exact h))]
def tlN (v bt : Nat → Nat) (c s : Nat) : Nat := if s < v 0 then bt (v 0 * c + s) else 0
def Told (v bt : Nat → Nat) (S : XS) : Prop := ∀ w s, w < v 3 → s < 6 → S.1 174 (w * 6 + s) = oo (tlN v bt w s)
section CHC
variable {v bt : Nat → Nat} {E : Nat}
theorem told1_c {w : Nat} (b0 : v 0 ≤ 6) (hw : w < 6) {S : XS} (hb : ∀ j, j < 940 → S.1 2 j = oo (bt j) ∧ bt j < 256) : f_X0_readTold_L21 (oo w) 172 1 (oo (v 0)) 1000000 (oo 0) S = some (blk S 174 (w * 6) (v 0) (fun j => oo (bt (v 0 * w + (j - w * 6))))) := by
  have hmul : v 0 * w ≤ 6 * 6 := Nat.mul_le_mul b0 (by omega)
  refine loop_blk (L := f_X0_readTold_L21 (oo w) 172 1 (oo (v 0))) (a := 174) (lo := w * 6) (st := 0) (m := v 0) (f := fun j => oo (bt (v 0 * w + (j - w * 6)))) (S := S) (fun i k hk => ?_) (fun i => ?_) 1000000 (by omega)
  · rw [Nat.zero_add, f_X0_readTold_L21, if_neg (by rw [oo_le (by omega) (by omega)]; omega), show rf 172 4 = 174 from rfl, show rf 1 0 = 2 from rfl, show (6 : Int32) = oo 6 from rfl, oo_mul, oo_mul, oo_add, oo_add, Nat.mul_comm w (v 0), g_2 (by omega), blk_cell (by decide), (hb _ (by omega)).1, p_174 (by omega), Nat.add_sub_cancel_left, show (1 : Int32) = oo 1 from rfl, oo_add]
  · rw [Nat.zero_add, f_X0_readTold_L21, if_pos (Int32.le_refl _)]
theorem told_c (b0 : v 0 ≤ 6) (b3 : v 3 ≤ 6) {S : XS} (h3 : S.1 172 3 = oo (v 3)) (hb : ∀ j, j < 940 → S.1 2 j = oo (bt j) ∧ bt j < 256) : ∃ U, f_X0_readTold 172 1 (oo (v 0)) S = some U ∧ Told v bt U ∧ Fr [(174, 9999)] S U := by
  have F0 : Fr [(174, 9999)] S (filI S 174 (oo 0)) := fil_fr rfl
  have key : ∀ m k f (T : XS), k + m = v 3 → m < f → T.1 172 3 = oo (v 3) → (∀ j, j < 940 → T.1 2 j = oo (bt j) ∧ bt j < 256) → (∀ w s, w < 6 → s < 6 → T.1 174 (w * 6 + s) = oo (if w < k then tlN v bt w s else 0)) → ∃ U, f_X0_readTold_L10 172 1 (oo (v 0)) f (oo k) T = some U ∧ Told v bt U ∧ Fr [(174, 9999)] T U := by
    intro m
    induction m with
    | zero =>
      intro k f T hk hf h3 hb hT
      obtain ⟨f, rfl⟩ : ∃ f', f = f' + 1 := ⟨f - 1, by omega⟩
      refine ⟨T, ?_, fun w s hw hs => ?_, Fr.rf _ _⟩
      · rw [f_X0_readTold_L10, h3, if_pos (by rw [oo_le (by omega) (by omega)]; omega)]
      · rw [hT w s (by omega) hs, if_pos (by omega)]
    | succ m ih =>
      intro k f T hk hf h3 hb hT
      obtain ⟨f, rfl⟩ : ∃ f', f = f' + 1 := ⟨f - 1, by omega⟩
      have F1 : Fr [(174, 9999)] T (blk T 174 (k * 6) (v 0) (fun j => oo (bt (v 0 * k + (j - k * 6))))) := Fr.blk (Fr.rf _ _) rfl
      obtain ⟨U, u1, u2, u3⟩ := ih (k + 1) f (blk T 174 (k * 6) (v 0) (fun j => oo (bt (v 0 * k + (j - k * 6))))) (by omega) (by omega) (by rw [F1.get rfl]; exact h3) (fun j hj => by rw [F1.row (c := 2) rfl]; exact hb j hj) (fun w s hw hs => by
        by_cases q : w = k ∧ s < v 0
        · rw [blk_in (by omega), if_pos (by omega), q.1, Nat.add_sub_cancel_left]
          unfold tlN
          rw [if_pos q.2]
        · rw [blk_out (by omega), hT w s hw hs]
          by_cases q2 : w < k
          · rw [if_pos q2, if_pos (by omega)]
          · rw [if_neg q2]
            by_cases q3 : w < k + 1
            · rw [if_pos q3]
              unfold tlN
              rw [if_neg (by omega)]
            · rw [if_neg q3])
      refine ⟨U, ?_, u2, Fr.trans F1 u3⟩
      rw [f_X0_readTold_L10, h3, if_neg (by rw [oo_le (by omega) (by omega)]; omega), show (0 : Int32) = oo 0 from rfl, told1_c b0 (by omega) hb, Option.bind_some, show (1 : Int32) = oo 1 from rfl, oo_add, u1]
  obtain ⟨U, u1, u2, u3⟩ := key (v 3) 0 1000000 (filI S 174 (oo 0)) (by omega) (by omega) (by rw [F0.get rfl]; exact h3) (fun j hj => by rw [F0.row (c := 2) rfl]; exact hb j hj) (fun w s hw hs => by rw [if_neg (Nat.not_lt_zero _)]; exact fil_in (by rw [ln_174]; omega))
  refine ⟨U, ?_, u2, Fr.trans F0 u3⟩
  unfold f_X0_readTold
  rw [show rf 172 4 = 174 from rfl, show (0 : Int32) = oo 0 from rfl, u1, Option.bind_some]
theorem takeA_c {S : XS} {i j : Nat} {x : Nat → Nat} (hi : i < 366) (hj : j < 366) (hne : i ≠ j) (hx : ∀ s, s < 6 → S.1 176 (i * 6 + s) = oo (x s)) : f_X0_take 172 (oo i) 176 (oo j) S = some (blk S 176 (j * 6) 6 (fun z => oo (x (z - j * 6)))) := by
  have l := loop_blk (L := f_X0_take_L3 172 (oo i) 176 (oo j)) (a := 176) (lo := j * 6) (st := 0) (m := 6) (f := fun z => oo (x (z - j * 6))) (S := S) (R := some (blk S 176 (j * 6) 6 (fun z => oo (x (z - j * 6))))) (fun n k hk => by
    rw [Nat.zero_add, f_X0_take_L3, if_neg (by rw [show (6 : Int32) = oo 6 from rfl, oo_le (by decide) (by omega)]; omega), show rf 172 6 = 176 from rfl, show (6 : Int32) = oo 6 from rfl, oo_mul, oo_mul, oo_add, oo_add, g_176 (by omega), blk_out (by omega), hx k hk, p_176 (by omega), Nat.add_sub_cancel_left, show (1 : Int32) = oo 1 from rfl, oo_add]) (fun n => by
    rw [f_X0_take_L3, if_pos (by decide)]) 1000000 (by decide)
  unfold f_X0_take
  rw [show (0 : Int32) = oo 0 from rfl, l, Option.bind_some]
theorem takeB_c {S : XS} {i : Nat} {x : Nat → Nat} (hi : i < 366) (hx : ∀ s, s < 6 → S.1 176 (i * 6 + s) = oo (x s)) : f_X0_take 172 (oo i) 177 (oo 0) S = some (blk S 177 0 6 (fun z => oo (x z))) := by
  have l := loop_blk (L := f_X0_take_L3 172 (oo i) 177 (oo 0)) (a := 177) (lo := 0) (st := 0) (m := 6) (f := fun z => oo (x z)) (S := S) (R := some (blk S 177 0 6 (fun z => oo (x z)))) (fun n k hk => by
    rw [Nat.zero_add, f_X0_take_L3, if_neg (by rw [show (6 : Int32) = oo 6 from rfl, oo_le (by decide) (by omega)]; omega), show rf 172 6 = 176 from rfl, show (6 : Int32) = oo 6 from rfl, oo_mul, oo_mul, oo_add, oo_add, g_176 (by omega), blk_cell (by decide), hx k hk, p_177 (by omega), show 0 * 6 + k = k by omega, show (1 : Int32) = oo 1 from rfl, oo_add]) (fun n => by
    rw [f_X0_take_L3, if_pos (by decide)]) 1000000 (by decide)
  unfold f_X0_take
  rw [show (0 : Int32) = oo 0 from rfl, l, Option.bind_some]
def Good (v : Nat → Nat) (S : XS) (t k : Nat) : Prop := (∀ u w, w < v 3 → (u < t ∨ u = t ∧ w < k) → S.1 175 (u * 6 + w) = oo (wpN v w u) ∧ ∀ s, s < 6 → S.1 176 ((u * 6 + w) * 6 + s) = oo (geN v (fun _ => w) w u s)) ∧ (∀ j, j < 36 → S.1 176 j = oo 0)
theorem rainT_c {S : XS} (hH : IsHill S 7 v) (hO : HOK v) {t : Nat} (ht : t ≤ 60) : (if t_X2_isRainTold 7 (oo t) S = true then 2 else 0) = rainW v t := by
  have := rnN_le v t (v 5)
  unfold t_X2_isRainTold rainW
  rw [show rf 7 7 = 15 from rfl, rain_c hH hO (by omega)]
  by_cases q : rnN v t (v 5) = 0
  · rw [q, if_pos (show oo 0 = (0 : Int32) from rfl), if_neg (by decide), if_neg (by omega)]
  · rw [if_neg (show ¬ oo (rnN v t (v 5)) = 0 by rw [show (0 : Int32) = oo 0 from rfl, oo_eq (by omega) (by decide)]; exact q), if_pos rfl, if_pos q]
theorem passW_c (hO : HOK v) (hE : E ≤ 60) {t : Nat} (ht : 1 ≤ t) (htE : t ≤ E) : ∀ m k f (S : XS), k + m = v 3 → m < f → S.1 172 3 = oo (v 3) → IsHill S 7 v → Good v S t k → ∃ U, f_X0_passAllHours_L23 (oo t) 172 7 f (oo k) S = some U ∧ Good v U t (v 3) ∧ Fr [(175, 9999), (176, 9999)] S U := by
  obtain ⟨⟨b0, b1, b2, b3, b4, b5⟩, -, -, -, hkp, -⟩ := id hO
  intro m
  induction m with
  | zero =>
    intro k f S hk hf h3 hH hG
    obtain ⟨f, rfl⟩ : ∃ f', f = f' + 1 := ⟨f - 1, by omega⟩
    obtain rfl : k = v 3 := by omega
    refine ⟨S, ?_, hG, Fr.rf _ _⟩
    rw [f_X0_passAllHours_L23, h3, if_pos (Int32.le_refl _)]
  | succ m ih =>
    intro k f S hk hf h3 hH hG
    obtain ⟨f, rfl⟩ : ∃ f', f = f' + 1 := ⟨f - 1, by omega⟩
    obtain ⟨t, rfl⟩ : ∃ t', t = t' + 1 := ⟨t - 1, by omega⟩
    have hkv : k < v 3 := by omega
    obtain ⟨k1, k2, k3⟩ := hkp k hkv
    obtain ⟨g1, g2⟩ := hG
    obtain ⟨p1, p2⟩ := g1 t k hkv (.inl (by omega))
    have hwl := wtN_le hO (w := k) (t := t + 1) (v 4) (Nat.le_refl _)
    have hwp := wpN_lt hO hkv (t + 1)
    have ex : (if t_X2_wentTo 7 (oo k) (oo (t + 1)) S = (-1 : Int32) then some (gat S (rf 172 5) (((oo (t + 1) - (1 : Int32)) * (6 : Int32)) + oo k)) else some (t_X2_wentTo 7 (oo k) (oo (t + 1)) S)) = some (oo (wpN v k (t + 1))) := by
      have ew : t_X2_wentTo 7 (oo k) (oo (t + 1)) S = enc (wtN v k (t + 1) (v 4)) := by
        unfold t_X2_wentTo
        rw [show rf 7 6 = 14 from rfl, show (6 : Int32) = oo 6 from rfl, oo_mul, oo_add, went_c hH hO (by omega) (by omega)]
        by_cases q : wtN v k (t + 1) (v 4) = 0
        · rw [q]; rfl
        · unfold enc
          rw [if_neg q, show (1 : Int32) = oo 1 from rfl, oo_sub (by omega)]
      rw [ew, wpN]
      by_cases q : wtN v k (t + 1) (v 4) = 0
      · rw [q, if_pos (show enc 0 = (-1 : Int32) from rfl), if_pos rfl, show rf 172 5 = 175 from rfl, show (1 : Int32) = oo 1 from rfl, oo_sub (by omega), Nat.add_sub_cancel, show (6 : Int32) = oo 6 from rfl, oo_mul, oo_add, g_175 (by omega), p1]
      · rw [if_neg (show ¬ enc (wtN v k (t + 1) (v 4)) = (-1 : Int32) by rw [show (-1 : Int32) = nn from rfl, enc_nn (by omega)]; exact q), if_neg q]
        unfold enc
        rw [if_neg q]
    have F1 : Fr [(175, 9999), (176, 9999)] S (sI S 175 ((t + 1) * 6 + k) (oo (wpN v k (t + 1)))) := Fr.sIr (Fr.rf _ _) rfl
    have htk := takeA_c (S := sI S 175 ((t + 1) * 6 + k) (oo (wpN v k (t + 1)))) (i := t * 6 + k) (j := (t + 1) * 6 + k) (x := fun s => geN v (fun _ => k) k t s) (by omega) (by omega) (by omega) (fun s hs => by rw [sI_cell (by decide)]; exact p2 s hs)
    have F2 : Fr [(175, 9999), (176, 9999)] S (blk (sI S 175 ((t + 1) * 6 + k) (oo (wpN v k (t + 1)))) 176 (((t + 1) * 6 + k) * 6) 6 (fun z => oo (geN v (fun _ => k) k t (z - ((t + 1) * 6 + k) * 6)))) := Fr.blk F1 rfl
    have o176 : ∀ q, ¬ (((t + 1) * 6 + k) * 6 ≤ q ∧ q < ((t + 1) * 6 + k) * 6 + 6) → (blk (sI S 175 ((t + 1) * 6 + k) (oo (wpN v k (t + 1)))) 176 (((t + 1) * 6 + k) * 6) 6 (fun z => oo (geN v (fun _ => k) k t (z - ((t + 1) * 6 + k) * 6)))).1 176 q = S.1 176 q := fun q hq => by rw [blk_out (by omega), sI_cell (by decide)]
    have o175 : ∀ q, (blk (sI S 175 ((t + 1) * 6 + k) (oo (wpN v k (t + 1)))) 176 (((t + 1) * 6 + k) * 6) 6 (fun z => oo (geN v (fun _ => k) k t (z - ((t + 1) * 6 + k) * 6)))).1 175 q = if q = (t + 1) * 6 + k then oo (wpN v k (t + 1)) else S.1 175 q := fun q => by
      rw [blk_cell (by decide)]
      by_cases e : q = (t + 1) * 6 + k
      · rw [if_pos e, e, sI_same]
      · rw [if_neg e, sI_place e]
    have i176 : ∀ s, s < 6 → (blk (sI S 175 ((t + 1) * 6 + k) (oo (wpN v k (t + 1)))) 176 (((t + 1) * 6 + k) * 6) 6 (fun z => oo (geN v (fun _ => k) k t (z - ((t + 1) * 6 + k) * 6)))).1 176 (((t + 1) * 6 + k) * 6 + s) = oo (geN v (fun _ => k) k t s) := fun s hs => by rw [blk_in (by omega), Nat.add_sub_cancel_left]
    generalize blk (sI S 175 ((t + 1) * 6 + k) (oo (wpN v k (t + 1)))) 176 (((t + 1) * 6 + k) * 6) 6 (fun z => oo (geN v (fun _ => k) k t (z - ((t + 1) * 6 + k) * 6))) = B at htk F2 o176 o175 i176
    have hHB : IsHill B 7 v := hH.fr F2 rfl
    have hh := hour_c (b := t_X2_isRainTold 7 (oo (t + 1)) B) (x := fun s => geN v (fun _ => k) k t s) hHB hO ln_176 (by decide) (by decide) (show ((t + 1) * 6 + k) * 6 + 6 ≤ 2196 by omega) (show k < 6 by omega) k1 k2 (show wpN v k (t + 1) < 6 by omega) (show t + 1 ≤ 2000 by omega) (fun s hs => by
      have := geN_le (v := v) (f := fun _ => k) (c := k) t s
      exact ⟨i176 s hs, by omega⟩)
    rw [rainT_c hHB hO (by omega)] at hh
    have F3 : Fr [(175, 9999), (176, 9999)] B (blk B 176 (((t + 1) * 6 + k) * 6) 6 (fun j => oo (hrN v k (t + 1) (rainW v (t + 1)) (wpN v k (t + 1)) ((fun s => geN v (fun _ => k) k t s) (j - ((t + 1) * 6 + k) * 6)) (j - ((t + 1) * 6 + k) * 6)))) := Fr.blk (Fr.rf _ _) rfl
    have hGN : Good v (blk B 176 (((t + 1) * 6 + k) * 6) 6 (fun j => oo (hrN v k (t + 1) (rainW v (t + 1)) (wpN v k (t + 1)) ((fun s => geN v (fun _ => k) k t s) (j - ((t + 1) * 6 + k) * 6)) (j - ((t + 1) * 6 + k) * 6)))) (t + 1) (k + 1) := by
      refine ⟨fun u w hw hu => ⟨?_, fun s hs => ?_⟩, fun j hj => ?_⟩
      · rw [blk_cell (by decide), o175]
        by_cases e : u = t + 1 ∧ w = k
        · rw [if_pos (by omega), e.1, e.2]
        · rw [if_neg (by omega)]
          exact (g1 u w hw (by omega)).1
      · by_cases e : u = t + 1 ∧ w = k
        · rw [e.1, e.2, blk_in (by omega), Nat.add_sub_cancel_left]
          rfl
        · rw [blk_out (by omega), o176 _ (by omega)]
          exact (g1 u w hw (by omega)).2 s hs
      · rw [blk_out (by omega), o176 _ (by omega)]
        exact g2 j hj
    generalize blk B 176 (((t + 1) * 6 + k) * 6) 6 (fun j => oo (hrN v k (t + 1) (rainW v (t + 1)) (wpN v k (t + 1)) ((fun s => geN v (fun _ => k) k t s) (j - ((t + 1) * 6 + k) * 6)) (j - ((t + 1) * 6 + k) * 6))) = C at hh F3 hGN
    obtain ⟨U, u1, u2, u3⟩ := ih (k + 1) f C (by omega) (by omega) (by rw [F3.get rfl, F2.get rfl]; exact h3) (hHB.fr F3 rfl) hGN
    refine ⟨U, ?_, u2, Fr.trans F2 (Fr.trans F3 u3)⟩
    rw [f_X0_passAllHours_L23, h3, if_neg (by rw [oo_le (by omega) (by omega)]; omega), ex, Option.bind_some, show rf 172 5 = 175 from rfl, show rf 172 6 = 176 from rfl, show (6 : Int32) = oo 6 from rfl, oo_mul, oo_add, oo_sub (by omega), p_175 (by omega), show (t + 1) * 6 + k - 6 = t * 6 + k by omega, htk, Option.bind_some, g_175 (by omega), o175, if_pos rfl, hh, Option.bind_some, show (1 : Int32) = oo 1 from rfl, oo_add, u1]
theorem passA_c (hO : HOK v) (hE : E ≤ 60) {S : XS} (h2 : S.1 172 2 = oo E) (h3 : S.1 172 3 = oo (v 3)) (hH : IsHill S 7 v) (hz : ∀ j, j < 36 → S.1 176 j = oo 0) : ∃ U, f_X0_passAllHours 172 7 S = some U ∧ Good v U (E + 1) 0 ∧ Fr [(175, 9999), (176, 9999)] S U := by
  obtain ⟨⟨b0, b1, b2, b3, b4, b5⟩, -⟩ := id hO
  have F0 : Fr [(175, 9999), (176, 9999)] S (cpy S 13 175) := fun c j hc => by
    have h175 : c ≠ 175 := fun q => by
      unfold tch at hc
      rw [List.any_eq_false] at hc
      exact hc (175, 9999) (by decide) (by rw [q]; simp)
    rw [cpy_cell h175, cpy_long]
    exact ⟨rfl, rfl⟩
  have hG0 : Good v (cpy S 13 175) 1 0 := by
    refine ⟨fun u w hw hu => ?_, fun j hj => by rw [cpy_cell (by decide)]; exact hz j hj⟩
    obtain rfl : u = 0 := by omega
    refine ⟨?_, fun s hs => ?_⟩
    · have : (cpy S 13 175).1 175 (0 * 6 + w) = S.1 13 w := by
        rw [show 0 * 6 + w = w by omega]
        exact if_pos ⟨rfl, by rw [show min (ln 13) (ln 175) = 6 from rfl]; omega⟩
      rw [this, hH.start w (by omega)]
      rfl
    · rw [cpy_cell (by decide), hz _ (by omega)]
      rfl
  have key : ∀ m t f (T : XS), t + m = E + 1 → m < f → 1 ≤ t → T.1 172 2 = oo E → T.1 172 3 = oo (v 3) → IsHill T 7 v → Good v T t 0 → ∃ U, f_X0_passAllHours_L13 172 7 f (oo t) T = some U ∧ Good v U (E + 1) 0 ∧ Fr [(175, 9999), (176, 9999)] T U := by
    intro m
    induction m with
    | zero =>
      intro t f T ht hf h1 h2 h3 hH hG
      obtain ⟨f, rfl⟩ : ∃ f', f = f' + 1 := ⟨f - 1, by omega⟩
      obtain rfl : t = E + 1 := by omega
      refine ⟨T, ?_, hG, Fr.rf _ _⟩
      rw [f_X0_passAllHours_L13, h2, if_pos (by rw [oo_lt (by omega) (by omega)]; omega)]
    | succ m ih =>
      intro t f T ht hf h1 h2 h3 hH hG
      obtain ⟨f, rfl⟩ : ∃ f', f = f' + 1 := ⟨f - 1, by omega⟩
      obtain ⟨A, a1, a2, a3⟩ := passW_c (E := E) hO hE h1 (by omega) (v 3) 0 1000000 T (by omega) (by omega) h3 hH hG
      have hG2 : Good v A (t + 1) 0 := ⟨fun u w hw hu => a2.1 u w hw (by omega), a2.2⟩
      obtain ⟨U, u1, u2, u3⟩ := ih (t + 1) f A (by omega) (by omega) (by omega) (by rw [a3.get rfl]; exact h2) (by rw [a3.get rfl]; exact h3) (hH.fr a3 rfl) hG2
      refine ⟨U, ?_, u2, Fr.trans a3 u3⟩
      rw [f_X0_passAllHours_L13, h2, if_neg (by rw [oo_lt (by omega) (by omega)]; omega), show (0 : Int32) = oo 0 from rfl, a1, Option.bind_some, show (1 : Int32) = oo 1 from rfl, oo_add, u1]
  obtain ⟨U, u1, u2, u3⟩ := key E 1 1000000 (cpy S 13 175) (by omega) (by omega) (Nat.le_refl _) (by rw [F0.get rfl]; exact h2) (by rw [F0.get rfl]; exact h3) (hH.fr F0 rfl) hG0
  refine ⟨U, ?_, u2, Fr.trans F0 u3⟩
  unfold f_X0_passAllHours
  rw [show rf 7 5 = 13 from rfl, show rf 172 5 = 175 from rfl, show (1 : Int32) = oo 1 from rfl, u1, Option.bind_some]
end CHC
