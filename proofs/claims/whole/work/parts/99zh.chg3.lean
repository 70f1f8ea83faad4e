/-! who can have changed coats: the reference, all ways -/
theorem wsN_push {T U : XS} {ws : List Nat} {z : Nat} (h : wsN T ws) (h44 : U.1 188 44 = oo (min (ws.length + 1) 40)) (h212 : ∀ k, k < 40 → k < ws.length → U.1 212 k = T.1 212 k) (hz : ws.length < 40 → U.1 212 ws.length = oo z) : wsN U (ws ++ [z]) := by
  refine ⟨by rw [List.length_append]; exact h44, fun k h1 h2 => ?_⟩
  rw [List.length_append, List.length_singleton] at h2
  by_cases e : k = ws.length
  · rw [e, gd_last]
    exact hz (by omega)
  · rw [gd_l (by omega), h212 k h1 (by omega)]
    exact h.2 k h1 (by omega)
theorem wsN.fr {T U : XS} {ws : List Nat} {l : List (Nat × Nat)} (h : wsN T ws) (hF : Fr l T U) (hl : ntc l [(188, 44)] [212] = true) : wsN U ws := by
  unfold wsN at h ⊢
  rw [hF.get (ntc_c hl (c := 188) (j := 44) rfl), hF.row (ntc_r hl (c := 212) rfl)]
  exact h
def btN (v bt : Nat → Nat) (T : XS) : Prop := ∀ c s, c < v 3 → s < v 0 → T.1 211 (v 0 * c + s) = oo (bt (v 0 * c + s)) ∧ bt (v 0 * c + s) < 256
theorem btN.fr {v bt : Nat → Nat} {T U : XS} {l : List (Nat × Nat)} (h : btN v bt T) (hF : Fr l T U) (hl : tcr l 211 = false) : btN v bt U := by
  unfold btN at h ⊢
  rw [hF.row hl]
  exact h
def FRH : List (Nat × Nat) := [(190, 9999), (188, 44), (212, 9999)]
section CHR
variable {v bt : Nat → Nat} {E : Nat}
theorem refh_n {a b : Nat} (hO : HOK v) (ha : a < v 3) (hb : b < v 3) (hE : E ≤ 60) : ∀ m h f (T : XS) (ws : List Nat), h + m = E + 1 → m < f → 1 ≤ h → nowE v T → btN v bt T → wsN T ws → ws.length + m < 100000 → ∃ U, f_X12_changed_L114 (oo b) (oo a) (oo E) 188 f (oo ws.length) (oo h) T = some (oo (hrF (chP v bt E a b) a b m h ws).length, U) ∧ nowE v U ∧ wsN U (hrF (chP v bt E a b) a b m h ws) ∧ Fr FRH T U := by
  obtain ⟨⟨b0, b1, b2, b3, b4, b5⟩, -⟩ := id hO
  intro m
  induction m with
  | zero =>
    intro h f T ws hh hf h1 hN hbt hw hl
    obtain ⟨f, rfl⟩ : ∃ f', f = f' + 1 := ⟨f - 1, by omega⟩
    refine ⟨T, ?_, hN, hw, Fr.rf _ _⟩
    rw [f_X12_changed_L114, if_pos (by rw [oo_lt (by omega) (by omega)]; omega)]
    rfl
  | succ m ih =>
    intro h f T ws hh hf h1 hN hbt hw hl
    obtain ⟨f, rfl⟩ : ∃ f', f = f' + 1 := ⟨f - 1, by omega⟩
    obtain ⟨u, n1, n2⟩ := hN
    obtain ⟨A, a1, a2, a3⟩ := anew_n n1
    have a2' : IsC A 190 516 (simN v a b h 0) := a2.ext (fun j hj => by
      show newN u j = newN v j
      unfold newN
      by_cases c1 : 145 ≤ j ∧ j < 151
      · rw [if_pos c1, if_pos c1, n2 _ (by omega)]
      · rw [if_neg c1, if_neg c1]
        by_cases c2 : 151 ≤ j ∧ j < 157
        · rw [if_pos c2, if_pos c2]
        · rw [if_neg c2, if_neg c2]
          by_cases c3 : 144 ≤ j ∧ j < 274
          · rw [if_pos c3, if_pos c3]
          · rw [if_neg c3, if_neg c3, n2 _ (by omega)])
    obtain ⟨B, c1, c2, c3⟩ := hours_n (i3 := oo ws.length) hO ha hb h1 (by omega) hE E 0 1000000 A (by omega) (by omega) a2'
    have F1 : Fr [(190, 9999)] T B := Fr.trans a3 c3
    have hbB := hbt.fr F1 rfl
    have hso := areSo_n hO ha hb h1 hE c2 hbB
    have hNB : nowE v B := ⟨_, c2, fun j hj => by
      rcases hj with q | q
      · exact (sim_ok (h := h) hO ha hb h1 E hE).2.2.1 j q
      · exact sim_top (by omega) (by omega) E j q⟩
    have hwB := hw.fr F1 rfl
    rw [f_X12_changed_L114, if_neg (by rw [oo_lt (by omega) (by omega)]; omega), a1, Option.bind_some, c1, Option.bind_some, hso, Option.bind_some, hrF]
    dsimp only
    by_cases hP : chP v bt E a b h = true
    · rw [if_pos hP, if_pos hP, hwB.1, show (40 : Int32) = oo 40 from rfl, ile (by decide) (by omega), show (10000 : Int32) = oo 10000 from rfl, show (1000 : Int32) = oo 1000 from rfl, show (1 : Int32) = oo 1 from rfl, oo_mul, oo_mul, oo_add, oo_add, oo_add, oo_add]
      have hlen : (ws ++ [10000 * a + 1000 * b + h]).length = ws.length + 1 := by rw [List.length_append]; rfl
      by_cases h40 : 40 ≤ min ws.length 40
      · obtain ⟨U, u1, u2, u3, u4⟩ := ih (h + 1) f B (ws ++ [10000 * a + 1000 * b + h]) (by omega) (by omega) (by omega) hNB hbB (wsN_push hwB (by rw [hwB.1, show min ws.length 40 = min (ws.length + 1) 40 by omega]) (fun k _ _ => rfl) (fun q => by omega)) (by rw [hlen]; omega)
        rw [hlen] at u1
        rw [if_pos h40]
        exact ⟨U, u1, u2, u3, Fr.trans (F1.mono rfl) u4⟩
      · have e40 : min ws.length 40 = ws.length := by omega
        have F2 : Fr [(188, 44), (212, 9999)] B (sI (sI B 212 ws.length (oo (10000 * a + 1000 * b + h))) 188 44 (oo (ws.length + 1))) := Fr.sIp (Fr.sIr (Fr.rf _ _) rfl) rfl
        obtain ⟨u0, w1, w2⟩ := hNB
        obtain ⟨U, u1, u2, u3, u4⟩ := ih (h + 1) f (sI (sI B 212 ws.length (oo (10000 * a + 1000 * b + h))) 188 44 (oo (ws.length + 1))) (ws ++ [10000 * a + 1000 * b + h]) (by omega) (by omega) (by omega) ⟨u0, w1.cell (F2.row rfl), w2⟩ (hbB.fr F2 rfl) (wsN_push hwB (by rw [sI_same, show min (ws.length + 1) 40 = ws.length + 1 by omega]) (fun k k1 k2 => by rw [sI_cell (by decide), sI_place (by omega)]) (fun q => by rw [sI_cell (by decide), sI_same])) (by rw [hlen]; omega)
        rw [hlen] at u1
        rw [if_neg h40, e40, show rf 188 43 = 212 from rfl, if_neg (by rw [ln_212]; exact oo_inb (by omega) (by omega)), oo_nat (by omega), sI_cell (by decide), hwB.1, e40, oo_add]
        exact ⟨U, u1, u2, u3, Fr.trans (F1.mono rfl) (Fr.trans (F2.mono rfl) u4)⟩
    · rw [if_neg hP, if_neg hP, show (1 : Int32) = oo 1 from rfl, oo_add]
      obtain ⟨U, u1, u2, u3, u4⟩ := ih (h + 1) f B ws (by omega) (by omega) (by omega) hNB hbB hwB (by omega)
      exact ⟨U, u1, u2, u3, Fr.trans (F1.mono rfl) u4⟩
theorem refb_n {a : Nat} (hO : HOK v) (ha : a < v 3) (hE : E ≤ 60) : ∀ m b f (T : XS) (ws : List Nat), b + m = v 3 → m < f → nowE v T → btN v bt T → wsN T ws → ws.length + m * E < 50000 → ∃ U, f_X12_changed_L100 (oo a) (oo E) 188 f (oo ws.length) (oo b) T = some (oo (prF (chP v bt E a) a E m b ws).length, U) ∧ nowE v U ∧ wsN U (prF (chP v bt E a) a E m b ws) ∧ Fr FRH T U := by
  obtain ⟨⟨b0, b1, b2, b3, b4, b5⟩, -⟩ := id hO
  intro m
  induction m with
  | zero =>
    intro b f T ws hh hf hN hbt hw hl
    obtain ⟨f, rfl⟩ : ∃ f', f = f' + 1 := ⟨f - 1, by omega⟩
    obtain ⟨u, n1, n2⟩ := id hN
    refine ⟨T, ?_, hN, hw, Fr.rf _ _⟩
    rw [f_X12_changed_L100, show rf 188 14 = 190 from rfl, n1 3 (by decide), n2 3 (by decide), if_pos (by rw [oo_le (by omega) (by omega)]; omega)]
    rfl
  | succ m ih =>
    intro b f T ws hh hf hN hbt hw hl
    obtain ⟨f, rfl⟩ : ∃ f', f = f' + 1 := ⟨f - 1, by omega⟩
    obtain ⟨u, n1, n2⟩ := id hN
    rw [Nat.succ_mul] at hl
    obtain ⟨U, u1, u2, u3, u4⟩ := refh_n (bt := bt) (b := b) hO ha (by omega) hE E 1 1000000 T ws (by omega) (by omega) (Nat.le_refl _) hN hbt hw (by omega)
    have hlen := hrF_len (P := chP v bt E a b) (a := a) (b := b) E 1 ws
    obtain ⟨W, w1, w2, w3, w4⟩ := ih (b + 1) f U _ (by omega) (by omega) u2 (hbt.fr u4 rfl) u3 (by omega)
    refine ⟨W, ?_, w2, w3, Fr.trans u4 w4⟩
    rw [f_X12_changed_L100, show rf 188 14 = 190 from rfl, n1 3 (by decide), n2 3 (by decide), if_neg (by rw [oo_le (by omega) (by omega)]; omega), show (1 : Int32) = oo 1 from rfl, u1, Option.bind_some]
    dsimp only
    rw [oo_add, w1]
    rfl
theorem refa_n (hO : HOK v) (hE : E ≤ 60) : ∀ m a f (T : XS) (ws : List Nat), a + m = v 3 → m < f → nowE v T → btN v bt T → wsN T ws → ws.length + triN m * E < 10000 → ∃ U, f_X12_changed_L83 (oo E) 188 f (oo ws.length) (oo a) T = some (oo (alF (chP v bt E) (v 3) E m a ws).length, U) ∧ nowE v U ∧ wsN U (alF (chP v bt E) (v 3) E m a ws) ∧ Fr FRH T U := by
  obtain ⟨⟨b0, b1, b2, b3, b4, b5⟩, -⟩ := id hO
  intro m
  induction m with
  | zero =>
    intro a f T ws hh hf hN hbt hw hl
    obtain ⟨f, rfl⟩ : ∃ f', f = f' + 1 := ⟨f - 1, by omega⟩
    obtain ⟨u, n1, n2⟩ := id hN
    refine ⟨T, ?_, hN, hw, Fr.rf _ _⟩
    rw [f_X12_changed_L83, show rf 188 14 = 190 from rfl, n1 3 (by decide), n2 3 (by decide), if_pos (by rw [oo_le (by omega) (by omega)]; omega)]
    rfl
  | succ m ih =>
    intro a f T ws hh hf hN hbt hw hl
    obtain ⟨f, rfl⟩ : ∃ f', f = f' + 1 := ⟨f - 1, by omega⟩
    obtain ⟨u, n1, n2⟩ := id hN
    rw [triN, Nat.add_mul] at hl
    have hm : v 3 - (a + 1) = m := by omega
    obtain ⟨U, u1, u2, u3, u4⟩ := refb_n (bt := bt) (a := a) hO (by omega) hE (v 3 - (a + 1)) (a + 1) 1000000 T ws (by omega) (by omega) hN hbt hw (by rw [hm]; omega)
    have hlen := prF_len (P := chP v bt E a) (a := a) (E := E) (v 3 - (a + 1)) (a + 1) ws
    rw [hm] at hlen
    obtain ⟨W, w1, w2, w3, w4⟩ := ih (a + 1) f U _ (by omega) (by omega) u2 (hbt.fr u4 rfl) u3 (by rw [hm]; omega)
    refine ⟨W, ?_, w2, w3, Fr.trans u4 w4⟩
    rw [f_X12_changed_L83, show rf 188 14 = 190 from rfl, n1 3 (by decide), n2 3 (by decide), if_neg (by rw [oo_le (by omega) (by omega)]; omega), show (1 : Int32) = oo 1 from rfl, oo_add, u1, Option.bind_some]
    dsimp only
    rw [w1]
    rfl
end CHR
/-! laid aside, and back -/
theorem aside_n {T : XS} {v : Nat → Nat} (h : IsC T 190 516 v) : ∃ U, f_X12_layAside 188 T = some U ∧ (∀ j, j < 130 → U.1 194 j = oo (v (144 + j))) ∧ Fr [(194, 9999)] T U := by
  have l1 := loop_blk (L := f_X12_layAside_L2 188) (a := 194) (lo := 0) (st := 0) (m := 130) (f := fun j => oo (v (144 + j))) (S := T) (R := some (blk T 194 0 130 (fun j => oo (v (144 + j))))) (fun i k hk => by
    rw [Nat.zero_add, f_X12_layAside_L2, if_neg (by rw [show (130 : Int32) = oo 130 from rfl, oo_le (by decide) (by omega)]; omega), show rf 188 14 = 190 from rfl, show rf 188 18 = 194 from rfl, show (144 : Int32) = oo 144 from rfl, oo_add, if_neg (by rw [ln_190]; exact oo_inb (by omega) (by omega)), if_neg (by rw [ln_194]; exact oo_inb (by omega) (by omega)), oo_nat (by omega), oo_nat (by omega), blk_cell (by decide), h _ (by omega), show (1 : Int32) = oo 1 from rfl, oo_add]) (fun i => by
    rw [f_X12_layAside_L2, if_pos (by decide)]) 1000000 (by decide)
  refine ⟨blk T 194 0 130 (fun j => oo (v (144 + j))), ?_, fun j hj => blk_in (by omega), Fr.blk (Fr.rf _ _) rfl⟩
  unfold f_X12_layAside
  rw [show (0 : Int32) = oo 0 from rfl, l1, Option.bind_some]
theorem back_n {T : XS} {v : Nat → Nat} (h : nowE v T) (h194 : ∀ j, j < 130 → T.1 194 j = oo (v (144 + j))) : ∃ U, f_X12_layBack 188 T = some U ∧ IsC U 190 516 v ∧ Fr [(190, 9999)] T U := by
  obtain ⟨u, n1, n2⟩ := h
  have l1 := loop_blk (L := f_X12_layBack_L2 188) (a := 190) (lo := 144) (st := 0) (m := 130) (f := fun j => oo (v j)) (S := T) (R := some (blk T 190 144 130 (fun j => oo (v j)))) (fun i k hk => by
    rw [Nat.zero_add, f_X12_layBack_L2, if_neg (by rw [show (130 : Int32) = oo 130 from rfl, oo_le (by decide) (by omega)]; omega), show rf 188 14 = 190 from rfl, show rf 188 18 = 194 from rfl, show (144 : Int32) = oo 144 from rfl, oo_add, if_neg (by rw [ln_194]; exact oo_inb (by omega) (by omega)), if_neg (by rw [ln_190]; exact oo_inb (by omega) (by omega)), oo_nat (by omega), oo_nat (by omega), blk_cell (by decide), h194 _ hk, show (1 : Int32) = oo 1 from rfl, oo_add]) (fun i => by
    rw [f_X12_layBack_L2, if_pos (by decide)]) 1000000 (by decide)
  refine ⟨blk T 190 144 130 (fun j => oo (v j)), ?_, fun j hj => ?_, Fr.blk (Fr.rf _ _) rfl⟩
  · unfold f_X12_layBack
    rw [show (0 : Int32) = oo 0 from rfl, l1, Option.bind_some]
  · by_cases q : 144 ≤ j ∧ j < 274
    · rw [blk_in (by omega)]
    · rw [blk_out (by omega), n1 j hj, n2 j (by omega)]
theorem chg_n {T : XS} {v bt : Nat → Nat} {n : Nat} (hO : HOK v) (h2 : T.1 188 2 = oo n) (hN : IsC T 190 516 v) (hn : n = v 3 * v 0) (hE : v 144 ≤ 60) (hb : ∀ j, j < 940 → T.1 189 j = oo (bt j) ∧ bt j < 256) : ∃ U, f_X12_changed 188 T = some (oo (alF (chP v bt (v 144)) (v 3) (v 144) (v 3) 0 []).length, U) ∧ IsC U 190 516 v ∧ wsN U (alF (chP v bt (v 144)) (v 3) (v 144) (v 3) 0 []) ∧ U.1 188 2 = oo 0 ∧ Fr [(188, 0), (188, 2), (188, 44), (211, 9999), (194, 9999), (190, 9999), (212, 9999)] T U := by
  obtain ⟨⟨b0, b1, b2, b3, b4, b5⟩, -⟩ := id hO
  have hn36 : n ≤ 36 := by rw [hn]; exact Nat.mul_le_mul b3 b0
  have ht := take2 h2
  have F0 : Fr [(188, 0), (188, 2)] T (sI (sI T 188 0 (oo 0)) 188 2 (oo 0)) := Fr.sIp (Fr.sIp (Fr.rf _ _) rfl) rfl
  have hN0 : IsC (sI (sI T 188 0 (oo 0)) 188 2 (oo 0)) 190 516 v := hN.cell (F0.row rfl)
  have h20 : (sI (sI T 188 0 (oo 0)) 188 2 (oo 0)).1 188 2 = oo 0 := sI_same _ _ _ _
  have hb0 : ∀ j, j < 940 → (sI (sI T 188 0 (oo 0)) 188 2 (oo 0)).1 189 j = oo (bt j) := fun j hj => by rw [F0.row (c := 189) rfl]; exact (hb j hj).1
  generalize sI (sI T 188 0 (oo 0)) 188 2 (oo 0) = A at ht F0 hN0 h20 hb0
  have l1 := loop_blk (L := f_X12_changed_L46 (oo (v 144)) (oo n) 188) (a := 211) (lo := 0) (st := 0) (m := n) (f := fun j => oo (bt j)) (S := A) (R := some (blk A 211 0 n (fun j => oo (bt j)))) (fun i k hk => by
    rw [Nat.zero_add, f_X12_changed_L46, if_neg (by rw [oo_le (by omega) (by omega)]; omega), show rf 188 1 = 189 from rfl, show rf 188 42 = 211 from rfl, if_neg (by rw [ln_189]; exact oo_inb (by omega) (by omega)), if_neg (by rw [ln_211]; exact oo_inb (by omega) (by omega)), oo_nat (by omega), blk_cell (by decide), hb0 k (by omega), show (1 : Int32) = oo 1 from rfl, oo_add]) (fun i => by
    rw [Nat.zero_add, f_X12_changed_L46, if_pos (Int32.le_refl _)]) 1000000 (by omega)
  have F1 : Fr [(211, 9999)] A (blk A 211 0 n (fun j => oo (bt j))) := Fr.blk (Fr.rf _ _) rfl
  have h211 : ∀ j, j < n → (blk A 211 0 n (fun j => oo (bt j))).1 211 j = oo (bt j) := fun j hj => blk_in (by omega)
  generalize blk A 211 0 n (fun j => oo (bt j)) = B at l1 F1 h211
  have F2 : Fr [(188, 44)] B (sI B 188 44 (oo 0)) := Fr.sIp (Fr.rf _ _) rfl
  have hN2 : IsC (sI B 188 44 (oo 0)) 190 516 v := hN0.cell (by rw [F2.row (c := 190) rfl, F1.row (c := 190) rfl])
  obtain ⟨C, c1, c2, c3⟩ := aside_n hN2
  have hbt : btN v bt C := fun c s hc hs => by
    have h1 : v 0 * c + s < n := by
      have h3 : v 0 * c + v 0 = v 0 * (c + 1) := by rw [Nat.mul_succ]
      have h4 : v 0 * (c + 1) ≤ v 0 * v 3 := Nat.mul_le_mul_left _ (by omega)
      rw [hn, Nat.mul_comm (v 3)]
      omega
    rw [c3.row (c := 211) rfl, F2.row (c := 211) rfl, h211 _ h1]
    exact ⟨rfl, (hb _ (by omega)).2⟩
  have hws : wsN C [] := ⟨by rw [c3.get rfl, sI_same]; rfl, fun k _ h => absurd h (Nat.not_lt_zero _)⟩
  have htri : triN (v 3) * v 144 ≤ 15 * 60 := Nat.mul_le_mul (tri_le b3) hE
  obtain ⟨D, d1, d2, d3, d4⟩ := refa_n (bt := bt) (E := v 144) hO hE (v 3) 0 1000000 C [] (by omega) (by omega) ⟨v, hN2.cell (c3.row rfl), fun j _ => rfl⟩ hbt hws (by rw [List.length_nil]; omega)
  obtain ⟨U, u1, u2, u3⟩ := back_n d2 (fun j hj => by rw [d4.row (c := 194) rfl]; exact c2 j hj)
  refine ⟨U, ?_, u2, d3.fr u3 rfl, ?_, Fr.trans (F0.mono rfl) (Fr.trans (F1.mono rfl) (Fr.trans (F2.mono rfl) (Fr.trans (c3.mono rfl) (Fr.trans (d4.mono rfl) (u3.mono rfl)))))⟩
  · unfold f_X12_changed
    rw [show (0 : Int32) = oo 0 from rfl, ht]
    dsimp only
    rw [show rf 188 14 = 190 from rfl, hN0 3 (by decide), hN0 0 (by decide), oo_mul, if_pos (by rw [hn]), hN0 144 (by decide), if_pos (by rw [show (60 : Int32) = oo 60 from rfl, oo_le (by omega) (by decide)]; exact hE), l1, Option.bind_some, c1, Option.bind_some]
    rw [show f_X12_changed_L83 (oo (v 144)) 188 1000000 (oo 0) (oo 0) C = some (oo (alF (chP v bt (v 144)) (v 3) (v 144) (v 3) 0 []).length, D) from d1, Option.bind_some]
    dsimp only
    rw [u1, Option.bind_some]
  · rw [u3.get rfl, d4.get rfl, c3.get rfl, F2.get rfl, F1.get rfl, h20]
