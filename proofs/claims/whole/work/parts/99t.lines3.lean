/-! the lines of a HILL: who went, smoke -/
section LNS
variable {x : TX} {L i : Nat} {S T : XS} {d : Nat → List Nat} {v : Nat → Nat}
theorem wents_L {z k : Nat} {V : XS} (hO : HOK v) (hN : IsC T 191 144 v) (hz : z < 6) (hk : k ≤ 60) (h13 : T.1 188 13 = oo k) (hb : f_X12_bad 188 (oo 3) T = some (false, V)) : ∀ m q f, q + m = v 4 → m < f → (∃ j, q ≤ j ∧ j < v 4 ∧ (v (78 + 3 * j) = z ∧ v (78 + 3 * j + 1) = k) ∧ f_X12_readWent_L59 (oo z) (oo (v 4)) 188 f (oo q) T = some (.inl (false, V))) ∨ ((∀ j, q ≤ j → j < v 4 → ¬ (v (78 + 3 * j) = z ∧ v (78 + 3 * j + 1) = k)) ∧ f_X12_readWent_L59 (oo z) (oo (v 4)) 188 f (oo q) T = some (.inr T)) := by
  obtain ⟨⟨b0, b1, b2, b3, b4, b5⟩, hfa, har, hsm, hkp, hwt, hrn, hal⟩ := id hO
  intro m
  induction m with
  | zero =>
    intro q f hq hf
    obtain ⟨f, rfl⟩ : ∃ f', f = f' + 1 := ⟨f - 1, by omega⟩
    exact .inr ⟨fun j j1 j2 => by omega, by rw [f_X12_readWent_L59, if_pos (by rw [oo_le (by omega) (by omega)]; omega)]⟩
  | succ m ih =>
    intro q f hq hf
    obtain ⟨f, rfl⟩ : ∃ f', f = f' + 1 := ⟨f - 1, by omega⟩
    have a1 := hal (78 + 3 * q) (by omega)
    have a2 := hal (78 + 3 * q + 1) (by omega)
    have go : ¬ (v (78 + 3 * q) = z ∧ v (78 + 3 * q + 1) = k) → f_X12_readWent_L59 (oo z) (oo (v 4)) 188 (f + 1) (oo q) T = f_X12_readWent_L59 (oo z) (oo (v 4)) 188 f (oo (q + 1)) T := fun e => by
      rw [f_X12_readWent_L59, if_neg (by rw [oo_le (by omega) (by omega)]; omega), show rf 188 15 = 191 from rfl, show (78 : Int32) = oo 78 from rfl, show (3 : Int32) = oo 3 from rfl, show (1 : Int32) = oo 1 from rfl, oo_mul, oo_add, oo_add, oo_add, if_neg (by rw [ln_191]; exact oo_inb (by omega) (by omega)), oo_nat (by omega), oo_nat (by omega), hN _ (by omega), hN _ (by omega), h13, ieq (by omega) (by omega)]
      by_cases e1 : v (78 + 3 * q) = z
      · have e2 : ¬ v (78 + 3 * q + 1) = k := fun h => e ⟨e1, h⟩
        rw [if_pos e1, if_neg (by
          rw [ln_191]
          have := oo_inb (k := 78 + 3 * q + 1) (m := 144) (by omega) (by omega)
          rwa [oo_nat (by omega)] at this), ieq (by omega) (by omega), if_neg e2]
      · rw [if_neg e1]
    by_cases e : v (78 + 3 * q) = z ∧ v (78 + 3 * q + 1) = k
    · refine .inl ⟨q, Nat.le_refl _, by omega, e, ?_⟩
      rw [f_X12_readWent_L59, if_neg (by rw [oo_le (by omega) (by omega)]; omega), show rf 188 15 = 191 from rfl, show (78 : Int32) = oo 78 from rfl, show (3 : Int32) = oo 3 from rfl, show (1 : Int32) = oo 1 from rfl, oo_mul, oo_add, oo_add, oo_add, if_neg (by rw [ln_191]; exact oo_inb (by omega) (by omega)), oo_nat (by omega), oo_nat (by omega), hN _ (by omega), hN _ (by omega), h13, if_pos (by rw [e.1]), if_neg (by
        rw [ln_191]
        have := oo_inb (k := 78 + 3 * q + 1) (m := 144) (by omega) (by omega)
        rwa [oo_nat (by omega)] at this), if_pos (by rw [e.2]), hb, Option.bind_some]
    · rw [go e]
      rcases ih (q + 1) f (by omega) (by omega) with ⟨j, j1, j2, j3, j4⟩ | ⟨j1, j2⟩
      · exact .inl ⟨j, by omega, j2, j3, j4⟩
      · refine .inr ⟨fun j a1 a2 => ?_, j2⟩
        rcases Nat.lt_or_ge q j with z | z
        · exact j1 j z a2
        · obtain rfl : j = q := by omega
          exact e
theorem smoke_L {z a b : Nat} {V : XS} (hO : HOK v) (hN : IsC T 191 144 v) (hz : z < 6) (ha : a < 6) (hbb : b < 6) (hb : f_X12_bad 188 (oo 3) T = some (false, V)) : ∀ m q f, q + m = v 2 → m < f → (∃ j, q ≤ j ∧ j < v 2 ∧ (v (48 + 3 * j) = z ∧ v (48 + 3 * j + 1) = a ∧ v (48 + 3 * j + 2) = b) ∧ f_X12_readSmoke_L108 (oo b) (oo a) (oo z) (oo (v 2)) 188 f (oo q) T = some (.inl (false, V))) ∨ ((∀ j, q ≤ j → j < v 2 → ¬ (v (48 + 3 * j) = z ∧ v (48 + 3 * j + 1) = a ∧ v (48 + 3 * j + 2) = b)) ∧ f_X12_readSmoke_L108 (oo b) (oo a) (oo z) (oo (v 2)) 188 f (oo q) T = some (.inr T)) := by
  obtain ⟨⟨b0, b1, b2, b3, b4, b5⟩, hfa, har, hsm, hkp, hwt, hrn, hal⟩ := id hO
  intro m
  induction m with
  | zero =>
    intro q f hq hf
    obtain ⟨f, rfl⟩ : ∃ f', f = f' + 1 := ⟨f - 1, by omega⟩
    exact .inr ⟨fun j j1 j2 => by omega, by rw [f_X12_readSmoke_L108, if_pos (by rw [oo_le (by omega) (by omega)]; omega)]⟩
  | succ m ih =>
    intro q f hq hf
    obtain ⟨f, rfl⟩ : ∃ f', f = f' + 1 := ⟨f - 1, by omega⟩
    have a1 := hal (48 + 3 * q) (by omega)
    have a2 := hal (48 + 3 * q + 1) (by omega)
    have a3 := hal (48 + 3 * q + 2) (by omega)
    have i1 : ¬ (oo (48 + 3 * q + 1) < 0 ∨ ln 191 ≤ 48 + 3 * q + 1) := by
      rw [ln_191]
      have := oo_inb (k := 48 + 3 * q + 1) (m := 144) (by omega) (by omega)
      rwa [oo_nat (by omega)] at this
    have i2 : ¬ (oo (48 + 3 * q + 2) < 0 ∨ ln 191 ≤ 48 + 3 * q + 2) := by
      rw [ln_191]
      have := oo_inb (k := 48 + 3 * q + 2) (m := 144) (by omega) (by omega)
      rwa [oo_nat (by omega)] at this
    have e0 : f_X12_readSmoke_L108 (oo b) (oo a) (oo z) (oo (v 2)) 188 (f + 1) (oo q) T = (if v (48 + 3 * q) = z ∧ v (48 + 3 * q + 1) = a ∧ v (48 + 3 * q + 2) = b then some (.inl (false, V)) else f_X12_readSmoke_L108 (oo b) (oo a) (oo z) (oo (v 2)) 188 f (oo (q + 1)) T) := by
      rw [f_X12_readSmoke_L108, if_neg (by rw [oo_le (by omega) (by omega)]; omega), show rf 188 15 = 191 from rfl, show (48 : Int32) = oo 48 from rfl, show (3 : Int32) = oo 3 from rfl, show (1 : Int32) = oo 1 from rfl, show (2 : Int32) = oo 2 from rfl, oo_mul, oo_add, oo_add, oo_add, oo_add, if_neg (by rw [ln_191]; exact oo_inb (by omega) (by omega)), oo_nat (by omega), oo_nat (by omega), oo_nat (by omega), hN _ (by omega), hN _ (by omega), hN _ (by omega), ieq (by omega) (by omega), if_neg i1, ieq (by omega) (by omega), if_neg i2, ieq (by omega) (by omega), hb, Option.bind_some]
      by_cases c1 : v (48 + 3 * q) = z
      · rw [if_pos c1]
        by_cases c2 : v (48 + 3 * q + 1) = a
        · rw [if_pos c2]
          by_cases c3 : v (48 + 3 * q + 2) = b
          · rw [if_pos c3, if_pos ⟨c1, c2, c3⟩]
          · rw [if_neg c3, if_neg (fun h => c3 h.2.2)]
        · rw [if_neg c2, if_neg (fun h => c2 h.2.1)]
      · rw [if_neg c1, if_neg (fun h => c1 h.1)]
    rw [e0]
    by_cases e : v (48 + 3 * q) = z ∧ v (48 + 3 * q + 1) = a ∧ v (48 + 3 * q + 2) = b
    · exact .inl ⟨q, Nat.le_refl _, by omega, e, by rw [if_pos e]⟩
    · rw [if_neg e]
      rcases ih (q + 1) f (by omega) (by omega) with ⟨j, j1, j2, j3, j4⟩ | ⟨j1, j2⟩
      · exact .inl ⟨j, by omega, j2, j3, j4⟩
      · refine .inr ⟨fun j a1 a2 => ?_, j2⟩
        rcases Nat.lt_or_ge q j with z | z
        · exact j1 j z a2
        · obtain rfl : j = q := by omega
          exact e
theorem went_p (hx : xok x L) (hS : AtC x L i S) (hT : AtN x i T) (hiL : i < L) (hR : HRel d v S T) (hm : v 4 < 20) : LnR x L i S T (f_X3_readWent 16 (t_X8_step 1 S)) (f_X12_readWent 188 T) := by
  obtain ⟨hO, hH, hN, hD, hTo, hSm, hZe⟩ := id hR
  obtain ⟨⟨b0, b1, b2, b3, b4, b5⟩, hfa, har, hsm, hkp, hwt, hrn, hal⟩ := id hO
  obtain ⟨⟨n0, n1, n2, n3, n4, n5⟩, hfd, hai, hke, hst, hwe, hra⟩ := id hH
  obtain ⟨s1, s2⟩ := step_c hx hS hiL
  obtain ⟨T1, g1, g2, g3⟩ := goN hx hT hiL
  have FS : Fr FKC S (t_X8_step 1 S) := s2.mono rfl
  have FT : Fr FPO T T1 := g3.mono rfl
  have e4 : T.1 191 4 = oo (v 4) := hN 4 (by decide)
  have n6 : ¬ oo (v 4) = 20 := by rw [show (20 : Int32) = oo 20 from rfl, oo_eq (by omega) (by decide)]; omega
  have hN1 : IsC T1 191 144 v := hN.cell (FT.row rfl)
  have e3 := hN1 3 (by decide)
  have hp1 := told_p (h := 17) (ch := 19) (cn := 196) (srt := 2) (base := 12) (many := v 3) (d := d) hx s1 g2 rfl ln_19 ln_196 (by decide) (mnI_b hO (srt := 2) (by decide)) rfl (fun q hq => by
    have := hD.c 2 (by decide) q hq
    rw [FS.row2 (c := 19) rfl]
    exact this) (fun q hq => by
    have := hD.n hO 2 (by decide) q hq
    rw [FT.row2 (c := 196) rfl]
    exact this)
  rcases hp1 with ⟨U, V, u1, u2, u3, u4, u5⟩ | ⟨z, U, hz, hk1, hL1, hw1, u1, u2, u3, u4, u5, u6⟩
  · refine .inl ⟨U, V, ?_, ?_, u3, Fr.trans (FS.mono rfl) (u4.mono rfl), Fr.trans (FT.mono rfl) (u5.mono rfl)⟩
    · unfold f_X3_readWent
      rw [show rf 16 0 = 1 from rfl, show rf 16 1 = 17 from rfl, show rf 17 6 = 24 from rfl]
      rw [show (2 : Int32) = oo 2 from rfl, u1, Option.bind_some]
      dsimp only
      rw [if_neg (by decide)]
    · unfold f_X12_readWent
      rw [show rf 188 15 = 191 from rfl, e4, if_neg n6, g1, Option.bind_some, e3]
      unfold f_X12_readOne
      rw [show rf 188 20 = 196 from rfl, show (12 : Int32) = oo 12 from rfl, u2, Option.bind_some]
      dsimp only
      rw [if_neg (by decide), Option.bind_some]
      dsimp only
      rw [if_neg (by decide)]
  obtain ⟨T2, h1, h2, h3⟩ := goN hx u4 hL1
  have F1 : Fr FKC S U := Fr.trans FS u6
  have FT2 : Fr FPO T T2 := Fr.trans FT (Fr.trans (Fr.sIp (Fr.rf [(188, 13)] _) rfl |>.mono rfl) (h3.mono rfl))
  have e13 : T2.1 188 13 = oo z := by rw [h3.get rfl, sI_same]
  rcases num_p (lo := 1) (hi := 60) hx u3 h2 (by decide) (by decide) with ⟨U2, V2, p1, p2, p3, p4, p5⟩ | ⟨k, U2, k1, k2, k3, hL2, p1, p2, p3, p4, p5, p6⟩
  · refine .inl ⟨U2, V2, ?_, ?_, p3, Fr.trans (F1.mono rfl) (p4.mono rfl), Fr.trans (FT2.mono rfl) (p5.mono rfl)⟩
    · unfold f_X3_readWent
      rw [show rf 16 0 = 1 from rfl, show rf 16 1 = 17 from rfl, show rf 17 6 = 24 from rfl]
      rw [show (2 : Int32) = oo 2 from rfl, u1, Option.bind_some]
      dsimp only
      rw [if_pos rfl]
      rw [show (1 : Int32) = oo 1 from rfl, show (60 : Int32) = oo 60 from rfl, p1, Option.bind_some]
      dsimp only
      rw [if_neg (by decide)]
    · unfold f_X12_readWent
      rw [show rf 188 15 = 191 from rfl, e4, if_neg n6, g1, Option.bind_some, e3]
      unfold f_X12_readOne
      rw [show rf 188 20 = 196 from rfl, show (12 : Int32) = oo 12 from rfl, u2, Option.bind_some]
      dsimp only
      rw [if_pos rfl, h1, Option.bind_some, Option.bind_some]
      dsimp only
      rw [if_pos rfl]
      rw [show (1 : Int32) = oo 1 from rfl, show (60 : Int32) = oo 60 from rfl, p2, Option.bind_some]
      dsimp only
      rw [if_neg (by decide)]
  have F2 : Fr FKC S U2 := Fr.trans F1 p6
  have FT3 : Fr FPO T (sI T2 188 13 (oo k)) := Fr.sIp FT2 rfl
  have hN3 : IsC (sI T2 188 13 (oo k)) 191 144 v := hN.cell (FT3.row rfl)
  have hz6 : z < 6 := by omega
  have ewt : gat U2 24 (oo (k * 6 + z)) = oo (wtN v z k (v 4)) := by rw [g_24 (by omega), F2.row (c := 24) rfl, hwe k z k2 hz6]
  have hwi := wtF_iff (v := v) (w := z) (t := k) (v 4)
  have hwl := wtN_le hO (w := z) (t := k) (v 4) (Nat.le_refl _)
  obtain ⟨V, v1, v2, v3, v4⟩ := bad_n hx p4 (by omega) 3
  rw [bdK_ne (by omega)] at v2
  have hl := wents_L (z := z) (k := k) hO hN3 hz6 k2 (sI_same _ _ _ _) v1 (v 4) 0 1000000 (by omega) (by omega)
  by_cases hh : wtN v z k (v 4) = 0
  · have hl : f_X12_readWent_L59 (oo z) (oo (v 4)) 188 1000000 (oo 0) (sI T2 188 13 (oo k)) = some (.inr (sI T2 188 13 (oo k))) := by
      rcases hl with ⟨j, j1, j2, j3, j4⟩ | ⟨j1, j2⟩
      · exact absurd hh (hwi.mpr ⟨j, j2, j3⟩)
      · exact j2
    have FV : Fr [(191, 9999)] (sI T2 188 13 (oo k)) (sI (sI (sI T2 188 13 (oo k)) 191 (78 + 3 * v 4) (oo z)) 191 (78 + 3 * v 4 + 1) (oo k)) := Fr.sIr (Fr.sIr (Fr.rf _ _) rfl) rfl
    have e13' : (sI (sI T2 188 13 (oo k)) 191 (78 + 3 * v 4) (oo z)).1 188 13 = oo k := by rw [sI_cell (by decide), sI_same]
    obtain ⟨T4, c1, c2, c3⟩ := goN hx (p4.fr FV rfl) hL2
    have c5 : T4.1 191 1 = oo (v 1) := by rw [c3.row (c := 191) rfl, sI_place (by omega), sI_place (by omega)]; exact hN3 1 (by decide)
    have FT4 : Fr [(188, 5), (188, 6), (188, 7), (188, 8), (188, 9), (188, 12), (188, 13), (191, 9999)] T T4 := Fr.trans (FT3.mono rfl) (Fr.trans (FV.mono rfl) (c3.mono rfl))
    have hp2 := told_p (h := 17) (ch := 19) (cn := 196) (srt := 1) (base := 6) (many := v 1) (d := d) hx p3 c2 rfl ln_19 ln_196 (by decide) (mnI_b hO (srt := 1) (by decide)) rfl (fun q hq => by
      have := hD.c 1 (by decide) q hq
      rw [F2.row2 (c := 19) rfl]
      exact this) (fun q hq => by
      have := hD.n hO 1 (by decide) q hq
      rw [FT4.row2 (c := 196) rfl]
      exact this)
    rcases hp2 with ⟨U3, V3, q1, q2, q3, q4, q5⟩ | ⟨pl, U3, hpl, hk3, hL3, hw3, q1, q2, q3, q4, q5, q6⟩
    · refine .inl ⟨U3, V3, ?_, ?_, q3, Fr.trans (F2.mono rfl) (q4.mono rfl), Fr.trans (FT4.mono rfl) (q5.mono rfl)⟩
      · unfold f_X3_readWent
        rw [show rf 16 0 = 1 from rfl, show rf 16 1 = 17 from rfl, show rf 17 6 = 24 from rfl]
        rw [show (2 : Int32) = oo 2 from rfl, u1, Option.bind_some]
        dsimp only
        rw [if_pos rfl]
        rw [show (1 : Int32) = oo 1 from rfl, show (60 : Int32) = oo 60 from rfl, p1, Option.bind_some]
        dsimp only
        rw [if_pos rfl]
        rw [u5, p5, show (6 : Int32) = oo 6 from rfl, oo_mul, oo_add, ewt, hh, if_pos (show oo 0 = (0 : Int32) from rfl)]
        rw [q1, Option.bind_some]
        dsimp only
        rw [if_neg (by decide)]
      · unfold f_X12_readWent
        rw [show rf 188 15 = 191 from rfl, e4, if_neg n6, g1, Option.bind_some, e3]
        unfold f_X12_readOne
        rw [show rf 188 20 = 196 from rfl, show (12 : Int32) = oo 12 from rfl, u2, Option.bind_some]
        dsimp only
        rw [if_pos rfl, h1, Option.bind_some, Option.bind_some]
        dsimp only
        rw [if_pos rfl]
        rw [show (1 : Int32) = oo 1 from rfl, show (60 : Int32) = oo 60 from rfl, p2, Option.bind_some]
        dsimp only
        rw [if_pos rfl, e13, show (0 : Int32) = oo 0 from rfl]
        rw [hl, Option.bind_some]
        dsimp only
        rw [show (78 : Int32) = oo 78 from rfl, show (3 : Int32) = oo 3 from rfl, oo_mul, oo_add, show (2 : Int32) = oo 2 from rfl, oo_add, oo_add, if_neg (by rw [ln_191]; exact oo_inb (by omega) (by omega)), if_neg (by rw [ln_191]; exact oo_inb (by omega) (by omega)), oo_nat (by omega), oo_nat (by omega), e13', c1, Option.bind_some, c5]
        rw [show (6 : Int32) = oo 6 from rfl, q2, Option.bind_some]
        dsimp only
        rw [if_neg (by decide), Option.bind_some]
        dsimp only
        rw [if_neg (by decide)]
    obtain ⟨Y, y1, y2, y3⟩ := goN hx q4 hL3
    have y13 : Y.1 188 13 = oo pl := by rw [y3.get rfl, sI_same]
    have eY : Y.1 191 = (sI (sI (sI T2 188 13 (oo k)) 191 (78 + 3 * v 4) (oo z)) 191 (78 + 3 * v 4 + 1) (oo k)).1 191 := by rw [y3.row (c := 191) rfl, sI_cell (by decide), c3.row (c := 191) rfl]
    refine .inr ?_
    obtain ⟨w, a, ac, az, ak, ap⟩ : ∃ w : Nat → Nat, (∀ j, j ≠ 4 → j ≠ 78 + 3 * v 4 → j ≠ 78 + 3 * v 4 + 1 → j ≠ 78 + 3 * v 4 + 2 → w j = v j) ∧ w 4 = v 4 + 1 ∧ w (78 + 3 * v 4) = z ∧ w (78 + 3 * v 4 + 1) = k ∧ w (78 + 3 * v 4 + 2) = pl := ⟨upN (upN (upN (upN v (78 + 3 * v 4) z) (78 + 3 * v 4 + 1) k) (78 + 3 * v 4 + 2) pl) 4 (v 4 + 1), fun j h1 h2 h3 h4 => by rw [upN_ne h1, upN_ne h4, upN_ne h3, upN_ne h2], upN_same _ _ _, by rw [upN_ne (by omega), upN_ne (by omega), upN_ne (by omega), upN_same], by rw [upN_ne (by omega), upN_ne (by omega), upN_same], by rw [upN_ne (by omega), upN_same]⟩
    have F3 : Fr FKC S U3 := Fr.trans F2 q6
    have FU : Fr [(24, 9999), (18, 9999)] U3 (sI (sI U3 24 (k * 6 + z) (oo (pl + 1))) 18 4 (oo (v 4 + 1))) := Fr.sIr (Fr.sIr (Fr.rf _ _) rfl) rfl
    have FA : Fr [(1, 9), (1, 10), (1, 11), (24, 9999), (18, 9999)] S (sI (sI U3 24 (k * 6 + z) (oo (pl + 1))) 18 4 (oo (v 4 + 1))) := Fr.trans (F3.mono rfl) (FU.mono rfl)
    have FW : Fr [(191, 9999)] Y (sI (sI Y 191 (78 + 3 * v 4 + 2) (oo pl)) 191 4 (oo (v 4 + 1))) := Fr.sIr (Fr.sIr (Fr.rf _ _) rfl) rfl
    have FB : Fr [(188, 5), (188, 6), (188, 7), (188, 8), (188, 9), (188, 12), (188, 13), (191, 9999)] T (sI (sI Y 191 (78 + 3 * v 4 + 2) (oo pl)) 191 4 (oo (v 4 + 1))) := Fr.trans FT4 (Fr.trans (Fr.sIp (Fr.rf [(188, 13)] _) rfl |>.mono rfl) (Fr.trans (y3.mono rfl) (FW.mono rfl)))
    have e18 : gat (sI U3 24 (k * 6 + z) (oo (pl + 1))) 18 (oo 4) = oo (v 4) := by rw [g_18 (by decide), sI_cell (by decide), F3.row (c := 18) rfl, n4]
    have m18 : ∀ c, c < 6 → (sI (sI U3 24 (k * 6 + z) (oo (pl + 1))) 18 4 (oo (v 4 + 1))).1 18 c = if c = 4 then oo (v 4 + 1) else S.1 18 c := fun c hc => by
      by_cases e : c = 4
      · rw [if_pos e, e, sI_same]
      · rw [if_neg e, sI_place e, sI_cell (by decide), F3.row (c := 18) rfl]
    have hOw : HOK w := ⟨⟨by rw [a 0 (by omega) (by omega) (by omega) (by omega) ]; omega, by rw [a 1 (by omega) (by omega) (by omega) (by omega) ]; omega, by rw [a 2 (by omega) (by omega) (by omega) (by omega) ]; omega, by rw [a 3 (by omega) (by omega) (by omega) (by omega) ]; omega, by rw [ac]; omega, by rw [a 5 (by omega) (by omega) (by omega) (by omega) ]; omega⟩,
        fun s hs => by rw [a _ (by omega) (by omega) (by omega) (by omega) , a 0 (by omega) (by omega) (by omega) (by omega) ]; exact hfa s hs,
        fun p s hp hs => by rw [a _ (by omega) (by omega) (by omega) (by omega) , a 0 (by omega) (by omega) (by omega) (by omega) ]; exact har p s hp hs,
        fun k hk => by
          rw [a 2 (by omega) (by omega) (by omega) (by omega) ] at hk
          have := hsm k hk
          rw [a (48 + 3 * k) (by omega) (by omega) (by omega) (by omega) , a (48 + 3 * k + 1) (by omega) (by omega) (by omega) (by omega) , a (48 + 3 * k + 2) (by omega) (by omega) (by omega) (by omega) , a 0 (by omega) (by omega) (by omega) (by omega) , a 1 (by omega) (by omega) (by omega) (by omega) ]
          omega,
        fun k hk => by
          rw [a 3 (by omega) (by omega) (by omega) (by omega) ] at hk
          have := hkp k hk
          rw [a (66 + k) (by omega) (by omega) (by omega) (by omega) , a (72 + k) (by omega) (by omega) (by omega) (by omega) , a 1 (by omega) (by omega) (by omega) (by omega) ]
          omega,
        fun j hj => by
            rw [ac] at hj
            by_cases e : j = v 4
            · rw [e, az, ak, ap, a 3 (by omega) (by omega) (by omega) (by omega), a 1 (by omega) (by omega) (by omega) (by omega)]; omega
            · have := hwt j (by omega)
              rw [a (78 + 3 * j) (by omega) (by omega) (by omega) (by omega), a (78 + 3 * j + 1) (by omega) (by omega) (by omega) (by omega), a (78 + 3 * j + 2) (by omega) (by omega) (by omega) (by omega), a 3 (by omega) (by omega) (by omega) (by omega), a 1 (by omega) (by omega) (by omega) (by omega)]; omega,
        fun k hk => by
          rw [a 5 (by omega) (by omega) (by omega) (by omega) ] at hk
          have := hrn k hk
          rw [a (138 + k) (by omega) (by omega) (by omega) (by omega) ]
          omega,
        fun j hj => by
            by_cases e : j = 4
            · rw [e, ac]; omega
            · by_cases e2 : j = 78 + 3 * v 4
              · rw [e2, az]; omega
              · by_cases e3 : j = 78 + 3 * v 4 + 1
                · rw [e3, ak]; omega
                · by_cases e4 : j = 78 + 3 * v 4 + 2
                  · rw [e4, ap]; omega
                  · rw [a _ e e2 e3 e4]; exact hal j hj⟩
    refine ⟨sI (sI U3 24 (k * 6 + z) (oo (pl + 1))) 18 4 (oo (v 4 + 1)), sI (sI Y 191 (78 + 3 * v 4 + 2) (oo pl)) 191 4 (oo (v 4 + 1)), i + 4, d, w, by omega, ?_, ?_, q3.fr FU rfl, y2.fr FW rfl, ?_, FA.mono rfl, FB.mono rfl⟩
    · unfold f_X3_readWent
      rw [show rf 16 0 = 1 from rfl, show rf 16 1 = 17 from rfl, show rf 17 6 = 24 from rfl]
      rw [show (2 : Int32) = oo 2 from rfl, u1, Option.bind_some]
      dsimp only
      rw [if_pos rfl]
      rw [show (1 : Int32) = oo 1 from rfl, show (60 : Int32) = oo 60 from rfl, p1, Option.bind_some]
      dsimp only
      rw [if_pos rfl]
      rw [u5, p5, show (6 : Int32) = oo 6 from rfl, oo_mul, oo_add, ewt, hh, if_pos (show oo 0 = (0 : Int32) from rfl)]
      rw [q1, Option.bind_some]
      dsimp only
      rw [if_pos rfl, q5, oo_add, p_24 (by omega)]
      unfold t_X3_addLine
      rw [show rf (rf 16 1) 0 = 18 from rfl, show (4 : Int32) = oo 4 from rfl, show (1 : Int32) = oo 1 from rfl, e18, oo_add, p_18 (by decide)]
    · unfold f_X12_readWent
      rw [show rf 188 15 = 191 from rfl, e4, if_neg n6, g1, Option.bind_some, e3]
      unfold f_X12_readOne
      rw [show rf 188 20 = 196 from rfl, show (12 : Int32) = oo 12 from rfl, u2, Option.bind_some]
      dsimp only
      rw [if_pos rfl, h1, Option.bind_some, Option.bind_some]
      dsimp only
      rw [if_pos rfl]
      rw [show (1 : Int32) = oo 1 from rfl, show (60 : Int32) = oo 60 from rfl, p2, Option.bind_some]
      dsimp only
      rw [if_pos rfl, e13, show (0 : Int32) = oo 0 from rfl]
      rw [hl, Option.bind_some]
      dsimp only
      rw [show (78 : Int32) = oo 78 from rfl, show (3 : Int32) = oo 3 from rfl, oo_mul, oo_add, show (2 : Int32) = oo 2 from rfl, oo_add, oo_add, if_neg (by rw [ln_191]; exact oo_inb (by omega) (by omega)), if_neg (by rw [ln_191]; exact oo_inb (by omega) (by omega)), oo_nat (by omega), oo_nat (by omega), e13', c1, Option.bind_some, c5]
      rw [show (6 : Int32) = oo 6 from rfl, q2, Option.bind_some]
      dsimp only
      rw [if_pos rfl, y1, Option.bind_some, Option.bind_some]
      dsimp only
      rw [if_pos rfl]
      rw [if_neg (by rw [ln_191]; exact oo_inb (by omega) (by omega)), oo_nat (by omega), y13, sI_place (by omega), eY, sI_place (by omega), sI_place (by omega), hN3 4 (by decide), oo_add]
    · refine ⟨hOw, ⟨⟨?_, ?_, ?_, ?_, ?_, ?_⟩, ?_, ?_, ?_, ?_, ?_, ?_⟩, ?_, ?_, ?_, ?_, fun p s h1 hp hs => ?_⟩
      · rw [m18 0 (by decide), if_neg (by decide), a 0 (by omega) (by omega) (by omega) (by omega) ]; exact n0
      · rw [m18 1 (by decide), if_neg (by decide), a 1 (by omega) (by omega) (by omega) (by omega) ]; exact n1
      · rw [m18 2 (by decide), if_neg (by decide), a 3 (by omega) (by omega) (by omega) (by omega) ]; exact n2
      · rw [m18 3 (by decide), if_neg (by decide), a 2 (by omega) (by omega) (by omega) (by omega) ]; exact n3
      · rw [m18 4 (by decide), if_pos rfl, ac]
      · rw [m18 5 (by decide), if_neg (by decide), a 5 (by omega) (by omega) (by omega) (by omega) ]; exact n5
      · intro s hs
        rw [FA.row (c := 20) rfl, a _ (by omega) (by omega) (by omega) (by omega) ]
        exact hfd s hs
      · intro p s hp hs
        rw [FA.row (c := 21) rfl, airN_cg hO (a 2 (by omega) (by omega) (by omega) (by omega) ) (fun j j1 j2 => a j (by omega) (by omega) (by omega) (by omega) ) hp hs]
        exact hai p s hp hs
      · intro s hs
        rw [FA.row (c := 22) rfl, a _ (by omega) (by omega) (by omega) (by omega) ]
        exact hke s hs
      · intro s hs
        rw [FA.row (c := 23) rfl, a _ (by omega) (by omega) (by omega) (by omega) ]
        exact hst s hs
      · intro t y ht hy
        rw [ac, wtN, az, ak, ap, wtN_cg (v := w) (w := v) (v 4) (fun j hj => ⟨a _ (by omega) (by omega) (by omega) (by omega), a _ (by omega) (by omega) (by omega) (by omega), a _ (by omega) (by omega) (by omega) (by omega)⟩), sI_cell (by decide)]
        by_cases e : z = y ∧ k = t
        · rw [if_pos e, ← e.1, ← e.2, sI_same]
        · rw [if_neg e, sI_place (by omega), F3.row (c := 24) rfl]
          exact hwe t y ht hy
      · intro t ht
        rw [FA.row (c := 25) rfl, a 5 (by omega) (by omega) (by omega) (by omega) , rnN_cg (v := w) (w := v) (v 5) (fun j hj => a _ (by omega) (by omega) (by omega) (by omega) )]
        exact hra t ht
      · intro j hj
        by_cases e : j = 4
        · rw [e, sI_same, ac]
        · rw [sI_place e]
          by_cases e2 : j = 78 + 3 * v 4 + 2
          · rw [e2, sI_same, ap]
          · rw [sI_place e2, eY]
            by_cases e3 : j = 78 + 3 * v 4 + 1
            · rw [e3, sI_same, ak]
            · rw [sI_place e3]
              by_cases e4 : j = 78 + 3 * v 4
              · rw [e4, sI_same, az]
              · rw [sI_place e4, hN3 j hj, a _ e e4 e3 e2]
      · intro srt hs q hq
        have hmn : w (mnI srt) = v (mnI srt) := by
          rcases (show srt = 0 ∨ srt = 1 ∨ srt = 2 by omega) with rfl | rfl | rfl
          · exact a 0 (by omega) (by omega) (by omega) (by omega) 
          · exact a 1 (by omega) (by omega) (by omega) (by omega) 
          · exact a 3 (by omega) (by omega) (by omega) (by omega) 
        rw [hmn, FA.row2 (c := 19) rfl, FB.row2 (c := 196) rfl]
        exact hD srt hs q hq
      · intro p s hp hs
        rw [FA.row (c := 26) rfl, a _ (by omega) (by omega) (by omega) (by omega) ]
        exact hTo p s hp hs
      · intro s p c hs hp hc
        rw [FA.row (c := 27) rfl, a 2 (by omega) (by omega) (by omega) (by omega) , skF_cg (v := w) (w := v) (v 2) (fun j hj => ⟨a _ (by omega) (by omega) (by omega) (by omega) , a _ (by omega) (by omega) (by omega) (by omega) , a _ (by omega) (by omega) (by omega) (by omega) ⟩)]
        exact hSm s p c hs hp hc
      · rw [a 1 (by omega) (by omega) (by omega) (by omega) ] at h1
        rw [a _ (by omega) (by omega) (by omega) (by omega) ]
        exact hZe p s (by omega) hp hs
  · have hl : f_X12_readWent_L59 (oo z) (oo (v 4)) 188 1000000 (oo 0) (sI T2 188 13 (oo k)) = some (.inl (false, V)) := by
      obtain ⟨j, j1, j2⟩ := hwi.mp hh
      rcases hl with ⟨j, j1, j2, j3, j4⟩ | ⟨j3, j4⟩
      · exact j4
      · exact absurd j2 (j3 j (Nat.zero_le _) j1)
    obtain ⟨Y, f1, f2, f3, f4⟩ := failT_c p3 hx (oo 3)
    refine .inl ⟨Y, V, ?_, ?_, ⟨3, xP x (i + 2), by decide, by decide, xP_le hx (by omega), f2, f3, v2, v3⟩, Fr.trans (F2.mono rfl) (f4.mono rfl), Fr.trans (FT3.mono rfl) (v4.mono rfl)⟩
    · unfold f_X3_readWent
      rw [show rf 16 0 = 1 from rfl, show rf 16 1 = 17 from rfl, show rf 17 6 = 24 from rfl]
      rw [show (2 : Int32) = oo 2 from rfl, u1, Option.bind_some]
      dsimp only
      rw [if_pos rfl]
      rw [show (1 : Int32) = oo 1 from rfl, show (60 : Int32) = oo 60 from rfl, p1, Option.bind_some]
      dsimp only
      rw [if_pos rfl]
      rw [u5, p5, show (6 : Int32) = oo 6 from rfl, oo_mul, oo_add, ewt, if_neg (by rw [show (0 : Int32) = oo 0 from rfl, oo_eq (by omega) (by decide)]; exact hh), show (3 : Int32) = oo 3 from rfl, f1]
    · unfold f_X12_readWent
      rw [show rf 188 15 = 191 from rfl, e4, if_neg n6, g1, Option.bind_some, e3]
      unfold f_X12_readOne
      rw [show rf 188 20 = 196 from rfl, show (12 : Int32) = oo 12 from rfl, u2, Option.bind_some]
      dsimp only
      rw [if_pos rfl, h1, Option.bind_some, Option.bind_some]
      dsimp only
      rw [if_pos rfl]
      rw [show (1 : Int32) = oo 1 from rfl, show (60 : Int32) = oo 60 from rfl, p2, Option.bind_some]
      dsimp only
      rw [if_pos rfl, e13, show (0 : Int32) = oo 0 from rfl]
      rw [hl, Option.bind_some]
theorem smoke_p (hx : xok x L) (hS : AtC x L i S) (hT : AtN x i T) (hiL : i < L) (hR : HRel d v S T) (hm : v 2 < 6) : LnR x L i S T (f_X3_readSmoke 16 (t_X8_step 1 S)) (f_X12_readSmoke 188 T) := by
  obtain ⟨hO, hH, hN, hD, hTo, hSm, hZe⟩ := id hR
  obtain ⟨⟨b0, b1, b2, b3, b4, b5⟩, hfa, har, hsm, hkp, hwt, hrn, hal⟩ := id hO
  obtain ⟨⟨n0, n1, n2, n3, n4, n5⟩, hfd, hai, hke, hst, hwe, hra⟩ := id hH
  obtain ⟨s1, s2⟩ := step_c hx hS hiL
  obtain ⟨T1, g1, g2, g3⟩ := goN hx hT hiL
  have FS : Fr FKC S (t_X8_step 1 S) := s2.mono rfl
  have FT : Fr FPO T T1 := g3.mono rfl
  have e4 : T.1 191 2 = oo (v 2) := hN 2 (by decide)
  have n6 : ¬ oo (v 2) = 6 := by rw [show (6 : Int32) = oo 6 from rfl, oo_eq (by omega) (by decide)]; omega
  have hN1 : IsC T1 191 144 v := hN.cell (FT.row rfl)
  have e3 := hN1 0 (by decide)
  have hp1 := told_p (h := 17) (ch := 19) (cn := 196) (srt := 0) (base := 0) (many := v 0) (d := d) hx s1 g2 rfl ln_19 ln_196 (by decide) (mnI_b hO (srt := 0) (by decide)) rfl (fun q hq => by
    have := hD.c 0 (by decide) q hq
    rw [FS.row2 (c := 19) rfl]
    exact this) (fun q hq => by
    have := hD.n hO 0 (by decide) q hq
    rw [FT.row2 (c := 196) rfl]
    exact this)
  rcases hp1 with ⟨U, V, u1, u2, u3, u4, u5⟩ | ⟨z, U, hz, hk1, hL1, hw1, u1, u2, u3, u4, u5, u6⟩
  · refine .inl ⟨U, V, ?_, ?_, u3, Fr.trans (FS.mono rfl) (u4.mono rfl), Fr.trans (FT.mono rfl) (u5.mono rfl)⟩
    · unfold f_X3_readSmoke
      rw [show rf 16 0 = 1 from rfl, show rf 16 1 = 17 from rfl, show rf 17 3 = 21 from rfl, show rf 16 2 = 26 from rfl, show rf 16 3 = 27 from rfl]
      rw [show (0 : Int32) = oo 0 from rfl, u1, Option.bind_some]
      dsimp only
      rw [if_neg (by decide)]
    · unfold f_X12_readSmoke
      rw [show rf 188 15 = 191 from rfl, show rf 188 20 = 196 from rfl, e4, if_neg n6, g1, Option.bind_some, e3]
      unfold f_X12_readOne
      rw [show rf 188 20 = 196 from rfl, show (0 : Int32) = oo 0 from rfl, u2, Option.bind_some]
      dsimp only
      rw [if_neg (by decide), Option.bind_some]
      dsimp only
      rw [if_neg (by decide)]
  obtain ⟨T2, h1, h2, h3⟩ := goN hx u4 hL1
  have F1 : Fr FKC S U := Fr.trans FS u6
  have FT2 : Fr FPO T T2 := Fr.trans FT (Fr.trans (Fr.sIp (Fr.rf [(188, 13)] _) rfl |>.mono rfl) (h3.mono rfl))
  have e13 : T2.1 188 13 = oo z := by rw [h3.get rfl, sI_same]
  have e1b : T2.1 191 1 = oo (v 1) := by rw [FT2.row (c := 191) rfl]; exact hN 1 (by decide)
  have hp2 := told_p (h := 17) (ch := 19) (cn := 196) (srt := 1) (base := 6) (many := v 1) (d := d) hx u3 h2 rfl ln_19 ln_196 (by decide) (mnI_b hO (srt := 1) (by decide)) rfl (fun q hq => by
    have := hD.c 1 (by decide) q hq
    rw [F1.row2 (c := 19) rfl]
    exact this) (fun q hq => by
    have := hD.n hO 1 (by decide) q hq
    rw [FT2.row2 (c := 196) rfl]
    exact this)
  rcases hp2 with ⟨U2, V2, p1, p2, p3, p4, p5⟩ | ⟨pa, U2, ha, hk2, hL2, hw2, p1, p2, p3, p4, p5, p6⟩
  · refine .inl ⟨U2, V2, ?_, ?_, p3, Fr.trans (F1.mono rfl) (p4.mono rfl), Fr.trans (FT2.mono rfl) (p5.mono rfl)⟩
    · unfold f_X3_readSmoke
      rw [show rf 16 0 = 1 from rfl, show rf 16 1 = 17 from rfl, show rf 17 3 = 21 from rfl, show rf 16 2 = 26 from rfl, show rf 16 3 = 27 from rfl]
      rw [show (0 : Int32) = oo 0 from rfl, u1, Option.bind_some]
      dsimp only
      rw [if_pos rfl]
      rw [show (1 : Int32) = oo 1 from rfl, p1, Option.bind_some]
      dsimp only
      rw [if_neg (by decide)]
    · unfold f_X12_readSmoke
      rw [show rf 188 15 = 191 from rfl, show rf 188 20 = 196 from rfl, e4, if_neg n6, g1, Option.bind_some, e3]
      unfold f_X12_readOne
      rw [show rf 188 20 = 196 from rfl, show (0 : Int32) = oo 0 from rfl, u2, Option.bind_some]
      dsimp only
      rw [if_pos rfl, h1, Option.bind_some, Option.bind_some]
      dsimp only
      rw [if_pos rfl, e1b]
      rw [show (6 : Int32) = oo 6 from rfl, p2, Option.bind_some]
      dsimp only
      rw [if_neg (by decide), Option.bind_some]
      dsimp only
      rw [if_neg (by decide)]
  obtain ⟨T3, j1, j2, j3⟩ := goN hx p4 hL2
  have F2 : Fr FKC S U2 := Fr.trans F1 p6
  have FT3 : Fr FPO T T3 := Fr.trans FT2 (Fr.trans (Fr.sIp (Fr.rf [(188, 13)] _) rfl |>.mono rfl) (j3.mono rfl))
  have a13 : T3.1 188 13 = oo pa := by rw [j3.get rfl, sI_same]
  have e1c : T3.1 191 1 = oo (v 1) := by rw [FT3.row (c := 191) rfl]; exact hN 1 (by decide)
  have hp3 := told_p (h := 17) (ch := 19) (cn := 196) (srt := 1) (base := 6) (many := v 1) (d := d) hx p3 j2 rfl ln_19 ln_196 (by decide) (mnI_b hO (srt := 1) (by decide)) rfl (fun q hq => by
    have := hD.c 1 (by decide) q hq
    rw [F2.row2 (c := 19) rfl]
    exact this) (fun q hq => by
    have := hD.n hO 1 (by decide) q hq
    rw [FT3.row2 (c := 196) rfl]
    exact this)
  rcases hp3 with ⟨U3, V3, q1, q2, q3, q4, q5⟩ | ⟨pb, U3, hb, hk3, hL3, hw3, q1, q2, q3, q4, q5, q6⟩
  · refine .inl ⟨U3, V3, ?_, ?_, q3, Fr.trans (F2.mono rfl) (q4.mono rfl), Fr.trans (FT3.mono rfl) (q5.mono rfl)⟩
    · unfold f_X3_readSmoke
      rw [show rf 16 0 = 1 from rfl, show rf 16 1 = 17 from rfl, show rf 17 3 = 21 from rfl, show rf 16 2 = 26 from rfl, show rf 16 3 = 27 from rfl]
      rw [show (0 : Int32) = oo 0 from rfl, u1, Option.bind_some]
      dsimp only
      rw [if_pos rfl]
      rw [show (1 : Int32) = oo 1 from rfl, p1, Option.bind_some]
      dsimp only
      rw [if_pos rfl]
      rw [q1, Option.bind_some]
      dsimp only
      rw [if_neg (by decide)]
    · unfold f_X12_readSmoke
      rw [show rf 188 15 = 191 from rfl, show rf 188 20 = 196 from rfl, e4, if_neg n6, g1, Option.bind_some, e3]
      unfold f_X12_readOne
      rw [show rf 188 20 = 196 from rfl, show (0 : Int32) = oo 0 from rfl, u2, Option.bind_some]
      dsimp only
      rw [if_pos rfl, h1, Option.bind_some, Option.bind_some]
      dsimp only
      rw [if_pos rfl, e1b]
      rw [show (6 : Int32) = oo 6 from rfl, p2, Option.bind_some]
      dsimp only
      rw [if_pos rfl, j1, Option.bind_some, Option.bind_some]
      dsimp only
      rw [if_pos rfl, e1c]
      rw [q2, Option.bind_some]
      dsimp only
      rw [if_neg (by decide)]
  have F3 : Fr FKC S U3 := Fr.trans F2 q6
  have FT4 : Fr FPO T (sI T3 188 13 (oo pb)) := Fr.sIp FT3 rfl
  have hN4 : IsC (sI T3 188 13 (oo pb)) 191 144 v := hN.cell (FT4.row rfl)
  have hz6 : z < 6 := by omega
  have ha6 : pa < 6 := by omega
  have hb6 : pb < 6 := by omega
  obtain ⟨V, v1, v2, v3, v4⟩ := bad_n hx q4 (by omega) 3
  rw [bdK_ne (by omega)] at v2
  obtain ⟨Y0, f1, f2, f3, f4⟩ := failT_c q3 hx (oo 3)
  by_cases hab : pa = pb
  · refine .inl ⟨Y0, V, ?_, ?_, ⟨3, xP x (i + 3), by decide, by decide, xP_le hx (by omega), f2, f3, v2, v3⟩, Fr.trans (F3.mono rfl) (f4.mono rfl), Fr.trans (FT4.mono rfl) (v4.mono rfl)⟩
    · unfold f_X3_readSmoke
      rw [show rf 16 0 = 1 from rfl, show rf 16 1 = 17 from rfl, show rf 17 3 = 21 from rfl, show rf 16 2 = 26 from rfl, show rf 16 3 = 27 from rfl]
      rw [show (0 : Int32) = oo 0 from rfl, u1, Option.bind_some]
      dsimp only
      rw [if_pos rfl]
      rw [show (1 : Int32) = oo 1 from rfl, p1, Option.bind_some]
      dsimp only
      rw [if_pos rfl]
      rw [q1, Option.bind_some]
      dsimp only
      rw [if_pos rfl, u5, p5, q5]
      rw [if_pos (by rw [hab]), show (3 : Int32) = oo 3 from rfl, f1]
    · unfold f_X12_readSmoke
      rw [show rf 188 15 = 191 from rfl, show rf 188 20 = 196 from rfl, e4, if_neg n6, g1, Option.bind_some, e3]
      unfold f_X12_readOne
      rw [show rf 188 20 = 196 from rfl, show (0 : Int32) = oo 0 from rfl, u2, Option.bind_some]
      dsimp only
      rw [if_pos rfl, h1, Option.bind_some, Option.bind_some]
      dsimp only
      rw [if_pos rfl, e1b]
      rw [show (6 : Int32) = oo 6 from rfl, p2, Option.bind_some]
      dsimp only
      rw [if_pos rfl, j1, Option.bind_some, Option.bind_some]
      dsimp only
      rw [if_pos rfl, e1c]
      rw [q2, Option.bind_some]
      dsimp only
      rw [if_pos rfl, e13, a13, sI_same]
      rw [if_pos (by rw [hab]), show (3 : Int32) = oo 3 from rfl, v1, Option.bind_some]
  have ewt : gat U3 27 (oo ((z * 6 + pa) * 6 + pb)) = oo (skF v z pa pb (v 2)) := by rw [g_27 (by omega), F3.row (c := 27) rfl, hSm z pa pb hz6 ha6 hb6]
  have hwi := skF_iff (v := v) (s := z) (a := pa) (c := pb) (v 2)
  have hwl := skF_le v z pa pb (v 2)
  have hl := smoke_L (z := z) (a := pa) (b := pb) hO hN4 hz6 ha6 hb6 v1 (v 2) 0 1000000 (by omega) (by omega)
  by_cases hh : skF v z pa pb (v 2) = 0
  · have hl : f_X12_readSmoke_L108 (oo pb) (oo pa) (oo z) (oo (v 2)) 188 1000000 (oo 0) (sI T3 188 13 (oo pb)) = some (.inr (sI T3 188 13 (oo pb))) := by
      rcases hl with ⟨j, j1, j2, j3, j4⟩ | ⟨j1, j2⟩
      · exact absurd hh (hwi.mpr ⟨j, j2, j3⟩)
      · exact j2
    have hair := airN_le hO (p := pb) (s := z) hb6 hz6
    have htl := (har pa z ha6 hz6).1
    have eair : gat (sI U3 27 ((z * 6 + pa) * 6 + pb) (oo 1)) 21 (oo (pb * 6 + z)) = oo (airN v pb z) := by rw [g_21 (by omega), sI_cell (by decide), F3.row (c := 21) rfl, hai pb z hb6 hz6]
    have etold : gat (sI U3 27 ((z * 6 + pa) * 6 + pb) (oo 1)) 26 (oo (pa * 6 + z)) = oo (v (12 + 6 * pa + z)) := by rw [g_26 (by omega), sI_cell (by decide), F3.row (c := 26) rfl, hTo pa z ha6 hz6]
    have e18 : gat (sI (sI U3 27 ((z * 6 + pa) * 6 + pb) (oo 1)) 21 (pb * 6 + z) (oo (airN v pb z + v (12 + 6 * pa + z) / 2))) 18 (oo 3) = oo (v 2) := by rw [g_18 (by decide), sI_cell (by decide), sI_cell (by decide), F3.row (c := 18) rfl, n3]
    refine .inr ?_
    obtain ⟨w, a, ac, az, aa, ab⟩ : ∃ w : Nat → Nat, (∀ j, j ≠ 2 → j ≠ 48 + 3 * v 2 → j ≠ 48 + 3 * v 2 + 1 → j ≠ 48 + 3 * v 2 + 2 → w j = v j) ∧ w 2 = v 2 + 1 ∧ w (48 + 3 * v 2) = z ∧ w (48 + 3 * v 2 + 1) = pa ∧ w (48 + 3 * v 2 + 2) = pb := ⟨upN (upN (upN (upN v (48 + 3 * v 2) z) (48 + 3 * v 2 + 1) pa) (48 + 3 * v 2 + 2) pb) 2 (v 2 + 1), fun j h1 h2 h3 h4 => by rw [upN_ne h1, upN_ne h4, upN_ne h3, upN_ne h2], upN_same _ _ _, by rw [upN_ne (by omega), upN_ne (by omega), upN_ne (by omega), upN_same], by rw [upN_ne (by omega), upN_ne (by omega), upN_same], by rw [upN_ne (by omega), upN_same]⟩
    have FU : Fr [(27, 9999), (21, 9999), (18, 9999)] U3 (sI (sI (sI U3 27 ((z * 6 + pa) * 6 + pb) (oo 1)) 21 (pb * 6 + z) (oo (airN v pb z + v (12 + 6 * pa + z) / 2))) 18 3 (oo (v 2 + 1))) := Fr.sIr (Fr.sIr (Fr.sIr (Fr.rf _ _) rfl) rfl) rfl
    have FA : Fr [(1, 9), (1, 10), (1, 11), (27, 9999), (21, 9999), (18, 9999)] S (sI (sI (sI U3 27 ((z * 6 + pa) * 6 + pb) (oo 1)) 21 (pb * 6 + z) (oo (airN v pb z + v (12 + 6 * pa + z) / 2))) 18 3 (oo (v 2 + 1))) := Fr.trans (F3.mono rfl) (FU.mono rfl)
    have FW : Fr [(191, 9999)] (sI T3 188 13 (oo pb)) (sI (sI (sI (sI (sI T3 188 13 (oo pb)) 191 (48 + 3 * v 2) (oo z)) 191 (48 + 3 * v 2 + 1) (oo pa)) 191 (48 + 3 * v 2 + 2) (oo pb)) 191 2 (oo (v 2 + 1))) := Fr.sIr (Fr.sIr (Fr.sIr (Fr.sIr (Fr.rf _ _) rfl) rfl) rfl) rfl
    obtain ⟨Y, y1, y2, y3⟩ := goN hx (q4.fr FW rfl) hL3
    have FB : Fr [(188, 5), (188, 6), (188, 7), (188, 8), (188, 9), (188, 12), (188, 13), (191, 9999)] T Y := Fr.trans (FT4.mono rfl) (Fr.trans (FW.mono rfl) (y3.mono rfl))
    have m18 : ∀ c, c < 6 → (sI (sI (sI U3 27 ((z * 6 + pa) * 6 + pb) (oo 1)) 21 (pb * 6 + z) (oo (airN v pb z + v (12 + 6 * pa + z) / 2))) 18 3 (oo (v 2 + 1))).1 18 c = if c = 3 then oo (v 2 + 1) else S.1 18 c := fun c hc => by
      by_cases e : c = 3
      · rw [if_pos e, e, sI_same]
      · rw [if_neg e, sI_place e, sI_cell (by decide), sI_cell (by decide), F3.row (c := 18) rfl]
    have hOw : HOK w := ⟨⟨by rw [a 0 (by omega) (by omega) (by omega) (by omega) ]; omega, by rw [a 1 (by omega) (by omega) (by omega) (by omega) ]; omega, by rw [ac]; omega, by rw [a 3 (by omega) (by omega) (by omega) (by omega) ]; omega, by rw [a 4 (by omega) (by omega) (by omega) (by omega) ]; omega, by rw [a 5 (by omega) (by omega) (by omega) (by omega) ]; omega⟩,
        fun s hs => by rw [a _ (by omega) (by omega) (by omega) (by omega) , a 0 (by omega) (by omega) (by omega) (by omega) ]; exact hfa s hs,
        fun p s hp hs => by rw [a _ (by omega) (by omega) (by omega) (by omega) , a 0 (by omega) (by omega) (by omega) (by omega) ]; exact har p s hp hs,
        fun j hj => by
            rw [ac] at hj
            by_cases e : j = v 2
            · rw [e, az, aa, ab, a 0 (by omega) (by omega) (by omega) (by omega), a 1 (by omega) (by omega) (by omega) (by omega)]; omega
            · have := hsm j (by omega)
              rw [a (48 + 3 * j) (by omega) (by omega) (by omega) (by omega), a (48 + 3 * j + 1) (by omega) (by omega) (by omega) (by omega), a (48 + 3 * j + 2) (by omega) (by omega) (by omega) (by omega), a 0 (by omega) (by omega) (by omega) (by omega), a 1 (by omega) (by omega) (by omega) (by omega)]; omega,
        fun k hk => by
          rw [a 3 (by omega) (by omega) (by omega) (by omega) ] at hk
          have := hkp k hk
          rw [a (66 + k) (by omega) (by omega) (by omega) (by omega) , a (72 + k) (by omega) (by omega) (by omega) (by omega) , a 1 (by omega) (by omega) (by omega) (by omega) ]
          omega,
        fun k hk => by
          rw [a 4 (by omega) (by omega) (by omega) (by omega) ] at hk
          have := hwt k hk
          rw [a (78 + 3 * k) (by omega) (by omega) (by omega) (by omega) , a (78 + 3 * k + 1) (by omega) (by omega) (by omega) (by omega) , a (78 + 3 * k + 2) (by omega) (by omega) (by omega) (by omega) , a 3 (by omega) (by omega) (by omega) (by omega) , a 1 (by omega) (by omega) (by omega) (by omega) ]
          omega,
        fun k hk => by
          rw [a 5 (by omega) (by omega) (by omega) (by omega) ] at hk
          have := hrn k hk
          rw [a (138 + k) (by omega) (by omega) (by omega) (by omega) ]
          omega,
        fun j hj => by
            by_cases e : j = 2
            · rw [e, ac]; omega
            · by_cases e2 : j = 48 + 3 * v 2
              · rw [e2, az]; omega
              · by_cases e3 : j = 48 + 3 * v 2 + 1
                · rw [e3, aa]; omega
                · by_cases e4 : j = 48 + 3 * v 2 + 2
                  · rw [e4, ab]; omega
                  · rw [a _ e e2 e3 e4]; exact hal j hj⟩
    have eA : ∀ p y, p < 6 → y < 6 → airN w p y = airN v p y + (if z = y ∧ pb = p then v (12 + 6 * pa + y) / 2 else 0) := fun p y hp hy => by
      unfold airN
      rw [ac, smkN_snoc, Nat.zero_add, az, aa, ab, a (12 + 6 * p + y) (by omega) (by omega) (by omega) (by omega), a (12 + 6 * pa + y) (by omega) (by omega) (by omega) (by omega), smkN_cg (v := w) (w := v) hy (v 2) 0 (by omega) (fun j c1 c2 => by
        have := hsm j (by omega)
        rw [a (48 + 3 * j) (by omega) (by omega) (by omega) (by omega), a (48 + 3 * j + 1) (by omega) (by omega) (by omega) (by omega), a (48 + 3 * j + 2) (by omega) (by omega) (by omega) (by omega), a (12 + 6 * v (48 + 3 * j + 1) + y) (by omega) (by omega) (by omega) (by omega)]
        exact ⟨rfl, rfl, rfl, rfl⟩)]
      exact (Nat.add_assoc _ _ _).symm
    refine ⟨sI (sI (sI U3 27 ((z * 6 + pa) * 6 + pb) (oo 1)) 21 (pb * 6 + z) (oo (airN v pb z + v (12 + 6 * pa + z) / 2))) 18 3 (oo (v 2 + 1)), Y, i + 4, d, w, by omega, ?_, ?_, q3.fr FU rfl, y2, ?_, FA.mono rfl, FB.mono rfl⟩
    · unfold f_X3_readSmoke
      rw [show rf 16 0 = 1 from rfl, show rf 16 1 = 17 from rfl, show rf 17 3 = 21 from rfl, show rf 16 2 = 26 from rfl, show rf 16 3 = 27 from rfl]
      rw [show (0 : Int32) = oo 0 from rfl, u1, Option.bind_some]
      dsimp only
      rw [if_pos rfl]
      rw [show (1 : Int32) = oo 1 from rfl, p1, Option.bind_some]
      dsimp only
      rw [if_pos rfl]
      rw [q1, Option.bind_some]
      dsimp only
      rw [if_pos rfl, u5, p5, q5]
      rw [if_neg (by rw [oo_eq (by omega) (by omega)]; exact hab), show (6 : Int32) = oo 6 from rfl, oo_mul, oo_add, oo_mul, oo_add, ewt]
      rw [hh, if_pos rfl, p_27 (by omega), oo_mul, oo_add, oo_mul, oo_add, eair, etold, show (2 : Int32) = oo 2 from rfl, oo_div (by omega) (by decide), oo_add, p_21 (by omega)]
      unfold t_X3_addLine
      rw [show rf (rf 16 1) 0 = 18 from rfl, show (3 : Int32) = oo 3 from rfl, show (1 : Int32) = oo 1 from rfl, e18, oo_add, p_18 (by decide)]
    · unfold f_X12_readSmoke
      rw [show rf 188 15 = 191 from rfl, show rf 188 20 = 196 from rfl, e4, if_neg n6, g1, Option.bind_some, e3]
      unfold f_X12_readOne
      rw [show rf 188 20 = 196 from rfl, show (0 : Int32) = oo 0 from rfl, u2, Option.bind_some]
      dsimp only
      rw [if_pos rfl, h1, Option.bind_some, Option.bind_some]
      dsimp only
      rw [if_pos rfl, e1b]
      rw [show (6 : Int32) = oo 6 from rfl, p2, Option.bind_some]
      dsimp only
      rw [if_pos rfl, j1, Option.bind_some, Option.bind_some]
      dsimp only
      rw [if_pos rfl, e1c]
      rw [q2, Option.bind_some]
      dsimp only
      rw [if_pos rfl, e13, a13, sI_same]
      rw [if_neg (by rw [oo_eq (by omega) (by omega)]; exact hab)]
      rw [hl, Option.bind_some]
      dsimp only
      rw [show (48 : Int32) = oo 48 from rfl, show (3 : Int32) = oo 3 from rfl, oo_mul, oo_add, show (1 : Int32) = oo 1 from rfl, show (2 : Int32) = oo 2 from rfl, oo_add, oo_add, if_neg (by rw [ln_191]; exact oo_inb (by omega) (by omega)), if_neg (by rw [ln_191]; exact oo_inb (by omega) (by omega)), if_neg (by rw [ln_191]; exact oo_inb (by omega) (by omega)), oo_nat (by omega), oo_nat (by omega), oo_nat (by omega), sI_place (by omega), sI_place (by omega), sI_place (by omega), hN4 2 (by decide), oo_add, y1, Option.bind_some]
    · refine ⟨hOw, ⟨⟨?_, ?_, ?_, ?_, ?_, ?_⟩, ?_, ?_, ?_, ?_, ?_, ?_⟩, ?_, ?_, ?_, ?_, fun p s h1 hp hs => ?_⟩
      · rw [m18 0 (by decide), if_neg (by decide), a 0 (by omega) (by omega) (by omega) (by omega) ]; exact n0
      · rw [m18 1 (by decide), if_neg (by decide), a 1 (by omega) (by omega) (by omega) (by omega) ]; exact n1
      · rw [m18 2 (by decide), if_neg (by decide), a 3 (by omega) (by omega) (by omega) (by omega) ]; exact n2
      · rw [m18 3 (by decide), if_pos rfl, ac]
      · rw [m18 4 (by decide), if_neg (by decide), a 4 (by omega) (by omega) (by omega) (by omega) ]; exact n4
      · rw [m18 5 (by decide), if_neg (by decide), a 5 (by omega) (by omega) (by omega) (by omega) ]; exact n5
      · intro s hs
        rw [FA.row (c := 20) rfl, a _ (by omega) (by omega) (by omega) (by omega) ]
        exact hfd s hs
      · intro p y hp hy
        rw [eA p y hp hy, sI_cell (by decide)]
        by_cases e : z = y ∧ pb = p
        · rw [if_pos e, ← e.1, ← e.2, sI_same]
        · rw [if_neg e, sI_place (by omega), sI_cell (by decide), F3.row (c := 21) rfl]
          exact hai p y hp hy
      · intro s hs
        rw [FA.row (c := 22) rfl, a _ (by omega) (by omega) (by omega) (by omega) ]
        exact hke s hs
      · intro s hs
        rw [FA.row (c := 23) rfl, a _ (by omega) (by omega) (by omega) (by omega) ]
        exact hst s hs
      · intro t z ht hz
        rw [FA.row (c := 24) rfl, a 4 (by omega) (by omega) (by omega) (by omega) , wtN_cg (v := w) (w := v) (v 4) (fun j hj => ⟨a _ (by omega) (by omega) (by omega) (by omega) , a _ (by omega) (by omega) (by omega) (by omega) , a _ (by omega) (by omega) (by omega) (by omega) ⟩)]
        exact hwe t z ht hz
      · intro t ht
        rw [FA.row (c := 25) rfl, a 5 (by omega) (by omega) (by omega) (by omega) , rnN_cg (v := w) (w := v) (v 5) (fun j hj => a _ (by omega) (by omega) (by omega) (by omega) )]
        exact hra t ht
      · intro j hj
        rw [y3.row (c := 191) rfl]
        by_cases e : j = 2
        · rw [e, sI_same, ac]
        · rw [sI_place e]
          by_cases e2 : j = 48 + 3 * v 2 + 2
          · rw [e2, sI_same, ab]
          · rw [sI_place e2]
            by_cases e3 : j = 48 + 3 * v 2 + 1
            · rw [e3, sI_same, aa]
            · rw [sI_place e3]
              by_cases e4 : j = 48 + 3 * v 2
              · rw [e4, sI_same, az]
              · rw [sI_place e4, hN4 j hj, a _ e e4 e3 e2]
      · intro srt hs q hq
        have hmn : w (mnI srt) = v (mnI srt) := by
          rcases (show srt = 0 ∨ srt = 1 ∨ srt = 2 by omega) with rfl | rfl | rfl
          · exact a 0 (by omega) (by omega) (by omega) (by omega) 
          · exact a 1 (by omega) (by omega) (by omega) (by omega) 
          · exact a 3 (by omega) (by omega) (by omega) (by omega) 
        rw [hmn, FA.row2 (c := 19) rfl, FB.row2 (c := 196) rfl]
        exact hD srt hs q hq
      · intro p s hp hs
        rw [FA.row (c := 26) rfl, a _ (by omega) (by omega) (by omega) (by omega) ]
        exact hTo p s hp hs
      · intro y p c hy hp hc
        rw [ac, skF, az, aa, ab, skF_cg (v := w) (w := v) (v 2) (fun j hj => ⟨a _ (by omega) (by omega) (by omega) (by omega), a _ (by omega) (by omega) (by omega) (by omega), a _ (by omega) (by omega) (by omega) (by omega)⟩), sI_cell (by decide), sI_cell (by decide)]
        by_cases e : z = y ∧ pa = p ∧ pb = c
        · rw [if_pos e, ← e.1, ← e.2.1, ← e.2.2, sI_same]
        · rw [if_neg e, sI_place (by omega), F3.row (c := 27) rfl]
          exact hSm y p c hy hp hc
      · rw [a 1 (by omega) (by omega) (by omega) (by omega) ] at h1
        rw [a _ (by omega) (by omega) (by omega) (by omega) ]
        exact hZe p s (by omega) hp hs
  · have hl : f_X12_readSmoke_L108 (oo pb) (oo pa) (oo z) (oo (v 2)) 188 1000000 (oo 0) (sI T3 188 13 (oo pb)) = some (.inl (false, V)) := by
      obtain ⟨j, j1, j2⟩ := hwi.mp hh
      rcases hl with ⟨j, j1, j2, j3, j4⟩ | ⟨j3, j4⟩
      · exact j4
      · exact absurd j2 (j3 j (Nat.zero_le _) j1)
    refine .inl ⟨Y0, V, ?_, ?_, ⟨3, xP x (i + 3), by decide, by decide, xP_le hx (by omega), f2, f3, v2, v3⟩, Fr.trans (F3.mono rfl) (f4.mono rfl), Fr.trans (FT4.mono rfl) (v4.mono rfl)⟩
    · unfold f_X3_readSmoke
      rw [show rf 16 0 = 1 from rfl, show rf 16 1 = 17 from rfl, show rf 17 3 = 21 from rfl, show rf 16 2 = 26 from rfl, show rf 16 3 = 27 from rfl]
      rw [show (0 : Int32) = oo 0 from rfl, u1, Option.bind_some]
      dsimp only
      rw [if_pos rfl]
      rw [show (1 : Int32) = oo 1 from rfl, p1, Option.bind_some]
      dsimp only
      rw [if_pos rfl]
      rw [q1, Option.bind_some]
      dsimp only
      rw [if_pos rfl, u5, p5, q5]
      rw [if_neg (by rw [oo_eq (by omega) (by omega)]; exact hab), show (6 : Int32) = oo 6 from rfl, oo_mul, oo_add, oo_mul, oo_add, ewt]
      rw [if_neg (by rw [oo_eq (by omega) (by decide)]; exact hh), show (3 : Int32) = oo 3 from rfl, f1]
    · unfold f_X12_readSmoke
      rw [show rf 188 15 = 191 from rfl, show rf 188 20 = 196 from rfl, e4, if_neg n6, g1, Option.bind_some, e3]
      unfold f_X12_readOne
      rw [show rf 188 20 = 196 from rfl, show (0 : Int32) = oo 0 from rfl, u2, Option.bind_some]
      dsimp only
      rw [if_pos rfl, h1, Option.bind_some, Option.bind_some]
      dsimp only
      rw [if_pos rfl, e1b]
      rw [show (6 : Int32) = oo 6 from rfl, p2, Option.bind_some]
      dsimp only
      rw [if_pos rfl, j1, Option.bind_some, Option.bind_some]
      dsimp only
      rw [if_pos rfl, e1c]
      rw [q2, Option.bind_some]
      dsimp only
      rw [if_pos rfl, e13, a13, sI_same]
      rw [if_neg (by rw [oo_eq (by omega) (by omega)]; exact hab)]
      rw [hl, Option.bind_some]
end LNS
