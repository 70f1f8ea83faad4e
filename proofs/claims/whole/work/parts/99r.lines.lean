/-! the lines of a HILL -/
def LnR (x : TX) (L i : Nat) (S T : XS) (c r : Option (Bool × XS)) : Prop := (∃ U V, c = some (false, U) ∧ r = some (false, V) ∧ Bad U V ∧ Fr FHC S U ∧ Fr FHN T V) ∨ (∃ U V j d' v', i + 2 ≤ j ∧ c = some (true, U) ∧ r = some (true, V) ∧ AtC x L j U ∧ AtN x j V ∧ HRel d' v' U V ∧ Fr FHD S U ∧ Fr FHO T V)
section LNS
variable {x : TX} {L i : Nat} {S T : XS} {d : Nat → List Nat} {v : Nat → Nat}
theorem rains_L {k : Nat} {V : XS} (hO : HOK v) (hN : IsC T 191 144 v) (hk : k ≤ 60) (h13 : T.1 188 13 = oo k) (hb : f_X12_bad 188 (oo 3) T = some (false, V)) : ∀ m q f, q + m = v 5 → m < f → (∃ j, q ≤ j ∧ j < v 5 ∧ v (138 + j) = k ∧ f_X12_readRain_L37 (oo (v 5)) 188 f (oo q) T = some (.inl (false, V))) ∨ ((∀ j, q ≤ j → j < v 5 → v (138 + j) ≠ k) ∧ f_X12_readRain_L37 (oo (v 5)) 188 f (oo q) T = some (.inr T)) := by
  obtain ⟨⟨b0, b1, b2, b3, b4, b5⟩, hfa, har, hsm, hkp, hwt, hrn, hal⟩ := id hO
  intro m
  induction m with
  | zero =>
    intro q f hq hf
    obtain ⟨f, rfl⟩ : ∃ f', f = f' + 1 := ⟨f - 1, by omega⟩
    exact .inr ⟨fun j j1 j2 => by omega, by rw [f_X12_readRain_L37, if_pos (by rw [oo_le (by omega) (by omega)]; omega)]⟩
  | succ m ih =>
    intro q f hq hf
    obtain ⟨f, rfl⟩ : ∃ f', f = f' + 1 := ⟨f - 1, by omega⟩
    have := hal (138 + q) (by omega)
    rw [f_X12_readRain_L37, if_neg (by rw [oo_le (by omega) (by omega)]; omega), show rf 188 15 = 191 from rfl, show (138 : Int32) = oo 138 from rfl, oo_add, if_neg (by rw [ln_191]; exact oo_inb (by omega) (by omega)), oo_nat (by omega), hN _ (by omega), h13, ieq (by omega) (by omega), show (3 : Int32) = oo 3 from rfl, hb, Option.bind_some, show (1 : Int32) = oo 1 from rfl, oo_add]
    by_cases e : v (138 + q) = k
    · exact .inl ⟨q, Nat.le_refl _, by omega, e, by rw [if_pos e]⟩
    · rw [if_neg e]
      rcases ih (q + 1) f (by omega) (by omega) with ⟨j, j1, j2, j3, j4⟩ | ⟨j1, j2⟩
      · exact .inl ⟨j, by omega, j2, j3, j4⟩
      · refine .inr ⟨fun j a1 a2 => ?_, j2⟩
        rcases Nat.lt_or_ge q j with z | z
        · exact j1 j z a2
        · obtain rfl : j = q := by omega
          exact e
theorem rain_p (hx : xok x L) (hS : AtC x L i S) (hT : AtN x i T) (hiL : i < L) (hR : HRel d v S T) (hm : v 5 < 6) : LnR x L i S T (f_X3_readRain 16 (t_X8_step 1 S)) (f_X12_readRain 188 T) := by
  obtain ⟨hO, hH, hN, hD, hTo, hSm, hZe⟩ := id hR
  obtain ⟨⟨b0, b1, b2, b3, b4, b5⟩, hfa, har, hsm, hkp, hwt, hrn, hal⟩ := id hO
  obtain ⟨⟨n0, n1, n2, n3, n4, n5⟩, hfd, hai, hke, hst, hwe, hra⟩ := id hH
  obtain ⟨s1, s2⟩ := step_c hx hS hiL
  obtain ⟨T1, g1, g2, g3⟩ := goN hx hT hiL
  have FS : Fr FKC S (t_X8_step 1 S) := s2.mono rfl
  have FT : Fr FPO T T1 := g3.mono rfl
  have e5 : T.1 191 5 = oo (v 5) := hN 5 (by decide)
  have n6 : ¬ oo (v 5) = 6 := by rw [show (6 : Int32) = oo 6 from rfl, oo_eq (by omega) (by decide)]; omega
  rcases num_p (lo := 1) (hi := 60) hx s1 g2 (by decide) (by decide) with ⟨U, V, u1, u2, u3, u4, u5⟩ | ⟨k, U, k1, k2, k3, hL1, u1, u2, u3, u4, u5, u6⟩
  · refine .inl ⟨U, V, ?_, ?_, u3, Fr.trans (FS.mono rfl) (u4.mono rfl), Fr.trans (FT.mono rfl) (u5.mono rfl)⟩
    · unfold f_X3_readRain
      rw [show rf 16 0 = 1 from rfl, show (1 : Int32) = oo 1 from rfl, show (60 : Int32) = oo 60 from rfl, u1, Option.bind_some]
      dsimp only
      rw [if_neg (by decide)]
    · unfold f_X12_readRain
      rw [show rf 188 15 = 191 from rfl, e5, if_neg n6, g1, Option.bind_some, show (1 : Int32) = oo 1 from rfl, show (60 : Int32) = oo 60 from rfl, u2, Option.bind_some]
      dsimp only
      rw [if_neg (by decide)]
  have F2 : Fr FKC S U := Fr.trans FS u6
  have FT2 : Fr FPO T (sI T1 188 13 (oo k)) := Fr.sIp FT rfl
  have hN2 : IsC (sI T1 188 13 (oo k)) 191 144 v := hN.cell (FT2.row rfl)
  have hrt : gat U 25 (oo k) = oo (rnN v k (v 5)) := by rw [g_25 (by omega), F2.row (c := 25) rfl, hra k k2]
  have hri := rnN_iff (v := v) (t := k) (v 5)
  have hrl := rnN_le v k (v 5)
  obtain ⟨V, v1, v2, v3, v4⟩ := bad_n hx u4 (by omega) 3
  rw [bdK_ne (by omega)] at v2
  have hl := rains_L (k := k) hO hN2 k2 (sI_same _ _ _ _) v1 (v 5) 0 1000000 (by omega) (by omega)
  by_cases hh : rnN v k (v 5) = 0
  · have hl : f_X12_readRain_L37 (oo (v 5)) 188 1000000 (oo 0) (sI T1 188 13 (oo k)) = some (.inr (sI T1 188 13 (oo k))) := by
      rcases hl with ⟨j, j1, j2, j3, j4⟩ | ⟨j1, j2⟩
      · exact absurd hh (hri.mpr ⟨j, j2, j3⟩)
      · exact j2
    refine .inr ?_
    obtain ⟨w, a, ac, ak⟩ : ∃ w : Nat → Nat, (∀ j, j ≠ 5 → j ≠ 138 + v 5 → w j = v j) ∧ w 5 = v 5 + 1 ∧ w (138 + v 5) = k := ⟨upN (upN v (138 + v 5) k) 5 (v 5 + 1), fun j h1 h2 => by rw [upN_ne h1, upN_ne h2], upN_same _ _ _, by rw [upN_ne (by omega), upN_same]⟩
    have FU : Fr [(25, 9999), (18, 9999)] U (sI (sI U 25 k (oo 1)) 18 5 (oo (v 5 + 1))) := Fr.sIr (Fr.sIr (Fr.rf _ _) rfl) rfl
    have FV : Fr [(191, 9999)] (sI T1 188 13 (oo k)) (sI (sI (sI T1 188 13 (oo k)) 191 (138 + v 5) (oo k)) 191 5 (oo (v 5 + 1))) := Fr.sIr (Fr.sIr (Fr.rf _ _) rfl) rfl
    obtain ⟨Z, z1, z2, z3⟩ := goN hx (u4.fr FV rfl) hL1
    have FZ : Fr FPO (sI (sI (sI T1 188 13 (oo k)) 191 (138 + v 5) (oo k)) 191 5 (oo (v 5 + 1))) Z := z3.mono rfl
    have e18 : gat (sI U 25 k (oo 1)) 18 (oo 5) = oo (v 5) := by rw [g_18 (by decide), sI_cell (by decide), F2.row (c := 18) rfl, n5]
    have hOw : HOK w := ⟨⟨by rw [a 0 (by omega) (by omega) ]; omega, by rw [a 1 (by omega) (by omega) ]; omega, by rw [a 2 (by omega) (by omega) ]; omega, by rw [a 3 (by omega) (by omega) ]; omega, by rw [a 4 (by omega) (by omega) ]; omega, by rw [ac]; omega⟩,
    fun s hs => by rw [a _ (by omega) (by omega) , a 0 (by omega) (by omega) ]; exact hfa s hs,
    fun p s hp hs => by rw [a _ (by omega) (by omega) , a 0 (by omega) (by omega) ]; exact har p s hp hs,
    fun k hk => by
      rw [a 2 (by omega) (by omega) ] at hk
      have := hsm k hk
      rw [a (48 + 3 * k) (by omega) (by omega) , a (48 + 3 * k + 1) (by omega) (by omega) , a (48 + 3 * k + 2) (by omega) (by omega) , a 0 (by omega) (by omega) , a 1 (by omega) (by omega) ]
      omega,
    fun k hk => by
      rw [a 3 (by omega) (by omega) ] at hk
      have := hkp k hk
      rw [a (66 + k) (by omega) (by omega) , a (72 + k) (by omega) (by omega) , a 1 (by omega) (by omega) ]
      omega,
    fun k hk => by
      rw [a 4 (by omega) (by omega) ] at hk
      have := hwt k hk
      rw [a (78 + 3 * k) (by omega) (by omega) , a (78 + 3 * k + 1) (by omega) (by omega) , a (78 + 3 * k + 2) (by omega) (by omega) , a 3 (by omega) (by omega) , a 1 (by omega) (by omega) ]
      omega,
    fun j hj => by
      rw [ac] at hj
      by_cases e : j = v 5
      · rw [e, ak]; omega
      · rw [a _ (by omega) (by omega)]; exact hrn j (by omega),
    fun j hj => by
      by_cases e : j = 5
      · rw [e, ac]; omega
      · by_cases e2 : j = 138 + v 5
        · rw [e2, ak]; omega
        · rw [a _ e e2]; exact hal j hj⟩
    have hw18 : ∀ c, c < 6 → (sI (sI U 25 k (oo 1)) 18 5 (oo (v 5 + 1))).1 18 c = if c = 5 then oo (v 5 + 1) else S.1 18 c := fun c hc => by
      by_cases e : c = 5
      · rw [if_pos e, e, sI_same]
      · rw [if_neg e, sI_place e, sI_cell (by decide), F2.row (c := 18) rfl]
    refine ⟨sI (sI U 25 k (oo 1)) 18 5 (oo (v 5 + 1)), Z, i + 2, d, w, by omega, ?_, ?_, u3.fr FU rfl, z2, ?_, Fr.trans (F2.mono rfl) (FU.mono rfl), Fr.trans (FT2.mono rfl) (Fr.trans (FV.mono rfl) (FZ.mono rfl))⟩
    · unfold f_X3_readRain
      rw [show rf 16 0 = 1 from rfl, show (1 : Int32) = oo 1 from rfl, show (60 : Int32) = oo 60 from rfl, u1, Option.bind_some]
      dsimp only
      rw [if_pos rfl, show rf (rf 16 1) 7 = 25 from rfl, u5, hrt, hh, if_pos (show oo 0 = (0 : Int32) from rfl), p_25 (by omega)]
      unfold t_X3_addLine
      rw [show rf (rf 16 1) 0 = 18 from rfl, show (5 : Int32) = oo 5 from rfl, show (1 : Int32) = oo 1 from rfl, e18, oo_add, p_18 (by decide)]
    · unfold f_X12_readRain
      rw [show rf 188 15 = 191 from rfl, e5, if_neg n6, g1, Option.bind_some, show (1 : Int32) = oo 1 from rfl, show (60 : Int32) = oo 60 from rfl, u2, Option.bind_some]
      dsimp only
      rw [if_pos rfl, show (0 : Int32) = oo 0 from rfl, hl, Option.bind_some]
      dsimp only
      rw [show (138 : Int32) = oo 138 from rfl, oo_add, if_neg (by rw [ln_191]; exact oo_inb (by omega) (by omega)), oo_nat (by omega), sI_same, sI_place (by omega), hN2 5 (by decide), oo_add, z1, Option.bind_some]
    · refine HRel.fr (S := sI (sI U 25 k (oo 1)) 18 5 (oo (v 5 + 1))) (T := sI (sI (sI T1 188 13 (oo k)) 191 (138 + v 5) (oo k)) 191 5 (oo (v 5 + 1))) ?_ (Fr.rf [] _) FZ rfl rfl
      refine ⟨hOw, ⟨⟨?_, ?_, ?_, ?_, ?_, ?_⟩, ?_, ?_, ?_, ?_, ?_, ?_⟩, ?_, ?_, ?_, ?_, fun p s h1 hp hs => ?_⟩
      · rw [hw18 0 (by decide), if_neg (by decide), a 0 (by omega) (by omega)]; exact n0
      · rw [hw18 1 (by decide), if_neg (by decide), a 1 (by omega) (by omega)]; exact n1
      · rw [hw18 2 (by decide), if_neg (by decide), a 3 (by omega) (by omega)]; exact n2
      · rw [hw18 3 (by decide), if_neg (by decide), a 2 (by omega) (by omega)]; exact n3
      · rw [hw18 4 (by decide), if_neg (by decide), a 4 (by omega) (by omega)]; exact n4
      · rw [hw18 5 (by decide), if_pos rfl, ac]
      · intro s hs
        rw [FU.row (c := 20) rfl, F2.row (c := 20) rfl, a _ (by omega) (by omega)]
        exact hfd s hs
      · intro p s hp hs
        rw [FU.row (c := 21) rfl, F2.row (c := 21) rfl, airN_cg hO (a 2 (by omega) (by omega)) (fun j j1 j2 => a j (by omega) (by omega)) hp hs]
        exact hai p s hp hs
      · intro s hs
        rw [FU.row (c := 22) rfl, F2.row (c := 22) rfl, a _ (by omega) (by omega)]
        exact hke s hs
      · intro s hs
        rw [FU.row (c := 23) rfl, F2.row (c := 23) rfl, a _ (by omega) (by omega)]
        exact hst s hs
      · intro t z ht hz
        rw [FU.row (c := 24) rfl, F2.row (c := 24) rfl, a 4 (by omega) (by omega), wtN_cg (v := w) (w := v) (v 4) (fun j hj => ⟨a _ (by omega) (by omega), a _ (by omega) (by omega), a _ (by omega) (by omega)⟩)]
        exact hwe t z ht hz
      · intro t ht
        rw [ac, rnN, ak, rnN_cg (v := w) (w := v) (v 5) (fun j hj => a _ (by omega) (by omega)), sI_cell (by decide)]
        by_cases e : t = k
        · rw [e, if_pos rfl, sI_same]
        · rw [if_neg (fun q => e q.symm), sI_place e, F2.row (c := 25) rfl]
          exact hra t ht
      · intro j hj
        by_cases e : j = 5
        · rw [e, sI_same, ac]
        · rw [sI_place e]
          by_cases e2 : j = 138 + v 5
          · rw [e2, sI_same, ak]
          · rw [sI_place e2, hN2 j hj, a _ e e2]
      · intro srt hs q hq
        have hmn : w (mnI srt) = v (mnI srt) := by
          rcases (show srt = 0 ∨ srt = 1 ∨ srt = 2 by omega) with rfl | rfl | rfl
          · exact a 0 (by omega) (by omega)
          · exact a 1 (by omega) (by omega)
          · exact a 3 (by omega) (by omega)
        rw [hmn, FU.row2 (c := 19) rfl, F2.row2 (c := 19) rfl, FV.row2 (c := 196) rfl, FT2.row2 (c := 196) rfl]
        exact hD srt hs q hq
      · intro p s hp hs
        rw [FU.row (c := 26) rfl, F2.row (c := 26) rfl, a _ (by omega) (by omega)]
        exact hTo p s hp hs
      · intro s p c hs hp hc
        rw [FU.row (c := 27) rfl, F2.row (c := 27) rfl, a 2 (by omega) (by omega), skF_cg (v := w) (w := v) (v 2) (fun j hj => ⟨a _ (by omega) (by omega), a _ (by omega) (by omega), a _ (by omega) (by omega)⟩)]
        exact hSm s p c hs hp hc
      · rw [a 1 (by omega) (by omega)] at h1
        rw [a _ (by omega) (by omega)]
        exact hZe p s (by omega) hp hs
  · have hl : f_X12_readRain_L37 (oo (v 5)) 188 1000000 (oo 0) (sI T1 188 13 (oo k)) = some (.inl (false, V)) := by
      obtain ⟨j, j1, j2⟩ := hri.mp hh
      rcases hl with ⟨j, j1, j2, j3, j4⟩ | ⟨j3, j4⟩
      · exact j4
      · exact absurd j2 (j3 j (Nat.zero_le _) j1)
    obtain ⟨Y, f1, f2, f3, f4⟩ := failT_c u3 hx (oo 3)
    refine .inl ⟨Y, V, ?_, ?_, ⟨3, xP x (i + 1), by decide, by decide, xP_le hx (by omega), f2, f3, v2, v3⟩, Fr.trans (F2.mono rfl) (f4.mono rfl), Fr.trans (FT2.mono rfl) (v4.mono rfl)⟩
    · unfold f_X3_readRain
      rw [show rf 16 0 = 1 from rfl, show (1 : Int32) = oo 1 from rfl, show (60 : Int32) = oo 60 from rfl, u1, Option.bind_some]
      dsimp only
      rw [if_pos rfl, show rf (rf 16 1) 7 = 25 from rfl, u5, hrt, if_neg (by rw [show (0 : Int32) = oo 0 from rfl, oo_eq (by omega) (by decide)]; exact hh), show (3 : Int32) = oo 3 from rfl, f1]
    · unfold f_X12_readRain
      rw [show rf 188 15 = 191 from rfl, e5, if_neg n6, g1, Option.bind_some, show (1 : Int32) = oo 1 from rfl, show (60 : Int32) = oo 60 from rfl, u2, Option.bind_some]
      dsimp only
      rw [if_pos rfl, show (0 : Int32) = oo 0 from rfl, hl, Option.bind_some]
end LNS
