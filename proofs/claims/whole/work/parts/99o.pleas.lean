/-! PLEAS -/
def FPC0 : List (Nat × Nat) := [(1, 9), (1, 10), (1, 11)]
def FPC1 : List (Nat × Nat) := [(1, 9), (1, 10), (1, 11), (45, 0)]
def FPC : List (Nat × Nat) := [(1, 9), (1, 10), (1, 11), (45, 0), (1, 2), (1, 3)]
def FPO : List (Nat × Nat) := [(188, 5), (188, 6), (188, 7), (188, 8), (188, 9), (188, 12), (188, 13)]
def FPO1 : List (Nat × Nat) := [(188, 5), (188, 6), (188, 7), (188, 8), (188, 9), (188, 12), (188, 13), (188, 45), (188, 46)]
def FPN : List (Nat × Nat) := [(188, 5), (188, 6), (188, 7), (188, 8), (188, 9), (188, 12), (188, 13), (188, 45), (188, 46), (188, 10), (188, 11)]
/-- which count tells how many of a sort there are -/
def mnI (srt : Nat) : Nat := [0, 1, 3].getD srt 0
theorem plea_p {x : TX} {L i cnt : Nat} {S T : XS} {v : Nat → Nat} {d : Nat → List Nat} {z0 : Int32} (hx : xok x L) (hSt : AtC x L i S) (hTt : AtN x i T) (hO : HOK v) (hS : SOK v) (hW : IsWd S 28 v) (hN : IsC T 190 516 v)
    (hdc : ∀ srt, srt < 3 → ∀ k, k < 6 → (k < v (mnI srt) → isLs (d (srt * 6 + k)) ∧ S.2 9 (srt * 6 + k) = pk8 (d (srt * 6 + k))) ∧ (v (mnI srt) ≤ k → S.2 9 (srt * 6 + k) = 0))
    (hdn : ∀ srt, srt < 3 → ∀ k, k < v (mnI srt) → T.2 195 (srt * 6 + k) = pk27 (d (srt * 6 + k)))
    (hcnt : cnt ≤ 30) (h45 : T.1 188 45 = oo cnt) (h0 : S.1 45 0 = z0) (h46 : T.1 188 46 = z0) :
    (∃ U V, f_X5_readLine 45 1 7 28 (oo cnt) S = some (false, U) ∧ f_X12_readPlea 188 T = some (false, V) ∧ Bad U V ∧ Fr FPC S U ∧ Fr FPN T V) ∨
    (cnt < 30 ∧ ∃ U V j, f_X5_readLine 45 1 7 28 (oo cnt) S = some (true, U) ∧ f_X12_readPlea 188 T = some (true, V) ∧ AtC x L j U ∧ AtN x j V ∧ V.1 188 45 = oo (cnt + 1) ∧ V.1 188 46 = U.1 45 0 ∧ Fr FPC1 S U ∧ Fr FPO1 T V) := by
  obtain ⟨⟨b0, b1, b2, b3, b4, b5⟩, -⟩ := id hO
  have hp := told_p (h := 7) (ch := 9) (cn := 195) (srt := 2) (base := 12) (many := v 3) (d := d) hx hSt hTt rfl ln_9 ln_195 (by decide) (by omega) rfl (fun k hk => hdc 2 (by decide) k hk) (fun k hk => hdn 2 (by decide) k hk)
  rcases hp with ⟨U1, V1, u1, u2, u3, u4, u5⟩ | ⟨w, U1, hw, hk2, hiL, hdw, u1, u2, hU1, hV1, u4, u6⟩
  · refine .inl ⟨U1, V1, ?_, ?_, u3, u4.mono rfl, u5.mono rfl⟩
    · unfold f_X5_readLine
      rw [show (2 : Int32) = oo 2 from rfl, u1, Option.bind_some]
      dsimp only
      rw [if_neg (by decide)]
    · unfold f_X12_readPlea
      rw [show rf 188 19 = 195 from rfl, show rf 188 14 = 190 from rfl, hN 3 (by decide), show (12 : Int32) = oo 12 from rfl, u2, Option.bind_some]
      dsimp only
      rw [if_neg (by decide)]
  by_cases hc30 : cnt = 30
  · refine .inl ?_
    obtain ⟨U, f1, f2, f3, f4⟩ := failT_c hU1 hx (oo 4)
    obtain ⟨V, a1, a2, a3, a4⟩ := bad_n hx hV1 (by omega) 4
    rw [bdK_ne (by omega)] at a2
    refine ⟨U, V, ?_, ?_, ⟨4, xP x i, by decide, by decide, xP_le hx (by omega), f2, f3, a2, a3⟩, Fr.trans (u6.mono rfl) (f4.mono rfl), Fr.trans (Fr.sIp (Fr.rf [(188, 13)] _) rfl |>.mono rfl) (a4.mono rfl)⟩
    · unfold f_X5_readLine
      rw [show (2 : Int32) = oo 2 from rfl, u1, Option.bind_some]
      dsimp only
      rw [if_pos rfl, if_neg (by rw [show (30 : Int32) = oo 30 from rfl, oo_lt (by omega) (by decide)]; omega), show (4 : Int32) = oo 4 from rfl, f1]
    · unfold f_X12_readPlea
      rw [show rf 188 19 = 195 from rfl, show rf 188 14 = 190 from rfl, hN 3 (by decide), show (12 : Int32) = oo 12 from rfl, u2, Option.bind_some]
      dsimp only
      rw [if_pos rfl, sI_place (by decide), h45, if_pos (by rw [hc30]; rfl), show (4 : Int32) = oo 4 from rfl, a1, Option.bind_some]
  obtain ⟨T2, g1, c2', g3⟩ := goN hx hV1 hiL
  have FT2 : Fr FPO T T2 := Fr.trans (Fr.sIp (Fr.rf [(188, 13)] _) rfl |>.mono rfl) (g3.mono rfl)
  have u3 : U1.1 1 10 = oo (xK x (i + 1)) := hU1.2.2.2
  have hlt := xK_lt hx (show i + 1 ≤ L by omega)
  by_cases hcl : xK x (i + 1) = 134 ∨ xK x (i + 1) = 135 ∨ xK x (i + 1) = 136
  · have hiL2 : i + 1 < L := xlt hx (by omega) (by omega) (by omega)
    rcases hcl with hC | hC | hC
    · -- 134
      obtain ⟨s1, s2⟩ := step_c hx hU1 hiL2
      obtain ⟨T3, c1, c2, c3⟩ := goN hx c2' hiL2
      have FT3 : Fr FPO T T3 := Fr.trans FT2 (c3.mono rfl)
      have FS3 : Fr FPC0 S (t_X8_step 1 U1) := Fr.trans (u6.mono rfl) (s2.mono rfl)
      have eM : T3.1 190 1 = oo (v 1) := by rw [FT3.row (c := 190) rfl]; exact hN 1 (by decide)
      have eM2 : T2.1 188 45 = oo cnt := by rw [FT2.get rfl]; exact h45
      have hp := told_p (h := 7) (ch := 9) (cn := 195) (srt := 1) (base := 6) (many := v 1) (d := d) hx s1 c2 rfl ln_9 ln_195 (by decide) (by omega) rfl (fun k hk => by
        rw [FS3.row2 (c := 9) rfl]
        exact hdc 1 (by decide) k hk) (fun k hk => by
        rw [FT3.row2 (c := 195) rfl]
        exact hdn 1 (by decide) k hk)
      have cls : ∀ z, f_X8_takeTold 1 7 (oo 1) (t_X8_step 1 U1) = z → f_X5_readLine 45 1 7 28 (oo cnt) S = (z.bind (fun q => match q with | (r6, S7) => (if r6 = true then ((if (S7.1 45 0) = (-1 : Int32) then (if (t_X5_isSo 28 (oo w) (oo 134) (S7.1 1 11) S7) = true then some S7 else some (sI S7 45 0 (oo cnt))) else some S7).bind (fun S9 => some ((t_X8_take 1 (59 : Int32) S9).1, (t_X8_take 1 (59 : Int32) S9).2))) else some (false, S7)))) := fun z hz => by
        unfold f_X5_readLine
        rw [show (2 : Int32) = oo 2 from rfl, u1, Option.bind_some]
        dsimp only
        rw [if_pos rfl, if_pos (by rw [show (30 : Int32) = oo 30 from rfl, oo_lt (by omega) (by decide)]; omega), u3, hC, u4, if_pos (show oo 134 = (134 : Int32) from rfl), show t_X5_sortOf (oo 134) = oo 1 from rfl, hz]
      have ref : ∀ z, f_X12_isOne 188 195 (oo 6) (oo (v 1)) T3 = z → f_X12_readPlea 188 T = (z.bind (fun q => match q with | (r17, S18) => (if r17 = true then ((f_X12_go 188 S18).bind (fun S20 => ((f_X12_readEnd 188 S20).bind (fun q => match q with | (r21, S22) => (if r21 = true then ((if ((145 : Int32) + oo w) < 0 ∨ ln 190 ≤ ((145 : Int32) + oo w).toNatClampNeg then none else (if (S22.1 190 ((145 : Int32) + oo w).toNatClampNeg) = (S18.1 188 13) then some (true, S22) else some (false, S22))).bind (fun q => match q with | (x24, S25) => ((if x24 = true then some S25 else (if (S25.1 188 46) = (-1 : Int32) then some (sI S25 188 46 (S25.1 188 45)) else some S25)).bind (fun S26 => some (true, (sI S26 188 45 ((S26.1 188 45) + (1 : Int32)))))))) else some (false, S22)))))) else some (false, S18)))) := fun z hz => by
        have w1 := isWord_n hx c2' (by omega) (k := 12) (by decide)
        have w2 := isWord_n hx c2' (by omega) (k := 13) (by decide)
        have w3 := isWord_n hx c2' (by omega) (k := 6) (by decide)
        rw [hC] at w1 w2 w3
        unfold f_X12_readPlea
        rw [show rf 188 19 = 195 from rfl, show rf 188 14 = 190 from rfl, hN 3 (by decide), show (12 : Int32) = oo 12 from rfl, u2, Option.bind_some]
        dsimp only
        rw [if_pos rfl, sI_place (by decide), h45, if_neg (by rw [show (30 : Int32) = oo 30 from rfl, oo_eq (by omega) (by decide)]; omega), g1, Option.bind_some, w1, Option.bind_some]
        dsimp only
        rw [if_pos (by decide), Option.bind_some]
        dsimp only
        rw [if_neg (by decide), c1, Option.bind_some, sI_same]
        rw [if_pos (show (0 : Int32) = 0 from rfl), eM, show (6 : Int32) = oo 6 from rfl, hz]
        rfl
      rcases hp with ⟨U2, V2, p1, p2, p3, p4, p5⟩ | ⟨k, U2, k1, k2, k3, k4, p1, p2, p3, p4, p5, p6⟩
      · refine .inl ⟨U2, V2, ?_, ?_, p3, Fr.trans (FS3.mono rfl) (p4.mono rfl), Fr.trans (FT3.mono rfl) (p5.mono rfl)⟩
        · rw [cls _ p1, Option.bind_some]
          dsimp only
          rw [if_neg (by decide)]
        · rw [ref _ p2, Option.bind_some]
          dsimp only
          rw [if_neg (by decide)]
      · obtain ⟨T4, e1, e2, e3⟩ := goN hx p4 k3
        have FS4 : Fr FPC0 S U2 := Fr.trans FS3 (p6.mono rfl)
        have FT4 : Fr FPO T T4 := Fr.trans FT3 (Fr.trans (Fr.sIp (Fr.rf [(188, 13)] _) rfl |>.mono rfl) (e3.mono rfl))
        have hso : t_X5_isSo 28 (oo w) (oo 134) (oo k) U2 = decide (v (145 + w) = k) := by
          have e29 : gat U2 29 (oo w) = oo (v (145 + w)) := by rw [g_29 (by omega), FS4.row (c := 29) rfl, hW.pl w (by omega)]
          have := (hS.2.1 w hw).1
          unfold t_X5_isSo
          rw [if_pos (show oo 134 = (134 : Int32) from rfl), show rf 28 1 = 29 from rfl, e29, ieq (by omega) (by omega)]
          by_cases hq : v (145 + w) = k
          · rw [if_pos hq, decide_eq_true hq]
          · rw [if_neg hq, decide_eq_false hq]
        have h450 : U2.1 45 0 = z0 := by rw [FS4.get rfl]; exact h0
        obtain ⟨S9, n1, n2, n3, n4⟩ : ∃ S9, (if (U2.1 45 0) = (-1 : Int32) then (if (t_X5_isSo 28 (oo w) (oo 134) (oo k) U2) = true then some U2 else some (sI U2 45 0 (oo cnt))) else some U2) = some S9 ∧ AtC x L (i + 3) S9 ∧ S9.1 45 0 = (if z0 = -1 ∧ decide (v (145 + w) = k) = false then oo cnt else z0) ∧ Fr [(45, 0)] U2 S9 := by
          rw [h450, hso]
          have FX : Fr [(45, 0)] U2 (sI U2 45 0 (oo cnt)) := Fr.sIp (Fr.rf _ _) rfl
          by_cases hz : z0 = -1
          · cases hb : decide (v (145 + w) = k) with
            | true => exact ⟨U2, by rw [if_pos hz, if_pos rfl], p3, by rw [if_neg (fun q => absurd q.2 (by decide))]; exact h450, Fr.rf _ _⟩
            | false => exact ⟨_, by rw [if_pos hz, if_neg (by decide)], p3.fr FX rfl, by rw [if_pos ⟨hz, rfl⟩, sI_same], FX⟩
          · exact ⟨U2, by rw [if_neg hz], p3, by rw [if_neg (fun q => hz q.1)]; exact h450, Fr.rf _ _⟩
        rcases end_p hx n2 e2 with ⟨U5, V5, q1, q2, q3, q4, q5⟩ | ⟨U5, V5, q1, q2, q3, q4, q5, q6, q7⟩
        · refine .inl ⟨U5, V5, ?_, ?_, q3, Fr.trans (FS4.mono rfl) (Fr.trans (n4.mono rfl) (q4.mono rfl)), Fr.trans (FT4.mono rfl) (q5.mono rfl)⟩
          · rw [cls _ p1, Option.bind_some]
            dsimp only
            rw [if_pos rfl, p5, n1, Option.bind_some, show (59 : Int32) = oo 59 from rfl, q1]
          · rw [ref _ p2, Option.bind_some]
            dsimp only
            rw [if_pos rfl, e1, Option.bind_some, q2, Option.bind_some]
            dsimp only
            rw [if_neg (by decide)]
        · have FT5 : Fr FPO T V5 := Fr.trans FT4 (q7.mono rfl)
          have eN : IsC V5 190 516 v := hN.cell (FT5.row (c := 190) rfl)
          have e45 : V5.1 188 45 = oo cnt := by rw [FT5.get rfl]; exact h45
          have e46 : V5.1 188 46 = z0 := by rw [FT5.get rfl]; exact h46
          have hrs : (if ((145 : Int32) + oo w) < 0 ∨ ln 190 ≤ ((145 : Int32) + oo w).toNatClampNeg then none else (if (V5.1 190 ((145 : Int32) + oo w).toNatClampNeg) = oo k then some (true, V5) else some (false, V5))) = some (decide (v (145 + w) = k), V5) := by
            have := (hS.2.1 w hw).1
            rw [show (145 : Int32) = oo 145 from rfl, oo_add, if_neg (by rw [ln_190]; exact oo_inb (by omega) (by omega)), oo_nat (by omega), eN _ (by omega), ieq (by omega) (by omega)]
            by_cases hq : v (145 + w) = k
            · rw [if_pos hq, decide_eq_true hq]
            · rw [if_neg hq, decide_eq_false hq]
          obtain ⟨V6, m1, m2, m3, m4⟩ : ∃ V6, (if decide (v (145 + w) = k) = true then some V5 else (if (V5.1 188 46) = (-1 : Int32) then some (sI V5 188 46 (V5.1 188 45)) else some V5)) = some V6 ∧ V6.1 188 46 = (if z0 = -1 ∧ decide (v (145 + w) = k) = false then oo cnt else z0) ∧ V6.1 188 45 = oo cnt ∧ Fr [(188, 46)] V5 V6 := by
            rw [e46, e45]
            have FX : Fr [(188, 46)] V5 (sI V5 188 46 (oo cnt)) := Fr.sIp (Fr.rf _ _) rfl
            cases hb : decide (v (145 + w) = k) with
            | true => exact ⟨V5, by rw [if_pos rfl], by rw [if_neg (fun q => absurd q.2 (by decide))]; exact e46, e45, Fr.rf _ _⟩
            | false =>
              by_cases hz : z0 = -1
              · exact ⟨_, by rw [if_neg (by decide), if_pos hz], by rw [if_pos ⟨hz, rfl⟩, sI_same], by rw [FX.get rfl]; exact e45, FX⟩
              · exact ⟨V5, by rw [if_neg (by decide), if_neg hz], by rw [if_neg (fun q => hz q.1)]; exact e46, e45, Fr.rf _ _⟩
          have FX : Fr [(188, 45)] V6 (sI V6 188 45 (oo (cnt + 1))) := Fr.sIp (Fr.rf _ _) rfl
          refine .inr ⟨by omega, U5, sI V6 188 45 (oo (cnt + 1)), i + 4, ?_, ?_, q4, (q5.fr m4 rfl).fr FX rfl, sI_same _ _ _ _, ?_, Fr.trans (FS4.mono rfl) (Fr.trans (n4.mono rfl) (q6.mono rfl)), Fr.trans (FT5.mono rfl) (Fr.trans (m4.mono rfl) (FX.mono rfl))⟩
          · rw [cls _ p1, Option.bind_some]
            dsimp only
            rw [if_pos rfl, p5, n1, Option.bind_some, show (59 : Int32) = oo 59 from rfl, q1]
          · rw [ref _ p2, Option.bind_some]
            dsimp only
            rw [if_pos rfl, e1, Option.bind_some, q2, Option.bind_some]
            dsimp only
            rw [if_pos rfl, sI_same, hrs, Option.bind_some]
            dsimp only
            rw [m1, Option.bind_some, m3, show (1 : Int32) = oo 1 from rfl, oo_add]
          · rw [sI_place (by decide), m2, q6.get rfl, n3]
    · -- 135
      obtain ⟨s1, s2⟩ := step_c hx hU1 hiL2
      obtain ⟨T3, c1, c2, c3⟩ := goN hx c2' hiL2
      have FT3 : Fr FPO T T3 := Fr.trans FT2 (c3.mono rfl)
      have FS3 : Fr FPC0 S (t_X8_step 1 U1) := Fr.trans (u6.mono rfl) (s2.mono rfl)
      have eM : T3.1 190 0 = oo (v 0) := by rw [FT3.row (c := 190) rfl]; exact hN 0 (by decide)
      have eM2 : T2.1 188 45 = oo cnt := by rw [FT2.get rfl]; exact h45
      have hp := told_p (h := 7) (ch := 9) (cn := 195) (srt := 0) (base := 0) (many := v 0) (d := d) hx s1 c2 rfl ln_9 ln_195 (by decide) (by omega) rfl (fun k hk => by
        rw [FS3.row2 (c := 9) rfl]
        exact hdc 0 (by decide) k hk) (fun k hk => by
        rw [FT3.row2 (c := 195) rfl]
        exact hdn 0 (by decide) k hk)
      have cls : ∀ z, f_X8_takeTold 1 7 (oo 0) (t_X8_step 1 U1) = z → f_X5_readLine 45 1 7 28 (oo cnt) S = (z.bind (fun q => match q with | (r6, S7) => (if r6 = true then ((if (S7.1 45 0) = (-1 : Int32) then (if (t_X5_isSo 28 (oo w) (oo 135) (S7.1 1 11) S7) = true then some S7 else some (sI S7 45 0 (oo cnt))) else some S7).bind (fun S9 => some ((t_X8_take 1 (59 : Int32) S9).1, (t_X8_take 1 (59 : Int32) S9).2))) else some (false, S7)))) := fun z hz => by
        unfold f_X5_readLine
        rw [show (2 : Int32) = oo 2 from rfl, u1, Option.bind_some]
        dsimp only
        rw [if_pos rfl, if_pos (by rw [show (30 : Int32) = oo 30 from rfl, oo_lt (by omega) (by decide)]; omega), u3, hC, u4, if_neg (by decide), if_pos (show oo 135 = (135 : Int32) from rfl), show t_X5_sortOf (oo 135) = oo 0 from rfl, hz]
      have ref : ∀ z, f_X12_isOne 188 195 (oo 0) (oo (v 0)) T3 = z → f_X12_readPlea 188 T = (z.bind (fun q => match q with | (r17, S18) => (if r17 = true then ((f_X12_go 188 S18).bind (fun S20 => ((f_X12_readEnd 188 S20).bind (fun q => match q with | (r21, S22) => (if r21 = true then (((f_X12_worn 188 (oo w) S22).bind (fun q => match q with | (r33, S34) => (if (r33 + (S18.1 188 13)) < 0 ∨ ln 190 ≤ (r33 + (S18.1 188 13)).toNatClampNeg then none else (if (S34.1 190 (r33 + (S18.1 188 13)).toNatClampNeg) ≤ 0 then some (false, S34) else some (true, S34))))).bind (fun q => match q with | (x24, S25) => ((if x24 = true then some S25 else (if (S25.1 188 46) = (-1 : Int32) then some (sI S25 188 46 (S25.1 188 45)) else some S25)).bind (fun S26 => some (true, (sI S26 188 45 ((S26.1 188 45) + (1 : Int32)))))))) else some (false, S22)))))) else some (false, S18)))) := fun z hz => by
        have w1 := isWord_n hx c2' (by omega) (k := 12) (by decide)
        have w2 := isWord_n hx c2' (by omega) (k := 13) (by decide)
        have w3 := isWord_n hx c2' (by omega) (k := 6) (by decide)
        rw [hC] at w1 w2 w3
        unfold f_X12_readPlea
        rw [show rf 188 19 = 195 from rfl, show rf 188 14 = 190 from rfl, hN 3 (by decide), show (12 : Int32) = oo 12 from rfl, u2, Option.bind_some]
        dsimp only
        rw [if_pos rfl, sI_place (by decide), h45, if_neg (by rw [show (30 : Int32) = oo 30 from rfl, oo_eq (by omega) (by decide)]; omega), g1, Option.bind_some, w1, Option.bind_some]
        dsimp only
        rw [if_neg (by decide), show (13 : Int32) = oo 13 from rfl, w2, Option.bind_some]
        dsimp only
        rw [if_pos (by decide), Option.bind_some]
        dsimp only
        rw [if_neg (by decide), c1, Option.bind_some, sI_same]
        rw [if_neg (show ¬ (1 : Int32) = 0 by decide), if_pos (show (1 : Int32) = 1 from rfl), eM, show (0 : Int32) = oo 0 from rfl, hz]
        rfl
      rcases hp with ⟨U2, V2, p1, p2, p3, p4, p5⟩ | ⟨k, U2, k1, k2, k3, k4, p1, p2, p3, p4, p5, p6⟩
      · refine .inl ⟨U2, V2, ?_, ?_, p3, Fr.trans (FS3.mono rfl) (p4.mono rfl), Fr.trans (FT3.mono rfl) (p5.mono rfl)⟩
        · rw [cls _ p1, Option.bind_some]
          dsimp only
          rw [if_neg (by decide)]
        · rw [ref _ p2, Option.bind_some]
          dsimp only
          rw [if_neg (by decide)]
      · obtain ⟨T4, e1, e2, e3⟩ := goN hx p4 k3
        have FS4 : Fr FPC0 S U2 := Fr.trans FS3 (p6.mono rfl)
        have FT4 : Fr FPO T T4 := Fr.trans FT3 (Fr.trans (Fr.sIp (Fr.rf [(188, 13)] _) rfl |>.mono rfl) (e3.mono rfl))
        have hso : t_X5_isSo 28 (oo w) (oo 135) (oo k) U2 = decide (0 < coatG v (v (151 + w)) k) := by
          have e30 : gat U2 30 (oo w) = oo (v (151 + w)) := by rw [g_30 (by omega), FS4.row (c := 30) rfl, hW.wn w (by omega)]
          have hwb := (hS.2.1 w hw).2
          have hcb := coat_b hS (show v (151 + w) < 6 by omega) k (by omega)
          have e31 : gat U2 31 (oo (v (151 + w) * 6 + k)) = oo (coatG v (v (151 + w)) k) := by rw [g_31 (by omega), FS4.row (c := 31) rfl, hW.ct _ k (by omega) (by omega)]; rfl
          unfold t_X5_isSo
          rw [if_neg (show ¬ oo 135 = (134 : Int32) by decide), if_pos (show oo 135 = (135 : Int32) from rfl), show rf 28 2 = 30 from rfl, show rf 28 3 = 31 from rfl, e30, show (6 : Int32) = oo 6 from rfl, oo_mul, oo_add, e31, show (0 : Int32) = oo 0 from rfl, ile (by omega) (by decide)]
          by_cases hq : 0 < coatG v (v (151 + w)) k
          · rw [if_neg (by omega), decide_eq_true hq]
          · rw [if_pos (by omega), decide_eq_false hq]
        have h450 : U2.1 45 0 = z0 := by rw [FS4.get rfl]; exact h0
        obtain ⟨S9, n1, n2, n3, n4⟩ : ∃ S9, (if (U2.1 45 0) = (-1 : Int32) then (if (t_X5_isSo 28 (oo w) (oo 135) (oo k) U2) = true then some U2 else some (sI U2 45 0 (oo cnt))) else some U2) = some S9 ∧ AtC x L (i + 3) S9 ∧ S9.1 45 0 = (if z0 = -1 ∧ decide (0 < coatG v (v (151 + w)) k) = false then oo cnt else z0) ∧ Fr [(45, 0)] U2 S9 := by
          rw [h450, hso]
          have FX : Fr [(45, 0)] U2 (sI U2 45 0 (oo cnt)) := Fr.sIp (Fr.rf _ _) rfl
          by_cases hz : z0 = -1
          · cases hb : decide (0 < coatG v (v (151 + w)) k) with
            | true => exact ⟨U2, by rw [if_pos hz, if_pos rfl], p3, by rw [if_neg (fun q => absurd q.2 (by decide))]; exact h450, Fr.rf _ _⟩
            | false => exact ⟨_, by rw [if_pos hz, if_neg (by decide)], p3.fr FX rfl, by rw [if_pos ⟨hz, rfl⟩, sI_same], FX⟩
          · exact ⟨U2, by rw [if_neg hz], p3, by rw [if_neg (fun q => hz q.1)]; exact h450, Fr.rf _ _⟩
        rcases end_p hx n2 e2 with ⟨U5, V5, q1, q2, q3, q4, q5⟩ | ⟨U5, V5, q1, q2, q3, q4, q5, q6, q7⟩
        · refine .inl ⟨U5, V5, ?_, ?_, q3, Fr.trans (FS4.mono rfl) (Fr.trans (n4.mono rfl) (q4.mono rfl)), Fr.trans (FT4.mono rfl) (q5.mono rfl)⟩
          · rw [cls _ p1, Option.bind_some]
            dsimp only
            rw [if_pos rfl, p5, n1, Option.bind_some, show (59 : Int32) = oo 59 from rfl, q1]
          · rw [ref _ p2, Option.bind_some]
            dsimp only
            rw [if_pos rfl, e1, Option.bind_some, q2, Option.bind_some]
            dsimp only
            rw [if_neg (by decide)]
        · have FT5 : Fr FPO T V5 := Fr.trans FT4 (q7.mono rfl)
          have eN : IsC V5 190 516 v := hN.cell (FT5.row (c := 190) rfl)
          have e45 : V5.1 188 45 = oo cnt := by rw [FT5.get rfl]; exact h45
          have e46 : V5.1 188 46 = z0 := by rw [FT5.get rfl]; exact h46
          have hrs : ((f_X12_worn 188 (oo w) V5).bind (fun q => match q with | (r33, S34) => (if (r33 + (oo k)) < 0 ∨ ln 190 ≤ (r33 + (oo k)).toNatClampNeg then none else (if (S34.1 190 (r33 + (oo k)).toNatClampNeg) ≤ 0 then some (false, S34) else some (true, S34))))) = some (decide (0 < coatG v (v (151 + w)) k), V5) := by
            have hwb := (hS.2.1 w hw).2
            have hcb := coat_b hS (show v (151 + w) < 6 by omega) k (by omega)
            have e9 : V5.1 190 (157 + 6 * v (151 + w) + k) = oo (coatG v (v (151 + w)) k) := eN _ (by omega)
            unfold f_X12_worn
            rw [show rf 188 14 = 190 from rfl, show (151 : Int32) = oo 151 from rfl, show (157 : Int32) = oo 157 from rfl, show (6 : Int32) = oo 6 from rfl, oo_add, if_neg (by rw [ln_190]; exact oo_inb (by omega) (by omega)), oo_nat (by omega), eN _ (by omega), oo_mul, oo_add, Option.bind_some]
            dsimp only
            rw [oo_add, if_neg (by rw [ln_190]; exact oo_inb (by omega) (by omega)), oo_nat (by omega), e9, show (0 : Int32) = oo 0 from rfl, ile (by omega) (by decide)]
            by_cases hq : 0 < coatG v (v (151 + w)) k
            · rw [if_neg (by omega), decide_eq_true hq]
            · rw [if_pos (by omega), decide_eq_false hq]
          obtain ⟨V6, m1, m2, m3, m4⟩ : ∃ V6, (if decide (0 < coatG v (v (151 + w)) k) = true then some V5 else (if (V5.1 188 46) = (-1 : Int32) then some (sI V5 188 46 (V5.1 188 45)) else some V5)) = some V6 ∧ V6.1 188 46 = (if z0 = -1 ∧ decide (0 < coatG v (v (151 + w)) k) = false then oo cnt else z0) ∧ V6.1 188 45 = oo cnt ∧ Fr [(188, 46)] V5 V6 := by
            rw [e46, e45]
            have FX : Fr [(188, 46)] V5 (sI V5 188 46 (oo cnt)) := Fr.sIp (Fr.rf _ _) rfl
            cases hb : decide (0 < coatG v (v (151 + w)) k) with
            | true => exact ⟨V5, by rw [if_pos rfl], by rw [if_neg (fun q => absurd q.2 (by decide))]; exact e46, e45, Fr.rf _ _⟩
            | false =>
              by_cases hz : z0 = -1
              · exact ⟨_, by rw [if_neg (by decide), if_pos hz], by rw [if_pos ⟨hz, rfl⟩, sI_same], by rw [FX.get rfl]; exact e45, FX⟩
              · exact ⟨V5, by rw [if_neg (by decide), if_neg hz], by rw [if_neg (fun q => hz q.1)]; exact e46, e45, Fr.rf _ _⟩
          have FX : Fr [(188, 45)] V6 (sI V6 188 45 (oo (cnt + 1))) := Fr.sIp (Fr.rf _ _) rfl
          refine .inr ⟨by omega, U5, sI V6 188 45 (oo (cnt + 1)), i + 4, ?_, ?_, q4, (q5.fr m4 rfl).fr FX rfl, sI_same _ _ _ _, ?_, Fr.trans (FS4.mono rfl) (Fr.trans (n4.mono rfl) (q6.mono rfl)), Fr.trans (FT5.mono rfl) (Fr.trans (m4.mono rfl) (FX.mono rfl))⟩
          · rw [cls _ p1, Option.bind_some]
            dsimp only
            rw [if_pos rfl, p5, n1, Option.bind_some, show (59 : Int32) = oo 59 from rfl, q1]
          · rw [ref _ p2, Option.bind_some]
            dsimp only
            rw [if_pos rfl, e1, Option.bind_some, q2, Option.bind_some]
            dsimp only
            rw [if_pos rfl, sI_same, hrs, Option.bind_some]
            dsimp only
            rw [m1, Option.bind_some, m3, show (1 : Int32) = oo 1 from rfl, oo_add]
          · rw [sI_place (by decide), m2, q6.get rfl, n3]
    · -- 136
      obtain ⟨s1, s2⟩ := step_c hx hU1 hiL2
      obtain ⟨T3, c1, c2, c3⟩ := goN hx c2' hiL2
      have FT3 : Fr FPO T T3 := Fr.trans FT2 (c3.mono rfl)
      have FS3 : Fr FPC0 S (t_X8_step 1 U1) := Fr.trans (u6.mono rfl) (s2.mono rfl)
      have eM : T3.1 190 3 = oo (v 3) := by rw [FT3.row (c := 190) rfl]; exact hN 3 (by decide)
      have eM2 : T2.1 188 45 = oo cnt := by rw [FT2.get rfl]; exact h45
      have hp := told_p (h := 7) (ch := 9) (cn := 195) (srt := 2) (base := 12) (many := v 3) (d := d) hx s1 c2 rfl ln_9 ln_195 (by decide) (by omega) rfl (fun k hk => by
        rw [FS3.row2 (c := 9) rfl]
        exact hdc 2 (by decide) k hk) (fun k hk => by
        rw [FT3.row2 (c := 195) rfl]
        exact hdn 2 (by decide) k hk)
      have cls : ∀ z, f_X8_takeTold 1 7 (oo 2) (t_X8_step 1 U1) = z → f_X5_readLine 45 1 7 28 (oo cnt) S = (z.bind (fun q => match q with | (r6, S7) => (if r6 = true then ((if (S7.1 45 0) = (-1 : Int32) then (if (t_X5_isSo 28 (oo w) (oo 136) (S7.1 1 11) S7) = true then some S7 else some (sI S7 45 0 (oo cnt))) else some S7).bind (fun S9 => some ((t_X8_take 1 (59 : Int32) S9).1, (t_X8_take 1 (59 : Int32) S9).2))) else some (false, S7)))) := fun z hz => by
        unfold f_X5_readLine
        rw [show (2 : Int32) = oo 2 from rfl, u1, Option.bind_some]
        dsimp only
        rw [if_pos rfl, if_pos (by rw [show (30 : Int32) = oo 30 from rfl, oo_lt (by omega) (by decide)]; omega), u3, hC, u4, if_neg (by decide), if_neg (by decide), if_pos (show oo 136 = (136 : Int32) from rfl), show t_X5_sortOf (oo 136) = oo 2 from rfl, hz]
      have ref : ∀ z, f_X12_isOne 188 195 (oo 12) (oo (v 3)) T3 = z → f_X12_readPlea 188 T = (z.bind (fun q => match q with | (r17, S18) => (if r17 = true then ((f_X12_go 188 S18).bind (fun S20 => ((f_X12_readEnd 188 S20).bind (fun q => match q with | (r21, S22) => (if r21 = true then ((if ((151 : Int32) + oo w) < 0 ∨ ln 190 ≤ ((151 : Int32) + oo w).toNatClampNeg then none else (if (S22.1 190 ((151 : Int32) + oo w).toNatClampNeg) = (S18.1 188 13) then some (true, S22) else some (false, S22))).bind (fun q => match q with | (x24, S25) => ((if x24 = true then some S25 else (if (S25.1 188 46) = (-1 : Int32) then some (sI S25 188 46 (S25.1 188 45)) else some S25)).bind (fun S26 => some (true, (sI S26 188 45 ((S26.1 188 45) + (1 : Int32)))))))) else some (false, S22)))))) else some (false, S18)))) := fun z hz => by
        have w1 := isWord_n hx c2' (by omega) (k := 12) (by decide)
        have w2 := isWord_n hx c2' (by omega) (k := 13) (by decide)
        have w3 := isWord_n hx c2' (by omega) (k := 6) (by decide)
        rw [hC] at w1 w2 w3
        unfold f_X12_readPlea
        rw [show rf 188 19 = 195 from rfl, show rf 188 14 = 190 from rfl, hN 3 (by decide), show (12 : Int32) = oo 12 from rfl, u2, Option.bind_some]
        dsimp only
        rw [if_pos rfl, sI_place (by decide), h45, if_neg (by rw [show (30 : Int32) = oo 30 from rfl, oo_eq (by omega) (by decide)]; omega), g1, Option.bind_some, w1, Option.bind_some]
        dsimp only
        rw [if_neg (by decide), show (13 : Int32) = oo 13 from rfl, w2, Option.bind_some]
        dsimp only
        rw [if_neg (by decide), show (6 : Int32) = oo 6 from rfl, w3, Option.bind_some]
        dsimp only
        rw [if_pos (by decide), Option.bind_some]
        dsimp only
        rw [if_neg (by decide), c1, Option.bind_some, sI_same]
        rw [if_neg (show ¬ (2 : Int32) = 0 by decide), if_neg (show ¬ (2 : Int32) = 1 by decide), eM, hz]
        rfl
      rcases hp with ⟨U2, V2, p1, p2, p3, p4, p5⟩ | ⟨k, U2, k1, k2, k3, k4, p1, p2, p3, p4, p5, p6⟩
      · refine .inl ⟨U2, V2, ?_, ?_, p3, Fr.trans (FS3.mono rfl) (p4.mono rfl), Fr.trans (FT3.mono rfl) (p5.mono rfl)⟩
        · rw [cls _ p1, Option.bind_some]
          dsimp only
          rw [if_neg (by decide)]
        · rw [ref _ p2, Option.bind_some]
          dsimp only
          rw [if_neg (by decide)]
      · obtain ⟨T4, e1, e2, e3⟩ := goN hx p4 k3
        have FS4 : Fr FPC0 S U2 := Fr.trans FS3 (p6.mono rfl)
        have FT4 : Fr FPO T T4 := Fr.trans FT3 (Fr.trans (Fr.sIp (Fr.rf [(188, 13)] _) rfl |>.mono rfl) (e3.mono rfl))
        have hso : t_X5_isSo 28 (oo w) (oo 136) (oo k) U2 = decide (v (151 + w) = k) := by
          have e30 : gat U2 30 (oo w) = oo (v (151 + w)) := by rw [g_30 (by omega), FS4.row (c := 30) rfl, hW.wn w (by omega)]
          have := (hS.2.1 w hw).2
          unfold t_X5_isSo
          rw [if_neg (by decide), if_neg (by decide), show rf 28 2 = 30 from rfl, e30, ieq (by omega) (by omega)]
          by_cases hq : v (151 + w) = k
          · rw [if_pos hq, decide_eq_true hq]
          · rw [if_neg hq, decide_eq_false hq]
        have h450 : U2.1 45 0 = z0 := by rw [FS4.get rfl]; exact h0
        obtain ⟨S9, n1, n2, n3, n4⟩ : ∃ S9, (if (U2.1 45 0) = (-1 : Int32) then (if (t_X5_isSo 28 (oo w) (oo 136) (oo k) U2) = true then some U2 else some (sI U2 45 0 (oo cnt))) else some U2) = some S9 ∧ AtC x L (i + 3) S9 ∧ S9.1 45 0 = (if z0 = -1 ∧ decide (v (151 + w) = k) = false then oo cnt else z0) ∧ Fr [(45, 0)] U2 S9 := by
          rw [h450, hso]
          have FX : Fr [(45, 0)] U2 (sI U2 45 0 (oo cnt)) := Fr.sIp (Fr.rf _ _) rfl
          by_cases hz : z0 = -1
          · cases hb : decide (v (151 + w) = k) with
            | true => exact ⟨U2, by rw [if_pos hz, if_pos rfl], p3, by rw [if_neg (fun q => absurd q.2 (by decide))]; exact h450, Fr.rf _ _⟩
            | false => exact ⟨_, by rw [if_pos hz, if_neg (by decide)], p3.fr FX rfl, by rw [if_pos ⟨hz, rfl⟩, sI_same], FX⟩
          · exact ⟨U2, by rw [if_neg hz], p3, by rw [if_neg (fun q => hz q.1)]; exact h450, Fr.rf _ _⟩
        rcases end_p hx n2 e2 with ⟨U5, V5, q1, q2, q3, q4, q5⟩ | ⟨U5, V5, q1, q2, q3, q4, q5, q6, q7⟩
        · refine .inl ⟨U5, V5, ?_, ?_, q3, Fr.trans (FS4.mono rfl) (Fr.trans (n4.mono rfl) (q4.mono rfl)), Fr.trans (FT4.mono rfl) (q5.mono rfl)⟩
          · rw [cls _ p1, Option.bind_some]
            dsimp only
            rw [if_pos rfl, p5, n1, Option.bind_some, show (59 : Int32) = oo 59 from rfl, q1]
          · rw [ref _ p2, Option.bind_some]
            dsimp only
            rw [if_pos rfl, e1, Option.bind_some, q2, Option.bind_some]
            dsimp only
            rw [if_neg (by decide)]
        · have FT5 : Fr FPO T V5 := Fr.trans FT4 (q7.mono rfl)
          have eN : IsC V5 190 516 v := hN.cell (FT5.row (c := 190) rfl)
          have e45 : V5.1 188 45 = oo cnt := by rw [FT5.get rfl]; exact h45
          have e46 : V5.1 188 46 = z0 := by rw [FT5.get rfl]; exact h46
          have hrs : (if ((151 : Int32) + oo w) < 0 ∨ ln 190 ≤ ((151 : Int32) + oo w).toNatClampNeg then none else (if (V5.1 190 ((151 : Int32) + oo w).toNatClampNeg) = oo k then some (true, V5) else some (false, V5))) = some (decide (v (151 + w) = k), V5) := by
            have := (hS.2.1 w hw).2
            rw [show (151 : Int32) = oo 151 from rfl, oo_add, if_neg (by rw [ln_190]; exact oo_inb (by omega) (by omega)), oo_nat (by omega), eN _ (by omega), ieq (by omega) (by omega)]
            by_cases hq : v (151 + w) = k
            · rw [if_pos hq, decide_eq_true hq]
            · rw [if_neg hq, decide_eq_false hq]
          obtain ⟨V6, m1, m2, m3, m4⟩ : ∃ V6, (if decide (v (151 + w) = k) = true then some V5 else (if (V5.1 188 46) = (-1 : Int32) then some (sI V5 188 46 (V5.1 188 45)) else some V5)) = some V6 ∧ V6.1 188 46 = (if z0 = -1 ∧ decide (v (151 + w) = k) = false then oo cnt else z0) ∧ V6.1 188 45 = oo cnt ∧ Fr [(188, 46)] V5 V6 := by
            rw [e46, e45]
            have FX : Fr [(188, 46)] V5 (sI V5 188 46 (oo cnt)) := Fr.sIp (Fr.rf _ _) rfl
            cases hb : decide (v (151 + w) = k) with
            | true => exact ⟨V5, by rw [if_pos rfl], by rw [if_neg (fun q => absurd q.2 (by decide))]; exact e46, e45, Fr.rf _ _⟩
            | false =>
              by_cases hz : z0 = -1
              · exact ⟨_, by rw [if_neg (by decide), if_pos hz], by rw [if_pos ⟨hz, rfl⟩, sI_same], by rw [FX.get rfl]; exact e45, FX⟩
              · exact ⟨V5, by rw [if_neg (by decide), if_neg hz], by rw [if_neg (fun q => hz q.1)]; exact e46, e45, Fr.rf _ _⟩
          have FX : Fr [(188, 45)] V6 (sI V6 188 45 (oo (cnt + 1))) := Fr.sIp (Fr.rf _ _) rfl
          refine .inr ⟨by omega, U5, sI V6 188 45 (oo (cnt + 1)), i + 4, ?_, ?_, q4, (q5.fr m4 rfl).fr FX rfl, sI_same _ _ _ _, ?_, Fr.trans (FS4.mono rfl) (Fr.trans (n4.mono rfl) (q6.mono rfl)), Fr.trans (FT5.mono rfl) (Fr.trans (m4.mono rfl) (FX.mono rfl))⟩
          · rw [cls _ p1, Option.bind_some]
            dsimp only
            rw [if_pos rfl, p5, n1, Option.bind_some, show (59 : Int32) = oo 59 from rfl, q1]
          · rw [ref _ p2, Option.bind_some]
            dsimp only
            rw [if_pos rfl, e1, Option.bind_some, q2, Option.bind_some]
            dsimp only
            rw [if_pos rfl, sI_same, hrs, Option.bind_some]
            dsimp only
            rw [m1, Option.bind_some, m3, show (1 : Int32) = oo 1 from rfl, oo_add]
          · rw [sI_place (by decide), m2, q6.get rfl, n3]
  · refine .inl ?_
    obtain ⟨U, f1, f2, f3, f4⟩ := fail_c hU1 hx (oo 1)
    obtain ⟨V, a1, a2, a3, a4⟩ := bad_n hx c2' (by omega) 1
    rw [bdK_1] at a2
    have w1 := isWord_n hx c2' (by omega) (k := 12) (by decide)
    have w2 := isWord_n hx c2' (by omega) (k := 13) (by decide)
    have w3 := isWord_n hx c2' (by omega) (k := 6) (by decide)
    rw [decide_eq_false (show ¬ xK x (i + 1) = 128 + kyR 12 from fun q => hcl (.inl q))] at w1
    rw [decide_eq_false (show ¬ xK x (i + 1) = 128 + kyR 13 from fun q => hcl (.inr (.inl q)))] at w2
    rw [decide_eq_false (show ¬ xK x (i + 1) = 128 + kyR 6 from fun q => hcl (.inr (.inr q)))] at w3
    refine ⟨U, V, ?_, ?_, ⟨1, xP x (i + 1), by decide, by decide, xP_le hx (by omega), f2, f3, a2, a3⟩, Fr.trans (u6.mono rfl) (f4.mono rfl), Fr.trans (FT2.mono rfl) (a4.mono rfl)⟩
    · unfold f_X5_readLine
      rw [show (2 : Int32) = oo 2 from rfl, u1, Option.bind_some]
      dsimp only
      rw [if_pos rfl, if_pos (by rw [show (30 : Int32) = oo 30 from rfl, oo_lt (by omega) (by decide)]; omega), u3, if_neg (by rw [show (134 : Int32) = oo 134 from rfl, oo_eq (by omega) (by decide)]; omega), if_neg (by rw [show (135 : Int32) = oo 135 from rfl, oo_eq (by omega) (by decide)]; omega), if_neg (by rw [show (136 : Int32) = oo 136 from rfl, oo_eq (by omega) (by decide)]; omega), show (1 : Int32) = oo 1 from rfl, f1]
    · unfold f_X12_readPlea
      rw [show rf 188 19 = 195 from rfl, show rf 188 14 = 190 from rfl, hN 3 (by decide), show (12 : Int32) = oo 12 from rfl, u2, Option.bind_some]
      dsimp only
      rw [if_pos rfl, sI_place (by decide), h45, if_neg (by rw [show (30 : Int32) = oo 30 from rfl, oo_eq (by omega) (by decide)]; omega), g1, Option.bind_some, w1, Option.bind_some]
      dsimp only
      rw [if_neg (by decide), show (13 : Int32) = oo 13 from rfl, w2, Option.bind_some]
      dsimp only
      rw [if_neg (by decide), show (6 : Int32) = oo 6 from rfl, w3, Option.bind_some]
      dsimp only
      rw [if_neg (by decide), Option.bind_some]
      dsimp only
      rw [if_pos rfl, show (1 : Int32) = oo 1 from rfl, a1, Option.bind_some]
