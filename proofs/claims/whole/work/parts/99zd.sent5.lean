/-! a SENTENCE read, whole -/
section TR1
variable {x : TX} {L : Nat} {d : Nat → List Nat} {v : Nat → Nat} {rc : Nat → Nat → Int32 → XS → Option (Bool × XS)} {rn : Nat → XS → Option (Bool × XS)}
theorem term_1 {wi : Nat} (hx : xok x L) (hwi : wi ≤ 8) (hsp : wi < 8 → Sp x L d v (wi + 1) (fun S => rc 40 7 (oo (wi + 2)) S) (fun T => rn 188 T)) : Sp x L d v wi (fun S => f_X7_readOne rc 40 7 (oo (wi + 1)) S) (fun T => f_X12_readTerm rn 188 T) := by
  intro i o st nv q S T hR hE hq
  have hi : i ≤ L := hR.1.1
  have hlt := xK_lt hx hi
  have e10 : S.1 1 10 = oo (xK x i) := hR.1.2.2.2
  have hbg := bg_c (xK x i) hlt
  have hid := idx_n hx hR.2.1 hi (rn := rn) (b := decide (xK x i = 40)) 8 9 1000000 rfl (by decide)
  have hsg := sign_n hx hR.2.1 hi (c := 40) rfl
  have ho := hR.2.2.2.2.1
  have e402 := hR.2.2.1
  have e57 := hR.2.2.2.1
  have e58 := hR.2.2.2.2.2.1
  have hE0 := hE
  obtain ⟨hc, hn, t0, t1, bb0, bb1⟩ := hE0
  show SOut x L (i + 1) wi st nv q S T (f_X7_readOne rc 40 7 (oo (wi + 1)) S) (f_X12_readTerm rn 188 T)
  by_cases hb : xK x i = 40 ∨ xK x i = 134 ∨ xK x i = 135 ∨ 139 ≤ xK x i
  · rw [decide_eq_true hb] at hbg
    have hiL := xlt hx hi (by omega) (by omega)
    have hw16 : xK x i = 40 ∨ wiF (xK x i) 8 9 ≤ 16 := by
      have h : ∀ K, K < 145 → (K = 134 ∨ K = 135 ∨ 139 ≤ K) → wiF K 8 9 ≤ 16 := by decide +kernel
      rcases hb with e | e
      · exact .inl e
      · exact .inr (h _ hlt e)
    have hw17 : wiF (xK x i) 8 9 ≤ 17 := by
      have h : ∀ K, K < 145 → wiF K 8 9 ≤ 17 := by decide +kernel
      exact h _ hlt
    by_cases hfull : o = 20 ∨ wi = 8
    · obtain ⟨U, u1, u2, u3, u4⟩ := fail_c hR.1 hx (oo 4)
      obtain ⟨V, v1, v2, v3, v4⟩ := bad_n hx hR.2.1 hi 4
      rw [bdK_ne (by omega)] at v2
      refine .inl ⟨U, V, ?_, ?_, ⟨4, xP x i, by decide, by decide, xP_le hx hi, u2, u3, v2, v3⟩, u4.mono rfl, v4.mono rfl⟩
      · unfold f_X7_readOne
        rw [show rf 40 0 = 1 from rfl, e10, hbg, if_pos rfl, e402, show (20 : Int32) = oo 20 from rfl, ile (by decide) (by omega), show (8 : Int32) = oo 8 from rfl, ile (by omega) (by decide), show (4 : Int32) = oo 4 from rfl, u1]
        by_cases h20 : 20 ≤ o
        · rw [if_pos h20]
        · rw [if_neg h20, if_neg (by omega)]
      · have hin : ∀ X : Option (Bool × XS), (if T.1 188 57 = (20 : Int32) then ((f_X12_bad 188 (4 : Int32) T).bind (fun q => match q with | (r9, S10) => some (r9, S10))) else (if T.1 188 58 = (8 : Int32) then ((f_X12_bad 188 (4 : Int32) T).bind (fun q => match q with | (r12, S13) => some (r12, S13))) else X)) = some (false, V) := fun X => by
          rw [e57, e58, show (20 : Int32) = oo 20 from rfl, show (8 : Int32) = oo 8 from rfl, ieq (by omega) (by decide), ieq (by omega) (by decide), show (4 : Int32) = oo 4 from rfl, v1, Option.bind_some]
          rcases hfull with e | e
          · rw [if_pos e]
          · by_cases e2 : o = 20
            · rw [if_pos e2]
            · rw [if_neg e2, if_pos e]
        unfold f_X12_readTerm
        rw [show (40 : Int32) = oo 40 from rfl, hsg, show (9 : Int32) = oo 9 from rfl, hid, Option.bind_some]
        dsimp only
        by_cases e40 : xK x i = 40
        · rw [decide_eq_true e40, if_pos rfl]
          exact hin _
        · rw [decide_eq_false e40, if_neg (by decide), if_pos (show oo (wiF (xK x i) 8 9) ≤ (16 : Int32) by
            rw [show (16 : Int32) = oo 16 from rfl, oo_le (by omega) (by decide)]
            exact hw16.resolve_left e40)]
          exact hin _
    · have h20 : ¬ o = 20 := fun e => hfull (.inl e)
      have h8 : ¬ wi = 8 := fun e => hfull (.inr e)
      have F1 : Fr [(40, 2)] S (sI S 40 2 (oo (o + 1))) := Fr.sIp (Fr.rf _ _) rfl
      have F2 : Fr [(188, 57), (188, 58)] T (sI (sI T 188 57 (oo (o + 1))) 188 58 (oo (wi + 1))) := Fr.sIp (Fr.sIp (Fr.rf _ _) rfl) rfl
      obtain ⟨s1, s2⟩ := step_c hx (hR.1.fr F1 rfl) hiL
      obtain ⟨T1, g1, g2, g3⟩ := goN hx (hR.2.1.fr F2 rfl) hiL
      have FC : Fr [(40, 2), (1, 9), (1, 10)] S (t_X8_step 1 (sI S 40 2 (oo (o + 1)))) := Fr.trans (F1.mono rfl) (s2.mono rfl)
      have FN : Fr [(188, 57), (188, 58), (188, 5), (188, 6), (188, 7), (188, 8), (188, 9), (188, 12)] T T1 := Fr.trans (F2.mono rfl) (g3.mono rfl)
      have hR1 : SR x L (i + 1) (o + 1) (wi + 1) st nv (t_X8_step 1 (sI S 40 2 (oo (o + 1)))) T1 := by
        obtain ⟨-, -, a3, a4, a5, a6, a7, a8, a9, a10⟩ := hR
        refine ⟨s1, g2, by rw [s2.get rfl, sI_same], by rw [g3.get rfl, sI_place (by decide), sI_same], by omega, by rw [g3.get rfl, sI_same], by rw [FC.get rfl]; exact a7, by rw [FN.get rfl]; exact a8, ?_, by rw [FN.row (c := 216) rfl]; exact a10⟩
        unfold stD at a9 ⊢
        rw [FC.row (c := 42) rfl, FC.row (c := 43) rfl, FC.row (c := 44) rfl]
        exact a9
      have hE1 : Env d v (t_X8_step 1 (sI S 40 2 (oo (o + 1)))) T1 := hE.fr FC FN rfl rfl
      have hq1 : st.length + q + 2 ≤ 2 * (o + 1) := by omega
      have hsp1 := hsp (by omega)
      have t0' : T1.1 190 0 = oo (v 0) := by rw [FN.row (c := 190) rfl]; exact t0
      have t1' : T1.1 190 1 = oo (v 1) := by rw [FN.row (c := 190) rfl]; exact t1
      have cls : ∀ z, f_X7_readInside rc 40 7 (oo (xK x i)) (oo (wi + 2)) (t_X8_step 1 (sI S 40 2 (oo (o + 1)))) = z → f_X7_readOne rc 40 7 (oo (wi + 1)) S = z.bind (fun q => match q with | (r4, S5) => some (r4, S5)) := fun z hz => by
        unfold f_X7_readOne
        rw [show rf 40 0 = 1 from rfl, e10, hbg, if_pos rfl, e402, show (20 : Int32) = oo 20 from rfl, ile (by decide) (by omega), if_neg (by omega), show (8 : Int32) = oo 8 from rfl, ile (by omega) (by decide), if_pos (by omega), show (1 : Int32) = oo 1 from rfl, oo_add, oo_add, hz]
      have pre : ∀ (X : XS → Option (Bool × XS)), (if T.1 188 57 = (20 : Int32) then ((f_X12_bad 188 (4 : Int32) T).bind (fun q => match q with | (r9, S10) => some (r9, S10))) else (if T.1 188 58 = (8 : Int32) then ((f_X12_bad 188 (4 : Int32) T).bind (fun q => match q with | (r12, S13) => some (r12, S13))) else ((f_X12_go 188 (sI (sI T 188 57 ((T.1 188 57) + (1 : Int32))) 188 58 (((sI T 188 57 ((T.1 188 57) + (1 : Int32))).1 188 58) + (1 : Int32)))).bind X))) = X T1 := fun X => by
        rw [if_neg (show ¬ T.1 188 57 = (20 : Int32) by rw [e57, show (20 : Int32) = oo 20 from rfl, oo_eq (by omega) (by decide)]; exact h20), if_neg (show ¬ T.1 188 58 = (8 : Int32) by rw [e58, show (8 : Int32) = oo 8 from rfl, oo_eq (by omega) (by decide)]; exact h8), sI_place (by decide), e57, e58, show (1 : Int32) = oo 1 from rfl, oo_add, oo_add, g1, Option.bind_some]
      have FCS : Fr FSC S (t_X8_step 1 (sI S 40 2 (oo (o + 1)))) := FC.mono rfl
      have FNS : Fr FSN T T1 := FN.mono rfl
      rcases (show xK x i = 40 ∨ xK x i = 134 ∨ xK x i = 135 ∨ xK x i = 139 ∨ xK x i = 140 ∨ xK x i = 141 ∨ xK x i = 142 ∨ xK x i = 143 ∨ xK x i = 144 by omega) with hK | hK | hK | hK | hK | hK | hK | hK | hK
      · -- 40
        rw [hK] at hsg hid cls
        have hin := par_p hx hsp1 hR1 hE1 hq1
        have h := wrap_p hin FCS FNS
        have ec := cls _ (by unfold f_X7_readInside; rw [if_pos (show oo 40 = (40 : Int32) from rfl), show rf 40 0 = 1 from rfl])
        rw [ec]
        have er : f_X12_readTerm rn 188 T = ((f_X12_readBracket rn 188 T1).bind (fun q => match q with | (x15, S16) => some (x15, (sI S16 188 58 ((S16.1 188 58) - (1 : Int32)))))) := by
          unfold f_X12_readTerm
          rw [show (40 : Int32) = oo 40 from rfl, hsg, show (9 : Int32) = oo 9 from rfl, hid, Option.bind_some]
          dsimp only
          rw [show decide (40 = 40) = true from rfl, if_pos rfl]
          refine (pre _).trans ?_
          rw [if_pos rfl]
          cases f_X12_readBracket rn 188 T1 <;> rfl
        rw [er]
        exact h
      · -- 134
        rw [hK] at hsg hid cls
        have hin := named_p (srt := 1) (base := 6) (K := 134) (w := 62) (wd := 12) hx hR1 hE1 hq1 (by decide) rfl bb1 rfl (.inl ⟨rfl, rfl⟩)
        have h := wrap_p hin FCS FNS
        have ec := cls _ (by unfold f_X7_readInside; rw [if_neg (show ¬ oo 134 = (40 : Int32) by decide), if_pos (show oo 134 = (134 : Int32) from rfl)])
        rw [ec]
        have er : f_X12_readTerm rn 188 T = ((f_X12_readNamed 188 (oo 12) (oo 6) (oo (v (mnI 1))) T1).bind (fun q => match q with | (x15, S16) => some (x15, (sI S16 188 58 ((S16.1 188 58) - (1 : Int32)))))) := by
          unfold f_X12_readTerm
          rw [show (40 : Int32) = oo 40 from rfl, hsg, show (9 : Int32) = oo 9 from rfl, hid, Option.bind_some]
          dsimp only
          rw [show decide (134 = 40) = false from rfl, if_neg (by decide), show wiF 134 8 9 = 12 from by decide, if_pos (show oo 12 ≤ (16 : Int32) by decide)]
          refine (pre _).trans ?_
          rw [if_neg (by decide), if_neg (show ¬ oo 12 = oo 9 by decide), if_pos (show (12 : Int32) ≤ oo 12 by decide), if_pos (show oo 12 = (12 : Int32) from rfl), show rf 188 14 = 190 from rfl, t1', show (6 : Int32) = oo 6 from rfl]
          show ((f_X12_readNamed 188 (oo 12) (oo 6) (oo (v (mnI 1))) T1).bind _).bind _ = _
          cases f_X12_readNamed 188 (oo 12) (oo 6) (oo (v (mnI 1))) T1 <;> rfl
        rw [er]
        exact h
      · -- 135
        rw [hK] at hsg hid cls
        have hin := named_p (srt := 0) (base := 0) (K := 135) (w := 63) (wd := 13) hx hR1 hE1 hq1 (by decide) rfl bb0 rfl (.inr ⟨rfl, rfl⟩)
        have h := wrap_p hin FCS FNS
        have ec := cls _ (by unfold f_X7_readInside; rw [if_neg (show ¬ oo 135 = (40 : Int32) by decide), if_neg (show ¬ oo 135 = (134 : Int32) by decide), if_pos (show oo 135 = (135 : Int32) from rfl)])
        rw [ec]
        have er : f_X12_readTerm rn 188 T = ((f_X12_readNamed 188 (oo 13) (oo 0) (oo (v (mnI 0))) T1).bind (fun q => match q with | (x15, S16) => some (x15, (sI S16 188 58 ((S16.1 188 58) - (1 : Int32)))))) := by
          unfold f_X12_readTerm
          rw [show (40 : Int32) = oo 40 from rfl, hsg, show (9 : Int32) = oo 9 from rfl, hid, Option.bind_some]
          dsimp only
          rw [show decide (135 = 40) = false from rfl, if_neg (by decide), show wiF 135 8 9 = 13 from by decide, if_pos (show oo 13 ≤ (16 : Int32) by decide)]
          refine (pre _).trans ?_
          rw [if_neg (by decide), if_neg (show ¬ oo 13 = oo 9 by decide), if_pos (show (12 : Int32) ≤ oo 13 by decide), if_neg (show ¬ oo 13 = (12 : Int32) by decide), if_pos (show oo 13 = (13 : Int32) from rfl), show rf 188 14 = 190 from rfl, t0', show (0 : Int32) = oo 0 from rfl]
          show ((f_X12_readNamed 188 (oo 13) (oo 0) (oo (v (mnI 0))) T1).bind _).bind _ = _
          cases f_X12_readNamed 188 (oo 13) (oo 0) (oo (v (mnI 0))) T1 <;> rfl
        rw [er]
        exact h
      · -- 139
        rw [hK] at hsg hid cls
        have hin := not_p hsp1 hR1 hE1 hq1
        have h := wrap_p hin FCS FNS
        have ec := cls _ (by unfold f_X7_readInside; rw [if_neg (show ¬ oo 139 = (40 : Int32) by decide), if_neg (show ¬ oo 139 = (134 : Int32) by decide), if_neg (show ¬ oo 139 = (135 : Int32) by decide), if_pos (show oo 139 = (139 : Int32) from rfl)])
        rw [ec]
        have er : f_X12_readTerm rn 188 T = ((f_X12_readNot rn 188 T1).bind (fun q => match q with | (x15, S16) => some (x15, (sI S16 188 58 ((S16.1 188 58) - (1 : Int32)))))) := by
          unfold f_X12_readTerm
          rw [show (40 : Int32) = oo 40 from rfl, hsg, show (9 : Int32) = oo 9 from rfl, hid, Option.bind_some]
          dsimp only
          rw [show decide (139 = 40) = false from rfl, if_neg (by decide), show wiF 139 8 9 = 9 from by decide, if_pos (show oo 9 ≤ (16 : Int32) by decide)]
          refine (pre _).trans ?_
          rw [if_neg (by decide), if_pos (show oo 9 = oo 9 from rfl)]
          cases f_X12_readNot rn 188 T1 <;> rfl
        rw [er]
        exact h
      · -- 140
        rw [hK] at hsg hid cls
        have hin := plain_p (K := 140) (w := 60) hR1 hq1 (.inl ⟨rfl, rfl⟩)
        have h := wrap_p hin FCS FNS
        have ec := cls _ (by unfold f_X7_readInside; rw [if_neg (show ¬ oo 140 = (40 : Int32) by decide), if_neg (show ¬ oo 140 = (134 : Int32) by decide), if_neg (show ¬ oo 140 = (135 : Int32) by decide), if_neg (show ¬ oo 140 = (139 : Int32) by decide), if_pos (show oo 140 = (140 : Int32) from rfl)])
        rw [ec]
        have er : f_X12_readTerm rn 188 T = (((f_X12_saysOne 188 (oo 60) (oo 0) (oo 0) (oo 0) T1).bind (fun q => match q with | (r32, S33) => some (true, (sI S33 188 59 r32)))).bind (fun q => match q with | (x15, S16) => some (x15, (sI S16 188 58 ((S16.1 188 58) - (1 : Int32)))))) := by
          unfold f_X12_readTerm
          rw [show (40 : Int32) = oo 40 from rfl, hsg, show (9 : Int32) = oo 9 from rfl, hid, Option.bind_some]
          dsimp only
          rw [show decide (140 = 40) = false from rfl, if_neg (by decide), show wiF 140 8 9 = 10 from by decide, if_pos (show oo 10 ≤ (16 : Int32) by decide)]
          refine (pre _).trans ?_
          rw [if_neg (by decide), if_neg (show ¬ oo 10 = oo 9 by decide), if_neg (show ¬ (12 : Int32) ≤ oo 10 by decide), show (50 : Int32) = oo 50 from rfl, oo_add, show (0 : Int32) = oo 0 from rfl]
        rw [er]
        exact h
      · -- 141
        rw [hK] at hsg hid cls
        have hin := plain_p (K := 141) (w := 61) hR1 hq1 (.inr ⟨rfl, rfl⟩)
        have h := wrap_p hin FCS FNS
        have ec := cls _ (by unfold f_X7_readInside; rw [if_neg (show ¬ oo 141 = (40 : Int32) by decide), if_neg (show ¬ oo 141 = (134 : Int32) by decide), if_neg (show ¬ oo 141 = (135 : Int32) by decide), if_neg (show ¬ oo 141 = (139 : Int32) by decide), if_neg (show ¬ oo 141 = (140 : Int32) by decide), if_pos (show oo 141 = (141 : Int32) from rfl)])
        rw [ec]
        have er : f_X12_readTerm rn 188 T = (((f_X12_saysOne 188 (oo 61) (oo 0) (oo 0) (oo 0) T1).bind (fun q => match q with | (r32, S33) => some (true, (sI S33 188 59 r32)))).bind (fun q => match q with | (x15, S16) => some (x15, (sI S16 188 58 ((S16.1 188 58) - (1 : Int32)))))) := by
          unfold f_X12_readTerm
          rw [show (40 : Int32) = oo 40 from rfl, hsg, show (9 : Int32) = oo 9 from rfl, hid, Option.bind_some]
          dsimp only
          rw [show decide (141 = 40) = false from rfl, if_neg (by decide), show wiF 141 8 9 = 11 from by decide, if_pos (show oo 11 ≤ (16 : Int32) by decide)]
          refine (pre _).trans ?_
          rw [if_neg (by decide), if_neg (show ¬ oo 11 = oo 9 by decide), if_neg (show ¬ (12 : Int32) ≤ oo 11 by decide), show (50 : Int32) = oo 50 from rfl, oo_add, show (0 : Int32) = oo 0 from rfl]
        rw [er]
        exact h
      · -- 142
        rw [hK] at hsg hid cls
        have hin := meas_p (K := 142) (wd := 14) hx hR1 hq1 (.inl ⟨rfl, rfl⟩)
        have h := wrap_p hin FCS FNS
        have ec := cls (f_X7_readMeasure 40 (oo 142) (t_X8_step 1 (sI S 40 2 (oo (o + 1))))) (by unfold f_X7_readInside; rw [if_neg (show ¬ oo 142 = (40 : Int32) by decide), if_neg (show ¬ oo 142 = (134 : Int32) by decide), if_neg (show ¬ oo 142 = (135 : Int32) by decide), if_neg (show ¬ oo 142 = (139 : Int32) by decide), if_neg (show ¬ oo 142 = (140 : Int32) by decide), if_neg (show ¬ oo 142 = (141 : Int32) by decide)]; cases f_X7_readMeasure 40 (oo 142) (t_X8_step 1 (sI S 40 2 (oo (o + 1)))) <;> rfl)
        rw [ec]
        have er : f_X12_readTerm rn 188 T = ((f_X12_readCompare 188 (oo 14) T1).bind (fun q => match q with | (x15, S16) => some (x15, (sI S16 188 58 ((S16.1 188 58) - (1 : Int32)))))) := by
          unfold f_X12_readTerm
          rw [show (40 : Int32) = oo 40 from rfl, hsg, show (9 : Int32) = oo 9 from rfl, hid, Option.bind_some]
          dsimp only
          rw [show decide (142 = 40) = false from rfl, if_neg (by decide), show wiF 142 8 9 = 14 from by decide, if_pos (show oo 14 ≤ (16 : Int32) by decide)]
          refine (pre _).trans ?_
          rw [if_neg (by decide), if_neg (show ¬ oo 14 = oo 9 by decide), if_pos (show (12 : Int32) ≤ oo 14 by decide), if_neg (show ¬ oo 14 = (12 : Int32) by decide), if_neg (show ¬ oo 14 = (13 : Int32) by decide)]
          cases f_X12_readCompare 188 (oo 14) T1 <;> rfl
        rw [er]
        exact h
      · -- 143
        rw [hK] at hsg hid cls
        have hin := meas_p (K := 143) (wd := 15) hx hR1 hq1 (.inr (.inl ⟨rfl, rfl⟩))
        have h := wrap_p hin FCS FNS
        have ec := cls (f_X7_readMeasure 40 (oo 143) (t_X8_step 1 (sI S 40 2 (oo (o + 1))))) (by unfold f_X7_readInside; rw [if_neg (show ¬ oo 143 = (40 : Int32) by decide), if_neg (show ¬ oo 143 = (134 : Int32) by decide), if_neg (show ¬ oo 143 = (135 : Int32) by decide), if_neg (show ¬ oo 143 = (139 : Int32) by decide), if_neg (show ¬ oo 143 = (140 : Int32) by decide), if_neg (show ¬ oo 143 = (141 : Int32) by decide)]; cases f_X7_readMeasure 40 (oo 143) (t_X8_step 1 (sI S 40 2 (oo (o + 1)))) <;> rfl)
        rw [ec]
        have er : f_X12_readTerm rn 188 T = ((f_X12_readCompare 188 (oo 15) T1).bind (fun q => match q with | (x15, S16) => some (x15, (sI S16 188 58 ((S16.1 188 58) - (1 : Int32)))))) := by
          unfold f_X12_readTerm
          rw [show (40 : Int32) = oo 40 from rfl, hsg, show (9 : Int32) = oo 9 from rfl, hid, Option.bind_some]
          dsimp only
          rw [show decide (143 = 40) = false from rfl, if_neg (by decide), show wiF 143 8 9 = 15 from by decide, if_pos (show oo 15 ≤ (16 : Int32) by decide)]
          refine (pre _).trans ?_
          rw [if_neg (by decide), if_neg (show ¬ oo 15 = oo 9 by decide), if_pos (show (12 : Int32) ≤ oo 15 by decide), if_neg (show ¬ oo 15 = (12 : Int32) by decide), if_neg (show ¬ oo 15 = (13 : Int32) by decide)]
          cases f_X12_readCompare 188 (oo 15) T1 <;> rfl
        rw [er]
        exact h
      · -- 144
        rw [hK] at hsg hid cls
        have hin := meas_p (K := 144) (wd := 16) hx hR1 hq1 (.inr (.inr ⟨rfl, rfl⟩))
        have h := wrap_p hin FCS FNS
        have ec := cls (f_X7_readMeasure 40 (oo 144) (t_X8_step 1 (sI S 40 2 (oo (o + 1))))) (by unfold f_X7_readInside; rw [if_neg (show ¬ oo 144 = (40 : Int32) by decide), if_neg (show ¬ oo 144 = (134 : Int32) by decide), if_neg (show ¬ oo 144 = (135 : Int32) by decide), if_neg (show ¬ oo 144 = (139 : Int32) by decide), if_neg (show ¬ oo 144 = (140 : Int32) by decide), if_neg (show ¬ oo 144 = (141 : Int32) by decide)]; cases f_X7_readMeasure 40 (oo 144) (t_X8_step 1 (sI S 40 2 (oo (o + 1)))) <;> rfl)
        rw [ec]
        have er : f_X12_readTerm rn 188 T = ((f_X12_readCompare 188 (oo 16) T1).bind (fun q => match q with | (x15, S16) => some (x15, (sI S16 188 58 ((S16.1 188 58) - (1 : Int32)))))) := by
          unfold f_X12_readTerm
          rw [show (40 : Int32) = oo 40 from rfl, hsg, show (9 : Int32) = oo 9 from rfl, hid, Option.bind_some]
          dsimp only
          rw [show decide (144 = 40) = false from rfl, if_neg (by decide), show wiF 144 8 9 = 16 from by decide, if_pos (show oo 16 ≤ (16 : Int32) by decide)]
          refine (pre _).trans ?_
          rw [if_neg (by decide), if_neg (show ¬ oo 16 = oo 9 by decide), if_pos (show (12 : Int32) ≤ oo 16 by decide), if_neg (show ¬ oo 16 = (12 : Int32) by decide), if_neg (show ¬ oo 16 = (13 : Int32) by decide)]
          cases f_X12_readCompare 188 (oo 16) T1 <;> rfl
        rw [er]
        exact h
  · rw [decide_eq_false hb] at hbg
    have h17 : wiF (xK x i) 8 9 = 17 := wiF_no 8 9 rfl (fun j h1 h2 e => by
      have := kyR_9 j h1 h2
      omega)
    obtain ⟨U, u1, u2, u3, u4⟩ := fail_c hR.1 hx (oo 1)
    obtain ⟨V, v1, v2, v3, v4⟩ := bad_n hx hR.2.1 hi 1
    rw [bdK_1] at v2
    refine .inl ⟨U, V, ?_, ?_, ⟨1, xP x i, by decide, by decide, xP_le hx hi, u2, u3, v2, v3⟩, u4.mono rfl, v4.mono rfl⟩
    · unfold f_X7_readOne
      rw [show rf 40 0 = 1 from rfl, e10, hbg, if_neg (by decide), show (1 : Int32) = oo 1 from rfl, u1]
    · unfold f_X12_readTerm
      rw [show (40 : Int32) = oo 40 from rfl, hsg, show (9 : Int32) = oo 9 from rfl, hid, Option.bind_some]
      dsimp only
      rw [decide_eq_false (show ¬ xK x i = 40 from fun e => hb (.inl e)), if_neg (by decide), h17, if_neg (by decide), show (1 : Int32) = oo 1 from rfl, v1, Option.bind_some]
end TR1
theorem term_p {x : TX} {L : Nat} {d : Nat → List Nat} {v : Nat → Nat} (hx : xok x L) : ∀ m wi, wi + m = 12 → 1 ≤ m → wi ≤ 8 → Sp x L d v wi (fun S => rX7_readOne m 40 7 (oo (wi + 1)) S) (fun T => rX12_readTerm m 188 T) := by
  intro m
  induction m with
  | zero => intro wi _ h _; omega
  | succ m ih =>
    intro wi hw h1 h8
    exact term_1 (rc := rX7_readOne m) (rn := rX12_readTerm m) hx h8 (fun h => ih (wi + 1) (by omega) (by omega) (by omega))
