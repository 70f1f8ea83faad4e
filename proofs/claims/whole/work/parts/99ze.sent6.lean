/-! SENTENCE -/
def FSA : List (Nat × Nat) := [(4, 9999), (5, 9999), (6, 9999), (1, 2), (1, 3), (1, 8), (1, 9), (1, 10), (1, 11), (40, 2), (41, 3), (42, 9999), (43, 9999), (44, 9999)]
def FSB : List (Nat × Nat) := [(188, 0), (188, 2), (188, 3), (188, 4), (188, 10), (188, 5), (188, 6), (188, 7), (188, 8), (188, 9), (188, 12), (188, 13), (188, 11), (188, 56), (188, 57), (188, 58), (188, 59), (216, 9999)]
def FSD : List (Nat × Nat) := [(188, 0), (188, 2), (188, 3), (188, 4), (188, 10), (188, 5), (188, 6), (188, 7), (188, 8), (188, 9), (188, 12), (188, 13), (188, 11), (188, 56), (188, 57), (188, 58), (188, 59), (216, 9999), (190, 9999)]
def FSE : List (Nat × Nat) := [(4, 9999), (5, 9999), (6, 9999), (1, 1), (1, 2), (1, 3), (1, 8), (1, 9), (1, 10), (1, 11), (40, 2), (41, 3), (42, 9999), (43, 9999), (44, 9999), (188, 0), (188, 2), (188, 3), (188, 4), (188, 10), (188, 5), (188, 6), (188, 7), (188, 8), (188, 9), (188, 12), (188, 13), (188, 11), (188, 56), (188, 57), (188, 58), (188, 59), (216, 9999)]
theorem stext_rel {S T : XS} (hR : Rel S) (hF : Fr FSE S T) (h1 : T.1 1 1 = oo 0) (h2 : T.1 188 2 = oo 0) (hf : T.1 1 2 = T.1 188 10) : Rel T := by
  obtain ⟨⟨n, b, a0, a1, a2, a3⟩, -, a4, ⟨v, hv, hP⟩, a6, a7, a8, a9, a10, a11⟩ := hR
  exact ⟨⟨0, b, Nat.zero_le _, h1, h2, fun j hj => by rw [hF.row (c := 2) rfl, hF.row (c := 189) rfl]; exact a3 j hj⟩, hf, a4.fr hF rfl, ⟨v, hv.fr hF rfl rfl rfl rfl, hP.fr hF rfl rfl⟩, a6.fr hF rfl rfl, a7.fr hF rfl, a8.fr hF rfl, a9.fr hF rfl, a10.fr hF rfl, a11.fr hF rfl⟩
theorem oo_any (x : Int32) : oo x.toBitVec.toNat = x := by
  apply Int32.toBitVec_inj.1
  show (Int32.ofNat x.toBitVec.toNat).toBitVec = x.toBitVec
  rw [Int32.toBitVec_ofNat', BitVec.ofNat_toNat, BitVec.setWidth_eq]
/-- all that is so with a new sentence -/
def snN (v nv : Nat → Nat) (len k : Nat) (V : XS) (j : Nat) : Nat := if j = 274 then 1 else if j = 275 then k else if 276 ≤ j then (if j < 276 + 4 * len then nv j else (V.1 216 (j - 276)).toBitVec.toNat) else v j
theorem sn_lo {v nv : Nat → Nat} {len k j : Nat} {V : XS} (h : j < 274) : snN v nv len k V j = v j := by
  unfold snN
  rw [if_neg (by omega), if_neg (by omega), if_neg (by omega)]
theorem sn_nd {v nv : Nat → Nat} {len k j : Nat} {V : XS} (h : 276 ≤ j) (h2 : j < 276 + 4 * len) : snN v nv len k V j = nv j := by
  unfold snN
  rw [if_neg (by omega), if_neg (by omega), if_pos h, if_pos h2]
theorem sfin_n {V : XS} {v nv : Nat → Nat} {len k : Nat} (hN : IsC V 190 516 v) (hn : ∀ j, j < 4 * len → V.1 216 j = oo (nv (276 + j))) (h59 : V.1 188 59 = oo k) : ∃ W, f_X12_sentence_L79 188 1000000 (oo 0) (sI (sI V 190 274 (oo 1)) 190 275 ((sI V 190 274 (oo 1)).1 188 59)) = some W ∧ IsC W 190 516 (snN v nv len k V) ∧ Fr [(190, 9999)] V W := by
  have e59 : (sI V 190 274 (oo 1)).1 188 59 = oo k := by rw [sI_cell (by decide)]; exact h59
  rw [e59]
  have F0 : Fr [(190, 9999)] V (sI (sI V 190 274 (oo 1)) 190 275 (oo k)) := Fr.sIr (Fr.sIr (Fr.rf _ _) rfl) rfl
  have l1 := loop_blk (L := f_X12_sentence_L79 188) (a := 190) (lo := 276) (st := 0) (m := 240) (f := fun j => V.1 216 (j - 276)) (S := sI (sI V 190 274 (oo 1)) 190 275 (oo k)) (R := some (blk (sI (sI V 190 274 (oo 1)) 190 275 (oo k)) 190 276 240 (fun j => V.1 216 (j - 276)))) (fun i z hz => by
    rw [Nat.zero_add, f_X12_sentence_L79, if_neg (by rw [show (240 : Int32) = oo 240 from rfl, oo_le (by decide) (by omega)]; omega), show rf 188 55 = 216 from rfl, show rf 188 14 = 190 from rfl, if_neg (by rw [ln_216]; exact oo_inb (by omega) (by omega)), show (276 : Int32) = oo 276 from rfl, oo_add, if_neg (by rw [ln_190]; exact oo_inb (by omega) (by omega)), oo_nat (by omega), oo_nat (by omega), blk_cell (by decide), F0.row (c := 216) rfl, show (1 : Int32) = oo 1 from rfl, oo_add, Nat.add_sub_cancel_left]) (fun i => by
    rw [f_X12_sentence_L79, if_pos (by decide)]) 1000000 (by decide)
  refine ⟨_, l1, fun j hj => ?_, Fr.trans F0 (Fr.blk (Fr.rf _ _) rfl)⟩
  unfold snN
  by_cases c1 : 276 ≤ j
  · rw [if_neg (by omega), if_neg (by omega), if_pos c1, blk_in (by omega)]
    by_cases c2 : j < 276 + 4 * len
    · rw [if_pos c2, hn (j - 276) (by omega), show 276 + (j - 276) = j by omega]
    · rw [if_neg c2, oo_any]
  · rw [blk_out (by omega)]
    by_cases c2 : j = 275
    · rw [if_neg (by omega), if_pos c2, c2, sI_same]
    · rw [sI_place c2]
      by_cases c3 : j = 274
      · rw [if_pos c3, c3, sI_same]
      · rw [sI_place c3, if_neg c3, if_neg c2, if_neg c1]
        exact hN j hj
theorem sent_key {S : XS} {n : Nat} {b v : Nat → Nat} (hn : n ≤ 940) (e1 : S.1 1 1 = oo n) (hb : ∀ j, j < 940 → S.1 2 j = oo (b j) ∧ S.1 189 j = oo (b j) ∧ b j < 256) (hK : RKeys S) (hNm : NmOK (S.2 9) (S.2 195) v) (bb : v 0 ≤ 6 ∧ v 1 ≤ 6 ∧ v 3 ≤ 6) (hN : IsC S 190 516 v) : ∀ T0 : XS, T0.1 188 2 = oo n → T0.1 189 = S.1 189 → T0.1 190 = S.1 190 → T0.2 195 = S.2 195 →
    (∃ (U V : XS) (o k len : Nat) (nv : Nat → Nat) (W : XS), o ≤ 20 ∧ f_X7_read 40 7 S = some (oo o, U) ∧ f_X12_sentence 188 T0 = some (oo o, V) ∧ IsC V 190 516 (snN v nv len k W) ∧ SenOK U 41 (snN v nv len k W) ∧ U.1 1 2 = oo 0 ∧ V.1 188 10 = oo 0 ∧ V.1 188 2 = oo 0 ∧ Fr FSA S U ∧ Fr FSD T0 V) ∨
    (∃ U V, f_X7_read 40 7 S = some (-1, U) ∧ f_X12_sentence 188 T0 = some ((-1 : Int32) - V.1 188 11, V) ∧ Bad U V ∧ V.1 188 2 = oo 0 ∧ Fr FSA S U ∧ Fr FSB T0 V) := by
  obtain ⟨d, hdc, hdn⟩ := nm_d hNm bb
  obtain ⟨L, hx⟩ := xp_L (b, n, 200) hn (show 200 ≤ 940 by decide) (fun j hj => (hb j hj).2.2)
  have F0 : Fr [(41, 3), (40, 2)] S (sI (sI S 41 3 (oo 0)) 40 2 (oo 0)) := Fr.sIp (Fr.sIp (Fr.rf _ _) rfl) rfl
  obtain ⟨U0, p1, p2, p3, p4⟩ := begin_c (x := (b, n, 200)) hx (S := sI (sI S 41 3 (oo 0)) 40 2 (oo 0)) (by rw [F0.get rfl]; exact e1) (fun j hj => by rw [F0.row (c := 2) rfl]; exact (hb j hj).1) (hK.fr F0 rfl)
  have p1' : f_X8_begin 1 (200 : Int32) (sI (sI S 41 3 (oo 0)) 40 2 (oo 0)) = some U0 := p1
  have FU : Fr FSA S U0 := Fr.trans (F0.mono rfl) (p4.mono rfl)
  intro T0 t1 t2 t3 t4
  obtain ⟨V0, q1, q2, q3, q4, q5⟩ := begin_n (x := (b, n, 200)) hx (T := T0) t1 (fun j hj => by rw [t2]; exact (hb j hj).2.1)
  have q1' : f_X12_begin 188 (200 : Int32) T0 = some V0 := q1
  have F1 : Fr [(188, 56), (188, 57), (188, 58)] V0 (sI (sI (sI V0 188 56 (oo 0)) 188 57 (oo 0)) 188 58 (oo 0)) := Fr.sIp (Fr.sIp (Fr.sIp (Fr.rf _ _) rfl) rfl) rfl
  have FV : Fr FSB T0 (sI (sI (sI V0 188 56 (oo 0)) 188 57 (oo 0)) 188 58 (oo 0)) := Fr.trans (q5.mono rfl) (F1.mono rfl)
  have g56 : (sI (sI (sI V0 188 56 (oo 0)) 188 57 (oo 0)) 188 58 (oo 0)).1 188 56 = oo 0 := by rw [sI_place (by decide), sI_place (by decide), sI_same]
  have g57 : (sI (sI (sI V0 188 56 (oo 0)) 188 57 (oo 0)) 188 58 (oo 0)).1 188 57 = oo 0 := by rw [sI_place (by decide), sI_same]
  have g58 : (sI (sI (sI V0 188 56 (oo 0)) 188 57 (oo 0)) 188 58 (oo 0)).1 188 58 = oo 0 := sI_same _ _ _ _
  have g10 : (sI (sI (sI V0 188 56 (oo 0)) 188 57 (oo 0)) 188 58 (oo 0)).1 188 10 = oo 0 := by rw [F1.get rfl]; exact q3
  have g2 : (sI (sI (sI V0 188 56 (oo 0)) 188 57 (oo 0)) 188 58 (oo 0)).1 188 2 = oo 0 := by rw [F1.get rfl]; exact q4
  have hA := q2.fr F1 rfl
  have hru : f_X12_sentence 188 T0 = ((f_X12_readOr (rX12_readTerm 12) 188 (sI (sI (sI V0 188 56 (oo 0)) 188 57 (oo 0)) 188 58 (oo 0))).bind (fun q => match q with | (r2, S3) => (if r2 = true then (if (S3.1 188 7) = 0 then ((f_X12_sentence_L79 188 1000000 (oo 0) (sI (sI S3 190 274 (oo 1)) 190 275 ((sI S3 190 274 (oo 1)).1 188 59))).bind (fun S9 => some ((S9.1 188 57), S9))) else ((f_X12_bad 188 (oo 1) S3).bind (fun q => match q with | (r10, S11) => some (((-1 : Int32) - (S11.1 188 11)), S11)))) else some (((-1 : Int32) - (S3.1 188 11)), S3)))) := by
    unfold f_X12_sentence
    rw [q1', Option.bind_some]
    rfl
  generalize sI (sI (sI V0 188 56 (oo 0)) 188 57 (oo 0)) 188 58 (oo 0) = V1 at FV g56 g57 g58 g10 g2 hA hru
  have hSR : SR (b, n, 200) L 0 0 0 [] (fun _ => 0) U0 V1 := ⟨p2, hA, by rw [p4.get rfl, sI_same], g57, by omega, g58, by rw [p4.get rfl, sI_cell (by decide), sI_same]; rfl, g56, fun j hj => absurd hj (Nat.not_lt_zero _), fun j hj => absurd hj (Nat.not_lt_zero _)⟩
  have hE : Env d v U0 V1 := ⟨fun srt hs k hk => by rw [FU.row2 (c := 9) rfl]; exact hdc srt hs k hk, fun srt hs k hk => by rw [FV.row2 (c := 195) rfl, t4]; exact hdn srt hs k hk, by rw [FV.row (c := 190) rfl, t3]; exact hN 0 (by decide), by rw [FV.row (c := 190) rfl, t3]; exact hN 1 (by decide), bb.1, bb.2.1⟩
  have hc1 : f_X7_read 40 7 S = ((f_X7_readCond (rX7_readOne 12) 40 7 (oo 1) U0).bind (fun q => match q with | (r2, S3) => (if r2 = true then (if (S3.1 1 10) = 0 then some ((S3.1 40 2), S3) else some ((-1 : Int32), (t_X8_fail 1 (oo 1) S3).2)) else some ((-1 : Int32), S3)))) := by
    unfold f_X7_read t_X6_clear
    rw [show rf 40 0 = 1 from rfl, show rf 40 1 = 41 from rfl, show (0 : Int32) = oo 0 from rfl, p1', Option.bind_some]
    rfl
  rcases cond_p hx (all_p hx (term_p (d := d) (v := v) hx 12 0 rfl (by decide) (by decide))) 0 0 [] (fun _ => 0) 0 U0 V1 hSR hE (by simp) with ⟨U, V, u1, u2, u3, u4, u5⟩ | ⟨U, V, i', o', l, nv', k, u1, u2, u3, u4, u5, u6, u7, u8, u9, u10, u11⟩
  · refine .inr ⟨U, V, ?_, ?_, u3, by rw [u5.get rfl]; exact g2, Fr.trans FU (u4.mono rfl), Fr.trans FV (u5.mono rfl)⟩
    · rw [hc1, show f_X7_readCond (rX7_readOne 12) 40 7 (oo 1) U0 = some (false, U) from u1, Option.bind_some]
      dsimp only
      rw [if_neg (by decide)]
    · rw [hru, show f_X12_readOr (rX12_readTerm 12) 188 V1 = some (false, V) from u2, Option.bind_some]
      dsimp only
      rw [if_neg (by decide)]
  · rw [List.nil_append] at u3 u5 u8
    have hi : i' ≤ L := u3.1.1
    have hlt := xK_lt hx hi
    have e10 : U.1 1 10 = oo (xK (b, n, 200) i') := u3.1.2.2.2
    have hk0 := (kind_n hx u3.2.1 hi).1
    have ho := u3.2.2.2.2.1
    by_cases h0 : xK (b, n, 200) i' = 0
    · refine .inl ?_
      have hNV : IsC V 190 516 v := hN.cell (by rw [u11.row (c := 190) rfl, FV.row (c := 190) rfl, t3])
      obtain ⟨W, w1, w2, w3⟩ := sfin_n (len := l.length) hNV u3.2.2.2.2.2.2.2.2.2 u4
      obtain ⟨z1, z2⟩ := u6 (snN v nv' l.length k V) (fun j j0 j1 => sn_nd j0 (by omega)) 64 (by omega)
      refine ⟨U, W, o', k, l.length, nv', V, ho, ?_, ?_, w2, ?_, ?_, ?_, ?_, Fr.trans FU (u10.mono rfl), Fr.trans (FV.mono rfl) (Fr.trans (u11.mono rfl) (w3.mono rfl))⟩
      · rw [hc1, show f_X7_readCond (rX7_readOne 12) 40 7 (oo 1) U0 = some (true, U) from u1, Option.bind_some]
        dsimp only
        rw [if_pos rfl, e10, h0, if_pos (show oo 0 = (0 : Int32) from rfl), u3.2.2.1]
      · rw [hru, show f_X12_readOr (rX12_readTerm 12) 188 V1 = some (true, V) from u2, Option.bind_some]
        dsimp only
        rw [if_pos rfl, if_pos (hk0.mpr h0), w1, Option.bind_some, w3.get rfl, u3.2.2.2.1]
      · have e275 : snN v nv' l.length k V 275 = k := by
          unfold snN
          rw [if_neg (by decide), if_pos rfl]
        refine .inr ⟨?_, ?_, ?_, ?_, fun j hj => ?_⟩
        · unfold snN
          rw [if_pos rfl]
        · rw [e275]; exact z1
        · rw [e275, z2]; omega
        · rw [e275, z2]; exact u3.2.2.2.2.2.2.1
        · rw [e275, z2] at hj ⊢
          exact u3.2.2.2.2.2.2.2.2.1 j hj
      · rw [u10.get rfl]; exact p3
      · rw [w3.get rfl, u11.get rfl]; exact g10
      · rw [w3.get rfl, u11.get rfl]; exact g2
    · refine .inr ?_
      obtain ⟨Uf, f1, f2, f3, f4⟩ := fail_c u3.1 hx (oo 1)
      obtain ⟨Z, z1, z2, z3, z4⟩ := bad_n hx u3.2.1 hi 1
      rw [bdK_1] at z2
      refine ⟨Uf, Z, ?_, ?_, ⟨1, xP (b, n, 200) i', by decide, by decide, xP_le hx hi, f2, f3, z2, z3⟩, by rw [z4.get rfl, u11.get rfl]; exact g2, Fr.trans FU (Fr.trans (u10.mono rfl) (f4.mono rfl)), Fr.trans FV (Fr.trans (u11.mono rfl) (z4.mono rfl))⟩
      · rw [hc1, show f_X7_readCond (rX7_readOne 12) 40 7 (oo 1) U0 = some (true, U) from u1, Option.bind_some]
        dsimp only
        rw [if_pos rfl, e10, if_neg (show ¬ oo (xK (b, n, 200) i') = 0 by rw [show (0 : Int32) = oo 0 from rfl, oo_eq (by omega) (by decide)]; exact h0), f1]
      · rw [hru, show f_X12_readOr (rX12_readTerm 12) 188 V1 = some (true, V) from u2, Option.bind_some]
        dsimp only
        rw [if_pos rfl, if_neg (fun e => h0 (hk0.mp e)), z1, Option.bind_some]
theorem ag_sentence : Ag_sentence Rel := by
  intro S hR
  obtain ⟨hT, hFa, hK, ⟨v, hv, hP⟩, hKe, hNo, hWa, hC, hD, hX⟩ := id hR; obtain ⟨hN, hO, hS, hH, hW, hNm, hSe⟩ := id hv; obtain ⟨⟨b0, b1, b2, b3, b4, b5⟩, -⟩ := id hO
  obtain ⟨n, b, hn, e1, e2, hb⟩ := id hT
  have key := sent_key hn e1 hb hK hNm ⟨b0, b1, b3⟩ hN
  rcases key S e2 rfl rfl rfl with ⟨U, -, o, -, -, -, -, k9, k1, -, -, -, k8, -, -, kF, -⟩ | ⟨U, -, k1, -, -, -, kF, -⟩
  · have FA : Fr [(1, 1)] U (sI U 1 1 (oo 0)) := Fr.sIp (Fr.rf _ _) rfl
    obtain ⟨c1, c2⟩ := cpS_is (S := sI U 1 1 (oo 0)) sn_36 sn_41 (by omega)
    generalize hT3 : t_X6_copyFrom 36 41 (sI U 1 1 (oo 0)) = T3 at c1 c2
    have c2' : Fr [(36, 9999), (37, 9999), (38, 9999), (39, 9999)] (sI U 1 1 (oo 0)) T3 := c2.mono (by decide)
    have FS : Fr (FSA ++ [(1, 1), (36, 9999), (37, 9999), (38, 9999), (39, 9999)]) S T3 := Fr.trans (kF.mono rfl) (Fr.trans (FA.mono rfl) (c2'.mono rfl))
    rcases key T3 (by rw [FS.get rfl]; exact e2) (FS.row rfl) (FS.row rfl) (FS.row2 rfl) with ⟨U', V, o', k, len, nv, W, o9, m1, m2, m3, m4, m5, m6, m7, mF, mG⟩ | ⟨U', V, m1, -⟩
    · rw [k1] at m1
      have m1' := Option.some.inj m1
      obtain rfl : U = U' := congrArg Prod.snd m1'
      have ho : oo o = oo o' := congrArg Prod.fst m1'
      have FT : Fr (FSA ++ [(1, 1), (36, 9999), (37, 9999), (38, 9999), (39, 9999)] ++ FSD) S V := Fr.trans (FS.mono rfl) (mG.mono rfl)
      have ext : ∀ j, j < 144 → v j = snN v nv len k W j := fun j hj => (sn_lo (by omega)).symm
      have ext2 : ∀ j, j < 274 → v j = snN v nv len k W j := fun j hj => (sn_lo hj).symm
      obtain ⟨n0, b9, z1, z2, z3, z4⟩ := id hT
      obtain ⟨m0, q0, sn, y1, y2, y3, y4, y5, y6, y7⟩ := id hP
      refine ⟨oo o', T3, V, ?_, m2, ⟨0, b9, Nat.zero_le _, ?_, m7, fun j hj => by rw [FT.row (c := 2) rfl, FT.row (c := 189) rfl]; exact z4 j hj⟩, ?_, hK.fr FT rfl, ⟨snN v nv len k W, ⟨m3, hO.ext ext, hS.ext hO ext2, (hH.fr FT rfl).ext hO ext, (hW.fr FT rfl).ext (fun j _ h2 => ext2 j h2) hS.c8, ?_, ?_⟩, ⟨m0, q0, sn, y1, y2, by rw [FT.get rfl]; exact y3, by rw [FT.get rfl]; exact y4, by rw [FT.get rfl]; exact y5, y6.cell (FT.row rfl), fun j hj => ?_⟩⟩, hKe.fr FT rfl rfl, hNo.fr FT rfl, hWa.fr FT rfl, hC.fr FT rfl, hD.fr FT rfl, hX.fr FT rfl⟩
      · unfold f_X11_sentence
        rw [show rf 0 5 = 40 from rfl, show rf 0 0 = 1 from rfl, show rf 0 1 = 7 from rfl, show rf 40 1 = 41 from rfl, show rf 0 4 = 36 from rfl, k1, Option.bind_some, show (0 : Int32) = oo 0 from rfl]
        dsimp only
        rw [FA.get (c := 1) (j := 2) rfl, k8, if_pos rfl, hT3, ho]
      · rw [mG.get rfl, c2'.get rfl, sI_same]
      · unfold RFault
        rw [m6, mG.get rfl, c2'.get rfl, FA.get rfl, k8]
      · refine NmOK.ext ?_ ext
        rw [FT.row2 (c := 9) rfl, FT.row2 (c := 195) rfl]
        exact hNm
      · exact (c1 _ (m4.fr FA rfl)).fr mG rfl
      · have e : ∀ i, snv (snN v nv len k W) sn j i = snv v sn j i := fun i => by
          unfold snv
          by_cases hi : i < 144
          · rw [if_pos hi, if_pos hi, ← ext i hi]
          · rw [if_neg hi, if_neg hi]
        rw [show snv (snN v nv len k W) sn j = snv v sn j from funext e]
        refine ⟨(y7 j hj).1, (y7 j hj).2.fr2 FT (fun c h1 h2 => ?_)⟩
        have hh : ∀ c, 47 ≤ c → c < 111 → tcr (FSA ++ [(1, 1), (36, 9999), (37, 9999), (38, 9999), (39, 9999)] ++ FSD) c = false := by
          have h : ∀ c, c < 111 → 47 ≤ c → tcr (FSA ++ [(1, 1), (36, 9999), (37, 9999), (38, 9999), (39, 9999)] ++ FSD) c = false := by decide
          exact fun c h1 h2 => h c h2 h1
        exact hh c (by omega) (by omega)
    · rw [k1] at m1
      have hk : oo o = nn := congrArg Prod.fst (Option.some.inj m1)
      rw [oo_nn (by omega)] at hk
      exact absurd hk id
  · have FA : Fr [(1, 1)] U (sI U 1 1 (oo 0)) := Fr.sIp (Fr.rf _ _) rfl
    rcases key (sI U 1 1 (oo 0)) (by rw [FA.get rfl, kF.get rfl]; exact e2) (by rw [FA.row (c := 189) rfl, kF.row (c := 189) rfl]) (by rw [FA.row (c := 190) rfl, kF.row (c := 190) rfl]) (by rw [FA.row2 (c := 195) rfl, kF.row2 (c := 195) rfl]) with ⟨U', V, o', k, len, nv, W, o9, m1, -⟩ | ⟨U', V, m1, m2, ⟨e, q, z1, z2, z3, z4, z5, z6, z7⟩, m4, -, mG⟩
    · rw [k1] at m1
      have hk : nn = oo o' := congrArg Prod.fst (Option.some.inj m1)
      rw [nn_oo (by omega)] at hk
      exact absurd hk id
    · rw [k1] at m1
      obtain rfl : U = U' := congrArg Prod.snd (Option.some.inj m1)
      refine ⟨(-1 : Int32) - oo q, sI U 1 1 (oo 0), V, ?_, by rw [m2, z7], stext_rel hR (Fr.trans (kF.mono rfl) (Fr.trans (FA.mono rfl) (mG.mono rfl))) (by rw [mG.get rfl, sI_same]) m4 (by rw [mG.get rfl, FA.get rfl, z4, z6])⟩
      unfold f_X11_sentence
      rw [show rf 0 5 = 40 from rfl, show rf 0 0 = 1 from rfl, show rf 0 1 = 7 from rfl, k1, Option.bind_some, show (0 : Int32) = oo 0 from rfl]
      dsimp only
      rw [FA.get (c := 1) (j := 2) rfl, z4, if_neg (by rw [oo_eq (by omega) (by decide)]; omega), FA.get (c := 1) (j := 3) rfl, z5]
