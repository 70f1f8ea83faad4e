/-! the lines of a HILL: scents, witnesses -/
section LNS
variable {x : TX} {L i : Nat} {S T : XS} {d : Nat → List Nat} {v : Nat → Nat}
theorem DOK.new {w : Nat → Nat} {U V : XS} {srt0 : Nat} {l : List Nat} (h : DOK d v S T) (hs0 : srt0 < 3) (hm : v (mnI srt0) < 6) (hl : isLs l) (hne : l ≠ []) (u1 : U.2 19 (srt0 * 6 + v (mnI srt0)) = pk8 l) (u2 : ∀ j, j ≠ srt0 * 6 + v (mnI srt0) → U.2 19 j = S.2 19 j) (v1 : V.2 196 (srt0 * 6 + v (mnI srt0)) = pk27 l) (v2 : ∀ j, j ≠ srt0 * 6 + v (mnI srt0) → V.2 196 j = T.2 196 j) (w1 : w (mnI srt0) = v (mnI srt0) + 1) (w2 : ∀ srt, srt < 3 → srt ≠ srt0 → w (mnI srt) = v (mnI srt)) : DOK (fun j => if j = srt0 * 6 + v (mnI srt0) then l else d j) w U V := by
  intro srt hs k hk
  dsimp only
  by_cases e : srt = srt0
  · subst e
    rw [w1]
    by_cases e2 : k = v (mnI srt)
    · subst e2
      rw [if_pos rfl]
      exact ⟨fun _ => ⟨hl, hne, u1, v1⟩, fun q => by omega⟩
    · rw [if_neg (by omega), u2 _ (by omega), v2 _ (by omega)]
      exact ⟨fun q => (h srt hs k hk).1 (by omega), fun q => (h srt hs k hk).2 (by omega)⟩
  · rw [w2 srt hs e, if_neg (by omega), u2 _ (by omega), v2 _ (by omega)]
    exact h srt hs k hk
theorem scent_p (hx : xok x L) (hS : AtC x L i S) (hT : AtN x i T) (hiL : i < L) (hR : HRel d v S T) (hm : v 0 < 6) : LnR x L i S T (f_X3_readScent 16 (t_X8_step 1 S)) (f_X12_readScent 188 T) := by
  obtain ⟨hO, hH, hN, hD, hTo, hSm, hZe⟩ := id hR
  obtain ⟨⟨b0, b1, b2, b3, b4, b5⟩, hfa, har, hsm, hkp, hwt, hrn, hal⟩ := id hO
  obtain ⟨⟨n0, n1, n2, n3, n4, n5⟩, hfd, hai, hke, hst, hwe, hra⟩ := id hH
  obtain ⟨s1, s2⟩ := step_c hx hS hiL
  obtain ⟨T1, g1, g2, g3⟩ := goN hx hT hiL
  have FS : Fr FKC S (t_X8_step 1 S) := s2.mono rfl
  have FT : Fr FPO T T1 := g3.mono rfl
  have e0 : T.1 191 0 = oo (v 0) := hN 0 (by decide)
  have n6 : ¬ oo (v 0) = 6 := by rw [show (6 : Int32) = oo 6 from rfl, oo_eq (by omega) (by decide)]; omega
  have hD1 : DOK d v (t_X8_step 1 S) T1 := hD.fr FS FT rfl rfl
  have hN1 : IsC T1 191 144 v := hN.cell (FT.row rfl)
  rcases new_p (srt := 0) hx s1 g2 hO (by decide) hD1 hm (by rw [FS.row (c := 18) rfl]; exact n0) (hN1 0 (by decide)) (hN1 1 (by decide)) (hN1 3 (by decide)) with ⟨U, V, u1, u2, u3, u4, u5⟩ | ⟨U, V, l, hL1, l1, l2, u1, u2, u3, u4, u5, u6, u7, u8, u9, u10, u11, u12, u13⟩
  · have u2 : f_X12_readNew 188 (oo (v 0)) T1 = some (false, V) := by rw [← u2]; rw [show 0 * 6 + v (mnI 0) = v 0 from Nat.zero_add _]
    refine .inl ⟨U, V, ?_, ?_, u3, Fr.trans (FS.mono rfl) (u4.mono rfl), Fr.trans (FT.mono rfl) (u5.mono rfl)⟩
    · unfold f_X3_readScent
      rw [show rf 16 0 = 1 from rfl, show rf 16 1 = 17 from rfl, show (0 : Int32) = oo 0 from rfl, u1, Option.bind_some]
      dsimp only
      rw [if_neg (by decide)]
    · unfold f_X12_readScent
      rw [show rf 188 15 = 191 from rfl, e0, if_neg n6, g1, Option.bind_some]
      rw [u2, Option.bind_some]
      dsimp only
      rw [if_neg (by decide)]
  have u2 : f_X12_readNew 188 (oo (v 0)) T1 = some (true, V) := by rw [← u2]; rw [show 0 * 6 + v (mnI 0) = v 0 from Nat.zero_add _]
  have u5 : U.1 1 11 = oo (v 0) := u5
  rcases num_p (lo := 0) (hi := 9) hx u3 u4 (by decide) (by decide) with ⟨U2, V2, p1, p2, p3, p4, p5⟩ | ⟨k, U2, k1, k2, k3, hL2, p1, p2, p3, p4, p5, p6⟩
  · refine .inl ⟨U2, V2, ?_, ?_, p3, Fr.trans (FS.mono rfl) (Fr.trans (u12.mono rfl) (p4.mono rfl)), Fr.trans (FT.mono rfl) (Fr.trans (u13.mono rfl) (p5.mono rfl))⟩
    · unfold f_X3_readScent
      rw [show rf 16 0 = 1 from rfl, show rf 16 1 = 17 from rfl, show (0 : Int32) = oo 0 from rfl, u1, Option.bind_some]
      dsimp only
      rw [if_pos rfl]
      rw [show (9 : Int32) = oo 9 from rfl, p1, Option.bind_some]
      dsimp only
      rw [if_neg (by decide)]
    · unfold f_X12_readScent
      rw [show rf 188 15 = 191 from rfl, e0, if_neg n6, g1, Option.bind_some]
      rw [u2, Option.bind_some]
      dsimp only
      rw [if_pos rfl]
      unfold f_X12_readNumber
      rw [show (0 : Int32) = oo 0 from rfl, show (9 : Int32) = oo 9 from rfl, p2, Option.bind_some]
      dsimp only
      rw [if_neg (by decide), Option.bind_some]
      dsimp only
      rw [if_neg (by decide)]
  obtain ⟨Z, z1, z2, z3⟩ := goN hx p4 hL2
  refine .inr ?_
  obtain ⟨w, a, ac, ak⟩ : ∃ w : Nat → Nat, (∀ j, j ≠ 0 → j ≠ 6 + v 0 → w j = v j) ∧ w 0 = v 0 + 1 ∧ w (6 + v 0) = k := ⟨upN (upN v (6 + v 0) k) 0 (v 0 + 1), fun j h1 h2 => by rw [upN_ne h1, upN_ne h2], upN_same _ _ _, by rw [upN_ne (by omega), upN_same]⟩
  have F2 : Fr [(1, 9), (1, 10), (1, 11), (18, 9999), (19, 9999)] S U2 := Fr.trans (FS.mono rfl) (Fr.trans u12 (p6.mono rfl))
  have FU : Fr [(20, 9999)] U2 (sI U2 20 (v 0) (oo k)) := Fr.sIr (Fr.rf _ _) rfl
  have FA : Fr [(1, 9), (1, 10), (1, 11), (18, 9999), (19, 9999), (20, 9999)] S (sI U2 20 (v 0) (oo k)) := Fr.trans (F2.mono rfl) (FU.mono rfl)
  have FZ : Fr [(188, 5), (188, 6), (188, 7), (188, 8), (188, 9), (188, 12), (188, 13), (196, 9999)] T Z := Fr.trans (FT.mono rfl) (Fr.trans (u13.mono rfl) (Fr.trans (Fr.sIp (Fr.rf [(188, 13)] _) rfl |>.mono rfl) (z3.mono rfl)))
  have e13 : Z.1 188 13 = oo k := by rw [z3.get rfl, sI_same]
  have FV : Fr [(191, 9999)] Z (sI (sI Z 191 (6 + v 0) (oo k)) 191 0 (oo (v 0 + 1))) := Fr.sIr (Fr.sIr (Fr.rf _ _) rfl) rfl
  have FB : Fr FHO T (sI (sI Z 191 (6 + v 0) (oo k)) 191 0 (oo (v 0 + 1))) := Fr.trans (FZ.mono rfl) (FV.mono rfl)
  have eZ : Z.1 191 = T.1 191 := FZ.row rfl
  have hOw : HOK w := ⟨⟨by rw [ac]; omega, by rw [a 1 (by omega) (by omega) ]; omega, by rw [a 2 (by omega) (by omega) ]; omega, by rw [a 3 (by omega) (by omega) ]; omega, by rw [a 4 (by omega) (by omega) ]; omega, by rw [a 5 (by omega) (by omega) ]; omega⟩,
      fun s hs => by
        have := hfa s hs
        by_cases e : s = v 0
        · rw [e, ak, ac]; omega
        · rw [a _ (by omega) (by omega), ac]; omega,
      fun p s hp hs => by
        have := har p s hp hs
        rw [a _ (by omega) (by omega) , ac]
        omega,
      fun k hk => by
        rw [a 2 (by omega) (by omega) ] at hk
        have := hsm k hk
        rw [a (48 + 3 * k) (by omega) (by omega) , a (48 + 3 * k + 1) (by omega) (by omega) , a (48 + 3 * k + 2) (by omega) (by omega) , ac, a 1 (by omega) (by omega) ]
        omega,
      fun k hk => by
        rw [a 3 (by omega) (by omega) ] at hk
        have := hkp k hk
        rw [a (66 + k) (by omega) (by omega) , a (72 + k) (by omega) (by omega) , a 1 (by omega) (by omega) ]
        omega,
      fun k hk => by
        rw [a 4 (by omega) (by omega) ] at hk
        have := hwt k hk
        rw [a (78 + 3 * k) (by omega) (by omega) , a (78 + 3 * k + 1) (by omega) (by omega) , a (78 + 3 * k + 2) (by omega) (by omega) , a 3 (by omega) (by omega) , a 1 (by omega) (by omega) ]
        omega,
      fun k hk => by
        rw [a 5 (by omega) (by omega) ] at hk
        have := hrn k hk
        rw [a (138 + k) (by omega) (by omega) ]
        omega,
      fun j hj => by
        by_cases e : j = 0
        · rw [e, ac]; omega
        · by_cases e2 : j = 6 + v 0
          · rw [e2, ak]; omega
          · rw [a _ e e2]; exact hal j hj⟩
  have m18 : ∀ c, c < 6 → (sI U2 20 (v 0) (oo k)).1 18 c = if c = 0 then oo (v 0 + 1) else S.1 18 c := fun c hc => by
    rw [sI_cell (by decide), p6.row (c := 18) rfl]
    by_cases e : c = 0
    · rw [if_pos e, e]; exact u6
    · rw [if_neg e, u7 c e, FS.row (c := 18) rfl]
  refine ⟨sI U2 20 (v 0) (oo k), sI (sI Z 191 (6 + v 0) (oo k)) 191 0 (oo (v 0 + 1)), i + 3, fun j => if j = 0 * 6 + v (mnI 0) then l else d j, w, by omega, ?_, ?_, p3.fr FU rfl, z2.fr FV rfl, ?_, FA.mono rfl, FB⟩
  · unfold f_X3_readScent
    rw [show rf 16 0 = 1 from rfl, show rf 16 1 = 17 from rfl, show (0 : Int32) = oo 0 from rfl, u1, Option.bind_some]
    dsimp only
    rw [if_pos rfl]
    rw [show (9 : Int32) = oo 9 from rfl, p1, Option.bind_some]
    dsimp only
    rw [if_pos rfl, show rf 17 2 = 20 from rfl, u5, p5, p_20 (by omega)]
  · unfold f_X12_readScent
    rw [show rf 188 15 = 191 from rfl, e0, if_neg n6, g1, Option.bind_some]
    rw [u2, Option.bind_some]
    dsimp only
    rw [if_pos rfl]
    unfold f_X12_readNumber
    rw [show (0 : Int32) = oo 0 from rfl, show (9 : Int32) = oo 9 from rfl, p2, Option.bind_some]
    dsimp only
    rw [if_pos rfl, z1, Option.bind_some, Option.bind_some]
    dsimp only
    rw [if_pos rfl, show (6 : Int32) = oo 6 from rfl, oo_add, if_neg (by rw [ln_191]; exact oo_inb (by omega) (by omega)), oo_nat (by omega), e13, sI_place (by omega), eZ, e0, show (1 : Int32) = oo 1 from rfl, oo_add]
  · refine ⟨hOw, ⟨⟨?_, ?_, ?_, ?_, ?_, ?_⟩, ?_, ?_, ?_, ?_, ?_, ?_⟩, ?_, ?_, ?_, ?_, fun p s h1 hp hs => ?_⟩
    · rw [m18 0 (by decide), if_pos rfl, ac]
    · rw [m18 1 (by decide), if_neg (by decide), a 1 (by omega) (by omega) ]; exact n1
    · rw [m18 2 (by decide), if_neg (by decide), a 3 (by omega) (by omega) ]; exact n2
    · rw [m18 3 (by decide), if_neg (by decide), a 2 (by omega) (by omega) ]; exact n3
    · rw [m18 4 (by decide), if_neg (by decide), a 4 (by omega) (by omega) ]; exact n4
    · rw [m18 5 (by decide), if_neg (by decide), a 5 (by omega) (by omega) ]; exact n5
    · intro s hs
      by_cases e : s = v 0
      · rw [e, sI_same, ak]
      · rw [sI_place e, F2.row (c := 20) rfl, a _ (by omega) (by omega)]
        exact hfd s hs
    · intro p s hp hs
      rw [FA.row (c := 21) rfl, airN_cg hO (a 2 (by omega) (by omega) ) (fun j j1 j2 => a j (by omega) (by omega) ) hp hs]
      exact hai p s hp hs
    · intro s hs
      rw [FA.row (c := 22) rfl, a _ (by omega) (by omega) ]
      exact hke s hs
    · intro s hs
      rw [FA.row (c := 23) rfl, a _ (by omega) (by omega) ]
      exact hst s hs
    · intro t z ht hz
      rw [FA.row (c := 24) rfl, a 4 (by omega) (by omega) , wtN_cg (v := w) (w := v) (v 4) (fun j hj => ⟨a _ (by omega) (by omega) , a _ (by omega) (by omega) , a _ (by omega) (by omega) ⟩)]
      exact hwe t z ht hz
    · intro t ht
      rw [FA.row (c := 25) rfl, a 5 (by omega) (by omega) , rnN_cg (v := w) (w := v) (v 5) (fun j hj => a _ (by omega) (by omega) )]
      exact hra t ht
    · intro j hj
      by_cases e : j = 0
      · rw [e, sI_same, ac]
      · rw [sI_place e]
        by_cases e2 : j = 6 + v 0
        · rw [e2, sI_same, ak]
        · rw [sI_place e2, eZ, hN j hj, a _ e e2]
    · refine DOK.new hD (by decide) hm l1 l2 ?_ (fun j hj => ?_) ?_ (fun j hj => ?_) ac (fun srt hs hne => ?_)
      · rw [sI_long, p6.row2 (c := 19) rfl]; exact u8
      · rw [sI_long, p6.row2 (c := 19) rfl, u9 j hj, FS.row2 (c := 19) rfl]
      · rw [FV.row2 (c := 196) rfl, z3.row2 (c := 196) rfl, sI_long]; exact u10
      · rw [FV.row2 (c := 196) rfl, z3.row2 (c := 196) rfl, sI_long, u11 j hj, FT.row2 (c := 196) rfl]
      · rcases (show srt = 1 ∨ srt = 2 by omega) with rfl | rfl
        · exact a 1 (by omega) (by omega)
        · exact a 3 (by omega) (by omega)
    · intro p s hp hs
      rw [FA.row (c := 26) rfl, a _ (by omega) (by omega) ]
      exact hTo p s hp hs
    · intro s p c hs hp hc
      rw [FA.row (c := 27) rfl, a 2 (by omega) (by omega) , skF_cg (v := w) (w := v) (v 2) (fun j hj => ⟨a _ (by omega) (by omega) , a _ (by omega) (by omega) , a _ (by omega) (by omega) ⟩)]
      exact hSm s p c hs hp hc
    · rw [a 1 (by omega) (by omega) ] at h1
      rw [a _ (by omega) (by omega) ]
      exact hZe p s (by omega) hp hs
theorem witness_p (hx : xok x L) (hS : AtC x L i S) (hT : AtN x i T) (hiL : i < L) (hR : HRel d v S T) (hm : v 3 < 6) : LnR x L i S T (f_X3_readWitness 16 (t_X8_step 1 S)) (f_X12_readWitness 188 T) := by
  obtain ⟨hO, hH, hN, hD, hTo, hSm, hZe⟩ := id hR
  obtain ⟨⟨b0, b1, b2, b3, b4, b5⟩, hfa, har, hsm, hkp, hwt, hrn, hal⟩ := id hO
  obtain ⟨⟨n0, n1, n2, n3, n4, n5⟩, hfd, hai, hke, hst, hwe, hra⟩ := id hH
  obtain ⟨s1, s2⟩ := step_c hx hS hiL
  obtain ⟨T1, g1, g2, g3⟩ := goN hx hT hiL
  have FS : Fr FKC S (t_X8_step 1 S) := s2.mono rfl
  have FT : Fr FPO T T1 := g3.mono rfl
  have e0 : T.1 191 3 = oo (v 3) := hN 3 (by decide)
  have n6 : ¬ oo (v 3) = 6 := by rw [show (6 : Int32) = oo 6 from rfl, oo_eq (by omega) (by decide)]; omega
  have hD1 : DOK d v (t_X8_step 1 S) T1 := hD.fr FS FT rfl rfl
  have hN1 : IsC T1 191 144 v := hN.cell (FT.row rfl)
  rcases new_p (srt := 2) hx s1 g2 hO (by decide) hD1 hm (by rw [FS.row (c := 18) rfl]; exact n2) (hN1 0 (by decide)) (hN1 1 (by decide)) (hN1 3 (by decide)) with ⟨U, V, u1, u2, u3, u4, u5⟩ | ⟨U, V, l, hL1, l1, l2, u1, u2, u3, u4, u5, u6, u7, u8, u9, u10, u11, u12, u13⟩
  · have u2 : f_X12_readNew 188 (oo (12 + v 3)) T1 = some (false, V) := u2
    refine .inl ⟨U, V, ?_, ?_, u3, Fr.trans (FS.mono rfl) (u4.mono rfl), Fr.trans (FT.mono rfl) (u5.mono rfl)⟩
    · unfold f_X3_readWitness
      rw [show rf 16 0 = 1 from rfl, show rf 16 1 = 17 from rfl, show (2 : Int32) = oo 2 from rfl, u1, Option.bind_some]
      dsimp only
      rw [if_neg (by decide)]
    · unfold f_X12_readWitness
      rw [show rf 188 15 = 191 from rfl, e0, if_neg n6, g1, Option.bind_some, show (12 : Int32) = oo 12 from rfl, oo_add]
      rw [u2, Option.bind_some]
      dsimp only
      rw [if_neg (by decide)]
  have u2 : f_X12_readNew 188 (oo (12 + v 3)) T1 = some (true, V) := u2
  have u5 : U.1 1 11 = oo (v 3) := u5
  rcases num_p (lo := 1) (hi := 9) hx u3 u4 (by decide) (by decide) with ⟨U2, V2, p1, p2, p3, p4, p5⟩ | ⟨k, U2, k1, k2, k3, hL2, p1, p2, p3, p4, p5, p6⟩
  · refine .inl ⟨U2, V2, ?_, ?_, p3, Fr.trans (FS.mono rfl) (Fr.trans (u12.mono rfl) (p4.mono rfl)), Fr.trans (FT.mono rfl) (Fr.trans (u13.mono rfl) (p5.mono rfl))⟩
    · unfold f_X3_readWitness
      rw [show rf 16 0 = 1 from rfl, show rf 16 1 = 17 from rfl, show (2 : Int32) = oo 2 from rfl, u1, Option.bind_some]
      dsimp only
      rw [if_pos rfl]
      rw [show (1 : Int32) = oo 1 from rfl, show (9 : Int32) = oo 9 from rfl, p1, Option.bind_some]
      dsimp only
      rw [if_neg (by decide)]
    · unfold f_X12_readWitness
      rw [show rf 188 15 = 191 from rfl, e0, if_neg n6, g1, Option.bind_some, show (12 : Int32) = oo 12 from rfl, oo_add]
      rw [u2, Option.bind_some]
      dsimp only
      rw [if_pos rfl]
      unfold f_X12_readNumber
      rw [show (1 : Int32) = oo 1 from rfl, show (9 : Int32) = oo 9 from rfl, p2, Option.bind_some]
      dsimp only
      rw [if_neg (by decide), Option.bind_some]
      dsimp only
      rw [if_neg (by decide)]
  obtain ⟨Z, z1, z2, z3⟩ := goN hx p4 hL2
  have F2 : Fr [(1, 9), (1, 10), (1, 11), (18, 9999), (19, 9999)] S U2 := Fr.trans (FS.mono rfl) (Fr.trans u12 (p6.mono rfl))
  have FU : Fr [(22, 9999)] U2 (sI U2 22 (v 3) (oo k)) := Fr.sIr (Fr.rf _ _) rfl
  have FZ : Fr [(188, 5), (188, 6), (188, 7), (188, 8), (188, 9), (188, 12), (188, 13), (196, 9999)] T Z := Fr.trans (FT.mono rfl) (Fr.trans (u13.mono rfl) (Fr.trans (Fr.sIp (Fr.rf [(188, 13)] _) rfl |>.mono rfl) (z3.mono rfl)))
  have e13 : Z.1 188 13 = oo k := by rw [z3.get rfl, sI_same]
  have eZ : Z.1 191 = T.1 191 := FZ.row rfl
  have FV : Fr [(191, 9999)] Z (sI Z 191 (66 + v 3) (oo k)) := Fr.sIr (Fr.rf _ _) rfl
  have eV1 : (sI Z 191 (66 + v 3) (oo k)).1 191 1 = oo (v 1) := by rw [sI_place (by omega), eZ]; exact hN 1 (by decide)
  have hp := told_p (h := 17) (ch := 19) (cn := 196) (srt := 1) (base := 6) (many := v 1) (d := d) hx (p3.fr FU rfl) (z2.fr FV rfl) rfl ln_19 ln_196 (by decide) b1 rfl (fun q hq => by
    have := hD.c 1 (by decide) q hq
    rw [FU.row2 (c := 19) rfl, p6.row2 (c := 19) rfl, u9 _ (show 1 * 6 + q ≠ 2 * 6 + v (mnI 2) by omega), FS.row2 (c := 19) rfl]
    exact this) (fun q hq => by
    have := hD.n hO 1 (by decide) q hq
    have hq6 : q < 6 := Nat.lt_of_lt_of_le hq b1
    rw [FV.row2 (c := 196) rfl, z3.row2 (c := 196) rfl, sI_long, u11 _ (show 6 + q ≠ 2 * 6 + v (mnI 2) by omega), FT.row2 (c := 196) rfl]
    exact this)
  rcases hp with ⟨U3, V3, q1, q2, q3, q4, q5⟩ | ⟨pl, U3, hpl, hk3, hL3, hw3, q1, q2, q3, q4, q5, q6⟩
  · refine .inl ⟨U3, V3, ?_, ?_, q3, Fr.trans (F2.mono rfl) (Fr.trans (FU.mono rfl) (q4.mono rfl)), Fr.trans (FZ.mono rfl) (Fr.trans (FV.mono rfl) (q5.mono rfl))⟩
    · unfold f_X3_readWitness
      rw [show rf 16 0 = 1 from rfl, show rf 16 1 = 17 from rfl, show (2 : Int32) = oo 2 from rfl, u1, Option.bind_some]
      dsimp only
      rw [if_pos rfl]
      rw [show (1 : Int32) = oo 1 from rfl, show (9 : Int32) = oo 9 from rfl, p1, Option.bind_some]
      dsimp only
      rw [if_pos rfl, show rf 17 4 = 22 from rfl, u5, p5, p_22 (by omega)]
      rw [q1, Option.bind_some]
      dsimp only
      rw [if_neg (by decide)]
    · unfold f_X12_readWitness
      rw [show rf 188 15 = 191 from rfl, e0, if_neg n6, g1, Option.bind_some, show (12 : Int32) = oo 12 from rfl, oo_add]
      rw [u2, Option.bind_some]
      dsimp only
      rw [if_pos rfl]
      unfold f_X12_readNumber
      rw [show (1 : Int32) = oo 1 from rfl, show (9 : Int32) = oo 9 from rfl, p2, Option.bind_some]
      dsimp only
      rw [if_pos rfl, z1, Option.bind_some, Option.bind_some]
      dsimp only
      rw [if_pos rfl, show (66 : Int32) = oo 66 from rfl, oo_add, if_neg (by rw [ln_191]; exact oo_inb (by omega) (by omega)), oo_nat (by omega), e13, eV1]
      unfold f_X12_readOne
      rw [show rf 188 20 = 196 from rfl, show (6 : Int32) = oo 6 from rfl, q2, Option.bind_some]
      dsimp only
      rw [if_neg (by decide), Option.bind_some]
      dsimp only
      rw [if_neg (by decide)]
  obtain ⟨Y, y1, y2, y3⟩ := goN hx q4 hL3
  have y13 : Y.1 188 13 = oo pl := by rw [y3.get rfl, sI_same]
  have eY : Y.1 191 = (sI Z 191 (66 + v 3) (oo k)).1 191 := by rw [y3.row (c := 191) rfl, sI_cell (by decide)]
  refine .inr ?_
  obtain ⟨w, a, ac, ak, ap⟩ : ∃ w : Nat → Nat, (∀ j, j ≠ 3 → j ≠ 66 + v 3 → j ≠ 72 + v 3 → w j = v j) ∧ w 3 = v 3 + 1 ∧ w (66 + v 3) = k ∧ w (72 + v 3) = pl := ⟨upN (upN (upN v (66 + v 3) k) (72 + v 3) pl) 3 (v 3 + 1), fun j h1 h2 h3 => by rw [upN_ne h1, upN_ne h3, upN_ne h2], upN_same _ _ _, by rw [upN_ne (by omega), upN_ne (by omega), upN_same], by rw [upN_ne (by omega), upN_same]⟩
  have FU3 : Fr [(23, 9999)] U3 (sI U3 23 (v 3) (oo pl)) := Fr.sIr (Fr.rf _ _) rfl
  have F3 : Fr [(1, 9), (1, 10), (1, 11), (18, 9999), (19, 9999), (22, 9999)] S U3 := Fr.trans (F2.mono rfl) (Fr.trans (FU.mono rfl) (q6.mono rfl))
  have FA : Fr [(1, 9), (1, 10), (1, 11), (18, 9999), (19, 9999), (22, 9999), (23, 9999)] S (sI U3 23 (v 3) (oo pl)) := Fr.trans (F3.mono rfl) (FU3.mono rfl)
  have FV3 : Fr [(191, 9999)] Y (sI (sI Y 191 (72 + v 3) (oo pl)) 191 3 (oo (v 3 + 1))) := Fr.sIr (Fr.sIr (Fr.rf _ _) rfl) rfl
  have FB : Fr FHO T (sI (sI Y 191 (72 + v 3) (oo pl)) 191 3 (oo (v 3 + 1))) := Fr.trans (FZ.mono rfl) (Fr.trans (FV.mono rfl) (Fr.trans (Fr.sIp (Fr.rf [(188, 13)] _) rfl |>.mono rfl) (Fr.trans (y3.mono rfl) (FV3.mono rfl))))
  have hOw : HOK w := ⟨⟨by rw [a 0 (by omega) (by omega) (by omega) ]; omega, by rw [a 1 (by omega) (by omega) (by omega) ]; omega, by rw [a 2 (by omega) (by omega) (by omega) ]; omega, by rw [ac]; omega, by rw [a 4 (by omega) (by omega) (by omega) ]; omega, by rw [a 5 (by omega) (by omega) (by omega) ]; omega⟩,
      fun s hs => by rw [a _ (by omega) (by omega) (by omega) , a 0 (by omega) (by omega) (by omega) ]; exact hfa s hs,
      fun p s hp hs => by rw [a _ (by omega) (by omega) (by omega) , a 0 (by omega) (by omega) (by omega) ]; exact har p s hp hs,
      fun k hk => by
        rw [a 2 (by omega) (by omega) (by omega) ] at hk
        have := hsm k hk
        rw [a (48 + 3 * k) (by omega) (by omega) (by omega) , a (48 + 3 * k + 1) (by omega) (by omega) (by omega) , a (48 + 3 * k + 2) (by omega) (by omega) (by omega) , a 0 (by omega) (by omega) (by omega) , a 1 (by omega) (by omega) (by omega) ]
        omega,
      fun j hj => by
        rw [ac] at hj
        by_cases e : j = v 3
        · rw [e, ak, ap, a 1 (by omega) (by omega) (by omega)]; omega
        · have := hkp j (by omega)
          rw [a _ (by omega) (by omega) (by omega), a _ (by omega) (by omega) (by omega), a 1 (by omega) (by omega) (by omega)]; omega,
      fun k hk => by
        rw [a 4 (by omega) (by omega) (by omega)] at hk
        have := hwt k hk
        rw [a (78 + 3 * k) (by omega) (by omega) (by omega), a (78 + 3 * k + 1) (by omega) (by omega) (by omega), a (78 + 3 * k + 2) (by omega) (by omega) (by omega), ac, a 1 (by omega) (by omega) (by omega)]
        omega,
      fun k hk => by
        rw [a 5 (by omega) (by omega) (by omega) ] at hk
        have := hrn k hk
        rw [a (138 + k) (by omega) (by omega) (by omega) ]
        omega,
      fun j hj => by
        by_cases e : j = 3
        · rw [e, ac]; omega
        · by_cases e2 : j = 66 + v 3
          · rw [e2, ak]; omega
          · by_cases e3 : j = 72 + v 3
            · rw [e3, ap]; omega
            · rw [a _ e e2 e3]; exact hal j hj⟩
  have m18 : ∀ c, c < 6 → (sI U3 23 (v 3) (oo pl)).1 18 c = if c = 2 then oo (v 3 + 1) else S.1 18 c := fun c hc => by
    rw [sI_cell (by decide), q6.row (c := 18) rfl, sI_cell (by decide), p6.row (c := 18) rfl]
    by_cases e : c = 2
    · rw [if_pos e, e]; exact u6
    · rw [if_neg e, u7 c e, FS.row (c := 18) rfl]
  refine ⟨sI U3 23 (v 3) (oo pl), sI (sI Y 191 (72 + v 3) (oo pl)) 191 3 (oo (v 3 + 1)), i + 4, fun j => if j = 2 * 6 + v (mnI 2) then l else d j, w, by omega, ?_, ?_, q3.fr FU3 rfl, y2.fr FV3 rfl, ?_, FA.mono rfl, FB⟩
  · unfold f_X3_readWitness
    rw [show rf 16 0 = 1 from rfl, show rf 16 1 = 17 from rfl, show (2 : Int32) = oo 2 from rfl, u1, Option.bind_some]
    dsimp only
    rw [if_pos rfl]
    rw [show (1 : Int32) = oo 1 from rfl, show (9 : Int32) = oo 9 from rfl, p1, Option.bind_some]
    dsimp only
    rw [if_pos rfl, show rf 17 4 = 22 from rfl, u5, p5, p_22 (by omega)]
    rw [q1, Option.bind_some]
    dsimp only
    rw [if_pos rfl, show rf 17 5 = 23 from rfl, q5, p_23 (by omega)]
  · unfold f_X12_readWitness
    rw [show rf 188 15 = 191 from rfl, e0, if_neg n6, g1, Option.bind_some, show (12 : Int32) = oo 12 from rfl, oo_add]
    rw [u2, Option.bind_some]
    dsimp only
    rw [if_pos rfl]
    unfold f_X12_readNumber
    rw [show (1 : Int32) = oo 1 from rfl, show (9 : Int32) = oo 9 from rfl, p2, Option.bind_some]
    dsimp only
    rw [if_pos rfl, z1, Option.bind_some, Option.bind_some]
    dsimp only
    rw [if_pos rfl, show (66 : Int32) = oo 66 from rfl, oo_add, if_neg (by rw [ln_191]; exact oo_inb (by omega) (by omega)), oo_nat (by omega), e13, eV1]
    unfold f_X12_readOne
    rw [show rf 188 20 = 196 from rfl, show (6 : Int32) = oo 6 from rfl, q2, Option.bind_some]
    dsimp only
    rw [if_pos rfl, y1, Option.bind_some, Option.bind_some]
    dsimp only
    rw [if_pos rfl, show (72 : Int32) = oo 72 from rfl, oo_add, if_neg (by rw [ln_191]; exact oo_inb (by omega) (by omega)), oo_nat (by omega), y13, sI_place (by omega), eY, sI_place (by omega), eZ, e0, oo_add]
  · refine ⟨hOw, ⟨⟨?_, ?_, ?_, ?_, ?_, ?_⟩, ?_, ?_, ?_, ?_, ?_, ?_⟩, ?_, ?_, ?_, ?_, fun p s h1 hp hs => ?_⟩
    · rw [m18 0 (by decide), if_neg (by decide), a 0 (by omega) (by omega) (by omega) ]; exact n0
    · rw [m18 1 (by decide), if_neg (by decide), a 1 (by omega) (by omega) (by omega) ]; exact n1
    · rw [m18 2 (by decide), if_pos rfl, ac]
    · rw [m18 3 (by decide), if_neg (by decide), a 2 (by omega) (by omega) (by omega) ]; exact n3
    · rw [m18 4 (by decide), if_neg (by decide), a 4 (by omega) (by omega) (by omega) ]; exact n4
    · rw [m18 5 (by decide), if_neg (by decide), a 5 (by omega) (by omega) (by omega) ]; exact n5
    · intro s hs
      rw [FA.row (c := 20) rfl, a _ (by omega) (by omega) (by omega) ]
      exact hfd s hs
    · intro p s hp hs
      rw [FA.row (c := 21) rfl, airN_cg hO (a 2 (by omega) (by omega) (by omega) ) (fun j j1 j2 => a j (by omega) (by omega) (by omega) ) hp hs]
      exact hai p s hp hs
    · intro s hs
      by_cases e : s = v 3
      · rw [FU3.row (c := 22) rfl, q6.row (c := 22) rfl, e, sI_same, ak]
      · rw [FU3.row (c := 22) rfl, q6.row (c := 22) rfl, sI_place e, F2.row (c := 22) rfl, a _ (by omega) (by omega) (by omega)]
        exact hke s hs
    · intro s hs
      by_cases e : s = v 3
      · rw [e, sI_same, ap]
      · rw [sI_place e, F3.row (c := 23) rfl, a _ (by omega) (by omega) (by omega)]
        exact hst s hs
    · intro t z ht hz
      rw [FA.row (c := 24) rfl, a 4 (by omega) (by omega) (by omega) , wtN_cg (v := w) (w := v) (v 4) (fun j hj => ⟨a _ (by omega) (by omega) (by omega) , a _ (by omega) (by omega) (by omega) , a _ (by omega) (by omega) (by omega) ⟩)]
      exact hwe t z ht hz
    · intro t ht
      rw [FA.row (c := 25) rfl, a 5 (by omega) (by omega) (by omega) , rnN_cg (v := w) (w := v) (v 5) (fun j hj => a _ (by omega) (by omega) (by omega) )]
      exact hra t ht
    · intro j hj
      by_cases e : j = 3
      · rw [e, sI_same, ac]
      · rw [sI_place e]
        by_cases e2 : j = 72 + v 3
        · rw [e2, sI_same, ap]
        · rw [sI_place e2, eY]
          by_cases e3 : j = 66 + v 3
          · rw [e3, sI_same, ak]
          · rw [sI_place e3, eZ, hN j hj, a _ e e3 e2]
    · refine DOK.new hD (by decide) hm l1 l2 ?_ (fun j hj => ?_) ?_ (fun j hj => ?_) ac (fun srt hs hne => ?_)
      · rw [sI_long, q6.row2 (c := 19) rfl, sI_long, p6.row2 (c := 19) rfl]; exact u8
      · rw [sI_long, q6.row2 (c := 19) rfl, sI_long, p6.row2 (c := 19) rfl, u9 j hj, FS.row2 (c := 19) rfl]
      · rw [FV3.row2 (c := 196) rfl, y3.row2 (c := 196) rfl, sI_long, sI_long, z3.row2 (c := 196) rfl, sI_long]; exact u10
      · rw [FV3.row2 (c := 196) rfl, y3.row2 (c := 196) rfl, sI_long, sI_long, z3.row2 (c := 196) rfl, sI_long, u11 j hj, FT.row2 (c := 196) rfl]
      · rcases (show srt = 0 ∨ srt = 1 by omega) with rfl | rfl
        · exact a 0 (by omega) (by omega) (by omega)
        · exact a 1 (by omega) (by omega) (by omega)
    · intro p s hp hs
      rw [FA.row (c := 26) rfl, a _ (by omega) (by omega) (by omega) ]
      exact hTo p s hp hs
    · intro s p c hs hp hc
      rw [FA.row (c := 27) rfl, a 2 (by omega) (by omega) (by omega) , skF_cg (v := w) (w := v) (v 2) (fun j hj => ⟨a _ (by omega) (by omega) (by omega) , a _ (by omega) (by omega) (by omega) , a _ (by omega) (by omega) (by omega) ⟩)]
      exact hSm s p c hs hp hc
    · rw [a 1 (by omega) (by omega) (by omega) ] at h1
      rw [a _ (by omega) (by omega) (by omega) ]
      exact hZe p s (by omega) hp hs
end LNS
