/-! the lines of a HILL: a place, whole -/
def plW (v g : Nat → Nat) (j : Nat) : Nat := if j = 1 then v 1 + 1 else if 12 + 6 * v 1 ≤ j ∧ j < 18 + 6 * v 1 then g (j - (12 + 6 * v 1)) else v j
section LNS
variable {x : TX} {L i : Nat} {S T : XS} {d : Nat → List Nat} {v : Nat → Nat}
theorem zero6_n {p : Nat} {V : XS} (hp : p < 6) {i2 : Int32} : f_X12_readPlace_L40 i2 (oo p) 188 1000000 (oo 0) V = some (blk V 191 (12 + 6 * p) 6 (fun _ => oo 0)) :=
  loop_blk (L := f_X12_readPlace_L40 i2 (oo p) 188) (a := 191) (lo := 12 + 6 * p) (st := 0) (m := 6) (f := fun _ => oo 0) (S := V) (R := some (blk V 191 (12 + 6 * p) 6 (fun _ => oo 0))) (fun i k hk => by
    rw [Nat.zero_add, f_X12_readPlace_L40, if_neg (by rw [show (6 : Int32) = oo 6 from rfl, oo_le (by decide) (by omega)]; omega), show rf 188 15 = 191 from rfl, show (12 : Int32) = oo 12 from rfl, show (6 : Int32) = oo 6 from rfl, oo_mul, oo_add, oo_add, if_neg (by rw [ln_191]; exact oo_inb (by omega) (by omega)), oo_nat (by omega), show (1 : Int32) = oo 1 from rfl, oo_add]
    rfl) (fun i => by
    rw [f_X12_readPlace_L40, if_pos (by decide)]) 1000000 (by decide)
theorem place_p (hx : xok x L) (hS : AtC x L i S) (hT : AtN x i T) (hiL : i < L) (hR : HRel d v S T) (hm : v 1 < 6) : LnS x L i S T (f_X3_readPlace 16 (t_X8_step 1 S)) (f_X12_readPlace 188 T) := by
  obtain ⟨hO, hH, hN, hD, hTo, hSm, hZe⟩ := id hR
  obtain ⟨⟨b0, b1, b2, b3, b4, b5⟩, hfa, har, hsm, hkp, hwt, hrn, hal⟩ := id hO
  obtain ⟨⟨n0, n1, n2, n3, n4, n5⟩, hfd, hai, hke, hst, hwe, hra⟩ := id hH
  obtain ⟨s1, s2⟩ := step_c hx hS hiL
  obtain ⟨T1, g1, g2, g3⟩ := goN hx hT hiL
  have FS : Fr FKC S (t_X8_step 1 S) := s2.mono rfl
  have FT : Fr FPO T T1 := g3.mono rfl
  have e0 : T.1 191 1 = oo (v 1) := hN 1 (by decide)
  have n6 : ¬ oo (v 1) = 6 := by rw [show (6 : Int32) = oo 6 from rfl, oo_eq (by omega) (by decide)]; omega
  have hD1 : DOK d v (t_X8_step 1 S) T1 := hD.fr FS FT rfl rfl
  have hN1 : IsC T1 191 144 v := hN.cell (FT.row rfl)
  rcases new_p (srt := 1) hx s1 g2 hO (by decide) hD1 hm (by rw [FS.row (c := 18) rfl]; exact n1) (hN1 0 (by decide)) (hN1 1 (by decide)) (hN1 3 (by decide)) with ⟨U, V, u1, u2, u3, u4, u5⟩ | ⟨U, V, l, hL1, l1, l2, u1, u2, u3, u4, u5, u6, u7, u8, u9, u10, u11, u12, u13⟩
  · have u2 : f_X12_readNew 188 (oo (6 + v 1)) T1 = some (false, V) := u2
    refine .inl (.inl ⟨U, V, ?_, ?_, u3, Fr.trans (FS.mono rfl) (u4.mono rfl), Fr.trans (FT.mono rfl) (u5.mono rfl)⟩)
    · unfold f_X3_readPlace
      rw [show rf 16 0 = 1 from rfl, show rf 16 1 = 17 from rfl, show (1 : Int32) = oo 1 from rfl, u1, Option.bind_some]
      dsimp only
      rw [if_neg (by decide)]
    · unfold f_X12_readPlace
      rw [show rf 188 15 = 191 from rfl, e0, if_neg n6, g1, Option.bind_some, show (6 : Int32) = oo 6 from rfl, oo_add]
      rw [u2, Option.bind_some]
      dsimp only
      rw [if_neg (by decide)]
  have u2 : f_X12_readNew 188 (oo (6 + v 1)) T1 = some (true, V) := u2
  have u5 : U.1 1 11 = oo (v 1) := u5
  have FB1 : Fr [(191, 9999)] V (blk V 191 (12 + 6 * v 1) 6 (fun _ => oo 0)) := Fr.blk (Fr.rf _ _) rfl
  have q191 : ∀ q, ¬ (12 + 6 * v 1 ≤ q ∧ q < 18 + 6 * v 1) → (blk V 191 (12 + 6 * v 1) 6 (fun _ => oo 0)).1 191 q = T.1 191 q := fun q hq => by
    rw [blk_out (by omega), u13.row (c := 191) rfl, FT.row (c := 191) rfl]
  have qin : ∀ s, s < 6 → (blk V 191 (12 + 6 * v 1) 6 (fun _ => oo 0)).1 191 (12 + 6 * v 1 + s) = oo 0 := fun s hs => blk_in (by omega)
  have FVB : Fr [(188, 5), (188, 6), (188, 7), (188, 8), (188, 9), (188, 12), (188, 13), (191, 9999), (196, 9999)] T (blk V 191 (12 + 6 * v 1) 6 (fun _ => oo 0)) := Fr.trans (FT.mono rfl) (Fr.trans (u13.mono rfl) (FB1.mono rfl))
  have v2 : ∀ j, j ≠ 1 * 6 + v (mnI 1) → (blk V 191 (12 + 6 * v 1) 6 (fun _ => oo 0)).2 196 j = T.2 196 j := fun j hj => by
    rw [blk_long, u11 j hj, FT.row2 (c := 196) rfl]
  have v1 : (blk V 191 (12 + 6 * v 1) 6 (fun _ => oo 0)).2 196 (1 * 6 + v (mnI 1)) = pk27 l := by rw [blk_long]; exact u10
  have hVB := u4.fr FB1 rfl
  have hz6 := zero6_n (p := v 1) (V := V) (i2 := oo 0) hm
  generalize blk V 191 (12 + 6 * v 1) 6 (fun _ => oo 0) = VB at hz6 FB1 q191 qin FVB v1 v2 hVB
  have F1 : Fr [(1, 9), (1, 10), (1, 11), (18, 9999), (19, 9999)] S U := Fr.trans (FS.mono rfl) u12
  have hz0 : ∀ s, s < 6 → airN v (v 1) s = 0 := fun s hs => by
    unfold airN
    rw [hZe (v 1) s (Nat.le_refl _) hm hs, smkN_z (v 2) 0 (fun j j1 j2 => by have := (hsm j (by omega)).2.2; omega)]
  have hsml := smells_p (d := d) hx b0 hm 6 0 (i + 2) 1000000 1000000 U VB (fun _ => 0) 0 rfl (by decide) (by decide) rfl (fun s hs => ⟨Nat.zero_le _, fun _ => rfl⟩) u3 hVB (fun s hs => by
    rw [F1.row (c := 26) rfl, F1.row (c := 21) rfl, hTo (v 1) s hm hs, hai (v 1) s hm hs, hz0 s hs, hZe (v 1) s (Nat.le_refl _) hm hs]
    exact ⟨rfl, rfl⟩) (fun s hs => qin s hs) (by rw [q191 0 (by omega)]; exact hN 0 (by decide)) (fun q hq => by
    have := hD.c 0 (by decide) q hq
    rw [u9 _ (show 0 * 6 + q ≠ 1 * 6 + v (mnI 1) by omega), FS.row2 (c := 19) rfl]
    exact this) (fun q hq => by
    have := hD.n hO 0 (by decide) q hq
    have hq6 : q < 6 := Nat.lt_of_lt_of_le hq b0
    rw [v2 _ (show 0 + q ≠ 1 * 6 + v (mnI 1) by omega)]
    exact this) (by decide) (fun s hs => by rw [Nat.zero_testBit]; rfl)
  rcases hsml with ⟨U2, V2, r1, r2, r3, r4, r5⟩ | ⟨U2, V2, i2, r1, r2, r3, r4, r5, r6, r7, r8, r9⟩ | ⟨U2, V2, i2, g, r12, r1, r2, r3, r4, r5, r6, r7, r8, r9, r10, r11⟩
  · refine .inl (.inl ⟨U2, V2, ?_, ?_, r3, Fr.trans (F1.mono rfl) (r4.mono rfl), Fr.trans (FVB.mono rfl) (r5.mono rfl)⟩)
    · unfold f_X3_readPlace
      rw [show rf 16 0 = 1 from rfl, show rf 16 1 = 17 from rfl, show (1 : Int32) = oo 1 from rfl, u1, Option.bind_some]
      dsimp only
      rw [if_pos rfl, u5, show (0 : Int32) = oo 0 from rfl]
      rw [r1, Option.bind_some]
    · unfold f_X12_readPlace
      rw [show rf 188 15 = 191 from rfl, e0, if_neg n6, g1, Option.bind_some, show (6 : Int32) = oo 6 from rfl, oo_add]
      rw [u2, Option.bind_some]
      dsimp only
      rw [if_pos rfl, show (0 : Int32) = oo 0 from rfl, hz6, Option.bind_some]
      rw [r2, Option.bind_some]
  · have FX : Fr [(191, 9999)] V2 (sI V2 191 1 (V2.1 191 1 + oo 1)) := Fr.sIr (Fr.rf _ _) rfl
    refine .inr ⟨U2, sI V2 191 1 (V2.1 191 1 + oo 1), i2, ?_, ?_, r3, r4.fr FX rfl, r5, r6, r7, Fr.trans (F1.mono rfl) (r8.mono rfl), Fr.trans (FVB.mono rfl) (Fr.trans (r9.mono rfl) (FX.mono rfl))⟩
    · unfold f_X3_readPlace
      rw [show rf 16 0 = 1 from rfl, show rf 16 1 = 17 from rfl, show (1 : Int32) = oo 1 from rfl, u1, Option.bind_some]
      dsimp only
      rw [if_pos rfl, u5, show (0 : Int32) = oo 0 from rfl]
      rw [r1, Option.bind_some]
    · unfold f_X12_readPlace
      rw [show rf 188 15 = 191 from rfl, e0, if_neg n6, g1, Option.bind_some, show (6 : Int32) = oo 6 from rfl, oo_add]
      rw [u2, Option.bind_some]
      dsimp only
      rw [if_pos rfl, show (0 : Int32) = oo 0 from rfl, hz6, Option.bind_some]
      rw [r2, Option.bind_some]
      rfl
  refine .inl (.inr ?_)
  obtain ⟨w, a, ac, ag⟩ : ∃ w : Nat → Nat, (∀ j, j ≠ 1 → ¬ (12 + 6 * v 1 ≤ j ∧ j < 18 + 6 * v 1) → w j = v j) ∧ w 1 = v 1 + 1 ∧ (∀ s, s < 6 → w (12 + 6 * v 1 + s) = g s) := ⟨plW v g, fun j h1 h2 => by unfold plW; rw [if_neg h1, if_neg h2], by unfold plW; rw [if_pos rfl], fun s hs => by unfold plW; rw [if_neg (by omega), if_pos (by omega), Nat.add_sub_cancel_left]⟩
  have FA : Fr [(1, 9), (1, 10), (1, 11), (18, 9999), (19, 9999), (26, 9999), (21, 9999)] S U2 := Fr.trans (F1.mono rfl) (r10.mono rfl)
  have FV : Fr [(191, 9999)] V2 (sI V2 191 1 (oo (v 1 + 1))) := Fr.sIr (Fr.rf _ _) rfl
  have FB : Fr FHO T (sI V2 191 1 (oo (v 1 + 1))) := Fr.trans (FVB.mono rfl) (Fr.trans (r11.mono rfl) (FV.mono rfl))
  have e1' : V2.1 191 1 = oo (v 1) := by rw [r9 1 (by omega), q191 1 (by omega), e0]
  have hOw : HOK w := ⟨⟨by rw [a 0 (by omega) (by omega) ]; omega, by rw [ac]; omega, by rw [a 2 (by omega) (by omega) ]; omega, by rw [a 3 (by omega) (by omega) ]; omega, by rw [a 4 (by omega) (by omega) ]; omega, by rw [a 5 (by omega) (by omega) ]; omega⟩,
      fun s hs => by rw [a _ (by omega) (by omega) , a 0 (by omega) (by omega) ]; exact hfa s hs,
      fun p s hp hs => by
        by_cases e : p = v 1
        · rw [e, ag s hs, a 0 (by omega) (by omega)]; exact r5 s hs
        · rw [a _ (by omega) (by omega), a 0 (by omega) (by omega)]; exact har p s hp hs,
      fun k hk => by
        rw [a 2 (by omega) (by omega) ] at hk
        have := hsm k hk
        rw [a (48 + 3 * k) (by omega) (by omega) , a (48 + 3 * k + 1) (by omega) (by omega) , a (48 + 3 * k + 2) (by omega) (by omega) , a 0 (by omega) (by omega) , ac]
        omega,
      fun k hk => by
        rw [a 3 (by omega) (by omega) ] at hk
        have := hkp k hk
        rw [a (66 + k) (by omega) (by omega) , a (72 + k) (by omega) (by omega) , ac]
        omega,
      fun k hk => by
        rw [a 4 (by omega) (by omega) ] at hk
        have := hwt k hk
        rw [a (78 + 3 * k) (by omega) (by omega) , a (78 + 3 * k + 1) (by omega) (by omega) , a (78 + 3 * k + 2) (by omega) (by omega) , a 3 (by omega) (by omega) , ac]
        omega,
      fun k hk => by
        rw [a 5 (by omega) (by omega) ] at hk
        have := hrn k hk
        rw [a (138 + k) (by omega) (by omega) ]
        omega,
      fun j hj => by
        by_cases e : j = 1
        · rw [e, ac]; omega
        · by_cases e2 : 12 + 6 * v 1 ≤ j ∧ j < 18 + 6 * v 1
          · have := ag (j - (12 + 6 * v 1)) (by omega)
            rw [show 12 + 6 * v 1 + (j - (12 + 6 * v 1)) = j by omega] at this
            rw [this]
            have := (r5 (j - (12 + 6 * v 1)) (by omega)).1
            omega
          · rw [a _ e e2]; exact hal j hj⟩
  have m18 : ∀ c, c < 6 → U2.1 18 c = if c = 1 then oo (v 1 + 1) else S.1 18 c := fun c hc => by
    rw [r10.row (c := 18) rfl]
    by_cases e : c = 1
    · rw [if_pos e, e]; exact u6
    · rw [if_neg e, u7 c e, FS.row (c := 18) rfl]
  refine ⟨U2, sI V2 191 1 (oo (v 1 + 1)), i2, fun j => if j = 1 * 6 + v (mnI 1) then l else d j, w, r12, ?_, ?_, r3, r4.fr FV rfl, ?_, FA.mono rfl, FB⟩
  · unfold f_X3_readPlace
    rw [show rf 16 0 = 1 from rfl, show rf 16 1 = 17 from rfl, show (1 : Int32) = oo 1 from rfl, u1, Option.bind_some]
    dsimp only
    rw [if_pos rfl, u5, show (0 : Int32) = oo 0 from rfl]
    rw [r1, Option.bind_some]
  · unfold f_X12_readPlace
    rw [show rf 188 15 = 191 from rfl, e0, if_neg n6, g1, Option.bind_some, show (6 : Int32) = oo 6 from rfl, oo_add]
    rw [u2, Option.bind_some]
    dsimp only
    rw [if_pos rfl, show (0 : Int32) = oo 0 from rfl, hz6, Option.bind_some]
    rw [r2, Option.bind_some]
    dsimp only
    rw [e1', show (1 : Int32) = oo 1 from rfl, oo_add]
  · refine ⟨hOw, ⟨⟨?_, ?_, ?_, ?_, ?_, ?_⟩, ?_, ?_, ?_, ?_, ?_, ?_⟩, ?_, ?_, ?_, ?_, fun p s h1 hp hs => ?_⟩
    · rw [m18 0 (by decide), if_neg (by decide), a 0 (by omega) (by omega) ]; exact n0
    · rw [m18 1 (by decide), if_pos rfl, ac]
    · rw [m18 2 (by decide), if_neg (by decide), a 3 (by omega) (by omega) ]; exact n2
    · rw [m18 3 (by decide), if_neg (by decide), a 2 (by omega) (by omega) ]; exact n3
    · rw [m18 4 (by decide), if_neg (by decide), a 4 (by omega) (by omega) ]; exact n4
    · rw [m18 5 (by decide), if_neg (by decide), a 5 (by omega) (by omega) ]; exact n5
    · intro s hs
      rw [FA.row (c := 20) rfl, a _ (by omega) (by omega) ]
      exact hfd s hs
    · intro p s hp hs
      by_cases e : p = v 1
      · rw [e, (r6 s hs).2]
        unfold airN
        rw [ag s hs, smkN_z (w 2) 0 (fun j j1 j2 => by
          rw [a 2 (by omega) (by omega)] at j2
          have := (hsm j (by omega)).2.2
          rw [a _ (by omega) (by omega)]
          omega)]
        rfl
      · rw [(r8 (p * 6 + s) (by omega)).2, F1.row (c := 21) rfl, hai p s hp hs]
        congr 1
        unfold airN
        rw [a 2 (by omega) (by omega), a (12 + 6 * p + s) (by omega) (by omega), ← smkN_cg (v := v) (w := w) hs (v 2) 0 (by omega) (fun j j1 j2 => by
          have := hsm j (by omega)
          rw [a (48 + 3 * j) (by omega) (by omega), a (48 + 3 * j + 1) (by omega) (by omega), a (48 + 3 * j + 2) (by omega) (by omega), a (12 + 6 * v (48 + 3 * j + 1) + s) (by omega) (by omega)]
          exact ⟨rfl, rfl, rfl, rfl⟩)]
    · intro s hs
      rw [FA.row (c := 22) rfl, a _ (by omega) (by omega) ]
      exact hke s hs
    · intro s hs
      rw [FA.row (c := 23) rfl, a _ (by omega) (by omega) ]
      exact hst s hs
    · intro t z ht hz
      rw [FA.row (c := 24) rfl, a 4 (by omega) (by omega) , wtN_cg (v := w) (w := v) (v 4) (fun j hj => ⟨a _ (by omega) (by omega) , a _ (by omega) (by omega) , a _ (by omega) (by omega) ⟩)]
      exact hwe t z ht hz
    · intro t ht
      rw [FA.row (c := 25) rfl, a 5 (by omega) (by omega) , rnN_cg (v := w) (w := v) (v 5) (fun j hj => a _ (by omega) (by omega) )]
      exact hra t ht
    · intro j hj
      by_cases e : j = 1
      · rw [e, sI_same, ac]
      · rw [sI_place e]
        by_cases e2 : 12 + 6 * v 1 ≤ j ∧ j < 18 + 6 * v 1
        · have h1 := ag (j - (12 + 6 * v 1)) (by omega)
          have h2 := r7 (j - (12 + 6 * v 1)) (by omega)
          rw [show 12 + 6 * v 1 + (j - (12 + 6 * v 1)) = j by omega] at h1 h2
          rw [h1, h2]
        · rw [r9 j e2, q191 j e2, hN j hj, a _ e e2]
    · refine DOK.new hD (by decide) hm l1 l2 ?_ (fun j hj => ?_) ?_ (fun j hj => ?_) ac (fun srt hs hne => ?_)
      · rw [r10.row2 (c := 19) rfl]; exact u8
      · rw [r10.row2 (c := 19) rfl, u9 j hj, FS.row2 (c := 19) rfl]
      · rw [FV.row2 (c := 196) rfl, r11.row2 (c := 196) rfl]; exact v1
      · rw [FV.row2 (c := 196) rfl, r11.row2 (c := 196) rfl, v2 j hj]
      · rcases (show srt = 0 ∨ srt = 2 by omega) with rfl | rfl
        · exact a 0 (by omega) (by omega)
        · exact a 3 (by omega) (by omega)
    · intro p s hp hs
      by_cases e : p = v 1
      · rw [e, (r6 s hs).1, ag s hs]
      · rw [(r8 (p * 6 + s) (by omega)).1, F1.row (c := 26) rfl, a _ (by omega) (by omega)]
        exact hTo p s hp hs
    · intro s p c hs hp hc
      rw [FA.row (c := 27) rfl, a 2 (by omega) (by omega) , skF_cg (v := w) (w := v) (v 2) (fun j hj => ⟨a _ (by omega) (by omega) , a _ (by omega) (by omega) , a _ (by omega) (by omega) ⟩)]
      exact hSm s p c hs hp hc
    · rw [ac] at h1
      rw [a _ (by omega) (by omega) ]
      exact hZe p s (by omega) hp hs
end LNS
