/-! HILL -/
def FHT : List (Nat × Nat) := [(18, 9999), (19, 9999), (20, 9999), (21, 9999), (22, 9999), (23, 9999), (24, 9999), (25, 9999), (26, 9999), (27, 9999), (4, 9999), (5, 9999), (6, 9999), (1, 1), (1, 2), (1, 3), (1, 8), (1, 9), (1, 10), (1, 11), (188, 0), (188, 2), (188, 3), (188, 4), (188, 5), (188, 6), (188, 7), (188, 8), (188, 9), (188, 10), (188, 11), (188, 12), (188, 13), (191, 9999), (196, 9999)]
theorem htext_rel {S T : XS} (hR : Rel S) (hF : Fr FHT S T) (h1 : T.1 1 1 = oo 0) (h2 : T.1 188 2 = oo 0) (hf : T.1 1 2 = T.1 188 10) : Rel T := by
  obtain ⟨⟨n, b, a0, a1, a2, a3⟩, -, a4, ⟨v, hv, hP⟩, a6, a7, a8, a9, a10, a11⟩ := hR
  exact ⟨⟨0, b, Nat.zero_le _, h1, h2, fun j hj => by rw [hF.row (c := 2) rfl, hF.row (c := 189) rfl]; exact a3 j hj⟩, hf, a4.fr hF rfl, ⟨v, hv.fr hF rfl rfl rfl rfl, hP.fr hF rfl rfl⟩, a6.fr hF rfl rfl, a7.fr hF rfl, a8.fr hF rfl, a9.fr hF rfl, a10.fr hF rfl, a11.fr hF rfl⟩
/-- all that is so when a HILL begins -/
def hlN (v : Nat → Nat) (j : Nat) : Nat := if j < 144 then v j else 0
theorem hl_lo {v : Nat → Nat} {j : Nat} (h : j < 144) : newN (hlN v) j = v j := by
  unfold newN hlN
  rw [if_neg (by omega), if_neg (by omega), if_neg (by omega), if_pos h]
theorem hl_wh {v : Nat → Nat} {w : Nat} (h : w < 6) : newN (hlN v) (145 + w) = v (72 + w) := by
  unfold newN hlN
  rw [if_pos (by omega), if_pos (by omega), Nat.add_sub_cancel_left]
theorem hl_wr {v : Nat → Nat} {w : Nat} (h : w < 6) : newN (hlN v) (151 + w) = w := by
  unfold newN
  rw [if_neg (by omega), if_pos (by omega), Nat.add_sub_cancel_left]
theorem hl_z {v : Nat → Nat} {j : Nat} (h : j = 144 ∨ 157 ≤ j) : newN (hlN v) j = 0 := by
  unfold newN hlN
  rw [if_neg (by omega), if_neg (by omega)]
  by_cases h1 : 144 ≤ j ∧ j < 274
  · rw [if_pos h1]
  · rw [if_neg h1, if_neg (by omega)]
theorem hl_SOK {v : Nat → Nat} (hO : HOK v) : SOK (newN (hlN v)) := by
  obtain ⟨⟨b0, b1, b2, b3, b4, b5⟩, -, -, -, hkp, -⟩ := hO
  refine ⟨by rw [hl_z (.inl rfl)]; omega, fun w hw => ?_, fun w x hw hx he => ?_, fun c s hc hs => ?_, by rw [hl_z (.inr (by decide))]; omega, fun c hc => ?_, fun c s hc hs => ?_⟩
  · rw [hl_lo (by decide)] at hw
    have := hkp w hw
    rw [hl_wh (by omega), hl_wr (by omega), hl_lo (by decide), hl_lo (by decide)]
    omega
  · rw [hl_lo (by decide)] at hw hx
    rw [hl_wr (by omega), hl_wr (by omega)] at he
    exact he
  · rw [hl_z (.inr (by omega))]
    exact ⟨Nat.zero_le _, fun _ => rfl⟩
  · rw [hl_z (.inr (by decide))] at hc
    exact absurd hc (Nat.not_lt_zero _)
  · rw [hl_z (.inr (by decide))] at hc
    exact absurd hc (Nat.not_lt_zero _)
theorem wbegin_c {S : XS} {v : Nat → Nat} (hH : IsHill S 7 v) : ∃ T, f_X10_begin 28 7 S = some T ∧ IsWd T 28 (newN (hlN v)) ∧ Fr [(28, 0), (28, 4), (29, 9999), (30, 9999), (31, 9999)] S T := by
  have l1 := loop_blk (L := f_X10_begin_L23 28) (a := 30) (lo := 0) (st := 0) (m := 6) (f := fun j => oo j) (S := cpy (sI (sI S 28 0 (oo 0)) 28 4 (oo 0)) 13 29) (R := some (blk (cpy (sI (sI S 28 0 (oo 0)) 28 4 (oo 0)) 13 29) 30 0 6 (fun j => oo j))) (fun i k hk => by
    rw [Nat.zero_add, f_X10_begin_L23, if_neg (by rw [show (6 : Int32) = oo 6 from rfl, oo_le (by decide) (by omega)]; omega), show rf 28 2 = 30 from rfl, if_neg (by rw [ln_30]; exact oo_inb (by omega) (by omega)), oo_nat (by omega), show (1 : Int32) = oo 1 from rfl, oo_add]) (fun i => by
    rw [f_X10_begin_L23, if_pos (by decide)]) 1000000 (by decide)
  refine ⟨filI (blk (cpy (sI (sI S 28 0 (oo 0)) 28 4 (oo 0)) 13 29) 30 0 6 (fun j => oo j)) 31 (oo 0), ?_, ⟨?_, fun i hi => ?_, fun i hi => ?_, fun c s hc hs => ?_, ?_, fun c s hc hs => ?_, fun c hc => ?_⟩, ?_⟩
  · unfold f_X10_begin
    rw [show rf 7 5 = 13 from rfl, show rf 28 1 = 29 from rfl, show (0 : Int32) = oo 0 from rfl, l1, Option.bind_some, show rf 28 3 = 31 from rfl]
  · rw [filc_cell (by decide), blk_cell (by decide), cpy_cell (by decide), sI_place (by decide), sI_same, hl_z (.inl rfl)]
  · rw [filc_cell (by decide), blk_cell (by decide), cpy_same ln_13 ln_29 hi, sI_cell (by decide), sI_cell (by decide), hl_wh hi]
    exact hH.start i hi
  · rw [filc_cell (by decide), blk_in (by omega), hl_wr hi]
  · rw [hl_z (.inr (by omega))]
    exact fil_in (by rw [ln_31]; omega)
  · rw [filc_cell (by decide), blk_cell (by decide), cpy_cell (by decide), sI_same, hl_z (.inr (by decide))]
  · rw [hl_z (.inr (by decide))] at hc
    exact absurd hc (Nat.not_lt_zero _)
  · rw [hl_z (.inr (by decide))] at hc
    exact absurd hc (Nat.not_lt_zero _)
  · refine Fr.fil (Fr.blk (fun c j hc => ?_) rfl) rfl
    have hc2 := hc
    unfold tch at hc2
    rw [List.any_eq_false] at hc2
    have h29 : c ≠ 29 := fun q => hc2 (29, 9999) (by decide) (by rw [q]; simp)
    have F0 : Fr [(28, 0), (28, 4), (29, 9999), (30, 9999), (31, 9999)] S (sI (sI S 28 0 (oo 0)) 28 4 (oo 0)) := Fr.sIp (Fr.sIp (Fr.rf _ _) rfl) rfl
    rw [cpy_cell h29, cpy_long]
    exact F0 c j hc
theorem nm_of {d : Nat → List Nat} {v : Nat → Nat} {U V : XS} (h : DOK d v U V) : NmOK (U.2 19) (V.2 196) v := ⟨d, fun i hi => by
  have e : i / 6 * 6 + i % 6 = i := by omega
  have h1 := h (i / 6) (by omega) (i % 6) (by omega)
  rw [e] at h1
  obtain ⟨h2, h3⟩ := h1
  refine ⟨fun q => ?_, h3⟩
  obtain ⟨a1, a2, a3, a4⟩ := h2 q
  exact ⟨⟨a2, a1.1, a1.2⟩, a3, a4⟩⟩
def FHX : List (Nat × Nat) := [(18, 9999), (19, 9999), (20, 9999), (21, 9999), (22, 9999), (23, 9999), (24, 9999), (25, 9999), (26, 9999), (27, 9999), (4, 9999), (5, 9999), (6, 9999), (1, 2), (1, 3), (1, 8), (1, 9), (1, 10), (1, 11)]
def FHY : List (Nat × Nat) := [(188, 0), (188, 2), (188, 3), (188, 4), (188, 10), (188, 5), (188, 6), (188, 7), (188, 8), (188, 9), (188, 12), (188, 13), (188, 11), (191, 9999), (196, 9999)]
def FHZ : List (Nat × Nat) := [(188, 0), (188, 2), (188, 3), (188, 4), (188, 10), (188, 5), (188, 6), (188, 7), (188, 8), (188, 9), (188, 12), (188, 13), (188, 11), (191, 9999), (196, 9999), (190, 9999), (195, 9999), (188, 23)]
def FHA : List (Nat × Nat) := [(18, 9999), (19, 9999), (20, 9999), (21, 9999), (22, 9999), (23, 9999), (24, 9999), (25, 9999), (26, 9999), (27, 9999), (4, 9999), (5, 9999), (6, 9999), (1, 1), (1, 2), (1, 3), (1, 8), (1, 9), (1, 10), (1, 11), (7, 9999), (8, 9999), (9, 9999), (10, 9999), (11, 9999), (12, 9999), (13, 9999), (14, 9999), (15, 9999), (28, 0), (28, 4), (29, 9999), (30, 9999), (31, 9999), (36, 3), (0, 9), (188, 0), (188, 2), (188, 3), (188, 4), (188, 10), (188, 5), (188, 6), (188, 7), (188, 8), (188, 9), (188, 12), (188, 13), (188, 11), (191, 9999), (196, 9999), (190, 9999), (195, 9999), (188, 23)]
theorem hfin_n {V : XS} {v : Nat → Nat} {e : Int32} (h : IsC V 191 144 v) : ∃ W, ((f_X12_hill_L60 e 188 1000000 (oo 0) V).bind (fun S16 => ((f_X12_startAnew 188 S16).bind (fun S17 => ((f_X12_hill_L102 e 188 1000000 (oo 0) S17).bind (fun S21 => some (e, (sI S21 188 23 (oo 0))))))))) = some (e, W) ∧ IsC W 190 516 (newN (hlN v)) ∧ (∀ i, i < 18 → W.2 195 i = V.2 196 i) ∧ W.1 188 23 = oo 0 ∧ Fr [(190, 9999), (195, 9999), (188, 23)] V W := by
  have l1 := loop_blk (L := f_X12_hill_L60 e 188) (a := 190) (lo := 0) (st := 0) (m := 516) (f := fun j => oo (hlN v j)) (S := V) (R := some (blk V 190 0 516 (fun j => oo (hlN v j)))) (fun i k hk => by
    have i190 : ¬ (oo k < oo 0 ∨ ln 190 ≤ k) := by
      rw [ln_190]
      have := oo_inb (k := k) (m := 516) (by omega) (by omega)
      rwa [oo_nat (by omega)] at this
    rw [Nat.zero_add, f_X12_hill_L60, if_neg (by rw [show (516 : Int32) = oo 516 from rfl, oo_le (by decide) (by omega)]; omega), show rf 188 14 = 190 from rfl, show rf 188 15 = 191 from rfl, show (144 : Int32) = oo 144 from rfl, ile (by decide) (by omega), oo_nat (by omega), show (1 : Int32) = oo 1 from rfl, oo_add, show (0 : Int32) = oo 0 from rfl]
    by_cases h1 : 144 ≤ k
    · have e : hlN v k = 0 := by unfold hlN; rw [if_neg (by omega)]
      rw [if_pos h1, if_neg i190, e]
    · have e : hlN v k = v k := by unfold hlN; rw [if_pos (by omega)]
      have i191 : ¬ (oo k < oo 0 ∨ ln 191 ≤ k) := by
        rw [ln_191]
        have := oo_inb (k := k) (m := 144) (by omega) (by omega)
        rwa [oo_nat (by omega)] at this
      rw [if_neg h1, if_neg i191, if_neg i190, blk_cell (by decide), h k (by omega), e]) (fun i => by
    rw [f_X12_hill_L60, if_pos (by decide)]) 1000000 (by decide)
  have F1 : Fr [(190, 9999)] V (blk V 190 0 516 (fun j => oo (hlN v j))) := Fr.blk (Fr.rf _ _) rfl
  have hB : IsC (blk V 190 0 516 (fun j => oo (hlN v j))) 190 516 (hlN v) := fun j hj => blk_in (by omega)
  generalize blk V 190 0 516 (fun j => oo (hlN v j)) = B at l1 F1 hB
  obtain ⟨C, c1, c2, c3⟩ := anew_n hB
  have l2 := loop_blkL (L := f_X12_hill_L102 e 188) (a := 195) (lo := 0) (st := 0) (m := 18) (f := fun j => C.2 196 j) (S := C) (R := some (blkL C 195 0 18 (fun j => C.2 196 j))) (fun i k hk => by
    rw [Nat.zero_add, f_X12_hill_L102, if_neg (by rw [show (18 : Int32) = oo 18 from rfl, oo_le (by decide) (by omega)]; omega), show rf 188 20 = 196 from rfl, show rf 188 19 = 195 from rfl, if_neg (by rw [ln_196]; exact oo_inb (by omega) (by omega)), if_neg (by rw [ln_195]; exact oo_inb (by omega) (by omega)), oo_nat (by omega), blkL_cell (by decide), show (1 : Int32) = oo 1 from rfl, oo_add]) (fun i => by
    rw [f_X12_hill_L102, if_pos (by decide)]) 1000000 (by decide)
  refine ⟨sI (blkL C 195 0 18 (fun j => C.2 196 j)) 188 23 (oo 0), ?_, ?_, fun i hi => ?_, sI_same _ _ _ _, Fr.sIp (Fr.blkL (Fr.trans (F1.mono rfl) (c3.mono rfl)) rfl) rfl⟩
  · rw [l1, Option.bind_some, c1, Option.bind_some, l2, Option.bind_some]
  · exact (c2.cell (by rw [blkL_int])).ne (by decide)
  · rw [sI_long, blkL_in (by omega), c3.row2 (c := 196) rfl, F1.row2 (c := 196) rfl]
theorem hill_key {S : XS} {n : Nat} {b : Nat → Nat} (hn : n ≤ 940) (e1 : S.1 1 1 = oo n) (hb : ∀ j, j < 940 → S.1 2 j = oo (b j) ∧ S.1 189 j = oo (b j) ∧ b j < 256) (hK : RKeys S) : ∀ T0 : XS, T0.1 188 2 = oo n → T0.1 189 = S.1 189 →
    (∃ U V k v, k ≤ 940 ∧ f_X3_read 16 S = some (oo k, U) ∧ f_X12_hill 188 T0 = some (oo k, V) ∧ HOK v ∧ IsHill U 17 v ∧ IsC V 190 516 (newN (hlN v)) ∧ NmOK (U.2 19) (V.2 195) v ∧ V.1 188 23 = oo 0 ∧ U.1 1 2 = oo 0 ∧ V.1 188 10 = oo 0 ∧ V.1 188 2 = oo 0 ∧ Fr FHX S U ∧ Fr FHZ T0 V) ∨
    (∃ U V, f_X3_read 16 S = some (-1, U) ∧ f_X12_hill 188 T0 = some ((-1 : Int32) - V.1 188 11, V) ∧ Bad U V ∧ V.1 188 2 = oo 0 ∧ Fr FHX S U ∧ Fr FHY T0 V) := by
  obtain ⟨L, hx⟩ := xp_L (b, n, 900) hn (show 900 ≤ 940 by decide) (fun j hj => (hb j hj).2.2)
  obtain ⟨C0, c0, h18, h19, h20, h21, h22, h23, h24, h25, h26, h27, cF⟩ := clr_c S
  obtain ⟨U0, p1, p2, p3, p4⟩ := begin_c (x := (b, n, 900)) hx (S := C0) (by rw [cF.get rfl]; exact e1) (fun j hj => by rw [cF.row (c := 2) rfl]; exact (hb j hj).1) (hK.fr cF rfl)
  have p1' : f_X8_begin 1 (900 : Int32) C0 = some U0 := p1
  have FU : Fr FHX S U0 := Fr.trans (cF.mono rfl) (p4.mono rfl)
  intro T0 t1 t2
  obtain ⟨V0, q1, q2, q3, q4, q5⟩ := begin_n (x := (b, n, 900)) hx (T := T0) t1 (fun j hj => by rw [t2]; exact (hb j hj).2.1)
  have q1' : f_X12_begin 188 (900 : Int32) T0 = some V0 := q1
  have l1 := loop_blk (L := f_X12_hill_L9 188) (a := 191) (lo := 0) (st := 0) (m := 144) (f := fun _ => oo 0) (S := V0) (R := some (blk V0 191 0 144 (fun _ => oo 0))) (fun i k hk => by
    rw [Nat.zero_add, f_X12_hill_L9, if_neg (by rw [show (144 : Int32) = oo 144 from rfl, oo_le (by decide) (by omega)]; omega), show rf 188 15 = 191 from rfl, if_neg (by rw [ln_191]; exact oo_inb (by omega) (by omega)), oo_nat (by omega), show (1 : Int32) = oo 1 from rfl, oo_add]
    rfl) (fun i => by
    rw [f_X12_hill_L9, if_pos (by decide)]) 1000000 (by decide)
  have F1 : Fr [(191, 9999)] V0 (blk V0 191 0 144 (fun _ => oo 0)) := Fr.blk (Fr.rf _ _) rfl
  have h191 : ∀ j, j < 144 → (blk V0 191 0 144 (fun _ => oo 0)).1 191 j = oo 0 := fun j hj => blk_in (by omega)
  generalize blk V0 191 0 144 (fun _ => oo 0) = V1 at l1 F1 h191
  have FV : Fr FHY T0 V1 := Fr.trans (q5.mono rfl) (F1.mono rfl)
  have hR0 : HRel (fun _ => []) z0N U0 V1 := HRel_0 (fun j hj => by rw [p4.row (c := 18) rfl]; exact h18 j hj) (fun j hj => by rw [p4.row2 (c := 19) rfl]; exact h19 j hj) (fun j hj => by rw [p4.row (c := 20) rfl]; exact h20 j hj) (fun j hj => by rw [p4.row (c := 21) rfl]; exact h21 j hj) (fun j hj => by rw [p4.row (c := 22) rfl]; exact h22 j hj) (fun j hj => by rw [p4.row (c := 23) rfl]; exact h23 j hj) (fun j hj => by rw [p4.row (c := 24) rfl]; exact h24 j hj) (fun j hj => by rw [p4.row (c := 25) rfl]; exact h25 j hj) (fun j hj => by rw [p4.row (c := 26) rfl]; exact h26 j hj) (fun j hj => by rw [p4.row (c := 27) rfl]; exact h27 j hj) h191
  have hL9 := hx.2.2.2.1
  rcases hill_L hx L 0 0 1000000 1000000 U0 V1 (fun _ => []) z0N (by omega) (by omega) (by omega) (by omega) p2 (q2.fr F1 rfl) hR0 with ⟨U, V, k, d, v, hk, a1, a2, ⟨r1, r2, r3, r4, -⟩, a4, a5⟩ | ⟨U, V, a1, a2, a3, a4, a5⟩
  · obtain ⟨W, w1, w2, w3, w4, w5⟩ := hfin_n (e := oo k) r3
    refine .inl ⟨U, W, k, v, hk, ?_, ?_, r1, r2, w2, ?_, w4, ?_, ?_, ?_, Fr.trans FU (a4.mono rfl), Fr.trans (FV.mono rfl) (Fr.trans (a5.mono rfl) (w5.mono rfl))⟩
    · unfold f_X3_read
      rw [show rf 16 0 = 1 from rfl, show rf 16 1 = 17 from rfl, show rf 16 2 = 26 from rfl, show rf 16 3 = 27 from rfl, c0, p1', Option.bind_some, show (0 : Int32) = oo 0 from rfl, a1]
      rfl
    · unfold f_X12_hill
      rw [q1', Option.bind_some, show (0 : Int32) = oo 0 from rfl, l1, Option.bind_some, a2, Option.bind_some]
      exact w1
    · exact (nm_of r4).eq (fun i _ => rfl) w3
    · rw [a4.get rfl, p3]
    · rw [w5.get rfl, a5.get rfl, F1.get rfl, q3]
    · rw [w5.get rfl, a5.get rfl, F1.get rfl, q4]
  · refine .inr ⟨U, V, ?_, ?_, a3, ?_, Fr.trans FU (a4.mono rfl), Fr.trans FV (a5.mono rfl)⟩
    · unfold f_X3_read
      rw [show rf 16 0 = 1 from rfl, show rf 16 1 = 17 from rfl, show rf 16 2 = 26 from rfl, show rf 16 3 = 27 from rfl, c0, p1', Option.bind_some, show (0 : Int32) = oo 0 from rfl, a1]
      rfl
    · unfold f_X12_hill
      rw [q1', Option.bind_some, show (0 : Int32) = oo 0 from rfl, l1, Option.bind_some, a2]
      rfl
    · rw [a5.get rfl, F1.get rfl, q4]
theorem ag_hill : Ag_hill Rel := by
  intro S hR
  obtain ⟨hT, hFa, hK, ⟨v, hv, hP⟩, hKe, hNo, hWa, hC, hD, hX⟩ := id hR; obtain ⟨hN, hO, hS, hH, hW, hNm, hSe⟩ := id hv; obtain ⟨⟨b0, b1, b2, b3, b4, b5⟩, -⟩ := id hO
  obtain ⟨n, b, hn, e1, e2, hb⟩ := id hT
  have key := hill_key hn e1 hb hK
  rcases key S e2 rfl with ⟨U, -, k, v1, k9, k1, -, k3, k4, -, -, -, k8, -, -, kF, -⟩ | ⟨U, -, k1, -, -, -, kF, -⟩
  · have FA : Fr [(1, 1)] U (sI U 1 1 (oo 0)) := Fr.sIp (Fr.rf _ _) rfl
    obtain ⟨A1, a1, a2, a3, a4⟩ := cpH_is (S := sI U 1 1 (oo 0)) hl_7 hl_17 (by omega)
    obtain ⟨A2, c1, -, c3⟩ := wbegin_c (a2 v1 (k4.fr FA rfl))
    have F3 : Fr [(36, 3), (0, 9)] A2 (sI (sI A2 36 3 (oo 0)) 0 9 (oo 0)) := Fr.sIp (Fr.sIp (Fr.rf _ _) rfl) rfl
    have FS : Fr FHA S (sI (sI A2 36 3 (oo 0)) 0 9 (oo 0)) := Fr.trans (kF.mono rfl) (Fr.trans (FA.mono rfl) (Fr.trans (a4.mono (by decide)) (Fr.trans (c3.mono rfl) (F3.mono rfl))))
    have g2 : (sI (sI A2 36 3 (oo 0)) 0 9 (oo 0)).1 188 2 = oo n := by rw [F3.get rfl, c3.get rfl, a4.get (by decide), FA.get rfl, kF.get rfl]; exact e2
    have g189 : (sI (sI A2 36 3 (oo 0)) 0 9 (oo 0)).1 189 = S.1 189 := by rw [F3.row (c := 189) rfl, c3.row (c := 189) rfl, a4.row (c := 189) (by decide), FA.row (c := 189) rfl, kF.row (c := 189) rfl]
    rcases key _ g2 g189 with ⟨U', V, k', v, -, m1, m2, m3, m4, m5, m6, m7, m8, m9, m10, mF, mG⟩ | ⟨U', V, m1, -⟩
    · rw [k1] at m1
      have m1' := Option.some.inj m1
      obtain rfl : U = U' := congrArg Prod.snd m1'
      have hk : oo k = oo k' := congrArg Prod.fst m1'
      obtain ⟨A2', d1, d2, d3⟩ := wbegin_c (a2 v (m4.fr FA rfl))
      obtain rfl : A2 = A2' := by
        rw [c1] at d1
        exact Option.some.inj d1
      have FT : Fr FHA S V := Fr.trans FS (mG.mono rfl)
      have ext : ∀ j, j < 144 → v j = newN (hlN v) j := fun j hj => (hl_lo hj).symm
      have hH7 : IsHill V 7 (newN (hlN v)) := ((((a2 v (m4.fr FA rfl)).fr c3 rfl).fr F3 rfl).fr mG rfl).ext m3 ext
      have hW28 : IsWd V 28 (newN (hlN v)) := (d2.fr F3 rfl).fr mG rfl
      have hNm : NmOK (V.2 9) (V.2 195) (newN (hlN v)) := by
        refine NmOK.ext (NmOK.eq m6 (fun i hi => ?_) (fun i hi => rfl)) ext
        rw [mG.row2 (c := 9) rfl, F3.row2 (c := 9) rfl, c3.row2 (c := 9) rfl]
        exact (a3 i hi).trans (by rw [FA.row2 (c := 17 + 2) rfl])
      obtain ⟨n0, b9, z1, z2, z3, z4⟩ := id hT
      obtain ⟨m0, q0, sn, y1, y2, y3, y4, y5, y6, y7⟩ := id hP
      refine ⟨oo k', sI (sI A2 36 3 (oo 0)) 0 9 (oo 0), V, ?_, m2, ⟨0, b9, Nat.zero_le _, ?_, m10, fun j hj => by rw [FT.row (c := 2) rfl, FT.row (c := 189) rfl]; exact z4 j hj⟩, ?_, hK.fr FT rfl, ⟨newN (hlN v), ⟨m5, m3.ext ext, hl_SOK m3, hH7, hW28, hNm, .inl ⟨hl_z (.inr (by decide)), ?_⟩⟩, ⟨0, q0, sn, by decide, y2, m7, ?_, ?_, y6.cell (FT.row rfl), fun j hj => absurd hj (Nat.not_lt_zero _)⟩⟩, hKe.fr FT rfl rfl, hNo.fr FT rfl, hWa.fr FT rfl, hC.fr FT rfl, hD.fr FT rfl, hX.fr FT rfl⟩
      · unfold f_X11_hill
        rw [show rf 0 2 = 16 from rfl, show rf 0 0 = 1 from rfl, show rf 0 1 = 7 from rfl, show rf 16 1 = 17 from rfl, show rf 0 3 = 28 from rfl, show rf 0 4 = 36 from rfl, k1, Option.bind_some, show (0 : Int32) = oo 0 from rfl]
        dsimp only
        rw [FA.get (c := 1) (j := 2) rfl, k8, if_pos rfl, a1, Option.bind_some, c1, Option.bind_some, hk]
        rfl
      · rw [mG.get rfl, F3.get rfl, c3.get rfl, a4.get (by decide), sI_same]
      · unfold RFault
        rw [m9, mG.get rfl, F3.get rfl, c3.get rfl, a4.get (by decide), FA.get rfl, k8]
      · rw [mG.get rfl, sI_cell (by decide), sI_same]
      · rw [mG.get rfl, sI_same]
      · rw [FT.get rfl]; exact y5
    · rw [k1] at m1
      have hk : oo k = nn := congrArg Prod.fst (Option.some.inj m1)
      rw [oo_nn (by omega)] at hk
      exact absurd hk id
  · have FA : Fr [(1, 1)] U (sI U 1 1 (oo 0)) := Fr.sIp (Fr.rf _ _) rfl
    rcases key (sI U 1 1 (oo 0)) (by rw [FA.get rfl, kF.get rfl]; exact e2) (by rw [FA.row (c := 189) rfl, kF.row (c := 189) rfl]) with ⟨U', V, k', v, k9, m1, -⟩ | ⟨U', V, m1, m2, ⟨e, q, z1, z2, z3, z4, z5, z6, z7⟩, m4, -, mG⟩
    · rw [k1] at m1
      have hk : nn = oo k' := congrArg Prod.fst (Option.some.inj m1)
      rw [nn_oo (by omega)] at hk
      exact absurd hk id
    · rw [k1] at m1
      obtain rfl : U = U' := congrArg Prod.snd (Option.some.inj m1)
      refine ⟨(-1 : Int32) - oo q, sI U 1 1 (oo 0), V, ?_, by rw [m2, z7], htext_rel hR (Fr.trans (kF.mono rfl) (Fr.trans (FA.mono rfl) (mG.mono rfl))) (by rw [mG.get rfl, sI_same]) m4 (by rw [mG.get rfl, FA.get rfl, z4, z6])⟩
      unfold f_X11_hill
      rw [show rf 0 2 = 16 from rfl, show rf 0 0 = 1 from rfl, k1, Option.bind_some, show (0 : Int32) = oo 0 from rfl]
      dsimp only
      rw [FA.get (c := 1) (j := 2) rfl, z4, if_neg (by rw [oo_eq (by omega) (by decide)]; omega), FA.get (c := 1) (j := 3) rfl, z5]
