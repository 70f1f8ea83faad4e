/-! PLEAS, line by line -/
theorem pleas_L {x : TX} {L : Nat} {v : Nat → Nat} {d : Nat → List Nat} (hx : xok x L) (hO : HOK v) (hS : SOK v) : ∀ m cnt i fc fn (S T : XS), cnt + m = 30 → m + 1 < fc → m + 1 < fn → AtC x L i S → AtN x i T → IsWd S 28 v → IsC T 190 516 v →
    (∀ srt, srt < 3 → ∀ k, k < 6 → (k < v (mnI srt) → isLs (d (srt * 6 + k)) ∧ S.2 9 (srt * 6 + k) = pk8 (d (srt * 6 + k))) ∧ (v (mnI srt) ≤ k → S.2 9 (srt * 6 + k) = 0)) →
    (∀ srt, srt < 3 → ∀ k, k < v (mnI srt) → T.2 195 (srt * 6 + k) = pk27 (d (srt * 6 + k))) →
    T.1 188 45 = oo cnt → T.1 188 46 = S.1 45 0 →
    (∃ U V, f_X5_read_L15 45 1 7 28 fc (oo cnt) S = some (.inr U) ∧ f_X12_pleas_L17 188 fn T = some (.inr V) ∧ V.1 188 46 = U.1 45 0 ∧ Fr FPC1 S U ∧ Fr FPO1 T V) ∨
    (∃ U V, f_X5_read_L15 45 1 7 28 fc (oo cnt) S = some (.inl U) ∧ f_X12_pleas_L17 188 fn T = some (.inl ((-2 : Int32) - V.1 188 11, V)) ∧ Bad U V ∧ Fr FPC S U ∧ Fr FPN T V) := by
  intro m
  induction m with
  | zero =>
    intro cnt i fc fn S T hc hfc hfn hSt hTt hW hN hdc hdn h45 h46
    obtain ⟨fc, rfl⟩ : ∃ f', fc = f' + 1 := ⟨fc - 1, by omega⟩
    obtain ⟨fn, rfl⟩ : ∃ f', fn = f' + 1 := ⟨fn - 1, by omega⟩
    have hi : i ≤ L := hSt.1
    have hk := (kind_n hx hTt hi).1
    have hlt := xK_lt hx hi
    have e10 : S.1 1 10 = oo (xK x i) := hSt.2.2.2
    rw [f_X5_read_L15, f_X12_pleas_L17, if_neg (by rw [show (30 : Int32) = oo 30 from rfl, oo_lt (by decide) (by omega)]; omega), e10]
    by_cases h0 : xK x i = 0
    · rw [if_pos (by rw [h0]; rfl), if_pos (hk.mpr h0)]
      exact .inl ⟨S, T, rfl, rfl, h46, Fr.rf _ _, Fr.rf _ _⟩
    · rw [if_neg (by rw [show (0 : Int32) = oo 0 from rfl, oo_eq (by omega) (by decide)]; exact h0), if_neg (fun q => h0 (hk.mp q))]
      rcases plea_p (cnt := cnt) hx hSt hTt hO hS hW hN hdc hdn (by omega) h45 rfl h46 with ⟨U, V, u1, u2, u3, u4, u5⟩ | ⟨hlt, _⟩
      · refine .inr ⟨U, V, ?_, ?_, u3, u4, u5⟩
        · rw [u1, Option.bind_some]
          dsimp only
          rw [if_neg (by decide)]
        · rw [u2, Option.bind_some]
          dsimp only
          rw [if_neg (by decide)]
      · omega
  | succ m ih =>
    intro cnt i fc fn S T hc hfc hfn hSt hTt hW hN hdc hdn h45 h46
    obtain ⟨fc, rfl⟩ : ∃ f', fc = f' + 1 := ⟨fc - 1, by omega⟩
    obtain ⟨fn, rfl⟩ : ∃ f', fn = f' + 1 := ⟨fn - 1, by omega⟩
    have hi : i ≤ L := hSt.1
    have hk := (kind_n hx hTt hi).1
    have hlt := xK_lt hx hi
    have e10 : S.1 1 10 = oo (xK x i) := hSt.2.2.2
    rw [f_X5_read_L15, f_X12_pleas_L17, if_neg (by rw [show (30 : Int32) = oo 30 from rfl, oo_lt (by decide) (by omega)]; omega), e10]
    by_cases h0 : xK x i = 0
    · rw [if_pos (by rw [h0]; rfl), if_pos (hk.mpr h0)]
      exact .inl ⟨S, T, rfl, rfl, h46, Fr.rf _ _, Fr.rf _ _⟩
    · rw [if_neg (by rw [show (0 : Int32) = oo 0 from rfl, oo_eq (by omega) (by decide)]; exact h0), if_neg (fun q => h0 (hk.mp q))]
      rcases plea_p (cnt := cnt) hx hSt hTt hO hS hW hN hdc hdn (by omega) h45 rfl h46 with ⟨U, V, u1, u2, u3, u4, u5⟩ | ⟨hlt, U, V, j, u1, u2, u3, u4, u5, u6, u7, u8⟩
      · refine .inr ⟨U, V, ?_, ?_, u3, u4, u5⟩
        · rw [u1, Option.bind_some]
          dsimp only
          rw [if_neg (by decide)]
        · rw [u2, Option.bind_some]
          dsimp only
          rw [if_neg (by decide)]
      · have hr := ih (cnt + 1) j fc fn U V (by omega) (by omega) (by omega) u3 u4 (hW.fr u7 rfl) (hN.cell (u8.row (c := 190) rfl)) (fun srt hs k hk => by rw [u7.row2 (c := 9) rfl]; exact hdc srt hs k hk) (fun srt hs k hk => by rw [u8.row2 (c := 195) rfl]; exact hdn srt hs k hk) u5 u6
        rw [u1, u2, Option.bind_some, Option.bind_some]
        dsimp only
        rw [if_pos rfl, if_pos rfl, show (1 : Int32) = oo 1 from rfl, oo_add]
        rcases hr with ⟨U', V', a1, a2, a3, a4, a5⟩ | ⟨U', V', a1, a2, a3, a4, a5⟩
        · exact .inl ⟨U', V', a1, a2, a3, Fr.trans u7 a4, Fr.trans u8 a5⟩
        · exact .inr ⟨U', V', a1, a2, a3, Fr.trans (u7.mono rfl) a4, Fr.trans (u8.mono rfl) a5⟩
/-- names as they stand with both -/
theorem nm_d {y z : Nat → Int64} {v : Nat → Nat} (h : NmOK y z v) (hb : v 0 ≤ 6 ∧ v 1 ≤ 6 ∧ v 3 ≤ 6) : ∃ d : Nat → List Nat, (∀ srt, srt < 3 → ∀ k, k < 6 → (k < v (mnI srt) → isLs (d (srt * 6 + k)) ∧ y (srt * 6 + k) = pk8 (d (srt * 6 + k))) ∧ (v (mnI srt) ≤ k → y (srt * 6 + k) = 0)) ∧ (∀ srt, srt < 3 → ∀ k, k < v (mnI srt) → z (srt * 6 + k) = pk27 (d (srt * 6 + k))) := by
  obtain ⟨d, hd⟩ := h
  have e : ∀ srt k, srt < 3 → k < 6 → (srt * 6 + k) % 6 = k ∧ (srt * 6 + k) / 6 = srt := fun srt k h1 h2 => by omega
  have hm : ∀ srt, srt < 3 → v (mnI srt) ≤ 6 := fun srt h => by
    rcases (show srt = 0 ∨ srt = 1 ∨ srt = 2 by omega) with rfl | rfl | rfl
    · exact hb.1
    · exact hb.2.1
    · exact hb.2.2
  refine ⟨d, fun srt hs k hk => ?_, fun srt hs k hk => ?_⟩
  · obtain ⟨h1, h2⟩ := hd (srt * 6 + k) (by omega)
    rw [(e srt k hs hk).1, (e srt k hs hk).2] at h1 h2
    exact ⟨fun q => ⟨(h1 q).1.ls, (h1 q).2.1⟩, h2⟩
  · have := hm srt hs
    obtain ⟨h1, h2⟩ := hd (srt * 6 + k) (by omega)
    rw [(e srt k hs (by omega)).1, (e srt k hs (by omega)).2] at h1
    exact (h1 hk).2.2
def FTX : List (Nat × Nat) := [(4, 9999), (5, 9999), (6, 9999), (1, 1), (1, 2), (1, 3), (1, 8), (1, 9), (1, 10), (1, 11), (45, 0), (188, 0), (188, 2), (188, 3), (188, 4), (188, 5), (188, 6), (188, 7), (188, 8), (188, 9), (188, 10), (188, 11), (188, 12), (188, 13), (188, 45), (188, 46)]
theorem text_rel {S T : XS} (hR : Rel S) (hF : Fr FTX S T) (h1 : T.1 1 1 = oo 0) (h2 : T.1 188 2 = oo 0) (hf : T.1 1 2 = T.1 188 10) : Rel T := by
  obtain ⟨⟨n, b, a0, a1, a2, a3⟩, -, a4, ⟨v, hv, hP⟩, a6, a7, a8, a9, a10, a11⟩ := hR
  exact ⟨⟨0, b, Nat.zero_le _, h1, h2, fun j hj => by rw [hF.row (c := 2) rfl, hF.row (c := 189) rfl]; exact a3 j hj⟩, hf, a4.fr hF rfl, ⟨v, hv.fr hF rfl rfl rfl rfl, hP.fr hF rfl rfl⟩, a6.fr hF rfl rfl, a7.fr hF rfl, a8.fr hF rfl, a9.fr hF rfl, a10.fr hF rfl, a11.fr hF rfl⟩
theorem ag_pleas : Ag_pleas Rel := by
  intro S hR
  obtain ⟨hT, hFa, hK, ⟨v, hv, hP⟩, hKe, hNo, hWa, hC, hD, hX⟩ := id hR; obtain ⟨hN, hO, hS, hH, hW, hNm, hSe⟩ := id hv; obtain ⟨⟨b0, b1, b2, b3, b4, b5⟩, -⟩ := id hO
  obtain ⟨n, b, hn, e1, e2, hb⟩ := id hT
  obtain ⟨d, hdc, hdn⟩ := nm_d hNm ⟨b0, b1, b3⟩
  obtain ⟨L, hx⟩ := xp_L (b, n, 300) hn (show 300 ≤ 940 by decide) (fun j hj => (hb j hj).2.2)
  have F0 : Fr [(45, 0)] S (sI S 45 0 (-1 : Int32)) := Fr.sIp (Fr.rf _ _) rfl
  obtain ⟨U0, p1, p2, p3, p4⟩ := begin_c (x := (b, n, 300)) hx (S := sI S 45 0 (-1 : Int32)) (by rw [F0.get rfl]; exact e1) (fun j hj => by rw [F0.row (c := 2) rfl]; exact (hb j hj).1) (hK.fr F0 rfl)
  have p1' : f_X8_begin 1 (300 : Int32) (sI S 45 0 (-1 : Int32)) = some U0 := p1
  have e45 : U0.1 45 0 = -1 := by rw [p4.get rfl, sI_same]
  have FU : Fr [(45, 0), (4, 9999), (5, 9999), (6, 9999), (1, 8), (1, 2), (1, 3), (1, 9), (1, 10), (1, 11)] S U0 := Fr.trans (F0.mono rfl) (p4.mono rfl)
  have key : ∀ T0 : XS, T0.1 188 2 = oo n → T0.1 189 = S.1 189 → T0.1 190 = S.1 190 → T0.2 195 = S.2 195 → ∃ U V r, f_X5_read 45 1 7 28 S = some U ∧ f_X12_pleas 188 T0 = some (r, V) ∧ r = (if U.1 1 2 = 0 then U.1 45 0 else (-2 : Int32) - U.1 1 3) ∧ V.1 188 10 = U.1 1 2 ∧ V.1 188 2 = oo 0 ∧ Fr [(45, 0), (4, 9999), (5, 9999), (6, 9999), (1, 8), (1, 2), (1, 3), (1, 9), (1, 10), (1, 11)] S U ∧ Fr [(188, 0), (188, 2), (188, 3), (188, 4), (188, 5), (188, 6), (188, 7), (188, 8), (188, 9), (188, 12), (188, 13), (188, 45), (188, 46), (188, 10), (188, 11)] T0 V := fun T0 t1 t2 t3 t4 => by
    obtain ⟨V0, q1, q2, q3, q4, q5⟩ := begin_n (x := (b, n, 300)) hx (T := T0) t1 (fun j hj => by rw [t2]; exact (hb j hj).2.1)
    have q1' : f_X12_begin 188 (300 : Int32) T0 = some V0 := q1
    have FV : Fr [(188, 45), (188, 46)] V0 (sI (sI V0 188 45 (oo 0)) 188 46 (-1 : Int32)) := Fr.sIp (Fr.sIp (Fr.rf _ _) rfl) rfl
    have hr := pleas_L (d := d) hx hO hS 30 0 0 1000000 1000000 U0 (sI (sI V0 188 45 (oo 0)) 188 46 (-1 : Int32)) rfl (by decide) (by decide) p2 (q2.fr FV rfl) (hW.fr FU rfl) (hN.cell (by rw [FV.row (c := 190) rfl, q5.row (c := 190) rfl, t3])) (fun srt hs k hk => by rw [FU.row2 (c := 9) rfl]; exact hdc srt hs k hk) (fun srt hs k hk => by rw [FV.row2 (c := 195) rfl, q5.row2 (c := 195) rfl, t4]; exact hdn srt hs k hk) (by rw [sI_place (by decide), sI_same]) (by rw [sI_same, e45])
    have FV2 : Fr [(188, 0), (188, 2), (188, 3), (188, 4), (188, 5), (188, 6), (188, 7), (188, 8), (188, 9), (188, 12), (188, 13), (188, 45), (188, 46), (188, 10), (188, 11)] T0 (sI (sI V0 188 45 (oo 0)) 188 46 (-1 : Int32)) := Fr.trans (q5.mono rfl) (FV.mono rfl)
    rcases hr with ⟨U, V, a1, a2, a3, a4, a5⟩ | ⟨U, V, a1, a2, ⟨e, q, c1, c2, c3, c4, c5, c6, c7⟩, a4, a5⟩
    · have z1 : U.1 1 2 = oo 0 := by rw [a4.get rfl]; exact p3
      refine ⟨U, V, V.1 188 46, ?_, ?_, ?_, ?_, ?_, Fr.trans FU (a4.mono rfl), Fr.trans FV2 (a5.mono rfl)⟩
      · unfold f_X5_read
        rw [p1', Option.bind_some, show (0 : Int32) = oo 0 from rfl, a1]
        rfl
      · unfold f_X12_pleas
        rw [q1', Option.bind_some, show (0 : Int32) = oo 0 from rfl, a2]
        rfl
      · rw [z1, if_pos (show oo 0 = (0 : Int32) from rfl), a3]
      · rw [a5.get rfl, FV.get rfl, q3, z1]
      · rw [a5.get rfl, FV.get rfl, q4]
    · refine ⟨U, V, (-2 : Int32) - V.1 188 11, ?_, ?_, ?_, ?_, ?_, Fr.trans FU (a4.mono rfl), Fr.trans FV2 (a5.mono rfl)⟩
      · unfold f_X5_read
        rw [p1', Option.bind_some, show (0 : Int32) = oo 0 from rfl, a1]
        rfl
      · unfold f_X12_pleas
        rw [q1', Option.bind_some, show (0 : Int32) = oo 0 from rfl, a2]
        rfl
      · rw [c4, c5, c7, if_neg (by rw [show (0 : Int32) = oo 0 from rfl, oo_eq (by omega) (by decide)]; omega)]
      · rw [c4, c6]
      · rw [a5.get rfl, FV.get rfl, q4]
  obtain ⟨U, -, -, k1, -, -, -, -, kF, -⟩ := key S e2 rfl rfl rfl
  have FA : Fr [(1, 1)] U (sI U 1 1 (oo 0)) := Fr.sIp (Fr.rf _ _) rfl
  obtain ⟨U', V, r, m1, m2, m3, m4, m5, m6, m7⟩ := key (sI U 1 1 (oo 0)) (by rw [FA.get rfl, kF.get rfl]; exact e2) (by rw [FA.row (c := 189) rfl, kF.row (c := 189) rfl]) (by rw [FA.row (c := 190) rfl, kF.row (c := 190) rfl]) (by rw [FA.row2 (c := 195) rfl, kF.row2 (c := 195) rfl])
  obtain rfl : U = U' := by
    rw [k1] at m1
    exact Option.some.inj m1
  refine ⟨r, sI U 1 1 (oo 0), V, ?_, m2, text_rel hR (Fr.trans (kF.mono rfl) (Fr.trans (FA.mono rfl) (m7.mono rfl))) (by rw [m7.get rfl, sI_same]) m5 (by rw [m7.get rfl, FA.get rfl, m4])⟩
  unfold f_X11_pleas
  rw [show rf 0 6 = 45 from rfl, show rf 0 0 = 1 from rfl, show rf 0 1 = 7 from rfl, show rf 0 3 = 28 from rfl, k1, Option.bind_some, m3, show (0 : Int32) = oo 0 from rfl, FA.get (c := 1) (j := 2) rfl, FA.get (c := 45) (j := 0) rfl, FA.get (c := 1) (j := 3) rfl]
  by_cases hz : U.1 1 2 = oo 0
  · rw [if_pos hz, if_pos hz]
  · rw [if_neg hz, if_neg hz]
