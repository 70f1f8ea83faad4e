/-! CHANGED -/
def FCH : List (Nat × Nat) := [(1, 1), (172, 0), (172, 2), (172, 3), (173, 9999), (174, 9999), (175, 9999), (176, 9999), (177, 9999), (188, 0), (188, 2), (188, 44), (190, 9999), (194, 9999), (211, 9999), (212, 9999)]
theorem chg_rel {S T : XS} {v : Nat → Nat} (hR : Rel S) (hv : RNow S v) (hP : RPast S v) (hF : Fr FCH S T) (h1 : T.1 1 1 = oo 0) (h2 : T.1 188 2 = oo 0) (hN : IsC T 190 516 v) (hC : RChg T) : Rel T := by
  obtain ⟨⟨n, b, a0, a1, a2, a3⟩, aF, a4, -, a6, a7, a8, -, a10, a11⟩ := hR
  obtain ⟨-, hO, hS, hH, hW, hNm, hSe⟩ := hv
  refine ⟨⟨0, b, Nat.zero_le _, h1, h2, fun j hj => by rw [hF.row (c := 2) rfl, hF.row (c := 189) rfl]; exact a3 j hj⟩, aF.fr hF rfl, a4.fr hF rfl, ⟨v, ⟨hN, hO, hS, hH.fr hF rfl, hW.fr hF rfl, ?_, hSe.fr hF rfl⟩, hP.fr hF rfl rfl⟩, a6.fr hF rfl rfl, a7.fr hF rfl, a8.fr hF rfl, hC, a10.fr hF rfl, a11.fr hF rfl⟩
  rw [hF.row2 (c := 9) rfl, hF.row2 (c := 195) rfl]
  exact hNm
theorem ag_changed : Ag_changed Rel := by
  intro S hR
  obtain ⟨hT, hFa, hK, ⟨v, hv, hP⟩, hKe, hNo, hWa, hC, hD, hX⟩ := id hR; obtain ⟨hN, hO, hS, hH, hW, hNm, hSe⟩ := id hv; obtain ⟨⟨b0, b1, b2, b3, b4, b5⟩, -⟩ := id hO
  obtain ⟨n, bt, hn, e1, e2, hb⟩ := id hT
  have eE : S.1 28 0 = oo (v 144) := hW.1
  have h999 := hS.1
  have e82 : gat S 8 (oo 2) = oo (v 3) := by rw [g_8 (by decide), hH.n2]
  have e80 : gat S 8 (oo 0) = oo (v 0) := by rw [g_8 (by decide), hH.n0]
  have hmul : v 3 * v 0 ≤ 36 := Nat.mul_le_mul b3 b0
  have FS : Fr [(1, 1)] S (sI S 1 1 (oo 0)) := Fr.sIp (Fr.rf _ _) rfl
  have ht := take2 (T := sI S 1 1 (oo 0)) (N := n) (by rw [FS.get rfl]; exact e2)
  have FB : Fr [(1, 1), (188, 0), (188, 2)] S (sI (sI (sI S 1 1 (oo 0)) 188 0 (oo 0)) 188 2 (oo 0)) := Fr.sIp (Fr.sIp (FS.mono rfl) rfl) rfl
  have hRb : Rel (sI (sI (sI S 1 1 (oo 0)) 188 0 (oo 0)) 188 2 (oo 0)) := chg_rel hR hv hP (FB.mono rfl) (by simp (disch := omega) only [sI_same, sI_place, sI_cell, sI_long, sL_int, sL_same, sL_place, sL_cell]) (sI_same _ _ _ _) (hN.cell (FB.row rfl)) (hC.fr FB rfl)
  have c3 : (sI (sI (sI S 1 1 (oo 0)) 188 0 (oo 0)) 188 2 (oo 0)).1 190 3 = oo (v 3) := by rw [FB.row (c := 190) rfl]; exact hN 3 (by decide)
  have c0 : (sI (sI (sI S 1 1 (oo 0)) 188 0 (oo 0)) 188 2 (oo 0)).1 190 0 = oo (v 0) := by rw [FB.row (c := 190) rfl]; exact hN 0 (by decide)
  have c144 : (sI (sI (sI S 1 1 (oo 0)) 188 0 (oo 0)) 188 2 (oo 0)).1 190 144 = oo (v 144) := by rw [FB.row (c := 190) rfl]; exact hN 144 (by decide)
  by_cases hE : v 144 ≤ 60
  · by_cases hnn : n = v 3 * v 0
    · obtain ⟨nc, z1, z2, z3, z4, z5⟩ := id hC
      have F1 : Fr [(172, 2), (172, 3), (172, 0)] S (sI (sI (sI S 172 2 (oo (v 144))) 172 3 (oo (v 3))) 172 0 (oo 0)) := Fr.sIp (Fr.sIp (Fr.sIp (Fr.rf _ _) rfl) rfl) rfl
      have q2 : (sI (sI (sI S 172 2 (oo (v 144))) 172 3 (oo (v 3))) 172 0 (oo 0)).1 172 2 = oo (v 144) := by rw [sI_place (by decide), sI_place (by decide), sI_same]
      have q3 : (sI (sI (sI S 172 2 (oo (v 144))) 172 3 (oo (v 3))) 172 0 (oo 0)).1 172 3 = oo (v 3) := by rw [sI_place (by decide), sI_same]
      have q0 : (sI (sI (sI S 172 2 (oo (v 144))) 172 3 (oo (v 3))) 172 0 (oo 0)).1 172 0 = oo 0 := sI_same _ _ _ _
      have g82 : gat (sI S 172 2 (oo (v 144))) 8 (oo 2) = oo (v 3) := by rw [g_8 (by decide), sI_cell (by decide), hH.n2]
      have g80 : gat (sI (sI (sI S 172 2 (oo (v 144))) 172 3 (oo (v 3))) 172 0 (oo 0)) 8 (oo 0) = oo (v 0) := by rw [g_8 (by decide), F1.row (c := 8) rfl, hH.n0]
      generalize hA : sI (sI (sI S 172 2 (oo (v 144))) 172 3 (oo (v 3))) 172 0 (oo 0) = A at F1 q2 q3 q0 g80
      obtain ⟨B, t1, t2, t3⟩ := told_c (bt := bt) b0 b3 q3 (fun j hj => by rw [F1.row (c := 2) rfl]; exact ⟨(hb j hj).1, (hb j hj).2.2⟩)
      obtain ⟨C, p1, p2, p3⟩ := passA_c (E := v 144) hO hE (S := B) (by rw [t3.get rfl]; exact q2) (by rw [t3.get rfl]; exact q3) ((hH.fr F1 rfl).fr t3 rfl) (fun j hj => by rw [t3.row (c := 176) rfl, F1.row (c := 176) rfl]; exact z5 j hj)
      have hB : CB v bt (v 144) C := ⟨by rw [p3.get rfl, t3.get rfl]; exact q2, by rw [p3.get rfl, t3.get rfl]; exact q3, ((hH.fr F1 rfl).fr t3 rfl).fr p3 rfl, p2, by
        unfold Told at t2 ⊢
        rw [p3.row (c := 174) rfl]
        exact t2⟩
      have hws : wsC C [] := ⟨by rw [p3.get rfl, t3.get rfl, q0]; rfl, fun k _ h => absurd h (Nat.not_lt_zero _)⟩
      have htri : triN (v 3) * v 144 ≤ 15 * 60 := Nat.mul_le_mul (tri_le b3) hE
      obtain ⟨D, d1, d2, d3⟩ := srch_a hO hE (fun j hj => (hb j hj).2.2) (v 3) 0 1000000 C [] (by omega) (by omega) hB hws (by rw [List.length_nil]; omega)
      have hlen := alF_len (P := chP v bt (v 144)) (n := v 3) (E := v 144) (v 3) 0 [] (by omega)
      rw [List.length_nil] at hlen
      have FD : Fr [(172, 2), (172, 3), (172, 0), (174, 9999), (175, 9999), (176, 9999), (177, 9999), (173, 9999)] S D := Fr.trans (F1.mono rfl) (Fr.trans (t3.mono rfl) (Fr.trans (p3.mono rfl) (d3.mono rfl)))
      have FX : Fr [(1, 1)] D (sI D 1 1 (oo 0)) := Fr.sIp (Fr.rf _ _) rfl
      obtain ⟨U, u1, u2, u3, u4, u5⟩ := chg_n (T := sI D 1 1 (oo 0)) (bt := bt) (n := n) hO (by rw [FX.get rfl, FD.get rfl]; exact e2) (hN.cell (by rw [FX.row (c := 190) rfl, FD.row (c := 190) rfl])) hnn hE (fun j hj => by rw [FX.row (c := 189) rfl, FD.row (c := 189) rfl]; exact ⟨(hb j hj).2.1, (hb j hj).2.2⟩)
      generalize hw : alF (chP v bt (v 144)) (v 3) (v 144) (v 3) 0 [] = ws at d2 hlen u1 u3
      have FT : Fr FCH S U := Fr.trans (FD.mono rfl) (Fr.trans (FX.mono rfl) (u5.mono rfl))
      refine ⟨oo ws.length, sI D 1 1 (oo 0), U, ?_, u1, chg_rel hR hv hP FT (by rw [u5.get rfl, sI_same]) u4 u2 ⟨ws.length, by omega, ?_, u3.1, fun k k1 k2 => ?_, fun j hj => ?_⟩⟩
      · have hsr : f_X0_search 172 7 1 (oo (v 144)) S = some (oo ws.length, D) := by
          unfold f_X0_search
          rw [show rf 7 0 = 8 from rfl, show (2 : Int32) = oo 2 from rfl, g82, show (0 : Int32) = oo 0 from rfl, hA, g80, t1, Option.bind_some, p1, Option.bind_some, d1, Option.bind_some, d2.1]
        unfold f_X11_changed
        rw [show rf 0 3 = 28 from rfl, eE, if_neg (show ¬ (60 : Int32) < oo (v 144) by rw [show (60 : Int32) = oo 60 from rfl, oo_lt (by decide) (by omega)]; omega), show rf 0 0 = 1 from rfl, show rf 0 1 = 7 from rfl, show rf 7 0 = 8 from rfl, show (2 : Int32) = oo 2 from rfl, show (0 : Int32) = oo 0 from rfl, e1, e82, e80, oo_mul, if_pos (by rw [hnn]), show rf 0 16 = 172 from rfl, hsr, Option.bind_some, Option.bind_some]
      · rw [u5.get rfl, FX.get rfl]; exact d2.1
      · rw [u5.row (c := 173) rfl, FX.row (c := 173) rfl, d2.2 k k1 k2, u3.2 k k1 k2]
      · rw [u5.row (c := 176) rfl, FX.row (c := 176) rfl, d3.row (c := 176) rfl]
        exact p2.2 j hj
    · have hne : ¬ oo n = oo (v 3 * v 0) := by rw [oo_eq (by omega) (by omega)]; exact hnn
      refine ⟨-1, sI S 1 1 (oo 0), _, ?_, ?_, hRb⟩
      · unfold f_X11_changed
        rw [show rf 0 3 = 28 from rfl, eE, if_neg (show ¬ (60 : Int32) < oo (v 144) by rw [show (60 : Int32) = oo 60 from rfl, oo_lt (by decide) (by omega)]; omega), show rf 0 0 = 1 from rfl, show rf 0 1 = 7 from rfl, show rf 7 0 = 8 from rfl, show (2 : Int32) = oo 2 from rfl, show (0 : Int32) = oo 0 from rfl, e1, e82, e80, oo_mul, if_neg hne]
        rfl
      · unfold f_X12_changed
        rw [show (0 : Int32) = oo 0 from rfl, ht]
        dsimp only
        rw [show rf 188 14 = 190 from rfl, c3, c0, oo_mul, if_neg hne]
  · refine ⟨-1, sI S 1 1 (oo 0), _, ?_, ?_, hRb⟩
    · unfold f_X11_changed
      rw [show rf 0 3 = 28 from rfl, eE, if_pos (show (60 : Int32) < oo (v 144) by rw [show (60 : Int32) = oo 60 from rfl, oo_lt (by decide) (by omega)]; omega), show rf 0 0 = 1 from rfl]
      rfl
    · unfold f_X12_changed
      rw [show (0 : Int32) = oo 0 from rfl, ht]
      dsimp only
      rw [show rf 188 14 = 190 from rfl, c3, c0, oo_mul, c144]
      by_cases hnn : n = v 3 * v 0
      · rw [if_pos (by rw [hnn]), if_neg (show ¬ oo (v 144) ≤ (60 : Int32) by rw [show (60 : Int32) = oo 60 from rfl, oo_le (by omega) (by decide)]; exact hE)]
      · rw [if_neg (by rw [oo_eq (by omega) (by omega)]; exact hnn)]
