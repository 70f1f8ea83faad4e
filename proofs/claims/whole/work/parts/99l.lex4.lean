theorem pick2 {α : Type} {X Y : α} {n lim s : Nat} (hn : n ≤ 940) (hlim : lim ≤ 940) (hs : s ≤ n) (h : ¬ (lim < n ∧ lim ≤ s)) : (if oo n ≤ oo lim then X else (if oo s < oo lim then X else Y)) = X := by
  rw [ile (by omega) (by omega), ilt (by omega) (by omega)]
  by_cases h1 : n ≤ lim
  · rw [if_pos h1]
  · rw [if_neg h1, if_pos (by omega)]
theorem wdK_r (l : List Nat) : rfK (wdK l) = 2 := by
  rcases wdK_c l with h | h
  · rw [h]
    rfl
  · unfold rfK
    rw [if_neg (by omega), if_neg (by omega), if_neg (by omega), if_pos (.inr h.1)]
theorem wdK_sg (l : List Nat) : ¬ isSg (wdK l) = true := fun h => by
  have h1 := isSg_b h
  have h2 := wdK_c l
  omega
theorem tkN_of {b : Nat → Nat} {n lim p K P : Nat} {U : XS} (hK : tkK b n lim p = K) (hP : tkP b n lim p = P) (h6 : U.1 188 6 = oo P) (h7 : U.1 188 7 = oo (rfK K)) (h5 : K ≠ 0 → K ≠ 1 → U.1 188 5 = oo (tkX b n p)) (h9 : isSg K = true → U.1 188 9 = oo K) (hw : K = 2 ∨ 128 ≤ K → U.2 188 12 = pk27 (tkW b n p)) (hv : K = 3 → U.1 188 8 = oo (tkV b n p)) : tkN b n lim p U := by
  unfold tkN
  rw [hK, hP]
  exact ⟨h6, h7, h5, h9, hw, hv⟩
theorem go_n {b : Nat → Nat} {n lim p : Nat} {T : XS} (hn : n ≤ 940) (hlim : lim ≤ 940) (hp : p ≤ n) (h3 : T.1 188 3 = oo n) (h4 : T.1 188 4 = oo lim) (h5 : T.1 188 5 = oo p) (hb : ∀ j, j < 940 → T.1 189 j = oo (b j) ∧ b j < 256) : ∃ U, f_X12_go 188 T = some U ∧ tkN b n lim p U ∧ Fr [(188, 5), (188, 6), (188, 7), (188, 8), (188, 9), (188, 12)] T U := by
  have hst := stN_b (b := b) hp
  obtain ⟨U0, q1, q2, q3⟩ := blank_n (b := b) hn (n - p) p 1000000 T (by omega) (by omega) h3 h5 hb
  rw [show skN b (n - p) p = stN b n p from rfl] at q2
  unfold f_X12_go
  rw [q1, Option.bind_some, q2]
  generalize hV : sI U0 188 6 (oo (stN b n p)) = V
  have FV : Fr [(188, 5), (188, 6), (188, 7), (188, 8), (188, 9), (188, 12)] T V := by
    rw [← hV]
    exact Fr.sIp (q3.mono rfl) rfl
  have e3 : V.1 188 3 = oo n := by rw [FV.get rfl]; exact h3
  have e4 : V.1 188 4 = oo lim := by rw [FV.get rfl]; exact h4
  have e5 : V.1 188 5 = oo (stN b n p) := by rw [← hV, sI_place (by decide)]; exact q2
  have e6 : V.1 188 6 = oo (stN b n p) := by rw [← hV, sI_same]
  have hbV : ∀ j, j < 940 → V.1 189 j = oo (b j) ∧ b j < 256 := fun j hj => by rw [FV.row (c := 189) rfl]; exact hb j hj
  rw [e3, e4, e5, e6]
  by_cases hL : lim < n ∧ lim ≤ stN b n p
  · rw [if_neg (by rw [oo_le (by omega) (by omega)]; omega), if_neg (by rw [oo_lt (by omega) (by omega)]; omega)]
    refine ⟨_, rfl, tkN_of (K := 1) (P := lim) (by unfold tkK; rw [if_pos hL]) (by unfold tkP; rw [if_pos hL]) ?_ (sI_same _ _ _ _) (fun _ h => absurd rfl h) (fun h => absurd h (by decide)) (fun h => by omega) (fun h => absurd h (by decide)), Fr.sIp (Fr.sIp FV rfl) rfl⟩
    rw [sI_place (by decide), sI_same]
  rw [pick2 hn hlim hst.2 hL]
  have hP : tkP b n lim p = stN b n p := by unfold tkP; rw [if_neg hL]
  by_cases hend : n ≤ stN b n p
  · rw [if_neg (by rw [oo_lt (by omega) (by omega)]; omega)]
    refine ⟨_, rfl, tkN_of (K := 0) (by unfold tkK; rw [if_neg hL, if_pos hend]) hP ?_ (sI_same _ _ _ _) (fun h => absurd rfl h) (fun h => absurd h (by decide)) (fun h => by omega) (fun h => absurd h (by decide)), Fr.sIp FV rfl⟩
    rw [sI_place (by decide)]
    exact e6
  obtain ⟨f1, f2⟩ := hbV (stN b n p) (by omega)
  rw [if_pos (by rw [oo_lt (by omega) (by omega)]; omega), show rf 188 1 = 189 from rfl, if_neg (by rw [ln_189]; exact oo_inb (by omega) (by omega)), oo_nat (by omega), f1, le_n _ f2, di_n _ f2]
  by_cases hld : isLe (b (stN b n p)) = true ∨ isDi (b (stN b n p)) = true
  · have hK : tkK b n lim p = rkN b n p := by unfold tkK; rw [if_neg hL, if_neg hend, if_pos hld]
    have hX : tkX b n p = edN b n p := by unfold tkX; rw [if_pos hld]
    have hse : stN b n p < edN b n p := enN_p (by omega) hld
    have hen := (edN_b (b := b) hp).2
    have hcl := clN_le (b := b) (s := stN b n p) (edN b n p - stN b n p)
    have F1 : Fr [(188, 5), (188, 6), (188, 7), (188, 8), (188, 9), (188, 12)] V (sI (sL V 188 12 0) 188 8 (0 : Int32)) := Fr.sIp (Fr.sLp (Fr.rf _ _) rfl) rfl
    obtain ⟨R, r1, r2, r3, r4, r5⟩ := run_n (b := b) (lt := isLe (b (stN b n p))) (s := stN b n p) hn (n - stN b n p) 0 1000000 (sI (sL V 188 12 0) 188 8 (0 : Int32)) (by omega) (by omega) (by rw [F1.get rfl]; exact h3 ▸ FV.get rfl) (by rw [sI_place (by decide)]; exact e5) (by rw [sI_place (by decide)]; exact e6) (fun j hj => by rw [F1.row (c := 189) rfl]; exact hbV j hj) (fun _ _ => by rw [sI_long, sL_same]; rfl) (fun _ _ => by rw [sI_same]; rfl)
    rw [Nat.add_zero, show enN b (n - stN b n p) (stN b n p) = edN b n p from rfl] at r1 r2 r3 r4
    have hg0 : bi (gdN b (stN b n p) (isLe (b (stN b n p))) 0) = 1 := by
      unfold gdN
      cases isLe (b (stN b n p)) <;> rfl
    rw [hg0] at r1
    have FR : Fr [(188, 5), (188, 6), (188, 7), (188, 8), (188, 9), (188, 12)] T R := Fr.trans FV (Fr.trans F1 (r5.mono rfl))
    have r6 : R.1 188 6 = oo (stN b n p) := by rw [r5.get rfl, sI_place (by decide)]; exact e6
    have c1 : clN b (stN b n p) 1 = if isLe (b (stN b n p)) = true then 1 else 0 := by rw [clN, Nat.add_zero]; exact Nat.zero_add _
    have cz : clN b (stN b n p) (edN b n p - stN b n p) = 0 → clN b (stN b n p) 1 = 0 := fun h => clN_z (j := edN b n p - stN b n p - 1) (by rw [show 1 + (edN b n p - stN b n p - 1) = edN b n p - stN b n p by omega]; exact h)
    have cp : clN b (stN b n p) (edN b n p - stN b n p) = edN b n p - stN b n p → clN b (stN b n p) 1 = 1 := fun h => clN_p (j := edN b n p - stN b n p - 1) (by rw [show 1 + (edN b n p - stN b n p - 1) = edN b n p - stN b n p by omega]; exact h)
    have hbad : rkN b n p = 1 → tkN b n lim p (sI R 188 7 (1 : Int32)) := fun h => tkN_of (K := 1) (by rw [hK]; exact h) hP (by rw [sI_place (by decide)]; exact r6) (sI_same _ _ _ _) (fun _ h => absurd rfl h) (fun h => absurd h (by decide)) (fun h => by omega) (fun h => absurd h (by decide))
    have fin : ∃ U, ((f_X12_go_L215 (isLe (b (stN b n p))) 188 1000000 (1 : Int32) (sI (sL V 188 12 0) 188 8 (0 : Int32))).bind (fun q => match q with | (e32, S33) => (if e32 = 0 then some (sI S33 188 7 (1 : Int32)) else ((if (isLe (b (stN b n p))) = true then some (7 : Int32) else some (3 : Int32)).bind (fun x35 => (if ((S33.1 188 5) - (S33.1 188 6)) ≤ x35 then (if (isLe (b (stN b n p))) = true then some (sI S33 188 7 (2 : Int32)) else some (sI S33 188 7 (3 : Int32))) else some (sI S33 188 7 (1 : Int32)))))))) = some U ∧ tkN b n lim p U ∧ Fr [(188, 5), (188, 6), (188, 7), (188, 8), (188, 9), (188, 12)] T U := by
      rw [r1, Option.bind_some]
      dsimp only
      rw [r2, r6, oo_sub (by omega)]
      by_cases hl : isLe (b (stN b n p)) = true
      · rw [if_pos hl] at c1
        have hnz : ¬ clN b (stN b n p) (edN b n p - stN b n p) = 0 := fun z => by
          have := cz z
          omega
        rw [hl]
        by_cases ha : clN b (stN b n p) (edN b n p - stN b n p) = edN b n p - stN b n p
        · have hg : gdN b (stN b n p) true (edN b n p - stN b n p) = true := by
            unfold gdN
            rw [if_pos rfl, decide_eq_true ha]
          rw [hg, if_neg (by decide), if_pos rfl, Option.bind_some, if_pos rfl, show (7 : Int32) = oo 7 from rfl, ile (by omega) (by decide)]
          by_cases h7 : edN b n p - stN b n p ≤ 7
          · have hk : rkN b n p = wdK (tkW b n p) := by unfold rkN; rw [if_pos ⟨ha, h7⟩]
            have hc := wdK_c (tkW b n p)
            rw [if_pos h7]
            refine ⟨_, rfl, tkN_of (K := wdK (tkW b n p)) (by rw [hK, hk]) hP (by rw [sI_place (by decide)]; exact r6) (by rw [sI_same, wdK_r]; rfl) (fun _ _ => by rw [sI_place (by decide), hX]; exact r2) (fun h => absurd h (wdK_sg _)) (fun _ => by rw [sI_long]; exact r3 ha h7) (fun h => by omega), Fr.sIp FR rfl⟩
          · rw [if_neg h7]
            exact ⟨_, rfl, hbad (by unfold rkN; rw [if_neg (fun z => h7 z.2), if_neg (fun z => hnz z.1)]), Fr.sIp FR rfl⟩
        · have hg : gdN b (stN b n p) true (edN b n p - stN b n p) = false := by
            unfold gdN
            rw [if_pos rfl, decide_eq_false ha]
          rw [hg, if_pos (show bi false = 0 from rfl)]
          exact ⟨_, rfl, hbad (by unfold rkN; rw [if_neg (fun z => ha z.1), if_neg (fun z => hnz z.1)]), Fr.sIp FR rfl⟩
      · rw [if_neg hl] at c1
        have hna : ¬ clN b (stN b n p) (edN b n p - stN b n p) = edN b n p - stN b n p := fun z => by
          have := cp z
          omega
        have hlf : isLe (b (stN b n p)) = false := by
          cases hq : isLe (b (stN b n p)) with
          | false => rfl
          | true => exact absurd hq hl
        rw [hlf]
        by_cases hz : clN b (stN b n p) (edN b n p - stN b n p) = 0
        · have hg : gdN b (stN b n p) false (edN b n p - stN b n p) = true := by
            unfold gdN
            rw [if_neg (by decide), decide_eq_true hz]
          rw [hg, if_neg (by decide), if_neg (show ¬ (false = true) by decide), Option.bind_some, if_neg (show ¬ (false = true) by decide), show (3 : Int32) = oo 3 from rfl, ile (by omega) (by decide)]
          by_cases h33 : edN b n p - stN b n p ≤ 3
          · have hk : rkN b n p = 3 := by unfold rkN; rw [if_neg (fun z => hna z.1), if_pos ⟨hz, h33⟩]
            rw [if_pos h33]
            refine ⟨_, rfl, tkN_of (K := 3) (by rw [hK, hk]) hP (by rw [sI_place (by decide)]; exact r6) (sI_same _ _ _ _) (fun _ _ => by rw [sI_place (by decide), hX]; exact r2) (fun h => absurd h (by decide)) (fun h => by omega) (fun _ => by rw [sI_place (by decide)]; exact r4 hz h33), Fr.sIp FR rfl⟩
          · rw [if_neg h33]
            exact ⟨_, rfl, hbad (by unfold rkN; rw [if_neg (fun z => hna z.1), if_neg (fun z => h33 z.2)]), Fr.sIp FR rfl⟩
        · have hg : gdN b (stN b n p) false (edN b n p - stN b n p) = false := by
            unfold gdN
            rw [if_neg (by decide), decide_eq_false hz]
          rw [hg, if_pos (show bi false = 0 from rfl)]
          exact ⟨_, rfl, hbad (by unfold rkN; rw [if_neg (fun z => hna z.1), if_neg (fun z => hz z.1)]), Fr.sIp FR rfl⟩
    by_cases hl : isLe (b (stN b n p)) = true
    · rw [if_pos hl]
      exact fin
    · rw [if_neg hl, if_pos (hld.resolve_left hl)]
      exact fin
  · have hX : tkX b n p = stN b n p + 1 := by unfold tkX; rw [if_neg hld]
    rw [if_neg (fun z => hld (.inl z)), if_neg (fun z => hld (.inr z))]
    have hs : (if oo (b (stN b n p)) = (59 : Int32) then some (4 : Int32) else (if oo (b (stN b n p)) = (60 : Int32) then some (4 : Int32) else (if oo (b (stN b n p)) = (61 : Int32) then some (4 : Int32) else (if oo (b (stN b n p)) = (62 : Int32) then some (4 : Int32) else (if oo (b (stN b n p)) = (40 : Int32) then some (4 : Int32) else (if oo (b (stN b n p)) = (41 : Int32) then some (4 : Int32) else some (1 : Int32))))))) = some (if isSg (b (stN b n p)) = true then oo 4 else oo 1) := by
      have h : ∀ c, c < 256 → (if oo c = (59 : Int32) then some (4 : Int32) else (if oo c = (60 : Int32) then some (4 : Int32) else (if oo c = (61 : Int32) then some (4 : Int32) else (if oo c = (62 : Int32) then some (4 : Int32) else (if oo c = (40 : Int32) then some (4 : Int32) else (if oo c = (41 : Int32) then some (4 : Int32) else some (1 : Int32))))))) = some (if isSg c = true then oo 4 else oo 1) := by decide +kernel
      exact h _ f2
    rw [hs, Option.bind_some]
    have F2 : Fr [(188, 5), (188, 6), (188, 7), (188, 8), (188, 9), (188, 12)] T (sI (sI (sI V 188 7 (if isSg (b (stN b n p)) = true then oo 4 else oo 1)) 188 9 (oo (b (stN b n p)))) 188 5 (oo (stN b n p + 1))) := Fr.sIp (Fr.sIp (Fr.sIp FV rfl) rfl) rfl
    have e5' : (sI (sI V 188 7 (if isSg (b (stN b n p)) = true then oo 4 else oo 1)) 188 9 (oo (b (stN b n p)))).1 188 5 + (1 : Int32) = oo (stN b n p + 1) := by
      rw [sI_place (by decide), sI_place (by decide), e5]
      exact oo_add _ 1
    rw [e5']
    refine ⟨_, rfl, ?_, F2⟩
    have g6 : (sI (sI (sI V 188 7 (if isSg (b (stN b n p)) = true then oo 4 else oo 1)) 188 9 (oo (b (stN b n p)))) 188 5 (oo (stN b n p + 1))).1 188 6 = oo (stN b n p) := by
      rw [sI_place (by decide), sI_place (by decide), sI_place (by decide)]
      exact e6
    have g7 : (sI (sI (sI V 188 7 (if isSg (b (stN b n p)) = true then oo 4 else oo 1)) 188 9 (oo (b (stN b n p)))) 188 5 (oo (stN b n p + 1))).1 188 7 = (if isSg (b (stN b n p)) = true then oo 4 else oo 1) := by
      rw [sI_place (by decide), sI_place (by decide), sI_same]
    have g9 : (sI (sI (sI V 188 7 (if isSg (b (stN b n p)) = true then oo 4 else oo 1)) 188 9 (oo (b (stN b n p)))) 188 5 (oo (stN b n p + 1))).1 188 9 = oo (b (stN b n p)) := by
      rw [sI_place (by decide), sI_same]
    by_cases hsg : isSg (b (stN b n p)) = true
    · have hk : tkK b n lim p = b (stN b n p) := by unfold tkK; rw [if_neg hL, if_neg hend, if_neg hld, if_pos hsg]
      have := sg_lt hsg
      refine tkN_of hk hP g6 ?_ (fun _ _ => by rw [hX]; exact sI_same _ _ _ _) (fun _ => g9) (fun h => by omega) (fun h => by omega)
      rw [g7, if_pos hsg]
      unfold rfK
      rw [if_neg (by omega), if_neg (by omega), if_neg (by omega), if_neg (by omega)]
    · have hk : tkK b n lim p = 1 := by unfold tkK; rw [if_neg hL, if_neg hend, if_neg hld, if_neg hsg]
      refine tkN_of hk hP g6 ?_ (fun _ h => absurd rfl h) (fun h => absurd h (by decide)) (fun h => by omega) (fun h => absurd h (by decide))
      rw [g7, if_neg hsg]
      rfl
