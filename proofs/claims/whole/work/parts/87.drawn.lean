/-! an hour drawn -/
def wnN (v w : Nat → Nat) : Nat → Nat := fun j => if 151 ≤ j ∧ j < 157 then w (j - 151) else v j
theorem wnN_o {v w : Nat → Nat} {j : Nat} (h : j < 151 ∨ 157 ≤ j) : wnN v w j = v j := if_neg (by omega)
theorem wnN_in {v w : Nat → Nat} {k : Nat} (h : k < 6) : wnN v w (151 + k) = w k := by
  unfold wnN
  rw [if_pos (by omega), Nat.add_sub_cancel_left]
def wkV (nx : Int32 → Int32) (dr : Int32 → Nat → Nat) (x : Int32) (v : Nat → Nat) : Int32 × Nat × (Nat → Nat) := wkN nx dr (v 1) (v 3) 0 x 0 (fun i => v (145 + i))
def chV (nx : Int32 → Int32) (dr : Int32 → Nat → Nat) (x : Int32) (v : Nat → Nat) : Int32 × Nat × (Nat → Nat) := chN nx dr (v 3) (wkV nx dr x v).1 (fun i => v (151 + i))
def dhV (nx : Int32 → Int32) (dr : Int32 → Nat → Nat) (x : Int32) (v : Nat → Nat) : Nat → Nat := wnN (plN v (wkV nx dr x v).2.2) (chV nx dr x v).2.2
def dhR (nx : Int32 → Int32) (dr : Int32 → Nat → Nat) (x : Int32) (v : Nat → Nat) : Nat := if dr (chV nx dr x v).1 5 = 0 then 1 else 0
def dhW (nx : Int32 → Int32) (dr : Int32 → Nat → Nat) (x : Int32) (v : Nat → Nat) : Nat → Nat := pnN (dhV nx dr x v) (wetN (dhV nx dr x v) (decide (dr (chV nx dr x v).1 5 = 0)))
theorem chN_1 {nx : Int32 → Int32} {dr : Int32 → Nat → Nat} {n : Nat} {x : Int32} {w : Nat → Nat} : (chN nx dr n x w).2.1 ≤ 1 := by
  unfold chN
  split
  · split
    · exact Nat.zero_le _
    · exact Nat.le_refl _
  · exact Nat.zero_le _
theorem wkV_c {nx : Int32 → Int32} {dr : Int32 → Nat → Nat} {v : Nat → Nat} {x : Int32} (hO : HOK v) : (wkV nx dr x v).2.1 ≤ 6 := by
  have h := wkN_c (nx := nx) (dr := dr) (np := v 1) (v 3) 0 x 0 (fun i => v (145 + i))
  have := hO.1.2.2.2.1
  unfold wkV
  omega
theorem dhV_o {nx : Int32 → Int32} {dr : Int32 → Nat → Nat} {v : Nat → Nat} {x : Int32} {j : Nat} (h : j < 145 ∨ 157 ≤ j) : dhV nx dr x v j = v j := by
  unfold dhV
  rw [wnN_o (by omega), plN_o (by omega)]
theorem dhW_o {nx : Int32 → Int32} {dr : Int32 → Nat → Nat} {v : Nat → Nat} {x : Int32} {j : Nat} (h : j < 144 ∨ 274 ≤ j) : dhW nx dr x v j = v j := by
  unfold dhW
  rw [pnN_o (by omega), dhV_o (by omega)]
theorem dhW_144 {nx : Int32 → Int32} {dr : Int32 → Nat → Nat} {v : Nat → Nat} {x : Int32} : dhW nx dr x v 144 = v 144 + 1 := by
  unfold dhW
  rw [pnN_144, dhV_o (by omega)]
theorem dhV_ok {nx : Int32 → Int32} {dr : Int32 → Nat → Nat} {v : Nat → Nat} {x : Int32} (hlt : ∀ x k, 1 ≤ k → dr x k < k) (hO : HOK v) (hS : SOK v) (hp1 : 1 ≤ v 1) (hw1 : 1 ≤ v 3) : HOK (dhV nx dr x v) ∧ SOK (dhV nx dr x v) := by
  obtain ⟨⟨b0, b1, b2, b3, b4, b5⟩, -⟩ := id hO
  have hp : SOK (plN v (wkV nx dr x v).2.2) := plN_ok hS hO (fun w hw => wkN_p (np := v 1) (fun y => hlt y _ hp1) (v 3) 0 x 0 (fun i => v (145 + i)) (fun i hi => (hS.2.1 i (by omega)).1) w (by omega))
  have hOp : HOK (plN v (wkV nx dr x v).2.2) := hO.ext (fun k hk => (plN_o (by omega)).symm)
  refine ⟨hO.ext (fun k hk => (dhV_o (by omega)).symm), ?_⟩
  have h3 : plN v (wkV nx dr x v).2.2 3 = v 3 := plN_o (by omega)
  have hw : ∀ k, k < 6 → plN v (wkV nx dr x v).2.2 (151 + k) = v (151 + k) := fun k hk => plN_o (by omega)
  unfold dhV chV
  generalize (wkV nx dr x v).1 = y
  generalize plN v (wkV nx dr x v).2.2 = u at hp hOp h3 hw
  have e1 : ∀ k, u k = wnN u (fun i => v (151 + i)) k := fun k => by
    by_cases h : 151 ≤ k ∧ k < 157
    · obtain ⟨q, rfl⟩ : ∃ q, k = 151 + q := ⟨k - 151, by omega⟩
      rw [wnN_in (by omega), hw q (by omega)]
    · rw [wnN_o (by omega)]
  unfold chN
  split
  · split
    · exact hp.ext hOp (fun k _ => e1 k)
    · have ha := hlt (nx y) (v 3) hw1
      have hb := hlt (nx (nx y)) (v 3) hw1
      generalize dr (nx y) (v 3) = a at ha
      generalize dr (nx (nx y)) (v 3) = b at hb
      refine (sok_swap hp hOp (a := a) (b := b) (by omega) (by omega)).ext (hOp.ext (fun k hk => by rw [upN_ne (by omega), upN_ne (by omega)])) (fun k _ => ?_)
      by_cases h : 151 ≤ k ∧ k < 157
      · obtain ⟨q, rfl⟩ : ∃ q, k = 151 + q := ⟨k - 151, by omega⟩
        rw [wnN_in (by omega)]
        dsimp only
        by_cases hqb : q = b
        · rw [hqb, upN_same, upN_same, hw a (by omega)]
        · rw [upN_ne (by omega), upN_ne hqb]
          by_cases hqa : q = a
          · rw [hqa, upN_same, upN_same, hw b (by omega)]
          · rw [upN_ne (by omega), upN_ne hqa, hw q (by omega)]
      · rw [wnN_o (by omega), upN_ne (by omega), upN_ne (by omega)]
  · exact hp.ext hOp (fun k _ => e1 k)
theorem wd_pl {S T : XS} {v p : Nat → Nat} {l : List (Nat × Nat)} (hW : IsWd S 28 v) (hF : Fr l S T) (hl : tcr l 28 = false ∧ tcr l 30 = false ∧ tcr l 31 = false ∧ tcr l 32 = false ∧ tcr l 33 = false ∧ tcr l 34 = false ∧ tcr l 35 = false) (hp : ∀ i, i < 6 → T.1 29 i = oo (p i)) : IsWd T 28 (plN v p) := by
  obtain ⟨w0, w1, w2, w3, w4, w5, w6⟩ := hW
  obtain ⟨l0, l2, l3, l4, l5, l6, l7⟩ := hl
  refine ⟨?_, fun i hi => ?_, fun i hi => ?_, fun c s hc hs => ?_, ?_, fun c s hc hs => ?_, fun c hc => ?_⟩
  · rw [hF.row l0, plN_o (by omega)]; exact w0
  · rw [plN_in hi]; exact hp i hi
  · rw [hF.row l2, plN_o (by omega)]; exact w2 i hi
  · rw [hF.row l3, plN_o (by omega)]; exact w3 c s hc hs
  · rw [hF.row l0, plN_o (by omega)]; exact w4
  · rw [plN_o (by omega)] at hc
    rw [hF.row l4, plN_o (by omega)]; exact w5 c s hc hs
  · rw [plN_o (by omega)] at hc
    rw [hF.row l5, hF.row l6, hF.row l7, plN_o (by omega), plN_o (by omega), plN_o (by omega)]; exact w6 c hc
theorem wd_wn {S T : XS} {v p : Nat → Nat} {l : List (Nat × Nat)} (hW : IsWd S 28 v) (hF : Fr l S T) (hl : tcr l 28 = false ∧ tcr l 29 = false ∧ tcr l 31 = false ∧ tcr l 32 = false ∧ tcr l 33 = false ∧ tcr l 34 = false ∧ tcr l 35 = false) (hp : ∀ i, i < 6 → T.1 30 i = oo (p i)) : IsWd T 28 (wnN v p) := by
  obtain ⟨w0, w1, w2, w3, w4, w5, w6⟩ := hW
  obtain ⟨l0, l2, l3, l4, l5, l6, l7⟩ := hl
  refine ⟨?_, fun i hi => ?_, fun i hi => ?_, fun c s hc hs => ?_, ?_, fun c s hc hs => ?_, fun c hc => ?_⟩
  · rw [hF.row l0, wnN_o (by omega)]; exact w0
  · rw [hF.row l2, wnN_o (by omega)]; exact w1 i hi
  · rw [wnN_in hi]; exact hp i hi
  · rw [hF.row l3, wnN_o (by omega)]; exact w3 c s hc hs
  · rw [hF.row l0, wnN_o (by omega)]; exact w4
  · rw [wnN_o (by omega)] at hc
    rw [hF.row l4, wnN_o (by omega)]; exact w5 c s hc hs
  · rw [wnN_o (by omega)] at hc
    rw [hF.row l5, hF.row l6, hF.row l7, wnN_o (by omega), wnN_o (by omega), wnN_o (by omega)]; exact w6 c hc
theorem walks_z (z z' y y' : Int32) : ∀ n i T, f_X12_drawHours_L30 z 188 y n i T = f_X12_drawHours_L30 z' 188 y' n i T := by
  intro n
  induction n with
  | zero => intro i T; rfl
  | succ n ih =>
    intro i T
    rw [f_X12_drawHours_L30, f_X12_drawHours_L30]
    simp only [ih]
section DH
variable {nx : Int32 → Int32} {dr : Int32 → Nat → Nat} {v : Nat → Nat}
theorem ite_any {P : Prop} {d0 : Decidable P} (d : Decidable P) {α : Type} {a b c : α} (h : @ite α P d0 a b = c) : @ite α P d a b = c := by
  rw [← h]
  congr
theorem hour_dstep {T T1 T3 U : XS} {a b c n i N kk cc rr : Nat} {y : Int32} {bb : Bool} (hi : i < N) (hN : N ≤ 60) (ha : a ≤ 1000) (hb : b ≤ 1000) (hc : c ≤ 1000) (hR1 : rr ≤ 1) (hkk : kk ≤ 6) (hcc : cc ≤ 1) (t1 : f_X1_drawWalks 178 7 28 T = some (oo kk, T1)) (e3 : T.1 178 3 = oo c) (s1 : f_X1_drawChange 178 7 28 (sI T1 178 3 (oo (c + kk))) = some (oo cc, T3)) (f0 : T1.1 178 2 = oo b) (hr : f_X1_drawRain 178 (sI T3 178 2 (oo (b + cc))) = some (oo rr, sI (sI T3 178 2 (oo (b + cc))) 178 4 y)) (f1 : T3.1 178 1 = oo a) (hfl : (if rr = 1 then some true else some false) = some bb) (u1 : f_X10_passHour 28 7 bb (sI (sI (sI T3 178 2 (oo (b + cc))) 178 4 y) 178 1 (oo (a + rr))) = some U) : f_X1_passHours_L29 178 7 28 (oo N) (n + 1) (oo i) T = f_X1_passHours_L29 178 7 28 (oo N) n (oo (i + 1)) U := by
  have hN' : ¬ oo N ≤ oo i := by rw [oo_le (by omega) (by omega)]; omega
  rw [f_X1_passHours_L29, if_neg hN', t1, Option.bind_some, e3]
  dsimp only
  rw [oo_add, s1, Option.bind_some]
  dsimp only
  rw [sI_place (show (2 : Nat) ≠ 3 by decide), f0, oo_add, hr, Option.bind_some]
  dsimp only
  rw [show ((sI (sI T3 178 2 (oo (b + cc))) 178 4 y).1 178 1) = oo a by rw [sI_place (by decide), sI_place (by decide)]; exact f1, oo_add]
  have hfl' : (if oo rr = 1 then some true else some false) = some bb := by
    rw [← hfl]
    by_cases h : rr = 1
    · rw [h]; rfl
    · obtain rfl : rr = 0 := by omega
      rfl
  rw [hfl', Option.bind_some, u1, Option.bind_some, show oo i + 1 = oo (i + 1) from oo_add _ _]
theorem walks_28w {T T1 : XS} {r : Int32} (t1 : f_X1_drawWalks_L5 178 7 28 1000000 (oo 0) (oo 0) T = some (r, T1)) : f_X1_drawWalks 178 7 28 T = some (r, T1) := by
  unfold f_X1_drawWalks
  rw [show (0 : Int32) = oo 0 from rfl, t1, Option.bind_some]
theorem hour_dc (hdc : ∀ (S : XS) (k : Nat), 1 ≤ k → k < 2147483648 → f_X1_draw 178 (oo k) S = some (oo (dr (S.1 178 4) k), sI S 178 4 (nx (S.1 178 4)))) (hlt : ∀ x k, 1 ≤ k → dr x k < k) (hO : HOK v) (hS : SOK v) (hp1 : 1 ≤ v 1) (hw1 : 1 ≤ v 3) (h999 : v 144 < 999) {T : XS} {x : Int32} {a b c : Nat} (hH : IsHill T 7 v) (hW : IsWd T 28 v) (hx : T.1 178 4 = x) (e1 : T.1 178 1 = oo a) (e2 : T.1 178 2 = oo b) (e3 : T.1 178 3 = oo c) (ha : a ≤ 1000) (hb : b ≤ 1000) (hc : c ≤ 1000) : ∃ U, (∀ n i N, i < N → N ≤ 60 → f_X1_passHours_L29 178 7 28 (oo N) (n + 1) (oo i) T = f_X1_passHours_L29 178 7 28 (oo N) n (oo (i + 1)) U) ∧ IsHill U 7 (dhW nx dr x v) ∧ IsWd U 28 (dhW nx dr x v) ∧ U.1 178 4 = nx (chV nx dr x v).1 ∧ U.1 178 1 = oo (a + dhR nx dr x v) ∧ U.1 178 2 = oo (b + (chV nx dr x v).2.1) ∧ U.1 178 3 = oo (c + (wkV nx dr x v).2.1) ∧ Fr (rows 28 8 ++ [(178, 1), (178, 2), (178, 3), (178, 4)]) T U := by
  obtain ⟨⟨b0, b1, b2, b3, b4, b5⟩, -⟩ := id hO
  have hOK := dhV_ok (x := x) (nx := nx) hlt hO hS hp1 hw1
  have hc1 : (chV nx dr x v).2.1 ≤ 1 := chN_1
  have hk1 : (wkV nx dr x v).2.1 ≤ 6 := wkV_c hO
  obtain ⟨T1, t1, t2, t3, t4⟩ := walks_28 hdc hlt hO hp1 (v 3) 0 1000000 0 T x (fun i => v (145 + i)) (by omega) (by omega) hH hx (fun i hi => hW.pl i hi) (by omega)
  change f_X1_drawWalks_L5 178 7 28 1000000 (oo 0) (oo 0) T = some (oo (wkV nx dr x v).2.1, T1) at t1
  change T1.1 178 4 = (wkV nx dr x v).1 at t2
  change ∀ i, i < 6 → T1.1 29 i = oo ((wkV nx dr x v).2.2 i) at t3
  have hW1 : IsWd T1 28 (plN v (wkV nx dr x v).2.2) := wd_pl hW t4 (by decide) t3
  have hF2 : Fr [(178, 1), (178, 2), (178, 3), (178, 4), (29, 9999), (30, 9999)] T (sI T1 178 3 (oo (c + (wkV nx dr x v).2.1))) := Fr.sIp (t4.mono2 (by decide)) rfl
  have hW2 : IsWd (sI T1 178 3 (oo (c + (wkV nx dr x v).2.1))) 28 (plN v (wkV nx dr x v).2.2) := hW1.fr (l := [(178, 3)]) (Fr.sIp (Fr.rf _ _) rfl) rfl
  obtain ⟨T3, s1, s2, s3, s4⟩ := change_28 hdc hlt hO hw1 (T := sI T1 178 3 (oo (c + (wkV nx dr x v).2.1))) (x := (wkV nx dr x v).1) (w := fun i => v (151 + i)) (hH.fr hF2 rfl) (by rw [sI_place (by decide)]; exact t2) (fun i hi => by rw [hW2.wn i hi, plN_o (by omega)])
  change f_X1_drawChange 178 7 28 (sI T1 178 3 (oo (c + (wkV nx dr x v).2.1))) = some (oo (chV nx dr x v).2.1, T3) at s1
  change T3.1 178 4 = (chV nx dr x v).1 at s2
  change ∀ i, i < 6 → T3.1 30 i = oo ((chV nx dr x v).2.2 i) at s3
  have hW3 : IsWd T3 28 (dhV nx dr x v) := wd_wn hW2 s4 (by decide) s3
  have hF3 : Fr [(178, 1), (178, 2), (178, 3), (178, 4), (29, 9999), (30, 9999)] T T3 := Fr.trans hF2 (s4.mono2 (by decide))
  have hF3' : Fr [(178, 3), (178, 4), (29, 9999), (30, 9999)] T T3 := Fr.trans (Fr.sIp (t4.mono2 (by decide)) rfl) (s4.mono2 (by decide))
  have f0 : T1.1 178 2 = oo b := by rw [t4.get rfl]; exact e2
  have f2 : T3.1 178 2 = oo b := by rw [hF3'.get rfl]; exact e2
  have f1 : T3.1 178 1 = oo a := by rw [hF3'.get rfl]; exact e1
  have f3 : T3.1 178 3 = oo (c + (wkV nx dr x v).2.1) := by rw [s4.get rfl]; exact sI_same _ _ _ _
  have hr := rain1_c hdc hlt (T := sI T3 178 2 (oo (b + (chV nx dr x v).2.1))) (x := (chV nx dr x v).1) (by rw [sI_place (by decide)]; exact s2)
  have hF4 : Fr [(178, 1), (178, 2), (178, 3), (178, 4), (29, 9999), (30, 9999)] T (sI (sI (sI T3 178 2 (oo (b + (chV nx dr x v).2.1))) 178 4 (nx (chV nx dr x v).1)) 178 1 (oo (a + dhR nx dr x v))) := Fr.sIp (Fr.sIp (Fr.sIp hF3 rfl) rfl) rfl
  have hF34 : Fr [(178, 1), (178, 2), (178, 4)] T3 (sI (sI (sI T3 178 2 (oo (b + (chV nx dr x v).2.1))) 178 4 (nx (chV nx dr x v).1)) 178 1 (oo (a + dhR nx dr x v))) := Fr.sIp (Fr.sIp (Fr.sIp (Fr.rf _ _) rfl) rfl) rfl
  obtain ⟨U, u1, u2, u3⟩ := pass_c (b := decide (dr (chV nx dr x v).1 5 = 0)) ((hH.fr hF4 rfl).ext hO (w := dhV nx dr x v) (fun k hk => (dhV_o (by omega)).symm)) (hW3.fr hF34 rfl) hOK.1 hOK.2
  have hFU : Fr (rows 28 8 ++ [(178, 1), (178, 2), (178, 3), (178, 4)]) T U := Fr.trans (hF4.mono2 (by decide)) (u3.mono (by decide))
  refine ⟨U, fun n i N hi hN => ?_, (hH.fr hFU rfl).ext hO (fun k hk => (dhW_o (by omega)).symm), u2, ?_, ?_, ?_, ?_, hFU⟩
  · have hR1 : dhR nx dr x v ≤ 1 := by unfold dhR; split <;> omega
    have hrr : (if dr (chV nx dr x v).1 5 = 0 then 1 else 0) = dhR nx dr x v := rfl
    rw [hrr] at hr
    have hfl : (if dhR nx dr x v = 1 then some true else some false) = some (decide (dr (chV nx dr x v).1 5 = 0)) := by
      unfold dhR
      by_cases h : dr (chV nx dr x v).1 5 = 0
      · rw [if_pos h, if_pos rfl, decide_eq_true h]
      · rw [if_neg h, if_neg (by decide), decide_eq_false h]
    exact hour_dstep hi hN ha hb hc hR1 (by omega) (by omega) (walks_28w t1) e3 s1 f0 hr f1 hfl u1
  · rw [u3.row (c := 178) rfl, sI_place (by decide)]; exact sI_same _ _ _ _
  · rw [u3.row (c := 178) rfl]; exact sI_same _ _ _ _
  · rw [u3.row (c := 178) rfl, sI_place (by decide), sI_place (by decide)]; exact sI_same _ _ _ _
  · rw [u3.row (c := 178) rfl, sI_place (by decide), sI_place (by decide), sI_place (by decide)]; exact f3
theorem tail_n (hdn : ∀ (S : XS) (k : Nat), 1 ≤ k → k < 2147483648 → f_X12_draw 188 (oo k) S = some (oo (dr (S.1 188 47) k), sI S 188 47 (nx (S.1 188 47)))) (hlt : ∀ x k, 1 ≤ k → dr x k < k) {w : Nat → Nat} {T : XS} {y : Int32} {a b c : Nat} (hOw : HOK w) (hSw : SOK w) (hT : IsC T 190 516 w) (hx : T.1 188 47 = y) (e1 : T.1 188 48 = oo a) (e2 : T.1 188 49 = oo b) (e3 : T.1 188 50 = oo c) (ha : a ≤ 1000) : ∃ V U, f_X12_draw 188 (oo 5) T = some (oo (dr y 5), V) ∧ (if oo (dr y 5) = oo 0 then some true else some false) = some (decide (dr y 5 = 0)) ∧ (∃ V', (if decide (dr y 5 = 0) = true then some (sI V 188 48 (V.1 188 48 + oo 1)) else some V) = some V' ∧ f_X12_pass 188 (decide (dr y 5 = 0)) V' = some U) ∧ IsC U 190 516 (pnN w (wetN w (decide (dr y 5 = 0)))) ∧ U.1 188 47 = nx y ∧ U.1 188 48 = oo (a + (if dr y 5 = 0 then 1 else 0)) ∧ U.1 188 49 = oo b ∧ U.1 188 50 = oo c ∧ Fr [(188, 47), (188, 48), (190, 9999)] T U := by
  have d := hdn T 5 (by decide) (by decide)
  rw [hx] at d
  have h5 := hlt y 5 (by decide)
  by_cases h : dr y 5 = 0
  · have hC : IsC (sI (sI T 188 47 (nx y)) 188 48 (oo (a + 1))) 190 516 w := (hT.ne (d := 188) (by decide)).ne (d := 188) (by decide)
    obtain ⟨U, u1, u2, u3⟩ := pass_n (b := true) hC hOw hSw
    rw [decide_eq_true h]
    have hF : Fr [(188, 47), (188, 48), (190, 9999)] T U := Fr.trans (Fr.sIp (Fr.sIp (Fr.rf _ _) rfl) rfl) (u3.mono rfl)
    have r188 : U.1 188 = (sI (sI T 188 47 (nx y)) 188 48 (oo (a + 1))).1 188 := u3.row rfl
    refine ⟨sI T 188 47 (nx y), U, d, by rw [h]; rfl, ⟨sI (sI T 188 47 (nx y)) 188 48 (oo (a + 1)), ?_, u1⟩, u2, ?_, ?_, ?_, ?_, hF⟩
    · rw [if_pos rfl, sI_place (by decide), e1, oo_add]
    · rw [r188, sI_place (by decide)]; exact sI_same _ _ _ _
    · rw [r188, if_pos h]; exact sI_same _ _ _ _
    · rw [hF.get rfl]; exact e2
    · rw [hF.get rfl]; exact e3
  · have hC : IsC (sI T 188 47 (nx y)) 190 516 w := hT.ne (d := 188) (by decide)
    obtain ⟨U, u1, u2, u3⟩ := pass_n (b := false) hC hOw hSw
    rw [decide_eq_false h]
    have hF : Fr [(188, 47), (188, 48), (190, 9999)] T U := Fr.trans (Fr.sIp (Fr.rf _ _) rfl) (u3.mono rfl)
    have r188 : U.1 188 = (sI T 188 47 (nx y)).1 188 := u3.row rfl
    have hne : ¬ oo (dr y 5) = oo 0 := by rw [oo_eq (by omega) (by omega)]; exact h
    refine ⟨sI T 188 47 (nx y), U, d, by rw [if_neg hne], ⟨sI T 188 47 (nx y), rfl, u1⟩, u2, ?_, ?_, ?_, ?_, hF⟩
    · rw [r188]; exact sI_same _ _ _ _
    · rw [r188, if_neg h, sI_place (by decide)]; exact e1
    · rw [hF.get rfl]; exact e2
    · rw [hF.get rfl]; exact e3
theorem hour_dn (hdn : ∀ (S : XS) (k : Nat), 1 ≤ k → k < 2147483648 → f_X12_draw 188 (oo k) S = some (oo (dr (S.1 188 47) k), sI S 188 47 (nx (S.1 188 47)))) (hlt : ∀ x k, 1 ≤ k → dr x k < k) (hO : HOK v) (hS : SOK v) (hp1 : 1 ≤ v 1) (hw1 : 1 ≤ v 3) (h999 : v 144 < 999) {T : XS} {x : Int32} {a b c : Nat} (hT : IsC T 190 516 v) (hx : T.1 188 47 = x) (e1 : T.1 188 48 = oo a) (e2 : T.1 188 49 = oo b) (e3 : T.1 188 50 = oo c) (ha : a ≤ 1000) (hb : b ≤ 1000) (hc : c ≤ 500) : ∃ U, (∀ n i N, i < N → N ≤ 60 → f_X12_drawHours_L22 188 (oo N) (n + 1) (oo i) T = f_X12_drawHours_L22 188 (oo N) n (oo (i + 1)) U) ∧ IsC U 190 516 (dhW nx dr x v) ∧ U.1 188 47 = nx (chV nx dr x v).1 ∧ U.1 188 48 = oo (a + dhR nx dr x v) ∧ U.1 188 49 = oo (b + (chV nx dr x v).2.1) ∧ U.1 188 50 = oo (c + (wkV nx dr x v).2.1) ∧ Fr [(188, 47), (188, 48), (188, 49), (188, 50), (190, 9999)] T U := by
  obtain ⟨⟨b0, b1, b2, b3, b4, b5⟩, -⟩ := id hO
  obtain ⟨hOd, hSd⟩ := dhV_ok (x := x) (nx := nx) hlt hO hS hp1 hw1
  have hT0 : IsC T 190 516 (plN v (fun i => v (145 + i))) := hT.ext (fun j hj => by
    unfold plN
    by_cases h : 145 ≤ j ∧ j < 151
    · rw [if_pos h]
      dsimp only
      rw [Nat.add_sub_cancel' h.1]
    · rw [if_neg h])
  obtain ⟨T1, t1, t2, t3, t4, t5⟩ : ∃ U, (∀ z y, f_X12_drawHours_L30 z 188 y 1000000 (oo 0) T = some U) ∧ U.1 188 47 = (wkV nx dr x v).1 ∧ U.1 188 50 = oo (c + (wkV nx dr x v).2.1) ∧ IsC U 190 516 (plN v (wkV nx dr x v).2.2) ∧ Fr [(188, 47), (188, 50), (190, 9999)] T U := by
    have hcc : wkN nx dr (v 1) (v 3) 0 x c (fun i => v (145 + i)) = ((wkV nx dr x v).1, c + (wkV nx dr x v).2.1, (wkV nx dr x v).2.2) := by
      have := wkN_cc (nx := nx) (dr := dr) (np := v 1) (v 3) 0 x 0 c (fun i => v (145 + i))
      rw [Nat.zero_add] at this
      rw [this, Nat.add_comm]
      rfl
    have hall := fun z y => walks_n hdn hlt hO hp1 (z := z) (y := y) (v 3) 0 1000000 c T x (fun i => v (145 + i)) (by omega) (by omega) hT0 hx e3 (by omega)
    rw [hcc] at hall
    obtain ⟨U, u1, u2, u3, u4, u5⟩ := hall 0 0
    refine ⟨U, fun z y => ?_, u2, u3, u4, u5⟩
    obtain ⟨U', p1, p2, p3, p4, p5⟩ := hall z y
    rw [← u1]
    exact walks_z _ _ _ _ _ _ _
  have f1 : T1.1 188 48 = oo a := by rw [t5.get rfl]; exact e1
  have f2 : T1.1 188 49 = oo b := by rw [t5.get rfl]; exact e2
  have q3 : T1.1 190 3 = oo (v 3) := by rw [t4 3 (by decide), plN_o (by omega)]
  have hk1 : (wkV nx dr x v).2.1 ≤ 6 := wkV_c hO
  have qw : ∀ k, k < 6 → T1.1 190 (151 + k) = oo (v (151 + k)) := fun k hk => by rw [t4 (151 + k) (by omega), plN_o (by omega)]
  have d1 := hdn T1 8 (by decide) (by decide)
  rw [t2] at d1
  have h8 := hlt (wkV nx dr x v).1 8 (by decide)
  have hchV : chV nx dr x v = chN nx dr (v 3) (wkV nx dr x v).1 (fun i => v (151 + i)) := rfl
  have hdh : dhV nx dr x v = wnN (plN v (wkV nx dr x v).2.2) (chV nx dr x v).2.2 := rfl
  have hdw : dhW nx dr x v = pnN (dhV nx dr x v) (wetN (dhV nx dr x v) (decide (dr (chV nx dr x v).1 5 = 0))) := rfl
  have hdr : dhR nx dr x v = if dr (chV nx dr x v).1 5 = 0 then 1 else 0 := rfl
  rw [hdw, hdr]
  have same : IsC T1 190 516 (wnN (plN v (wkV nx dr x v).2.2) (fun i => v (151 + i))) := t4.ext (fun j hj => by
    by_cases h : 151 ≤ j ∧ j < 157
    · obtain ⟨q, rfl⟩ : ∃ q, j = 151 + q := ⟨j - 151, by omega⟩
      rw [wnN_in (by omega), plN_o (by omega)]
    · rw [wnN_o (by omega)])
  generalize (wkV nx dr x v).1 = y at *
  unfold chN at hchV
  by_cases h : dr y 8 = 0
  · rw [if_pos h] at hchV
    have d2 := hdn (sI T1 188 47 (nx y)) (v 3) hw1 (by omega)
    rw [sI_same] at d2
    have d3 := hdn (sI (sI T1 188 47 (nx y)) 188 47 (nx (nx y))) (v 3) hw1 (by omega)
    rw [sI_same] at d3
    have hla := hlt (nx y) (v 3) hw1
    have hlb := hlt (nx (nx y)) (v 3) hw1
    generalize dr (nx y) (v 3) = p at *
    generalize dr (nx (nx y)) (v 3) = q at *
    have hF3 : Fr [(188, 47)] T1 (sI (sI (sI T1 188 47 (nx y)) 188 47 (nx (nx y))) 188 47 (nx (nx (nx y)))) := Fr.sIp (Fr.sIp (Fr.sIp (Fr.rf _ _) rfl) rfl) rfl
    have e4 : (sI (sI (sI T1 188 47 (nx y)) 188 47 (nx (nx y))) 188 47 (nx (nx (nx y)))).1 188 47 = nx (nx (nx y)) := sI_same _ _ _ _
    generalize hT3 : sI (sI (sI T1 188 47 (nx y)) 188 47 (nx (nx y))) 188 47 (nx (nx (nx y))) = T3 at *
    have q32 : (sI T1 188 47 (nx y)).1 190 3 = oo (v 3) := by rw [sI_cell (by decide)]; exact q3
    have q33 : (sI (sI T1 188 47 (nx y)) 188 47 (nx (nx y))).1 190 3 = oo (v 3) := by rw [sI_cell (by decide)]; exact q32
    by_cases hab : p = q
    · rw [if_pos hab] at hchV
      rw [hchV] at hdh ⊢
      dsimp only at hdh ⊢
      obtain ⟨V, U, z1, z2, ⟨V', z3, z4⟩, z5, z6, z7, z8, z9, z10⟩ := tail_n hdn hlt (T := T3) (y := nx (nx (nx y))) hOd hSd (by rw [hdh]; exact same.cell (hF3.row rfl)) e4 (by rw [hF3.get rfl]; exact f1) (by rw [hF3.get rfl]; exact f2) (by rw [hF3.get rfl]; exact t3) ha
      refine ⟨U, fun n i N hi hN => ?_, z5, z6, z7, z8, z9, Fr.trans (t5.mono rfl) (Fr.trans (hF3.mono rfl) (z10.mono rfl))⟩
      have zf : ∀ (d : Decidable (oo (dr (nx (nx (nx y))) 5) = oo 0)) (K : Bool → Option XS), ((@ite _ (oo (dr (nx (nx (nx y))) 5) = oo 0) d (some true) (some false)).bind K) = K (decide (dr (nx (nx (nx y))) 5 = 0)) := fun d K => by rw [ite_any d z2, Option.bind_some]
      have hN' : ¬ oo N ≤ oo i := by rw [oo_le (by omega) (by omega)]; omega
      have d1' : f_X12_draw 188 8 T1 = _ := d1
      have z1' : f_X12_draw 188 5 _ = _ := z1
      have h0 : oo (dr y 8) = oo 0 := by rw [h]
      rw [f_X12_drawHours_L22, show rf 188 14 = 190 from rfl, if_neg hN', show (0 : Int32) = oo 0 from rfl, t1, Option.bind_some, d1', Option.bind_some]
      dsimp only
      rw [if_pos h0, q32, d2, Option.bind_some]
      dsimp only
      rw [q33, d3, Option.bind_some]
      dsimp only
      rw [if_pos (show oo p = oo q by rw [hab]), Option.bind_some, z1', Option.bind_some]
      dsimp only
      refine (zf _ _).trans ?_
      rw [show (1 : Int32) = oo 1 from rfl, z3, Option.bind_some, z4, Option.bind_some, oo_add]
    · rw [if_neg hab] at hchV
      rw [hchV] at hdh ⊢
      dsimp only at hdh ⊢
      have hF4 : Fr [(188, 47), (188, 49), (190, 9999)] T1 (sI (sI (sI T3 190 (151 + p) (oo (v (151 + q)))) 190 (151 + q) (oo (v (151 + p)))) 188 49 (oo (b + 1))) := Fr.sIp (Fr.sIr (Fr.sIr (hF3.mono rfl) rfl) rfl) rfl
      have hC4 : IsC (sI (sI (sI T3 190 (151 + p) (oo (v (151 + q)))) 190 (151 + q) (oo (v (151 + p)))) 188 49 (oo (b + 1))) 190 516 (dhV nx dr x v) := (((t4.cell (hF3.row rfl)).set.set).ne (d := 188) (by decide)).ext (fun j hj => by
        rw [hdh]
        by_cases h5 : 151 ≤ j ∧ j < 157
        · obtain ⟨k, rfl⟩ : ∃ k, j = 151 + k := ⟨j - 151, by omega⟩
          rw [wnN_in (by omega)]
          by_cases hkq : k = q
          · rw [hkq, upN_same, upN_same]
          · rw [upN_ne (by omega), upN_ne hkq]
            by_cases hkp : k = p
            · rw [hkp, upN_same, upN_same]
            · rw [upN_ne (by omega), upN_ne hkp, plN_o (by omega)]
        · rw [wnN_o (by omega), upN_ne (by omega), upN_ne (by omega)])
      have g2 : (sI (sI T3 190 (151 + p) (oo (v (151 + q)))) 190 (151 + q) (oo (v (151 + p)))).1 188 49 = oo b := by rw [sI_cell (by decide), sI_cell (by decide), hF3.get rfl]; exact f2
      have gp : T3.1 190 (151 + p) = oo (v (151 + p)) := by rw [hF3.row (c := 190) rfl]; exact qw p (by omega)
      have gq : T3.1 190 (151 + q) = oo (v (151 + q)) := by rw [hF3.row (c := 190) rfl]; exact qw q (by omega)
      obtain ⟨V, U, z1, z2, ⟨V', z3, z4⟩, z5, z6, z7, z8, z9, z10⟩ := tail_n hdn hlt (y := nx (nx (nx y))) hOd hSd hC4 (by rw [sI_place (by decide), sI_cell (by decide), sI_cell (by decide)]; exact e4) (by rw [hF4.get rfl]; exact f1) (sI_same _ _ _ _) (by rw [hF4.get rfl]; exact t3) ha
      refine ⟨U, fun n i N hi hN => ?_, z5, z6, z7, z8, z9, Fr.trans (t5.mono rfl) (Fr.trans (hF4.mono rfl) (z10.mono rfl))⟩
      have zf : ∀ (d : Decidable (oo (dr (nx (nx (nx y))) 5) = oo 0)) (K : Bool → Option XS), ((@ite _ (oo (dr (nx (nx (nx y))) 5) = oo 0) d (some true) (some false)).bind K) = K (decide (dr (nx (nx (nx y))) 5 = 0)) := fun d K => by rw [ite_any d z2, Option.bind_some]
      have hN' : ¬ oo N ≤ oo i := by rw [oo_le (by omega) (by omega)]; omega
      have d1' : f_X12_draw 188 8 T1 = _ := d1
      have z1' : f_X12_draw 188 5 _ = _ := z1
      have h0 : oo (dr y 8) = oo 0 := by rw [h]
      rw [f_X12_drawHours_L22, show rf 188 14 = 190 from rfl, if_neg hN', show (0 : Int32) = oo 0 from rfl, t1, Option.bind_some, d1', Option.bind_some]
      dsimp only
      rw [if_pos h0, q32, d2, Option.bind_some]
      dsimp only
      rw [q33, d3, Option.bind_some]
      dsimp only
      have hcb : f_X12_changeBoth 188 (oo p) (oo q) T3 = some (sI (sI T3 190 (151 + p) (oo (v (151 + q)))) 190 (151 + q) (oo (v (151 + p)))) := by
        simp (disch := omega) only [f_X12_changeBoth, ↓oo_m1, oo_0, oo_1, oo_2, oo_3, oo_4, oo_5, oo_6, oo_7, oo_8, oo_9, oo_10, oo_12, oo_13, oo_14, oo_15, oo_16, oo_17, oo_18, oo_20, oo_24, oo_30, oo_32, oo_36, oo_40, oo_41, oo_48, oo_50, oo_57, oo_59, oo_60, oo_61, oo_62, oo_63, oo_64, oo_66, oo_72, oo_78, oo_96, oo_97, oo_99, oo_100, oo_101, oo_105, oo_107, oo_108, oo_109, oo_110, oo_111, oo_112, oo_114, oo_115, oo_116, oo_117, oo_119, oo_122, oo_128, oo_130, oo_134, oo_135, oo_136, oo_137, oo_138, oo_139, oo_140, oo_141, oo_142, oo_143, oo_144, oo_145, oo_151, oo_157, oo_194, oo_200, oo_240, oo_255, oo_256, oo_274, oo_276, oo_300, oo_516, oo_900, oo_940, oo_941, oo_999, oo_1000, oo_1040, oo_10000, oo_add, oo_mul, oo_sub, oo_lt, oo_le, oo_eq, oo_nat, oo_div, oo_rem, oo_nn, nn_oo, oo_nnlt, nn_oolt, oo_nnle, nn_oole, ↓reduceIte, if_pos, if_neg, or_false, false_or, or_true, true_or, and_true, true_and, and_false, false_and, not_true_eq_false, not_false_eq_true, Nat.not_lt_zero, Bool.false_eq_true, Bool.true_eq_false, Option.bind_some, Option.bind_none, rf_188_1, rf_188_14, rf_188_15, rf_188_16, rf_188_17, rf_188_18, rf_188_19, rf_188_20, rf_188_21, rf_188_22, rf_188_24, rf_188_25, rf_188_26, rf_188_27, rf_188_28, rf_188_31, rf_188_32, rf_188_34, rf_188_35, rf_188_36, rf_188_37, rf_188_38, rf_188_42, rf_188_43, rf_188_51, rf_188_52, rf_188_53, rf_188_55, ln_190, gp, gq]
      rw [if_neg (show ¬ oo p = oo q by rw [oo_eq (by omega) (by omega)]; exact hab), hcb, Option.bind_some, g2, show oo b + 1 = oo (b + 1) from oo_add _ _, Option.bind_some, z1', Option.bind_some]
      dsimp only
      refine (zf _ _).trans ?_
      rw [show (1 : Int32) = oo 1 from rfl, z3, Option.bind_some, z4, Option.bind_some, oo_add]
  · rw [if_neg h] at hchV
    rw [hchV] at hdh ⊢
    dsimp only at hdh ⊢
    have hF3 : Fr [(188, 47)] T1 (sI T1 188 47 (nx y)) := Fr.sIp (Fr.rf _ _) rfl
    obtain ⟨V, U, z1, z2, ⟨V', z3, z4⟩, z5, z6, z7, z8, z9, z10⟩ := tail_n hdn hlt (T := sI T1 188 47 (nx y)) (y := nx y) hOd hSd (by rw [hdh]; exact same.cell (hF3.row rfl)) (sI_same _ _ _ _) (by rw [hF3.get rfl]; exact f1) (by rw [hF3.get rfl]; exact f2) (by rw [hF3.get rfl]; exact t3) ha
    refine ⟨U, fun n i N hi hN => ?_, z5, z6, z7, z8, z9, Fr.trans (t5.mono rfl) (Fr.trans (hF3.mono rfl) (z10.mono rfl))⟩
    have zf : ∀ (d : Decidable (oo (dr (nx y) 5) = oo 0)) (K : Bool → Option XS), ((@ite _ (oo (dr (nx y) 5) = oo 0) d (some true) (some false)).bind K) = K (decide (dr (nx y) 5 = 0)) := fun d K => by rw [ite_any d z2, Option.bind_some]
    have hN' : ¬ oo N ≤ oo i := by rw [oo_le (by omega) (by omega)]; omega
    have d1' : f_X12_draw 188 8 T1 = _ := d1
    have z1' : f_X12_draw 188 5 _ = _ := z1
    have h0 : ¬ oo (dr y 8) = oo 0 := by rw [oo_eq (by omega) (by omega)]; exact h
    rw [f_X12_drawHours_L22, show rf 188 14 = 190 from rfl, if_neg hN', show (0 : Int32) = oo 0 from rfl, t1, Option.bind_some, d1', Option.bind_some]
    dsimp only
    rw [if_neg h0, Option.bind_some, z1', Option.bind_some]
    dsimp only
    refine (zf _ _).trans ?_
    rw [show (1 : Int32) = oo 1 from rfl, z3, Option.bind_some, z4, Option.bind_some, oo_add]
end DH
