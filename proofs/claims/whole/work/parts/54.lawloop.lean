theorem i32_lin {v : Int32} (a b : Nat) (h1 : Int32.ofNat a ≤ v) (h2 : v ≤ Int32.ofNat b) (ha : a < 100) (hb : b < 100) : (a : Int) ≤ v.toInt ∧ v.toInt ≤ b := by
  rw [Int32.le_iff_toInt_le, Int32.toInt_ofNat_of_lt (by omega)] at h1 h2
  exact ⟨h1, h2⟩
theorem vp_arg {N9 k : Nat} (hN : N9 ≤ 3072) (hk : 6 * k + 6 ≤ N9) (v : Int32) (h1 : 1 ≤ v) (h2 : v ≤ 5) : vp_in (Int32.ofNat (6 * k) + v) N9 := by
  obtain ⟨h3, h4⟩ := i32_lin 1 5 h1 h2 (by decide) (by decide)
  have e : (Int32.ofNat (6 * k) + v).toInt = (6 * k : Nat) + v.toInt := by
    rw [Int32.toInt_add, Int32.toInt_ofNat_of_lt (by omega), Int.bmod_eq_of_le (by omega) (by omega)]
  rintro (h | h)
  · rw [Int32.lt_iff_toInt_lt, e] at h
    have : (0 : Int32).toInt = 0 := rfl
    omega
  · have e2 : (Int32.ofNat (6 * k) + v).toNatClampNeg = (Int32.ofNat (6 * k) + v).toInt.toNat := rfl
    rw [e2, e] at h
    omega
theorem vp_arg0 {N9 k : Nat} (hN : N9 ≤ 3072) (hk : 6 * k + 6 ≤ N9) : vp_in (Int32.ofNat (6 * k)) N9 := by
  have e : (Int32.ofNat (6 * k)).toInt = (6 * k : Nat) := Int32.toInt_ofNat_of_lt (by omega)
  rintro (h | h)
  · rw [Int32.lt_iff_toInt_lt, e] at h
    have : (0 : Int32).toInt = 0 := rfl
    omega
  · have e2 : (Int32.ofNat (6 * k)).toNatClampNeg = (Int32.ofNat (6 * k)).toInt.toNat := rfl
    rw [e2, e] at h
    omega
theorem law_more {N9 k : Nat} (hN : N9 ≤ 3072) (hk : 6 * k ≤ N9 + 5) (h : ¬ Int32.ofNat N9 - 6 < Int32.ofNat (6 * k)) : 6 * k + 6 ≤ N9 := by
  rw [Int32.lt_iff_toInt_lt, Int32.toInt_sub, Int32.toInt_ofNat_of_lt (by omega), Int32.toInt_ofNat_of_lt (by omega), show (6 : Int32).toInt = 6 from rfl, Int.bmod_eq_of_le (by omega) (by omega)] at h
  omega
theorem law_next (k : Nat) : Int32.ofNat (6 * k) + Int32.ofInt 6 = Int32.ofNat (6 * (k + 1)) := by
  rw [show Int32.ofInt 6 = Int32.ofNat 6 from rfl, ← Int32.ofNat_add]
  rfl
def AllAg (Rel : XS → Prop) : Prop := Ag_feed Rel ∧ Ag_end Rel ∧ Ag_hill Rel ∧ Ag_fault Rel ∧ Ag_air Rel ∧ Ag_fade Rel ∧ Ag_witness Rel ∧ Ag_coat Rel ∧ Ag_cloth Rel ∧ Ag_box Rel ∧ Ag_goes Rel ∧ Ag_change Rel ∧ Ag_soap Rel ∧ Ag_send Rel ∧ Ag_move Rel ∧ Ag_on Rel ∧ Ag_undo Rel ∧ Ag_order Rel ∧ Ag_opened Rel ∧ Ag_noses Rel ∧ Ag_drowned Rel ∧ Ag_remains Rel ∧ Ag_was Rel ∧ Ag_rows Rel ∧ Ag_first Rel ∧ Ag_changed Rel ∧ Ag_changeAt Rel ∧ Ag_dog Rel ∧ Ag_unlike Rel ∧ Ag_alike Rel ∧ Ag_kitchen Rel ∧ Ag_thread Rel ∧ Ag_source Rel ∧ Ag_strangers Rel ∧ Ag_wearer Rel ∧ Ag_clean Rel ∧ Ag_pleas Rel ∧ Ag_drawn Rel ∧ Ag_weather Rel ∧ Ag_odds Rel ∧ Ag_write Rel ∧ Ag_byteAt Rel ∧ Ag_sentence Rel ∧ Ag_said Rel ∧ Ag_image Rel ∧ Ag_restore Rel ∧ Ag_count Rel
theorem law_loop {p : Program} {l : Launch} {e : Env} {s : State} {m : MethodId} {args : Array Value} {below : List Frame} {meth : Method} {c : Code} {g : XG} {A : Nat → Prop} {Q : State → Prop} {N9 : Nat} {xs : Nat → Int32} {Rel : XS → Prop} (hst : l.stackTraces = false) (C : YC p room_1 s m args meth c g A mLaw) (hE : EX A s.heap s) (hX : va_X (ad g 219) N9 xs s s.heap) (hbl : ad g 219 < s.heap.size) (hbA : ¬ A (ad g 219)) (hN : N9 ≤ 3072) (hAg : AllAg Rel) (hEnd : ∀ (i : Int32) (S : XS) (cells slots : Nat), cells ≤ room_1.cells → slots ≤ room_1.slots → Rel S → Y p l e room_1 s m args below meth c g A cells slots Q mLaw 1584 (LL i) [.int 1] S) : ∀ (n k : Nat) (S : XS) (cells slots : Nat), N9 < 6 * k + 6 * n → cells ≤ 218 + k → slots ≤ 16632 + 6 * k → 6 * k ≤ N9 + 5 → Rel S → Y p l e room_1 s m args below meth c g A cells slots Q mLaw 23 (LL (Int32.ofNat (6 * k))) [] S := by
  intro n
  induction n with
  | zero =>
    intro k S cells slots hn hc hs hk hR
    have hcc : cells ≤ room_1.cells := Nat.le_trans hc (Nat.le_trans (show 218 + k ≤ 10000 by omega) (Nat.le_of_ble_eq_true rfl))
    have hss : slots ≤ room_1.slots := Nat.le_trans hs (Nat.le_trans (show 16632 + 6 * k ≤ 100000 by omega) (Nat.le_of_ble_eq_true rfl))
    refine Y_iload C (n := 25) (x := Int32.ofNat (6 * k)) 0 (kL_law 13 rfl) rfl rfl ?_
    refine Y_aload_n C (n := 26) (x := 219) 4 (kL_law 14 rfl) rfl rfl rfl ?_
    refine Y_slen C hX hbl hbA (n := 27) (kL_law 15 rfl) rfl ?_
    refine Y_bipush C (n := 29) (v := 6) (kL_law 16 rfl) rfl (by decide) ?_
    refine Y_isub C (n := 30) (kL_law 17 rfl) rfl ?_
    refine Y_ic_gt C (n := 33) (tgt := 1583) (kL_law 18 rfl) rfl rfl (fun hg => ?_) (fun hg => ?_)
    · refine Y_iconst C (n := 1584) (v := 1) (kL_law_9 42 rfl) rfl (by decide) ?_
      exact hEnd _ S cells slots hcc hss hR
    · have := law_more hN hk hg
      omega
  | succ n ih =>
    intro k S cells slots hn hc hs hk hR
    have hcc : cells ≤ room_1.cells := Nat.le_trans hc (Nat.le_trans (show 218 + k ≤ 10000 by omega) (Nat.le_of_ble_eq_true rfl))
    have hss : slots ≤ room_1.slots := Nat.le_trans hs (Nat.le_trans (show 16632 + 6 * k ≤ 100000 by omega) (Nat.le_of_ble_eq_true rfl))
    have hcd : cells + 1 ≤ room_1.cells := Nat.le_trans (Nat.succ_le_succ hc) (Nat.le_trans (show 218 + k + 1 ≤ 10000 by omega) (Nat.le_of_ble_eq_true rfl))
    have hsd : slots + 6 ≤ room_1.slots := Nat.le_trans (Nat.add_le_add_right hs 6) (Nat.le_trans (show 16632 + 6 * k + 6 ≤ 100000 by omega) (Nat.le_of_ble_eq_true rfl))
    refine Y_iload C (n := 25) (x := Int32.ofNat (6 * k)) 0 (kL_law 13 rfl) rfl rfl ?_
    refine Y_aload_n C (n := 26) (x := 219) 4 (kL_law 14 rfl) rfl rfl rfl ?_
    refine Y_slen C hX hbl hbA (n := 27) (kL_law 15 rfl) rfl ?_
    refine Y_bipush C (n := 29) (v := 6) (kL_law 16 rfl) rfl (by decide) ?_
    refine Y_isub C (n := 30) (kL_law 17 rfl) rfl ?_
    refine Y_ic_gt C (n := 33) (tgt := 1583) (kL_law 18 rfl) rfl rfl (fun hg => ?_) (fun hg => ?_)
    · refine Y_iconst C (n := 1584) (v := 1) (kL_law_9 42 rfl) rfl (by decide) ?_
      exact hEnd _ S cells slots hcc hss hR
    have hk2 := law_more hN hk hg
    have hi := vp_arg hN hk2
    have go : ∀ (S2 : XS) (cells2 slots2 : Nat), cells2 ≤ cells + 1 → slots2 ≤ slots + 6 → Rel S2 → Y p l e room_1 s m args below meth c g A cells2 slots2 Q mLaw 1577 (LL (Int32.ofNat (6 * k))) [] S2 := by
      intro S2 cells2 slots2 h1 h2 h3
      refine Y_iinc C (n := 1580) 0 (v := Int32.ofNat (6 * (k + 1))) (L1 := LL (Int32.ofNat (6 * (k + 1)))) (kL_law_9 40 rfl) rfl rfl (law_next k) (Nat.le_of_ble_eq_true rfl) rfl ?_
      refine Y_goto C (tgt := 23) (kL_law_9 41 rfl) rfl ?_
      exact ih (k + 1) S2 cells2 slots2 (by omega) (by omega) (by omega) (by omega) h3
    obtain ⟨g_feed, g_end, g_hill, g_fault, g_air, g_fade, g_witness, g_coat, g_cloth, g_box, g_goes, g_change, g_soap, g_send, g_move, g_on, g_undo, g_order, g_opened, g_noses, g_drowned, g_remains, g_was, g_rows, g_first, g_changed, g_changeAt, g_dog, g_unlike, g_alike, g_kitchen, g_thread, g_source, g_strangers, g_wearer, g_clean, g_pleas, g_drawn, g_weather, g_odds, g_write, g_byteAt, g_sentence, g_said, g_image, g_restore, g_count⟩ := hAg
    refine Y_aload_n C (n := 34) (x := 219) 4 (kL_law 19 rfl) rfl rfl rfl ?_
    refine Y_iload C (n := 36) (x := Int32.ofNat (6 * k)) 0 (kL_law 20 rfl) rfl rfl ?_
    refine Y_sld C hX hbl hbA (n := 37) (vp_arg0 hN hk2) (kL_law 21 rfl) rfl ?_
    refine Y_bipush C (n := 39) (v := 63) (kL_law 22 rfl) rfl (by decide) ?_
    refine Y_iand C (n := 40) (kL_law 23 rfl) rfl ?_
    generalize xs (Int32.ofNat (6 * k)).toNatClampNeg &&& 63 = o
    by_cases c0 : o = 0
    · refine Y_tbIn C (tgt := 244) 0 (xI_of 0 c0 (by decide)) (kL_law 24 rfl) (by decide) (by decide) rfl rfl ?_
      exact lc_feed C hX hbl hbA hi hcc hss hR g_feed (fun S2 h => go S2 _ _ (Nat.le_succ _) (Nat.le_add_right _ _) h)
    by_cases c1 : o = 1
    · refine Y_tbIn C (tgt := 317) 1 (xI_of 1 c1 (by decide)) (kL_law 24 rfl) (by decide) (by decide) rfl rfl ?_
      exact lc_end C hX hbl hbA hi hcc hss hR g_end (fun S2 h => go S2 _ _ (Nat.le_succ _) (Nat.le_add_right _ _) h)
    by_cases c2 : o = 2
    · refine Y_tbIn C (tgt := 342) 2 (xI_of 2 c2 (by decide)) (kL_law 24 rfl) (by decide) (by decide) rfl rfl ?_
      exact lc_hill C hX hbl hbA hcc hss hR g_hill (fun S2 h => go S2 _ _ (Nat.le_succ _) (Nat.le_add_right _ _) h)
    by_cases c3 : o = 3
    · refine Y_tbIn C (tgt := 355) 3 (xI_of 3 c3 (by decide)) (kL_law 24 rfl) (by decide) (by decide) rfl rfl ?_
      exact lc_fault C hX hbl hbA hcc hss hR g_fault (fun S2 h => go S2 _ _ (Nat.le_succ _) (Nat.le_add_right _ _) h)
    by_cases c4 : o = 4
    · refine Y_tbIn C (tgt := 368) 4 (xI_of 4 c4 (by decide)) (kL_law 24 rfl) (by decide) (by decide) rfl rfl ?_
      exact lc_air hst C hE hX hbl hbA hi hcd hsd hR g_air (fun S2 h => go S2 _ _ (Nat.le_refl _) (Nat.le_refl _) h)
    by_cases c5 : o = 5
    · refine Y_tbIn C (tgt := 436) 5 (xI_of 5 c5 (by decide)) (kL_law 24 rfl) (by decide) (by decide) rfl rfl ?_
      exact lc_fade C hX hbl hbA hi hcc hss hR g_fade (fun S2 h => go S2 _ _ (Nat.le_succ _) (Nat.le_add_right _ _) h)
    by_cases c6 : o = 6
    · refine Y_tbIn C (tgt := 461) 6 (xI_of 6 c6 (by decide)) (kL_law 24 rfl) (by decide) (by decide) rfl rfl ?_
      exact lc_witness hst C hE hX hbl hbA hi hcd hsd hR g_witness (fun S2 h => go S2 _ _ (Nat.le_refl _) (Nat.le_refl _) h)
    by_cases c7 : o = 7
    · refine Y_tbIn C (tgt := 529) 7 (xI_of 7 c7 (by decide)) (kL_law 24 rfl) (by decide) (by decide) rfl rfl ?_
      exact lc_coat C hX hbl hbA hi hcc hss hR g_coat (fun S2 h => go S2 _ _ (Nat.le_succ _) (Nat.le_add_right _ _) h)
    by_cases c8 : o = 8
    · refine Y_tbIn C (tgt := 566) 8 (xI_of 8 c8 (by decide)) (kL_law 24 rfl) (by decide) (by decide) rfl rfl ?_
      exact lc_cloth C hX hbl hbA hi hcc hss hR g_cloth (fun S2 h => go S2 _ _ (Nat.le_succ _) (Nat.le_add_right _ _) h)
    by_cases c9 : o = 9
    · refine Y_tbIn C (tgt := 603) 9 (xI_of 9 c9 (by decide)) (kL_law 24 rfl) (by decide) (by decide) rfl rfl ?_
      exact lc_box C hX hbl hbA hi hcc hss hR g_box (fun S2 h => go S2 _ _ (Nat.le_succ _) (Nat.le_add_right _ _) h)
    by_cases c10 : o = 10
    · refine Y_tbIn C (tgt := 640) 10 (xI_of 10 c10 (by decide)) (kL_law 24 rfl) (by decide) (by decide) rfl rfl ?_
      exact lc_goes C hX hbl hbA hi hcc hss hR g_goes (fun S2 h => go S2 _ _ (Nat.le_succ _) (Nat.le_add_right _ _) h)
    by_cases c11 : o = 11
    · refine Y_tbIn C (tgt := 677) 11 (xI_of 11 c11 (by decide)) (kL_law 24 rfl) (by decide) (by decide) rfl rfl ?_
      exact lc_change C hX hbl hbA hi hcc hss hR g_change (fun S2 h => go S2 _ _ (Nat.le_succ _) (Nat.le_add_right _ _) h)
    by_cases c12 : o = 12
    · refine Y_tbIn C (tgt := 714) 12 (xI_of 12 c12 (by decide)) (kL_law 24 rfl) (by decide) (by decide) rfl rfl ?_
      exact lc_soap C hX hbl hbA hi hcc hss hR g_soap (fun S2 h => go S2 _ _ (Nat.le_succ _) (Nat.le_add_right _ _) h)
    by_cases c13 : o = 13
    · refine Y_tbIn C (tgt := 739) 13 (xI_of 13 c13 (by decide)) (kL_law 24 rfl) (by decide) (by decide) rfl rfl ?_
      exact lc_send C hX hbl hbA hi hcc hss hR g_send (fun S2 h => go S2 _ _ (Nat.le_succ _) (Nat.le_add_right _ _) h)
    by_cases c14 : o = 14
    · refine Y_tbIn C (tgt := 776) 14 (xI_of 14 c14 (by decide)) (kL_law 24 rfl) (by decide) (by decide) rfl rfl ?_
      exact lc_move C hX hbl hbA hi hcc hss hR g_move (fun S2 h => go S2 _ _ (Nat.le_succ _) (Nat.le_add_right _ _) h)
    by_cases c15 : o = 15
    · refine Y_tbIn C (tgt := 813) 15 (xI_of 15 c15 (by decide)) (kL_law 24 rfl) (by decide) (by decide) rfl rfl ?_
      exact lc_on C hX hbl hbA hi hcc hss hR g_on (fun S2 h => go S2 _ _ (Nat.le_succ _) (Nat.le_add_right _ _) h)
    by_cases c16 : o = 16
    · refine Y_tbIn C (tgt := 838) 16 (xI_of 16 c16 (by decide)) (kL_law 24 rfl) (by decide) (by decide) rfl rfl ?_
      exact lc_undo C hX hbl hbA hcc hss hR g_undo (fun S2 h => go S2 _ _ (Nat.le_succ _) (Nat.le_add_right _ _) h)
    by_cases c17 : o = 17
    · refine Y_tbIn C (tgt := 851) 17 (xI_of 17 c17 (by decide)) (kL_law 24 rfl) (by decide) (by decide) rfl rfl ?_
      exact lc_order C hX hbl hbA hcc hss hR g_order (fun S2 h => go S2 _ _ (Nat.le_succ _) (Nat.le_add_right _ _) h)
    by_cases c18 : o = 18
    · refine Y_tbIn C (tgt := 864) 18 (xI_of 18 c18 (by decide)) (kL_law 24 rfl) (by decide) (by decide) rfl rfl ?_
      exact lc_opened C hX hbl hbA hi hcc hss hR g_opened (fun S2 h => go S2 _ _ (Nat.le_succ _) (Nat.le_add_right _ _) h)
    by_cases c19 : o = 19
    · refine Y_tbIn C (tgt := 889) 19 (xI_of 19 c19 (by decide)) (kL_law 24 rfl) (by decide) (by decide) rfl rfl ?_
      exact lc_noses C hX hbl hbA hcc hss hR g_noses (fun S2 h => go S2 _ _ (Nat.le_succ _) (Nat.le_add_right _ _) h)
    by_cases c20 : o = 20
    · refine Y_tbIn C (tgt := 902) 20 (xI_of 20 c20 (by decide)) (kL_law 24 rfl) (by decide) (by decide) rfl rfl ?_
      exact lc_drowned C hX hbl hbA hcc hss hR g_drowned (fun S2 h => go S2 _ _ (Nat.le_succ _) (Nat.le_add_right _ _) h)
    by_cases c21 : o = 21
    · refine Y_tbIn C (tgt := 915) 21 (xI_of 21 c21 (by decide)) (kL_law 24 rfl) (by decide) (by decide) rfl rfl ?_
      exact lc_remains C hX hbl hbA hi hcc hss hR g_remains (fun S2 h => go S2 _ _ (Nat.le_succ _) (Nat.le_add_right _ _) h)
    by_cases c22 : o = 22
    · refine Y_tbIn C (tgt := 940) 22 (xI_of 22 c22 (by decide)) (kL_law 24 rfl) (by decide) (by decide) rfl rfl ?_
      exact lc_was C hX hbl hbA hi hcc hss hR g_was (fun S2 h => go S2 _ _ (Nat.le_succ _) (Nat.le_add_right _ _) h)
    by_cases c23 : o = 23
    · refine Y_tbIn C (tgt := 977) 23 (xI_of 23 c23 (by decide)) (kL_law 24 rfl) (by decide) (by decide) rfl rfl ?_
      exact lc_rows C hX hbl hbA hi hcc hss hR g_rows (fun S2 h => go S2 _ _ (Nat.le_succ _) (Nat.le_add_right _ _) h)
    by_cases c24 : o = 24
    · refine Y_tbIn C (tgt := 1014) 24 (xI_of 24 c24 (by decide)) (kL_law 24 rfl) (by decide) (by decide) rfl rfl ?_
      exact lc_first C hX hbl hbA hi hcc hss hR g_first (fun S2 h => go S2 _ _ (Nat.le_succ _) (Nat.le_add_right _ _) h)
    by_cases c25 : o = 25
    · refine Y_tbIn C (tgt := 1039) 25 (xI_of 25 c25 (by decide)) (kL_law 24 rfl) (by decide) (by decide) rfl rfl ?_
      exact lc_changed C hX hbl hbA hcc hss hR g_changed (fun S2 h => go S2 _ _ (Nat.le_succ _) (Nat.le_add_right _ _) h)
    by_cases c26 : o = 26
    · refine Y_tbIn C (tgt := 1052) 26 (xI_of 26 c26 (by decide)) (kL_law 24 rfl) (by decide) (by decide) rfl rfl ?_
      exact lc_changeAt C hX hbl hbA hi hcc hss hR g_changeAt (fun S2 h => go S2 _ _ (Nat.le_succ _) (Nat.le_add_right _ _) h)
    by_cases c27 : o = 27
    · refine Y_tbIn C (tgt := 1077) 27 (xI_of 27 c27 (by decide)) (kL_law 24 rfl) (by decide) (by decide) rfl rfl ?_
      exact lc_dog C hX hbl hbA hi hcc hss hR g_dog (fun S2 h => go S2 _ _ (Nat.le_succ _) (Nat.le_add_right _ _) h)
    by_cases c28 : o = 28
    · refine Y_tbIn C (tgt := 1102) 28 (xI_of 28 c28 (by decide)) (kL_law 24 rfl) (by decide) (by decide) rfl rfl ?_
      exact lc_unlike C hX hbl hbA hi hcc hss hR g_unlike (fun S2 h => go S2 _ _ (Nat.le_succ _) (Nat.le_add_right _ _) h)
    by_cases c29 : o = 29
    · refine Y_tbIn C (tgt := 1139) 29 (xI_of 29 c29 (by decide)) (kL_law 24 rfl) (by decide) (by decide) rfl rfl ?_
      exact lc_alike C hX hbl hbA hcc hss hR g_alike (fun S2 h => go S2 _ _ (Nat.le_succ _) (Nat.le_add_right _ _) h)
    by_cases c30 : o = 30
    · refine Y_tbIn C (tgt := 1152) 30 (xI_of 30 c30 (by decide)) (kL_law 24 rfl) (by decide) (by decide) rfl rfl ?_
      exact lc_kitchen C hX hbl hbA hi hcc hss hR g_kitchen (fun S2 h => go S2 _ _ (Nat.le_succ _) (Nat.le_add_right _ _) h)
    by_cases c31 : o = 31
    · refine Y_tbIn C (tgt := 1177) 31 (xI_of 31 c31 (by decide)) (kL_law 24 rfl) (by decide) (by decide) rfl rfl ?_
      exact lc_thread C hX hbl hbA hi hcc hss hR g_thread (fun S2 h => go S2 _ _ (Nat.le_succ _) (Nat.le_add_right _ _) h)
    by_cases c32 : o = 32
    · refine Y_tbIn C (tgt := 1202) 32 (xI_of 32 c32 (by decide)) (kL_law 24 rfl) (by decide) (by decide) rfl rfl ?_
      exact lc_source C hX hbl hbA hi hcc hss hR g_source (fun S2 h => go S2 _ _ (Nat.le_succ _) (Nat.le_add_right _ _) h)
    by_cases c33 : o = 33
    · refine Y_tbIn C (tgt := 1227) 33 (xI_of 33 c33 (by decide)) (kL_law 24 rfl) (by decide) (by decide) rfl rfl ?_
      exact lc_strangers C hX hbl hbA hcc hss hR g_strangers (fun S2 h => go S2 _ _ (Nat.le_succ _) (Nat.le_add_right _ _) h)
    by_cases c34 : o = 34
    · refine Y_tbIn C (tgt := 1240) 34 (xI_of 34 c34 (by decide)) (kL_law 24 rfl) (by decide) (by decide) rfl rfl ?_
      exact lc_wearer C hX hbl hbA hi hcc hss hR g_wearer (fun S2 h => go S2 _ _ (Nat.le_succ _) (Nat.le_add_right _ _) h)
    by_cases c35 : o = 35
    · refine Y_tbIn C (tgt := 1265) 35 (xI_of 35 c35 (by decide)) (kL_law 24 rfl) (by decide) (by decide) rfl rfl ?_
      exact lc_clean C hX hbl hbA hi hcc hss hR g_clean (fun S2 h => go S2 _ _ (Nat.le_succ _) (Nat.le_add_right _ _) h)
    by_cases c36 : o = 36
    · refine Y_tbIn C (tgt := 1290) 36 (xI_of 36 c36 (by decide)) (kL_law 24 rfl) (by decide) (by decide) rfl rfl ?_
      exact lc_pleas C hX hbl hbA hcc hss hR g_pleas (fun S2 h => go S2 _ _ (Nat.le_succ _) (Nat.le_add_right _ _) h)
    by_cases c37 : o = 37
    · refine Y_tbIn C (tgt := 1303) 37 (xI_of 37 c37 (by decide)) (kL_law 24 rfl) (by decide) (by decide) rfl rfl ?_
      exact lc_drawn C hX hbl hbA hi hcc hss hR g_drawn (fun S2 h => go S2 _ _ (Nat.le_succ _) (Nat.le_add_right _ _) h)
    by_cases c38 : o = 38
    · refine Y_tbIn C (tgt := 1340) 38 (xI_of 38 c38 (by decide)) (kL_law 24 rfl) (by decide) (by decide) rfl rfl ?_
      exact lc_weather C hX hbl hbA hi hcc hss hR g_weather (fun S2 h => go S2 _ _ (Nat.le_succ _) (Nat.le_add_right _ _) h)
    by_cases c39 : o = 39
    · refine Y_tbIn C (tgt := 1365) 39 (xI_of 39 c39 (by decide)) (kL_law 24 rfl) (by decide) (by decide) rfl rfl ?_
      exact lc_odds C hX hbl hbA hi hcc hss hR g_odds (fun S2 h => go S2 _ _ (Nat.le_succ _) (Nat.le_add_right _ _) h)
    by_cases c40 : o = 40
    · refine Y_tbIn C (tgt := 1414) 40 (xI_of 40 c40 (by decide)) (kL_law 24 rfl) (by decide) (by decide) rfl rfl ?_
      exact lc_write C hX hbl hbA hi hcc hss hR g_write (fun S2 h => go S2 _ _ (Nat.le_succ _) (Nat.le_add_right _ _) h)
    by_cases c41 : o = 41
    · refine Y_tbIn C (tgt := 1439) 41 (xI_of 41 c41 (by decide)) (kL_law 24 rfl) (by decide) (by decide) rfl rfl ?_
      exact lc_byteAt C hX hbl hbA hi hcc hss hR g_byteAt (fun S2 h => go S2 _ _ (Nat.le_succ _) (Nat.le_add_right _ _) h)
    by_cases c42 : o = 42
    · refine Y_tbIn C (tgt := 1464) 42 (xI_of 42 c42 (by decide)) (kL_law 24 rfl) (by decide) (by decide) rfl rfl ?_
      exact lc_sentence C hX hbl hbA hcc hss hR g_sentence (fun S2 h => go S2 _ _ (Nat.le_succ _) (Nat.le_add_right _ _) h)
    by_cases c43 : o = 43
    · refine Y_tbIn C (tgt := 1477) 43 (xI_of 43 c43 (by decide)) (kL_law 24 rfl) (by decide) (by decide) rfl rfl ?_
      exact lc_said C hX hbl hbA hi hcc hss hR g_said (fun S2 h => go S2 _ _ (Nat.le_succ _) (Nat.le_add_right _ _) h)
    by_cases c44 : o = 44
    · refine Y_tbIn C (tgt := 1502) 44 (xI_of 44 c44 (by decide)) (kL_law 24 rfl) (by decide) (by decide) rfl rfl ?_
      exact lc_image C hX hbl hbA hi hcc hss hR g_image (fun S2 h => go S2 _ _ (Nat.le_succ _) (Nat.le_add_right _ _) h)
    by_cases c45 : o = 45
    · refine Y_tbIn C (tgt := 1527) 45 (xI_of 45 c45 (by decide)) (kL_law 24 rfl) (by decide) (by decide) rfl rfl ?_
      exact lc_restore C hX hbl hbA hi hcc hss hR g_restore (fun S2 h => go S2 _ _ (Nat.le_succ _) (Nat.le_add_right _ _) h)
    by_cases c46 : o = 46
    · refine Y_tbIn C (tgt := 1552) 46 (xI_of 46 c46 (by decide)) (kL_law 24 rfl) (by decide) (by decide) rfl rfl ?_
      exact lc_count C hX hbl hbA hi hcc hss hR g_count (fun S2 h => go S2 _ _ (Nat.le_succ _) (Nat.le_add_right _ _) h)
    have e0 := xI_ne (z := 0) 0 c0 (by decide)
    have e1 := xI_ne (z := 1) 1 c1 (by decide)
    have e2 := xI_ne (z := 2) 2 c2 (by decide)
    have e3 := xI_ne (z := 3) 3 c3 (by decide)
    have e4 := xI_ne (z := 4) 4 c4 (by decide)
    have e5 := xI_ne (z := 5) 5 c5 (by decide)
    have e6 := xI_ne (z := 6) 6 c6 (by decide)
    have e7 := xI_ne (z := 7) 7 c7 (by decide)
    have e8 := xI_ne (z := 8) 8 c8 (by decide)
    have e9 := xI_ne (z := 9) 9 c9 (by decide)
    have e10 := xI_ne (z := 10) 10 c10 (by decide)
    have e11 := xI_ne (z := 11) 11 c11 (by decide)
    have e12 := xI_ne (z := 12) 12 c12 (by decide)
    have e13 := xI_ne (z := 13) 13 c13 (by decide)
    have e14 := xI_ne (z := 14) 14 c14 (by decide)
    have e15 := xI_ne (z := 15) 15 c15 (by decide)
    have e16 := xI_ne (z := 16) 16 c16 (by decide)
    have e17 := xI_ne (z := 17) 17 c17 (by decide)
    have e18 := xI_ne (z := 18) 18 c18 (by decide)
    have e19 := xI_ne (z := 19) 19 c19 (by decide)
    have e20 := xI_ne (z := 20) 20 c20 (by decide)
    have e21 := xI_ne (z := 21) 21 c21 (by decide)
    have e22 := xI_ne (z := 22) 22 c22 (by decide)
    have e23 := xI_ne (z := 23) 23 c23 (by decide)
    have e24 := xI_ne (z := 24) 24 c24 (by decide)
    have e25 := xI_ne (z := 25) 25 c25 (by decide)
    have e26 := xI_ne (z := 26) 26 c26 (by decide)
    have e27 := xI_ne (z := 27) 27 c27 (by decide)
    have e28 := xI_ne (z := 28) 28 c28 (by decide)
    have e29 := xI_ne (z := 29) 29 c29 (by decide)
    have e30 := xI_ne (z := 30) 30 c30 (by decide)
    have e31 := xI_ne (z := 31) 31 c31 (by decide)
    have e32 := xI_ne (z := 32) 32 c32 (by decide)
    have e33 := xI_ne (z := 33) 33 c33 (by decide)
    have e34 := xI_ne (z := 34) 34 c34 (by decide)
    have e35 := xI_ne (z := 35) 35 c35 (by decide)
    have e36 := xI_ne (z := 36) 36 c36 (by decide)
    have e37 := xI_ne (z := 37) 37 c37 (by decide)
    have e38 := xI_ne (z := 38) 38 c38 (by decide)
    have e39 := xI_ne (z := 39) 39 c39 (by decide)
    have e40 := xI_ne (z := 40) 40 c40 (by decide)
    have e41 := xI_ne (z := 41) 41 c41 (by decide)
    have e42 := xI_ne (z := 42) 42 c42 (by decide)
    have e43 := xI_ne (z := 43) 43 c43 (by decide)
    have e44 := xI_ne (z := 44) 44 c44 (by decide)
    have e45 := xI_ne (z := 45) 45 c45 (by decide)
    have e46 := xI_ne (z := 46) 46 c46 (by decide)
    refine Y_tbOut C (tgt := 1577) (by omega) (kL_law 24 rfl) rfl ?_
    exact go S _ _ (Nat.le_succ _) (Nat.le_add_right _ _) hR
