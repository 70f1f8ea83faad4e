def f_X11_image  (a0 : Nat) (i1 : Int32) (S : XS) : Option (Bool × XS) := ((f_X11_isImage a0 i1 S).bind (fun q => match q with | (r1, S2) => (if r1 = true then (if i1 < 0 ∨ ln (rf a0 10) ≤ i1.toNatClampNeg then none else ((f_X2_copyFrom (rf (rf a0 10) i1.toNatClampNeg) (rf a0 1) S2).bind (fun S5 => (if i1 < 0 ∨ ln (rf a0 11) ≤ i1.toNatClampNeg then none else (if i1 < 0 ∨ ln (rf a0 12) ≤ i1.toNatClampNeg then none else some (true, (pat (t_X6_copyFrom (rf (rf a0 12) i1.toNatClampNeg) (rf a0 4) (t_X10_copyFrom (rf (rf a0 11) i1.toNatClampNeg) (rf a0 3) S5)) (rf a0 13) i1 (1 : Int32)))))))) else some (false, S2))))
set_option maxHeartbeats 4000000 in
set_option maxRecDepth 100000 in
theorem w_X11_image {l : Launch} {g : XG}  {a0 : Nat} {i1 : Int32} {S : XS} (hk0 : kd a0 = 11) : Cl φB l g 4 mX11_image [.ref a0, .int i1] S (f_X11_image a0 i1 S) := by
  refine Cl.of (by decide +kernel) (Nat.le_of_ble_eq_true rfl) ?_
  unfold f_X11_image
  show X _ _ _ _ _ 0 [(0, .ref a0), (1, .int i1)] [] S _
  refine X_aload_n (n := 1) 0 (kX11_image 0 rfl) rfl rfl rfl ?_
  refine X_iload_n (n := 2) 1 (kX11_image 1 rfl) rfl rfl rfl ?_
  refine X_callVB (n := 5) (As := [.int i1]) (st := []) (kX11_image 2 rfl) rfl (w_X11_isImage hk0) (by decide) ml_X11_368 mf_X11_isImage rfl hk0 xf_X11 rfl (Nat.le_of_ble_eq_true rfl) (fun r1 S2 hq => ?_)
  try dsimp only
  refine X_bn (n := 8) (tgt := 10) (kX11_image 3 rfl) rfl rfl (fun h3 => ?_) (fun h3 => ?_)
  · refine X_aload_n (n := 11) 0 (kX11_image 6 rfl) rfl rfl rfl ?_
    refine X_getR (n := 14) xf_X11 hk0 (by decide) fl_X11_64 rfl (kX11_image 7 rfl) rfl ?_
    refine X_iload_n (n := 15) 1 (kX11_image 8 rfl) rfl rfl rfl ?_
    refine X_aaldH (n := 16) (kt_11_10 hk0) (kX11_image 9 rfl) rfl (fun h4 => ?_)
    refine X_aload_n (n := 17) 0 (kX11_image 10 rfl) rfl rfl rfl ?_
    refine X_getR (n := 20) xf_X11 hk0 (by decide) fl_X11_19 rfl (kX11_image 11 rfl) rfl ?_
    refine X_callVV (n := 23) (As := [.ref (rf a0 1)]) (st := []) (kX11_image 12 rfl) rfl (w_X2_copyFrom (ka_24 (kt_11_10 hk0) h4) (kt_11_1 hk0)) (by decide) ml_X11_131 mf_X2_copyFrom rfl (ka_24 (kt_11_10 hk0) h4) xf_X2 rfl (Nat.le_of_ble_eq_true rfl) (fun S5 hq => ?_)
    try dsimp only
    refine X_aload_n (n := 24) 0 (kX11_image 13 rfl) rfl rfl rfl ?_
    refine X_getR (n := 27) xf_X11 hk0 (by decide) fl_X11_68 rfl (kX11_image 14 rfl) rfl ?_
    refine X_iload_n (n := 28) 1 (kX11_image 15 rfl) rfl rfl rfl ?_
    refine X_aaldW (n := 29) (kt_11_11 hk0) (kX11_image 16 rfl) rfl (fun h6 => ?_)
    refine X_aload_n (n := 30) 0 (kX11_image 17 rfl) rfl rfl rfl ?_
    refine X_getR (n := 33) xf_X11 hk0 (by decide) fl_X11_35 rfl (kX11_image 18 rfl) rfl ?_
    refine X_callV1V (n := 36) (As := [.ref (rf a0 3)]) (st := []) (kX11_image 19 rfl) rfl (p_X10_copyFrom (ka_23 (kt_11_11 hk0) h6) (kt_11_3 hk0)) (by decide) ml_X11_236 mf_X10_copyFrom rfl (ka_23 (kt_11_11 hk0) h6) xf_X10 rfl (Nat.le_of_ble_eq_true rfl) ?_
    refine X_aload_n (n := 37) 0 (kX11_image 20 rfl) rfl rfl rfl ?_
    refine X_getR (n := 40) xf_X11 hk0 (by decide) fl_X11_71 rfl (kX11_image 21 rfl) rfl ?_
    refine X_iload_n (n := 41) 1 (kX11_image 22 rfl) rfl rfl rfl ?_
    refine X_aaldS (n := 42) (kt_11_12 hk0) (kX11_image 23 rfl) rfl (fun h7 => ?_)
    refine X_aload_n (n := 43) 0 (kX11_image 24 rfl) rfl rfl rfl ?_
    refine X_getR (n := 46) xf_X11 hk0 (by decide) fl_X11_42 rfl (kX11_image 25 rfl) rfl ?_
    refine X_callV1V (n := 49) (As := [.ref (rf a0 4)]) (st := []) (kX11_image 26 rfl) rfl (p_X6_copyFrom (ka_25 (kt_11_12 hk0) h7) (kt_11_4 hk0)) (by decide) ml_X11_358 mf_X6_copyFrom rfl (ka_25 (kt_11_12 hk0) h7) xf_X6 rfl (Nat.le_of_ble_eq_true rfl) ?_
    refine X_aload_n (n := 50) 0 (kX11_image 27 rfl) rfl rfl rfl ?_
    refine X_getR (n := 53) xf_X11 hk0 (by decide) fl_X11_75 rfl (kX11_image 28 rfl) rfl ?_
    refine X_iload_n (n := 54) 1 (kX11_image 29 rfl) rfl rfl rfl ?_
    refine X_iconst (n := 55) (v := 1) (kX11_image 30 rfl) rfl (by decide) ?_
    refine X_callS1V (n := 58) (As := [.ref (rf a0 13), .int i1, .int (1 : Int32)]) (st := []) (kX11_image 31 rfl) rfl (p_X11_put (kt_11_13 hk0)) (by decide) ml_X11_198 mf_X11_put rfl rfl (Nat.le_of_ble_eq_true rfl) ?_
    refine X_iconst (n := 59) (v := 1) (kX11_image 32 rfl) rfl (by decide) ?_
    exact X_zret (b := true) rfl (kX11_image 33 rfl)
  · refine X_iconst (n := 9) (v := 0) (kX11_image 4 rfl) rfl (by decide) ?_
    exact X_zret (b := false) rfl (kX11_image 5 rfl)
def f_X11_restore  (a0 : Nat) (i1 : Int32) (S : XS) : Option (Bool × XS) := ((f_X11_isImage a0 i1 S).bind (fun q => match q with | (r1, S2) => (if r1 = true then (if (gat S2 (rf a0 13) i1) = 0 then some (false, S2) else (if i1 < 0 ∨ ln (rf a0 10) ≤ i1.toNatClampNeg then none else ((f_X2_copyFrom (rf a0 1) (rf (rf a0 10) i1.toNatClampNeg) S2).bind (fun S6 => (if i1 < 0 ∨ ln (rf a0 11) ≤ i1.toNatClampNeg then none else (if i1 < 0 ∨ ln (rf a0 12) ≤ i1.toNatClampNeg then none else some (true, (t_X11_forgetPast a0 (t_X6_copyFrom (rf a0 4) (rf (rf a0 12) i1.toNatClampNeg) (t_X10_copyFrom (rf a0 3) (rf (rf a0 11) i1.toNatClampNeg) S6)))))))))) else some (false, S2))))
set_option maxHeartbeats 4000000 in
set_option maxRecDepth 100000 in
theorem w_X11_restore {l : Launch} {g : XG}  {a0 : Nat} {i1 : Int32} {S : XS} (hk0 : kd a0 = 11) : Cl φB l g 4 mX11_restore [.ref a0, .int i1] S (f_X11_restore a0 i1 S) := by
  refine Cl.of (by decide +kernel) (Nat.le_of_ble_eq_true rfl) ?_
  unfold f_X11_restore
  show X _ _ _ _ _ 0 [(0, .ref a0), (1, .int i1)] [] S _
  refine X_aload_n (n := 1) 0 (kX11_restore 0 rfl) rfl rfl rfl ?_
  refine X_iload_n (n := 2) 1 (kX11_restore 1 rfl) rfl rfl rfl ?_
  refine X_callVB (n := 5) (As := [.int i1]) (st := []) (kX11_restore 2 rfl) rfl (w_X11_isImage hk0) (by decide) ml_X11_368 mf_X11_isImage rfl hk0 xf_X11 rfl (Nat.le_of_ble_eq_true rfl) (fun r1 S2 hq => ?_)
  try dsimp only
  refine X_bz (n := 8) (tgt := 19) (kX11_restore 3 rfl) rfl rfl (fun h3 => ?_) (fun h3 => ?_)
  · refine X_aload_n (n := 9) 0 (kX11_restore 4 rfl) rfl rfl rfl ?_
    refine X_getR (n := 12) xf_X11 hk0 (by decide) fl_X11_75 rfl (kX11_restore 5 rfl) rfl ?_
    refine X_iload_n (n := 13) 1 (kX11_restore 6 rfl) rfl rfl rfl ?_
    refine X_callS1I (n := 16) (As := [.ref (rf a0 13), .int i1]) (st := []) (kX11_restore 7 rfl) rfl (p_X11_at (kt_11_13 hk0)) (by decide) ml_X11_154 mf_X11_at rfl rfl (Nat.le_of_ble_eq_true rfl) ?_
    refine X_if_ne (n := 19) (tgt := 21) (kX11_restore 8 rfl) rfl rfl (fun h4 => ?_) (fun h4 => ?_)
    · refine X_iconst (n := 20) (v := 0) (kX11_restore 9 rfl) rfl (by decide) ?_
      exact X_zret (b := false) rfl (kX11_restore 10 rfl)
    · refine X_aload_n (n := 22) 0 (kX11_restore 11 rfl) rfl rfl rfl ?_
      refine X_getR (n := 25) xf_X11 hk0 (by decide) fl_X11_19 rfl (kX11_restore 12 rfl) rfl ?_
      refine X_aload_n (n := 26) 0 (kX11_restore 13 rfl) rfl rfl rfl ?_
      refine X_getR (n := 29) xf_X11 hk0 (by decide) fl_X11_64 rfl (kX11_restore 14 rfl) rfl ?_
      refine X_iload_n (n := 30) 1 (kX11_restore 15 rfl) rfl rfl rfl ?_
      refine X_aaldH (n := 31) (kt_11_10 hk0) (kX11_restore 16 rfl) rfl (fun h5 => ?_)
      refine X_callVV (n := 34) (As := [.ref (rf (rf a0 10) i1.toNatClampNeg)]) (st := []) (kX11_restore 17 rfl) rfl (w_X2_copyFrom (kt_11_1 hk0) (ka_24 (kt_11_10 hk0) h5)) (by decide) ml_X11_131 mf_X2_copyFrom rfl (kt_11_1 hk0) xf_X2 rfl (Nat.le_of_ble_eq_true rfl) (fun S6 hq => ?_)
      try dsimp only
      refine X_aload_n (n := 35) 0 (kX11_restore 18 rfl) rfl rfl rfl ?_
      refine X_getR (n := 38) xf_X11 hk0 (by decide) fl_X11_35 rfl (kX11_restore 19 rfl) rfl ?_
      refine X_aload_n (n := 39) 0 (kX11_restore 20 rfl) rfl rfl rfl ?_
      refine X_getR (n := 42) xf_X11 hk0 (by decide) fl_X11_68 rfl (kX11_restore 21 rfl) rfl ?_
      refine X_iload_n (n := 43) 1 (kX11_restore 22 rfl) rfl rfl rfl ?_
      refine X_aaldW (n := 44) (kt_11_11 hk0) (kX11_restore 23 rfl) rfl (fun h7 => ?_)
      refine X_callV1V (n := 47) (As := [.ref (rf (rf a0 11) i1.toNatClampNeg)]) (st := []) (kX11_restore 24 rfl) rfl (p_X10_copyFrom (kt_11_3 hk0) (ka_23 (kt_11_11 hk0) h7)) (by decide) ml_X11_236 mf_X10_copyFrom rfl (kt_11_3 hk0) xf_X10 rfl (Nat.le_of_ble_eq_true rfl) ?_
      refine X_aload_n (n := 48) 0 (kX11_restore 25 rfl) rfl rfl rfl ?_
      refine X_getR (n := 51) xf_X11 hk0 (by decide) fl_X11_42 rfl (kX11_restore 26 rfl) rfl ?_
      refine X_aload_n (n := 52) 0 (kX11_restore 27 rfl) rfl rfl rfl ?_
      refine X_getR (n := 55) xf_X11 hk0 (by decide) fl_X11_71 rfl (kX11_restore 28 rfl) rfl ?_
      refine X_iload_n (n := 56) 1 (kX11_restore 29 rfl) rfl rfl rfl ?_
      refine X_aaldS (n := 57) (kt_11_12 hk0) (kX11_restore 30 rfl) rfl (fun h8 => ?_)
      refine X_callV1V (n := 60) (As := [.ref (rf (rf a0 12) i1.toNatClampNeg)]) (st := []) (kX11_restore 31 rfl) rfl (p_X6_copyFrom (kt_11_4 hk0) (ka_25 (kt_11_12 hk0) h8)) (by decide) ml_X11_358 mf_X6_copyFrom rfl (kt_11_4 hk0) xf_X6 rfl (Nat.le_of_ble_eq_true rfl) ?_
      refine X_aload_n (n := 61) 0 (kX11_restore 32 rfl) rfl rfl rfl ?_
      refine X_callV1V (n := 64) (As := []) (st := []) (kX11_restore 33 rfl) rfl (p_X11_forgetPast hk0) (by decide) ml_X11_141 mf_X11_forgetPast rfl hk0 xf_X11 rfl (Nat.le_of_ble_eq_true rfl) ?_
      refine X_iconst (n := 65) (v := 1) (kX11_restore 34 rfl) rfl (by decide) ?_
      exact X_zret (b := true) rfl (kX11_restore 35 rfl)
  · refine X_iconst (n := 20) (v := 0) (kX11_restore 9 rfl) rfl (by decide) ?_
    exact X_zret (b := false) rfl (kX11_restore 10 rfl)
def f_X0_passAllHours_L23  (i2 : Int32) (a0 : Nat) (a1 : Nat) : Nat → Int32 → XS → Option (XS)
  | 0, _, _ => none
  | n + 1, i3, S => (if (S.1 a0 3) ≤ i3 then some S else ((if (t_X2_wentTo a1 i3 i2 S) = (-1 : Int32) then some (gat S (rf a0 5) (((i2 - (1 : Int32)) * (6 : Int32)) + i3)) else some (t_X2_wentTo a1 i3 i2 S)).bind (fun x3 => ((f_X0_take a0 (((i2 * (6 : Int32)) + i3) - (6 : Int32)) (rf a0 6) ((i2 * (6 : Int32)) + i3) (pat S (rf a0 5) ((i2 * (6 : Int32)) + i3) x3)).bind (fun S4 => ((f_X2_passHour a1 (rf a0 6) ((i2 * (6 : Int32)) + i3) i3 i2 (t_X2_isRainTold a1 i2 S4) (gat S4 (rf a0 5) ((i2 * (6 : Int32)) + i3)) S4).bind (fun S5 => f_X0_passAllHours_L23 i2 a0 a1 n (i3 + 1) S5)))))))
def f_X0_passAllHours_L13  (a0 : Nat) (a1 : Nat) : Nat → Int32 → XS → Option (XS)
  | 0, _, _ => none
  | n + 1, i2, S => (if (S.1 a0 2) < i2 then some S else ((f_X0_passAllHours_L23 i2 a0 a1 1000000 (0 : Int32) S).bind (fun S7 => f_X0_passAllHours_L13 a0 a1 n (i2 + 1) S7)))
def f_X0_passAllHours  (a0 : Nat) (a1 : Nat) (S : XS) : Option (XS) := ((f_X0_passAllHours_L13 a0 a1 1000000 (1 : Int32) (cpy S (rf a1 5) (rf a0 5))).bind (fun S8 => some S8))
set_option maxHeartbeats 4000000 in
set_option maxRecDepth 100000 in
theorem w_X0_passAllHours_L23 {l : Launch} {g : XG} {G : (XS) → Option (XS)}  {i2 : Int32} {a0 : Nat} {a1 : Nat} (hk0 : kd a0 = 0) (hk1 : kd a1 = 2) (kE : ∀ (S1 : XS), X φV l g 4 mX0_passAllHours 133 [(2, .int i2), (0, .ref a0), (1, .ref a1)] [] S1 (G S1)) : ∀ (n : Nat) (i3 : Int32) (S : XS), X φV l g 4 mX0_passAllHours 23 [(3, .int i3), (2, .int i2), (0, .ref a0), (1, .ref a1)] [] S ((f_X0_passAllHours_L23 i2 a0 a1 n i3 S).bind G) := by
  intro n
  induction n with
  | zero => intro i3 S; exact X_none
  | succ n ih =>
  · intro i3 S
    rw [f_X0_passAllHours_L23]
    refine X_iload_n (n := 24) 0 (kX0_passAllHours 13 rfl) rfl rfl rfl ?_
    refine X_aload_n (n := 25) 2 (kX0_passAllHours 14 rfl) rfl rfl rfl ?_
    refine X_getI (n := 28) xf_X0 hk0 (by decide) fl_X0_40 rfl (kX0_passAllHours 15 rfl) rfl ?_
    refine X_itebind ?_
    refine X_ic_ge (n := 31) (tgt := 133) (kX0_passAllHours 16 rfl) rfl rfl (fun h2 => ?_) (fun h2 => ?_)
    · exact X_L [1, 2, 3] rfl (kE S)
    · refine X_aload_n (n := 32) 3 (kX0_passAllHours 17 rfl) rfl rfl rfl ?_
      refine X_iload_n (n := 33) 0 (kX0_passAllHours 18 rfl) rfl rfl rfl ?_
      refine X_iload_n (n := 34) 1 (kX0_passAllHours 19 rfl) rfl rfl rfl ?_
      refine X_callV1I (n := 37) (As := [.int i3, .int i2]) (st := []) (kX0_passAllHours 20 rfl) rfl (p_X2_wentTo hk1) (by decide) ml_X0_84 mf_X2_wentTo rfl hk1 xf_X2 rfl (Nat.le_of_ble_eq_true rfl) ?_
      refine X_istore (n := 39) (L1 := [(4, .int (t_X2_wentTo a1 i3 i2 S)), (3, .int i3), (2, .int i2), (0, .ref a0), (1, .ref a1)]) (kX0_passAllHours 21 rfl) rfl (Nat.le_of_ble_eq_true rfl) rfl ?_
      refine X_aload_n (n := 40) 3 (kX0_passAllHours 22 rfl) rfl rfl rfl ?_
      refine X_getR (n := 43) xf_X0 hk0 (by decide) fl_X0_18 rfl (kX0_passAllHours 23 rfl) rfl ?_
      refine X_iload_n (n := 44) 2 (kX0_passAllHours 24 rfl) rfl rfl rfl ?_
      refine X_bipush (n := 46) (v := 6) (kX0_passAllHours 25 rfl) rfl (by decide) ?_
      refine X_imul (n := 47) (kX0_passAllHours 26 rfl) rfl ?_
      refine X_iload_n (n := 48) 1 (kX0_passAllHours 27 rfl) rfl rfl rfl ?_
      refine X_iadd (n := 49) (kX0_passAllHours 28 rfl) rfl ?_
      refine X_iload (n := 51) 0 (kX0_passAllHours 29 rfl) rfl rfl ?_
      refine X_iconst (n := 52) (v := (-1)) (kX0_passAllHours 30 rfl) rfl (by decide) ?_
      refine X_assoc ?_
      refine X_join 75 (fun x3 => [(3, .int i3), (2, .int i2), (0, .ref a0), (1, .ref a1)]) (fun x3 => [.int x3, .int ((i2 * (6 : Int32)) + i3), .ref (rf a0 5)]) (fun x3 => S) (fun x3 => ?_) (fun kJ => ?_)
      · try dsimp only
        refine X_callN1V (n := 78) (As := [.ref (rf a0 5), .int ((i2 * (6 : Int32)) + i3), .int x3]) (st := []) (kX0_passAllHours 44 rfl) rfl (p_X11_put (kt_0_5 hk0)) (by decide) nl_X0_73 mf_X11_put rfl rfl (Nat.le_of_ble_eq_true rfl) ?_
        refine X_iload_n (n := 79) 1 (kX0_passAllHours 45 rfl) rfl rfl rfl ?_
        refine X_bipush (n := 81) (v := 6) (kX0_passAllHours 46 rfl) rfl (by decide) ?_
        refine X_imul (n := 82) (kX0_passAllHours 47 rfl) rfl ?_
        refine X_iload_n (n := 83) 0 (kX0_passAllHours 48 rfl) rfl rfl rfl ?_
        refine X_iadd (n := 84) (kX0_passAllHours 49 rfl) rfl ?_
        refine X_istore (n := 86) (L1 := [(5, .int ((i2 * (6 : Int32)) + i3)), (3, .int i3), (2, .int i2), (0, .ref a0), (1, .ref a1)]) (kX0_passAllHours 50 rfl) rfl (Nat.le_of_ble_eq_true rfl) rfl ?_
        refine X_aload_n (n := 87) 3 (kX0_passAllHours 51 rfl) rfl rfl rfl ?_
        refine X_iload (n := 89) 0 (kX0_passAllHours 52 rfl) rfl rfl ?_
        refine X_bipush (n := 91) (v := 6) (kX0_passAllHours 53 rfl) rfl (by decide) ?_
        refine X_isub (n := 92) (kX0_passAllHours 54 rfl) rfl ?_
        refine X_aload_n (n := 93) 3 (kX0_passAllHours 55 rfl) rfl rfl rfl ?_
        refine X_getR (n := 96) xf_X0 hk0 (by decide) fl_X0_21 rfl (kX0_passAllHours 56 rfl) rfl ?_
        refine X_iload (n := 98) 0 (kX0_passAllHours 57 rfl) rfl rfl ?_
        refine X_assoc ?_
        refine X_callVV (n := 101) (As := [.int (((i2 * (6 : Int32)) + i3) - (6 : Int32)), .ref (rf a0 6), .int ((i2 * (6 : Int32)) + i3)]) (st := []) (kX0_passAllHours 58 rfl) rfl (w_X0_take hk0 (kt_0_6 hk0)) (by decide) ml_X0_88 mf_X0_take rfl hk0 xf_X0 rfl (Nat.le_of_ble_eq_true rfl) (fun S4 hq => ?_)
        try dsimp only
        refine X_aload_n (n := 102) 4 (kX0_passAllHours 59 rfl) rfl rfl rfl ?_
        refine X_aload_n (n := 103) 3 (kX0_passAllHours 60 rfl) rfl rfl rfl ?_
        refine X_getR (n := 106) xf_X0 hk0 (by decide) fl_X0_21 rfl (kX0_passAllHours 61 rfl) rfl ?_
        refine X_iload (n := 108) 0 (kX0_passAllHours 62 rfl) rfl rfl ?_
        refine X_iload_n (n := 109) 1 (kX0_passAllHours 63 rfl) rfl rfl rfl ?_
        refine X_iload_n (n := 110) 2 (kX0_passAllHours 64 rfl) rfl rfl rfl ?_
        refine X_aload_n (n := 111) 4 (kX0_passAllHours 65 rfl) rfl rfl rfl ?_
        refine X_iload_n (n := 112) 2 (kX0_passAllHours 66 rfl) rfl rfl rfl ?_
        refine X_callV1B (n := 115) (As := [.int i2]) (st := [.int i2, .int i3, .int ((i2 * (6 : Int32)) + i3), .ref (rf a0 6), .ref a1]) (kX0_passAllHours 67 rfl) rfl (p_X2_isRainTold hk1) (by decide) ml_X0_92 mf_X2_isRainTold rfl hk1 xf_X2 rfl (Nat.le_of_ble_eq_true rfl) ?_
        refine X_aload_n (n := 116) 3 (kX0_passAllHours 68 rfl) rfl rfl rfl ?_
        refine X_getR (n := 119) xf_X0 hk0 (by decide) fl_X0_18 rfl (kX0_passAllHours 69 rfl) rfl ?_
        refine X_iload (n := 121) 0 (kX0_passAllHours 70 rfl) rfl rfl ?_
        refine X_callN1I (n := 124) (As := [.ref (rf a0 5), .int ((i2 * (6 : Int32)) + i3)]) (st := [.int (bi (t_X2_isRainTold a1 i2 S4)), .int i2, .int i3, .int ((i2 * (6 : Int32)) + i3), .ref (rf a0 6), .ref a1]) (kX0_passAllHours 71 rfl) rfl (p_X11_at (kt_0_5 hk0)) (by decide) nl_X0_36 mf_X11_at rfl rfl (Nat.le_of_ble_eq_true rfl) ?_
        refine X_assoc ?_
        refine X_callVV (n := 127) (As := [.ref (rf a0 6), .int ((i2 * (6 : Int32)) + i3), .int i3, .int i2, .int (bi (t_X2_isRainTold a1 i2 S4)), .int (gat S4 (rf a0 5) ((i2 * (6 : Int32)) + i3))]) (st := []) (kX0_passAllHours 72 rfl) rfl (w_X2_passHour hk1 (kt_0_6 hk0)) (by decide) ml_X0_96 mf_X2_passHour rfl hk1 xf_X2 rfl (Nat.le_of_ble_eq_true rfl) (fun S5 hq => ?_)
        try dsimp only
        refine X_iinc (n := 130) 1 (v := (i3 + 1)) (L1 := [(3, .int (i3 + 1)), (5, .int ((i2 * (6 : Int32)) + i3)), (2, .int i2), (0, .ref a0), (1, .ref a1)]) (kX0_passAllHours 73 rfl) rfl rfl rfl (Nat.le_of_ble_eq_true rfl) rfl ?_
        refine X_goto (tgt := 23) (kX0_passAllHours 74 rfl) rfl ?_
        exact X_L [0, 2, 3, 4] rfl (ih (i3 + 1) S5)
      · refine X_itebind ?_
        refine X_ic_eq (n := 55) (tgt := 60) (kX0_passAllHours 31 rfl) rfl rfl (fun h6 => ?_) (fun h6 => ?_)
        · refine X_aload_n (n := 61) 3 (kX0_passAllHours 34 rfl) rfl rfl rfl ?_
          refine X_getR (n := 64) xf_X0 hk0 (by decide) fl_X0_18 rfl (kX0_passAllHours 35 rfl) rfl ?_
          refine X_iload_n (n := 65) 2 (kX0_passAllHours 36 rfl) rfl rfl rfl ?_
          refine X_iconst (n := 66) (v := 1) (kX0_passAllHours 37 rfl) rfl (by decide) ?_
          refine X_isub (n := 67) (kX0_passAllHours 38 rfl) rfl ?_
          refine X_bipush (n := 69) (v := 6) (kX0_passAllHours 39 rfl) rfl (by decide) ?_
          refine X_imul (n := 70) (kX0_passAllHours 40 rfl) rfl ?_
          refine X_iload_n (n := 71) 1 (kX0_passAllHours 41 rfl) rfl rfl rfl ?_
          refine X_iadd (n := 72) (kX0_passAllHours 42 rfl) rfl ?_
          refine X_callN1I (n := 75) (As := [.ref (rf a0 5), .int (((i2 - (1 : Int32)) * (6 : Int32)) + i3)]) (st := [.int ((i2 * (6 : Int32)) + i3), .ref (rf a0 5)]) (kX0_passAllHours 43 rfl) rfl (p_X11_at (kt_0_5 hk0)) (by decide) nl_X0_36 mf_X11_at rfl rfl (Nat.le_of_ble_eq_true rfl) ?_
          exact X_L [1, 2, 3, 4] rfl (kJ (gat S (rf a0 5) (((i2 - (1 : Int32)) * (6 : Int32)) + i3)))
        · refine X_iload (n := 57) 0 (kX0_passAllHours 32 rfl) rfl rfl ?_
          refine X_goto (tgt := 75) (kX0_passAllHours 33 rfl) rfl ?_
          exact X_L [1, 2, 3, 4] rfl (kJ (t_X2_wentTo a1 i3 i2 S))
set_option maxHeartbeats 4000000 in
set_option maxRecDepth 100000 in
theorem w_X0_passAllHours_L13 {l : Launch} {g : XG} {G : (XS) → Option (XS)}  {a0 : Nat} {a1 : Nat} (hk0 : kd a0 = 0) (hk1 : kd a1 = 2) (kE : ∀ (S1 : XS), X φV l g 4 mX0_passAllHours 139 [] [] S1 (G S1)) : ∀ (n : Nat) (i2 : Int32) (S : XS), X φV l g 4 mX0_passAllHours 13 [(2, .int i2), (0, .ref a0), (1, .ref a1)] [] S ((f_X0_passAllHours_L13 a0 a1 n i2 S).bind G) := by
  intro n
  induction n with
  | zero => intro i2 S; exact X_none
  | succ n ih =>
  · intro i2 S
    rw [f_X0_passAllHours_L13]
    refine X_iload_n (n := 14) 0 (kX0_passAllHours 7 rfl) rfl rfl rfl ?_
    refine X_aload_n (n := 15) 1 (kX0_passAllHours 8 rfl) rfl rfl rfl ?_
    refine X_getI (n := 18) xf_X0 hk0 (by decide) fl_X0_27 rfl (kX0_passAllHours 9 rfl) rfl ?_
    refine X_itebind ?_
    refine X_ic_gt (n := 21) (tgt := 139) (kX0_passAllHours 10 rfl) rfl rfl (fun h1 => ?_) (fun h1 => ?_)
    · exact X_L [] rfl (kE S)
    · refine X_iconst (n := 22) (v := 0) (kX0_passAllHours 11 rfl) rfl (by decide) ?_
      refine X_istore_n (n := 23) (L1 := [(3, .int 0), (2, .int i2), (0, .ref a0), (1, .ref a1)]) (kX0_passAllHours 12 rfl) rfl rfl (Nat.le_of_ble_eq_true rfl) rfl ?_
      refine X_assoc ?_
      refine X_L [0, 1, 2, 3] rfl (w_X0_passAllHours_L23 hk0 hk1 (fun S7 => ?_) 1000000 (0 : Int32) S)
      try dsimp only
      refine X_iinc (n := 136) 0 (v := (i2 + 1)) (L1 := [(2, .int (i2 + 1)), (0, .ref a0), (1, .ref a1)]) (kX0_passAllHours 75 rfl) rfl rfl rfl (Nat.le_of_ble_eq_true rfl) rfl ?_
      refine X_goto (tgt := 13) (kX0_passAllHours 76 rfl) rfl ?_
      exact X_L [0, 1, 2] rfl (ih (i2 + 1) S7)
set_option maxHeartbeats 4000000 in
set_option maxRecDepth 100000 in
theorem w_X0_passAllHours {l : Launch} {g : XG}  {a0 : Nat} {a1 : Nat} {S : XS} (hk0 : kd a0 = 0) (hk1 : kd a1 = 2) : Cl φV l g 4 mX0_passAllHours [.ref a0, .ref a1] S (f_X0_passAllHours a0 a1 S) := by
  refine Cl.of (by decide +kernel) (Nat.le_of_ble_eq_true rfl) ?_
  unfold f_X0_passAllHours
  show X _ _ _ _ _ 0 [(0, .ref a0), (1, .ref a1)] [] S _
  refine X_aload_n (n := 1) 1 (kX0_passAllHours 0 rfl) rfl rfl rfl ?_
  refine X_getR (n := 4) xf_X2 hk1 (by decide) fl_X0_77 rfl (kX0_passAllHours 1 rfl) rfl ?_
  refine X_aload_n (n := 5) 0 (kX0_passAllHours 2 rfl) rfl rfl rfl ?_
  refine X_getR (n := 8) xf_X0 hk0 (by decide) fl_X0_18 rfl (kX0_passAllHours 3 rfl) rfl ?_
  refine X_callN1V (n := 11) (As := [.ref (rf a1 5), .ref (rf a0 5)]) (st := []) (kX0_passAllHours 4 rfl) rfl (p_X11_copy (kt_2_5 hk1) (kt_0_5 hk0)) (by decide) nl_X0_80 mf_X11_copy rfl rfl (Nat.le_of_ble_eq_true rfl) ?_
  refine X_iconst (n := 12) (v := 1) (kX0_passAllHours 5 rfl) rfl (by decide) ?_
  refine X_istore_n (n := 13) (L1 := [(2, .int 1), (0, .ref a0), (1, .ref a1)]) (kX0_passAllHours 6 rfl) rfl rfl (Nat.le_of_ble_eq_true rfl) rfl ?_
  refine X_L [0, 1, 2] rfl (w_X0_passAllHours_L13 hk0 hk1 (fun S8 => ?_) 1000000 (1 : Int32) (cpy S (rf a1 5) (rf a0 5)))
  try dsimp only
  exact X_vret rfl (kX0_passAllHours 77 rfl)
def f_X0_isAsTold_L22  (a0 : Nat) (a1 : Nat) (i2 : Int32) (i3 : Int32) : Nat → Int32 → XS → Option (XS)
  | 0, _, _ => none
  | n + 1, i5, S => (if (S.1 a0 2) < i5 then some S else ((f_X2_passHour a1 (rf a0 7) (0 : Int32) i2 i5 (t_X2_isRainTold a1 i5 S) (gat S (rf a0 5) ((i5 * (6 : Int32)) + i3)) S).bind (fun S3 => f_X0_isAsTold_L22 a0 a1 i2 i3 n (i5 + 1) S3)))
def f_X0_isAsTold  (a0 : Nat) (a1 : Nat) (i2 : Int32) (i3 : Int32) (i4 : Int32) (S : XS) : Option (Bool × XS) := ((f_X0_take a0 (((i4 - (1 : Int32)) * (6 : Int32)) + i2) (rf a0 7) (0 : Int32) S).bind (fun S1 => ((f_X0_isAsTold_L22 a0 a1 i2 i3 1000000 i4 S1).bind (fun S4 => ((f_X11_difference (rf a0 7) (0 : Int32) (rf a0 4) i2 S4).bind (fun q => match q with | (r5, S6) => (if r5 = 0 then some (true, S6) else some (false, S6))))))))
set_option maxHeartbeats 4000000 in
set_option maxRecDepth 100000 in
theorem w_X0_isAsTold_L22 {l : Launch} {g : XG} {G : (XS) → Option (Bool × XS)}  {a0 : Nat} {a1 : Nat} {i2 : Int32} {i3 : Int32} (hk0 : kd a0 = 0) (hk1 : kd a1 = 2) (kE : ∀ (S1 : XS), X φB l g 4 mX0_isAsTold 69 [(0, .ref a0), (2, .int i2)] [] S1 (G S1)) : ∀ (n : Nat) (i5 : Int32) (S : XS), X φB l g 4 mX0_isAsTold 22 [(5, .int i5), (0, .ref a0), (1, .ref a1), (2, .int i2), (3, .int i3)] [] S ((f_X0_isAsTold_L22 a0 a1 i2 i3 n i5 S).bind G) := by
  intro n
  induction n with
  | zero => intro i5 S; exact X_none
  | succ n ih =>
  · intro i5 S
    rw [f_X0_isAsTold_L22]
    refine X_iload (n := 24) 0 (kX0_isAsTold 14 rfl) rfl rfl ?_
    refine X_aload_n (n := 25) 1 (kX0_isAsTold 15 rfl) rfl rfl rfl ?_
    refine X_getI (n := 28) xf_X0 hk0 (by decide) fl_X0_27 rfl (kX0_isAsTold 16 rfl) rfl ?_
    refine X_itebind ?_
    refine X_ic_gt (n := 31) (tgt := 69) (kX0_isAsTold 17 rfl) rfl rfl (fun h2 => ?_) (fun h2 => ?_)
    · exact X_L [1, 3] rfl (kE S)
    · refine X_aload_n (n := 32) 2 (kX0_isAsTold 18 rfl) rfl rfl rfl ?_
      refine X_aload_n (n := 33) 1 (kX0_isAsTold 19 rfl) rfl rfl rfl ?_
      refine X_getR (n := 36) xf_X0 hk0 (by decide) fl_X0_24 rfl (kX0_isAsTold 20 rfl) rfl ?_
      refine X_iconst (n := 37) (v := 0) (kX0_isAsTold 21 rfl) rfl (by decide) ?_
      refine X_iload_n (n := 38) 3 (kX0_isAsTold 22 rfl) rfl rfl rfl ?_
      refine X_iload (n := 40) 0 (kX0_isAsTold 23 rfl) rfl rfl ?_
      refine X_aload_n (n := 41) 2 (kX0_isAsTold 24 rfl) rfl rfl rfl ?_
      refine X_iload (n := 43) 0 (kX0_isAsTold 25 rfl) rfl rfl ?_
      refine X_callV1B (n := 46) (As := [.int i5]) (st := [.int i5, .int i2, .int 0, .ref (rf a0 7), .ref a1]) (kX0_isAsTold 26 rfl) rfl (p_X2_isRainTold hk1) (by decide) ml_X0_92 mf_X2_isRainTold rfl hk1 xf_X2 rfl (Nat.le_of_ble_eq_true rfl) ?_
      refine X_aload_n (n := 47) 1 (kX0_isAsTold 27 rfl) rfl rfl rfl ?_
      refine X_getR (n := 50) xf_X0 hk0 (by decide) fl_X0_18 rfl (kX0_isAsTold 28 rfl) rfl ?_
      refine X_iload (n := 52) 0 (kX0_isAsTold 29 rfl) rfl rfl ?_
      refine X_bipush (n := 54) (v := 6) (kX0_isAsTold 30 rfl) rfl (by decide) ?_
      refine X_imul (n := 55) (kX0_isAsTold 31 rfl) rfl ?_
      refine X_iload_n (n := 56) 4 (kX0_isAsTold 32 rfl) rfl rfl rfl ?_
      refine X_iadd (n := 57) (kX0_isAsTold 33 rfl) rfl ?_
      refine X_callN1I (n := 60) (As := [.ref (rf a0 5), .int ((i5 * (6 : Int32)) + i3)]) (st := [.int (bi (t_X2_isRainTold a1 i5 S)), .int i5, .int i2, .int 0, .ref (rf a0 7), .ref a1]) (kX0_isAsTold 34 rfl) rfl (p_X11_at (kt_0_5 hk0)) (by decide) nl_X0_36 mf_X11_at rfl rfl (Nat.le_of_ble_eq_true rfl) ?_
      refine X_assoc ?_
      refine X_callVV (n := 63) (As := [.ref (rf a0 7), .int (0 : Int32), .int i2, .int i5, .int (bi (t_X2_isRainTold a1 i5 S)), .int (gat S (rf a0 5) ((i5 * (6 : Int32)) + i3))]) (st := []) (kX0_isAsTold 35 rfl) rfl (w_X2_passHour hk1 (kt_0_7 hk0)) (by decide) ml_X0_96 mf_X2_passHour rfl hk1 xf_X2 rfl (Nat.le_of_ble_eq_true rfl) (fun S3 hq => ?_)
      try dsimp only
      refine X_iinc (n := 66) 0 (v := (i5 + 1)) (L1 := [(5, .int (i5 + 1)), (0, .ref a0), (1, .ref a1), (2, .int i2), (3, .int i3)]) (kX0_isAsTold 36 rfl) rfl rfl rfl (Nat.le_of_ble_eq_true rfl) rfl ?_
      refine X_goto (tgt := 22) (kX0_isAsTold 37 rfl) rfl ?_
      exact X_L [0, 1, 2, 3, 4] rfl (ih (i5 + 1) S3)
set_option maxHeartbeats 4000000 in
set_option maxRecDepth 100000 in
theorem w_X0_isAsTold {l : Launch} {g : XG}  {a0 : Nat} {a1 : Nat} {i2 : Int32} {i3 : Int32} {i4 : Int32} {S : XS} (hk0 : kd a0 = 0) (hk1 : kd a1 = 2) : Cl φB l g 4 mX0_isAsTold [.ref a0, .ref a1, .int i2, .int i3, .int i4] S (f_X0_isAsTold a0 a1 i2 i3 i4 S) := by
  refine Cl.of (by decide +kernel) (Nat.le_of_ble_eq_true rfl) ?_
  unfold f_X0_isAsTold
  show X _ _ _ _ _ 0 [(0, .ref a0), (1, .ref a1), (2, .int i2), (3, .int i3), (4, .int i4)] [] S _
  refine X_aload_n (n := 1) 0 (kX0_isAsTold 0 rfl) rfl rfl rfl ?_
  refine X_iload (n := 3) 4 (kX0_isAsTold 1 rfl) rfl rfl ?_
  refine X_iconst (n := 4) (v := 1) (kX0_isAsTold 2 rfl) rfl (by decide) ?_
  refine X_isub (n := 5) (kX0_isAsTold 3 rfl) rfl ?_
  refine X_bipush (n := 7) (v := 6) (kX0_isAsTold 4 rfl) rfl (by decide) ?_
  refine X_imul (n := 8) (kX0_isAsTold 5 rfl) rfl ?_
  refine X_iload_n (n := 9) 2 (kX0_isAsTold 6 rfl) rfl rfl rfl ?_
  refine X_iadd (n := 10) (kX0_isAsTold 7 rfl) rfl ?_
  refine X_aload_n (n := 11) 0 (kX0_isAsTold 8 rfl) rfl rfl rfl ?_
  refine X_getR (n := 14) xf_X0 hk0 (by decide) fl_X0_24 rfl (kX0_isAsTold 9 rfl) rfl ?_
  refine X_iconst (n := 15) (v := 0) (kX0_isAsTold 10 rfl) rfl (by decide) ?_
  refine X_callVV (n := 18) (As := [.int (((i4 - (1 : Int32)) * (6 : Int32)) + i2), .ref (rf a0 7), .int (0 : Int32)]) (st := []) (kX0_isAsTold 11 rfl) rfl (w_X0_take hk0 (kt_0_7 hk0)) (by decide) ml_X0_88 mf_X0_take rfl hk0 xf_X0 rfl (Nat.le_of_ble_eq_true rfl) (fun S1 hq => ?_)
  try dsimp only
  refine X_iload (n := 20) 4 (kX0_isAsTold 12 rfl) rfl rfl ?_
  refine X_istore (n := 22) (L1 := [(5, .int i4), (0, .ref a0), (1, .ref a1), (2, .int i2), (3, .int i3), (4, .int i4)]) (kX0_isAsTold 13 rfl) rfl (Nat.le_of_ble_eq_true rfl) rfl ?_
  refine X_L [0, 1, 2, 3, 4] rfl (w_X0_isAsTold_L22 hk0 hk1 (fun S4 => ?_) 1000000 i4 S1)
  try dsimp only
  refine X_aload_n (n := 70) 0 (kX0_isAsTold 38 rfl) rfl rfl rfl ?_
  refine X_getR (n := 73) xf_X0 hk0 (by decide) fl_X0_24 rfl (kX0_isAsTold 39 rfl) rfl ?_
  refine X_iconst (n := 74) (v := 0) (kX0_isAsTold 40 rfl) rfl (by decide) ?_
  refine X_aload_n (n := 75) 0 (kX0_isAsTold 41 rfl) rfl rfl rfl ?_
  refine X_getR (n := 78) xf_X0 hk0 (by decide) fl_X0_15 rfl (kX0_isAsTold 42 rfl) rfl ?_
  refine X_iload_n (n := 79) 1 (kX0_isAsTold 43 rfl) rfl rfl rfl ?_
  refine X_callNI (n := 82) (As := [.ref (rf a0 7), .int (0 : Int32), .ref (rf a0 4), .int i2]) (st := []) (kX0_isAsTold 44 rfl) rfl (w_X11_difference (kt_0_7 hk0) (kt_0_4 hk0)) (by decide) nl_X0_100 mf_X11_difference rfl rfl (Nat.le_of_ble_eq_true rfl) (fun r5 S6 hq => ?_)
  try dsimp only
  refine X_if_ne (n := 85) (tgt := 89) (kX0_isAsTold 45 rfl) rfl rfl (fun h7 => ?_) (fun h7 => ?_)
  · refine X_iconst (n := 86) (v := 1) (kX0_isAsTold 46 rfl) rfl (by decide) ?_
    refine X_goto (tgt := 90) (kX0_isAsTold 47 rfl) rfl ?_
    exact X_zret (b := true) rfl (kX0_isAsTold 49 rfl)
  · refine X_iconst (n := 90) (v := 0) (kX0_isAsTold 48 rfl) rfl (by decide) ?_
    exact X_zret (b := false) rfl (kX0_isAsTold 49 rfl)
def f_X10_passHour_L34  (b3 : Bool) (a0 : Nat) (a1 : Nat) : Nat → Int32 → XS → Option (XS)
  | 0, _, _ => none
  | n + 1, i4, S => (if (gat S (rf a1 0) (2 : Int32)) ≤ i4 then some S else ((if (t_X2_wentTo a1 i4 (S.1 a0 0) S) = (-1 : Int32) then some S else some (pat S (rf a0 1) i4 (t_X2_wentTo a1 i4 (S.1 a0 0) S))).bind (fun S3 => ((f_X2_passHour a1 (rf a0 3) (gat S3 (rf a0 2) i4) (gat S3 (rf a0 2) i4) (S3.1 a0 0) b3 (gat S3 (rf a0 1) i4) S3).bind (fun S4 => f_X10_passHour_L34 b3 a0 a1 n (i4 + 1) S4)))))
def f_X10_passHour_L126  (a0 : Nat) (a1 : Nat) : Nat → Int32 → XS → Option (XS)
  | 0, _, _ => none
  | n + 1, i4, S => (if (S.1 a0 4) ≤ i4 then some S else ((f_X2_fades a1 (gat S (rf a0 6) i4) (S.1 a0 0) S).bind (fun q => match q with | (r8, S9) => (if r8 = true then ((f_X10_fadeCloth a0 a1 i4 S9).bind (fun S11 => f_X10_passHour_L126 a0 a1 n (i4 + 1) S11)) else f_X10_passHour_L126 a0 a1 n (i4 + 1) S9))))
def f_X10_passHour_L180  (i4 : Int32) (a0 : Nat) : Nat → Int32 → XS → Option (XS)
  | 0, _, _ => none
  | n + 1, i5, S => (if (6 : Int32) ≤ i5 then some S else ((f_X10_mingle a0 i4 i5 S).bind (fun S15 => f_X10_passHour_L180 i4 a0 n (i5 + 1) S15)))
def f_X10_passHour_L171  (a0 : Nat) : Nat → Int32 → XS → Option (XS)
  | 0, _, _ => none
  | n + 1, i4, S => (if (3 : Int32) ≤ i4 then some S else ((f_X10_passHour_L180 i4 a0 1000000 (0 : Int32) S).bind (fun S16 => f_X10_passHour_L171 a0 n (i4 + 1) S16)))
def f_X10_passHour  (a0 : Nat) (a1 : Nat) (b2 : Bool) (S : XS) : Option (XS) := ((if b2 = true then some true else (if (t_X2_isRainTold a1 ((sI S a0 0 ((S.1 a0 0) + (1 : Int32))).1 a0 0) (sI S a0 0 ((S.1 a0 0) + (1 : Int32)))) = true then some true else some false)).bind (fun x1 => ((f_X10_passHour_L34 x1 a0 a1 1000000 (0 : Int32) (sI S a0 0 ((S.1 a0 0) + (1 : Int32)))).bind (fun S6 => ((f_X10_passHour_L126 a0 a1 1000000 (0 : Int32) S6).bind (fun S12 => ((f_X10_passHour_L171 a0 1000000 (0 : Int32) S12).bind (fun S17 => some S17))))))))
set_option maxHeartbeats 4000000 in
set_option maxRecDepth 100000 in
theorem w_X10_passHour_L34 {l : Launch} {g : XG} {G : (XS) → Option (XS)}  {b3 : Bool} {a0 : Nat} {a1 : Nat} (hk0 : kd a0 = 10) (hk1 : kd a1 = 2) (kE : ∀ (S1 : XS), X φV l g 4 mX10_passHour 123 [(0, .ref a0), (1, .ref a1)] [] S1 (G S1)) : ∀ (n : Nat) (i4 : Int32) (S : XS), X φV l g 4 mX10_passHour 34 [(4, .int i4), (3, .int (bi b3)), (0, .ref a0), (1, .ref a1)] [] S ((f_X10_passHour_L34 b3 a0 a1 n i4 S).bind G) := by
  intro n
  induction n with
  | zero => intro i4 S; exact X_none
  | succ n ih =>
  · intro i4 S
    rw [f_X10_passHour_L34]
    refine X_iload (n := 36) 0 (kX10_passHour 19 rfl) rfl rfl ?_
    refine X_aload_n (n := 37) 3 (kX10_passHour 20 rfl) rfl rfl rfl ?_
    refine X_getR (n := 40) xf_X2 hk1 (by decide) fl_X10_76 rfl (kX10_passHour 21 rfl) rfl ?_
    refine X_iconst (n := 41) (v := 2) (kX10_passHour 22 rfl) rfl (by decide) ?_
    refine X_callN1I (n := 44) (As := [.ref (rf a1 0), .int (2 : Int32)]) (st := [.int i4]) (kX10_passHour 23 rfl) rfl (p_X11_at (kt_2_0 hk1)) (by decide) nl_X10_55 mf_X11_at rfl rfl (Nat.le_of_ble_eq_true rfl) ?_
    refine X_itebind ?_
    refine X_ic_ge (n := 47) (tgt := 123) (kX10_passHour 24 rfl) rfl rfl (fun h2 => ?_) (fun h2 => ?_)
    · exact X_L [2, 3] rfl (kE S)
    · refine X_aload_n (n := 48) 3 (kX10_passHour 25 rfl) rfl rfl rfl ?_
      refine X_iload (n := 50) 0 (kX10_passHour 26 rfl) rfl rfl ?_
      refine X_aload_n (n := 51) 2 (kX10_passHour 27 rfl) rfl rfl rfl ?_
      refine X_getI (n := 54) xf_X10 hk0 (by decide) fl_X10_33 rfl (kX10_passHour 28 rfl) rfl ?_
      refine X_callV1I (n := 57) (As := [.int i4, .int (S.1 a0 0)]) (st := []) (kX10_passHour 29 rfl) rfl (p_X2_wentTo hk1) (by decide) ml_X10_79 mf_X2_wentTo rfl hk1 xf_X2 rfl (Nat.le_of_ble_eq_true rfl) ?_
      refine X_iconst (n := 58) (v := (-1)) (kX10_passHour 30 rfl) rfl (by decide) ?_
      refine X_assoc ?_
      refine X_join 80 (fun S3 => [(4, .int i4), (3, .int (bi b3)), (0, .ref a0), (1, .ref a1)]) (fun S3 => []) (fun S3 => S3) (fun S3 => ?_) (fun kJ => ?_)
      · try dsimp only
        refine X_aload_n (n := 81) 2 (kX10_passHour 41 rfl) rfl rfl rfl ?_
        refine X_getR (n := 84) xf_X10 hk0 (by decide) fl_X10_15 rfl (kX10_passHour 42 rfl) rfl ?_
        refine X_iload (n := 86) 0 (kX10_passHour 43 rfl) rfl rfl ?_
        refine X_callN1I (n := 89) (As := [.ref (rf a0 2), .int i4]) (st := []) (kX10_passHour 44 rfl) rfl (p_X11_at (kt_10_2 hk0)) (by decide) nl_X10_55 mf_X11_at rfl rfl (Nat.le_of_ble_eq_true rfl) ?_
        refine X_istore (n := 91) (L1 := [(5, .int (gat S3 (rf a0 2) i4)), (4, .int i4), (3, .int (bi b3)), (0, .ref a0), (1, .ref a1)]) (kX10_passHour 45 rfl) rfl (Nat.le_of_ble_eq_true rfl) rfl ?_
        refine X_aload_n (n := 92) 4 (kX10_passHour 46 rfl) rfl rfl rfl ?_
        refine X_aload_n (n := 93) 3 (kX10_passHour 47 rfl) rfl rfl rfl ?_
        refine X_getR (n := 96) xf_X10 hk0 (by decide) fl_X10_18 rfl (kX10_passHour 48 rfl) rfl ?_
        refine X_iload (n := 98) 0 (kX10_passHour 49 rfl) rfl rfl ?_
        refine X_iload (n := 100) 0 (kX10_passHour 50 rfl) rfl rfl ?_
        refine X_aload_n (n := 101) 3 (kX10_passHour 51 rfl) rfl rfl rfl ?_
        refine X_getI (n := 104) xf_X10 hk0 (by decide) fl_X10_33 rfl (kX10_passHour 52 rfl) rfl ?_
        refine X_iload_n (n := 105) 2 (kX10_passHour 53 rfl) rfl rfl rfl ?_
        refine X_aload_n (n := 106) 3 (kX10_passHour 54 rfl) rfl rfl rfl ?_
        refine X_getR (n := 109) xf_X10 hk0 (by decide) fl_X10_9 rfl (kX10_passHour 55 rfl) rfl ?_
        refine X_iload (n := 111) 1 (kX10_passHour 56 rfl) rfl rfl ?_
        refine X_callN1I (n := 114) (As := [.ref (rf a0 1), .int i4]) (st := [.int (bi b3), .int (S3.1 a0 0), .int (gat S3 (rf a0 2) i4), .int (gat S3 (rf a0 2) i4), .ref (rf a0 3), .ref a1]) (kX10_passHour 57 rfl) rfl (p_X11_at (kt_10_1 hk0)) (by decide) nl_X10_55 mf_X11_at rfl rfl (Nat.le_of_ble_eq_true rfl) ?_
        refine X_assoc ?_
        refine X_callVV (n := 117) (As := [.ref (rf a0 3), .int (gat S3 (rf a0 2) i4), .int (gat S3 (rf a0 2) i4), .int (S3.1 a0 0), .int (bi b3), .int (gat S3 (rf a0 1) i4)]) (st := []) (kX10_passHour 58 rfl) rfl (w_X2_passHour hk1 (kt_10_3 hk0)) (by decide) ml_X10_82 mf_X2_passHour rfl hk1 xf_X2 rfl (Nat.le_of_ble_eq_true rfl) (fun S4 hq => ?_)
        try dsimp only
        refine X_iinc (n := 120) 1 (v := (i4 + 1)) (L1 := [(4, .int (i4 + 1)), (5, .int (gat S3 (rf a0 2) i4)), (3, .int (bi b3)), (0, .ref a0), (1, .ref a1)]) (kX10_passHour 59 rfl) rfl rfl rfl (Nat.le_of_ble_eq_true rfl) rfl ?_
        refine X_goto (tgt := 34) (kX10_passHour 60 rfl) rfl ?_
        exact X_L [0, 2, 3, 4] rfl (ih (i4 + 1) S4)
      · refine X_itebind ?_
        refine X_ic_eq (n := 61) (tgt := 80) (kX10_passHour 31 rfl) rfl rfl (fun h5 => ?_) (fun h5 => ?_)
        · exact X_L [0, 1, 2, 3] rfl (kJ S)
        · refine X_aload_n (n := 62) 2 (kX10_passHour 32 rfl) rfl rfl rfl ?_
          refine X_getR (n := 65) xf_X10 hk0 (by decide) fl_X10_9 rfl (kX10_passHour 33 rfl) rfl ?_
          refine X_iload (n := 67) 0 (kX10_passHour 34 rfl) rfl rfl ?_
          refine X_aload_n (n := 68) 3 (kX10_passHour 35 rfl) rfl rfl rfl ?_
          refine X_iload (n := 70) 0 (kX10_passHour 36 rfl) rfl rfl ?_
          refine X_aload_n (n := 71) 2 (kX10_passHour 37 rfl) rfl rfl rfl ?_
          refine X_getI (n := 74) xf_X10 hk0 (by decide) fl_X10_33 rfl (kX10_passHour 38 rfl) rfl ?_
          refine X_callV1I (n := 77) (As := [.int i4, .int (S.1 a0 0)]) (st := [.int i4, .ref (rf a0 1)]) (kX10_passHour 39 rfl) rfl (p_X2_wentTo hk1) (by decide) ml_X10_79 mf_X2_wentTo rfl hk1 xf_X2 rfl (Nat.le_of_ble_eq_true rfl) ?_
          refine X_callN1V (n := 80) (As := [.ref (rf a0 1), .int i4, .int (t_X2_wentTo a1 i4 (S.1 a0 0) S)]) (st := []) (kX10_passHour 40 rfl) rfl (p_X11_put (kt_10_1 hk0)) (by decide) nl_X10_59 mf_X11_put rfl rfl (Nat.le_of_ble_eq_true rfl) ?_
          exact X_L [0, 1, 2, 3] rfl (kJ (pat S (rf a0 1) i4 (t_X2_wentTo a1 i4 (S.1 a0 0) S)))
set_option maxHeartbeats 4000000 in
set_option maxRecDepth 100000 in
theorem w_X10_passHour_L126 {l : Launch} {g : XG} {G : (XS) → Option (XS)}  {a0 : Nat} {a1 : Nat} (hk0 : kd a0 = 10) (hk1 : kd a1 = 2) (kE : ∀ (S1 : XS), X φV l g 4 mX10_passHour 168 [(0, .ref a0)] [] S1 (G S1)) : ∀ (n : Nat) (i4 : Int32) (S : XS), X φV l g 4 mX10_passHour 126 [(4, .int i4), (0, .ref a0), (1, .ref a1)] [] S ((f_X10_passHour_L126 a0 a1 n i4 S).bind G) := by
  intro n
  induction n with
  | zero => intro i4 S; exact X_none
  | succ n ih =>
  · intro i4 S
    rw [f_X10_passHour_L126]
    refine X_iload (n := 128) 0 (kX10_passHour 63 rfl) rfl rfl ?_
    refine X_aload_n (n := 129) 1 (kX10_passHour 64 rfl) rfl rfl rfl ?_
    refine X_getI (n := 132) xf_X10 hk0 (by decide) fl_X10_37 rfl (kX10_passHour 65 rfl) rfl ?_
    refine X_itebind ?_
    refine X_ic_ge (n := 135) (tgt := 168) (kX10_passHour 66 rfl) rfl rfl (fun h7 => ?_) (fun h7 => ?_)
    · exact X_L [1] rfl (kE S)
    · refine X_aload_n (n := 136) 2 (kX10_passHour 67 rfl) rfl rfl rfl ?_
      refine X_aload_n (n := 137) 1 (kX10_passHour 68 rfl) rfl rfl rfl ?_
      refine X_getR (n := 140) xf_X10 hk0 (by decide) fl_X10_24 rfl (kX10_passHour 69 rfl) rfl ?_
      refine X_iload (n := 142) 0 (kX10_passHour 70 rfl) rfl rfl ?_
      refine X_callN1I (n := 145) (As := [.ref (rf a0 6), .int i4]) (st := [.ref a1]) (kX10_passHour 71 rfl) rfl (p_X11_at (kt_10_6 hk0)) (by decide) nl_X10_55 mf_X11_at rfl rfl (Nat.le_of_ble_eq_true rfl) ?_
      refine X_aload_n (n := 146) 1 (kX10_passHour 72 rfl) rfl rfl rfl ?_
      refine X_getI (n := 149) xf_X10 hk0 (by decide) fl_X10_33 rfl (kX10_passHour 73 rfl) rfl ?_
      refine X_assoc ?_
      refine X_callVB (n := 152) (As := [.int (gat S (rf a0 6) i4), .int (S.1 a0 0)]) (st := []) (kX10_passHour 74 rfl) rfl (w_X2_fades hk1) (by decide) ml_X10_86 mf_X2_fades rfl hk1 xf_X2 rfl (Nat.le_of_ble_eq_true rfl) (fun r8 S9 hq => ?_)
      try dsimp only
      refine X_itebind ?_
      refine X_bz (n := 155) (tgt := 162) (kX10_passHour 75 rfl) rfl rfl (fun h10 => ?_) (fun h10 => ?_)
      · refine X_aload_n (n := 156) 1 (kX10_passHour 76 rfl) rfl rfl rfl ?_
        refine X_aload_n (n := 157) 2 (kX10_passHour 77 rfl) rfl rfl rfl ?_
        refine X_iload (n := 159) 0 (kX10_passHour 78 rfl) rfl rfl ?_
        refine X_assoc ?_
        refine X_callVV (n := 162) (As := [.ref a1, .int i4]) (st := []) (kX10_passHour 79 rfl) rfl (w_X10_fadeCloth hk0 hk1) (by decide) ml_X10_90 mf_X10_fadeCloth rfl hk0 xf_X10 rfl (Nat.le_of_ble_eq_true rfl) (fun S11 hq => ?_)
        try dsimp only
        refine X_iinc (n := 165) 0 (v := (i4 + 1)) (L1 := [(4, .int (i4 + 1)), (0, .ref a0), (1, .ref a1)]) (kX10_passHour 80 rfl) rfl rfl rfl (Nat.le_of_ble_eq_true rfl) rfl ?_
        refine X_goto (tgt := 126) (kX10_passHour 81 rfl) rfl ?_
        exact X_L [0, 1, 2] rfl (ih (i4 + 1) S11)
      · refine X_iinc (n := 165) 0 (v := (i4 + 1)) (L1 := [(4, .int (i4 + 1)), (0, .ref a0), (1, .ref a1)]) (kX10_passHour 80 rfl) rfl rfl rfl (Nat.le_of_ble_eq_true rfl) rfl ?_
        refine X_goto (tgt := 126) (kX10_passHour 81 rfl) rfl ?_
        exact X_L [0, 1, 2] rfl (ih (i4 + 1) S9)
set_option maxHeartbeats 4000000 in
set_option maxRecDepth 100000 in
theorem w_X10_passHour_L180 {l : Launch} {g : XG} {G : (XS) → Option (XS)}  {i4 : Int32} {a0 : Nat} (hk0 : kd a0 = 10) (kE : ∀ (S1 : XS), X φV l g 4 mX10_passHour 201 [(4, .int i4), (0, .ref a0)] [] S1 (G S1)) : ∀ (n : Nat) (i5 : Int32) (S : XS), X φV l g 4 mX10_passHour 180 [(5, .int i5), (4, .int i4), (0, .ref a0)] [] S ((f_X10_passHour_L180 i4 a0 n i5 S).bind G) := by
  intro n
  induction n with
  | zero => intro i5 S; exact X_none
  | succ n ih =>
  · intro i5 S
    rw [f_X10_passHour_L180]
    refine X_iload (n := 182) 0 (kX10_passHour 89 rfl) rfl rfl ?_
    refine X_bipush (n := 184) (v := 6) (kX10_passHour 90 rfl) rfl (by decide) ?_
    refine X_itebind ?_
    refine X_ic_ge (n := 187) (tgt := 201) (kX10_passHour 91 rfl) rfl rfl (fun h14 => ?_) (fun h14 => ?_)
    · exact X_L [1, 2] rfl (kE S)
    · refine X_aload_n (n := 188) 2 (kX10_passHour 92 rfl) rfl rfl rfl ?_
      refine X_iload (n := 190) 1 (kX10_passHour 93 rfl) rfl rfl ?_
      refine X_iload (n := 192) 0 (kX10_passHour 94 rfl) rfl rfl ?_
      refine X_assoc ?_
      refine X_callVV (n := 195) (As := [.int i4, .int i5]) (st := []) (kX10_passHour 95 rfl) rfl (w_X10_mingle hk0) (by decide) ml_X10_94 mf_X10_mingle rfl hk0 xf_X10 rfl (Nat.le_of_ble_eq_true rfl) (fun S15 hq => ?_)
      try dsimp only
      refine X_iinc (n := 198) 0 (v := (i5 + 1)) (L1 := [(5, .int (i5 + 1)), (4, .int i4), (0, .ref a0)]) (kX10_passHour 96 rfl) rfl rfl rfl (Nat.le_of_ble_eq_true rfl) rfl ?_
      refine X_goto (tgt := 180) (kX10_passHour 97 rfl) rfl ?_
      exact X_L [0, 1, 2] rfl (ih (i5 + 1) S15)
set_option maxHeartbeats 4000000 in
set_option maxRecDepth 100000 in
theorem w_X10_passHour_L171 {l : Launch} {g : XG} {G : (XS) → Option (XS)}  {a0 : Nat} (hk0 : kd a0 = 10) (kE : ∀ (S1 : XS), X φV l g 4 mX10_passHour 207 [] [] S1 (G S1)) : ∀ (n : Nat) (i4 : Int32) (S : XS), X φV l g 4 mX10_passHour 171 [(4, .int i4), (0, .ref a0)] [] S ((f_X10_passHour_L171 a0 n i4 S).bind G) := by
  intro n
  induction n with
  | zero => intro i4 S; exact X_none
  | succ n ih =>
  · intro i4 S
    rw [f_X10_passHour_L171]
    refine X_iload (n := 173) 0 (kX10_passHour 84 rfl) rfl rfl ?_
    refine X_iconst (n := 174) (v := 3) (kX10_passHour 85 rfl) rfl (by decide) ?_
    refine X_itebind ?_
    refine X_ic_ge (n := 177) (tgt := 207) (kX10_passHour 86 rfl) rfl rfl (fun h13 => ?_) (fun h13 => ?_)
    · exact X_L [] rfl (kE S)
    · refine X_iconst (n := 178) (v := 0) (kX10_passHour 87 rfl) rfl (by decide) ?_
      refine X_istore (n := 180) (L1 := [(5, .int 0), (4, .int i4), (0, .ref a0)]) (kX10_passHour 88 rfl) rfl (Nat.le_of_ble_eq_true rfl) rfl ?_
      refine X_assoc ?_
      refine X_L [0, 1, 2] rfl (w_X10_passHour_L180 hk0 (fun S16 => ?_) 1000000 (0 : Int32) S)
      try dsimp only
      refine X_iinc (n := 204) 0 (v := (i4 + 1)) (L1 := [(4, .int (i4 + 1)), (0, .ref a0)]) (kX10_passHour 98 rfl) rfl rfl rfl (Nat.le_of_ble_eq_true rfl) rfl ?_
      refine X_goto (tgt := 171) (kX10_passHour 99 rfl) rfl ?_
      exact X_L [0, 1] rfl (ih (i4 + 1) S16)
set_option maxHeartbeats 4000000 in
set_option maxRecDepth 100000 in
theorem w_X10_passHour {l : Launch} {g : XG}  {a0 : Nat} {a1 : Nat} {b2 : Bool} {S : XS} (hk0 : kd a0 = 10) (hk1 : kd a1 = 2) : Cl φV l g 4 mX10_passHour [.ref a0, .ref a1, .int (bi b2)] S (f_X10_passHour a0 a1 b2 S) := by
  refine Cl.of (by decide +kernel) (Nat.le_of_ble_eq_true rfl) ?_
  unfold f_X10_passHour
  show X _ _ _ _ _ 0 [(0, .ref a0), (1, .ref a1), (2, .int (bi b2))] [] S _
  refine X_aload_n (n := 1) 0 (kX10_passHour 0 rfl) rfl rfl rfl ?_
  refine X_dup (n := 2) (kX10_passHour 1 rfl) rfl rfl ?_
  refine X_getI (n := 5) xf_X10 hk0 (by decide) fl_X10_33 rfl (kX10_passHour 2 rfl) rfl ?_
  refine X_iconst (n := 6) (v := 1) (kX10_passHour 3 rfl) rfl (by decide) ?_
  refine X_iadd (n := 7) (kX10_passHour 4 rfl) rfl ?_
  refine X_putI (n := 10) xf_X10 hk0 (by decide) fl_X10_33 rfl rfl (Or.inl rfl) (kX10_passHour 5 rfl) rfl ?_
  refine X_iload_n (n := 11) 2 (kX10_passHour 6 rfl) rfl rfl rfl ?_
  refine X_join 30 (fun x1 => [(0, .ref a0), (1, .ref a1)]) (fun x1 => [.int (bi x1)]) (fun x1 => (sI S a0 0 ((S.1 a0 0) + (1 : Int32)))) (fun x1 => ?_) (fun kJ => ?_)
  · try dsimp only
    refine X_istore_n (n := 31) (L1 := [(3, .int (bi x1)), (0, .ref a0), (1, .ref a1)]) (kX10_passHour 16 rfl) rfl rfl (Nat.le_of_ble_eq_true rfl) rfl ?_
    refine X_iconst (n := 32) (v := 0) (kX10_passHour 17 rfl) rfl (by decide) ?_
    refine X_istore (n := 34) (L1 := [(4, .int 0), (3, .int (bi x1)), (0, .ref a0), (1, .ref a1)]) (kX10_passHour 18 rfl) rfl (Nat.le_of_ble_eq_true rfl) rfl ?_
    refine X_L [0, 1, 2, 3] rfl (w_X10_passHour_L34 hk0 hk1 (fun S6 => ?_) 1000000 (0 : Int32) (sI S a0 0 ((S.1 a0 0) + (1 : Int32))))
    try dsimp only
    refine X_iconst (n := 124) (v := 0) (kX10_passHour 61 rfl) rfl (by decide) ?_
    refine X_istore (n := 126) (L1 := [(4, .int 0), (0, .ref a0), (1, .ref a1)]) (kX10_passHour 62 rfl) rfl (Nat.le_of_ble_eq_true rfl) rfl ?_
    refine X_L [0, 1, 2] rfl (w_X10_passHour_L126 hk0 hk1 (fun S12 => ?_) 1000000 (0 : Int32) S6)
    try dsimp only
    refine X_iconst (n := 169) (v := 0) (kX10_passHour 82 rfl) rfl (by decide) ?_
    refine X_istore (n := 171) (L1 := [(4, .int 0), (0, .ref a0)]) (kX10_passHour 83 rfl) rfl (Nat.le_of_ble_eq_true rfl) rfl ?_
    refine X_L [0, 1] rfl (w_X10_passHour_L171 hk0 (fun S17 => ?_) 1000000 (0 : Int32) S12)
    try dsimp only
    exact X_vret rfl (kX10_passHour_1 0 rfl)
  · refine X_itebind ?_
    refine X_bn (n := 14) (tgt := 25) (kX10_passHour 7 rfl) rfl rfl (fun h18 => ?_) (fun h18 => ?_)
    · refine X_iconst (n := 26) (v := 1) (kX10_passHour 13 rfl) rfl (by decide) ?_
      refine X_goto (tgt := 30) (kX10_passHour 14 rfl) rfl ?_
      exact X_L [0, 1] rfl (kJ true)
    · refine X_aload_n (n := 15) 1 (kX10_passHour 8 rfl) rfl rfl rfl ?_
      refine X_aload_n (n := 16) 0 (kX10_passHour 9 rfl) rfl rfl rfl ?_
      refine X_getI (n := 19) xf_X10 hk0 (by decide) fl_X10_33 rfl (kX10_passHour 10 rfl) rfl ?_
      refine X_callV1B (n := 22) (As := [.int ((sI S a0 0 ((S.1 a0 0) + (1 : Int32))).1 a0 0)]) (st := []) (kX10_passHour 11 rfl) rfl (p_X2_isRainTold hk1) (by decide) ml_X10_72 mf_X2_isRainTold rfl hk1 xf_X2 rfl (Nat.le_of_ble_eq_true rfl) ?_
      refine X_itebind ?_
      refine X_bz (n := 25) (tgt := 29) (kX10_passHour 12 rfl) rfl rfl (fun h19 => ?_) (fun h19 => ?_)
      · refine X_iconst (n := 26) (v := 1) (kX10_passHour 13 rfl) rfl (by decide) ?_
        refine X_goto (tgt := 30) (kX10_passHour 14 rfl) rfl ?_
        exact X_L [0, 1] rfl (kJ true)
      · refine X_iconst (n := 30) (v := 0) (kX10_passHour 15 rfl) rfl (by decide) ?_
        exact X_L [0, 1] rfl (kJ false)
def f_X1_endsInOwnCoat_L17  (a0 : Nat) (a1 : Nat) (i3 : Int32) : Nat → Int32 → XS → Option (XS)
  | 0, _, _ => none
  | n + 1, i5, S => (if (20 : Int32) ≤ i5 then some S else ((f_X1_drawWalks a0 a1 (rf a0 5) S).bind (fun q => match q with | (r2, S3) => ((f_X1_drawChange a0 a1 (rf a0 5) S3).bind (fun q => match q with | (r4, S5) => ((f_X1_drawRain a0 S5).bind (fun q => match q with | (r6, S7) => f_X1_endsInOwnCoat_L17 a0 a1 i3 n (i5 + 1) S7)))))))
def f_X1_endsInOwnCoat  (a0 : Nat) (a1 : Nat) (a2 : Nat) (i3 : Int32) (i4 : Int32) (S : XS) : Option (Bool × XS) := ((f_X1_endsInOwnCoat_L17 a0 a1 i3 1000000 (0 : Int32) (sI (t_X10_copyFrom (rf a0 5) a2 S) a0 4 i4)).bind (fun S8 => (if (gat S8 (rf (rf a0 5) 2) i3) = i3 then some (true, S8) else some (false, S8))))
set_option maxHeartbeats 4000000 in
set_option maxRecDepth 100000 in
theorem w_X1_endsInOwnCoat_L17 {l : Launch} {g : XG} {G : (XS) → Option (Bool × XS)}  {a0 : Nat} {a1 : Nat} {i3 : Int32} (hk0 : kd a0 = 1) (hk1 : kd a1 = 2) (kE : ∀ (S1 : XS), X φB l g 4 mX1_endsInOwnCoat 55 [(0, .ref a0), (3, .int i3)] [] S1 (G S1)) : ∀ (n : Nat) (i5 : Int32) (S : XS), X φB l g 4 mX1_endsInOwnCoat 17 [(5, .int i5), (0, .ref a0), (1, .ref a1), (3, .int i3)] [] S ((f_X1_endsInOwnCoat_L17 a0 a1 i3 n i5 S).bind G) := by
  intro n
  induction n with
  | zero => intro i5 S; exact X_none
  | succ n ih =>
  · intro i5 S
    rw [f_X1_endsInOwnCoat_L17]
    refine X_iload (n := 19) 0 (kX1_endsInOwnCoat 9 rfl) rfl rfl ?_
    refine X_bipush (n := 21) (v := 20) (kX1_endsInOwnCoat 10 rfl) rfl (by decide) ?_
    refine X_itebind ?_
    refine X_ic_ge (n := 24) (tgt := 55) (kX1_endsInOwnCoat 11 rfl) rfl rfl (fun h1 => ?_) (fun h1 => ?_)
    · exact X_L [1, 3] rfl (kE S)
    · refine X_aload_n (n := 25) 1 (kX1_endsInOwnCoat 12 rfl) rfl rfl rfl ?_
      refine X_aload_n (n := 26) 2 (kX1_endsInOwnCoat 13 rfl) rfl rfl rfl ?_
      refine X_aload_n (n := 27) 1 (kX1_endsInOwnCoat 14 rfl) rfl rfl rfl ?_
      refine X_getR (n := 30) xf_X1 hk0 (by decide) fl_X1_12 rfl (kX1_endsInOwnCoat 15 rfl) rfl ?_
      refine X_assoc ?_
      refine X_callVI (n := 33) (As := [.ref a1, .ref (rf a0 5)]) (st := []) (kX1_endsInOwnCoat 16 rfl) rfl (w_X1_drawWalks hk0 hk1 (kt_1_5 hk0)) (by decide) ml_X1_35 mf_X1_drawWalks rfl hk0 xf_X1 rfl (Nat.le_of_ble_eq_true rfl) (fun r2 S3 hq => ?_)
      try dsimp only
      refine X_pop (n := 34) (kX1_endsInOwnCoat 17 rfl) rfl rfl ?_
      refine X_aload_n (n := 35) 1 (kX1_endsInOwnCoat 18 rfl) rfl rfl rfl ?_
      refine X_aload_n (n := 36) 2 (kX1_endsInOwnCoat 19 rfl) rfl rfl rfl ?_
      refine X_aload_n (n := 37) 1 (kX1_endsInOwnCoat 20 rfl) rfl rfl rfl ?_
      refine X_getR (n := 40) xf_X1 hk0 (by decide) fl_X1_12 rfl (kX1_endsInOwnCoat 21 rfl) rfl ?_
      refine X_assoc ?_
      refine X_callVI (n := 43) (As := [.ref a1, .ref (rf a0 5)]) (st := []) (kX1_endsInOwnCoat 22 rfl) rfl (w_X1_drawChange hk0 hk1 (kt_1_5 hk0)) (by decide) ml_X1_39 mf_X1_drawChange rfl hk0 xf_X1 rfl (Nat.le_of_ble_eq_true rfl) (fun r4 S5 hq => ?_)
      try dsimp only
      refine X_pop (n := 44) (kX1_endsInOwnCoat 23 rfl) rfl rfl ?_
      refine X_aload_n (n := 45) 1 (kX1_endsInOwnCoat 24 rfl) rfl rfl rfl ?_
      refine X_assoc ?_
      refine X_callVI (n := 48) (As := []) (st := []) (kX1_endsInOwnCoat 25 rfl) rfl (w_X1_drawRain hk0) (by decide) ml_X1_42 mf_X1_drawRain rfl hk0 xf_X1 rfl (Nat.le_of_ble_eq_true rfl) (fun r6 S7 hq => ?_)
      try dsimp only
      refine X_pop (n := 49) (kX1_endsInOwnCoat 26 rfl) rfl rfl ?_
      refine X_iinc (n := 52) 0 (v := (i5 + 1)) (L1 := [(5, .int (i5 + 1)), (0, .ref a0), (1, .ref a1), (3, .int i3)]) (kX1_endsInOwnCoat 27 rfl) rfl rfl rfl (Nat.le_of_ble_eq_true rfl) rfl ?_
      refine X_goto (tgt := 17) (kX1_endsInOwnCoat 28 rfl) rfl ?_
      exact X_L [0, 1, 2, 3] rfl (ih (i5 + 1) S7)
set_option maxHeartbeats 4000000 in
set_option maxRecDepth 100000 in
theorem w_X1_endsInOwnCoat {l : Launch} {g : XG}  {a0 : Nat} {a1 : Nat} {a2 : Nat} {i3 : Int32} {i4 : Int32} {S : XS} (hk0 : kd a0 = 1) (hk1 : kd a1 = 2) (hk2 : kd a2 = 10) : Cl φB l g 4 mX1_endsInOwnCoat [.ref a0, .ref a1, .ref a2, .int i3, .int i4] S (f_X1_endsInOwnCoat a0 a1 a2 i3 i4 S) := by
  refine Cl.of (by decide +kernel) (Nat.le_of_ble_eq_true rfl) ?_
  unfold f_X1_endsInOwnCoat
  show X _ _ _ _ _ 0 [(0, .ref a0), (1, .ref a1), (2, .ref a2), (3, .int i3), (4, .int i4)] [] S _
  refine X_aload_n (n := 1) 0 (kX1_endsInOwnCoat 0 rfl) rfl rfl rfl ?_
  refine X_getR (n := 4) xf_X1 hk0 (by decide) fl_X1_12 rfl (kX1_endsInOwnCoat 1 rfl) rfl ?_
  refine X_aload_n (n := 5) 2 (kX1_endsInOwnCoat 2 rfl) rfl rfl rfl ?_
  refine X_callV1V (n := 8) (As := [.ref a2]) (st := []) (kX1_endsInOwnCoat 3 rfl) rfl (p_X10_copyFrom (kt_1_5 hk0) hk2) (by decide) ml_X1_50 mf_X10_copyFrom rfl (kt_1_5 hk0) xf_X10 rfl (Nat.le_of_ble_eq_true rfl) ?_
  refine X_aload_n (n := 9) 0 (kX1_endsInOwnCoat 4 rfl) rfl rfl rfl ?_
  refine X_iload (n := 11) 4 (kX1_endsInOwnCoat 5 rfl) rfl rfl ?_
  refine X_putI (n := 14) xf_X1 hk0 (by decide) fl_X1_32 rfl rfl (Or.inl rfl) (kX1_endsInOwnCoat 6 rfl) rfl ?_
  refine X_iconst (n := 15) (v := 0) (kX1_endsInOwnCoat 7 rfl) rfl (by decide) ?_
  refine X_istore (n := 17) (L1 := [(5, .int 0), (0, .ref a0), (1, .ref a1), (2, .ref a2), (3, .int i3), (4, .int i4)]) (kX1_endsInOwnCoat 8 rfl) rfl (Nat.le_of_ble_eq_true rfl) rfl ?_
  refine X_L [0, 1, 2, 4] rfl (w_X1_endsInOwnCoat_L17 hk0 hk1 (fun S8 => ?_) 1000000 (0 : Int32) (sI (t_X10_copyFrom (rf a0 5) a2 S) a0 4 i4))
  try dsimp only
  refine X_aload_n (n := 56) 0 (kX1_endsInOwnCoat 29 rfl) rfl rfl rfl ?_
  refine X_getR (n := 59) xf_X1 hk0 (by decide) fl_X1_12 rfl (kX1_endsInOwnCoat 30 rfl) rfl ?_
  refine X_getR (n := 62) xf_X10 (kt_1_5 hk0) (by decide) fl_X1_54 rfl (kX1_endsInOwnCoat 31 rfl) rfl ?_
  refine X_iload_n (n := 63) 1 (kX1_endsInOwnCoat 32 rfl) rfl rfl rfl ?_
  refine X_callN1I (n := 66) (As := [.ref (rf (rf a0 5) 2), .int i3]) (st := []) (kX1_endsInOwnCoat 33 rfl) rfl (p_X11_at (kt_10_2 (kt_1_5 hk0))) (by decide) nl_X1_58 mf_X11_at rfl rfl (Nat.le_of_ble_eq_true rfl) ?_
  refine X_iload_n (n := 67) 1 (kX1_endsInOwnCoat 34 rfl) rfl rfl rfl ?_
  refine X_ic_ne (n := 70) (tgt := 74) (kX1_endsInOwnCoat 35 rfl) rfl rfl (fun h9 => ?_) (fun h9 => ?_)
  · refine X_iconst (n := 71) (v := 1) (kX1_endsInOwnCoat 36 rfl) rfl (by decide) ?_
    refine X_goto (tgt := 75) (kX1_endsInOwnCoat 37 rfl) rfl ?_
    exact X_zret (b := true) rfl (kX1_endsInOwnCoat 39 rfl)
  · refine X_iconst (n := 75) (v := 0) (kX1_endsInOwnCoat 38 rfl) rfl (by decide) ?_
    exact X_zret (b := false) rfl (kX1_endsInOwnCoat 39 rfl)
def f_X8_readToken_L2  (a0 : Nat) (i2 : Int32) : Nat → Int32 → XS → Option (Int32)
  | 0, _, _ => none
  | n + 1, i3, S => (if (S.1 a0 1) ≤ i3 then some i3 else (if (t_X8_isBlank (gat S (rf a0 0) i3)) = true then f_X8_readToken_L2 a0 i2 n (i3 + 1) S else some i3))
def f_X8_readToken  (a0 : Nat) (i1 : Int32) (i2 : Int32) (S : XS) : Option (Int32 × XS) := ((f_X8_readToken_L2 a0 i2 1000000 i1 S).bind (fun e3 => (if (S.1 a0 1) ≤ i2 then (if e3 < (S.1 a0 1) then (if (t_X8_isLetter (gat S (rf a0 0) e3)) = true then ((f_X8_readRun a0 e3 S).bind (fun q => match q with | (r7, S8) => some (r7, S8))) else (if (t_X8_isDigit (gat S (rf a0 0) e3)) = true then ((f_X8_readRun a0 e3 S).bind (fun q => match q with | (r10, S11) => some (r10, S11))) else ((if (t_X8_isSign (gat S (rf a0 0) e3)) = true then some (gat S (rf a0 0) e3) else some (1 : Int32)).bind (fun x12 => ((f_X8_addToken a0 x12 e3 0 S).bind (fun S13 => some ((e3 + (1 : Int32)), S13))))))) else ((f_X8_addToken a0 (0 : Int32) e3 0 S).bind (fun S15 => some ((e3 + (1 : Int32)), S15)))) else (if e3 < i2 then (if e3 < (S.1 a0 1) then (if (t_X8_isLetter (gat S (rf a0 0) e3)) = true then ((f_X8_readRun a0 e3 S).bind (fun q => match q with | (r19, S20) => some (r19, S20))) else (if (t_X8_isDigit (gat S (rf a0 0) e3)) = true then ((f_X8_readRun a0 e3 S).bind (fun q => match q with | (r22, S23) => some (r22, S23))) else ((if (t_X8_isSign (gat S (rf a0 0) e3)) = true then some (gat S (rf a0 0) e3) else some (1 : Int32)).bind (fun x24 => ((f_X8_addToken a0 x24 e3 0 S).bind (fun S25 => some ((e3 + (1 : Int32)), S25))))))) else ((f_X8_addToken a0 (0 : Int32) e3 0 S).bind (fun S27 => some ((e3 + (1 : Int32)), S27)))) else ((f_X8_addToken a0 (1 : Int32) i2 0 S).bind (fun S28 => some ((e3 + (1 : Int32)), S28)))))))
set_option maxHeartbeats 4000000 in
set_option maxRecDepth 100000 in
theorem w_X8_readToken_L2 {l : Launch} {g : XG} {G : (Int32) → Option (Int32 × XS)}  {a0 : Nat} {i2 : Int32} (hk0 : kd a0 = 8) {S : XS} (kE : ∀ (e3 : Int32), X φI l g 4 mX8_readToken 30 [(3, .int e3), (0, .ref a0), (2, .int i2)] [] S (G e3)) : ∀ (n : Nat) (i3 : Int32), X φI l g 4 mX8_readToken 2 [(3, .int i3), (0, .ref a0), (2, .int i2)] [] S ((f_X8_readToken_L2 a0 i2 n i3 S).bind G) := by
  intro n
  induction n with
  | zero => intro i3; exact X_none
  | succ n ih =>
  · intro i3
    rw [f_X8_readToken_L2]
    refine X_iload_n (n := 3) 0 (kX8_readToken 2 rfl) rfl rfl rfl ?_
    refine X_aload_n (n := 4) 1 (kX8_readToken 3 rfl) rfl rfl rfl ?_
    refine X_getI (n := 7) xf_X8 hk0 (by decide) fl_X8_40 rfl (kX8_readToken 4 rfl) rfl ?_
    refine X_itebind ?_
    refine X_ic_ge (n := 10) (tgt := 30) (kX8_readToken 5 rfl) rfl rfl (fun h1 => ?_) (fun h1 => ?_)
    · exact X_L [0, 1, 2] rfl (kE i3)
    · refine X_aload_n (n := 11) 1 (kX8_readToken 6 rfl) rfl rfl rfl ?_
      refine X_getR (n := 14) xf_X8 hk0 (by decide) fl_X8_9 rfl (kX8_readToken 7 rfl) rfl ?_
      refine X_iload_n (n := 15) 0 (kX8_readToken 8 rfl) rfl rfl rfl ?_
      refine X_callN1I (n := 18) (As := [.ref (rf a0 0), .int i3]) (st := []) (kX8_readToken 9 rfl) rfl (p_X11_at (kt_8_0 hk0)) (by decide) nl_X8_65 mf_X11_at rfl rfl (Nat.le_of_ble_eq_true rfl) ?_
      refine X_callS1B (n := 21) (As := [.int (gat S (rf a0 0) i3)]) (st := []) (kX8_readToken 10 rfl) rfl p_X8_isBlank (by decide) ml_X8_75 mf_X8_isBlank rfl rfl (Nat.le_of_ble_eq_true rfl) ?_
      refine X_itebind ?_
      refine X_bz (n := 24) (tgt := 30) (kX8_readToken 11 rfl) rfl rfl (fun h2 => ?_) (fun h2 => ?_)
      · refine X_iinc (n := 27) 0 (v := (i3 + 1)) (L1 := [(3, .int (i3 + 1)), (0, .ref a0), (2, .int i2)]) (kX8_readToken 12 rfl) rfl rfl rfl (Nat.le_of_ble_eq_true rfl) rfl ?_
        refine X_goto (tgt := 2) (kX8_readToken 13 rfl) rfl ?_
        exact X_L [0, 1, 2] rfl (ih (i3 + 1))
      · exact X_L [0, 1, 2] rfl (kE i3)
set_option maxHeartbeats 4000000 in
set_option maxRecDepth 100000 in
theorem w_X8_readToken {l : Launch} {g : XG}  {a0 : Nat} {i1 : Int32} {i2 : Int32} {S : XS} (hk0 : kd a0 = 8) : Cl φI l g 4 mX8_readToken [.ref a0, .int i1, .int i2] S (f_X8_readToken a0 i1 i2 S) := by
  refine Cl.of (by decide +kernel) (Nat.le_of_ble_eq_true rfl) ?_
  unfold f_X8_readToken
  show X _ _ _ _ _ 0 [(0, .ref a0), (1, .int i1), (2, .int i2)] [] S _
  refine X_iload_n (n := 1) 1 (kX8_readToken 0 rfl) rfl rfl rfl ?_
  refine X_istore_n (n := 2) (L1 := [(3, .int i1), (0, .ref a0), (1, .int i1), (2, .int i2)]) (kX8_readToken 1 rfl) rfl rfl (Nat.le_of_ble_eq_true rfl) rfl ?_
  refine X_L [0, 1, 3] rfl (w_X8_readToken_L2 hk0 (fun e3 => ?_) 1000000 i1)
  try dsimp only
  refine X_aload_n (n := 31) 1 (kX8_readToken 14 rfl) rfl rfl rfl ?_
  refine X_getR (n := 34) xf_X8 hk0 (by decide) fl_X8_9 rfl (kX8_readToken 15 rfl) rfl ?_
  refine X_iload_n (n := 35) 0 (kX8_readToken 16 rfl) rfl rfl rfl ?_
  refine X_callN1I (n := 38) (As := [.ref (rf a0 0), .int e3]) (st := []) (kX8_readToken 17 rfl) rfl (p_X11_at (kt_8_0 hk0)) (by decide) nl_X8_65 mf_X11_at rfl rfl (Nat.le_of_ble_eq_true rfl) ?_
  refine X_istore (n := 40) (L1 := [(4, .int (gat S (rf a0 0) e3)), (3, .int e3), (0, .ref a0), (2, .int i2)]) (kX8_readToken 18 rfl) rfl (Nat.le_of_ble_eq_true rfl) rfl ?_
  refine X_aload_n (n := 41) 2 (kX8_readToken 19 rfl) rfl rfl rfl ?_
  refine X_getI (n := 44) xf_X8 hk0 (by decide) fl_X8_40 rfl (kX8_readToken 20 rfl) rfl ?_
  refine X_iload_n (n := 45) 3 (kX8_readToken 21 rfl) rfl rfl rfl ?_
  refine X_ic_le (n := 48) (tgt := 63) (kX8_readToken 22 rfl) rfl rfl (fun h4 => ?_) (fun h4 => ?_)
  · refine X_iload_n (n := 64) 1 (kX8_readToken 32 rfl) rfl rfl rfl ?_
    refine X_aload_n (n := 65) 2 (kX8_readToken 33 rfl) rfl rfl rfl ?_
    refine X_getI (n := 68) xf_X8 hk0 (by decide) fl_X8_40 rfl (kX8_readToken 34 rfl) rfl ?_
    refine X_ic_lt (n := 71) (tgt := 81) (kX8_readToken 35 rfl) rfl rfl (fun h5 => ?_) (fun h5 => ?_)
    · refine X_iload (n := 83) 0 (kX8_readToken 42 rfl) rfl rfl ?_
      refine X_callS1B (n := 86) (As := [.int (gat S (rf a0 0) e3)]) (st := []) (kX8_readToken 43 rfl) rfl p_X8_isLetter (by decide) ml_X8_83 mf_X8_isLetter rfl rfl (Nat.le_of_ble_eq_true rfl) ?_
      refine X_bn (n := 89) (tgt := 97) (kX8_readToken 44 rfl) rfl rfl (fun h6 => ?_) (fun h6 => ?_)
      · refine X_aload_n (n := 98) 2 (kX8_readToken 48 rfl) rfl rfl rfl ?_
        refine X_iload_n (n := 99) 1 (kX8_readToken 49 rfl) rfl rfl rfl ?_
        refine X_callVI (n := 102) (As := [.int e3]) (st := []) (kX8_readToken 50 rfl) rfl (w_X8_readRun hk0) (by decide) ml_X8_89 mf_X8_readRun rfl hk0 xf_X8 rfl (Nat.le_of_ble_eq_true rfl) (fun r7 S8 hq => ?_)
        try dsimp only
        exact X_iret rfl (kX8_readToken 51 rfl)
      · refine X_iload (n := 91) 0 (kX8_readToken 45 rfl) rfl rfl ?_
        refine X_callS1B (n := 94) (As := [.int (gat S (rf a0 0) e3)]) (st := []) (kX8_readToken 46 rfl) rfl p_X8_isDigit (by decide) ml_X8_86 mf_X8_isDigit rfl rfl (Nat.le_of_ble_eq_true rfl) ?_
        refine X_bz (n := 97) (tgt := 103) (kX8_readToken 47 rfl) rfl rfl (fun h9 => ?_) (fun h9 => ?_)
        · refine X_aload_n (n := 98) 2 (kX8_readToken 48 rfl) rfl rfl rfl ?_
          refine X_iload_n (n := 99) 1 (kX8_readToken 49 rfl) rfl rfl rfl ?_
          refine X_callVI (n := 102) (As := [.int e3]) (st := []) (kX8_readToken 50 rfl) rfl (w_X8_readRun hk0) (by decide) ml_X8_89 mf_X8_readRun rfl hk0 xf_X8 rfl (Nat.le_of_ble_eq_true rfl) (fun r10 S11 hq => ?_)
          try dsimp only
          exact X_iret rfl (kX8_readToken 51 rfl)
        · refine X_aload_n (n := 104) 2 (kX8_readToken 52 rfl) rfl rfl rfl ?_
          refine X_iload (n := 106) 0 (kX8_readToken 53 rfl) rfl rfl ?_
          refine X_callS1B (n := 109) (As := [.int (gat S (rf a0 0) e3)]) (st := [.ref a0]) (kX8_readToken 54 rfl) rfl p_X8_isSign (by decide) ml_X8_93 mf_X8_isSign rfl rfl (Nat.le_of_ble_eq_true rfl) ?_
          refine X_join 118 (fun x12 => [(3, .int e3)]) (fun x12 => [.int x12, .ref a0]) (fun x12 => S) (fun x12 => ?_) (fun kJ => ?_)
          · try dsimp only
            refine X_iload_n (n := 119) 0 (kX8_readToken 59 rfl) rfl rfl rfl ?_
            refine X_lconst (n := 120) (v := 0) (kX8_readToken 60 rfl) rfl (by decide) ?_
            refine X_callVV (n := 123) (As := [.int x12, .int e3, .long 0]) (st := []) (kX8_readToken 61 rfl) rfl (w_X8_addToken hk0) (by decide) ml_X8_79 mf_X8_addToken rfl hk0 xf_X8 rfl (Nat.le_of_ble_eq_true rfl) (fun S13 hq => ?_)
            try dsimp only
            refine X_iload_n (n := 124) 0 (kX8_readToken 62 rfl) rfl rfl rfl ?_
            refine X_iconst (n := 125) (v := 1) (kX8_readToken 63 rfl) rfl (by decide) ?_
            refine X_iadd (n := 126) (kX8_readToken 64 rfl) rfl ?_
            exact X_iret rfl (kX8_readToken 65 rfl)
          · refine X_itebind ?_
            refine X_bz (n := 112) (tgt := 117) (kX8_readToken 55 rfl) rfl rfl (fun h14 => ?_) (fun h14 => ?_)
            · refine X_iload (n := 114) 0 (kX8_readToken 56 rfl) rfl rfl ?_
              refine X_goto (tgt := 118) (kX8_readToken 57 rfl) rfl ?_
              exact X_L [1] rfl (kJ (gat S (rf a0 0) e3))
            · refine X_iconst (n := 118) (v := 1) (kX8_readToken 58 rfl) rfl (by decide) ?_
              exact X_L [1] rfl (kJ (1 : Int32))
    · refine X_aload_n (n := 72) 2 (kX8_readToken 36 rfl) rfl rfl rfl ?_
      refine X_iconst (n := 73) (v := 0) (kX8_readToken 37 rfl) rfl (by decide) ?_
      refine X_iload_n (n := 74) 1 (kX8_readToken 38 rfl) rfl rfl rfl ?_
      refine X_lconst (n := 75) (v := 0) (kX8_readToken 39 rfl) rfl (by decide) ?_
      refine X_callVV (n := 78) (As := [.int (0 : Int32), .int e3, .long 0]) (st := []) (kX8_readToken 40 rfl) rfl (w_X8_addToken hk0) (by decide) ml_X8_79 mf_X8_addToken rfl hk0 xf_X8 rfl (Nat.le_of_ble_eq_true rfl) (fun S15 hq => ?_)
      try dsimp only
      refine X_goto (tgt := 123) (kX8_readToken 41 rfl) rfl ?_
      refine X_iload_n (n := 124) 1 (kX8_readToken 62 rfl) rfl rfl rfl ?_
      refine X_iconst (n := 125) (v := 1) (kX8_readToken 63 rfl) rfl (by decide) ?_
      refine X_iadd (n := 126) (kX8_readToken 64 rfl) rfl ?_
      exact X_iret rfl (kX8_readToken 65 rfl)
  · refine X_iload_n (n := 49) 1 (kX8_readToken 23 rfl) rfl rfl rfl ?_
    refine X_iload_n (n := 50) 3 (kX8_readToken 24 rfl) rfl rfl rfl ?_
    refine X_ic_lt (n := 53) (tgt := 63) (kX8_readToken 25 rfl) rfl rfl (fun h16 => ?_) (fun h16 => ?_)
    · refine X_iload_n (n := 64) 1 (kX8_readToken 32 rfl) rfl rfl rfl ?_
      refine X_aload_n (n := 65) 2 (kX8_readToken 33 rfl) rfl rfl rfl ?_
      refine X_getI (n := 68) xf_X8 hk0 (by decide) fl_X8_40 rfl (kX8_readToken 34 rfl) rfl ?_
      refine X_ic_lt (n := 71) (tgt := 81) (kX8_readToken 35 rfl) rfl rfl (fun h17 => ?_) (fun h17 => ?_)
      · refine X_iload (n := 83) 0 (kX8_readToken 42 rfl) rfl rfl ?_
        refine X_callS1B (n := 86) (As := [.int (gat S (rf a0 0) e3)]) (st := []) (kX8_readToken 43 rfl) rfl p_X8_isLetter (by decide) ml_X8_83 mf_X8_isLetter rfl rfl (Nat.le_of_ble_eq_true rfl) ?_
        refine X_bn (n := 89) (tgt := 97) (kX8_readToken 44 rfl) rfl rfl (fun h18 => ?_) (fun h18 => ?_)
        · refine X_aload_n (n := 98) 2 (kX8_readToken 48 rfl) rfl rfl rfl ?_
          refine X_iload_n (n := 99) 1 (kX8_readToken 49 rfl) rfl rfl rfl ?_
          refine X_callVI (n := 102) (As := [.int e3]) (st := []) (kX8_readToken 50 rfl) rfl (w_X8_readRun hk0) (by decide) ml_X8_89 mf_X8_readRun rfl hk0 xf_X8 rfl (Nat.le_of_ble_eq_true rfl) (fun r19 S20 hq => ?_)
          try dsimp only
          exact X_iret rfl (kX8_readToken 51 rfl)
        · refine X_iload (n := 91) 0 (kX8_readToken 45 rfl) rfl rfl ?_
          refine X_callS1B (n := 94) (As := [.int (gat S (rf a0 0) e3)]) (st := []) (kX8_readToken 46 rfl) rfl p_X8_isDigit (by decide) ml_X8_86 mf_X8_isDigit rfl rfl (Nat.le_of_ble_eq_true rfl) ?_
          refine X_bz (n := 97) (tgt := 103) (kX8_readToken 47 rfl) rfl rfl (fun h21 => ?_) (fun h21 => ?_)
          · refine X_aload_n (n := 98) 2 (kX8_readToken 48 rfl) rfl rfl rfl ?_
            refine X_iload_n (n := 99) 1 (kX8_readToken 49 rfl) rfl rfl rfl ?_
            refine X_callVI (n := 102) (As := [.int e3]) (st := []) (kX8_readToken 50 rfl) rfl (w_X8_readRun hk0) (by decide) ml_X8_89 mf_X8_readRun rfl hk0 xf_X8 rfl (Nat.le_of_ble_eq_true rfl) (fun r22 S23 hq => ?_)
            try dsimp only
            exact X_iret rfl (kX8_readToken 51 rfl)
          · refine X_aload_n (n := 104) 2 (kX8_readToken 52 rfl) rfl rfl rfl ?_
            refine X_iload (n := 106) 0 (kX8_readToken 53 rfl) rfl rfl ?_
            refine X_callS1B (n := 109) (As := [.int (gat S (rf a0 0) e3)]) (st := [.ref a0]) (kX8_readToken 54 rfl) rfl p_X8_isSign (by decide) ml_X8_93 mf_X8_isSign rfl rfl (Nat.le_of_ble_eq_true rfl) ?_
            refine X_join 118 (fun x24 => [(3, .int e3)]) (fun x24 => [.int x24, .ref a0]) (fun x24 => S) (fun x24 => ?_) (fun kJ => ?_)
            · try dsimp only
              refine X_iload_n (n := 119) 0 (kX8_readToken 59 rfl) rfl rfl rfl ?_
              refine X_lconst (n := 120) (v := 0) (kX8_readToken 60 rfl) rfl (by decide) ?_
              refine X_callVV (n := 123) (As := [.int x24, .int e3, .long 0]) (st := []) (kX8_readToken 61 rfl) rfl (w_X8_addToken hk0) (by decide) ml_X8_79 mf_X8_addToken rfl hk0 xf_X8 rfl (Nat.le_of_ble_eq_true rfl) (fun S25 hq => ?_)
              try dsimp only
              refine X_iload_n (n := 124) 0 (kX8_readToken 62 rfl) rfl rfl rfl ?_
              refine X_iconst (n := 125) (v := 1) (kX8_readToken 63 rfl) rfl (by decide) ?_
              refine X_iadd (n := 126) (kX8_readToken 64 rfl) rfl ?_
              exact X_iret rfl (kX8_readToken 65 rfl)
            · refine X_itebind ?_
              refine X_bz (n := 112) (tgt := 117) (kX8_readToken 55 rfl) rfl rfl (fun h26 => ?_) (fun h26 => ?_)
              · refine X_iload (n := 114) 0 (kX8_readToken 56 rfl) rfl rfl ?_
                refine X_goto (tgt := 118) (kX8_readToken 57 rfl) rfl ?_
                exact X_L [1] rfl (kJ (gat S (rf a0 0) e3))
              · refine X_iconst (n := 118) (v := 1) (kX8_readToken 58 rfl) rfl (by decide) ?_
                exact X_L [1] rfl (kJ (1 : Int32))
      · refine X_aload_n (n := 72) 2 (kX8_readToken 36 rfl) rfl rfl rfl ?_
        refine X_iconst (n := 73) (v := 0) (kX8_readToken 37 rfl) rfl (by decide) ?_
        refine X_iload_n (n := 74) 1 (kX8_readToken 38 rfl) rfl rfl rfl ?_
        refine X_lconst (n := 75) (v := 0) (kX8_readToken 39 rfl) rfl (by decide) ?_
        refine X_callVV (n := 78) (As := [.int (0 : Int32), .int e3, .long 0]) (st := []) (kX8_readToken 40 rfl) rfl (w_X8_addToken hk0) (by decide) ml_X8_79 mf_X8_addToken rfl hk0 xf_X8 rfl (Nat.le_of_ble_eq_true rfl) (fun S27 hq => ?_)
        try dsimp only
        refine X_goto (tgt := 123) (kX8_readToken 41 rfl) rfl ?_
        refine X_iload_n (n := 124) 1 (kX8_readToken 62 rfl) rfl rfl rfl ?_
        refine X_iconst (n := 125) (v := 1) (kX8_readToken 63 rfl) rfl (by decide) ?_
        refine X_iadd (n := 126) (kX8_readToken 64 rfl) rfl ?_
        exact X_iret rfl (kX8_readToken 65 rfl)
    · refine X_aload_n (n := 54) 2 (kX8_readToken 26 rfl) rfl rfl rfl ?_
      refine X_iconst (n := 55) (v := 1) (kX8_readToken 27 rfl) rfl (by decide) ?_
      refine X_iload_n (n := 56) 3 (kX8_readToken 28 rfl) rfl rfl rfl ?_
      refine X_lconst (n := 57) (v := 0) (kX8_readToken 29 rfl) rfl (by decide) ?_
      refine X_callVV (n := 60) (As := [.int (1 : Int32), .int i2, .long 0]) (st := []) (kX8_readToken 30 rfl) rfl (w_X8_addToken hk0) (by decide) ml_X8_79 mf_X8_addToken rfl hk0 xf_X8 rfl (Nat.le_of_ble_eq_true rfl) (fun S28 hq => ?_)
      try dsimp only
      refine X_goto (tgt := 123) (kX8_readToken 31 rfl) rfl ?_
      refine X_iload_n (n := 124) 1 (kX8_readToken 62 rfl) rfl rfl rfl ?_
      refine X_iconst (n := 125) (v := 1) (kX8_readToken 63 rfl) rfl (by decide) ?_
      refine X_iadd (n := 126) (kX8_readToken 64 rfl) rfl ?_
      exact X_iret rfl (kX8_readToken 65 rfl)
def f_X3_readScent  (a0 : Nat) (S : XS) : Option (Bool × XS) := ((f_X8_takeNew (rf a0 0) (rf a0 1) (0 : Int32) S).bind (fun q => match q with | (r1, S2) => (if r1 = true then ((f_X8_takeNumber (rf a0 0) (0 : Int32) (9 : Int32) S2).bind (fun q => match q with | (r4, S5) => (if r4 = true then some (true, (pat S5 (rf (rf a0 1) 2) (S2.1 (rf a0 0) 11) (S5.1 (rf a0 0) 11))) else some (false, S5)))) else some (false, S2))))
set_option maxHeartbeats 4000000 in
set_option maxRecDepth 100000 in
theorem w_X3_readScent {l : Launch} {g : XG}  {a0 : Nat} {S : XS} (hk0 : kd a0 = 3) : Cl φB l g 4 mX3_readScent [.ref a0] S (f_X3_readScent a0 S) := by
  refine Cl.of (by decide +kernel) (Nat.le_of_ble_eq_true rfl) ?_
  unfold f_X3_readScent
  show X _ _ _ _ _ 0 [(0, .ref a0)] [] S _
  refine X_aload_n (n := 1) 0 (kX3_readScent 0 rfl) rfl rfl rfl ?_
  refine X_getR (n := 4) xf_X3 hk0 (by decide) fl_X3_25 rfl (kX3_readScent 1 rfl) rfl ?_
  refine X_aload_n (n := 5) 0 (kX3_readScent 2 rfl) rfl rfl rfl ?_
  refine X_getR (n := 8) xf_X3 hk0 (by decide) fl_X3_12 rfl (kX3_readScent 3 rfl) rfl ?_
  refine X_iconst (n := 9) (v := 0) (kX3_readScent 4 rfl) rfl (by decide) ?_
  refine X_callVB (n := 12) (As := [.ref (rf a0 1), .int (0 : Int32)]) (st := []) (kX3_readScent 5 rfl) rfl (w_X8_takeNew (kt_3_0 hk0) (kt_3_1 hk0)) (by decide) ml_X3_90 mf_X8_takeNew rfl (kt_3_0 hk0) xf_X8 rfl (Nat.le_of_ble_eq_true rfl) (fun r1 S2 hq => ?_)
  try dsimp only
  refine X_bn (n := 15) (tgt := 17) (kX3_readScent 6 rfl) rfl rfl (fun h3 => ?_) (fun h3 => ?_)
  · refine X_aload_n (n := 18) 0 (kX3_readScent 9 rfl) rfl rfl rfl ?_
    refine X_getR (n := 21) xf_X3 hk0 (by decide) fl_X3_25 rfl (kX3_readScent 10 rfl) rfl ?_
    refine X_getI (n := 24) xf_X8 (kt_3_0 hk0) (by decide) fl_X3_94 rfl (kX3_readScent 11 rfl) rfl ?_
    refine X_istore_n (n := 25) (L1 := [(1, .int (S2.1 (rf a0 0) 11)), (0, .ref a0)]) (kX3_readScent 12 rfl) rfl rfl (Nat.le_of_ble_eq_true rfl) rfl ?_
    refine X_aload_n (n := 26) 1 (kX3_readScent 13 rfl) rfl rfl rfl ?_
    refine X_getR (n := 29) xf_X3 hk0 (by decide) fl_X3_25 rfl (kX3_readScent 14 rfl) rfl ?_
    refine X_iconst (n := 30) (v := 0) (kX3_readScent 15 rfl) rfl (by decide) ?_
    refine X_bipush (n := 32) (v := 9) (kX3_readScent 16 rfl) rfl (by decide) ?_
    refine X_callVB (n := 35) (As := [.int (0 : Int32), .int (9 : Int32)]) (st := []) (kX3_readScent 17 rfl) rfl (w_X8_takeNumber (kt_3_0 hk0)) (by decide) ml_X3_97 mf_X8_takeNumber rfl (kt_3_0 hk0) xf_X8 rfl (Nat.le_of_ble_eq_true rfl) (fun r4 S5 hq => ?_)
    try dsimp only
    refine X_bn (n := 38) (tgt := 40) (kX3_readScent 18 rfl) rfl rfl (fun h6 => ?_) (fun h6 => ?_)
    · refine X_aload_n (n := 41) 1 (kX3_readScent 21 rfl) rfl rfl rfl ?_
      refine X_getR (n := 44) xf_X3 hk0 (by decide) fl_X3_12 rfl (kX3_readScent 22 rfl) rfl ?_
      refine X_getR (n := 47) xf_X2 (kt_3_1 hk0) (by decide) fl_X3_101 rfl (kX3_readScent 23 rfl) rfl ?_
      refine X_iload_n (n := 48) 0 (kX3_readScent 24 rfl) rfl rfl rfl ?_
      refine X_aload_n (n := 49) 1 (kX3_readScent 25 rfl) rfl rfl rfl ?_
      refine X_getR (n := 52) xf_X3 hk0 (by decide) fl_X3_25 rfl (kX3_readScent 26 rfl) rfl ?_
      refine X_getI (n := 55) xf_X8 (kt_3_0 hk0) (by decide) fl_X3_94 rfl (kX3_readScent 27 rfl) rfl ?_
      refine X_callN1V (n := 58) (As := [.ref (rf (rf a0 1) 2), .int (S2.1 (rf a0 0) 11), .int (S5.1 (rf a0 0) 11)]) (st := []) (kX3_readScent 28 rfl) rfl (p_X11_put (kt_2_2 (kt_3_1 hk0))) (by decide) nl_X3_104 mf_X11_put rfl rfl (Nat.le_of_ble_eq_true rfl) ?_
      refine X_iconst (n := 59) (v := 1) (kX3_readScent 29 rfl) rfl (by decide) ?_
      exact X_zret (b := true) rfl (kX3_readScent 30 rfl)
    · refine X_iconst (n := 39) (v := 0) (kX3_readScent 19 rfl) rfl (by decide) ?_
      exact X_zret (b := false) rfl (kX3_readScent 20 rfl)
  · refine X_iconst (n := 16) (v := 0) (kX3_readScent 7 rfl) rfl (by decide) ?_
    exact X_zret (b := false) rfl (kX3_readScent 8 rfl)
def f_X3_readSmell  (a0 : Nat) (i1 : Int32) (S : XS) : Option (Bool × XS) := ((f_X8_takeTold (rf a0 0) (rf a0 1) (0 : Int32) S).bind (fun q => match q with | (r1, S2) => (if r1 = true then (if (gat S2 (rf a0 2) ((i1 * (6 : Int32)) + (S2.1 (rf a0 0) 11))) = 0 then ((f_X8_takeNumber (rf a0 0) (1 : Int32) (9 : Int32) S2).bind (fun q => match q with | (r5, S6) => (if r5 = true then some (true, (pat (pat S6 (rf a0 2) ((i1 * (6 : Int32)) + (S2.1 (rf a0 0) 11)) (S6.1 (rf a0 0) 11)) (rf (rf a0 1) 3) ((i1 * (6 : Int32)) + (S2.1 (rf a0 0) 11)) ((pat S6 (rf a0 2) ((i1 * (6 : Int32)) + (S2.1 (rf a0 0) 11)) (S6.1 (rf a0 0) 11)).1 (rf a0 0) 11))) else some (false, S6)))) else some ((t_X8_failAtTaken (rf a0 0) (3 : Int32) S2).1, (t_X8_failAtTaken (rf a0 0) (3 : Int32) S2).2)) else some (false, S2))))
set_option maxHeartbeats 4000000 in
set_option maxRecDepth 100000 in
theorem w_X3_readSmell {l : Launch} {g : XG}  {a0 : Nat} {i1 : Int32} {S : XS} (hk0 : kd a0 = 3) : Cl φB l g 4 mX3_readSmell [.ref a0, .int i1] S (f_X3_readSmell a0 i1 S) := by
  refine Cl.of (by decide +kernel) (Nat.le_of_ble_eq_true rfl) ?_
  unfold f_X3_readSmell
  show X _ _ _ _ _ 0 [(0, .ref a0), (1, .int i1)] [] S _
  refine X_aload_n (n := 1) 0 (kX3_readSmell 0 rfl) rfl rfl rfl ?_
  refine X_getR (n := 4) xf_X3 hk0 (by decide) fl_X3_25 rfl (kX3_readSmell 1 rfl) rfl ?_
  refine X_aload_n (n := 5) 0 (kX3_readSmell 2 rfl) rfl rfl rfl ?_
  refine X_getR (n := 8) xf_X3 hk0 (by decide) fl_X3_12 rfl (kX3_readSmell 3 rfl) rfl ?_
  refine X_iconst (n := 9) (v := 0) (kX3_readSmell 4 rfl) rfl (by decide) ?_
  refine X_callVB (n := 12) (As := [.ref (rf a0 1), .int (0 : Int32)]) (st := []) (kX3_readSmell 5 rfl) rfl (w_X8_takeTold (kt_3_0 hk0) (kt_3_1 hk0)) (by decide) ml_X3_111 mf_X8_takeTold rfl (kt_3_0 hk0) xf_X8 rfl (Nat.le_of_ble_eq_true rfl) (fun r1 S2 hq => ?_)
  try dsimp only
  refine X_bn (n := 15) (tgt := 17) (kX3_readSmell 6 rfl) rfl rfl (fun h3 => ?_) (fun h3 => ?_)
  · refine X_iload_n (n := 18) 1 (kX3_readSmell 9 rfl) rfl rfl rfl ?_
    refine X_bipush (n := 20) (v := 6) (kX3_readSmell 10 rfl) rfl (by decide) ?_
    refine X_imul (n := 21) (kX3_readSmell 11 rfl) rfl ?_
    refine X_aload_n (n := 22) 0 (kX3_readSmell 12 rfl) rfl rfl rfl ?_
    refine X_getR (n := 25) xf_X3 hk0 (by decide) fl_X3_25 rfl (kX3_readSmell 13 rfl) rfl ?_
    refine X_getI (n := 28) xf_X8 (kt_3_0 hk0) (by decide) fl_X3_94 rfl (kX3_readSmell 14 rfl) rfl ?_
    refine X_iadd (n := 29) (kX3_readSmell 15 rfl) rfl ?_
    refine X_istore_n (n := 30) (L1 := [(2, .int ((i1 * (6 : Int32)) + (S2.1 (rf a0 0) 11))), (0, .ref a0), (1, .int i1)]) (kX3_readSmell 16 rfl) rfl rfl (Nat.le_of_ble_eq_true rfl) rfl ?_
    refine X_aload_n (n := 31) 1 (kX3_readSmell 17 rfl) rfl rfl rfl ?_
    refine X_getR (n := 34) xf_X3 hk0 (by decide) fl_X3_18 rfl (kX3_readSmell 18 rfl) rfl ?_
    refine X_iload_n (n := 35) 0 (kX3_readSmell 19 rfl) rfl rfl rfl ?_
    refine X_callN1I (n := 38) (As := [.ref (rf a0 2), .int ((i1 * (6 : Int32)) + (S2.1 (rf a0 0) 11))]) (st := []) (kX3_readSmell 20 rfl) rfl (p_X11_at (kt_3_2 hk0)) (by decide) nl_X3_62 mf_X11_at rfl rfl (Nat.le_of_ble_eq_true rfl) ?_
    refine X_if_eq (n := 41) (tgt := 50) (kX3_readSmell 21 rfl) rfl rfl (fun h4 => ?_) (fun h4 => ?_)
    · refine X_aload_n (n := 51) 1 (kX3_readSmell 27 rfl) rfl rfl rfl ?_
      refine X_getR (n := 54) xf_X3 hk0 (by decide) fl_X3_25 rfl (kX3_readSmell 28 rfl) rfl ?_
      refine X_iconst (n := 55) (v := 1) (kX3_readSmell 29 rfl) rfl (by decide) ?_
      refine X_bipush (n := 57) (v := 9) (kX3_readSmell 30 rfl) rfl (by decide) ?_
      refine X_callVB (n := 60) (As := [.int (1 : Int32), .int (9 : Int32)]) (st := []) (kX3_readSmell 31 rfl) rfl (w_X8_takeNumber (kt_3_0 hk0)) (by decide) ml_X3_97 mf_X8_takeNumber rfl (kt_3_0 hk0) xf_X8 rfl (Nat.le_of_ble_eq_true rfl) (fun r5 S6 hq => ?_)
      try dsimp only
      refine X_bn (n := 63) (tgt := 65) (kX3_readSmell 32 rfl) rfl rfl (fun h7 => ?_) (fun h7 => ?_)
      · refine X_aload_n (n := 66) 1 (kX3_readSmell 35 rfl) rfl rfl rfl ?_
        refine X_getR (n := 69) xf_X3 hk0 (by decide) fl_X3_18 rfl (kX3_readSmell 36 rfl) rfl ?_
        refine X_iload_n (n := 70) 0 (kX3_readSmell 37 rfl) rfl rfl rfl ?_
        refine X_aload_n (n := 71) 1 (kX3_readSmell 38 rfl) rfl rfl rfl ?_
        refine X_getR (n := 74) xf_X3 hk0 (by decide) fl_X3_25 rfl (kX3_readSmell 39 rfl) rfl ?_
        refine X_getI (n := 77) xf_X8 (kt_3_0 hk0) (by decide) fl_X3_94 rfl (kX3_readSmell 40 rfl) rfl ?_
        refine X_callN1V (n := 80) (As := [.ref (rf a0 2), .int ((i1 * (6 : Int32)) + (S2.1 (rf a0 0) 11)), .int (S6.1 (rf a0 0) 11)]) (st := []) (kX3_readSmell 41 rfl) rfl (p_X11_put (kt_3_2 hk0)) (by decide) nl_X3_104 mf_X11_put rfl rfl (Nat.le_of_ble_eq_true rfl) ?_
        refine X_aload_n (n := 81) 1 (kX3_readSmell 42 rfl) rfl rfl rfl ?_
        refine X_getR (n := 84) xf_X3 hk0 (by decide) fl_X3_12 rfl (kX3_readSmell 43 rfl) rfl ?_
        refine X_getR (n := 87) xf_X2 (kt_3_1 hk0) (by decide) fl_X3_117 rfl (kX3_readSmell 44 rfl) rfl ?_
        refine X_iload_n (n := 88) 0 (kX3_readSmell 45 rfl) rfl rfl rfl ?_
        refine X_aload_n (n := 89) 1 (kX3_readSmell 46 rfl) rfl rfl rfl ?_
        refine X_getR (n := 92) xf_X3 hk0 (by decide) fl_X3_25 rfl (kX3_readSmell 47 rfl) rfl ?_
        refine X_getI (n := 95) xf_X8 (kt_3_0 hk0) (by decide) fl_X3_94 rfl (kX3_readSmell 48 rfl) rfl ?_
        refine X_callN1V (n := 98) (As := [.ref (rf (rf a0 1) 3), .int ((i1 * (6 : Int32)) + (S2.1 (rf a0 0) 11)), .int ((pat S6 (rf a0 2) ((i1 * (6 : Int32)) + (S2.1 (rf a0 0) 11)) (S6.1 (rf a0 0) 11)).1 (rf a0 0) 11)]) (st := []) (kX3_readSmell 49 rfl) rfl (p_X11_put (kt_2_3 (kt_3_1 hk0))) (by decide) nl_X3_104 mf_X11_put rfl rfl (Nat.le_of_ble_eq_true rfl) ?_
        refine X_iconst (n := 99) (v := 1) (kX3_readSmell 50 rfl) rfl (by decide) ?_
        exact X_zret (b := true) rfl (kX3_readSmell 51 rfl)
      · refine X_iconst (n := 64) (v := 0) (kX3_readSmell 33 rfl) rfl (by decide) ?_
        exact X_zret (b := false) rfl (kX3_readSmell 34 rfl)
    · refine X_aload_n (n := 42) 1 (kX3_readSmell 22 rfl) rfl rfl rfl ?_
      refine X_getR (n := 45) xf_X3 hk0 (by decide) fl_X3_25 rfl (kX3_readSmell 23 rfl) rfl ?_
      refine X_iconst (n := 46) (v := 3) (kX3_readSmell 24 rfl) rfl (by decide) ?_
      refine X_callV1B (n := 49) (As := [.int (3 : Int32)]) (st := []) (kX3_readSmell 25 rfl) rfl (p_X8_failAtTaken (kt_3_0 hk0)) (by decide) ml_X3_114 mf_X8_failAtTaken rfl (kt_3_0 hk0) xf_X8 rfl (Nat.le_of_ble_eq_true rfl) ?_
      exact X_zret (b := (t_X8_failAtTaken (rf a0 0) (3 : Int32) S2).1) rfl (kX3_readSmell 26 rfl)
  · refine X_iconst (n := 16) (v := 0) (kX3_readSmell 7 rfl) rfl (by decide) ?_
    exact X_zret (b := false) rfl (kX3_readSmell 8 rfl)
def f_X3_readWitness  (a0 : Nat) (S : XS) : Option (Bool × XS) := ((f_X8_takeNew (rf a0 0) (rf a0 1) (2 : Int32) S).bind (fun q => match q with | (r1, S2) => (if r1 = true then ((f_X8_takeNumber (rf a0 0) (1 : Int32) (9 : Int32) S2).bind (fun q => match q with | (r4, S5) => (if r4 = true then ((f_X8_takeTold (rf a0 0) (rf a0 1) (1 : Int32) (pat S5 (rf (rf a0 1) 4) (S2.1 (rf a0 0) 11) (S5.1 (rf a0 0) 11))).bind (fun q => match q with | (r7, S8) => (if r7 = true then some (true, (pat S8 (rf (rf a0 1) 5) (S2.1 (rf a0 0) 11) (S8.1 (rf a0 0) 11))) else some (false, S8)))) else some (false, S5)))) else some (false, S2))))
set_option maxHeartbeats 4000000 in
set_option maxRecDepth 100000 in
theorem w_X3_readWitness {l : Launch} {g : XG}  {a0 : Nat} {S : XS} (hk0 : kd a0 = 3) : Cl φB l g 4 mX3_readWitness [.ref a0] S (f_X3_readWitness a0 S) := by
  refine Cl.of (by decide +kernel) (Nat.le_of_ble_eq_true rfl) ?_
  unfold f_X3_readWitness
  show X _ _ _ _ _ 0 [(0, .ref a0)] [] S _
  refine X_aload_n (n := 1) 0 (kX3_readWitness 0 rfl) rfl rfl rfl ?_
  refine X_getR (n := 4) xf_X3 hk0 (by decide) fl_X3_25 rfl (kX3_readWitness 1 rfl) rfl ?_
  refine X_aload_n (n := 5) 0 (kX3_readWitness 2 rfl) rfl rfl rfl ?_
  refine X_getR (n := 8) xf_X3 hk0 (by decide) fl_X3_12 rfl (kX3_readWitness 3 rfl) rfl ?_
  refine X_iconst (n := 9) (v := 2) (kX3_readWitness 4 rfl) rfl (by decide) ?_
  refine X_callVB (n := 12) (As := [.ref (rf a0 1), .int (2 : Int32)]) (st := []) (kX3_readWitness 5 rfl) rfl (w_X8_takeNew (kt_3_0 hk0) (kt_3_1 hk0)) (by decide) ml_X3_90 mf_X8_takeNew rfl (kt_3_0 hk0) xf_X8 rfl (Nat.le_of_ble_eq_true rfl) (fun r1 S2 hq => ?_)
  try dsimp only
  refine X_bn (n := 15) (tgt := 17) (kX3_readWitness 6 rfl) rfl rfl (fun h3 => ?_) (fun h3 => ?_)
  · refine X_aload_n (n := 18) 0 (kX3_readWitness 9 rfl) rfl rfl rfl ?_
    refine X_getR (n := 21) xf_X3 hk0 (by decide) fl_X3_25 rfl (kX3_readWitness 10 rfl) rfl ?_
    refine X_getI (n := 24) xf_X8 (kt_3_0 hk0) (by decide) fl_X3_94 rfl (kX3_readWitness 11 rfl) rfl ?_
    refine X_istore_n (n := 25) (L1 := [(1, .int (S2.1 (rf a0 0) 11)), (0, .ref a0)]) (kX3_readWitness 12 rfl) rfl rfl (Nat.le_of_ble_eq_true rfl) rfl ?_
    refine X_aload_n (n := 26) 1 (kX3_readWitness 13 rfl) rfl rfl rfl ?_
    refine X_getR (n := 29) xf_X3 hk0 (by decide) fl_X3_25 rfl (kX3_readWitness 14 rfl) rfl ?_
    refine X_iconst (n := 30) (v := 1) (kX3_readWitness 15 rfl) rfl (by decide) ?_
    refine X_bipush (n := 32) (v := 9) (kX3_readWitness 16 rfl) rfl (by decide) ?_
    refine X_callVB (n := 35) (As := [.int (1 : Int32), .int (9 : Int32)]) (st := []) (kX3_readWitness 17 rfl) rfl (w_X8_takeNumber (kt_3_0 hk0)) (by decide) ml_X3_97 mf_X8_takeNumber rfl (kt_3_0 hk0) xf_X8 rfl (Nat.le_of_ble_eq_true rfl) (fun r4 S5 hq => ?_)
    try dsimp only
    refine X_bn (n := 38) (tgt := 40) (kX3_readWitness 18 rfl) rfl rfl (fun h6 => ?_) (fun h6 => ?_)
    · refine X_aload_n (n := 41) 1 (kX3_readWitness 21 rfl) rfl rfl rfl ?_
      refine X_getR (n := 44) xf_X3 hk0 (by decide) fl_X3_12 rfl (kX3_readWitness 22 rfl) rfl ?_
      refine X_getR (n := 47) xf_X2 (kt_3_1 hk0) (by decide) fl_X3_120 rfl (kX3_readWitness 23 rfl) rfl ?_
      refine X_iload_n (n := 48) 0 (kX3_readWitness 24 rfl) rfl rfl rfl ?_
      refine X_aload_n (n := 49) 1 (kX3_readWitness 25 rfl) rfl rfl rfl ?_
      refine X_getR (n := 52) xf_X3 hk0 (by decide) fl_X3_25 rfl (kX3_readWitness 26 rfl) rfl ?_
      refine X_getI (n := 55) xf_X8 (kt_3_0 hk0) (by decide) fl_X3_94 rfl (kX3_readWitness 27 rfl) rfl ?_
      refine X_callN1V (n := 58) (As := [.ref (rf (rf a0 1) 4), .int (S2.1 (rf a0 0) 11), .int (S5.1 (rf a0 0) 11)]) (st := []) (kX3_readWitness 28 rfl) rfl (p_X11_put (kt_2_4 (kt_3_1 hk0))) (by decide) nl_X3_104 mf_X11_put rfl rfl (Nat.le_of_ble_eq_true rfl) ?_
      refine X_aload_n (n := 59) 1 (kX3_readWitness 29 rfl) rfl rfl rfl ?_
      refine X_getR (n := 62) xf_X3 hk0 (by decide) fl_X3_25 rfl (kX3_readWitness 30 rfl) rfl ?_
      refine X_aload_n (n := 63) 1 (kX3_readWitness 31 rfl) rfl rfl rfl ?_
      refine X_getR (n := 66) xf_X3 hk0 (by decide) fl_X3_12 rfl (kX3_readWitness 32 rfl) rfl ?_
      refine X_iconst (n := 67) (v := 1) (kX3_readWitness 33 rfl) rfl (by decide) ?_
      refine X_callVB (n := 70) (As := [.ref (rf a0 1), .int (1 : Int32)]) (st := []) (kX3_readWitness 34 rfl) rfl (w_X8_takeTold (kt_3_0 hk0) (kt_3_1 hk0)) (by decide) ml_X3_111 mf_X8_takeTold rfl (kt_3_0 hk0) xf_X8 rfl (Nat.le_of_ble_eq_true rfl) (fun r7 S8 hq => ?_)
      try dsimp only
      refine X_bn (n := 73) (tgt := 75) (kX3_readWitness 35 rfl) rfl rfl (fun h9 => ?_) (fun h9 => ?_)
      · refine X_aload_n (n := 76) 1 (kX3_readWitness 38 rfl) rfl rfl rfl ?_
        refine X_getR (n := 79) xf_X3 hk0 (by decide) fl_X3_12 rfl (kX3_readWitness 39 rfl) rfl ?_
        refine X_getR (n := 82) xf_X2 (kt_3_1 hk0) (by decide) fl_X3_123 rfl (kX3_readWitness 40 rfl) rfl ?_
        refine X_iload_n (n := 83) 0 (kX3_readWitness 41 rfl) rfl rfl rfl ?_
        refine X_aload_n (n := 84) 1 (kX3_readWitness 42 rfl) rfl rfl rfl ?_
        refine X_getR (n := 87) xf_X3 hk0 (by decide) fl_X3_25 rfl (kX3_readWitness 43 rfl) rfl ?_
        refine X_getI (n := 90) xf_X8 (kt_3_0 hk0) (by decide) fl_X3_94 rfl (kX3_readWitness 44 rfl) rfl ?_
        refine X_callN1V (n := 93) (As := [.ref (rf (rf a0 1) 5), .int (S2.1 (rf a0 0) 11), .int (S8.1 (rf a0 0) 11)]) (st := []) (kX3_readWitness 45 rfl) rfl (p_X11_put (kt_2_5 (kt_3_1 hk0))) (by decide) nl_X3_104 mf_X11_put rfl rfl (Nat.le_of_ble_eq_true rfl) ?_
        refine X_iconst (n := 94) (v := 1) (kX3_readWitness 46 rfl) rfl (by decide) ?_
        exact X_zret (b := true) rfl (kX3_readWitness 47 rfl)
      · refine X_iconst (n := 74) (v := 0) (kX3_readWitness 36 rfl) rfl (by decide) ?_
        exact X_zret (b := false) rfl (kX3_readWitness 37 rfl)
    · refine X_iconst (n := 39) (v := 0) (kX3_readWitness 19 rfl) rfl (by decide) ?_
      exact X_zret (b := false) rfl (kX3_readWitness 20 rfl)
  · refine X_iconst (n := 16) (v := 0) (kX3_readWitness 7 rfl) rfl (by decide) ?_
    exact X_zret (b := false) rfl (kX3_readWitness 8 rfl)
