def f_X11_hill  (a0 : Nat) (S : XS) : Option (Int32 × XS) := ((f_X3_read (rf a0 2) S).bind (fun q => match q with | (r1, S2) => (if ((sI S2 (rf a0 0) 1 (0 : Int32)).1 (rf a0 0) 2) = 0 then ((f_X2_copyFrom (rf a0 1) (rf (rf a0 2) 1) (sI S2 (rf a0 0) 1 (0 : Int32))).bind (fun S4 => ((f_X10_begin (rf a0 3) (rf a0 1) S4).bind (fun S5 => some (r1, (t_X11_forgetPast a0 (t_X6_clear (rf a0 4) S5))))))) else some (((-1 : Int32) - ((sI S2 (rf a0 0) 1 (0 : Int32)).1 (rf a0 0) 3)), (sI S2 (rf a0 0) 1 (0 : Int32))))))
set_option maxHeartbeats 4000000 in
set_option maxRecDepth 100000 in
theorem w_X11_hill {l : Launch} {g : XG}  {a0 : Nat} {S : XS} (hk0 : kd a0 = 11) : Cl φI l g 8 mX11_hill [.ref a0] S (f_X11_hill a0 S) := by
  refine Cl.of (by decide +kernel) (Nat.le_of_ble_eq_true rfl) ?_
  unfold f_X11_hill
  show X _ _ _ _ _ 0 [(0, .ref a0)] [] S _
  refine X_aload_n (n := 1) 0 (kX11_hill 0 rfl) rfl rfl rfl ?_
  refine X_getR (n := 4) xf_X11 hk0 (by decide) fl_X11_28 rfl (kX11_hill 1 rfl) rfl ?_
  refine X_callVI (n := 7) (As := []) (st := []) (kX11_hill 2 rfl) rfl (w_X3_read (kt_11_2 hk0)) (by decide) ml_X11_118 mf_X3_read rfl (kt_11_2 hk0) xf_X3 rfl (Nat.le_of_ble_eq_true rfl) (fun r1 S2 hq => ?_)
  try dsimp only
  refine X_istore_n (n := 8) (L1 := [(1, .int r1), (0, .ref a0)]) (kX11_hill 3 rfl) rfl rfl (Nat.le_of_ble_eq_true rfl) rfl ?_
  refine X_aload_n (n := 9) 1 (kX11_hill 4 rfl) rfl rfl rfl ?_
  refine X_getR (n := 12) xf_X11 hk0 (by decide) fl_X11_12 rfl (kX11_hill 5 rfl) rfl ?_
  refine X_iconst (n := 13) (v := 0) (kX11_hill 6 rfl) rfl (by decide) ?_
  refine X_putI (n := 16) xf_X8 (kt_11_0 hk0) (by decide) fl_X11_110 rfl rfl (Or.inl rfl) (kX11_hill 7 rfl) rfl ?_
  refine X_aload_n (n := 17) 1 (kX11_hill 8 rfl) rfl rfl rfl ?_
  refine X_getR (n := 20) xf_X11 hk0 (by decide) fl_X11_12 rfl (kX11_hill 9 rfl) rfl ?_
  refine X_getI (n := 23) xf_X8 (kt_11_0 hk0) (by decide) fl_X11_122 rfl (kX11_hill 10 rfl) rfl ?_
  refine X_if_eq (n := 26) (tgt := 36) (kX11_hill 11 rfl) rfl rfl (fun h3 => ?_) (fun h3 => ?_)
  · refine X_aload_n (n := 37) 1 (kX11_hill 18 rfl) rfl rfl rfl ?_
    refine X_getR (n := 40) xf_X11 hk0 (by decide) fl_X11_19 rfl (kX11_hill 19 rfl) rfl ?_
    refine X_aload_n (n := 41) 1 (kX11_hill 20 rfl) rfl rfl rfl ?_
    refine X_getR (n := 44) xf_X11 hk0 (by decide) fl_X11_28 rfl (kX11_hill 21 rfl) rfl ?_
    refine X_getR (n := 47) xf_X3 (kt_11_2 hk0) (by decide) fl_X11_128 rfl (kX11_hill 22 rfl) rfl ?_
    refine X_callVV (n := 50) (As := [.ref (rf (rf a0 2) 1)]) (st := []) (kX11_hill 23 rfl) rfl (w_X2_copyFrom (kt_11_1 hk0) (kt_3_1 (kt_11_2 hk0))) (by decide) ml_X11_131 mf_X2_copyFrom rfl (kt_11_1 hk0) xf_X2 rfl (Nat.le_of_ble_eq_true rfl) (fun S4 hq => ?_)
    try dsimp only
    refine X_aload_n (n := 51) 1 (kX11_hill 24 rfl) rfl rfl rfl ?_
    refine X_getR (n := 54) xf_X11 hk0 (by decide) fl_X11_35 rfl (kX11_hill 25 rfl) rfl ?_
    refine X_aload_n (n := 55) 1 (kX11_hill 26 rfl) rfl rfl rfl ?_
    refine X_getR (n := 58) xf_X11 hk0 (by decide) fl_X11_19 rfl (kX11_hill 27 rfl) rfl ?_
    refine X_callVV (n := 61) (As := [.ref (rf a0 1)]) (st := []) (kX11_hill 28 rfl) rfl (w_X10_begin (kt_11_3 hk0) (kt_11_1 hk0)) (by decide) ml_X11_135 mf_X10_begin rfl (kt_11_3 hk0) xf_X10 rfl (Nat.le_of_ble_eq_true rfl) (fun S5 hq => ?_)
    try dsimp only
    refine X_aload_n (n := 62) 1 (kX11_hill 29 rfl) rfl rfl rfl ?_
    refine X_getR (n := 65) xf_X11 hk0 (by decide) fl_X11_42 rfl (kX11_hill 30 rfl) rfl ?_
    refine X_callV1V (n := 68) (As := []) (st := []) (kX11_hill 31 rfl) rfl (p_X6_clear (kt_11_4 hk0)) (by decide) ml_X11_138 mf_X6_clear rfl (kt_11_4 hk0) xf_X6 rfl (Nat.le_of_ble_eq_true rfl) ?_
    refine X_aload_n (n := 69) 1 (kX11_hill 32 rfl) rfl rfl rfl ?_
    refine X_callV1V (n := 72) (As := []) (st := []) (kX11_hill 33 rfl) rfl (p_X11_forgetPast hk0) (by decide) ml_X11_141 mf_X11_forgetPast rfl hk0 xf_X11 rfl (Nat.le_of_ble_eq_true rfl) ?_
    refine X_iload_n (n := 73) 0 (kX11_hill 34 rfl) rfl rfl rfl ?_
    exact X_iret rfl (kX11_hill 35 rfl)
  · refine X_iconst (n := 27) (v := (-1)) (kX11_hill 12 rfl) rfl (by decide) ?_
    refine X_aload_n (n := 28) 1 (kX11_hill 13 rfl) rfl rfl rfl ?_
    refine X_getR (n := 31) xf_X11 hk0 (by decide) fl_X11_12 rfl (kX11_hill 14 rfl) rfl ?_
    refine X_getI (n := 34) xf_X8 (kt_11_0 hk0) (by decide) fl_X11_125 rfl (kX11_hill 15 rfl) rfl ?_
    refine X_isub (n := 35) (kX11_hill 16 rfl) rfl ?_
    exact X_iret rfl (kX11_hill 17 rfl)
