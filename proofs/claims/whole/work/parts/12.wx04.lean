def f_X3_readSmoke  (a0 : Nat) (S : XS) : Option (Bool × XS) := ((f_X8_takeTold (rf a0 0) (rf a0 1) (0 : Int32) S).bind (fun q => match q with | (r1, S2) => (if r1 = true then ((f_X8_takeTold (rf a0 0) (rf a0 1) (1 : Int32) S2).bind (fun q => match q with | (r4, S5) => (if r4 = true then ((f_X8_takeTold (rf a0 0) (rf a0 1) (1 : Int32) S5).bind (fun q => match q with | (r7, S8) => (if r7 = true then (if (S5.1 (rf a0 0) 11) = (S8.1 (rf a0 0) 11) then some ((t_X8_failAtTaken (rf a0 0) (3 : Int32) S8).1, (t_X8_failAtTaken (rf a0 0) (3 : Int32) S8).2) else (if (gat S8 (rf a0 3) (((((S2.1 (rf a0 0) 11) * (6 : Int32)) + (S5.1 (rf a0 0) 11)) * (6 : Int32)) + (S8.1 (rf a0 0) 11))) = 0 then some ((t_X3_addLine a0 (3 : Int32) (pat (pat S8 (rf a0 3) (((((S2.1 (rf a0 0) 11) * (6 : Int32)) + (S5.1 (rf a0 0) 11)) * (6 : Int32)) + (S8.1 (rf a0 0) 11)) (1 : Int32)) (rf (rf a0 1) 3) (((S8.1 (rf a0 0) 11) * (6 : Int32)) + (S2.1 (rf a0 0) 11)) ((gat (pat S8 (rf a0 3) (((((S2.1 (rf a0 0) 11) * (6 : Int32)) + (S5.1 (rf a0 0) 11)) * (6 : Int32)) + (S8.1 (rf a0 0) 11)) (1 : Int32)) (rf (rf a0 1) 3) (((S8.1 (rf a0 0) 11) * (6 : Int32)) + (S2.1 (rf a0 0) 11))) + ((gat (pat S8 (rf a0 3) (((((S2.1 (rf a0 0) 11) * (6 : Int32)) + (S5.1 (rf a0 0) 11)) * (6 : Int32)) + (S8.1 (rf a0 0) 11)) (1 : Int32)) (rf a0 2) (((S5.1 (rf a0 0) 11) * (6 : Int32)) + (S2.1 (rf a0 0) 11))) / (2 : Int32))))).1, (t_X3_addLine a0 (3 : Int32) (pat (pat S8 (rf a0 3) (((((S2.1 (rf a0 0) 11) * (6 : Int32)) + (S5.1 (rf a0 0) 11)) * (6 : Int32)) + (S8.1 (rf a0 0) 11)) (1 : Int32)) (rf (rf a0 1) 3) (((S8.1 (rf a0 0) 11) * (6 : Int32)) + (S2.1 (rf a0 0) 11)) ((gat (pat S8 (rf a0 3) (((((S2.1 (rf a0 0) 11) * (6 : Int32)) + (S5.1 (rf a0 0) 11)) * (6 : Int32)) + (S8.1 (rf a0 0) 11)) (1 : Int32)) (rf (rf a0 1) 3) (((S8.1 (rf a0 0) 11) * (6 : Int32)) + (S2.1 (rf a0 0) 11))) + ((gat (pat S8 (rf a0 3) (((((S2.1 (rf a0 0) 11) * (6 : Int32)) + (S5.1 (rf a0 0) 11)) * (6 : Int32)) + (S8.1 (rf a0 0) 11)) (1 : Int32)) (rf a0 2) (((S5.1 (rf a0 0) 11) * (6 : Int32)) + (S2.1 (rf a0 0) 11))) / (2 : Int32))))).2) else some ((t_X8_failAtTaken (rf a0 0) (3 : Int32) S8).1, (t_X8_failAtTaken (rf a0 0) (3 : Int32) S8).2))) else some (false, S8)))) else some (false, S5)))) else some (false, S2))))
set_option maxHeartbeats 4000000 in
set_option maxRecDepth 100000 in
theorem w_X3_readSmoke {l : Launch} {g : XG}  {a0 : Nat} {S : XS} (hk0 : kd a0 = 3) : Cl φB l g 4 mX3_readSmoke [.ref a0] S (f_X3_readSmoke a0 S) := by
  refine Cl.of (by decide +kernel) (Nat.le_of_ble_eq_true rfl) ?_
  unfold f_X3_readSmoke
  show X _ _ _ _ _ 0 [(0, .ref a0)] [] S _
  refine X_aload_n (n := 1) 0 (kX3_readSmoke 0 rfl) rfl rfl rfl ?_
  refine X_getR (n := 4) xf_X3 hk0 (by decide) fl_X3_25 rfl (kX3_readSmoke 1 rfl) rfl ?_
  refine X_aload_n (n := 5) 0 (kX3_readSmoke 2 rfl) rfl rfl rfl ?_
  refine X_getR (n := 8) xf_X3 hk0 (by decide) fl_X3_12 rfl (kX3_readSmoke 3 rfl) rfl ?_
  refine X_iconst (n := 9) (v := 0) (kX3_readSmoke 4 rfl) rfl (by decide) ?_
  refine X_callVB (n := 12) (As := [.ref (rf a0 1), .int (0 : Int32)]) (st := []) (kX3_readSmoke 5 rfl) rfl (w_X8_takeTold (kt_3_0 hk0) (kt_3_1 hk0)) (by decide) ml_X3_111 mf_X8_takeTold rfl (kt_3_0 hk0) xf_X8 rfl (Nat.le_of_ble_eq_true rfl) (fun r1 S2 hq => ?_)
  try dsimp only
  refine X_bn (n := 15) (tgt := 17) (kX3_readSmoke 6 rfl) rfl rfl (fun h3 => ?_) (fun h3 => ?_)
  · refine X_aload_n (n := 18) 0 (kX3_readSmoke 9 rfl) rfl rfl rfl ?_
    refine X_getR (n := 21) xf_X3 hk0 (by decide) fl_X3_25 rfl (kX3_readSmoke 10 rfl) rfl ?_
    refine X_getI (n := 24) xf_X8 (kt_3_0 hk0) (by decide) fl_X3_94 rfl (kX3_readSmoke 11 rfl) rfl ?_
    refine X_istore_n (n := 25) (L1 := [(1, .int (S2.1 (rf a0 0) 11)), (0, .ref a0)]) (kX3_readSmoke 12 rfl) rfl rfl (Nat.le_of_ble_eq_true rfl) rfl ?_
    refine X_aload_n (n := 26) 1 (kX3_readSmoke 13 rfl) rfl rfl rfl ?_
    refine X_getR (n := 29) xf_X3 hk0 (by decide) fl_X3_25 rfl (kX3_readSmoke 14 rfl) rfl ?_
    refine X_aload_n (n := 30) 1 (kX3_readSmoke 15 rfl) rfl rfl rfl ?_
    refine X_getR (n := 33) xf_X3 hk0 (by decide) fl_X3_12 rfl (kX3_readSmoke 16 rfl) rfl ?_
    refine X_iconst (n := 34) (v := 1) (kX3_readSmoke 17 rfl) rfl (by decide) ?_
    refine X_callVB (n := 37) (As := [.ref (rf a0 1), .int (1 : Int32)]) (st := []) (kX3_readSmoke 18 rfl) rfl (w_X8_takeTold (kt_3_0 hk0) (kt_3_1 hk0)) (by decide) ml_X3_111 mf_X8_takeTold rfl (kt_3_0 hk0) xf_X8 rfl (Nat.le_of_ble_eq_true rfl) (fun r4 S5 hq => ?_)
    try dsimp only
    refine X_bn (n := 40) (tgt := 42) (kX3_readSmoke 19 rfl) rfl rfl (fun h6 => ?_) (fun h6 => ?_)
    · refine X_aload_n (n := 43) 1 (kX3_readSmoke 22 rfl) rfl rfl rfl ?_
      refine X_getR (n := 46) xf_X3 hk0 (by decide) fl_X3_25 rfl (kX3_readSmoke 23 rfl) rfl ?_
      refine X_getI (n := 49) xf_X8 (kt_3_0 hk0) (by decide) fl_X3_94 rfl (kX3_readSmoke 24 rfl) rfl ?_
      refine X_istore_n (n := 50) (L1 := [(2, .int (S5.1 (rf a0 0) 11)), (1, .int (S2.1 (rf a0 0) 11)), (0, .ref a0)]) (kX3_readSmoke 25 rfl) rfl rfl (Nat.le_of_ble_eq_true rfl) rfl ?_
      refine X_aload_n (n := 51) 2 (kX3_readSmoke 26 rfl) rfl rfl rfl ?_
      refine X_getR (n := 54) xf_X3 hk0 (by decide) fl_X3_25 rfl (kX3_readSmoke 27 rfl) rfl ?_
      refine X_aload_n (n := 55) 2 (kX3_readSmoke 28 rfl) rfl rfl rfl ?_
      refine X_getR (n := 58) xf_X3 hk0 (by decide) fl_X3_12 rfl (kX3_readSmoke 29 rfl) rfl ?_
      refine X_iconst (n := 59) (v := 1) (kX3_readSmoke 30 rfl) rfl (by decide) ?_
      refine X_callVB (n := 62) (As := [.ref (rf a0 1), .int (1 : Int32)]) (st := []) (kX3_readSmoke 31 rfl) rfl (w_X8_takeTold (kt_3_0 hk0) (kt_3_1 hk0)) (by decide) ml_X3_111 mf_X8_takeTold rfl (kt_3_0 hk0) xf_X8 rfl (Nat.le_of_ble_eq_true rfl) (fun r7 S8 hq => ?_)
      try dsimp only
      refine X_bn (n := 65) (tgt := 67) (kX3_readSmoke 32 rfl) rfl rfl (fun h9 => ?_) (fun h9 => ?_)
      · refine X_aload_n (n := 68) 2 (kX3_readSmoke 35 rfl) rfl rfl rfl ?_
        refine X_getR (n := 71) xf_X3 hk0 (by decide) fl_X3_25 rfl (kX3_readSmoke 36 rfl) rfl ?_
        refine X_getI (n := 74) xf_X8 (kt_3_0 hk0) (by decide) fl_X3_94 rfl (kX3_readSmoke 37 rfl) rfl ?_
        refine X_istore_n (n := 75) (L1 := [(3, .int (S8.1 (rf a0 0) 11)), (2, .int (S5.1 (rf a0 0) 11)), (1, .int (S2.1 (rf a0 0) 11)), (0, .ref a0)]) (kX3_readSmoke 38 rfl) rfl rfl (Nat.le_of_ble_eq_true rfl) rfl ?_
        refine X_iload_n (n := 76) 2 (kX3_readSmoke 39 rfl) rfl rfl rfl ?_
        refine X_bipush (n := 78) (v := 6) (kX3_readSmoke 40 rfl) rfl (by decide) ?_
        refine X_imul (n := 79) (kX3_readSmoke 41 rfl) rfl ?_
        refine X_iload_n (n := 80) 1 (kX3_readSmoke 42 rfl) rfl rfl rfl ?_
        refine X_iadd (n := 81) (kX3_readSmoke 43 rfl) rfl ?_
        refine X_bipush (n := 83) (v := 6) (kX3_readSmoke 44 rfl) rfl (by decide) ?_
        refine X_imul (n := 84) (kX3_readSmoke 45 rfl) rfl ?_
        refine X_iload_n (n := 85) 0 (kX3_readSmoke 46 rfl) rfl rfl rfl ?_
        refine X_iadd (n := 86) (kX3_readSmoke 47 rfl) rfl ?_
        refine X_istore (n := 88) (L1 := [(4, .int (((((S2.1 (rf a0 0) 11) * (6 : Int32)) + (S5.1 (rf a0 0) 11)) * (6 : Int32)) + (S8.1 (rf a0 0) 11))), (3, .int (S8.1 (rf a0 0) 11)), (2, .int (S5.1 (rf a0 0) 11)), (1, .int (S2.1 (rf a0 0) 11)), (0, .ref a0)]) (kX3_readSmoke 48 rfl) rfl (Nat.le_of_ble_eq_true rfl) rfl ?_
        refine X_iload_n (n := 89) 2 (kX3_readSmoke 49 rfl) rfl rfl rfl ?_
        refine X_iload_n (n := 90) 1 (kX3_readSmoke 50 rfl) rfl rfl rfl ?_
        refine X_ic_eq (n := 93) (tgt := 105) (kX3_readSmoke 51 rfl) rfl rfl (fun h10 => ?_) (fun h10 => ?_)
        · refine X_aload_n (n := 106) 4 (kX3_readSmoke 57 rfl) rfl rfl rfl ?_
          refine X_getR (n := 109) xf_X3 hk0 (by decide) fl_X3_25 rfl (kX3_readSmoke 58 rfl) rfl ?_
          refine X_iconst (n := 110) (v := 3) (kX3_readSmoke 59 rfl) rfl (by decide) ?_
          refine X_callV1B (n := 113) (As := [.int (3 : Int32)]) (st := []) (kX3_readSmoke 60 rfl) rfl (p_X8_failAtTaken (kt_3_0 hk0)) (by decide) ml_X3_114 mf_X8_failAtTaken rfl (kt_3_0 hk0) xf_X8 rfl (Nat.le_of_ble_eq_true rfl) ?_
          exact X_zret (b := (t_X8_failAtTaken (rf a0 0) (3 : Int32) S8).1) rfl (kX3_readSmoke 61 rfl)
        · refine X_aload_n (n := 94) 4 (kX3_readSmoke 52 rfl) rfl rfl rfl ?_
          refine X_getR (n := 97) xf_X3 hk0 (by decide) fl_X3_22 rfl (kX3_readSmoke 53 rfl) rfl ?_
          refine X_iload (n := 99) 0 (kX3_readSmoke 54 rfl) rfl rfl ?_
          refine X_callN1I (n := 102) (As := [.ref (rf a0 3), .int (((((S2.1 (rf a0 0) 11) * (6 : Int32)) + (S5.1 (rf a0 0) 11)) * (6 : Int32)) + (S8.1 (rf a0 0) 11))]) (st := []) (kX3_readSmoke 55 rfl) rfl (p_X11_at (kt_3_3 hk0)) (by decide) nl_X3_62 mf_X11_at rfl rfl (Nat.le_of_ble_eq_true rfl) ?_
          refine X_if_eq (n := 105) (tgt := 114) (kX3_readSmoke 56 rfl) rfl rfl (fun h11 => ?_) (fun h11 => ?_)
          · refine X_aload_n (n := 115) 4 (kX3_readSmoke 62 rfl) rfl rfl rfl ?_
            refine X_getR (n := 118) xf_X3 hk0 (by decide) fl_X3_22 rfl (kX3_readSmoke 63 rfl) rfl ?_
            refine X_iload (n := 120) 0 (kX3_readSmoke 64 rfl) rfl rfl ?_
            refine X_iconst (n := 121) (v := 1) (kX3_readSmoke 65 rfl) rfl (by decide) ?_
            refine X_callN1V (n := 124) (As := [.ref (rf a0 3), .int (((((S2.1 (rf a0 0) 11) * (6 : Int32)) + (S5.1 (rf a0 0) 11)) * (6 : Int32)) + (S8.1 (rf a0 0) 11)), .int (1 : Int32)]) (st := []) (kX3_readSmoke 66 rfl) rfl (p_X11_put (kt_3_3 hk0)) (by decide) nl_X3_104 mf_X11_put rfl rfl (Nat.le_of_ble_eq_true rfl) ?_
            refine X_iload_n (n := 125) 1 (kX3_readSmoke 67 rfl) rfl rfl rfl ?_
            refine X_bipush (n := 127) (v := 6) (kX3_readSmoke 68 rfl) rfl (by decide) ?_
            refine X_imul (n := 128) (kX3_readSmoke 69 rfl) rfl ?_
            refine X_iload_n (n := 129) 3 (kX3_readSmoke 70 rfl) rfl rfl rfl ?_
            refine X_iadd (n := 130) (kX3_readSmoke 71 rfl) rfl ?_
            refine X_istore (n := 132) (L1 := [(5, .int (((S8.1 (rf a0 0) 11) * (6 : Int32)) + (S2.1 (rf a0 0) 11))), (4, .int (((((S2.1 (rf a0 0) 11) * (6 : Int32)) + (S5.1 (rf a0 0) 11)) * (6 : Int32)) + (S8.1 (rf a0 0) 11))), (3, .int (S8.1 (rf a0 0) 11)), (2, .int (S5.1 (rf a0 0) 11)), (1, .int (S2.1 (rf a0 0) 11)), (0, .ref a0)]) (kX3_readSmoke 72 rfl) rfl (Nat.le_of_ble_eq_true rfl) rfl ?_
            refine X_aload_n (n := 133) 5 (kX3_readSmoke 73 rfl) rfl rfl rfl ?_
            refine X_getR (n := 136) xf_X3 hk0 (by decide) fl_X3_12 rfl (kX3_readSmoke 74 rfl) rfl ?_
            refine X_getR (n := 139) xf_X2 (kt_3_1 hk0) (by decide) fl_X3_117 rfl (kX3_readSmoke 75 rfl) rfl ?_
            refine X_iload (n := 141) 0 (kX3_readSmoke 76 rfl) rfl rfl ?_
            refine X_aload_n (n := 142) 5 (kX3_readSmoke 77 rfl) rfl rfl rfl ?_
            refine X_getR (n := 145) xf_X3 hk0 (by decide) fl_X3_12 rfl (kX3_readSmoke 78 rfl) rfl ?_
            refine X_getR (n := 148) xf_X2 (kt_3_1 hk0) (by decide) fl_X3_117 rfl (kX3_readSmoke 79 rfl) rfl ?_
            refine X_iload (n := 150) 0 (kX3_readSmoke 80 rfl) rfl rfl ?_
            refine X_callN1I (n := 153) (As := [.ref (rf (rf a0 1) 3), .int (((S8.1 (rf a0 0) 11) * (6 : Int32)) + (S2.1 (rf a0 0) 11))]) (st := [.int (((S8.1 (rf a0 0) 11) * (6 : Int32)) + (S2.1 (rf a0 0) 11)), .ref (rf (rf a0 1) 3)]) (kX3_readSmoke 81 rfl) rfl (p_X11_at (kt_2_3 (kt_3_1 hk0))) (by decide) nl_X3_62 mf_X11_at rfl rfl (Nat.le_of_ble_eq_true rfl) ?_
            refine X_aload_n (n := 154) 5 (kX3_readSmoke 82 rfl) rfl rfl rfl ?_
            refine X_getR (n := 157) xf_X3 hk0 (by decide) fl_X3_18 rfl (kX3_readSmoke 83 rfl) rfl ?_
            refine X_iload_n (n := 158) 3 (kX3_readSmoke 84 rfl) rfl rfl rfl ?_
            refine X_bipush (n := 160) (v := 6) (kX3_readSmoke 85 rfl) rfl (by decide) ?_
            refine X_imul (n := 161) (kX3_readSmoke 86 rfl) rfl ?_
            refine X_iload_n (n := 162) 4 (kX3_readSmoke 87 rfl) rfl rfl rfl ?_
            refine X_iadd (n := 163) (kX3_readSmoke 88 rfl) rfl ?_
            refine X_callN1I (n := 166) (As := [.ref (rf a0 2), .int (((S5.1 (rf a0 0) 11) * (6 : Int32)) + (S2.1 (rf a0 0) 11))]) (st := [.int (gat (pat S8 (rf a0 3) (((((S2.1 (rf a0 0) 11) * (6 : Int32)) + (S5.1 (rf a0 0) 11)) * (6 : Int32)) + (S8.1 (rf a0 0) 11)) (1 : Int32)) (rf (rf a0 1) 3) (((S8.1 (rf a0 0) 11) * (6 : Int32)) + (S2.1 (rf a0 0) 11))), .int (((S8.1 (rf a0 0) 11) * (6 : Int32)) + (S2.1 (rf a0 0) 11)), .ref (rf (rf a0 1) 3)]) (kX3_readSmoke 89 rfl) rfl (p_X11_at (kt_3_2 hk0)) (by decide) nl_X3_62 mf_X11_at rfl rfl (Nat.le_of_ble_eq_true rfl) ?_
            refine X_iconst (n := 167) (v := 2) (kX3_readSmoke 90 rfl) rfl (by decide) ?_
            refine X_idiv' (n := 168) (kX3_readSmoke 91 rfl) rfl (by decide) ?_
            refine X_iadd (n := 169) (kX3_readSmoke 92 rfl) rfl ?_
            refine X_callN1V (n := 172) (As := [.ref (rf (rf a0 1) 3), .int (((S8.1 (rf a0 0) 11) * (6 : Int32)) + (S2.1 (rf a0 0) 11)), .int ((gat (pat S8 (rf a0 3) (((((S2.1 (rf a0 0) 11) * (6 : Int32)) + (S5.1 (rf a0 0) 11)) * (6 : Int32)) + (S8.1 (rf a0 0) 11)) (1 : Int32)) (rf (rf a0 1) 3) (((S8.1 (rf a0 0) 11) * (6 : Int32)) + (S2.1 (rf a0 0) 11))) + ((gat (pat S8 (rf a0 3) (((((S2.1 (rf a0 0) 11) * (6 : Int32)) + (S5.1 (rf a0 0) 11)) * (6 : Int32)) + (S8.1 (rf a0 0) 11)) (1 : Int32)) (rf a0 2) (((S5.1 (rf a0 0) 11) * (6 : Int32)) + (S2.1 (rf a0 0) 11))) / (2 : Int32)))]) (st := []) (kX3_readSmoke 93 rfl) rfl (p_X11_put (kt_2_3 (kt_3_1 hk0))) (by decide) nl_X3_104 mf_X11_put rfl rfl (Nat.le_of_ble_eq_true rfl) ?_
            refine X_aload_n (n := 173) 5 (kX3_readSmoke 94 rfl) rfl rfl rfl ?_
            refine X_iconst (n := 174) (v := 3) (kX3_readSmoke 95 rfl) rfl (by decide) ?_
            refine X_callV1B (n := 177) (As := [.int (3 : Int32)]) (st := []) (kX3_readSmoke 96 rfl) rfl (p_X3_addLine hk0) (by decide) ml_X3_126 mf_X3_addLine rfl hk0 xf_X3 rfl (Nat.le_of_ble_eq_true rfl) ?_
            exact X_zret (b := (t_X3_addLine a0 (3 : Int32) (pat (pat S8 (rf a0 3) (((((S2.1 (rf a0 0) 11) * (6 : Int32)) + (S5.1 (rf a0 0) 11)) * (6 : Int32)) + (S8.1 (rf a0 0) 11)) (1 : Int32)) (rf (rf a0 1) 3) (((S8.1 (rf a0 0) 11) * (6 : Int32)) + (S2.1 (rf a0 0) 11)) ((gat (pat S8 (rf a0 3) (((((S2.1 (rf a0 0) 11) * (6 : Int32)) + (S5.1 (rf a0 0) 11)) * (6 : Int32)) + (S8.1 (rf a0 0) 11)) (1 : Int32)) (rf (rf a0 1) 3) (((S8.1 (rf a0 0) 11) * (6 : Int32)) + (S2.1 (rf a0 0) 11))) + ((gat (pat S8 (rf a0 3) (((((S2.1 (rf a0 0) 11) * (6 : Int32)) + (S5.1 (rf a0 0) 11)) * (6 : Int32)) + (S8.1 (rf a0 0) 11)) (1 : Int32)) (rf a0 2) (((S5.1 (rf a0 0) 11) * (6 : Int32)) + (S2.1 (rf a0 0) 11))) / (2 : Int32))))).1) rfl (kX3_readSmoke 97 rfl)
          · refine X_aload_n (n := 106) 4 (kX3_readSmoke 57 rfl) rfl rfl rfl ?_
            refine X_getR (n := 109) xf_X3 hk0 (by decide) fl_X3_25 rfl (kX3_readSmoke 58 rfl) rfl ?_
            refine X_iconst (n := 110) (v := 3) (kX3_readSmoke 59 rfl) rfl (by decide) ?_
            refine X_callV1B (n := 113) (As := [.int (3 : Int32)]) (st := []) (kX3_readSmoke 60 rfl) rfl (p_X8_failAtTaken (kt_3_0 hk0)) (by decide) ml_X3_114 mf_X8_failAtTaken rfl (kt_3_0 hk0) xf_X8 rfl (Nat.le_of_ble_eq_true rfl) ?_
            exact X_zret (b := (t_X8_failAtTaken (rf a0 0) (3 : Int32) S8).1) rfl (kX3_readSmoke 61 rfl)
      · refine X_iconst (n := 66) (v := 0) (kX3_readSmoke 33 rfl) rfl (by decide) ?_
        exact X_zret (b := false) rfl (kX3_readSmoke 34 rfl)
    · refine X_iconst (n := 41) (v := 0) (kX3_readSmoke 20 rfl) rfl (by decide) ?_
      exact X_zret (b := false) rfl (kX3_readSmoke 21 rfl)
  · refine X_iconst (n := 16) (v := 0) (kX3_readSmoke 7 rfl) rfl (by decide) ?_
    exact X_zret (b := false) rfl (kX3_readSmoke 8 rfl)
def f_X3_readWent  (a0 : Nat) (S : XS) : Option (Bool × XS) := ((f_X8_takeTold (rf a0 0) (rf a0 1) (2 : Int32) S).bind (fun q => match q with | (r1, S2) => (if r1 = true then ((f_X8_takeNumber (rf a0 0) (1 : Int32) (60 : Int32) S2).bind (fun q => match q with | (r4, S5) => (if r4 = true then (if (gat S5 (rf (rf a0 1) 6) (((S5.1 (rf a0 0) 11) * (6 : Int32)) + (S2.1 (rf a0 0) 11))) = 0 then ((f_X8_takeTold (rf a0 0) (rf a0 1) (1 : Int32) S5).bind (fun q => match q with | (r8, S9) => (if r8 = true then some ((t_X3_addLine a0 (4 : Int32) (pat S9 (rf (rf a0 1) 6) (((S5.1 (rf a0 0) 11) * (6 : Int32)) + (S2.1 (rf a0 0) 11)) ((S9.1 (rf a0 0) 11) + (1 : Int32)))).1, (t_X3_addLine a0 (4 : Int32) (pat S9 (rf (rf a0 1) 6) (((S5.1 (rf a0 0) 11) * (6 : Int32)) + (S2.1 (rf a0 0) 11)) ((S9.1 (rf a0 0) 11) + (1 : Int32)))).2) else some (false, S9)))) else some ((t_X8_failAtTaken (rf a0 0) (3 : Int32) S5).1, (t_X8_failAtTaken (rf a0 0) (3 : Int32) S5).2)) else some (false, S5)))) else some (false, S2))))
set_option maxHeartbeats 4000000 in
set_option maxRecDepth 100000 in
theorem w_X3_readWent {l : Launch} {g : XG}  {a0 : Nat} {S : XS} (hk0 : kd a0 = 3) : Cl φB l g 4 mX3_readWent [.ref a0] S (f_X3_readWent a0 S) := by
  refine Cl.of (by decide +kernel) (Nat.le_of_ble_eq_true rfl) ?_
  unfold f_X3_readWent
  show X _ _ _ _ _ 0 [(0, .ref a0)] [] S _
  refine X_aload_n (n := 1) 0 (kX3_readWent 0 rfl) rfl rfl rfl ?_
  refine X_getR (n := 4) xf_X3 hk0 (by decide) fl_X3_25 rfl (kX3_readWent 1 rfl) rfl ?_
  refine X_aload_n (n := 5) 0 (kX3_readWent 2 rfl) rfl rfl rfl ?_
  refine X_getR (n := 8) xf_X3 hk0 (by decide) fl_X3_12 rfl (kX3_readWent 3 rfl) rfl ?_
  refine X_iconst (n := 9) (v := 2) (kX3_readWent 4 rfl) rfl (by decide) ?_
  refine X_callVB (n := 12) (As := [.ref (rf a0 1), .int (2 : Int32)]) (st := []) (kX3_readWent 5 rfl) rfl (w_X8_takeTold (kt_3_0 hk0) (kt_3_1 hk0)) (by decide) ml_X3_111 mf_X8_takeTold rfl (kt_3_0 hk0) xf_X8 rfl (Nat.le_of_ble_eq_true rfl) (fun r1 S2 hq => ?_)
  try dsimp only
  refine X_bn (n := 15) (tgt := 17) (kX3_readWent 6 rfl) rfl rfl (fun h3 => ?_) (fun h3 => ?_)
  · refine X_aload_n (n := 18) 0 (kX3_readWent 9 rfl) rfl rfl rfl ?_
    refine X_getR (n := 21) xf_X3 hk0 (by decide) fl_X3_25 rfl (kX3_readWent 10 rfl) rfl ?_
    refine X_getI (n := 24) xf_X8 (kt_3_0 hk0) (by decide) fl_X3_94 rfl (kX3_readWent 11 rfl) rfl ?_
    refine X_istore_n (n := 25) (L1 := [(1, .int (S2.1 (rf a0 0) 11)), (0, .ref a0)]) (kX3_readWent 12 rfl) rfl rfl (Nat.le_of_ble_eq_true rfl) rfl ?_
    refine X_aload_n (n := 26) 1 (kX3_readWent 13 rfl) rfl rfl rfl ?_
    refine X_getR (n := 29) xf_X3 hk0 (by decide) fl_X3_25 rfl (kX3_readWent 14 rfl) rfl ?_
    refine X_iconst (n := 30) (v := 1) (kX3_readWent 15 rfl) rfl (by decide) ?_
    refine X_bipush (n := 32) (v := 60) (kX3_readWent 16 rfl) rfl (by decide) ?_
    refine X_callVB (n := 35) (As := [.int (1 : Int32), .int (60 : Int32)]) (st := []) (kX3_readWent 17 rfl) rfl (w_X8_takeNumber (kt_3_0 hk0)) (by decide) ml_X3_97 mf_X8_takeNumber rfl (kt_3_0 hk0) xf_X8 rfl (Nat.le_of_ble_eq_true rfl) (fun r4 S5 hq => ?_)
    try dsimp only
    refine X_bn (n := 38) (tgt := 40) (kX3_readWent 18 rfl) rfl rfl (fun h6 => ?_) (fun h6 => ?_)
    · refine X_aload_n (n := 41) 1 (kX3_readWent 21 rfl) rfl rfl rfl ?_
      refine X_getR (n := 44) xf_X3 hk0 (by decide) fl_X3_25 rfl (kX3_readWent 22 rfl) rfl ?_
      refine X_getI (n := 47) xf_X8 (kt_3_0 hk0) (by decide) fl_X3_94 rfl (kX3_readWent 23 rfl) rfl ?_
      refine X_bipush (n := 49) (v := 6) (kX3_readWent 24 rfl) rfl (by decide) ?_
      refine X_imul (n := 50) (kX3_readWent 25 rfl) rfl ?_
      refine X_iload_n (n := 51) 0 (kX3_readWent 26 rfl) rfl rfl rfl ?_
      refine X_iadd (n := 52) (kX3_readWent 27 rfl) rfl ?_
      refine X_istore_n (n := 53) (L1 := [(2, .int (((S5.1 (rf a0 0) 11) * (6 : Int32)) + (S2.1 (rf a0 0) 11))), (1, .int (S2.1 (rf a0 0) 11)), (0, .ref a0)]) (kX3_readWent 28 rfl) rfl rfl (Nat.le_of_ble_eq_true rfl) rfl ?_
      refine X_aload_n (n := 54) 2 (kX3_readWent 29 rfl) rfl rfl rfl ?_
      refine X_getR (n := 57) xf_X3 hk0 (by decide) fl_X3_12 rfl (kX3_readWent 30 rfl) rfl ?_
      refine X_getR (n := 60) xf_X2 (kt_3_1 hk0) (by decide) fl_X3_129 rfl (kX3_readWent 31 rfl) rfl ?_
      refine X_iload_n (n := 61) 0 (kX3_readWent 32 rfl) rfl rfl rfl ?_
      refine X_callN1I (n := 64) (As := [.ref (rf (rf a0 1) 6), .int (((S5.1 (rf a0 0) 11) * (6 : Int32)) + (S2.1 (rf a0 0) 11))]) (st := []) (kX3_readWent 33 rfl) rfl (p_X11_at (kt_2_6 (kt_3_1 hk0))) (by decide) nl_X3_62 mf_X11_at rfl rfl (Nat.le_of_ble_eq_true rfl) ?_
      refine X_if_eq (n := 67) (tgt := 76) (kX3_readWent 34 rfl) rfl rfl (fun h7 => ?_) (fun h7 => ?_)
      · refine X_aload_n (n := 77) 2 (kX3_readWent 40 rfl) rfl rfl rfl ?_
        refine X_getR (n := 80) xf_X3 hk0 (by decide) fl_X3_25 rfl (kX3_readWent 41 rfl) rfl ?_
        refine X_aload_n (n := 81) 2 (kX3_readWent 42 rfl) rfl rfl rfl ?_
        refine X_getR (n := 84) xf_X3 hk0 (by decide) fl_X3_12 rfl (kX3_readWent 43 rfl) rfl ?_
        refine X_iconst (n := 85) (v := 1) (kX3_readWent 44 rfl) rfl (by decide) ?_
        refine X_callVB (n := 88) (As := [.ref (rf a0 1), .int (1 : Int32)]) (st := []) (kX3_readWent 45 rfl) rfl (w_X8_takeTold (kt_3_0 hk0) (kt_3_1 hk0)) (by decide) ml_X3_111 mf_X8_takeTold rfl (kt_3_0 hk0) xf_X8 rfl (Nat.le_of_ble_eq_true rfl) (fun r8 S9 hq => ?_)
        try dsimp only
        refine X_bn (n := 91) (tgt := 93) (kX3_readWent 46 rfl) rfl rfl (fun h10 => ?_) (fun h10 => ?_)
        · refine X_aload_n (n := 94) 2 (kX3_readWent 49 rfl) rfl rfl rfl ?_
          refine X_getR (n := 97) xf_X3 hk0 (by decide) fl_X3_12 rfl (kX3_readWent 50 rfl) rfl ?_
          refine X_getR (n := 100) xf_X2 (kt_3_1 hk0) (by decide) fl_X3_129 rfl (kX3_readWent 51 rfl) rfl ?_
          refine X_iload_n (n := 101) 0 (kX3_readWent 52 rfl) rfl rfl rfl ?_
          refine X_aload_n (n := 102) 2 (kX3_readWent 53 rfl) rfl rfl rfl ?_
          refine X_getR (n := 105) xf_X3 hk0 (by decide) fl_X3_25 rfl (kX3_readWent 54 rfl) rfl ?_
          refine X_getI (n := 108) xf_X8 (kt_3_0 hk0) (by decide) fl_X3_94 rfl (kX3_readWent 55 rfl) rfl ?_
          refine X_iconst (n := 109) (v := 1) (kX3_readWent 56 rfl) rfl (by decide) ?_
          refine X_iadd (n := 110) (kX3_readWent 57 rfl) rfl ?_
          refine X_callN1V (n := 113) (As := [.ref (rf (rf a0 1) 6), .int (((S5.1 (rf a0 0) 11) * (6 : Int32)) + (S2.1 (rf a0 0) 11)), .int ((S9.1 (rf a0 0) 11) + (1 : Int32))]) (st := []) (kX3_readWent 58 rfl) rfl (p_X11_put (kt_2_6 (kt_3_1 hk0))) (by decide) nl_X3_104 mf_X11_put rfl rfl (Nat.le_of_ble_eq_true rfl) ?_
          refine X_aload_n (n := 114) 2 (kX3_readWent 59 rfl) rfl rfl rfl ?_
          refine X_iconst (n := 115) (v := 4) (kX3_readWent 60 rfl) rfl (by decide) ?_
          refine X_callV1B (n := 118) (As := [.int (4 : Int32)]) (st := []) (kX3_readWent 61 rfl) rfl (p_X3_addLine hk0) (by decide) ml_X3_126 mf_X3_addLine rfl hk0 xf_X3 rfl (Nat.le_of_ble_eq_true rfl) ?_
          exact X_zret (b := (t_X3_addLine a0 (4 : Int32) (pat S9 (rf (rf a0 1) 6) (((S5.1 (rf a0 0) 11) * (6 : Int32)) + (S2.1 (rf a0 0) 11)) ((S9.1 (rf a0 0) 11) + (1 : Int32)))).1) rfl (kX3_readWent 62 rfl)
        · refine X_iconst (n := 92) (v := 0) (kX3_readWent 47 rfl) rfl (by decide) ?_
          exact X_zret (b := false) rfl (kX3_readWent 48 rfl)
      · refine X_aload_n (n := 68) 2 (kX3_readWent 35 rfl) rfl rfl rfl ?_
        refine X_getR (n := 71) xf_X3 hk0 (by decide) fl_X3_25 rfl (kX3_readWent 36 rfl) rfl ?_
        refine X_iconst (n := 72) (v := 3) (kX3_readWent 37 rfl) rfl (by decide) ?_
        refine X_callV1B (n := 75) (As := [.int (3 : Int32)]) (st := []) (kX3_readWent 38 rfl) rfl (p_X8_failAtTaken (kt_3_0 hk0)) (by decide) ml_X3_114 mf_X8_failAtTaken rfl (kt_3_0 hk0) xf_X8 rfl (Nat.le_of_ble_eq_true rfl) ?_
        exact X_zret (b := (t_X8_failAtTaken (rf a0 0) (3 : Int32) S5).1) rfl (kX3_readWent 39 rfl)
    · refine X_iconst (n := 39) (v := 0) (kX3_readWent 19 rfl) rfl (by decide) ?_
      exact X_zret (b := false) rfl (kX3_readWent 20 rfl)
  · refine X_iconst (n := 16) (v := 0) (kX3_readWent 7 rfl) rfl (by decide) ?_
    exact X_zret (b := false) rfl (kX3_readWent 8 rfl)
def f_X3_readRain  (a0 : Nat) (S : XS) : Option (Bool × XS) := ((f_X8_takeNumber (rf a0 0) (1 : Int32) (60 : Int32) S).bind (fun q => match q with | (r1, S2) => (if r1 = true then (if (gat S2 (rf (rf a0 1) 7) (S2.1 (rf a0 0) 11)) = 0 then some ((t_X3_addLine a0 (5 : Int32) (pat S2 (rf (rf a0 1) 7) (S2.1 (rf a0 0) 11) (1 : Int32))).1, (t_X3_addLine a0 (5 : Int32) (pat S2 (rf (rf a0 1) 7) (S2.1 (rf a0 0) 11) (1 : Int32))).2) else some ((t_X8_failAtTaken (rf a0 0) (3 : Int32) S2).1, (t_X8_failAtTaken (rf a0 0) (3 : Int32) S2).2)) else some (false, S2))))
set_option maxHeartbeats 4000000 in
set_option maxRecDepth 100000 in
theorem w_X3_readRain {l : Launch} {g : XG}  {a0 : Nat} {S : XS} (hk0 : kd a0 = 3) : Cl φB l g 4 mX3_readRain [.ref a0] S (f_X3_readRain a0 S) := by
  refine Cl.of (by decide +kernel) (Nat.le_of_ble_eq_true rfl) ?_
  unfold f_X3_readRain
  show X _ _ _ _ _ 0 [(0, .ref a0)] [] S _
  refine X_aload_n (n := 1) 0 (kX3_readRain 0 rfl) rfl rfl rfl ?_
  refine X_getR (n := 4) xf_X3 hk0 (by decide) fl_X3_25 rfl (kX3_readRain 1 rfl) rfl ?_
  refine X_iconst (n := 5) (v := 1) (kX3_readRain 2 rfl) rfl (by decide) ?_
  refine X_bipush (n := 7) (v := 60) (kX3_readRain 3 rfl) rfl (by decide) ?_
  refine X_callVB (n := 10) (As := [.int (1 : Int32), .int (60 : Int32)]) (st := []) (kX3_readRain 4 rfl) rfl (w_X8_takeNumber (kt_3_0 hk0)) (by decide) ml_X3_97 mf_X8_takeNumber rfl (kt_3_0 hk0) xf_X8 rfl (Nat.le_of_ble_eq_true rfl) (fun r1 S2 hq => ?_)
  try dsimp only
  refine X_bn (n := 13) (tgt := 15) (kX3_readRain 5 rfl) rfl rfl (fun h3 => ?_) (fun h3 => ?_)
  · refine X_aload_n (n := 16) 0 (kX3_readRain 8 rfl) rfl rfl rfl ?_
    refine X_getR (n := 19) xf_X3 hk0 (by decide) fl_X3_12 rfl (kX3_readRain 9 rfl) rfl ?_
    refine X_getR (n := 22) xf_X2 (kt_3_1 hk0) (by decide) fl_X3_132 rfl (kX3_readRain 10 rfl) rfl ?_
    refine X_aload_n (n := 23) 0 (kX3_readRain 11 rfl) rfl rfl rfl ?_
    refine X_getR (n := 26) xf_X3 hk0 (by decide) fl_X3_25 rfl (kX3_readRain 12 rfl) rfl ?_
    refine X_getI (n := 29) xf_X8 (kt_3_0 hk0) (by decide) fl_X3_94 rfl (kX3_readRain 13 rfl) rfl ?_
    refine X_callN1I (n := 32) (As := [.ref (rf (rf a0 1) 7), .int (S2.1 (rf a0 0) 11)]) (st := []) (kX3_readRain 14 rfl) rfl (p_X11_at (kt_2_7 (kt_3_1 hk0))) (by decide) nl_X3_62 mf_X11_at rfl rfl (Nat.le_of_ble_eq_true rfl) ?_
    refine X_if_eq (n := 35) (tgt := 44) (kX3_readRain 15 rfl) rfl rfl (fun h4 => ?_) (fun h4 => ?_)
    · refine X_aload_n (n := 45) 0 (kX3_readRain 21 rfl) rfl rfl rfl ?_
      refine X_getR (n := 48) xf_X3 hk0 (by decide) fl_X3_12 rfl (kX3_readRain 22 rfl) rfl ?_
      refine X_getR (n := 51) xf_X2 (kt_3_1 hk0) (by decide) fl_X3_132 rfl (kX3_readRain 23 rfl) rfl ?_
      refine X_aload_n (n := 52) 0 (kX3_readRain 24 rfl) rfl rfl rfl ?_
      refine X_getR (n := 55) xf_X3 hk0 (by decide) fl_X3_25 rfl (kX3_readRain 25 rfl) rfl ?_
      refine X_getI (n := 58) xf_X8 (kt_3_0 hk0) (by decide) fl_X3_94 rfl (kX3_readRain 26 rfl) rfl ?_
      refine X_iconst (n := 59) (v := 1) (kX3_readRain 27 rfl) rfl (by decide) ?_
      refine X_callN1V (n := 62) (As := [.ref (rf (rf a0 1) 7), .int (S2.1 (rf a0 0) 11), .int (1 : Int32)]) (st := []) (kX3_readRain 28 rfl) rfl (p_X11_put (kt_2_7 (kt_3_1 hk0))) (by decide) nl_X3_104 mf_X11_put rfl rfl (Nat.le_of_ble_eq_true rfl) ?_
      refine X_aload_n (n := 63) 0 (kX3_readRain 29 rfl) rfl rfl rfl ?_
      refine X_iconst (n := 64) (v := 5) (kX3_readRain 30 rfl) rfl (by decide) ?_
      refine X_callV1B (n := 67) (As := [.int (5 : Int32)]) (st := []) (kX3_readRain 31 rfl) rfl (p_X3_addLine hk0) (by decide) ml_X3_126 mf_X3_addLine rfl hk0 xf_X3 rfl (Nat.le_of_ble_eq_true rfl) ?_
      exact X_zret (b := (t_X3_addLine a0 (5 : Int32) (pat S2 (rf (rf a0 1) 7) (S2.1 (rf a0 0) 11) (1 : Int32))).1) rfl (kX3_readRain 32 rfl)
    · refine X_aload_n (n := 36) 0 (kX3_readRain 16 rfl) rfl rfl rfl ?_
      refine X_getR (n := 39) xf_X3 hk0 (by decide) fl_X3_25 rfl (kX3_readRain 17 rfl) rfl ?_
      refine X_iconst (n := 40) (v := 3) (kX3_readRain 18 rfl) rfl (by decide) ?_
      refine X_callV1B (n := 43) (As := [.int (3 : Int32)]) (st := []) (kX3_readRain 19 rfl) rfl (p_X8_failAtTaken (kt_3_0 hk0)) (by decide) ml_X3_114 mf_X8_failAtTaken rfl (kt_3_0 hk0) xf_X8 rfl (Nat.le_of_ble_eq_true rfl) ?_
      exact X_zret (b := (t_X8_failAtTaken (rf a0 0) (3 : Int32) S2).1) rfl (kX3_readRain 20 rfl)
  · refine X_iconst (n := 14) (v := 0) (kX3_readRain 6 rfl) rfl (by decide) ?_
    exact X_zret (b := false) rfl (kX3_readRain 7 rfl)
def f_X5_readLine  (a0 : Nat) (a1 : Nat) (a2 : Nat) (a3 : Nat) (i4 : Int32) (S : XS) : Option (Bool × XS) := ((f_X8_takeTold a1 a2 (2 : Int32) S).bind (fun q => match q with | (r1, S2) => (if r1 = true then (if i4 < (30 : Int32) then (if (S2.1 a1 10) = (134 : Int32) then ((f_X8_takeTold a1 a2 (t_X5_sortOf (S2.1 a1 10)) (t_X8_step a1 S2)).bind (fun q => match q with | (r6, S7) => (if r6 = true then ((if (S7.1 a0 0) = (-1 : Int32) then (if (t_X5_isSo a3 (S2.1 a1 11) (S2.1 a1 10) (S7.1 a1 11) S7) = true then some S7 else some (sI S7 a0 0 i4)) else some S7).bind (fun S9 => some ((t_X8_take a1 (59 : Int32) S9).1, (t_X8_take a1 (59 : Int32) S9).2))) else some (false, S7)))) else (if (S2.1 a1 10) = (135 : Int32) then ((f_X8_takeTold a1 a2 (t_X5_sortOf (S2.1 a1 10)) (t_X8_step a1 S2)).bind (fun q => match q with | (r13, S14) => (if r13 = true then ((if (S14.1 a0 0) = (-1 : Int32) then (if (t_X5_isSo a3 (S2.1 a1 11) (S2.1 a1 10) (S14.1 a1 11) S14) = true then some S14 else some (sI S14 a0 0 i4)) else some S14).bind (fun S16 => some ((t_X8_take a1 (59 : Int32) S16).1, (t_X8_take a1 (59 : Int32) S16).2))) else some (false, S14)))) else (if (S2.1 a1 10) = (136 : Int32) then ((f_X8_takeTold a1 a2 (t_X5_sortOf (S2.1 a1 10)) (t_X8_step a1 S2)).bind (fun q => match q with | (r20, S21) => (if r20 = true then ((if (S21.1 a0 0) = (-1 : Int32) then (if (t_X5_isSo a3 (S2.1 a1 11) (S2.1 a1 10) (S21.1 a1 11) S21) = true then some S21 else some (sI S21 a0 0 i4)) else some S21).bind (fun S23 => some ((t_X8_take a1 (59 : Int32) S23).1, (t_X8_take a1 (59 : Int32) S23).2))) else some (false, S21)))) else some ((t_X8_fail a1 (1 : Int32) S2).1, (t_X8_fail a1 (1 : Int32) S2).2)))) else some ((t_X8_failAtTaken a1 (4 : Int32) S2).1, (t_X8_failAtTaken a1 (4 : Int32) S2).2)) else some (false, S2))))
set_option maxHeartbeats 4000000 in
set_option maxRecDepth 100000 in
theorem w_X5_readLine {l : Launch} {g : XG}  {a0 : Nat} {a1 : Nat} {a2 : Nat} {a3 : Nat} {i4 : Int32} {S : XS} (hk0 : kd a0 = 5) (hk1 : kd a1 = 8) (hk2 : kd a2 = 2) (hk3 : kd a3 = 10) : Cl φB l g 4 mX5_readLine [.ref a0, .ref a1, .ref a2, .ref a3, .int i4] S (f_X5_readLine a0 a1 a2 a3 i4 S) := by
  refine Cl.of (by decide +kernel) (Nat.le_of_ble_eq_true rfl) ?_
  unfold f_X5_readLine
  show X _ _ _ _ _ 0 [(0, .ref a0), (1, .ref a1), (2, .ref a2), (3, .ref a3), (4, .int i4)] [] S _
  refine X_aload_n (n := 1) 1 (kX5_readLine 0 rfl) rfl rfl rfl ?_
  refine X_aload_n (n := 2) 2 (kX5_readLine 1 rfl) rfl rfl rfl ?_
  refine X_iconst (n := 3) (v := 2) (kX5_readLine 2 rfl) rfl (by decide) ?_
  refine X_callVB (n := 6) (As := [.ref a2, .int (2 : Int32)]) (st := []) (kX5_readLine 3 rfl) rfl (w_X8_takeTold hk1 hk2) (by decide) ml_X5_28 mf_X8_takeTold rfl hk1 xf_X8 rfl (Nat.le_of_ble_eq_true rfl) (fun r1 S2 hq => ?_)
  try dsimp only
  refine X_bn (n := 9) (tgt := 11) (kX5_readLine 4 rfl) rfl rfl (fun h3 => ?_) (fun h3 => ?_)
  · refine X_iload (n := 13) 4 (kX5_readLine 7 rfl) rfl rfl ?_
    refine X_bipush (n := 15) (v := 30) (kX5_readLine 8 rfl) rfl (by decide) ?_
    refine X_ic_lt (n := 18) (tgt := 24) (kX5_readLine 9 rfl) rfl rfl (fun h4 => ?_) (fun h4 => ?_)
    · refine X_aload_n (n := 25) 1 (kX5_readLine 14 rfl) rfl rfl rfl ?_
      refine X_getI (n := 28) xf_X8 hk1 (by decide) fl_X5_36 rfl (kX5_readLine 15 rfl) rfl ?_
      refine X_istore (n := 30) (L1 := [(5, .int (S2.1 a1 11)), (0, .ref a0), (1, .ref a1), (2, .ref a2), (3, .ref a3), (4, .int i4)]) (kX5_readLine 16 rfl) rfl (Nat.le_of_ble_eq_true rfl) rfl ?_
      refine X_aload_n (n := 31) 2 (kX5_readLine 17 rfl) rfl rfl rfl ?_
      refine X_getI (n := 34) xf_X8 hk1 (by decide) fl_X5_21 rfl (kX5_readLine 18 rfl) rfl ?_
      refine X_istore (n := 36) (L1 := [(6, .int (S2.1 a1 10)), (5, .int (S2.1 a1 11)), (0, .ref a0), (1, .ref a1), (2, .ref a2), (3, .ref a3), (4, .int i4)]) (kX5_readLine 19 rfl) rfl (Nat.le_of_ble_eq_true rfl) rfl ?_
      refine X_iload (n := 38) 0 (kX5_readLine 20 rfl) rfl rfl ?_
      refine X_sipush (n := 41) (v := 134) (kX5_readLine 21 rfl) rfl (by decide) ?_
      refine X_ic_eq (n := 44) (tgt := 66) (kX5_readLine 22 rfl) rfl rfl (fun h5 => ?_) (fun h5 => ?_)
      · refine X_aload_n (n := 67) 3 (kX5_readLine 33 rfl) rfl rfl rfl ?_
        refine X_callV1V (n := 70) (As := []) (st := []) (kX5_readLine 34 rfl) rfl (p_X8_step hk1) (by decide) ml_X5_42 mf_X8_step rfl hk1 xf_X8 rfl (Nat.le_of_ble_eq_true rfl) ?_
        refine X_aload_n (n := 71) 3 (kX5_readLine 35 rfl) rfl rfl rfl ?_
        refine X_aload_n (n := 72) 4 (kX5_readLine 36 rfl) rfl rfl rfl ?_
        refine X_iload (n := 74) 0 (kX5_readLine 37 rfl) rfl rfl ?_
        refine X_callS1I (n := 77) (As := [.int (S2.1 a1 10)]) (st := [.ref a2, .ref a1]) (kX5_readLine 38 rfl) rfl p_X5_sortOf (by decide) ml_X5_45 mf_X5_sortOf rfl rfl (Nat.le_of_ble_eq_true rfl) ?_
        refine X_callVB (n := 80) (As := [.ref a2, .int (t_X5_sortOf (S2.1 a1 10))]) (st := []) (kX5_readLine 39 rfl) rfl (w_X8_takeTold hk1 hk2) (by decide) ml_X5_28 mf_X8_takeTold rfl hk1 xf_X8 rfl (Nat.le_of_ble_eq_true rfl) (fun r6 S7 hq => ?_)
        try dsimp only
        refine X_bn (n := 83) (tgt := 85) (kX5_readLine 40 rfl) rfl rfl (fun h8 => ?_) (fun h8 => ?_)
        · refine X_aload_n (n := 86) 2 (kX5_readLine 43 rfl) rfl rfl rfl ?_
          refine X_getI (n := 89) xf_X5 hk0 (by decide) fl_X5_9 rfl (kX5_readLine 44 rfl) rfl ?_
          refine X_iconst (n := 90) (v := (-1)) (kX5_readLine 45 rfl) rfl (by decide) ?_
          refine X_join 114 (fun S9 => [(1, .ref a1)]) (fun S9 => []) (fun S9 => S9) (fun S9 => ?_) (fun kJ => ?_)
          · try dsimp only
            refine X_aload_n (n := 115) 0 (kX5_readLine 57 rfl) rfl rfl rfl ?_
            refine X_bipush (n := 117) (v := 59) (kX5_readLine 58 rfl) rfl (by decide) ?_
            refine X_callV1B (n := 120) (As := [.int (59 : Int32)]) (st := []) (kX5_readLine 59 rfl) rfl (p_X8_take hk1) (by decide) ml_X5_53 mf_X8_take rfl hk1 xf_X8 rfl (Nat.le_of_ble_eq_true rfl) ?_
            exact X_zret (b := (t_X8_take a1 (59 : Int32) S9).1) rfl (kX5_readLine 60 rfl)
          · refine X_itebind ?_
            refine X_ic_ne (n := 93) (tgt := 114) (kX5_readLine 46 rfl) rfl rfl (fun h10 => ?_) (fun h10 => ?_)
            · refine X_aload_n (n := 94) 5 (kX5_readLine 47 rfl) rfl rfl rfl ?_
              refine X_iload (n := 96) 1 (kX5_readLine 48 rfl) rfl rfl ?_
              refine X_iload (n := 98) 0 (kX5_readLine 49 rfl) rfl rfl ?_
              refine X_aload_n (n := 99) 3 (kX5_readLine 50 rfl) rfl rfl rfl ?_
              refine X_getI (n := 102) xf_X8 hk1 (by decide) fl_X5_36 rfl (kX5_readLine 51 rfl) rfl ?_
              refine X_callS1B (n := 105) (As := [.ref a3, .int (S2.1 a1 11), .int (S2.1 a1 10), .int (S7.1 a1 11)]) (st := []) (kX5_readLine 52 rfl) rfl (p_X5_isSo hk3) (by decide) ml_X5_49 mf_X5_isSo rfl rfl (Nat.le_of_ble_eq_true rfl) ?_
              refine X_itebind ?_
              refine X_bn (n := 108) (tgt := 114) (kX5_readLine 53 rfl) rfl rfl (fun h11 => ?_) (fun h11 => ?_)
              · exact X_L [3] rfl (kJ S7)
              · refine X_aload_n (n := 109) 2 (kX5_readLine 54 rfl) rfl rfl rfl ?_
                refine X_iload (n := 111) 6 (kX5_readLine 55 rfl) rfl rfl ?_
                refine X_putI (n := 114) xf_X5 hk0 (by decide) fl_X5_9 rfl rfl (Or.inl rfl) (kX5_readLine 56 rfl) rfl ?_
                exact X_L [3] rfl (kJ (sI S7 a0 0 i4))
            · exact X_L [3] rfl (kJ S7)
        · refine X_iconst (n := 84) (v := 0) (kX5_readLine 41 rfl) rfl (by decide) ?_
          exact X_zret (b := false) rfl (kX5_readLine 42 rfl)
      · refine X_iload (n := 46) 0 (kX5_readLine 23 rfl) rfl rfl ?_
        refine X_sipush (n := 49) (v := 135) (kX5_readLine 24 rfl) rfl (by decide) ?_
        refine X_ic_eq (n := 52) (tgt := 66) (kX5_readLine 25 rfl) rfl rfl (fun h12 => ?_) (fun h12 => ?_)
        · refine X_aload_n (n := 67) 3 (kX5_readLine 33 rfl) rfl rfl rfl ?_
          refine X_callV1V (n := 70) (As := []) (st := []) (kX5_readLine 34 rfl) rfl (p_X8_step hk1) (by decide) ml_X5_42 mf_X8_step rfl hk1 xf_X8 rfl (Nat.le_of_ble_eq_true rfl) ?_
          refine X_aload_n (n := 71) 3 (kX5_readLine 35 rfl) rfl rfl rfl ?_
          refine X_aload_n (n := 72) 4 (kX5_readLine 36 rfl) rfl rfl rfl ?_
          refine X_iload (n := 74) 0 (kX5_readLine 37 rfl) rfl rfl ?_
          refine X_callS1I (n := 77) (As := [.int (S2.1 a1 10)]) (st := [.ref a2, .ref a1]) (kX5_readLine 38 rfl) rfl p_X5_sortOf (by decide) ml_X5_45 mf_X5_sortOf rfl rfl (Nat.le_of_ble_eq_true rfl) ?_
          refine X_callVB (n := 80) (As := [.ref a2, .int (t_X5_sortOf (S2.1 a1 10))]) (st := []) (kX5_readLine 39 rfl) rfl (w_X8_takeTold hk1 hk2) (by decide) ml_X5_28 mf_X8_takeTold rfl hk1 xf_X8 rfl (Nat.le_of_ble_eq_true rfl) (fun r13 S14 hq => ?_)
          try dsimp only
          refine X_bn (n := 83) (tgt := 85) (kX5_readLine 40 rfl) rfl rfl (fun h15 => ?_) (fun h15 => ?_)
          · refine X_aload_n (n := 86) 2 (kX5_readLine 43 rfl) rfl rfl rfl ?_
            refine X_getI (n := 89) xf_X5 hk0 (by decide) fl_X5_9 rfl (kX5_readLine 44 rfl) rfl ?_
            refine X_iconst (n := 90) (v := (-1)) (kX5_readLine 45 rfl) rfl (by decide) ?_
            refine X_join 114 (fun S16 => [(1, .ref a1)]) (fun S16 => []) (fun S16 => S16) (fun S16 => ?_) (fun kJ => ?_)
            · try dsimp only
              refine X_aload_n (n := 115) 0 (kX5_readLine 57 rfl) rfl rfl rfl ?_
              refine X_bipush (n := 117) (v := 59) (kX5_readLine 58 rfl) rfl (by decide) ?_
              refine X_callV1B (n := 120) (As := [.int (59 : Int32)]) (st := []) (kX5_readLine 59 rfl) rfl (p_X8_take hk1) (by decide) ml_X5_53 mf_X8_take rfl hk1 xf_X8 rfl (Nat.le_of_ble_eq_true rfl) ?_
              exact X_zret (b := (t_X8_take a1 (59 : Int32) S16).1) rfl (kX5_readLine 60 rfl)
            · refine X_itebind ?_
              refine X_ic_ne (n := 93) (tgt := 114) (kX5_readLine 46 rfl) rfl rfl (fun h17 => ?_) (fun h17 => ?_)
              · refine X_aload_n (n := 94) 5 (kX5_readLine 47 rfl) rfl rfl rfl ?_
                refine X_iload (n := 96) 1 (kX5_readLine 48 rfl) rfl rfl ?_
                refine X_iload (n := 98) 0 (kX5_readLine 49 rfl) rfl rfl ?_
                refine X_aload_n (n := 99) 3 (kX5_readLine 50 rfl) rfl rfl rfl ?_
                refine X_getI (n := 102) xf_X8 hk1 (by decide) fl_X5_36 rfl (kX5_readLine 51 rfl) rfl ?_
                refine X_callS1B (n := 105) (As := [.ref a3, .int (S2.1 a1 11), .int (S2.1 a1 10), .int (S14.1 a1 11)]) (st := []) (kX5_readLine 52 rfl) rfl (p_X5_isSo hk3) (by decide) ml_X5_49 mf_X5_isSo rfl rfl (Nat.le_of_ble_eq_true rfl) ?_
                refine X_itebind ?_
                refine X_bn (n := 108) (tgt := 114) (kX5_readLine 53 rfl) rfl rfl (fun h18 => ?_) (fun h18 => ?_)
                · exact X_L [3] rfl (kJ S14)
                · refine X_aload_n (n := 109) 2 (kX5_readLine 54 rfl) rfl rfl rfl ?_
                  refine X_iload (n := 111) 6 (kX5_readLine 55 rfl) rfl rfl ?_
                  refine X_putI (n := 114) xf_X5 hk0 (by decide) fl_X5_9 rfl rfl (Or.inl rfl) (kX5_readLine 56 rfl) rfl ?_
                  exact X_L [3] rfl (kJ (sI S14 a0 0 i4))
              · exact X_L [3] rfl (kJ S14)
          · refine X_iconst (n := 84) (v := 0) (kX5_readLine 41 rfl) rfl (by decide) ?_
            exact X_zret (b := false) rfl (kX5_readLine 42 rfl)
        · refine X_iload (n := 54) 0 (kX5_readLine 26 rfl) rfl rfl ?_
          refine X_sipush (n := 57) (v := 136) (kX5_readLine 27 rfl) rfl (by decide) ?_
          refine X_ic_eq (n := 60) (tgt := 66) (kX5_readLine 28 rfl) rfl rfl (fun h19 => ?_) (fun h19 => ?_)
          · refine X_aload_n (n := 67) 3 (kX5_readLine 33 rfl) rfl rfl rfl ?_
            refine X_callV1V (n := 70) (As := []) (st := []) (kX5_readLine 34 rfl) rfl (p_X8_step hk1) (by decide) ml_X5_42 mf_X8_step rfl hk1 xf_X8 rfl (Nat.le_of_ble_eq_true rfl) ?_
            refine X_aload_n (n := 71) 3 (kX5_readLine 35 rfl) rfl rfl rfl ?_
            refine X_aload_n (n := 72) 4 (kX5_readLine 36 rfl) rfl rfl rfl ?_
            refine X_iload (n := 74) 0 (kX5_readLine 37 rfl) rfl rfl ?_
            refine X_callS1I (n := 77) (As := [.int (S2.1 a1 10)]) (st := [.ref a2, .ref a1]) (kX5_readLine 38 rfl) rfl p_X5_sortOf (by decide) ml_X5_45 mf_X5_sortOf rfl rfl (Nat.le_of_ble_eq_true rfl) ?_
            refine X_callVB (n := 80) (As := [.ref a2, .int (t_X5_sortOf (S2.1 a1 10))]) (st := []) (kX5_readLine 39 rfl) rfl (w_X8_takeTold hk1 hk2) (by decide) ml_X5_28 mf_X8_takeTold rfl hk1 xf_X8 rfl (Nat.le_of_ble_eq_true rfl) (fun r20 S21 hq => ?_)
            try dsimp only
            refine X_bn (n := 83) (tgt := 85) (kX5_readLine 40 rfl) rfl rfl (fun h22 => ?_) (fun h22 => ?_)
            · refine X_aload_n (n := 86) 2 (kX5_readLine 43 rfl) rfl rfl rfl ?_
              refine X_getI (n := 89) xf_X5 hk0 (by decide) fl_X5_9 rfl (kX5_readLine 44 rfl) rfl ?_
              refine X_iconst (n := 90) (v := (-1)) (kX5_readLine 45 rfl) rfl (by decide) ?_
              refine X_join 114 (fun S23 => [(1, .ref a1)]) (fun S23 => []) (fun S23 => S23) (fun S23 => ?_) (fun kJ => ?_)
              · try dsimp only
                refine X_aload_n (n := 115) 0 (kX5_readLine 57 rfl) rfl rfl rfl ?_
                refine X_bipush (n := 117) (v := 59) (kX5_readLine 58 rfl) rfl (by decide) ?_
                refine X_callV1B (n := 120) (As := [.int (59 : Int32)]) (st := []) (kX5_readLine 59 rfl) rfl (p_X8_take hk1) (by decide) ml_X5_53 mf_X8_take rfl hk1 xf_X8 rfl (Nat.le_of_ble_eq_true rfl) ?_
                exact X_zret (b := (t_X8_take a1 (59 : Int32) S23).1) rfl (kX5_readLine 60 rfl)
              · refine X_itebind ?_
                refine X_ic_ne (n := 93) (tgt := 114) (kX5_readLine 46 rfl) rfl rfl (fun h24 => ?_) (fun h24 => ?_)
                · refine X_aload_n (n := 94) 5 (kX5_readLine 47 rfl) rfl rfl rfl ?_
                  refine X_iload (n := 96) 1 (kX5_readLine 48 rfl) rfl rfl ?_
                  refine X_iload (n := 98) 0 (kX5_readLine 49 rfl) rfl rfl ?_
                  refine X_aload_n (n := 99) 3 (kX5_readLine 50 rfl) rfl rfl rfl ?_
                  refine X_getI (n := 102) xf_X8 hk1 (by decide) fl_X5_36 rfl (kX5_readLine 51 rfl) rfl ?_
                  refine X_callS1B (n := 105) (As := [.ref a3, .int (S2.1 a1 11), .int (S2.1 a1 10), .int (S21.1 a1 11)]) (st := []) (kX5_readLine 52 rfl) rfl (p_X5_isSo hk3) (by decide) ml_X5_49 mf_X5_isSo rfl rfl (Nat.le_of_ble_eq_true rfl) ?_
                  refine X_itebind ?_
                  refine X_bn (n := 108) (tgt := 114) (kX5_readLine 53 rfl) rfl rfl (fun h25 => ?_) (fun h25 => ?_)
                  · exact X_L [3] rfl (kJ S21)
                  · refine X_aload_n (n := 109) 2 (kX5_readLine 54 rfl) rfl rfl rfl ?_
                    refine X_iload (n := 111) 6 (kX5_readLine 55 rfl) rfl rfl ?_
                    refine X_putI (n := 114) xf_X5 hk0 (by decide) fl_X5_9 rfl rfl (Or.inl rfl) (kX5_readLine 56 rfl) rfl ?_
                    exact X_L [3] rfl (kJ (sI S21 a0 0 i4))
                · exact X_L [3] rfl (kJ S21)
            · refine X_iconst (n := 84) (v := 0) (kX5_readLine 41 rfl) rfl (by decide) ?_
              exact X_zret (b := false) rfl (kX5_readLine 42 rfl)
          · refine X_aload_n (n := 61) 3 (kX5_readLine 29 rfl) rfl rfl rfl ?_
            refine X_iconst (n := 62) (v := 1) (kX5_readLine 30 rfl) rfl (by decide) ?_
            refine X_callV1B (n := 65) (As := [.int (1 : Int32)]) (st := []) (kX5_readLine 31 rfl) rfl (p_X8_fail hk1) (by decide) ml_X5_39 mf_X8_fail rfl hk1 xf_X8 rfl (Nat.le_of_ble_eq_true rfl) ?_
            exact X_zret (b := (t_X8_fail a1 (1 : Int32) S2).1) rfl (kX5_readLine 32 rfl)
    · refine X_aload_n (n := 19) 1 (kX5_readLine 10 rfl) rfl rfl rfl ?_
      refine X_iconst (n := 20) (v := 4) (kX5_readLine 11 rfl) rfl (by decide) ?_
      refine X_callV1B (n := 23) (As := [.int (4 : Int32)]) (st := []) (kX5_readLine 12 rfl) rfl (p_X8_failAtTaken hk1) (by decide) ml_X5_32 mf_X8_failAtTaken rfl hk1 xf_X8 rfl (Nat.le_of_ble_eq_true rfl) ?_
      exact X_zret (b := (t_X8_failAtTaken a1 (4 : Int32) S2).1) rfl (kX5_readLine 13 rfl)
  · refine X_iconst (n := 10) (v := 0) (kX5_readLine 5 rfl) rfl (by decide) ?_
    exact X_zret (b := false) rfl (kX5_readLine 6 rfl)
def f_X6_holds  (a0 : Nat) (a1 : Nat) (a2 : Nat) (i3 : Int32) (i4 : Int32) (S : XS) : Option (Bool × XS) := (if (gat S (rf a0 0) i4) = 134 then (if (gat S (rf a2 1) i3) = (gat S (rf a0 2) i4) then some (true, S) else some (false, S)) else (if (gat S (rf a0 0) i4) = 135 then (if (gat S (rf a2 3) (((gat S (rf a2 2) i3) * (6 : Int32)) + (gat S (rf a0 2) i4))) ≤ 0 then some (false, S) else some (true, S)) else (if (gat S (rf a0 0) i4) = 136 then some ((t_X6_compares (gat S (rf a1 4) (gat S (rf a2 2) i3)) (gat S (rf a0 1) i4) (gat S (rf a0 2) i4)), S) else (if (gat S (rf a0 0) i4) = 137 then some ((t_X6_compares (gat S (rf a1 4) (gat S (rf a2 2) i3)) (gat S (rf a0 1) i4) (gat S (rf a0 2) i4)), S) else (if (gat S (rf a0 0) i4) = 138 then some ((t_X6_compares (gat S (rf a1 4) (gat S (rf a2 2) i3)) (gat S (rf a0 1) i4) (gat S (rf a0 2) i4)), S) else (if (gat S (rf a0 0) i4) = 139 then some ((t_X6_compares (gat S (rf a1 4) (gat S (rf a2 2) i3)) (gat S (rf a0 1) i4) (gat S (rf a0 2) i4)), S) else (if (gat S (rf a0 0) i4) = 140 then ((f_X11_total (rf a2 3) (gat S (rf a2 2) i3) S).bind (fun q => match q with | (r3, S4) => (if r3 = 0 then some (true, S4) else some (false, S4)))) else (if (gat S (rf a0 0) i4) = 141 then (if (gat S (rf a2 2) i3) = i3 then some (true, S) else some (false, S)) else (if (gat S (rf a0 0) i4) = 142 then ((f_X11_total (rf a2 3) (gat S (rf a2 2) i3) S).bind (fun q => match q with | (r7, S8) => some ((t_X6_compares r7 (gat S8 (rf a0 1) i4) (gat S (rf a0 2) i4)), S8))) else (if (gat S (rf a0 0) i4) = 143 then ((f_X6_most a2 (gat S (rf a2 2) i3) S).bind (fun q => match q with | (r9, S10) => some ((t_X6_compares r9 (gat S10 (rf a0 1) i4) (gat S (rf a0 2) i4)), S10))) else some ((t_X6_compares (gat S (rf a1 4) (gat S (rf a2 2) i3)) (gat S (rf a0 1) i4) (gat S (rf a0 2) i4)), S)))))))))))
set_option maxHeartbeats 4000000 in
set_option maxRecDepth 100000 in
theorem w_X6_holds {l : Launch} {g : XG}  {a0 : Nat} {a1 : Nat} {a2 : Nat} {i3 : Int32} {i4 : Int32} {S : XS} (hk0 : kd a0 = 6) (hk1 : kd a1 = 2) (hk2 : kd a2 = 10) : Cl φB l g 4 mX6_holds [.ref a0, .ref a1, .ref a2, .int i3, .int i4] S (f_X6_holds a0 a1 a2 i3 i4 S) := by
  refine Cl.of (by decide +kernel) (Nat.le_of_ble_eq_true rfl) ?_
  unfold f_X6_holds
  show X _ _ _ _ _ 0 [(0, .ref a0), (1, .ref a1), (2, .ref a2), (3, .int i3), (4, .int i4)] [] S _
  refine X_aload_n (n := 1) 2 (kX6_holds 0 rfl) rfl rfl rfl ?_
  refine X_getR (n := 4) xf_X10 hk2 (by decide) fl_X6_49 rfl (kX6_holds 1 rfl) rfl ?_
  refine X_iload_n (n := 5) 3 (kX6_holds 2 rfl) rfl rfl rfl ?_
  refine X_callN1I (n := 8) (As := [.ref (rf a2 2), .int i3]) (st := []) (kX6_holds 3 rfl) rfl (p_X11_at (kt_10_2 hk2)) (by decide) nl_X6_39 mf_X11_at rfl rfl (Nat.le_of_ble_eq_true rfl) ?_
  refine X_istore (n := 10) (L1 := [(5, .int (gat S (rf a2 2) i3)), (0, .ref a0), (1, .ref a1), (2, .ref a2), (3, .int i3), (4, .int i4)]) (kX6_holds 4 rfl) rfl (Nat.le_of_ble_eq_true rfl) rfl ?_
  refine X_aload_n (n := 11) 1 (kX6_holds 5 rfl) rfl rfl rfl ?_
  refine X_getR (n := 14) xf_X6 hk0 (by decide) fl_X6_18 rfl (kX6_holds 6 rfl) rfl ?_
  refine X_iload (n := 16) 5 (kX6_holds 7 rfl) rfl rfl ?_
  refine X_callN1I (n := 19) (As := [.ref (rf a0 2), .int i4]) (st := []) (kX6_holds 8 rfl) rfl (p_X11_at (kt_6_2 hk0)) (by decide) nl_X6_39 mf_X11_at rfl rfl (Nat.le_of_ble_eq_true rfl) ?_
  refine X_istore (n := 21) (L1 := [(6, .int (gat S (rf a0 2) i4)), (5, .int (gat S (rf a2 2) i3)), (0, .ref a0), (1, .ref a1), (2, .ref a2), (3, .int i3), (4, .int i4)]) (kX6_holds 9 rfl) rfl (Nat.le_of_ble_eq_true rfl) rfl ?_
  refine X_aload_n (n := 22) 2 (kX6_holds 10 rfl) rfl rfl rfl ?_
  refine X_getR (n := 25) xf_X6 hk0 (by decide) fl_X6_9 rfl (kX6_holds 11 rfl) rfl ?_
  refine X_iload (n := 27) 6 (kX6_holds 12 rfl) rfl rfl ?_
  refine X_callN1I (n := 30) (As := [.ref (rf a0 0), .int i4]) (st := []) (kX6_holds 13 rfl) rfl (p_X11_at (kt_6_0 hk0)) (by decide) nl_X6_39 mf_X11_at rfl rfl (Nat.le_of_ble_eq_true rfl) ?_
  refine X_ite (fun hc134 => ?_) (fun nc134 => ?_)
  · refine X_tabIn (tgt := 114) 134 (xI_of 134 hc134 (by decide)) (kX6_holds 14 rfl) (by decide) (by decide) rfl rfl ?_
    refine X_aload_n (n := 115) 4 (kX6_holds 31 rfl) rfl rfl rfl ?_
    refine X_getR (n := 118) xf_X10 hk2 (by decide) fl_X6_60 rfl (kX6_holds 32 rfl) rfl ?_
    refine X_iload_n (n := 119) 5 (kX6_holds 33 rfl) rfl rfl rfl ?_
    refine X_callN1I (n := 122) (As := [.ref (rf a2 1), .int i3]) (st := []) (kX6_holds 34 rfl) rfl (p_X11_at (kt_10_1 hk2)) (by decide) nl_X6_39 mf_X11_at rfl rfl (Nat.le_of_ble_eq_true rfl) ?_
    refine X_iload (n := 124) 0 (kX6_holds 35 rfl) rfl rfl ?_
    refine X_ic_ne (n := 127) (tgt := 131) (kX6_holds 36 rfl) rfl rfl (fun h1 => ?_) (fun h1 => ?_)
    · refine X_iconst (n := 128) (v := 1) (kX6_holds 37 rfl) rfl (by decide) ?_
      refine X_goto (tgt := 132) (kX6_holds 38 rfl) rfl ?_
      exact X_zret (b := true) rfl (kX6_holds 40 rfl)
    · refine X_iconst (n := 132) (v := 0) (kX6_holds 39 rfl) rfl (by decide) ?_
      exact X_zret (b := false) rfl (kX6_holds 40 rfl)
  · refine X_ite (fun hc135 => ?_) (fun nc135 => ?_)
    · refine X_tabIn (tgt := 133) 135 (xI_of 135 hc135 (by decide)) (kX6_holds 14 rfl) (by decide) (by decide) rfl rfl ?_
      refine X_aload_n (n := 134) 4 (kX6_holds 41 rfl) rfl rfl rfl ?_
      refine X_getR (n := 137) xf_X10 hk2 (by decide) fl_X6_54 rfl (kX6_holds 42 rfl) rfl ?_
      refine X_iload (n := 139) 1 (kX6_holds 43 rfl) rfl rfl ?_
      refine X_bipush (n := 141) (v := 6) (kX6_holds 44 rfl) rfl (by decide) ?_
      refine X_imul (n := 142) (kX6_holds 45 rfl) rfl ?_
      refine X_iload (n := 144) 0 (kX6_holds 46 rfl) rfl rfl ?_
      refine X_iadd (n := 145) (kX6_holds 47 rfl) rfl ?_
      refine X_callN1I (n := 148) (As := [.ref (rf a2 3), .int (((gat S (rf a2 2) i3) * (6 : Int32)) + (gat S (rf a0 2) i4))]) (st := []) (kX6_holds 48 rfl) rfl (p_X11_at (kt_10_3 hk2)) (by decide) nl_X6_39 mf_X11_at rfl rfl (Nat.le_of_ble_eq_true rfl) ?_
      refine X_if_le (n := 151) (tgt := 155) (kX6_holds 49 rfl) rfl rfl (fun h2 => ?_) (fun h2 => ?_)
      · refine X_iconst (n := 156) (v := 0) (kX6_holds 52 rfl) rfl (by decide) ?_
        exact X_zret (b := false) rfl (kX6_holds 53 rfl)
      · refine X_iconst (n := 152) (v := 1) (kX6_holds 50 rfl) rfl (by decide) ?_
        refine X_goto (tgt := 156) (kX6_holds 51 rfl) rfl ?_
        exact X_zret (b := true) rfl (kX6_holds 53 rfl)
    · refine X_ite (fun hc136 => ?_) (fun nc136 => ?_)
      · refine X_tabIn (tgt := 202) 136 (xI_of 136 hc136 (by decide)) (kX6_holds 14 rfl) (by decide) (by decide) rfl rfl ?_
        refine X_aload_n (n := 203) 3 (kX6_holds 75 rfl) rfl rfl rfl ?_
        refine X_getR (n := 206) xf_X2 hk1 (by decide) fl_X6_71 rfl (kX6_holds 76 rfl) rfl ?_
        refine X_iload (n := 208) 1 (kX6_holds 77 rfl) rfl rfl ?_
        refine X_callN1I (n := 211) (As := [.ref (rf a1 4), .int (gat S (rf a2 2) i3)]) (st := []) (kX6_holds 78 rfl) rfl (p_X11_at (kt_2_4 hk1)) (by decide) nl_X6_39 mf_X11_at rfl rfl (Nat.le_of_ble_eq_true rfl) ?_
        refine X_aload_n (n := 212) 2 (kX6_holds 79 rfl) rfl rfl rfl ?_
        refine X_getR (n := 215) xf_X6 hk0 (by decide) fl_X6_15 rfl (kX6_holds 80 rfl) rfl ?_
        refine X_iload (n := 217) 6 (kX6_holds 81 rfl) rfl rfl ?_
        refine X_callN1I (n := 220) (As := [.ref (rf a0 1), .int i4]) (st := [.int (gat S (rf a1 4) (gat S (rf a2 2) i3))]) (kX6_holds 82 rfl) rfl (p_X11_at (kt_6_1 hk0)) (by decide) nl_X6_39 mf_X11_at rfl rfl (Nat.le_of_ble_eq_true rfl) ?_
        refine X_iload (n := 222) 0 (kX6_holds 83 rfl) rfl rfl ?_
        refine X_callS1B (n := 225) (As := [.int (gat S (rf a1 4) (gat S (rf a2 2) i3)), .int (gat S (rf a0 1) i4), .int (gat S (rf a0 2) i4)]) (st := []) (kX6_holds 84 rfl) rfl p_X6_compares (by decide) ml_X6_63 mf_X6_compares rfl rfl (Nat.le_of_ble_eq_true rfl) ?_
        exact X_zret (b := (t_X6_compares (gat S (rf a1 4) (gat S (rf a2 2) i3)) (gat S (rf a0 1) i4) (gat S (rf a0 2) i4))) rfl (kX6_holds 85 rfl)
      · refine X_ite (fun hc137 => ?_) (fun nc137 => ?_)
        · refine X_tabIn (tgt := 202) 137 (xI_of 137 hc137 (by decide)) (kX6_holds 14 rfl) (by decide) (by decide) rfl rfl ?_
          refine X_aload_n (n := 203) 3 (kX6_holds 75 rfl) rfl rfl rfl ?_
          refine X_getR (n := 206) xf_X2 hk1 (by decide) fl_X6_71 rfl (kX6_holds 76 rfl) rfl ?_
          refine X_iload (n := 208) 1 (kX6_holds 77 rfl) rfl rfl ?_
          refine X_callN1I (n := 211) (As := [.ref (rf a1 4), .int (gat S (rf a2 2) i3)]) (st := []) (kX6_holds 78 rfl) rfl (p_X11_at (kt_2_4 hk1)) (by decide) nl_X6_39 mf_X11_at rfl rfl (Nat.le_of_ble_eq_true rfl) ?_
          refine X_aload_n (n := 212) 2 (kX6_holds 79 rfl) rfl rfl rfl ?_
          refine X_getR (n := 215) xf_X6 hk0 (by decide) fl_X6_15 rfl (kX6_holds 80 rfl) rfl ?_
          refine X_iload (n := 217) 6 (kX6_holds 81 rfl) rfl rfl ?_
          refine X_callN1I (n := 220) (As := [.ref (rf a0 1), .int i4]) (st := [.int (gat S (rf a1 4) (gat S (rf a2 2) i3))]) (kX6_holds 82 rfl) rfl (p_X11_at (kt_6_1 hk0)) (by decide) nl_X6_39 mf_X11_at rfl rfl (Nat.le_of_ble_eq_true rfl) ?_
          refine X_iload (n := 222) 0 (kX6_holds 83 rfl) rfl rfl ?_
          refine X_callS1B (n := 225) (As := [.int (gat S (rf a1 4) (gat S (rf a2 2) i3)), .int (gat S (rf a0 1) i4), .int (gat S (rf a0 2) i4)]) (st := []) (kX6_holds 84 rfl) rfl p_X6_compares (by decide) ml_X6_63 mf_X6_compares rfl rfl (Nat.le_of_ble_eq_true rfl) ?_
          exact X_zret (b := (t_X6_compares (gat S (rf a1 4) (gat S (rf a2 2) i3)) (gat S (rf a0 1) i4) (gat S (rf a0 2) i4))) rfl (kX6_holds 85 rfl)
        · refine X_ite (fun hc138 => ?_) (fun nc138 => ?_)
          · refine X_tabIn (tgt := 202) 138 (xI_of 138 hc138 (by decide)) (kX6_holds 14 rfl) (by decide) (by decide) rfl rfl ?_
            refine X_aload_n (n := 203) 3 (kX6_holds 75 rfl) rfl rfl rfl ?_
            refine X_getR (n := 206) xf_X2 hk1 (by decide) fl_X6_71 rfl (kX6_holds 76 rfl) rfl ?_
            refine X_iload (n := 208) 1 (kX6_holds 77 rfl) rfl rfl ?_
            refine X_callN1I (n := 211) (As := [.ref (rf a1 4), .int (gat S (rf a2 2) i3)]) (st := []) (kX6_holds 78 rfl) rfl (p_X11_at (kt_2_4 hk1)) (by decide) nl_X6_39 mf_X11_at rfl rfl (Nat.le_of_ble_eq_true rfl) ?_
            refine X_aload_n (n := 212) 2 (kX6_holds 79 rfl) rfl rfl rfl ?_
            refine X_getR (n := 215) xf_X6 hk0 (by decide) fl_X6_15 rfl (kX6_holds 80 rfl) rfl ?_
            refine X_iload (n := 217) 6 (kX6_holds 81 rfl) rfl rfl ?_
            refine X_callN1I (n := 220) (As := [.ref (rf a0 1), .int i4]) (st := [.int (gat S (rf a1 4) (gat S (rf a2 2) i3))]) (kX6_holds 82 rfl) rfl (p_X11_at (kt_6_1 hk0)) (by decide) nl_X6_39 mf_X11_at rfl rfl (Nat.le_of_ble_eq_true rfl) ?_
            refine X_iload (n := 222) 0 (kX6_holds 83 rfl) rfl rfl ?_
            refine X_callS1B (n := 225) (As := [.int (gat S (rf a1 4) (gat S (rf a2 2) i3)), .int (gat S (rf a0 1) i4), .int (gat S (rf a0 2) i4)]) (st := []) (kX6_holds 84 rfl) rfl p_X6_compares (by decide) ml_X6_63 mf_X6_compares rfl rfl (Nat.le_of_ble_eq_true rfl) ?_
            exact X_zret (b := (t_X6_compares (gat S (rf a1 4) (gat S (rf a2 2) i3)) (gat S (rf a0 1) i4) (gat S (rf a0 2) i4))) rfl (kX6_holds 85 rfl)
          · refine X_ite (fun hc139 => ?_) (fun nc139 => ?_)
            · refine X_tabIn (tgt := 202) 139 (xI_of 139 hc139 (by decide)) (kX6_holds 14 rfl) (by decide) (by decide) rfl rfl ?_
              refine X_aload_n (n := 203) 3 (kX6_holds 75 rfl) rfl rfl rfl ?_
              refine X_getR (n := 206) xf_X2 hk1 (by decide) fl_X6_71 rfl (kX6_holds 76 rfl) rfl ?_
              refine X_iload (n := 208) 1 (kX6_holds 77 rfl) rfl rfl ?_
              refine X_callN1I (n := 211) (As := [.ref (rf a1 4), .int (gat S (rf a2 2) i3)]) (st := []) (kX6_holds 78 rfl) rfl (p_X11_at (kt_2_4 hk1)) (by decide) nl_X6_39 mf_X11_at rfl rfl (Nat.le_of_ble_eq_true rfl) ?_
              refine X_aload_n (n := 212) 2 (kX6_holds 79 rfl) rfl rfl rfl ?_
              refine X_getR (n := 215) xf_X6 hk0 (by decide) fl_X6_15 rfl (kX6_holds 80 rfl) rfl ?_
              refine X_iload (n := 217) 6 (kX6_holds 81 rfl) rfl rfl ?_
              refine X_callN1I (n := 220) (As := [.ref (rf a0 1), .int i4]) (st := [.int (gat S (rf a1 4) (gat S (rf a2 2) i3))]) (kX6_holds 82 rfl) rfl (p_X11_at (kt_6_1 hk0)) (by decide) nl_X6_39 mf_X11_at rfl rfl (Nat.le_of_ble_eq_true rfl) ?_
              refine X_iload (n := 222) 0 (kX6_holds 83 rfl) rfl rfl ?_
              refine X_callS1B (n := 225) (As := [.int (gat S (rf a1 4) (gat S (rf a2 2) i3)), .int (gat S (rf a0 1) i4), .int (gat S (rf a0 2) i4)]) (st := []) (kX6_holds 84 rfl) rfl p_X6_compares (by decide) ml_X6_63 mf_X6_compares rfl rfl (Nat.le_of_ble_eq_true rfl) ?_
              exact X_zret (b := (t_X6_compares (gat S (rf a1 4) (gat S (rf a2 2) i3)) (gat S (rf a0 1) i4) (gat S (rf a0 2) i4))) rfl (kX6_holds 85 rfl)
            · refine X_ite (fun hc140 => ?_) (fun nc140 => ?_)
              · refine X_tabIn (tgt := 84) 140 (xI_of 140 hc140 (by decide)) (kX6_holds 14 rfl) (by decide) (by decide) rfl rfl ?_
                refine X_aload_n (n := 85) 4 (kX6_holds 15 rfl) rfl rfl rfl ?_
                refine X_getR (n := 88) xf_X10 hk2 (by decide) fl_X6_54 rfl (kX6_holds 16 rfl) rfl ?_
                refine X_iload (n := 90) 1 (kX6_holds 17 rfl) rfl rfl ?_
                refine X_callNI (n := 93) (As := [.ref (rf a2 3), .int (gat S (rf a2 2) i3)]) (st := []) (kX6_holds 18 rfl) rfl (w_X11_total (kt_10_3 hk2)) (by decide) nl_X6_57 mf_X11_total rfl rfl (Nat.le_of_ble_eq_true rfl) (fun r3 S4 hq => ?_)
                try dsimp only
                refine X_if_ne (n := 96) (tgt := 100) (kX6_holds 19 rfl) rfl rfl (fun h5 => ?_) (fun h5 => ?_)
                · refine X_iconst (n := 97) (v := 1) (kX6_holds 20 rfl) rfl (by decide) ?_
                  refine X_goto (tgt := 101) (kX6_holds 21 rfl) rfl ?_
                  exact X_zret (b := true) rfl (kX6_holds 23 rfl)
                · refine X_iconst (n := 101) (v := 0) (kX6_holds 22 rfl) rfl (by decide) ?_
                  exact X_zret (b := false) rfl (kX6_holds 23 rfl)
              · refine X_ite (fun hc141 => ?_) (fun nc141 => ?_)
                · refine X_tabIn (tgt := 102) 141 (xI_of 141 hc141 (by decide)) (kX6_holds 14 rfl) (by decide) (by decide) rfl rfl ?_
                  refine X_iload (n := 104) 1 (kX6_holds 24 rfl) rfl rfl ?_
                  refine X_iload_n (n := 105) 5 (kX6_holds 25 rfl) rfl rfl rfl ?_
                  refine X_ic_ne (n := 108) (tgt := 112) (kX6_holds 26 rfl) rfl rfl (fun h6 => ?_) (fun h6 => ?_)
                  · refine X_iconst (n := 109) (v := 1) (kX6_holds 27 rfl) rfl (by decide) ?_
                    refine X_goto (tgt := 113) (kX6_holds 28 rfl) rfl ?_
                    exact X_zret (b := true) rfl (kX6_holds 30 rfl)
                  · refine X_iconst (n := 113) (v := 0) (kX6_holds 29 rfl) rfl (by decide) ?_
                    exact X_zret (b := false) rfl (kX6_holds 30 rfl)
                · refine X_ite (fun hc142 => ?_) (fun nc142 => ?_)
                  · refine X_tabIn (tgt := 157) 142 (xI_of 142 hc142 (by decide)) (kX6_holds 14 rfl) (by decide) (by decide) rfl rfl ?_
                    refine X_aload_n (n := 158) 4 (kX6_holds 54 rfl) rfl rfl rfl ?_
                    refine X_getR (n := 161) xf_X10 hk2 (by decide) fl_X6_54 rfl (kX6_holds 55 rfl) rfl ?_
                    refine X_iload (n := 163) 1 (kX6_holds 56 rfl) rfl rfl ?_
                    refine X_callNI (n := 166) (As := [.ref (rf a2 3), .int (gat S (rf a2 2) i3)]) (st := []) (kX6_holds 57 rfl) rfl (w_X11_total (kt_10_3 hk2)) (by decide) nl_X6_57 mf_X11_total rfl rfl (Nat.le_of_ble_eq_true rfl) (fun r7 S8 hq => ?_)
                    try dsimp only
                    refine X_aload_n (n := 167) 2 (kX6_holds 58 rfl) rfl rfl rfl ?_
                    refine X_getR (n := 170) xf_X6 hk0 (by decide) fl_X6_15 rfl (kX6_holds 59 rfl) rfl ?_
                    refine X_iload (n := 172) 6 (kX6_holds 60 rfl) rfl rfl ?_
                    refine X_callN1I (n := 175) (As := [.ref (rf a0 1), .int i4]) (st := [.int r7]) (kX6_holds 61 rfl) rfl (p_X11_at (kt_6_1 hk0)) (by decide) nl_X6_39 mf_X11_at rfl rfl (Nat.le_of_ble_eq_true rfl) ?_
                    refine X_iload (n := 177) 0 (kX6_holds 62 rfl) rfl rfl ?_
                    refine X_callS1B (n := 180) (As := [.int r7, .int (gat S8 (rf a0 1) i4), .int (gat S (rf a0 2) i4)]) (st := []) (kX6_holds 63 rfl) rfl p_X6_compares (by decide) ml_X6_63 mf_X6_compares rfl rfl (Nat.le_of_ble_eq_true rfl) ?_
                    exact X_zret (b := (t_X6_compares r7 (gat S8 (rf a0 1) i4) (gat S (rf a0 2) i4))) rfl (kX6_holds 64 rfl)
                  · refine X_ite (fun hc143 => ?_) (fun nc143 => ?_)
                    · refine X_tabIn (tgt := 181) 143 (xI_of 143 hc143 (by decide)) (kX6_holds 14 rfl) (by decide) (by decide) rfl rfl ?_
                      refine X_aload_n (n := 182) 4 (kX6_holds 65 rfl) rfl rfl rfl ?_
                      refine X_iload (n := 184) 1 (kX6_holds 66 rfl) rfl rfl ?_
                      refine X_callSI (n := 187) (As := [.ref a2, .int (gat S (rf a2 2) i3)]) (st := []) (kX6_holds 67 rfl) rfl (w_X6_most hk2) (by decide) ml_X6_67 mf_X6_most rfl rfl (Nat.le_of_ble_eq_true rfl) (fun r9 S10 hq => ?_)
                      try dsimp only
                      refine X_aload_n (n := 188) 2 (kX6_holds 68 rfl) rfl rfl rfl ?_
                      refine X_getR (n := 191) xf_X6 hk0 (by decide) fl_X6_15 rfl (kX6_holds 69 rfl) rfl ?_
                      refine X_iload (n := 193) 6 (kX6_holds 70 rfl) rfl rfl ?_
                      refine X_callN1I (n := 196) (As := [.ref (rf a0 1), .int i4]) (st := [.int r9]) (kX6_holds 71 rfl) rfl (p_X11_at (kt_6_1 hk0)) (by decide) nl_X6_39 mf_X11_at rfl rfl (Nat.le_of_ble_eq_true rfl) ?_
                      refine X_iload (n := 198) 0 (kX6_holds 72 rfl) rfl rfl ?_
                      refine X_callS1B (n := 201) (As := [.int r9, .int (gat S10 (rf a0 1) i4), .int (gat S (rf a0 2) i4)]) (st := []) (kX6_holds 73 rfl) rfl p_X6_compares (by decide) ml_X6_63 mf_X6_compares rfl rfl (Nat.le_of_ble_eq_true rfl) ?_
                      exact X_zret (b := (t_X6_compares r9 (gat S10 (rf a0 1) i4) (gat S (rf a0 2) i4))) rfl (kX6_holds 74 rfl)
                    · have e134 := xI_ne (z := 134) 134 nc134 (by decide)
                      have e135 := xI_ne (z := 135) 135 nc135 (by decide)
                      have e136 := xI_ne (z := 136) 136 nc136 (by decide)
                      have e137 := xI_ne (z := 137) 137 nc137 (by decide)
                      have e138 := xI_ne (z := 138) 138 nc138 (by decide)
                      have e139 := xI_ne (z := 139) 139 nc139 (by decide)
                      have e140 := xI_ne (z := 140) 140 nc140 (by decide)
                      have e141 := xI_ne (z := 141) 141 nc141 (by decide)
                      have e142 := xI_ne (z := 142) 142 nc142 (by decide)
                      have e143 := xI_ne (z := 143) 143 nc143 (by decide)
                      refine X_tabOut (tgt := 202) (by omega) (kX6_holds 14 rfl) rfl ?_
                      refine X_aload_n (n := 203) 3 (kX6_holds 75 rfl) rfl rfl rfl ?_
                      refine X_getR (n := 206) xf_X2 hk1 (by decide) fl_X6_71 rfl (kX6_holds 76 rfl) rfl ?_
                      refine X_iload (n := 208) 1 (kX6_holds 77 rfl) rfl rfl ?_
                      refine X_callN1I (n := 211) (As := [.ref (rf a1 4), .int (gat S (rf a2 2) i3)]) (st := []) (kX6_holds 78 rfl) rfl (p_X11_at (kt_2_4 hk1)) (by decide) nl_X6_39 mf_X11_at rfl rfl (Nat.le_of_ble_eq_true rfl) ?_
                      refine X_aload_n (n := 212) 2 (kX6_holds 79 rfl) rfl rfl rfl ?_
                      refine X_getR (n := 215) xf_X6 hk0 (by decide) fl_X6_15 rfl (kX6_holds 80 rfl) rfl ?_
                      refine X_iload (n := 217) 6 (kX6_holds 81 rfl) rfl rfl ?_
                      refine X_callN1I (n := 220) (As := [.ref (rf a0 1), .int i4]) (st := [.int (gat S (rf a1 4) (gat S (rf a2 2) i3))]) (kX6_holds 82 rfl) rfl (p_X11_at (kt_6_1 hk0)) (by decide) nl_X6_39 mf_X11_at rfl rfl (Nat.le_of_ble_eq_true rfl) ?_
                      refine X_iload (n := 222) 0 (kX6_holds 83 rfl) rfl rfl ?_
                      refine X_callS1B (n := 225) (As := [.int (gat S (rf a1 4) (gat S (rf a2 2) i3)), .int (gat S (rf a0 1) i4), .int (gat S (rf a0 2) i4)]) (st := []) (kX6_holds 84 rfl) rfl p_X6_compares (by decide) ml_X6_63 mf_X6_compares rfl rfl (Nat.le_of_ble_eq_true rfl) ?_
                      exact X_zret (b := (t_X6_compares (gat S (rf a1 4) (gat S (rf a2 2) i3)) (gat S (rf a0 1) i4) (gat S (rf a0 2) i4))) rfl (kX6_holds 85 rfl)
def f_X7_readMeasure  (a0 : Nat) (i1 : Int32) (S : XS) : Option (Bool × XS) := (if (S.1 (rf a0 0) 10) = (60 : Int32) then ((f_X8_takeNumber (rf a0 0) (0 : Int32) (999 : Int32) (t_X8_step (rf a0 0) S)).bind (fun q => match q with | (r2, S3) => (if r2 = true then (if (t_X7_added a0 i1 (S.1 (rf a0 0) 10) (S3.1 (rf a0 0) 11) S3).1 = true then some (true, (t_X7_added a0 i1 (S.1 (rf a0 0) 10) (S3.1 (rf a0 0) 11) S3).2) else some (false, (t_X7_added a0 i1 (S.1 (rf a0 0) 10) (S3.1 (rf a0 0) 11) S3).2)) else some (false, S3)))) else (if (S.1 (rf a0 0) 10) = (61 : Int32) then ((f_X8_takeNumber (rf a0 0) (0 : Int32) (999 : Int32) (t_X8_step (rf a0 0) S)).bind (fun q => match q with | (r7, S8) => (if r7 = true then (if (t_X7_added a0 i1 (S.1 (rf a0 0) 10) (S8.1 (rf a0 0) 11) S8).1 = true then some (true, (t_X7_added a0 i1 (S.1 (rf a0 0) 10) (S8.1 (rf a0 0) 11) S8).2) else some (false, (t_X7_added a0 i1 (S.1 (rf a0 0) 10) (S8.1 (rf a0 0) 11) S8).2)) else some (false, S8)))) else (if (S.1 (rf a0 0) 10) = (62 : Int32) then ((f_X8_takeNumber (rf a0 0) (0 : Int32) (999 : Int32) (t_X8_step (rf a0 0) S)).bind (fun q => match q with | (r12, S13) => (if r12 = true then (if (t_X7_added a0 i1 (S.1 (rf a0 0) 10) (S13.1 (rf a0 0) 11) S13).1 = true then some (true, (t_X7_added a0 i1 (S.1 (rf a0 0) 10) (S13.1 (rf a0 0) 11) S13).2) else some (false, (t_X7_added a0 i1 (S.1 (rf a0 0) 10) (S13.1 (rf a0 0) 11) S13).2)) else some (false, S13)))) else some ((t_X8_fail (rf a0 0) (1 : Int32) S).1, (t_X8_fail (rf a0 0) (1 : Int32) S).2))))
set_option maxHeartbeats 4000000 in
set_option maxRecDepth 100000 in
theorem w_X7_readMeasure {l : Launch} {g : XG}  {a0 : Nat} {i1 : Int32} {S : XS} (hk0 : kd a0 = 7) : Cl φB l g 4 mX7_readMeasure [.ref a0, .int i1] S (f_X7_readMeasure a0 i1 S) := by
  refine Cl.of (by decide +kernel) (Nat.le_of_ble_eq_true rfl) ?_
  unfold f_X7_readMeasure
  show X _ _ _ _ _ 0 [(0, .ref a0), (1, .int i1)] [] S _
  refine X_aload_n (n := 1) 0 (kX7_readMeasure 0 rfl) rfl rfl rfl ?_
  refine X_getR (n := 4) xf_X7 hk0 (by decide) fl_X7_18 rfl (kX7_readMeasure 1 rfl) rfl ?_
  refine X_getI (n := 7) xf_X8 (kt_7_0 hk0) (by decide) fl_X7_39 rfl (kX7_readMeasure 2 rfl) rfl ?_
  refine X_istore_n (n := 8) (L1 := [(2, .int (S.1 (rf a0 0) 10)), (0, .ref a0), (1, .int i1)]) (kX7_readMeasure 3 rfl) rfl rfl (Nat.le_of_ble_eq_true rfl) rfl ?_
  refine X_iload_n (n := 9) 0 (kX7_readMeasure 4 rfl) rfl rfl rfl ?_
  refine X_bipush (n := 11) (v := 60) (kX7_readMeasure 5 rfl) rfl (by decide) ?_
  refine X_ic_eq (n := 14) (tgt := 35) (kX7_readMeasure 6 rfl) rfl rfl (fun h1 => ?_) (fun h1 => ?_)
  · refine X_aload_n (n := 36) 1 (kX7_readMeasure 18 rfl) rfl rfl rfl ?_
    refine X_getR (n := 39) xf_X7 hk0 (by decide) fl_X7_18 rfl (kX7_readMeasure 19 rfl) rfl ?_
    refine X_callV1V (n := 42) (As := []) (st := []) (kX7_readMeasure 20 rfl) rfl (p_X8_step (kt_7_0 hk0)) (by decide) ml_X7_49 mf_X8_step rfl (kt_7_0 hk0) xf_X8 rfl (Nat.le_of_ble_eq_true rfl) ?_
    refine X_aload_n (n := 43) 1 (kX7_readMeasure 21 rfl) rfl rfl rfl ?_
    refine X_getR (n := 46) xf_X7 hk0 (by decide) fl_X7_18 rfl (kX7_readMeasure 22 rfl) rfl ?_
    refine X_iconst (n := 47) (v := 0) (kX7_readMeasure 23 rfl) rfl (by decide) ?_
    refine X_sipush (n := 50) (v := 999) (kX7_readMeasure 24 rfl) rfl (by decide) ?_
    refine X_callVB (n := 53) (As := [.int (0 : Int32), .int (999 : Int32)]) (st := []) (kX7_readMeasure 25 rfl) rfl (w_X8_takeNumber (kt_7_0 hk0)) (by decide) ml_X7_82 mf_X8_takeNumber rfl (kt_7_0 hk0) xf_X8 rfl (Nat.le_of_ble_eq_true rfl) (fun r2 S3 hq => ?_)
    try dsimp only
    refine X_bz (n := 56) (tgt := 76) (kX7_readMeasure 26 rfl) rfl rfl (fun h4 => ?_) (fun h4 => ?_)
    · refine X_aload_n (n := 57) 1 (kX7_readMeasure 27 rfl) rfl rfl rfl ?_
      refine X_iload_n (n := 58) 2 (kX7_readMeasure 28 rfl) rfl rfl rfl ?_
      refine X_iload_n (n := 59) 0 (kX7_readMeasure 29 rfl) rfl rfl rfl ?_
      refine X_aload_n (n := 60) 1 (kX7_readMeasure 30 rfl) rfl rfl rfl ?_
      refine X_getR (n := 63) xf_X7 hk0 (by decide) fl_X7_18 rfl (kX7_readMeasure 31 rfl) rfl ?_
      refine X_getI (n := 66) xf_X8 (kt_7_0 hk0) (by decide) fl_X7_76 rfl (kX7_readMeasure 32 rfl) rfl ?_
      refine X_callV1B (n := 69) (As := [.int i1, .int (S.1 (rf a0 0) 10), .int (S3.1 (rf a0 0) 11)]) (st := []) (kX7_readMeasure 33 rfl) rfl (p_X7_added hk0) (by decide) ml_X7_69 mf_X7_added rfl hk0 xf_X7 rfl (Nat.le_of_ble_eq_true rfl) ?_
      refine X_bz (n := 72) (tgt := 76) (kX7_readMeasure 34 rfl) rfl rfl (fun h5 => ?_) (fun h5 => ?_)
      · refine X_iconst (n := 73) (v := 1) (kX7_readMeasure 35 rfl) rfl (by decide) ?_
        refine X_goto (tgt := 77) (kX7_readMeasure 36 rfl) rfl ?_
        exact X_zret (b := true) rfl (kX7_readMeasure 38 rfl)
      · refine X_iconst (n := 77) (v := 0) (kX7_readMeasure 37 rfl) rfl (by decide) ?_
        exact X_zret (b := false) rfl (kX7_readMeasure 38 rfl)
    · refine X_iconst (n := 77) (v := 0) (kX7_readMeasure 37 rfl) rfl (by decide) ?_
      exact X_zret (b := false) rfl (kX7_readMeasure 38 rfl)
  · refine X_iload_n (n := 15) 0 (kX7_readMeasure 7 rfl) rfl rfl rfl ?_
    refine X_bipush (n := 17) (v := 61) (kX7_readMeasure 8 rfl) rfl (by decide) ?_
    refine X_ic_eq (n := 20) (tgt := 35) (kX7_readMeasure 9 rfl) rfl rfl (fun h6 => ?_) (fun h6 => ?_)
    · refine X_aload_n (n := 36) 1 (kX7_readMeasure 18 rfl) rfl rfl rfl ?_
      refine X_getR (n := 39) xf_X7 hk0 (by decide) fl_X7_18 rfl (kX7_readMeasure 19 rfl) rfl ?_
      refine X_callV1V (n := 42) (As := []) (st := []) (kX7_readMeasure 20 rfl) rfl (p_X8_step (kt_7_0 hk0)) (by decide) ml_X7_49 mf_X8_step rfl (kt_7_0 hk0) xf_X8 rfl (Nat.le_of_ble_eq_true rfl) ?_
      refine X_aload_n (n := 43) 1 (kX7_readMeasure 21 rfl) rfl rfl rfl ?_
      refine X_getR (n := 46) xf_X7 hk0 (by decide) fl_X7_18 rfl (kX7_readMeasure 22 rfl) rfl ?_
      refine X_iconst (n := 47) (v := 0) (kX7_readMeasure 23 rfl) rfl (by decide) ?_
      refine X_sipush (n := 50) (v := 999) (kX7_readMeasure 24 rfl) rfl (by decide) ?_
      refine X_callVB (n := 53) (As := [.int (0 : Int32), .int (999 : Int32)]) (st := []) (kX7_readMeasure 25 rfl) rfl (w_X8_takeNumber (kt_7_0 hk0)) (by decide) ml_X7_82 mf_X8_takeNumber rfl (kt_7_0 hk0) xf_X8 rfl (Nat.le_of_ble_eq_true rfl) (fun r7 S8 hq => ?_)
      try dsimp only
      refine X_bz (n := 56) (tgt := 76) (kX7_readMeasure 26 rfl) rfl rfl (fun h9 => ?_) (fun h9 => ?_)
      · refine X_aload_n (n := 57) 1 (kX7_readMeasure 27 rfl) rfl rfl rfl ?_
        refine X_iload_n (n := 58) 2 (kX7_readMeasure 28 rfl) rfl rfl rfl ?_
        refine X_iload_n (n := 59) 0 (kX7_readMeasure 29 rfl) rfl rfl rfl ?_
        refine X_aload_n (n := 60) 1 (kX7_readMeasure 30 rfl) rfl rfl rfl ?_
        refine X_getR (n := 63) xf_X7 hk0 (by decide) fl_X7_18 rfl (kX7_readMeasure 31 rfl) rfl ?_
        refine X_getI (n := 66) xf_X8 (kt_7_0 hk0) (by decide) fl_X7_76 rfl (kX7_readMeasure 32 rfl) rfl ?_
        refine X_callV1B (n := 69) (As := [.int i1, .int (S.1 (rf a0 0) 10), .int (S8.1 (rf a0 0) 11)]) (st := []) (kX7_readMeasure 33 rfl) rfl (p_X7_added hk0) (by decide) ml_X7_69 mf_X7_added rfl hk0 xf_X7 rfl (Nat.le_of_ble_eq_true rfl) ?_
        refine X_bz (n := 72) (tgt := 76) (kX7_readMeasure 34 rfl) rfl rfl (fun h10 => ?_) (fun h10 => ?_)
        · refine X_iconst (n := 73) (v := 1) (kX7_readMeasure 35 rfl) rfl (by decide) ?_
          refine X_goto (tgt := 77) (kX7_readMeasure 36 rfl) rfl ?_
          exact X_zret (b := true) rfl (kX7_readMeasure 38 rfl)
        · refine X_iconst (n := 77) (v := 0) (kX7_readMeasure 37 rfl) rfl (by decide) ?_
          exact X_zret (b := false) rfl (kX7_readMeasure 38 rfl)
      · refine X_iconst (n := 77) (v := 0) (kX7_readMeasure 37 rfl) rfl (by decide) ?_
        exact X_zret (b := false) rfl (kX7_readMeasure 38 rfl)
    · refine X_iload_n (n := 21) 0 (kX7_readMeasure 10 rfl) rfl rfl rfl ?_
      refine X_bipush (n := 23) (v := 62) (kX7_readMeasure 11 rfl) rfl (by decide) ?_
      refine X_ic_eq (n := 26) (tgt := 35) (kX7_readMeasure 12 rfl) rfl rfl (fun h11 => ?_) (fun h11 => ?_)
      · refine X_aload_n (n := 36) 1 (kX7_readMeasure 18 rfl) rfl rfl rfl ?_
        refine X_getR (n := 39) xf_X7 hk0 (by decide) fl_X7_18 rfl (kX7_readMeasure 19 rfl) rfl ?_
        refine X_callV1V (n := 42) (As := []) (st := []) (kX7_readMeasure 20 rfl) rfl (p_X8_step (kt_7_0 hk0)) (by decide) ml_X7_49 mf_X8_step rfl (kt_7_0 hk0) xf_X8 rfl (Nat.le_of_ble_eq_true rfl) ?_
        refine X_aload_n (n := 43) 1 (kX7_readMeasure 21 rfl) rfl rfl rfl ?_
        refine X_getR (n := 46) xf_X7 hk0 (by decide) fl_X7_18 rfl (kX7_readMeasure 22 rfl) rfl ?_
        refine X_iconst (n := 47) (v := 0) (kX7_readMeasure 23 rfl) rfl (by decide) ?_
        refine X_sipush (n := 50) (v := 999) (kX7_readMeasure 24 rfl) rfl (by decide) ?_
        refine X_callVB (n := 53) (As := [.int (0 : Int32), .int (999 : Int32)]) (st := []) (kX7_readMeasure 25 rfl) rfl (w_X8_takeNumber (kt_7_0 hk0)) (by decide) ml_X7_82 mf_X8_takeNumber rfl (kt_7_0 hk0) xf_X8 rfl (Nat.le_of_ble_eq_true rfl) (fun r12 S13 hq => ?_)
        try dsimp only
        refine X_bz (n := 56) (tgt := 76) (kX7_readMeasure 26 rfl) rfl rfl (fun h14 => ?_) (fun h14 => ?_)
        · refine X_aload_n (n := 57) 1 (kX7_readMeasure 27 rfl) rfl rfl rfl ?_
          refine X_iload_n (n := 58) 2 (kX7_readMeasure 28 rfl) rfl rfl rfl ?_
          refine X_iload_n (n := 59) 0 (kX7_readMeasure 29 rfl) rfl rfl rfl ?_
          refine X_aload_n (n := 60) 1 (kX7_readMeasure 30 rfl) rfl rfl rfl ?_
          refine X_getR (n := 63) xf_X7 hk0 (by decide) fl_X7_18 rfl (kX7_readMeasure 31 rfl) rfl ?_
          refine X_getI (n := 66) xf_X8 (kt_7_0 hk0) (by decide) fl_X7_76 rfl (kX7_readMeasure 32 rfl) rfl ?_
          refine X_callV1B (n := 69) (As := [.int i1, .int (S.1 (rf a0 0) 10), .int (S13.1 (rf a0 0) 11)]) (st := []) (kX7_readMeasure 33 rfl) rfl (p_X7_added hk0) (by decide) ml_X7_69 mf_X7_added rfl hk0 xf_X7 rfl (Nat.le_of_ble_eq_true rfl) ?_
          refine X_bz (n := 72) (tgt := 76) (kX7_readMeasure 34 rfl) rfl rfl (fun h15 => ?_) (fun h15 => ?_)
          · refine X_iconst (n := 73) (v := 1) (kX7_readMeasure 35 rfl) rfl (by decide) ?_
            refine X_goto (tgt := 77) (kX7_readMeasure 36 rfl) rfl ?_
            exact X_zret (b := true) rfl (kX7_readMeasure 38 rfl)
          · refine X_iconst (n := 77) (v := 0) (kX7_readMeasure 37 rfl) rfl (by decide) ?_
            exact X_zret (b := false) rfl (kX7_readMeasure 38 rfl)
        · refine X_iconst (n := 77) (v := 0) (kX7_readMeasure 37 rfl) rfl (by decide) ?_
          exact X_zret (b := false) rfl (kX7_readMeasure 38 rfl)
      · refine X_aload_n (n := 27) 1 (kX7_readMeasure 13 rfl) rfl rfl rfl ?_
        refine X_getR (n := 30) xf_X7 hk0 (by decide) fl_X7_18 rfl (kX7_readMeasure 14 rfl) rfl ?_
        refine X_iconst (n := 31) (v := 1) (kX7_readMeasure 15 rfl) rfl (by decide) ?_
        refine X_callV1B (n := 34) (As := [.int (1 : Int32)]) (st := []) (kX7_readMeasure 16 rfl) rfl (p_X8_fail (kt_7_0 hk0)) (by decide) ml_X7_42 mf_X8_fail rfl (kt_7_0 hk0) xf_X8 rfl (Nat.le_of_ble_eq_true rfl) ?_
        exact X_zret (b := (t_X8_fail (rf a0 0) (1 : Int32) S).1) rfl (kX7_readMeasure 17 rfl)
def f_X11_goes  (a0 : Nat) (i1 : Int32) (i2 : Int32) (S : XS) : Option (Bool × XS) := (if (t_X2_has (rf a0 1) (2 : Int32) i1 S) = true then (if (t_X2_has (rf a0 1) (1 : Int32) i2 S) = true then ((f_X11_keepPast a0 S).bind (fun S3 => some (true, (pat S3 (rf (rf a0 3) 1) i1 i2)))) else some (false, S)) else some (false, S))
set_option maxHeartbeats 4000000 in
set_option maxRecDepth 100000 in
theorem w_X11_goes {l : Launch} {g : XG}  {a0 : Nat} {i1 : Int32} {i2 : Int32} {S : XS} (hk0 : kd a0 = 11) : Cl φB l g 5 mX11_goes [.ref a0, .int i1, .int i2] S (f_X11_goes a0 i1 i2 S) := by
  refine Cl.of (by decide +kernel) (Nat.le_of_ble_eq_true rfl) ?_
  unfold f_X11_goes
  show X _ _ _ _ _ 0 [(0, .ref a0), (1, .int i1), (2, .int i2)] [] S _
  refine X_aload_n (n := 1) 0 (kX11_goes 0 rfl) rfl rfl rfl ?_
  refine X_getR (n := 4) xf_X11 hk0 (by decide) fl_X11_19 rfl (kX11_goes 1 rfl) rfl ?_
  refine X_iconst (n := 5) (v := 2) (kX11_goes 2 rfl) rfl (by decide) ?_
  refine X_iload_n (n := 6) 1 (kX11_goes 3 rfl) rfl rfl rfl ?_
  refine X_callV1B (n := 9) (As := [.int (2 : Int32), .int i1]) (st := []) (kX11_goes 4 rfl) rfl (p_X2_has (kt_11_1 hk0)) (by decide) ml_X11_144 mf_X2_has rfl (kt_11_1 hk0) xf_X2 rfl (Nat.le_of_ble_eq_true rfl) ?_
  refine X_bz (n := 12) (tgt := 24) (kX11_goes 5 rfl) rfl rfl (fun h1 => ?_) (fun h1 => ?_)
  · refine X_aload_n (n := 13) 0 (kX11_goes 6 rfl) rfl rfl rfl ?_
    refine X_getR (n := 16) xf_X11 hk0 (by decide) fl_X11_19 rfl (kX11_goes 7 rfl) rfl ?_
    refine X_iconst (n := 17) (v := 1) (kX11_goes 8 rfl) rfl (by decide) ?_
    refine X_iload_n (n := 18) 2 (kX11_goes 9 rfl) rfl rfl rfl ?_
    refine X_callV1B (n := 21) (As := [.int (1 : Int32), .int i2]) (st := []) (kX11_goes 10 rfl) rfl (p_X2_has (kt_11_1 hk0)) (by decide) ml_X11_144 mf_X2_has rfl (kt_11_1 hk0) xf_X2 rfl (Nat.le_of_ble_eq_true rfl) ?_
    refine X_bn (n := 24) (tgt := 26) (kX11_goes 11 rfl) rfl rfl (fun h2 => ?_) (fun h2 => ?_)
    · refine X_aload_n (n := 27) 0 (kX11_goes 14 rfl) rfl rfl rfl ?_
      refine X_callVV (n := 30) (As := []) (st := []) (kX11_goes 15 rfl) rfl (w_X11_keepPast hk0) (by decide) ml_X11_195 mf_X11_keepPast rfl hk0 xf_X11 rfl (Nat.le_of_ble_eq_true rfl) (fun S3 hq => ?_)
      try dsimp only
      refine X_aload_n (n := 31) 0 (kX11_goes 16 rfl) rfl rfl rfl ?_
      refine X_getR (n := 34) xf_X11 hk0 (by decide) fl_X11_35 rfl (kX11_goes 17 rfl) rfl ?_
      refine X_getR (n := 37) xf_X10 (kt_11_3 hk0) (by decide) fl_X11_161 rfl (kX11_goes 18 rfl) rfl ?_
      refine X_iload_n (n := 38) 1 (kX11_goes 19 rfl) rfl rfl rfl ?_
      refine X_iload_n (n := 39) 2 (kX11_goes 20 rfl) rfl rfl rfl ?_
      refine X_callS1V (n := 42) (As := [.ref (rf (rf a0 3) 1), .int i1, .int i2]) (st := []) (kX11_goes 21 rfl) rfl (p_X11_put (kt_10_1 (kt_11_3 hk0))) (by decide) ml_X11_198 mf_X11_put rfl rfl (Nat.le_of_ble_eq_true rfl) ?_
      refine X_iconst (n := 43) (v := 1) (kX11_goes 22 rfl) rfl (by decide) ?_
      exact X_zret (b := true) rfl (kX11_goes 23 rfl)
    · refine X_iconst (n := 25) (v := 0) (kX11_goes 12 rfl) rfl (by decide) ?_
      exact X_zret (b := false) rfl (kX11_goes 13 rfl)
  · refine X_iconst (n := 25) (v := 0) (kX11_goes 12 rfl) rfl (by decide) ?_
    exact X_zret (b := false) rfl (kX11_goes 13 rfl)
def f_X11_change  (a0 : Nat) (i1 : Int32) (i2 : Int32) (S : XS) : Option (Bool × XS) := (if (t_X2_has (rf a0 1) (2 : Int32) i1 S) = true then (if (t_X2_has (rf a0 1) (2 : Int32) i2 S) = true then (if i1 = i2 then some (false, S) else ((f_X11_keepPast a0 S).bind (fun S4 => some (true, (t_X10_swap (rf a0 3) i1 i2 S4))))) else some (false, S)) else some (false, S))
set_option maxHeartbeats 4000000 in
set_option maxRecDepth 100000 in
theorem w_X11_change {l : Launch} {g : XG}  {a0 : Nat} {i1 : Int32} {i2 : Int32} {S : XS} (hk0 : kd a0 = 11) : Cl φB l g 5 mX11_change [.ref a0, .int i1, .int i2] S (f_X11_change a0 i1 i2 S) := by
  refine Cl.of (by decide +kernel) (Nat.le_of_ble_eq_true rfl) ?_
  unfold f_X11_change
  show X _ _ _ _ _ 0 [(0, .ref a0), (1, .int i1), (2, .int i2)] [] S _
  refine X_aload_n (n := 1) 0 (kX11_change 0 rfl) rfl rfl rfl ?_
  refine X_getR (n := 4) xf_X11 hk0 (by decide) fl_X11_19 rfl (kX11_change 1 rfl) rfl ?_
  refine X_iconst (n := 5) (v := 2) (kX11_change 2 rfl) rfl (by decide) ?_
  refine X_iload_n (n := 6) 1 (kX11_change 3 rfl) rfl rfl rfl ?_
  refine X_callV1B (n := 9) (As := [.int (2 : Int32), .int i1]) (st := []) (kX11_change 4 rfl) rfl (p_X2_has (kt_11_1 hk0)) (by decide) ml_X11_144 mf_X2_has rfl (kt_11_1 hk0) xf_X2 rfl (Nat.le_of_ble_eq_true rfl) ?_
  refine X_bz (n := 12) (tgt := 29) (kX11_change 5 rfl) rfl rfl (fun h1 => ?_) (fun h1 => ?_)
  · refine X_aload_n (n := 13) 0 (kX11_change 6 rfl) rfl rfl rfl ?_
    refine X_getR (n := 16) xf_X11 hk0 (by decide) fl_X11_19 rfl (kX11_change 7 rfl) rfl ?_
    refine X_iconst (n := 17) (v := 2) (kX11_change 8 rfl) rfl (by decide) ?_
    refine X_iload_n (n := 18) 2 (kX11_change 9 rfl) rfl rfl rfl ?_
    refine X_callV1B (n := 21) (As := [.int (2 : Int32), .int i2]) (st := []) (kX11_change 10 rfl) rfl (p_X2_has (kt_11_1 hk0)) (by decide) ml_X11_144 mf_X2_has rfl (kt_11_1 hk0) xf_X2 rfl (Nat.le_of_ble_eq_true rfl) ?_
    refine X_bz (n := 24) (tgt := 29) (kX11_change 11 rfl) rfl rfl (fun h2 => ?_) (fun h2 => ?_)
    · refine X_iload_n (n := 25) 1 (kX11_change 12 rfl) rfl rfl rfl ?_
      refine X_iload_n (n := 26) 2 (kX11_change 13 rfl) rfl rfl rfl ?_
      refine X_ic_ne (n := 29) (tgt := 31) (kX11_change 14 rfl) rfl rfl (fun h3 => ?_) (fun h3 => ?_)
      · refine X_iconst (n := 30) (v := 0) (kX11_change 15 rfl) rfl (by decide) ?_
        exact X_zret (b := false) rfl (kX11_change 16 rfl)
      · refine X_aload_n (n := 32) 0 (kX11_change 17 rfl) rfl rfl rfl ?_
        refine X_callVV (n := 35) (As := []) (st := []) (kX11_change 18 rfl) rfl (w_X11_keepPast hk0) (by decide) ml_X11_195 mf_X11_keepPast rfl hk0 xf_X11 rfl (Nat.le_of_ble_eq_true rfl) (fun S4 hq => ?_)
        try dsimp only
        refine X_aload_n (n := 36) 0 (kX11_change 19 rfl) rfl rfl rfl ?_
        refine X_getR (n := 39) xf_X11 hk0 (by decide) fl_X11_35 rfl (kX11_change 20 rfl) rfl ?_
        refine X_iload_n (n := 40) 1 (kX11_change 21 rfl) rfl rfl rfl ?_
        refine X_iload_n (n := 41) 2 (kX11_change 22 rfl) rfl rfl rfl ?_
        refine X_callV1V (n := 44) (As := [.int i1, .int i2]) (st := []) (kX11_change 23 rfl) rfl (p_X10_swap (kt_11_3 hk0)) (by decide) ml_X11_202 mf_X10_swap rfl (kt_11_3 hk0) xf_X10 rfl (Nat.le_of_ble_eq_true rfl) ?_
        refine X_iconst (n := 45) (v := 1) (kX11_change 24 rfl) rfl (by decide) ?_
        exact X_zret (b := true) rfl (kX11_change 25 rfl)
    · refine X_iconst (n := 30) (v := 0) (kX11_change 15 rfl) rfl (by decide) ?_
      exact X_zret (b := false) rfl (kX11_change 16 rfl)
  · refine X_iconst (n := 30) (v := 0) (kX11_change 15 rfl) rfl (by decide) ?_
    exact X_zret (b := false) rfl (kX11_change 16 rfl)
def f_X11_soap  (a0 : Nat) (i1 : Int32) (S : XS) : Option (Int32 × XS) := (if (t_X2_has (rf a0 1) (2 : Int32) i1 S) = true then ((f_X11_keepPast a0 S).bind (fun S2 => ((f_X10_wash (rf a0 3) (gat S2 (rf (rf a0 3) 2) i1) S2).bind (fun q => match q with | (r3, S4) => some (r3, S4))))) else some ((-1 : Int32), S))
set_option maxHeartbeats 4000000 in
set_option maxRecDepth 100000 in
theorem w_X11_soap {l : Launch} {g : XG}  {a0 : Nat} {i1 : Int32} {S : XS} (hk0 : kd a0 = 11) : Cl φI l g 5 mX11_soap [.ref a0, .int i1] S (f_X11_soap a0 i1 S) := by
  refine Cl.of (by decide +kernel) (Nat.le_of_ble_eq_true rfl) ?_
  unfold f_X11_soap
  show X _ _ _ _ _ 0 [(0, .ref a0), (1, .int i1)] [] S _
  refine X_aload_n (n := 1) 0 (kX11_soap 0 rfl) rfl rfl rfl ?_
  refine X_getR (n := 4) xf_X11 hk0 (by decide) fl_X11_19 rfl (kX11_soap 1 rfl) rfl ?_
  refine X_iconst (n := 5) (v := 2) (kX11_soap 2 rfl) rfl (by decide) ?_
  refine X_iload_n (n := 6) 1 (kX11_soap 3 rfl) rfl rfl rfl ?_
  refine X_callV1B (n := 9) (As := [.int (2 : Int32), .int i1]) (st := []) (kX11_soap 4 rfl) rfl (p_X2_has (kt_11_1 hk0)) (by decide) ml_X11_144 mf_X2_has rfl (kt_11_1 hk0) xf_X2 rfl (Nat.le_of_ble_eq_true rfl) ?_
  refine X_bn (n := 12) (tgt := 14) (kX11_soap 5 rfl) rfl rfl (fun h1 => ?_) (fun h1 => ?_)
  · refine X_aload_n (n := 15) 0 (kX11_soap 8 rfl) rfl rfl rfl ?_
    refine X_callVV (n := 18) (As := []) (st := []) (kX11_soap 9 rfl) rfl (w_X11_keepPast hk0) (by decide) ml_X11_195 mf_X11_keepPast rfl hk0 xf_X11 rfl (Nat.le_of_ble_eq_true rfl) (fun S2 hq => ?_)
    try dsimp only
    refine X_aload_n (n := 19) 0 (kX11_soap 10 rfl) rfl rfl rfl ?_
    refine X_getR (n := 22) xf_X11 hk0 (by decide) fl_X11_35 rfl (kX11_soap 11 rfl) rfl ?_
    refine X_aload_n (n := 23) 0 (kX11_soap 12 rfl) rfl rfl rfl ?_
    refine X_getR (n := 26) xf_X11 hk0 (by decide) fl_X11_35 rfl (kX11_soap 13 rfl) rfl ?_
    refine X_getR (n := 29) xf_X10 (kt_11_3 hk0) (by decide) fl_X11_164 rfl (kX11_soap 14 rfl) rfl ?_
    refine X_iload_n (n := 30) 1 (kX11_soap 15 rfl) rfl rfl rfl ?_
    refine X_callS1I (n := 33) (As := [.ref (rf (rf a0 3) 2), .int i1]) (st := [.ref (rf a0 3)]) (kX11_soap 16 rfl) rfl (p_X11_at (kt_10_2 (kt_11_3 hk0))) (by decide) ml_X11_154 mf_X11_at rfl rfl (Nat.le_of_ble_eq_true rfl) ?_
    refine X_callVI (n := 36) (As := [.int (gat S2 (rf (rf a0 3) 2) i1)]) (st := []) (kX11_soap 17 rfl) rfl (w_X10_wash (kt_11_3 hk0)) (by decide) ml_X11_206 mf_X10_wash rfl (kt_11_3 hk0) xf_X10 rfl (Nat.le_of_ble_eq_true rfl) (fun r3 S4 hq => ?_)
    try dsimp only
    exact X_iret rfl (kX11_soap 18 rfl)
  · refine X_iconst (n := 13) (v := (-1)) (kX11_soap 6 rfl) rfl (by decide) ?_
    exact X_iret rfl (kX11_soap 7 rfl)
def f_X11_send  (a0 : Nat) (i1 : Int32) (i2 : Int32) (S : XS) : Option (Int32 × XS) := (if (t_X2_has (rf a0 1) (2 : Int32) i1 S) = true then (if (t_X11_isBox i2) = true then (if (S.1 (rf a0 3) 4) < (8 : Int32) then ((f_X11_keepPast a0 S).bind (fun S4 => ((f_X10_cut (rf a0 3) (gat S4 (rf (rf a0 3) 2) i1) i2 S4).bind (fun q => match q with | (r5, S6) => some (r5, S6))))) else some ((-1 : Int32), S)) else some ((-1 : Int32), S)) else some ((-1 : Int32), S))
set_option maxHeartbeats 4000000 in
set_option maxRecDepth 100000 in
theorem w_X11_send {l : Launch} {g : XG}  {a0 : Nat} {i1 : Int32} {i2 : Int32} {S : XS} (hk0 : kd a0 = 11) : Cl φI l g 5 mX11_send [.ref a0, .int i1, .int i2] S (f_X11_send a0 i1 i2 S) := by
  refine Cl.of (by decide +kernel) (Nat.le_of_ble_eq_true rfl) ?_
  unfold f_X11_send
  show X _ _ _ _ _ 0 [(0, .ref a0), (1, .int i1), (2, .int i2)] [] S _
  refine X_aload_n (n := 1) 0 (kX11_send 0 rfl) rfl rfl rfl ?_
  refine X_getR (n := 4) xf_X11 hk0 (by decide) fl_X11_19 rfl (kX11_send 1 rfl) rfl ?_
  refine X_iconst (n := 5) (v := 2) (kX11_send 2 rfl) rfl (by decide) ?_
  refine X_iload_n (n := 6) 1 (kX11_send 3 rfl) rfl rfl rfl ?_
  refine X_callV1B (n := 9) (As := [.int (2 : Int32), .int i1]) (st := []) (kX11_send 4 rfl) rfl (p_X2_has (kt_11_1 hk0)) (by decide) ml_X11_144 mf_X2_has rfl (kt_11_1 hk0) xf_X2 rfl (Nat.le_of_ble_eq_true rfl) ?_
  refine X_bz (n := 12) (tgt := 31) (kX11_send 5 rfl) rfl rfl (fun h1 => ?_) (fun h1 => ?_)
  · refine X_iload_n (n := 13) 2 (kX11_send 6 rfl) rfl rfl rfl ?_
    refine X_callS1B (n := 16) (As := [.int i2]) (st := []) (kX11_send 7 rfl) rfl p_X11_isBox (by decide) ml_X11_210 mf_X11_isBox rfl rfl (Nat.le_of_ble_eq_true rfl) ?_
    refine X_bz (n := 19) (tgt := 31) (kX11_send 8 rfl) rfl rfl (fun h2 => ?_) (fun h2 => ?_)
    · refine X_aload_n (n := 20) 0 (kX11_send 9 rfl) rfl rfl rfl ?_
      refine X_getR (n := 23) xf_X11 hk0 (by decide) fl_X11_35 rfl (kX11_send 10 rfl) rfl ?_
      refine X_getI (n := 26) xf_X10 (kt_11_3 hk0) (by decide) fl_X11_213 rfl (kX11_send 11 rfl) rfl ?_
      refine X_bipush (n := 28) (v := 8) (kX11_send 12 rfl) rfl (by decide) ?_
      refine X_ic_lt (n := 31) (tgt := 33) (kX11_send 13 rfl) rfl rfl (fun h3 => ?_) (fun h3 => ?_)
      · refine X_aload_n (n := 34) 0 (kX11_send 16 rfl) rfl rfl rfl ?_
        refine X_callVV (n := 37) (As := []) (st := []) (kX11_send 17 rfl) rfl (w_X11_keepPast hk0) (by decide) ml_X11_195 mf_X11_keepPast rfl hk0 xf_X11 rfl (Nat.le_of_ble_eq_true rfl) (fun S4 hq => ?_)
        try dsimp only
        refine X_aload_n (n := 38) 0 (kX11_send 18 rfl) rfl rfl rfl ?_
        refine X_getR (n := 41) xf_X11 hk0 (by decide) fl_X11_35 rfl (kX11_send 19 rfl) rfl ?_
        refine X_aload_n (n := 42) 0 (kX11_send 20 rfl) rfl rfl rfl ?_
        refine X_getR (n := 45) xf_X11 hk0 (by decide) fl_X11_35 rfl (kX11_send 21 rfl) rfl ?_
        refine X_getR (n := 48) xf_X10 (kt_11_3 hk0) (by decide) fl_X11_164 rfl (kX11_send 22 rfl) rfl ?_
        refine X_iload_n (n := 49) 1 (kX11_send 23 rfl) rfl rfl rfl ?_
        refine X_callS1I (n := 52) (As := [.ref (rf (rf a0 3) 2), .int i1]) (st := [.ref (rf a0 3)]) (kX11_send 24 rfl) rfl (p_X11_at (kt_10_2 (kt_11_3 hk0))) (by decide) ml_X11_154 mf_X11_at rfl rfl (Nat.le_of_ble_eq_true rfl) ?_
        refine X_iload_n (n := 53) 2 (kX11_send 25 rfl) rfl rfl rfl ?_
        refine X_callVI (n := 56) (As := [.int (gat S4 (rf (rf a0 3) 2) i1), .int i2]) (st := []) (kX11_send 26 rfl) rfl (w_X10_cut (kt_11_3 hk0)) (by decide) ml_X11_216 mf_X10_cut rfl (kt_11_3 hk0) xf_X10 rfl (Nat.le_of_ble_eq_true rfl) (fun r5 S6 hq => ?_)
        try dsimp only
        exact X_iret rfl (kX11_send 27 rfl)
      · refine X_iconst (n := 32) (v := (-1)) (kX11_send 14 rfl) rfl (by decide) ?_
        exact X_iret rfl (kX11_send 15 rfl)
    · refine X_iconst (n := 32) (v := (-1)) (kX11_send 14 rfl) rfl (by decide) ?_
      exact X_iret rfl (kX11_send 15 rfl)
  · refine X_iconst (n := 32) (v := (-1)) (kX11_send 14 rfl) rfl (by decide) ?_
    exact X_iret rfl (kX11_send 15 rfl)
