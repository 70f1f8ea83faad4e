def f_X10_fadeCloth_L2  (a0 : Nat) (a1 : Nat) (i2 : Int32) : Nat → Int32 → XS → Option (XS)
  | 0, _, _ => none
  | n + 1, i3, S => (if (6 : Int32) ≤ i3 then some S else f_X10_fadeCloth_L2 a0 a1 i2 n (i3 + 1) (pat S (rf a0 5) ((i2 * (6 : Int32)) + i3) (if (0 : Int32) < ((gat S (rf a0 5) ((i2 * (6 : Int32)) + i3)) - (gat S (rf a1 2) i3)) then ((gat S (rf a0 5) ((i2 * (6 : Int32)) + i3)) - (gat S (rf a1 2) i3)) else (0 : Int32))))
def f_X10_fadeCloth  (a0 : Nat) (a1 : Nat) (i2 : Int32) (S : XS) : Option (XS) := ((f_X10_fadeCloth_L2 a0 a1 i2 1000000 (0 : Int32) S).bind (fun S2 => some S2))
set_option maxHeartbeats 4000000 in
set_option maxRecDepth 100000 in
theorem w_X10_fadeCloth_L2 {l : Launch} {g : XG} {G : (XS) → Option (XS)}  {a0 : Nat} {a1 : Nat} {i2 : Int32} (hk0 : kd a0 = 10) (hk1 : kd a1 = 2) (kE : ∀ (S1 : XS), X φV l g 2 mX10_fadeCloth 53 [] [] S1 (G S1)) : ∀ (n : Nat) (i3 : Int32) (S : XS), X φV l g 2 mX10_fadeCloth 2 [(3, .int i3), (0, .ref a0), (1, .ref a1), (2, .int i2)] [] S ((f_X10_fadeCloth_L2 a0 a1 i2 n i3 S).bind G) := by
  intro n
  induction n with
  | zero => intro i3 S; exact X_none
  | succ n ih =>
  · intro i3 S
    rw [f_X10_fadeCloth_L2]
    refine X_iload_n (n := 3) 0 (kX10_fadeCloth 2 rfl) rfl rfl rfl ?_
    refine X_bipush (n := 5) (v := 6) (kX10_fadeCloth 3 rfl) rfl (by decide) ?_
    refine X_itebind ?_
    refine X_ic_ge (n := 8) (tgt := 53) (kX10_fadeCloth 4 rfl) rfl rfl (fun h1 => ?_) (fun h1 => ?_)
    · exact X_L [] rfl (kE S)
    · refine X_iload_n (n := 9) 3 (kX10_fadeCloth 5 rfl) rfl rfl rfl ?_
      refine X_bipush (n := 11) (v := 6) (kX10_fadeCloth 6 rfl) rfl (by decide) ?_
      refine X_imul (n := 12) (kX10_fadeCloth 7 rfl) rfl ?_
      refine X_iload_n (n := 13) 0 (kX10_fadeCloth 8 rfl) rfl rfl rfl ?_
      refine X_iadd (n := 14) (kX10_fadeCloth 9 rfl) rfl ?_
      refine X_istore (n := 16) (L1 := [(4, .int ((i2 * (6 : Int32)) + i3)), (3, .int i3), (0, .ref a0), (1, .ref a1), (2, .int i2)]) (kX10_fadeCloth 10 rfl) rfl (Nat.le_of_ble_eq_true rfl) rfl ?_
      refine X_aload_n (n := 17) 2 (kX10_fadeCloth 11 rfl) rfl rfl rfl ?_
      refine X_getR (n := 20) xf_X10 hk0 (by decide) fl_X10_21 rfl (kX10_fadeCloth 12 rfl) rfl ?_
      refine X_iload (n := 22) 0 (kX10_fadeCloth 13 rfl) rfl rfl ?_
      refine X_iconst (n := 23) (v := 0) (kX10_fadeCloth 14 rfl) rfl (by decide) ?_
      refine X_aload_n (n := 24) 2 (kX10_fadeCloth 15 rfl) rfl rfl rfl ?_
      refine X_getR (n := 27) xf_X10 hk0 (by decide) fl_X10_21 rfl (kX10_fadeCloth 16 rfl) rfl ?_
      refine X_iload (n := 29) 0 (kX10_fadeCloth 17 rfl) rfl rfl ?_
      refine X_callN1I (n := 32) (As := [.ref (rf a0 5), .int ((i2 * (6 : Int32)) + i3)]) (st := [.int 0, .int ((i2 * (6 : Int32)) + i3), .ref (rf a0 5)]) (kX10_fadeCloth 18 rfl) rfl (p_X11_at (kt_10_5 hk0)) (by decide) nl_X10_55 mf_X11_at rfl rfl (Nat.le_of_ble_eq_true rfl) ?_
      refine X_aload_n (n := 33) 3 (kX10_fadeCloth 19 rfl) rfl rfl rfl ?_
      refine X_getR (n := 36) xf_X2 hk1 (by decide) fl_X10_98 rfl (kX10_fadeCloth 20 rfl) rfl ?_
      refine X_iload_n (n := 37) 1 (kX10_fadeCloth 21 rfl) rfl rfl rfl ?_
      refine X_callN1I (n := 40) (As := [.ref (rf a1 2), .int i3]) (st := [.int (gat S (rf a0 5) ((i2 * (6 : Int32)) + i3)), .int 0, .int ((i2 * (6 : Int32)) + i3), .ref (rf a0 5)]) (kX10_fadeCloth 22 rfl) rfl (p_X11_at (kt_2_2 hk1)) (by decide) nl_X10_55 mf_X11_at rfl rfl (Nat.le_of_ble_eq_true rfl) ?_
      refine X_isub (n := 41) (kX10_fadeCloth 23 rfl) rfl ?_
      refine X_mmax (n := 44) (kX10_fadeCloth 24 rfl) rfl (by decide) ml_X10_101 ms1_max ms2 ms3_max (Nat.le_of_ble_eq_true rfl) ?_
      refine X_callN1V (n := 47) (As := [.ref (rf a0 5), .int ((i2 * (6 : Int32)) + i3), .int (if (0 : Int32) < ((gat S (rf a0 5) ((i2 * (6 : Int32)) + i3)) - (gat S (rf a1 2) i3)) then ((gat S (rf a0 5) ((i2 * (6 : Int32)) + i3)) - (gat S (rf a1 2) i3)) else (0 : Int32))]) (st := []) (kX10_fadeCloth 25 rfl) rfl (p_X11_put (kt_10_5 hk0)) (by decide) nl_X10_59 mf_X11_put rfl rfl (Nat.le_of_ble_eq_true rfl) ?_
      refine X_iinc (n := 50) 1 (v := (i3 + 1)) (L1 := [(3, .int (i3 + 1)), (4, .int ((i2 * (6 : Int32)) + i3)), (0, .ref a0), (1, .ref a1), (2, .int i2)]) (kX10_fadeCloth 26 rfl) rfl rfl rfl (Nat.le_of_ble_eq_true rfl) rfl ?_
      refine X_goto (tgt := 2) (kX10_fadeCloth 27 rfl) rfl ?_
      exact X_L [0, 2, 3, 4] rfl (ih (i3 + 1) (pat S (rf a0 5) ((i2 * (6 : Int32)) + i3) (if (0 : Int32) < ((gat S (rf a0 5) ((i2 * (6 : Int32)) + i3)) - (gat S (rf a1 2) i3)) then ((gat S (rf a0 5) ((i2 * (6 : Int32)) + i3)) - (gat S (rf a1 2) i3)) else (0 : Int32))))
set_option maxHeartbeats 4000000 in
set_option maxRecDepth 100000 in
theorem w_X10_fadeCloth {l : Launch} {g : XG}  {a0 : Nat} {a1 : Nat} {i2 : Int32} {S : XS} (hk0 : kd a0 = 10) (hk1 : kd a1 = 2) : Cl φV l g 2 mX10_fadeCloth [.ref a0, .ref a1, .int i2] S (f_X10_fadeCloth a0 a1 i2 S) := by
  refine Cl.of (by decide +kernel) (Nat.le_of_ble_eq_true rfl) ?_
  unfold f_X10_fadeCloth
  show X _ _ _ _ _ 0 [(0, .ref a0), (1, .ref a1), (2, .int i2)] [] S _
  refine X_iconst (n := 1) (v := 0) (kX10_fadeCloth 0 rfl) rfl (by decide) ?_
  refine X_istore_n (n := 2) (L1 := [(3, .int 0), (0, .ref a0), (1, .ref a1), (2, .int i2)]) (kX10_fadeCloth 1 rfl) rfl rfl (Nat.le_of_ble_eq_true rfl) rfl ?_
  refine X_L [0, 1, 2, 3] rfl (w_X10_fadeCloth_L2 hk0 hk1 (fun S2 => ?_) 1000000 (0 : Int32) S)
  try dsimp only
  exact X_vret rfl (kX10_fadeCloth 28 rfl)
def f_X10_mingle_L5  (a0 : Nat) (i1 : Int32) (i2 : Int32) : Nat → Int32 → Int32 → XS → Option (Int32 × XS)
  | 0, _, _, _ => none
  | n + 1, i3, i4, S => (if (S.1 a0 4) ≤ i4 then some (i3, S) else (if (gat S (rf a0 7) i4) = i1 then f_X10_mingle_L5 a0 i1 i2 n (if i3 < (gat S (rf a0 5) ((i4 * (6 : Int32)) + i2)) then (gat S (rf a0 5) ((i4 * (6 : Int32)) + i2)) else i3) (i4 + 1) S else f_X10_mingle_L5 a0 i1 i2 n i3 (i4 + 1) S))
def f_X10_mingle_L55  (i3 : Int32) (a0 : Nat) (i1 : Int32) (i2 : Int32) : Nat → Int32 → XS → Option (XS)
  | 0, _, _ => none
  | n + 1, i4, S => (if (S.1 a0 4) ≤ i4 then some S else (if (gat S (rf a0 7) i4) = i1 then (if i3 ≤ (gat S (rf a0 5) ((i4 * (6 : Int32)) + i2)) then f_X10_mingle_L55 i3 a0 i1 i2 n (i4 + 1) S else f_X10_mingle_L55 i3 a0 i1 i2 n (i4 + 1) (pat S (rf a0 5) ((i4 * (6 : Int32)) + i2) ((gat S (rf a0 5) ((i4 * (6 : Int32)) + i2)) + (1 : Int32)))) else f_X10_mingle_L55 i3 a0 i1 i2 n (i4 + 1) S))
def f_X10_mingle  (a0 : Nat) (i1 : Int32) (i2 : Int32) (S : XS) : Option (XS) := ((f_X10_mingle_L5 a0 i1 i2 1000000 (0 : Int32) (0 : Int32) S).bind (fun q => match q with | (e3, S4) => ((f_X10_mingle_L55 e3 a0 i1 i2 1000000 (0 : Int32) S4).bind (fun S8 => some S8))))
set_option maxHeartbeats 4000000 in
set_option maxRecDepth 100000 in
theorem w_X10_mingle_L5 {l : Launch} {g : XG} {G : (Int32 × XS) → Option (XS)}  {a0 : Nat} {i1 : Int32} {i2 : Int32} (hk0 : kd a0 = 10) (kE : ∀ (e3 : Int32) (S1 : XS), X φV l g 2 mX10_mingle 52 [(3, .int e3), (0, .ref a0), (1, .int i1), (2, .int i2)] [] S1 (G (e3, S1))) : ∀ (n : Nat) (i3 : Int32) (i4 : Int32) (S : XS), X φV l g 2 mX10_mingle 5 [(4, .int i4), (3, .int i3), (0, .ref a0), (1, .int i1), (2, .int i2)] [] S ((f_X10_mingle_L5 a0 i1 i2 n i3 i4 S).bind G) := by
  intro n
  induction n with
  | zero => intro i3 i4 S; exact X_none
  | succ n ih =>
  · intro i3 i4 S
    rw [f_X10_mingle_L5]
    refine X_iload (n := 7) 0 (kX10_mingle 4 rfl) rfl rfl ?_
    refine X_aload_n (n := 8) 2 (kX10_mingle 5 rfl) rfl rfl rfl ?_
    refine X_getI (n := 11) xf_X10 hk0 (by decide) fl_X10_37 rfl (kX10_mingle 6 rfl) rfl ?_
    refine X_itebind ?_
    refine X_ic_ge (n := 14) (tgt := 52) (kX10_mingle 7 rfl) rfl rfl (fun h1 => ?_) (fun h1 => ?_)
    · exact X_L [1, 2, 3, 4] rfl (kE i3 S)
    · refine X_aload_n (n := 15) 2 (kX10_mingle 8 rfl) rfl rfl rfl ?_
      refine X_getR (n := 18) xf_X10 hk0 (by decide) fl_X10_27 rfl (kX10_mingle 9 rfl) rfl ?_
      refine X_iload (n := 20) 0 (kX10_mingle 10 rfl) rfl rfl ?_
      refine X_callN1I (n := 23) (As := [.ref (rf a0 7), .int i4]) (st := []) (kX10_mingle 11 rfl) rfl (p_X11_at (kt_10_7 hk0)) (by decide) nl_X10_55 mf_X11_at rfl rfl (Nat.le_of_ble_eq_true rfl) ?_
      refine X_iload_n (n := 24) 3 (kX10_mingle 12 rfl) rfl rfl rfl ?_
      refine X_itebind ?_
      refine X_ic_ne (n := 27) (tgt := 46) (kX10_mingle 13 rfl) rfl rfl (fun h2 => ?_) (fun h2 => ?_)
      · refine X_iload_n (n := 28) 1 (kX10_mingle 14 rfl) rfl rfl rfl ?_
        refine X_aload_n (n := 29) 2 (kX10_mingle 15 rfl) rfl rfl rfl ?_
        refine X_getR (n := 32) xf_X10 hk0 (by decide) fl_X10_21 rfl (kX10_mingle 16 rfl) rfl ?_
        refine X_iload (n := 34) 0 (kX10_mingle 17 rfl) rfl rfl ?_
        refine X_bipush (n := 36) (v := 6) (kX10_mingle 18 rfl) rfl (by decide) ?_
        refine X_imul (n := 37) (kX10_mingle 19 rfl) rfl ?_
        refine X_iload_n (n := 38) 4 (kX10_mingle 20 rfl) rfl rfl rfl ?_
        refine X_iadd (n := 39) (kX10_mingle 21 rfl) rfl ?_
        refine X_callN1I (n := 42) (As := [.ref (rf a0 5), .int ((i4 * (6 : Int32)) + i2)]) (st := [.int i3]) (kX10_mingle 22 rfl) rfl (p_X11_at (kt_10_5 hk0)) (by decide) nl_X10_55 mf_X11_at rfl rfl (Nat.le_of_ble_eq_true rfl) ?_
        refine X_mmax (n := 45) (kX10_mingle 23 rfl) rfl (by decide) ml_X10_101 ms1_max ms2 ms3_max (Nat.le_of_ble_eq_true rfl) ?_
        refine X_istore_n (n := 46) (L1 := [(3, .int (if i3 < (gat S (rf a0 5) ((i4 * (6 : Int32)) + i2)) then (gat S (rf a0 5) ((i4 * (6 : Int32)) + i2)) else i3)), (4, .int i4), (0, .ref a0), (1, .int i1), (2, .int i2)]) (kX10_mingle 24 rfl) rfl rfl (Nat.le_of_ble_eq_true rfl) rfl ?_
        refine X_iinc (n := 49) 1 (v := (i4 + 1)) (L1 := [(4, .int (i4 + 1)), (3, .int (if i3 < (gat S (rf a0 5) ((i4 * (6 : Int32)) + i2)) then (gat S (rf a0 5) ((i4 * (6 : Int32)) + i2)) else i3)), (0, .ref a0), (1, .int i1), (2, .int i2)]) (kX10_mingle 25 rfl) rfl rfl rfl (Nat.le_of_ble_eq_true rfl) rfl ?_
        refine X_goto (tgt := 5) (kX10_mingle 26 rfl) rfl ?_
        exact X_L [0, 1, 2, 3, 4] rfl (ih (if i3 < (gat S (rf a0 5) ((i4 * (6 : Int32)) + i2)) then (gat S (rf a0 5) ((i4 * (6 : Int32)) + i2)) else i3) (i4 + 1) S)
      · refine X_iinc (n := 49) 0 (v := (i4 + 1)) (L1 := [(4, .int (i4 + 1)), (3, .int i3), (0, .ref a0), (1, .int i1), (2, .int i2)]) (kX10_mingle 25 rfl) rfl rfl rfl (Nat.le_of_ble_eq_true rfl) rfl ?_
        refine X_goto (tgt := 5) (kX10_mingle 26 rfl) rfl ?_
        exact X_L [0, 1, 2, 3, 4] rfl (ih i3 (i4 + 1) S)
set_option maxHeartbeats 4000000 in
set_option maxRecDepth 100000 in
theorem w_X10_mingle_L55 {l : Launch} {g : XG} {G : (XS) → Option (XS)}  {i3 : Int32} {a0 : Nat} {i1 : Int32} {i2 : Int32} (hk0 : kd a0 = 10) (kE : ∀ (S1 : XS), X φV l g 2 mX10_mingle 125 [] [] S1 (G S1)) : ∀ (n : Nat) (i4 : Int32) (S : XS), X φV l g 2 mX10_mingle 55 [(4, .int i4), (3, .int i3), (0, .ref a0), (1, .int i1), (2, .int i2)] [] S ((f_X10_mingle_L55 i3 a0 i1 i2 n i4 S).bind G) := by
  intro n
  induction n with
  | zero => intro i4 S; exact X_none
  | succ n ih =>
  · intro i4 S
    rw [f_X10_mingle_L55]
    refine X_iload (n := 57) 0 (kX10_mingle 29 rfl) rfl rfl ?_
    refine X_aload_n (n := 58) 2 (kX10_mingle 30 rfl) rfl rfl rfl ?_
    refine X_getI (n := 61) xf_X10 hk0 (by decide) fl_X10_37 rfl (kX10_mingle 31 rfl) rfl ?_
    refine X_itebind ?_
    refine X_ic_ge (n := 64) (tgt := 125) (kX10_mingle 32 rfl) rfl rfl (fun h5 => ?_) (fun h5 => ?_)
    · exact X_L [] rfl (kE S)
    · refine X_iload (n := 66) 0 (kX10_mingle 33 rfl) rfl rfl ?_
      refine X_bipush (n := 68) (v := 6) (kX10_mingle 34 rfl) rfl (by decide) ?_
      refine X_imul (n := 69) (kX10_mingle 35 rfl) rfl ?_
      refine X_iload_n (n := 70) 4 (kX10_mingle 36 rfl) rfl rfl rfl ?_
      refine X_iadd (n := 71) (kX10_mingle 37 rfl) rfl ?_
      refine X_istore (n := 73) (L1 := [(5, .int ((i4 * (6 : Int32)) + i2)), (4, .int i4), (3, .int i3), (0, .ref a0), (1, .int i1), (2, .int i2)]) (kX10_mingle 38 rfl) rfl (Nat.le_of_ble_eq_true rfl) rfl ?_
      refine X_aload_n (n := 74) 3 (kX10_mingle 39 rfl) rfl rfl rfl ?_
      refine X_getR (n := 77) xf_X10 hk0 (by decide) fl_X10_27 rfl (kX10_mingle 40 rfl) rfl ?_
      refine X_iload (n := 79) 1 (kX10_mingle 41 rfl) rfl rfl ?_
      refine X_callN1I (n := 82) (As := [.ref (rf a0 7), .int i4]) (st := []) (kX10_mingle 42 rfl) rfl (p_X11_at (kt_10_7 hk0)) (by decide) nl_X10_55 mf_X11_at rfl rfl (Nat.le_of_ble_eq_true rfl) ?_
      refine X_iload_n (n := 83) 4 (kX10_mingle 43 rfl) rfl rfl rfl ?_
      refine X_itebind ?_
      refine X_ic_ne (n := 86) (tgt := 119) (kX10_mingle 44 rfl) rfl rfl (fun h6 => ?_) (fun h6 => ?_)
      · refine X_aload_n (n := 87) 3 (kX10_mingle 45 rfl) rfl rfl rfl ?_
        refine X_getR (n := 90) xf_X10 hk0 (by decide) fl_X10_21 rfl (kX10_mingle 46 rfl) rfl ?_
        refine X_iload (n := 92) 0 (kX10_mingle 47 rfl) rfl rfl ?_
        refine X_callN1I (n := 95) (As := [.ref (rf a0 5), .int ((i4 * (6 : Int32)) + i2)]) (st := []) (kX10_mingle 48 rfl) rfl (p_X11_at (kt_10_5 hk0)) (by decide) nl_X10_55 mf_X11_at rfl rfl (Nat.le_of_ble_eq_true rfl) ?_
        refine X_iload_n (n := 96) 2 (kX10_mingle 49 rfl) rfl rfl rfl ?_
        refine X_itebind ?_
        refine X_ic_ge (n := 99) (tgt := 119) (kX10_mingle 50 rfl) rfl rfl (fun h7 => ?_) (fun h7 => ?_)
        · refine X_iinc (n := 122) 1 (v := (i4 + 1)) (L1 := [(4, .int (i4 + 1)), (5, .int ((i4 * (6 : Int32)) + i2)), (3, .int i3), (0, .ref a0), (1, .int i1), (2, .int i2)]) (kX10_mingle 61 rfl) rfl rfl rfl (Nat.le_of_ble_eq_true rfl) rfl ?_
          refine X_goto (tgt := 55) (kX10_mingle 62 rfl) rfl ?_
          exact X_L [0, 2, 3, 4, 5] rfl (ih (i4 + 1) S)
        · refine X_aload_n (n := 100) 3 (kX10_mingle 51 rfl) rfl rfl rfl ?_
          refine X_getR (n := 103) xf_X10 hk0 (by decide) fl_X10_21 rfl (kX10_mingle 52 rfl) rfl ?_
          refine X_iload (n := 105) 0 (kX10_mingle 53 rfl) rfl rfl ?_
          refine X_aload_n (n := 106) 3 (kX10_mingle 54 rfl) rfl rfl rfl ?_
          refine X_getR (n := 109) xf_X10 hk0 (by decide) fl_X10_21 rfl (kX10_mingle 55 rfl) rfl ?_
          refine X_iload (n := 111) 0 (kX10_mingle 56 rfl) rfl rfl ?_
          refine X_callN1I (n := 114) (As := [.ref (rf a0 5), .int ((i4 * (6 : Int32)) + i2)]) (st := [.int ((i4 * (6 : Int32)) + i2), .ref (rf a0 5)]) (kX10_mingle 57 rfl) rfl (p_X11_at (kt_10_5 hk0)) (by decide) nl_X10_55 mf_X11_at rfl rfl (Nat.le_of_ble_eq_true rfl) ?_
          refine X_iconst (n := 115) (v := 1) (kX10_mingle 58 rfl) rfl (by decide) ?_
          refine X_iadd (n := 116) (kX10_mingle 59 rfl) rfl ?_
          refine X_callN1V (n := 119) (As := [.ref (rf a0 5), .int ((i4 * (6 : Int32)) + i2), .int ((gat S (rf a0 5) ((i4 * (6 : Int32)) + i2)) + (1 : Int32))]) (st := []) (kX10_mingle 60 rfl) rfl (p_X11_put (kt_10_5 hk0)) (by decide) nl_X10_59 mf_X11_put rfl rfl (Nat.le_of_ble_eq_true rfl) ?_
          refine X_iinc (n := 122) 1 (v := (i4 + 1)) (L1 := [(4, .int (i4 + 1)), (5, .int ((i4 * (6 : Int32)) + i2)), (3, .int i3), (0, .ref a0), (1, .int i1), (2, .int i2)]) (kX10_mingle 61 rfl) rfl rfl rfl (Nat.le_of_ble_eq_true rfl) rfl ?_
          refine X_goto (tgt := 55) (kX10_mingle 62 rfl) rfl ?_
          exact X_L [0, 2, 3, 4, 5] rfl (ih (i4 + 1) (pat S (rf a0 5) ((i4 * (6 : Int32)) + i2) ((gat S (rf a0 5) ((i4 * (6 : Int32)) + i2)) + (1 : Int32))))
      · refine X_iinc (n := 122) 1 (v := (i4 + 1)) (L1 := [(4, .int (i4 + 1)), (5, .int ((i4 * (6 : Int32)) + i2)), (3, .int i3), (0, .ref a0), (1, .int i1), (2, .int i2)]) (kX10_mingle 61 rfl) rfl rfl rfl (Nat.le_of_ble_eq_true rfl) rfl ?_
        refine X_goto (tgt := 55) (kX10_mingle 62 rfl) rfl ?_
        exact X_L [0, 2, 3, 4, 5] rfl (ih (i4 + 1) S)
set_option maxHeartbeats 4000000 in
set_option maxRecDepth 100000 in
theorem w_X10_mingle {l : Launch} {g : XG}  {a0 : Nat} {i1 : Int32} {i2 : Int32} {S : XS} (hk0 : kd a0 = 10) : Cl φV l g 2 mX10_mingle [.ref a0, .int i1, .int i2] S (f_X10_mingle a0 i1 i2 S) := by
  refine Cl.of (by decide +kernel) (Nat.le_of_ble_eq_true rfl) ?_
  unfold f_X10_mingle
  show X _ _ _ _ _ 0 [(0, .ref a0), (1, .int i1), (2, .int i2)] [] S _
  refine X_iconst (n := 1) (v := 0) (kX10_mingle 0 rfl) rfl (by decide) ?_
  refine X_istore_n (n := 2) (L1 := [(3, .int 0), (0, .ref a0), (1, .int i1), (2, .int i2)]) (kX10_mingle 1 rfl) rfl rfl (Nat.le_of_ble_eq_true rfl) rfl ?_
  refine X_iconst (n := 3) (v := 0) (kX10_mingle 2 rfl) rfl (by decide) ?_
  refine X_istore (n := 5) (L1 := [(4, .int 0), (3, .int 0), (0, .ref a0), (1, .int i1), (2, .int i2)]) (kX10_mingle 3 rfl) rfl (Nat.le_of_ble_eq_true rfl) rfl ?_
  refine X_L [0, 1, 2, 3, 4] rfl (w_X10_mingle_L5 hk0 (fun e3 S4 => ?_) 1000000 (0 : Int32) (0 : Int32) S)
  try dsimp only
  refine X_iconst (n := 53) (v := 0) (kX10_mingle 27 rfl) rfl (by decide) ?_
  refine X_istore (n := 55) (L1 := [(4, .int 0), (3, .int e3), (0, .ref a0), (1, .int i1), (2, .int i2)]) (kX10_mingle 28 rfl) rfl (Nat.le_of_ble_eq_true rfl) rfl ?_
  refine X_L [0, 1, 2, 3, 4] rfl (w_X10_mingle_L55 hk0 (fun S8 => ?_) 1000000 (0 : Int32) S4)
  try dsimp only
  exact X_vret rfl (kX10_mingle 63 rfl)
def f_X10_copyFrom  (a0 : Nat) (a1 : Nat) (S : XS) : Option (XS) := some (cpy (cpy (cpy (cpy (cpy (cpy (cpy (sI (sI S a0 0 (S.1 a1 0)) a0 4 ((sI S a0 0 (S.1 a1 0)).1 a1 4)) (rf a1 1) (rf a0 1)) (rf a1 2) (rf a0 2)) (rf a1 3) (rf a0 3)) (rf a1 5) (rf a0 5)) (rf a1 6) (rf a0 6)) (rf a1 7) (rf a0 7)) (rf a1 8) (rf a0 8))
set_option maxHeartbeats 4000000 in
set_option maxRecDepth 100000 in
theorem w_X10_copyFrom {l : Launch} {g : XG}  {a0 : Nat} {a1 : Nat} {S : XS} (hk0 : kd a0 = 10) (hk1 : kd a1 = 10) : Cl φV l g 3 mX10_copyFrom [.ref a0, .ref a1] S (f_X10_copyFrom a0 a1 S) := by
  refine Cl.of (by decide +kernel) (Nat.le_of_ble_eq_true rfl) ?_
  unfold f_X10_copyFrom
  show X _ _ _ _ _ 0 [(0, .ref a0), (1, .ref a1)] [] S _
  refine X_aload_n (n := 1) 0 (kX10_copyFrom 0 rfl) rfl rfl rfl ?_
  refine X_aload_n (n := 2) 1 (kX10_copyFrom 1 rfl) rfl rfl rfl ?_
  refine X_getI (n := 5) xf_X10 hk1 (by decide) fl_X10_33 rfl (kX10_copyFrom 2 rfl) rfl ?_
  refine X_putI (n := 8) xf_X10 hk0 (by decide) fl_X10_33 rfl rfl (Or.inl rfl) (kX10_copyFrom 3 rfl) rfl ?_
  refine X_aload_n (n := 9) 0 (kX10_copyFrom 4 rfl) rfl rfl rfl ?_
  refine X_aload_n (n := 10) 1 (kX10_copyFrom 5 rfl) rfl rfl rfl ?_
  refine X_getI (n := 13) xf_X10 hk1 (by decide) fl_X10_37 rfl (kX10_copyFrom 6 rfl) rfl ?_
  refine X_putI (n := 16) xf_X10 hk0 (by decide) fl_X10_37 rfl rfl (Or.inl rfl) (kX10_copyFrom 7 rfl) rfl ?_
  refine X_aload_n (n := 17) 1 (kX10_copyFrom 8 rfl) rfl rfl rfl ?_
  refine X_getR (n := 20) xf_X10 hk1 (by decide) fl_X10_9 rfl (kX10_copyFrom 9 rfl) rfl ?_
  refine X_aload_n (n := 21) 0 (kX10_copyFrom 10 rfl) rfl rfl rfl ?_
  refine X_getR (n := 24) xf_X10 hk0 (by decide) fl_X10_9 rfl (kX10_copyFrom 11 rfl) rfl ?_
  refine X_callN1V (n := 27) (As := [.ref (rf a1 1), .ref (rf a0 1)]) (st := []) (kX10_copyFrom 12 rfl) rfl (p_X11_copy (kt_10_1 hk1) (kt_10_1 hk0)) (by decide) nl_X10_45 mf_X11_copy rfl rfl (Nat.le_of_ble_eq_true rfl) ?_
  refine X_aload_n (n := 28) 1 (kX10_copyFrom 13 rfl) rfl rfl rfl ?_
  refine X_getR (n := 31) xf_X10 hk1 (by decide) fl_X10_15 rfl (kX10_copyFrom 14 rfl) rfl ?_
  refine X_aload_n (n := 32) 0 (kX10_copyFrom 15 rfl) rfl rfl rfl ?_
  refine X_getR (n := 35) xf_X10 hk0 (by decide) fl_X10_15 rfl (kX10_copyFrom 16 rfl) rfl ?_
  refine X_callN1V (n := 38) (As := [.ref (rf a1 2), .ref (rf a0 2)]) (st := []) (kX10_copyFrom 17 rfl) rfl (p_X11_copy (kt_10_2 hk1) (kt_10_2 hk0)) (by decide) nl_X10_45 mf_X11_copy rfl rfl (Nat.le_of_ble_eq_true rfl) ?_
  refine X_aload_n (n := 39) 1 (kX10_copyFrom 18 rfl) rfl rfl rfl ?_
  refine X_getR (n := 42) xf_X10 hk1 (by decide) fl_X10_18 rfl (kX10_copyFrom 19 rfl) rfl ?_
  refine X_aload_n (n := 43) 0 (kX10_copyFrom 20 rfl) rfl rfl rfl ?_
  refine X_getR (n := 46) xf_X10 hk0 (by decide) fl_X10_18 rfl (kX10_copyFrom 21 rfl) rfl ?_
  refine X_callN1V (n := 49) (As := [.ref (rf a1 3), .ref (rf a0 3)]) (st := []) (kX10_copyFrom 22 rfl) rfl (p_X11_copy (kt_10_3 hk1) (kt_10_3 hk0)) (by decide) nl_X10_45 mf_X11_copy rfl rfl (Nat.le_of_ble_eq_true rfl) ?_
  refine X_aload_n (n := 50) 1 (kX10_copyFrom 23 rfl) rfl rfl rfl ?_
  refine X_getR (n := 53) xf_X10 hk1 (by decide) fl_X10_21 rfl (kX10_copyFrom 24 rfl) rfl ?_
  refine X_aload_n (n := 54) 0 (kX10_copyFrom 25 rfl) rfl rfl rfl ?_
  refine X_getR (n := 57) xf_X10 hk0 (by decide) fl_X10_21 rfl (kX10_copyFrom 26 rfl) rfl ?_
  refine X_callN1V (n := 60) (As := [.ref (rf a1 5), .ref (rf a0 5)]) (st := []) (kX10_copyFrom 27 rfl) rfl (p_X11_copy (kt_10_5 hk1) (kt_10_5 hk0)) (by decide) nl_X10_45 mf_X11_copy rfl rfl (Nat.le_of_ble_eq_true rfl) ?_
  refine X_aload_n (n := 61) 1 (kX10_copyFrom 28 rfl) rfl rfl rfl ?_
  refine X_getR (n := 64) xf_X10 hk1 (by decide) fl_X10_24 rfl (kX10_copyFrom 29 rfl) rfl ?_
  refine X_aload_n (n := 65) 0 (kX10_copyFrom 30 rfl) rfl rfl rfl ?_
  refine X_getR (n := 68) xf_X10 hk0 (by decide) fl_X10_24 rfl (kX10_copyFrom 31 rfl) rfl ?_
  refine X_callN1V (n := 71) (As := [.ref (rf a1 6), .ref (rf a0 6)]) (st := []) (kX10_copyFrom 32 rfl) rfl (p_X11_copy (kt_10_6 hk1) (kt_10_6 hk0)) (by decide) nl_X10_45 mf_X11_copy rfl rfl (Nat.le_of_ble_eq_true rfl) ?_
  refine X_aload_n (n := 72) 1 (kX10_copyFrom 33 rfl) rfl rfl rfl ?_
  refine X_getR (n := 75) xf_X10 hk1 (by decide) fl_X10_27 rfl (kX10_copyFrom 34 rfl) rfl ?_
  refine X_aload_n (n := 76) 0 (kX10_copyFrom 35 rfl) rfl rfl rfl ?_
  refine X_getR (n := 79) xf_X10 hk0 (by decide) fl_X10_27 rfl (kX10_copyFrom 36 rfl) rfl ?_
  refine X_callN1V (n := 82) (As := [.ref (rf a1 7), .ref (rf a0 7)]) (st := []) (kX10_copyFrom 37 rfl) rfl (p_X11_copy (kt_10_7 hk1) (kt_10_7 hk0)) (by decide) nl_X10_45 mf_X11_copy rfl rfl (Nat.le_of_ble_eq_true rfl) ?_
  refine X_aload_n (n := 83) 1 (kX10_copyFrom 38 rfl) rfl rfl rfl ?_
  refine X_getR (n := 86) xf_X10 hk1 (by decide) fl_X10_30 rfl (kX10_copyFrom 39 rfl) rfl ?_
  refine X_aload_n (n := 87) 0 (kX10_copyFrom 40 rfl) rfl rfl rfl ?_
  refine X_getR (n := 90) xf_X10 hk0 (by decide) fl_X10_30 rfl (kX10_copyFrom 41 rfl) rfl ?_
  refine X_callN1V (n := 93) (As := [.ref (rf a1 8), .ref (rf a0 8)]) (st := []) (kX10_copyFrom 42 rfl) rfl (p_X11_copy (kt_10_8 hk1) (kt_10_8 hk0)) (by decide) nl_X10_45 mf_X11_copy rfl rfl (Nat.le_of_ble_eq_true rfl) ?_
  exact X_vret rfl (kX10_copyFrom 43 rfl)
def t_X10_copyFrom (a0 : Nat) (a1 : Nat) (S : XS) : XS := (cpy (cpy (cpy (cpy (cpy (cpy (cpy (sI (sI S a0 0 (S.1 a1 0)) a0 4 ((sI S a0 0 (S.1 a1 0)).1 a1 4)) (rf a1 1) (rf a0 1)) (rf a1 2) (rf a0 2)) (rf a1 3) (rf a0 3)) (rf a1 5) (rf a0 5)) (rf a1 6) (rf a0 6)) (rf a1 7) (rf a0 7)) (rf a1 8) (rf a0 8))
theorem ft_X10_copyFrom (a0 : Nat) (a1 : Nat) (S : XS) : f_X10_copyFrom a0 a1 S = some (t_X10_copyFrom a0 a1 S) := by
  unfold f_X10_copyFrom t_X10_copyFrom
  first | rfl | simp only [ite_u]
theorem p_X10_copyFrom {l : Launch} {g : XG} {a0 : Nat} {a1 : Nat} {S : XS} (hk0 : kd a0 = 10) (hk1 : kd a1 = 10) : Cl φV l g 3 mX10_copyFrom [.ref a0, .ref a1] S (some (t_X10_copyFrom a0 a1 S)) := ft_X10_copyFrom a0 a1 S ▸ w_X10_copyFrom hk0 hk1
def f_X2_copyFrom  (a0 : Nat) (a1 : Nat) (S : XS) : Option (XS) := (if (18 : Int32) < 0 ∨ ln (rf a1 1) < (18 : Int32).toNatClampNeg ∨ ln (rf a0 1) < (18 : Int32).toNatClampNeg then none else some (cpy (cpy (cpy (cpy (cpy (cpy (cpJ (cpy S (rf a1 0) (rf a0 0)) (rf a1 1) (rf a0 1) (18 : Int32).toNatClampNeg) (rf a1 2) (rf a0 2)) (rf a1 3) (rf a0 3)) (rf a1 4) (rf a0 4)) (rf a1 5) (rf a0 5)) (rf a1 6) (rf a0 6)) (rf a1 7) (rf a0 7)))
set_option maxHeartbeats 4000000 in
set_option maxRecDepth 100000 in
theorem w_X2_copyFrom {l : Launch} {g : XG}  {a0 : Nat} {a1 : Nat} {S : XS} (hk0 : kd a0 = 2) (hk1 : kd a1 = 2) : Cl φV l g 3 mX2_copyFrom [.ref a0, .ref a1] S (f_X2_copyFrom a0 a1 S) := by
  refine Cl.of (by decide +kernel) (Nat.le_of_ble_eq_true rfl) ?_
  unfold f_X2_copyFrom
  show X _ _ _ _ _ 0 [(0, .ref a0), (1, .ref a1)] [] S _
  refine X_aload_n (n := 1) 1 (kX2_copyFrom 0 rfl) rfl rfl rfl ?_
  refine X_getR (n := 4) xf_X2 hk1 (by decide) fl_X2_13 rfl (kX2_copyFrom 1 rfl) rfl ?_
  refine X_aload_n (n := 5) 0 (kX2_copyFrom 2 rfl) rfl rfl rfl ?_
  refine X_getR (n := 8) xf_X2 hk0 (by decide) fl_X2_13 rfl (kX2_copyFrom 3 rfl) rfl ?_
  refine X_callN1V (n := 11) (As := [.ref (rf a1 0), .ref (rf a0 0)]) (st := []) (kX2_copyFrom 4 rfl) rfl (p_X11_copy (kt_2_0 hk1) (kt_2_0 hk0)) (by decide) nl_X2_49 mf_X11_copy rfl rfl (Nat.le_of_ble_eq_true rfl) ?_
  refine X_aload_n (n := 12) 1 (kX2_copyFrom 5 rfl) rfl rfl rfl ?_
  refine X_getR (n := 15) xf_X2 hk1 (by decide) fl_X2_18 rfl (kX2_copyFrom 6 rfl) rfl ?_
  refine X_iconst (n := 16) (v := 0) (kX2_copyFrom 7 rfl) rfl (by decide) ?_
  refine X_aload_n (n := 17) 0 (kX2_copyFrom 8 rfl) rfl rfl rfl ?_
  refine X_getR (n := 20) xf_X2 hk0 (by decide) fl_X2_18 rfl (kX2_copyFrom 9 rfl) rfl ?_
  refine X_iconst (n := 21) (v := 0) (kX2_copyFrom 10 rfl) rfl (by decide) ?_
  refine X_aload_n (n := 22) 1 (kX2_copyFrom 11 rfl) rfl rfl rfl ?_
  refine X_getR (n := 25) xf_X2 hk1 (by decide) fl_X2_18 rfl (kX2_copyFrom 12 rfl) rfl ?_
  refine X_alenJ (n := 26) (v := 18) (kt_2_1 hk1) (kX2_copyFrom 13 rfl) rfl (by rw [lt_2_1 hk1]; rfl) ?_
  refine X_aload_n (n := 27) 0 (kX2_copyFrom 14 rfl) rfl rfl rfl ?_
  refine X_getR (n := 30) xf_X2 hk0 (by decide) fl_X2_18 rfl (kX2_copyFrom 15 rfl) rfl ?_
  refine X_alenJ (n := 31) (v := 18) (kt_2_1 hk0) (kX2_copyFrom 16 rfl) rfl (by rw [lt_2_1 hk0]; rfl) ?_
  refine X_mmin (n := 34) (kX2_copyFrom 17 rfl) rfl (by decide) ml_X2_53 ms1_min ms2 ms3_min (Nat.le_of_ble_eq_true rfl) ?_
  rw [show (if (18 : Int32) < (18 : Int32) then (18 : Int32) else (18 : Int32)) = (18 : Int32) from by decide]
  refine X_copyJ (n := 37) (kt_2_1 hk1) (kt_2_1 hk0) (kX2_copyFrom 18 rfl) rfl (by decide) ml_X2_59 mc_n mc_s mc_i (Nat.le_of_ble_eq_true rfl) (fun h1 => ?_)
  refine X_aload_n (n := 38) 1 (kX2_copyFrom 19 rfl) rfl rfl rfl ?_
  refine X_getR (n := 41) xf_X2 hk1 (by decide) fl_X2_22 rfl (kX2_copyFrom 20 rfl) rfl ?_
  refine X_aload_n (n := 42) 0 (kX2_copyFrom 21 rfl) rfl rfl rfl ?_
  refine X_getR (n := 45) xf_X2 hk0 (by decide) fl_X2_22 rfl (kX2_copyFrom 22 rfl) rfl ?_
  refine X_callN1V (n := 48) (As := [.ref (rf a1 2), .ref (rf a0 2)]) (st := []) (kX2_copyFrom 23 rfl) rfl (p_X11_copy (kt_2_2 hk1) (kt_2_2 hk0)) (by decide) nl_X2_49 mf_X11_copy rfl rfl (Nat.le_of_ble_eq_true rfl) ?_
  refine X_aload_n (n := 49) 1 (kX2_copyFrom 24 rfl) rfl rfl rfl ?_
  refine X_getR (n := 52) xf_X2 hk1 (by decide) fl_X2_25 rfl (kX2_copyFrom 25 rfl) rfl ?_
  refine X_aload_n (n := 53) 0 (kX2_copyFrom 26 rfl) rfl rfl rfl ?_
  refine X_getR (n := 56) xf_X2 hk0 (by decide) fl_X2_25 rfl (kX2_copyFrom 27 rfl) rfl ?_
  refine X_callN1V (n := 59) (As := [.ref (rf a1 3), .ref (rf a0 3)]) (st := []) (kX2_copyFrom 28 rfl) rfl (p_X11_copy (kt_2_3 hk1) (kt_2_3 hk0)) (by decide) nl_X2_49 mf_X11_copy rfl rfl (Nat.le_of_ble_eq_true rfl) ?_
  refine X_aload_n (n := 60) 1 (kX2_copyFrom 29 rfl) rfl rfl rfl ?_
  refine X_getR (n := 63) xf_X2 hk1 (by decide) fl_X2_28 rfl (kX2_copyFrom 30 rfl) rfl ?_
  refine X_aload_n (n := 64) 0 (kX2_copyFrom 31 rfl) rfl rfl rfl ?_
  refine X_getR (n := 67) xf_X2 hk0 (by decide) fl_X2_28 rfl (kX2_copyFrom 32 rfl) rfl ?_
  refine X_callN1V (n := 70) (As := [.ref (rf a1 4), .ref (rf a0 4)]) (st := []) (kX2_copyFrom 33 rfl) rfl (p_X11_copy (kt_2_4 hk1) (kt_2_4 hk0)) (by decide) nl_X2_49 mf_X11_copy rfl rfl (Nat.le_of_ble_eq_true rfl) ?_
  refine X_aload_n (n := 71) 1 (kX2_copyFrom 34 rfl) rfl rfl rfl ?_
  refine X_getR (n := 74) xf_X2 hk1 (by decide) fl_X2_31 rfl (kX2_copyFrom 35 rfl) rfl ?_
  refine X_aload_n (n := 75) 0 (kX2_copyFrom 36 rfl) rfl rfl rfl ?_
  refine X_getR (n := 78) xf_X2 hk0 (by decide) fl_X2_31 rfl (kX2_copyFrom 37 rfl) rfl ?_
  refine X_callN1V (n := 81) (As := [.ref (rf a1 5), .ref (rf a0 5)]) (st := []) (kX2_copyFrom 38 rfl) rfl (p_X11_copy (kt_2_5 hk1) (kt_2_5 hk0)) (by decide) nl_X2_49 mf_X11_copy rfl rfl (Nat.le_of_ble_eq_true rfl) ?_
  refine X_aload_n (n := 82) 1 (kX2_copyFrom 39 rfl) rfl rfl rfl ?_
  refine X_getR (n := 85) xf_X2 hk1 (by decide) fl_X2_34 rfl (kX2_copyFrom 40 rfl) rfl ?_
  refine X_aload_n (n := 86) 0 (kX2_copyFrom 41 rfl) rfl rfl rfl ?_
  refine X_getR (n := 89) xf_X2 hk0 (by decide) fl_X2_34 rfl (kX2_copyFrom 42 rfl) rfl ?_
  refine X_callN1V (n := 92) (As := [.ref (rf a1 6), .ref (rf a0 6)]) (st := []) (kX2_copyFrom 43 rfl) rfl (p_X11_copy (kt_2_6 hk1) (kt_2_6 hk0)) (by decide) nl_X2_49 mf_X11_copy rfl rfl (Nat.le_of_ble_eq_true rfl) ?_
  refine X_aload_n (n := 93) 1 (kX2_copyFrom 44 rfl) rfl rfl rfl ?_
  refine X_getR (n := 96) xf_X2 hk1 (by decide) fl_X2_37 rfl (kX2_copyFrom 45 rfl) rfl ?_
  refine X_aload_n (n := 97) 0 (kX2_copyFrom 46 rfl) rfl rfl rfl ?_
  refine X_getR (n := 100) xf_X2 hk0 (by decide) fl_X2_37 rfl (kX2_copyFrom 47 rfl) rfl ?_
  refine X_callN1V (n := 103) (As := [.ref (rf a1 7), .ref (rf a0 7)]) (st := []) (kX2_copyFrom 48 rfl) rfl (p_X11_copy (kt_2_7 hk1) (kt_2_7 hk0)) (by decide) nl_X2_49 mf_X11_copy rfl rfl (Nat.le_of_ble_eq_true rfl) ?_
  exact X_vret rfl (kX2_copyFrom 49 rfl)
def f_X2_has  (a0 : Nat) (i1 : Int32) (i2 : Int32) (S : XS) : Option (Bool × XS) := (if i2 < 0 then some (false, S) else (if (gat S (rf a0 0) i1) ≤ i2 then some (false, S) else some (true, S)))
set_option maxHeartbeats 4000000 in
set_option maxRecDepth 100000 in
theorem w_X2_has {l : Launch} {g : XG}  {a0 : Nat} {i1 : Int32} {i2 : Int32} {S : XS} (hk0 : kd a0 = 2) : Cl φB l g 2 mX2_has [.ref a0, .int i1, .int i2] S (f_X2_has a0 i1 i2 S) := by
  refine Cl.of (by decide +kernel) (Nat.le_of_ble_eq_true rfl) ?_
  unfold f_X2_has
  show X _ _ _ _ _ 0 [(0, .ref a0), (1, .int i1), (2, .int i2)] [] S _
  refine X_iload_n (n := 1) 2 (kX2_has 0 rfl) rfl rfl rfl ?_
  refine X_if_lt (n := 4) (tgt := 20) (kX2_has 1 rfl) rfl rfl (fun h1 => ?_) (fun h1 => ?_)
  · refine X_iconst (n := 21) (v := 0) (kX2_has 10 rfl) rfl (by decide) ?_
    exact X_zret (b := false) rfl (kX2_has 11 rfl)
  · refine X_iload_n (n := 5) 2 (kX2_has 2 rfl) rfl rfl rfl ?_
    refine X_aload_n (n := 6) 0 (kX2_has 3 rfl) rfl rfl rfl ?_
    refine X_getR (n := 9) xf_X2 hk0 (by decide) fl_X2_13 rfl (kX2_has 4 rfl) rfl ?_
    refine X_iload_n (n := 10) 1 (kX2_has 5 rfl) rfl rfl rfl ?_
    refine X_callN1I (n := 13) (As := [.ref (rf a0 0), .int i1]) (st := [.int i2]) (kX2_has 6 rfl) rfl (p_X11_at (kt_2_0 hk0)) (by decide) nl_X2_65 mf_X11_at rfl rfl (Nat.le_of_ble_eq_true rfl) ?_
    refine X_ic_ge (n := 16) (tgt := 20) (kX2_has 7 rfl) rfl rfl (fun h2 => ?_) (fun h2 => ?_)
    · refine X_iconst (n := 21) (v := 0) (kX2_has 10 rfl) rfl (by decide) ?_
      exact X_zret (b := false) rfl (kX2_has 11 rfl)
    · refine X_iconst (n := 17) (v := 1) (kX2_has 8 rfl) rfl (by decide) ?_
      refine X_goto (tgt := 21) (kX2_has 9 rfl) rfl ?_
      exact X_zret (b := true) rfl (kX2_has 11 rfl)
def t_X2_has (a0 : Nat) (i1 : Int32) (i2 : Int32) (S : XS) : Bool := (if i2 < 0 then false else (if (gat S (rf a0 0) i1) ≤ i2 then false else true))
theorem ft_X2_has (a0 : Nat) (i1 : Int32) (i2 : Int32) (S : XS) : f_X2_has a0 i1 i2 S = some (t_X2_has a0 i1 i2 S, S) := by
  unfold f_X2_has t_X2_has
  first | rfl | simp only [ite_p]
theorem p_X2_has {l : Launch} {g : XG} {a0 : Nat} {i1 : Int32} {i2 : Int32} {S : XS} (hk0 : kd a0 = 2) : Cl φB l g 2 mX2_has [.ref a0, .int i1, .int i2] S (some (t_X2_has a0 i1 i2 S, S)) := ft_X2_has a0 i1 i2 S ▸ w_X2_has hk0
def f_X2_isTold  (a0 : Nat) (j1 : Int64) (S : XS) : Option (Bool × XS) := ((f_X2_numberOf a0 (0 : Int32) j1 S).bind (fun q => match q with | (r1, S2) => (if r1 = (-1 : Int32) then ((f_X2_numberOf a0 (1 : Int32) j1 S2).bind (fun q => match q with | (r4, S5) => (if r4 = (-1 : Int32) then ((f_X2_numberOf a0 (2 : Int32) j1 S5).bind (fun q => match q with | (r7, S8) => (if r7 = (-1 : Int32) then some (false, S8) else some (true, S8)))) else some (true, S5)))) else some (true, S2))))
set_option maxHeartbeats 4000000 in
set_option maxRecDepth 100000 in
theorem w_X2_isTold {l : Launch} {g : XG}  {a0 : Nat} {j1 : Int64} {S : XS} (hk0 : kd a0 = 2) : Cl φB l g 2 mX2_isTold [.ref a0, .long j1] S (f_X2_isTold a0 j1 S) := by
  refine Cl.of (by decide +kernel) (Nat.le_of_ble_eq_true rfl) ?_
  unfold f_X2_isTold
  show X _ _ _ _ _ 0 [(0, .ref a0), (1, .long j1)] [] S _
  refine X_aload_n (n := 1) 0 (kX2_isTold 0 rfl) rfl rfl rfl ?_
  refine X_iconst (n := 2) (v := 0) (kX2_isTold 1 rfl) rfl (by decide) ?_
  refine X_lload_n (n := 3) 1 (kX2_isTold 2 rfl) rfl rfl rfl ?_
  refine X_callVI (n := 6) (As := [.int (0 : Int32), .long j1]) (st := []) (kX2_isTold 3 rfl) rfl (w_X2_numberOf hk0) (by decide) ml_X2_69 mf_X2_numberOf rfl hk0 xf_X2 rfl (Nat.le_of_ble_eq_true rfl) (fun r1 S2 hq => ?_)
  try dsimp only
  refine X_iconst (n := 7) (v := (-1)) (kX2_isTold 4 rfl) rfl (by decide) ?_
  refine X_ic_ne (n := 10) (tgt := 30) (kX2_isTold 5 rfl) rfl rfl (fun h3 => ?_) (fun h3 => ?_)
  · refine X_aload_n (n := 11) 0 (kX2_isTold 6 rfl) rfl rfl rfl ?_
    refine X_iconst (n := 12) (v := 1) (kX2_isTold 7 rfl) rfl (by decide) ?_
    refine X_lload_n (n := 13) 1 (kX2_isTold 8 rfl) rfl rfl rfl ?_
    refine X_callVI (n := 16) (As := [.int (1 : Int32), .long j1]) (st := []) (kX2_isTold 9 rfl) rfl (w_X2_numberOf hk0) (by decide) ml_X2_69 mf_X2_numberOf rfl hk0 xf_X2 rfl (Nat.le_of_ble_eq_true rfl) (fun r4 S5 hq => ?_)
    try dsimp only
    refine X_iconst (n := 17) (v := (-1)) (kX2_isTold 10 rfl) rfl (by decide) ?_
    refine X_ic_ne (n := 20) (tgt := 30) (kX2_isTold 11 rfl) rfl rfl (fun h6 => ?_) (fun h6 => ?_)
    · refine X_aload_n (n := 21) 0 (kX2_isTold 12 rfl) rfl rfl rfl ?_
      refine X_iconst (n := 22) (v := 2) (kX2_isTold 13 rfl) rfl (by decide) ?_
      refine X_lload_n (n := 23) 1 (kX2_isTold 14 rfl) rfl rfl rfl ?_
      refine X_callVI (n := 26) (As := [.int (2 : Int32), .long j1]) (st := []) (kX2_isTold 15 rfl) rfl (w_X2_numberOf hk0) (by decide) ml_X2_69 mf_X2_numberOf rfl hk0 xf_X2 rfl (Nat.le_of_ble_eq_true rfl) (fun r7 S8 hq => ?_)
      try dsimp only
      refine X_iconst (n := 27) (v := (-1)) (kX2_isTold 16 rfl) rfl (by decide) ?_
      refine X_ic_eq (n := 30) (tgt := 34) (kX2_isTold 17 rfl) rfl rfl (fun h9 => ?_) (fun h9 => ?_)
      · refine X_iconst (n := 35) (v := 0) (kX2_isTold 20 rfl) rfl (by decide) ?_
        exact X_zret (b := false) rfl (kX2_isTold 21 rfl)
      · refine X_iconst (n := 31) (v := 1) (kX2_isTold 18 rfl) rfl (by decide) ?_
        refine X_goto (tgt := 35) (kX2_isTold 19 rfl) rfl ?_
        exact X_zret (b := true) rfl (kX2_isTold 21 rfl)
    · refine X_iconst (n := 31) (v := 1) (kX2_isTold 18 rfl) rfl (by decide) ?_
      refine X_goto (tgt := 35) (kX2_isTold 19 rfl) rfl ?_
      exact X_zret (b := true) rfl (kX2_isTold 21 rfl)
  · refine X_iconst (n := 31) (v := 1) (kX2_isTold 18 rfl) rfl (by decide) ?_
    refine X_goto (tgt := 35) (kX2_isTold 19 rfl) rfl ?_
    exact X_zret (b := true) rfl (kX2_isTold 21 rfl)
def f_X2_tell  (a0 : Nat) (i1 : Int32) (j2 : Int64) (S : XS) : Option (Int32 × XS) := ((if ((i1 * (6 : Int32)) + (gat S (rf a0 0) i1)) < 0 then some S else (if (18 : Int32) ≤ ((i1 * (6 : Int32)) + (gat S (rf a0 0) i1)) then some S else (if ((i1 * (6 : Int32)) + (gat S (rf a0 0) i1)) < 0 ∨ ln (rf a0 1) ≤ ((i1 * (6 : Int32)) + (gat S (rf a0 0) i1)).toNatClampNeg then none else some (sL S (rf a0 1) (((i1 * (6 : Int32)) + (gat S (rf a0 0) i1)).toNatClampNeg) j2)))).bind (fun S1 => some ((gat S (rf a0 0) i1), (pat S1 (rf a0 0) i1 ((gat S (rf a0 0) i1) + (1 : Int32))))))
set_option maxHeartbeats 4000000 in
set_option maxRecDepth 100000 in
theorem w_X2_tell {l : Launch} {g : XG}  {a0 : Nat} {i1 : Int32} {j2 : Int64} {S : XS} (hk0 : kd a0 = 2) : Cl φI l g 2 mX2_tell [.ref a0, .int i1, .long j2] S (f_X2_tell a0 i1 j2 S) := by
  refine Cl.of (by decide +kernel) (Nat.le_of_ble_eq_true rfl) ?_
  unfold f_X2_tell
  show X _ _ _ _ _ 0 [(0, .ref a0), (1, .int i1), (2, .long j2)] [] S _
  refine X_aload_n (n := 1) 0 (kX2_tell 0 rfl) rfl rfl rfl ?_
  refine X_getR (n := 4) xf_X2 hk0 (by decide) fl_X2_13 rfl (kX2_tell 1 rfl) rfl ?_
  refine X_iload_n (n := 5) 1 (kX2_tell 2 rfl) rfl rfl rfl ?_
  refine X_callN1I (n := 8) (As := [.ref (rf a0 0), .int i1]) (st := []) (kX2_tell 3 rfl) rfl (p_X11_at (kt_2_0 hk0)) (by decide) nl_X2_65 mf_X11_at rfl rfl (Nat.le_of_ble_eq_true rfl) ?_
  refine X_istore (n := 10) (L1 := [(4, .int (gat S (rf a0 0) i1)), (0, .ref a0), (1, .int i1), (2, .long j2)]) (kX2_tell 4 rfl) rfl (Nat.le_of_ble_eq_true rfl) rfl ?_
  refine X_iload_n (n := 11) 2 (kX2_tell 5 rfl) rfl rfl rfl ?_
  refine X_bipush (n := 13) (v := 6) (kX2_tell 6 rfl) rfl (by decide) ?_
  refine X_imul (n := 14) (kX2_tell 7 rfl) rfl ?_
  refine X_iload (n := 16) 0 (kX2_tell 8 rfl) rfl rfl ?_
  refine X_iadd (n := 17) (kX2_tell 9 rfl) rfl ?_
  refine X_istore (n := 19) (L1 := [(5, .int ((i1 * (6 : Int32)) + (gat S (rf a0 0) i1))), (4, .int (gat S (rf a0 0) i1)), (0, .ref a0), (1, .int i1), (2, .long j2)]) (kX2_tell 10 rfl) rfl (Nat.le_of_ble_eq_true rfl) rfl ?_
  refine X_iload (n := 21) 0 (kX2_tell 11 rfl) rfl rfl ?_
  refine X_join 42 (fun S1 => [(4, .int (gat S (rf a0 0) i1)), (0, .ref a0), (1, .int i1)]) (fun S1 => []) (fun S1 => S1) (fun S1 => ?_) (fun kJ => ?_)
  · try dsimp only
    refine X_aload_n (n := 43) 1 (kX2_tell 23 rfl) rfl rfl rfl ?_
    refine X_getR (n := 46) xf_X2 hk0 (by decide) fl_X2_13 rfl (kX2_tell 24 rfl) rfl ?_
    refine X_iload_n (n := 47) 2 (kX2_tell 25 rfl) rfl rfl rfl ?_
    refine X_iload (n := 49) 0 (kX2_tell 26 rfl) rfl rfl ?_
    refine X_iconst (n := 50) (v := 1) (kX2_tell 27 rfl) rfl (by decide) ?_
    refine X_iadd (n := 51) (kX2_tell 28 rfl) rfl ?_
    refine X_callN1V (n := 54) (As := [.ref (rf a0 0), .int i1, .int ((gat S (rf a0 0) i1) + (1 : Int32))]) (st := []) (kX2_tell 29 rfl) rfl (p_X11_put (kt_2_0 hk0)) (by decide) nl_X2_73 mf_X11_put rfl rfl (Nat.le_of_ble_eq_true rfl) ?_
    refine X_iload (n := 56) 0 (kX2_tell 30 rfl) rfl rfl ?_
    exact X_iret rfl (kX2_tell 31 rfl)
  · refine X_itebind ?_
    refine X_if_lt (n := 24) (tgt := 42) (kX2_tell 12 rfl) rfl rfl (fun h2 => ?_) (fun h2 => ?_)
    · exact X_L [1, 2, 3] rfl (kJ S)
    · refine X_iload (n := 26) 0 (kX2_tell 13 rfl) rfl rfl ?_
      refine X_aload_n (n := 27) 2 (kX2_tell 14 rfl) rfl rfl rfl ?_
      refine X_getR (n := 30) xf_X2 hk0 (by decide) fl_X2_18 rfl (kX2_tell 15 rfl) rfl ?_
      refine X_alenJ (n := 31) (v := 18) (kt_2_1 hk0) (kX2_tell 16 rfl) rfl (by rw [lt_2_1 hk0]; rfl) ?_
      refine X_itebind ?_
      refine X_ic_ge (n := 34) (tgt := 42) (kX2_tell 17 rfl) rfl rfl (fun h3 => ?_) (fun h3 => ?_)
      · exact X_L [1, 2, 3] rfl (kJ S)
      · refine X_aload_n (n := 35) 2 (kX2_tell 18 rfl) rfl rfl rfl ?_
        refine X_getR (n := 38) xf_X2 hk0 (by decide) fl_X2_18 rfl (kX2_tell 19 rfl) rfl ?_
        refine X_iload (n := 40) 0 (kX2_tell 20 rfl) rfl rfl ?_
        refine X_lload_n (n := 41) 4 (kX2_tell 21 rfl) rfl rfl rfl ?_
        refine X_itebind ?_
        refine X_last (n := 42) (kt_2_1 hk0) (kX2_tell 22 rfl) rfl (fun h4 => ?_)
        exact X_L [1, 2, 3] rfl (kJ (sL S (rf a0 1) (((i1 * (6 : Int32)) + (gat S (rf a0 0) i1)).toNatClampNeg) j2))
def f_X2_gain_L6  (a0 : Nat) (a1 : Nat) (i2 : Int32) (i3 : Int32) : Nat → Int32 → Int32 → XS → Option (Int32 × XS)
  | 0, _, _, _ => none
  | n + 1, i4, i5, S => (if (6 : Int32) ≤ i5 then some (i4, S) else f_X2_gain_L6 a0 a1 i2 i3 n (i4 + ((if ((gat S a1 ((i2 * (6 : Int32)) + i5)) + (gat S (rf a0 3) ((i3 * (6 : Int32)) + i5))) < (99 : Int32) then ((gat S a1 ((i2 * (6 : Int32)) + i5)) + (gat S (rf a0 3) ((i3 * (6 : Int32)) + i5))) else (99 : Int32)) - (gat S a1 ((i2 * (6 : Int32)) + i5)))) (i5 + 1) S)
def f_X2_gain  (a0 : Nat) (a1 : Nat) (i2 : Int32) (i3 : Int32) (S : XS) : Option (Int32 × XS) := ((f_X2_gain_L6 a0 a1 i2 i3 1000000 (0 : Int32) (0 : Int32) S).bind (fun q => match q with | (e2, S3) => some (e2, S3)))
set_option maxHeartbeats 4000000 in
set_option maxRecDepth 100000 in
theorem w_X2_gain_L6 {l : Launch} {g : XG} {G : (Int32 × XS) → Option (Int32 × XS)}  {a0 : Nat} {a1 : Nat} {i2 : Int32} {i3 : Int32} (hk0 : kd a0 = 2) (hk1 : kd a1 = 20) (kE : ∀ (e4 : Int32) (S1 : XS), X φI l g 2 mX2_gain 62 [(4, .int e4)] [] S1 (G (e4, S1))) : ∀ (n : Nat) (i4 : Int32) (i5 : Int32) (S : XS), X φI l g 2 mX2_gain 6 [(5, .int i5), (4, .int i4), (0, .ref a0), (1, .ref a1), (2, .int i2), (3, .int i3)] [] S ((f_X2_gain_L6 a0 a1 i2 i3 n i4 i5 S).bind G) := by
  intro n
  induction n with
  | zero => intro i4 i5 S; exact X_none
  | succ n ih =>
  · intro i4 i5 S
    rw [f_X2_gain_L6]
    refine X_iload (n := 8) 0 (kX2_gain 4 rfl) rfl rfl ?_
    refine X_bipush (n := 10) (v := 6) (kX2_gain 5 rfl) rfl (by decide) ?_
    refine X_itebind ?_
    refine X_ic_ge (n := 13) (tgt := 62) (kX2_gain 6 rfl) rfl rfl (fun h1 => ?_) (fun h1 => ?_)
    · exact X_L [1] rfl (kE i4 S)
    · refine X_aload_n (n := 14) 3 (kX2_gain 7 rfl) rfl rfl rfl ?_
      refine X_iload_n (n := 15) 4 (kX2_gain 8 rfl) rfl rfl rfl ?_
      refine X_bipush (n := 17) (v := 6) (kX2_gain 9 rfl) rfl (by decide) ?_
      refine X_imul (n := 18) (kX2_gain 10 rfl) rfl ?_
      refine X_iload (n := 20) 0 (kX2_gain 11 rfl) rfl rfl ?_
      refine X_iadd (n := 21) (kX2_gain 12 rfl) rfl ?_
      refine X_callN1I (n := 24) (As := [.ref a1, .int ((i2 * (6 : Int32)) + i5)]) (st := []) (kX2_gain 13 rfl) rfl (p_X11_at hk1) (by decide) nl_X2_65 mf_X11_at rfl rfl (Nat.le_of_ble_eq_true rfl) ?_
      refine X_istore (n := 26) (L1 := [(6, .int (gat S a1 ((i2 * (6 : Int32)) + i5))), (5, .int i5), (4, .int i4), (0, .ref a0), (1, .ref a1), (2, .int i2), (3, .int i3)]) (kX2_gain 14 rfl) rfl (Nat.le_of_ble_eq_true rfl) rfl ?_
      refine X_iload (n := 28) 2 (kX2_gain 15 rfl) rfl rfl ?_
      refine X_bipush (n := 30) (v := 99) (kX2_gain 16 rfl) rfl (by decide) ?_
      refine X_iload (n := 32) 0 (kX2_gain 17 rfl) rfl rfl ?_
      refine X_aload_n (n := 33) 3 (kX2_gain 18 rfl) rfl rfl rfl ?_
      refine X_getR (n := 36) xf_X2 hk0 (by decide) fl_X2_25 rfl (kX2_gain 19 rfl) rfl ?_
      refine X_iload_n (n := 37) 6 (kX2_gain 20 rfl) rfl rfl rfl ?_
      refine X_bipush (n := 39) (v := 6) (kX2_gain 21 rfl) rfl (by decide) ?_
      refine X_imul (n := 40) (kX2_gain 22 rfl) rfl ?_
      refine X_iload (n := 42) 1 (kX2_gain 23 rfl) rfl rfl ?_
      refine X_iadd (n := 43) (kX2_gain 24 rfl) rfl ?_
      refine X_callN1I (n := 46) (As := [.ref (rf a0 3), .int ((i3 * (6 : Int32)) + i5)]) (st := [.int (gat S a1 ((i2 * (6 : Int32)) + i5)), .int 99, .int i4]) (kX2_gain 25 rfl) rfl (p_X11_at (kt_2_3 hk0)) (by decide) nl_X2_65 mf_X11_at rfl rfl (Nat.le_of_ble_eq_true rfl) ?_
      refine X_iadd (n := 47) (kX2_gain 26 rfl) rfl ?_
      refine X_mmin (n := 50) (kX2_gain 27 rfl) rfl (by decide) ml_X2_53 ms1_min ms2 ms3_min (Nat.le_of_ble_eq_true rfl) ?_
      refine X_iload (n := 52) 0 (kX2_gain 28 rfl) rfl rfl ?_
      refine X_isub (n := 53) (kX2_gain 29 rfl) rfl ?_
      refine X_iadd (n := 54) (kX2_gain 30 rfl) rfl ?_
      refine X_istore (n := 56) (L1 := [(4, .int (i4 + ((if ((gat S a1 ((i2 * (6 : Int32)) + i5)) + (gat S (rf a0 3) ((i3 * (6 : Int32)) + i5))) < (99 : Int32) then ((gat S a1 ((i2 * (6 : Int32)) + i5)) + (gat S (rf a0 3) ((i3 * (6 : Int32)) + i5))) else (99 : Int32)) - (gat S a1 ((i2 * (6 : Int32)) + i5))))), (6, .int (gat S a1 ((i2 * (6 : Int32)) + i5))), (5, .int i5), (0, .ref a0), (1, .ref a1), (2, .int i2), (3, .int i3)]) (kX2_gain 31 rfl) rfl (Nat.le_of_ble_eq_true rfl) rfl ?_
      refine X_iinc (n := 59) 2 (v := (i5 + 1)) (L1 := [(5, .int (i5 + 1)), (4, .int (i4 + ((if ((gat S a1 ((i2 * (6 : Int32)) + i5)) + (gat S (rf a0 3) ((i3 * (6 : Int32)) + i5))) < (99 : Int32) then ((gat S a1 ((i2 * (6 : Int32)) + i5)) + (gat S (rf a0 3) ((i3 * (6 : Int32)) + i5))) else (99 : Int32)) - (gat S a1 ((i2 * (6 : Int32)) + i5))))), (6, .int (gat S a1 ((i2 * (6 : Int32)) + i5))), (0, .ref a0), (1, .ref a1), (2, .int i2), (3, .int i3)]) (kX2_gain 32 rfl) rfl rfl rfl (Nat.le_of_ble_eq_true rfl) rfl ?_
      refine X_goto (tgt := 6) (kX2_gain 33 rfl) rfl ?_
      exact X_L [0, 1, 3, 4, 5, 6] rfl (ih (i4 + ((if ((gat S a1 ((i2 * (6 : Int32)) + i5)) + (gat S (rf a0 3) ((i3 * (6 : Int32)) + i5))) < (99 : Int32) then ((gat S a1 ((i2 * (6 : Int32)) + i5)) + (gat S (rf a0 3) ((i3 * (6 : Int32)) + i5))) else (99 : Int32)) - (gat S a1 ((i2 * (6 : Int32)) + i5)))) (i5 + 1) S)
set_option maxHeartbeats 4000000 in
set_option maxRecDepth 100000 in
theorem w_X2_gain {l : Launch} {g : XG}  {a0 : Nat} {a1 : Nat} {i2 : Int32} {i3 : Int32} {S : XS} (hk0 : kd a0 = 2) (hk1 : kd a1 = 20) : Cl φI l g 2 mX2_gain [.ref a0, .ref a1, .int i2, .int i3] S (f_X2_gain a0 a1 i2 i3 S) := by
  refine Cl.of (by decide +kernel) (Nat.le_of_ble_eq_true rfl) ?_
  unfold f_X2_gain
  show X _ _ _ _ _ 0 [(0, .ref a0), (1, .ref a1), (2, .int i2), (3, .int i3)] [] S _
  refine X_iconst (n := 1) (v := 0) (kX2_gain 0 rfl) rfl (by decide) ?_
  refine X_istore (n := 3) (L1 := [(4, .int 0), (0, .ref a0), (1, .ref a1), (2, .int i2), (3, .int i3)]) (kX2_gain 1 rfl) rfl (Nat.le_of_ble_eq_true rfl) rfl ?_
  refine X_iconst (n := 4) (v := 0) (kX2_gain 2 rfl) rfl (by decide) ?_
  refine X_istore (n := 6) (L1 := [(5, .int 0), (4, .int 0), (0, .ref a0), (1, .ref a1), (2, .int i2), (3, .int i3)]) (kX2_gain 3 rfl) rfl (Nat.le_of_ble_eq_true rfl) rfl ?_
  refine X_L [0, 1, 2, 3, 4, 5] rfl (w_X2_gain_L6 hk0 hk1 (fun e2 S3 => ?_) 1000000 (0 : Int32) (0 : Int32) S)
  try dsimp only
  refine X_iload (n := 64) 0 (kX2_gain 34 rfl) rfl rfl ?_
  exact X_iret rfl (kX2_gain 35 rfl)
