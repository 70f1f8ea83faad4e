def f_X2_passHour_L12  (b7 : Bool) (a0 : Nat) (a1 : Nat) (i2 : Int32) (b5 : Bool) (i6 : Int32) : Nat → Int32 → XS → Option (XS)
  | 0, _, _ => none
  | n + 1, i8, S => (if (6 : Int32) ≤ i8 then some S else ((if b7 = true then some (gat S (rf a0 2) i8) else some (0 : Int32)).bind (fun x4 => ((if b5 = true then some (2 : Int32) else some (0 : Int32)).bind (fun x5 => f_X2_passHour_L12 b7 a0 a1 i2 b5 i6 n (i8 + 1) (pat S a1 ((i2 * (6 : Int32)) + i8) (if ((if (0 : Int32) < ((gat S a1 ((i2 * (6 : Int32)) + i8)) - (x4 + x5)) then ((gat S a1 ((i2 * (6 : Int32)) + i8)) - (x4 + x5)) else (0 : Int32)) + (gat S (rf a0 3) ((i6 * (6 : Int32)) + i8))) < (99 : Int32) then ((if (0 : Int32) < ((gat S a1 ((i2 * (6 : Int32)) + i8)) - (x4 + x5)) then ((gat S a1 ((i2 * (6 : Int32)) + i8)) - (x4 + x5)) else (0 : Int32)) + (gat S (rf a0 3) ((i6 * (6 : Int32)) + i8))) else (99 : Int32))))))))
def f_X2_passHour  (a0 : Nat) (a1 : Nat) (i2 : Int32) (i3 : Int32) (i4 : Int32) (b5 : Bool) (i6 : Int32) (S : XS) : Option (XS) := ((f_X2_fades a0 i3 i4 S).bind (fun q => match q with | (r1, S2) => ((f_X2_passHour_L12 r1 a0 a1 i2 b5 i6 1000000 (0 : Int32) S2).bind (fun S8 => some S8))))
set_option maxHeartbeats 4000000 in
set_option maxRecDepth 100000 in
theorem w_X2_passHour_L12 {l : Launch} {g : XG} {G : (XS) → Option (XS)}  {b7 : Bool} {a0 : Nat} {a1 : Nat} {i2 : Int32} {b5 : Bool} {i6 : Int32} (hk0 : kd a0 = 2) (hk1 : kd a1 = 20) (kE : ∀ (S1 : XS), X φV l g 3 mX2_passHour 109 [] [] S1 (G S1)) : ∀ (n : Nat) (i8 : Int32) (S : XS), X φV l g 3 mX2_passHour 12 [(8, .int i8), (7, .int (bi b7)), (0, .ref a0), (1, .ref a1), (2, .int i2), (5, .int (bi b5)), (6, .int i6)] [] S ((f_X2_passHour_L12 b7 a0 a1 i2 b5 i6 n i8 S).bind G) := by
  intro n
  induction n with
  | zero => intro i8 S; exact X_none
  | succ n ih =>
  · intro i8 S
    rw [f_X2_passHour_L12]
    refine X_iload (n := 14) 0 (kX2_passHour 7 rfl) rfl rfl ?_
    refine X_bipush (n := 16) (v := 6) (kX2_passHour 8 rfl) rfl (by decide) ?_
    refine X_itebind ?_
    refine X_ic_ge (n := 19) (tgt := 109) (kX2_passHour 9 rfl) rfl rfl (fun h3 => ?_) (fun h3 => ?_)
    · exact X_L [] rfl (kE S)
    · refine X_iload_n (n := 20) 4 (kX2_passHour 10 rfl) rfl rfl rfl ?_
      refine X_bipush (n := 22) (v := 6) (kX2_passHour 11 rfl) rfl (by decide) ?_
      refine X_imul (n := 23) (kX2_passHour 12 rfl) rfl ?_
      refine X_iload (n := 25) 0 (kX2_passHour 13 rfl) rfl rfl ?_
      refine X_iadd (n := 26) (kX2_passHour 14 rfl) rfl ?_
      refine X_istore (n := 28) (L1 := [(9, .int ((i2 * (6 : Int32)) + i8)), (8, .int i8), (7, .int (bi b7)), (0, .ref a0), (1, .ref a1), (2, .int i2), (5, .int (bi b5)), (6, .int i6)]) (kX2_passHour 15 rfl) rfl (Nat.le_of_ble_eq_true rfl) rfl ?_
      refine X_iload (n := 30) 2 (kX2_passHour 16 rfl) rfl rfl ?_
      refine X_assoc ?_
      refine X_join 46 (fun x4 => [(9, .int ((i2 * (6 : Int32)) + i8)), (8, .int i8), (7, .int (bi b7)), (0, .ref a0), (1, .ref a1), (2, .int i2), (5, .int (bi b5)), (6, .int i6)]) (fun x4 => [.int x4]) (fun x4 => S) (fun x4 => ?_) (fun kJ => ?_)
      · try dsimp only
        refine X_iload (n := 48) 6 (kX2_passHour 24 rfl) rfl rfl ?_
        refine X_assoc ?_
        refine X_join 56 (fun x5 => [(9, .int ((i2 * (6 : Int32)) + i8)), (8, .int i8), (7, .int (bi b7)), (0, .ref a0), (1, .ref a1), (2, .int i2), (5, .int (bi b5)), (6, .int i6)]) (fun x5 => [.int x5, .int x4]) (fun x5 => S) (fun x5 => ?_) (fun kJ => ?_)
        · try dsimp only
          refine X_iadd (n := 57) (kX2_passHour 29 rfl) rfl ?_
          refine X_istore (n := 59) (L1 := [(10, .int (x4 + x5)), (9, .int ((i2 * (6 : Int32)) + i8)), (8, .int i8), (7, .int (bi b7)), (0, .ref a0), (1, .ref a1), (2, .int i2), (5, .int (bi b5)), (6, .int i6)]) (kX2_passHour 30 rfl) rfl (Nat.le_of_ble_eq_true rfl) rfl ?_
          refine X_iconst (n := 60) (v := 0) (kX2_passHour 31 rfl) rfl (by decide) ?_
          refine X_aload_n (n := 61) 5 (kX2_passHour 32 rfl) rfl rfl rfl ?_
          refine X_iload (n := 63) 1 (kX2_passHour 33 rfl) rfl rfl ?_
          refine X_callN1I (n := 66) (As := [.ref a1, .int ((i2 * (6 : Int32)) + i8)]) (st := [.int 0]) (kX2_passHour 34 rfl) rfl (p_X11_at hk1) (by decide) nl_X2_65 mf_X11_at rfl rfl (Nat.le_of_ble_eq_true rfl) ?_
          refine X_iload (n := 68) 0 (kX2_passHour 35 rfl) rfl rfl ?_
          refine X_isub (n := 69) (kX2_passHour 36 rfl) rfl ?_
          refine X_mmax (n := 72) (kX2_passHour 37 rfl) rfl (by decide) ml_X2_81 ms1_max ms2 ms3_max (Nat.le_of_ble_eq_true rfl) ?_
          refine X_istore (n := 74) (L1 := [(11, .int (if (0 : Int32) < ((gat S a1 ((i2 * (6 : Int32)) + i8)) - (x4 + x5)) then ((gat S a1 ((i2 * (6 : Int32)) + i8)) - (x4 + x5)) else (0 : Int32))), (10, .int (x4 + x5)), (9, .int ((i2 * (6 : Int32)) + i8)), (8, .int i8), (7, .int (bi b7)), (0, .ref a0), (1, .ref a1), (2, .int i2), (5, .int (bi b5)), (6, .int i6)]) (kX2_passHour 38 rfl) rfl (Nat.le_of_ble_eq_true rfl) rfl ?_
          refine X_aload_n (n := 75) 6 (kX2_passHour 39 rfl) rfl rfl rfl ?_
          refine X_iload (n := 77) 2 (kX2_passHour 40 rfl) rfl rfl ?_
          refine X_bipush (n := 79) (v := 99) (kX2_passHour 41 rfl) rfl (by decide) ?_
          refine X_iload (n := 81) 0 (kX2_passHour 42 rfl) rfl rfl ?_
          refine X_aload_n (n := 82) 5 (kX2_passHour 43 rfl) rfl rfl rfl ?_
          refine X_getR (n := 85) xf_X2 hk0 (by decide) fl_X2_25 rfl (kX2_passHour 44 rfl) rfl ?_
          refine X_iload (n := 87) 9 (kX2_passHour 45 rfl) rfl rfl ?_
          refine X_bipush (n := 89) (v := 6) (kX2_passHour 46 rfl) rfl (by decide) ?_
          refine X_imul (n := 90) (kX2_passHour 47 rfl) rfl ?_
          refine X_iload (n := 92) 3 (kX2_passHour 48 rfl) rfl rfl ?_
          refine X_iadd (n := 93) (kX2_passHour 49 rfl) rfl ?_
          refine X_callN1I (n := 96) (As := [.ref (rf a0 3), .int ((i6 * (6 : Int32)) + i8)]) (st := [.int (if (0 : Int32) < ((gat S a1 ((i2 * (6 : Int32)) + i8)) - (x4 + x5)) then ((gat S a1 ((i2 * (6 : Int32)) + i8)) - (x4 + x5)) else (0 : Int32)), .int 99, .int ((i2 * (6 : Int32)) + i8), .ref a1]) (kX2_passHour 50 rfl) rfl (p_X11_at (kt_2_3 hk0)) (by decide) nl_X2_65 mf_X11_at rfl rfl (Nat.le_of_ble_eq_true rfl) ?_
          refine X_iadd (n := 97) (kX2_passHour 51 rfl) rfl ?_
          refine X_mmin (n := 100) (kX2_passHour 52 rfl) rfl (by decide) ml_X2_53 ms1_min ms2 ms3_min (Nat.le_of_ble_eq_true rfl) ?_
          refine X_callN1V (n := 103) (As := [.ref a1, .int ((i2 * (6 : Int32)) + i8), .int (if ((if (0 : Int32) < ((gat S a1 ((i2 * (6 : Int32)) + i8)) - (x4 + x5)) then ((gat S a1 ((i2 * (6 : Int32)) + i8)) - (x4 + x5)) else (0 : Int32)) + (gat S (rf a0 3) ((i6 * (6 : Int32)) + i8))) < (99 : Int32) then ((if (0 : Int32) < ((gat S a1 ((i2 * (6 : Int32)) + i8)) - (x4 + x5)) then ((gat S a1 ((i2 * (6 : Int32)) + i8)) - (x4 + x5)) else (0 : Int32)) + (gat S (rf a0 3) ((i6 * (6 : Int32)) + i8))) else (99 : Int32))]) (st := []) (kX2_passHour 53 rfl) rfl (p_X11_put hk1) (by decide) nl_X2_73 mf_X11_put rfl rfl (Nat.le_of_ble_eq_true rfl) ?_
          refine X_iinc (n := 106) 3 (v := (i8 + 1)) (L1 := [(8, .int (i8 + 1)), (11, .int (if (0 : Int32) < ((gat S a1 ((i2 * (6 : Int32)) + i8)) - (x4 + x5)) then ((gat S a1 ((i2 * (6 : Int32)) + i8)) - (x4 + x5)) else (0 : Int32))), (10, .int (x4 + x5)), (9, .int ((i2 * (6 : Int32)) + i8)), (7, .int (bi b7)), (0, .ref a0), (1, .ref a1), (2, .int i2), (5, .int (bi b5)), (6, .int i6)]) (kX2_passHour 54 rfl) rfl rfl rfl (Nat.le_of_ble_eq_true rfl) rfl ?_
          refine X_goto (tgt := 12) (kX2_passHour 55 rfl) rfl ?_
          exact X_L [0, 4, 5, 6, 7, 8, 9] rfl (ih (i8 + 1) (pat S a1 ((i2 * (6 : Int32)) + i8) (if ((if (0 : Int32) < ((gat S a1 ((i2 * (6 : Int32)) + i8)) - (x4 + x5)) then ((gat S a1 ((i2 * (6 : Int32)) + i8)) - (x4 + x5)) else (0 : Int32)) + (gat S (rf a0 3) ((i6 * (6 : Int32)) + i8))) < (99 : Int32) then ((if (0 : Int32) < ((gat S a1 ((i2 * (6 : Int32)) + i8)) - (x4 + x5)) then ((gat S a1 ((i2 * (6 : Int32)) + i8)) - (x4 + x5)) else (0 : Int32)) + (gat S (rf a0 3) ((i6 * (6 : Int32)) + i8))) else (99 : Int32))))
        · refine X_itebind ?_
          refine X_bz (n := 51) (tgt := 55) (kX2_passHour 25 rfl) rfl rfl (fun h6 => ?_) (fun h6 => ?_)
          · refine X_iconst (n := 52) (v := 2) (kX2_passHour 26 rfl) rfl (by decide) ?_
            refine X_goto (tgt := 56) (kX2_passHour 27 rfl) rfl ?_
            exact X_L [0, 1, 2, 3, 4, 5, 6, 7] rfl (kJ (2 : Int32))
          · refine X_iconst (n := 56) (v := 0) (kX2_passHour 28 rfl) rfl (by decide) ?_
            exact X_L [0, 1, 2, 3, 4, 5, 6, 7] rfl (kJ (0 : Int32))
      · refine X_itebind ?_
        refine X_bz (n := 33) (tgt := 45) (kX2_passHour 17 rfl) rfl rfl (fun h7 => ?_) (fun h7 => ?_)
        · refine X_aload_n (n := 34) 3 (kX2_passHour 18 rfl) rfl rfl rfl ?_
          refine X_getR (n := 37) xf_X2 hk0 (by decide) fl_X2_22 rfl (kX2_passHour 19 rfl) rfl ?_
          refine X_iload (n := 39) 1 (kX2_passHour 20 rfl) rfl rfl ?_
          refine X_callN1I (n := 42) (As := [.ref (rf a0 2), .int i8]) (st := []) (kX2_passHour 21 rfl) rfl (p_X11_at (kt_2_2 hk0)) (by decide) nl_X2_65 mf_X11_at rfl rfl (Nat.le_of_ble_eq_true rfl) ?_
          refine X_goto (tgt := 46) (kX2_passHour 22 rfl) rfl ?_
          exact X_L [0, 1, 2, 3, 4, 5, 6, 7] rfl (kJ (gat S (rf a0 2) i8))
        · refine X_iconst (n := 46) (v := 0) (kX2_passHour 23 rfl) rfl (by decide) ?_
          exact X_L [0, 1, 2, 3, 4, 5, 6, 7] rfl (kJ (0 : Int32))
set_option maxHeartbeats 4000000 in
set_option maxRecDepth 100000 in
theorem w_X2_passHour {l : Launch} {g : XG}  {a0 : Nat} {a1 : Nat} {i2 : Int32} {i3 : Int32} {i4 : Int32} {b5 : Bool} {i6 : Int32} {S : XS} (hk0 : kd a0 = 2) (hk1 : kd a1 = 20) : Cl φV l g 3 mX2_passHour [.ref a0, .ref a1, .int i2, .int i3, .int i4, .int (bi b5), .int i6] S (f_X2_passHour a0 a1 i2 i3 i4 b5 i6 S) := by
  refine Cl.of (by decide +kernel) (Nat.le_of_ble_eq_true rfl) ?_
  unfold f_X2_passHour
  show X _ _ _ _ _ 0 [(0, .ref a0), (1, .ref a1), (2, .int i2), (3, .int i3), (4, .int i4), (5, .int (bi b5)), (6, .int i6)] [] S _
  refine X_aload_n (n := 1) 0 (kX2_passHour 0 rfl) rfl rfl rfl ?_
  refine X_iload_n (n := 2) 3 (kX2_passHour 1 rfl) rfl rfl rfl ?_
  refine X_iload (n := 4) 4 (kX2_passHour 2 rfl) rfl rfl ?_
  refine X_callVB (n := 7) (As := [.int i3, .int i4]) (st := []) (kX2_passHour 3 rfl) rfl (w_X2_fades hk0) (by decide) ml_X2_77 mf_X2_fades rfl hk0 xf_X2 rfl (Nat.le_of_ble_eq_true rfl) (fun r1 S2 hq => ?_)
  try dsimp only
  refine X_istore (n := 9) (L1 := [(7, .int (bi r1)), (0, .ref a0), (1, .ref a1), (2, .int i2), (3, .int i3), (4, .int i4), (5, .int (bi b5)), (6, .int i6)]) (kX2_passHour 4 rfl) rfl (Nat.le_of_ble_eq_true rfl) rfl ?_
  refine X_iconst (n := 10) (v := 0) (kX2_passHour 5 rfl) rfl (by decide) ?_
  refine X_istore (n := 12) (L1 := [(8, .int 0), (7, .int (bi r1)), (0, .ref a0), (1, .ref a1), (2, .int i2), (3, .int i3), (4, .int i4), (5, .int (bi b5)), (6, .int i6)]) (kX2_passHour 6 rfl) rfl (Nat.le_of_ble_eq_true rfl) rfl ?_
  refine X_L [0, 1, 2, 3, 4, 7, 8] rfl (w_X2_passHour_L12 hk0 hk1 (fun S8 => ?_) 1000000 (0 : Int32) S2)
  try dsimp only
  exact X_vret rfl (kX2_passHour 56 rfl)
def f_X0_areOthersAsTold_L2  (a0 : Nat) (i1 : Int32) (i2 : Int32) : Nat → Int32 → XS → Option ((Bool × XS) ⊕ (XS))
  | 0, _, _ => none
  | n + 1, i3, S => (if (S.1 a0 3) ≤ i3 then some (.inr S) else (if i3 = i1 then f_X0_areOthersAsTold_L2 a0 i1 i2 n (i3 + 1) S else (if i3 = i2 then f_X0_areOthersAsTold_L2 a0 i1 i2 n (i3 + 1) S else ((f_X11_difference (rf a0 6) (((S.1 a0 2) * (6 : Int32)) + i3) (rf a0 4) i3 S).bind (fun q => match q with | (r4, S5) => (if r4 = 0 then f_X0_areOthersAsTold_L2 a0 i1 i2 n (i3 + 1) S5 else some (.inl (false, S5))))))))
def f_X0_areOthersAsTold  (a0 : Nat) (i1 : Int32) (i2 : Int32) (S : XS) : Option (Bool × XS) := ((f_X0_areOthersAsTold_L2 a0 i1 i2 1000000 (0 : Int32) S).bind (fun q => match q with | .inl r => some r | .inr S7 => some (true, S7)))
set_option maxHeartbeats 4000000 in
set_option maxRecDepth 100000 in
theorem w_X0_areOthersAsTold_L2 {l : Launch} {g : XG} {G : ((Bool × XS) ⊕ (XS)) → Option (Bool × XS)}  {a0 : Nat} {i1 : Int32} {i2 : Int32} (hk0 : kd a0 = 0) (kE : ∀ (S1 : XS), X φB l g 3 mX0_areOthersAsTold 52 [] [] S1 (G (.inr S1))) (kR : ∀ r, G (.inl r) = some r) : ∀ (n : Nat) (i3 : Int32) (S : XS), X φB l g 3 mX0_areOthersAsTold 2 [(3, .int i3), (0, .ref a0), (1, .int i1), (2, .int i2)] [] S ((f_X0_areOthersAsTold_L2 a0 i1 i2 n i3 S).bind G) := by
  intro n
  induction n with
  | zero => intro i3 S; exact X_none
  | succ n ih =>
  · intro i3 S
    rw [f_X0_areOthersAsTold_L2]
    refine X_iload_n (n := 3) 0 (kX0_areOthersAsTold 2 rfl) rfl rfl rfl ?_
    refine X_aload_n (n := 4) 1 (kX0_areOthersAsTold 3 rfl) rfl rfl rfl ?_
    refine X_getI (n := 7) xf_X0 hk0 (by decide) fl_X0_40 rfl (kX0_areOthersAsTold 4 rfl) rfl ?_
    refine X_itebind ?_
    refine X_ic_ge (n := 10) (tgt := 52) (kX0_areOthersAsTold 5 rfl) rfl rfl (fun h1 => ?_) (fun h1 => ?_)
    · exact X_L [] rfl (kE S)
    · refine X_iload_n (n := 11) 0 (kX0_areOthersAsTold 6 rfl) rfl rfl rfl ?_
      refine X_iload_n (n := 12) 2 (kX0_areOthersAsTold 7 rfl) rfl rfl rfl ?_
      refine X_itebind ?_
      refine X_ic_eq (n := 15) (tgt := 46) (kX0_areOthersAsTold 8 rfl) rfl rfl (fun h2 => ?_) (fun h2 => ?_)
      · refine X_iinc (n := 49) 0 (v := (i3 + 1)) (L1 := [(3, .int (i3 + 1)), (0, .ref a0), (1, .int i1), (2, .int i2)]) (kX0_areOthersAsTold 27 rfl) rfl rfl rfl (Nat.le_of_ble_eq_true rfl) rfl ?_
        refine X_goto (tgt := 2) (kX0_areOthersAsTold 28 rfl) rfl ?_
        exact X_L [0, 1, 2, 3] rfl (ih (i3 + 1) S)
      · refine X_iload_n (n := 16) 0 (kX0_areOthersAsTold 9 rfl) rfl rfl rfl ?_
        refine X_iload_n (n := 17) 3 (kX0_areOthersAsTold 10 rfl) rfl rfl rfl ?_
        refine X_itebind ?_
        refine X_ic_eq (n := 20) (tgt := 46) (kX0_areOthersAsTold 11 rfl) rfl rfl (fun h3 => ?_) (fun h3 => ?_)
        · refine X_iinc (n := 49) 0 (v := (i3 + 1)) (L1 := [(3, .int (i3 + 1)), (0, .ref a0), (1, .int i1), (2, .int i2)]) (kX0_areOthersAsTold 27 rfl) rfl rfl rfl (Nat.le_of_ble_eq_true rfl) rfl ?_
          refine X_goto (tgt := 2) (kX0_areOthersAsTold 28 rfl) rfl ?_
          exact X_L [0, 1, 2, 3] rfl (ih (i3 + 1) S)
        · refine X_aload_n (n := 21) 1 (kX0_areOthersAsTold 12 rfl) rfl rfl rfl ?_
          refine X_getR (n := 24) xf_X0 hk0 (by decide) fl_X0_21 rfl (kX0_areOthersAsTold 13 rfl) rfl ?_
          refine X_aload_n (n := 25) 1 (kX0_areOthersAsTold 14 rfl) rfl rfl rfl ?_
          refine X_getI (n := 28) xf_X0 hk0 (by decide) fl_X0_27 rfl (kX0_areOthersAsTold 15 rfl) rfl ?_
          refine X_bipush (n := 30) (v := 6) (kX0_areOthersAsTold 16 rfl) rfl (by decide) ?_
          refine X_imul (n := 31) (kX0_areOthersAsTold 17 rfl) rfl ?_
          refine X_iload_n (n := 32) 0 (kX0_areOthersAsTold 18 rfl) rfl rfl rfl ?_
          refine X_iadd (n := 33) (kX0_areOthersAsTold 19 rfl) rfl ?_
          refine X_aload_n (n := 34) 1 (kX0_areOthersAsTold 20 rfl) rfl rfl rfl ?_
          refine X_getR (n := 37) xf_X0 hk0 (by decide) fl_X0_15 rfl (kX0_areOthersAsTold 21 rfl) rfl ?_
          refine X_iload_n (n := 38) 0 (kX0_areOthersAsTold 22 rfl) rfl rfl rfl ?_
          refine X_assoc ?_
          refine X_callNI (n := 41) (As := [.ref (rf a0 6), .int (((S.1 a0 2) * (6 : Int32)) + i3), .ref (rf a0 4), .int i3]) (st := []) (kX0_areOthersAsTold 23 rfl) rfl (w_X11_difference (kt_0_6 hk0) (kt_0_4 hk0)) (by decide) nl_X0_100 mf_X11_difference rfl rfl (Nat.le_of_ble_eq_true rfl) (fun r4 S5 hq => ?_)
          try dsimp only
          refine X_itebind ?_
          refine X_if_eq (n := 44) (tgt := 46) (kX0_areOthersAsTold 24 rfl) rfl rfl (fun h6 => ?_) (fun h6 => ?_)
          · refine X_iinc (n := 49) 0 (v := (i3 + 1)) (L1 := [(3, .int (i3 + 1)), (0, .ref a0), (1, .int i1), (2, .int i2)]) (kX0_areOthersAsTold 27 rfl) rfl rfl rfl (Nat.le_of_ble_eq_true rfl) rfl ?_
            refine X_goto (tgt := 2) (kX0_areOthersAsTold 28 rfl) rfl ?_
            exact X_L [0, 1, 2, 3] rfl (ih (i3 + 1) S5)
          · refine X_iconst (n := 45) (v := 0) (kX0_areOthersAsTold 25 rfl) rfl (by decide) ?_
            exact X_req (kR _) (X_zret (b := false) rfl (kX0_areOthersAsTold 26 rfl))
set_option maxHeartbeats 4000000 in
set_option maxRecDepth 100000 in
theorem w_X0_areOthersAsTold {l : Launch} {g : XG}  {a0 : Nat} {i1 : Int32} {i2 : Int32} {S : XS} (hk0 : kd a0 = 0) : Cl φB l g 3 mX0_areOthersAsTold [.ref a0, .int i1, .int i2] S (f_X0_areOthersAsTold a0 i1 i2 S) := by
  refine Cl.of (by decide +kernel) (Nat.le_of_ble_eq_true rfl) ?_
  unfold f_X0_areOthersAsTold
  show X _ _ _ _ _ 0 [(0, .ref a0), (1, .int i1), (2, .int i2)] [] S _
  refine X_iconst (n := 1) (v := 0) (kX0_areOthersAsTold 0 rfl) rfl (by decide) ?_
  refine X_istore_n (n := 2) (L1 := [(3, .int 0), (0, .ref a0), (1, .int i1), (2, .int i2)]) (kX0_areOthersAsTold 1 rfl) rfl rfl (Nat.le_of_ble_eq_true rfl) rfl ?_
  refine X_L [0, 1, 2, 3] rfl (w_X0_areOthersAsTold_L2 hk0 (fun S7 => ?_) ?_ 1000000 (0 : Int32) S)
  · refine X_iconst (n := 53) (v := 1) (kX0_areOthersAsTold 29 rfl) rfl (by decide) ?_
    exact X_zret (b := true) rfl (kX0_areOthersAsTold 30 rfl)
  · intro r
    rfl
def f_X1_drawChange  (a0 : Nat) (a1 : Nat) (a2 : Nat) (S : XS) : Option (Int32 × XS) := ((f_X1_draw a0 (8 : Int32) S).bind (fun q => match q with | (r1, S2) => (if r1 = 0 then ((f_X1_draw a0 (gat S2 (rf a1 0) (2 : Int32)) S2).bind (fun q => match q with | (r4, S5) => ((f_X1_draw a0 (gat S5 (rf a1 0) (2 : Int32)) S5).bind (fun q => match q with | (r6, S7) => (if r4 = r6 then some ((0 : Int32), S7) else some ((1 : Int32), (t_X10_swap a2 r4 r6 S7))))))) else some ((0 : Int32), S2))))
set_option maxHeartbeats 4000000 in
set_option maxRecDepth 100000 in
theorem w_X1_drawChange {l : Launch} {g : XG}  {a0 : Nat} {a1 : Nat} {a2 : Nat} {S : XS} (hk0 : kd a0 = 1) (hk1 : kd a1 = 2) (hk2 : kd a2 = 10) : Cl φI l g 3 mX1_drawChange [.ref a0, .ref a1, .ref a2] S (f_X1_drawChange a0 a1 a2 S) := by
  refine Cl.of (by decide +kernel) (Nat.le_of_ble_eq_true rfl) ?_
  unfold f_X1_drawChange
  show X _ _ _ _ _ 0 [(0, .ref a0), (1, .ref a1), (2, .ref a2)] [] S _
  refine X_aload_n (n := 1) 0 (kX1_drawChange 0 rfl) rfl rfl rfl ?_
  refine X_bipush (n := 3) (v := 8) (kX1_drawChange 1 rfl) rfl (by decide) ?_
  refine X_callVI (n := 6) (As := [.int (8 : Int32)]) (st := []) (kX1_drawChange 2 rfl) rfl (w_X1_draw hk0) (by decide) ml_X1_68 mf_X1_draw rfl hk0 xf_X1 rfl (Nat.le_of_ble_eq_true rfl) (fun r1 S2 hq => ?_)
  try dsimp only
  refine X_if_eq (n := 9) (tgt := 11) (kX1_drawChange 3 rfl) rfl rfl (fun h3 => ?_) (fun h3 => ?_)
  · refine X_aload_n (n := 12) 0 (kX1_drawChange 6 rfl) rfl rfl rfl ?_
    refine X_aload_n (n := 13) 1 (kX1_drawChange 7 rfl) rfl rfl rfl ?_
    refine X_getR (n := 16) xf_X2 hk1 (by decide) fl_X1_63 rfl (kX1_drawChange 8 rfl) rfl ?_
    refine X_iconst (n := 17) (v := 2) (kX1_drawChange 9 rfl) rfl (by decide) ?_
    refine X_callN1I (n := 20) (As := [.ref (rf a1 0), .int (2 : Int32)]) (st := [.ref a0]) (kX1_drawChange 10 rfl) rfl (p_X11_at (kt_2_0 hk1)) (by decide) nl_X1_58 mf_X11_at rfl rfl (Nat.le_of_ble_eq_true rfl) ?_
    refine X_callVI (n := 23) (As := [.int (gat S2 (rf a1 0) (2 : Int32))]) (st := []) (kX1_drawChange 11 rfl) rfl (w_X1_draw hk0) (by decide) ml_X1_68 mf_X1_draw rfl hk0 xf_X1 rfl (Nat.le_of_ble_eq_true rfl) (fun r4 S5 hq => ?_)
    try dsimp only
    refine X_istore_n (n := 24) (L1 := [(3, .int r4), (0, .ref a0), (1, .ref a1), (2, .ref a2)]) (kX1_drawChange 12 rfl) rfl rfl (Nat.le_of_ble_eq_true rfl) rfl ?_
    refine X_aload_n (n := 25) 1 (kX1_drawChange 13 rfl) rfl rfl rfl ?_
    refine X_aload_n (n := 26) 2 (kX1_drawChange 14 rfl) rfl rfl rfl ?_
    refine X_getR (n := 29) xf_X2 hk1 (by decide) fl_X1_63 rfl (kX1_drawChange 15 rfl) rfl ?_
    refine X_iconst (n := 30) (v := 2) (kX1_drawChange 16 rfl) rfl (by decide) ?_
    refine X_callN1I (n := 33) (As := [.ref (rf a1 0), .int (2 : Int32)]) (st := [.ref a0]) (kX1_drawChange 17 rfl) rfl (p_X11_at (kt_2_0 hk1)) (by decide) nl_X1_58 mf_X11_at rfl rfl (Nat.le_of_ble_eq_true rfl) ?_
    refine X_callVI (n := 36) (As := [.int (gat S5 (rf a1 0) (2 : Int32))]) (st := []) (kX1_drawChange 18 rfl) rfl (w_X1_draw hk0) (by decide) ml_X1_68 mf_X1_draw rfl hk0 xf_X1 rfl (Nat.le_of_ble_eq_true rfl) (fun r6 S7 hq => ?_)
    try dsimp only
    refine X_istore (n := 38) (L1 := [(4, .int r6), (3, .int r4), (0, .ref a0), (1, .ref a1), (2, .ref a2)]) (kX1_drawChange 19 rfl) rfl (Nat.le_of_ble_eq_true rfl) rfl ?_
    refine X_iload_n (n := 39) 1 (kX1_drawChange 20 rfl) rfl rfl rfl ?_
    refine X_iload (n := 41) 0 (kX1_drawChange 21 rfl) rfl rfl ?_
    refine X_ic_ne (n := 44) (tgt := 46) (kX1_drawChange 22 rfl) rfl rfl (fun h8 => ?_) (fun h8 => ?_)
    · refine X_iconst (n := 45) (v := 0) (kX1_drawChange 23 rfl) rfl (by decide) ?_
      exact X_iret rfl (kX1_drawChange 24 rfl)
    · refine X_aload_n (n := 47) 4 (kX1_drawChange 25 rfl) rfl rfl rfl ?_
      refine X_iload_n (n := 48) 1 (kX1_drawChange 26 rfl) rfl rfl rfl ?_
      refine X_iload (n := 50) 0 (kX1_drawChange 27 rfl) rfl rfl ?_
      refine X_callV1V (n := 53) (As := [.int r4, .int r6]) (st := []) (kX1_drawChange 28 rfl) rfl (p_X10_swap hk2) (by decide) ml_X1_79 mf_X10_swap rfl hk2 xf_X10 rfl (Nat.le_of_ble_eq_true rfl) ?_
      refine X_iconst (n := 54) (v := 1) (kX1_drawChange 29 rfl) rfl (by decide) ?_
      exact X_iret rfl (kX1_drawChange 30 rfl)
  · refine X_iconst (n := 10) (v := 0) (kX1_drawChange 4 rfl) rfl (by decide) ?_
    exact X_iret rfl (kX1_drawChange 5 rfl)
def f_X8_readRun_L10  (a0 : Nat) (i1 : Int32) : Nat → Int32 → Int32 → Int64 → Int64 → XS → Option (Int32 × Int32 × Int64 × Int64)
  | 0, _, _, _, _, _ => none
  | n + 1, i2, i3, j4, j6, S => (if (S.1 a0 1) ≤ i2 then some (i2, i3, j4, j6) else (if (t_X8_isLetter (gat S (rf a0 0) i2)) = true then f_X8_readRun_L10 a0 i1 n (i2 + 1) (i3 + 1) ((shl64 j4 (8 : Int32)) ||| (gat S (rf a0 0) i2).toInt64) j6 S else (if (t_X8_isDigit (gat S (rf a0 0) i2)) = true then f_X8_readRun_L10 a0 i1 n (i2 + 1) i3 j4 (((j6 * 10) + (gat S (rf a0 0) i2).toInt64) - 48) S else some (i2, i3, j4, j6))))
def f_X8_readRun  (a0 : Nat) (i1 : Int32) (S : XS) : Option (Int32 × XS) := ((f_X8_readRun_L10 a0 i1 1000000 i1 (0 : Int32) 0 0 S).bind (fun q => match q with | (e4, e5, e6, e7) => (if e5 = (e4 - i1) then (if (7 : Int32) < e5 then ((if e5 = 0 then (if (3 : Int32) < (e4 - i1) then some false else some true) else some false).bind (fun x10 => ((if x10 = true then some (3 : Int32) else some (1 : Int32)).bind (fun x11 => ((f_X8_addToken a0 x11 i1 e7 S).bind (fun S12 => some (e4, S12))))))) else ((f_X8_kindOfWord a0 e6 S).bind (fun q => match q with | (r16, S17) => ((f_X8_addToken a0 r16 i1 e6 S17).bind (fun S18 => some (e4, S18)))))) else ((if e5 = 0 then (if (3 : Int32) < (e4 - i1) then some false else some true) else some false).bind (fun x19 => ((if x19 = true then some (3 : Int32) else some (1 : Int32)).bind (fun x20 => ((f_X8_addToken a0 x20 i1 e7 S).bind (fun S21 => some (e4, S21))))))))))
set_option maxHeartbeats 4000000 in
set_option maxRecDepth 100000 in
theorem w_X8_readRun_L10 {l : Launch} {g : XG} {G : (Int32 × Int32 × Int64 × Int64) → Option (Int32 × XS)}  {a0 : Nat} {i1 : Int32} (hk0 : kd a0 = 8) {S : XS} (kE : ∀ (e2 : Int32) (e3 : Int32) (e4 : Int64) (e6 : Int64), X φI l g 3 mX8_readRun 83 [(6, .long e6), (4, .long e4), (3, .int e3), (2, .int e2), (0, .ref a0), (1, .int i1)] [] S (G (e2, e3, e4, e6))) : ∀ (n : Nat) (i2 : Int32) (i3 : Int32) (j4 : Int64) (j6 : Int64), X φI l g 3 mX8_readRun 10 [(6, .long j6), (4, .long j4), (3, .int i3), (2, .int i2), (0, .ref a0), (1, .int i1)] [] S ((f_X8_readRun_L10 a0 i1 n i2 i3 j4 j6 S).bind G) := by
  intro n
  induction n with
  | zero => intro i2 i3 j4 j6; exact X_none
  | succ n ih =>
  · intro i2 i3 j4 j6
    rw [f_X8_readRun_L10]
    refine X_iload_n (n := 11) 3 (kX8_readRun 8 rfl) rfl rfl rfl ?_
    refine X_aload_n (n := 12) 4 (kX8_readRun 9 rfl) rfl rfl rfl ?_
    refine X_getI (n := 15) xf_X8 hk0 (by decide) fl_X8_40 rfl (kX8_readRun 10 rfl) rfl ?_
    refine X_itebind ?_
    refine X_ic_ge (n := 18) (tgt := 83) (kX8_readRun 11 rfl) rfl rfl (fun h1 => ?_) (fun h1 => ?_)
    · exact X_L [0, 1, 2, 3, 4, 5] rfl (kE i2 i3 j4 j6)
    · refine X_aload_n (n := 19) 4 (kX8_readRun 12 rfl) rfl rfl rfl ?_
      refine X_getR (n := 22) xf_X8 hk0 (by decide) fl_X8_9 rfl (kX8_readRun 13 rfl) rfl ?_
      refine X_iload_n (n := 23) 3 (kX8_readRun 14 rfl) rfl rfl rfl ?_
      refine X_callN1I (n := 26) (As := [.ref (rf a0 0), .int i2]) (st := []) (kX8_readRun 15 rfl) rfl (p_X11_at (kt_8_0 hk0)) (by decide) nl_X8_65 mf_X11_at rfl rfl (Nat.le_of_ble_eq_true rfl) ?_
      refine X_istore (n := 28) (L1 := [(8, .int (gat S (rf a0 0) i2)), (6, .long j6), (4, .long j4), (3, .int i3), (2, .int i2), (0, .ref a0), (1, .int i1)]) (kX8_readRun 16 rfl) rfl (Nat.le_of_ble_eq_true rfl) rfl ?_
      refine X_iload (n := 30) 0 (kX8_readRun 17 rfl) rfl rfl ?_
      refine X_callS1B (n := 33) (As := [.int (gat S (rf a0 0) i2)]) (st := []) (kX8_readRun 18 rfl) rfl p_X8_isLetter (by decide) ml_X8_83 mf_X8_isLetter rfl rfl (Nat.le_of_ble_eq_true rfl) ?_
      refine X_itebind ?_
      refine X_bz (n := 36) (tgt := 53) (kX8_readRun 19 rfl) rfl rfl (fun h2 => ?_) (fun h2 => ?_)
      · refine X_iinc (n := 39) 3 (v := (i3 + 1)) (L1 := [(3, .int (i3 + 1)), (8, .int (gat S (rf a0 0) i2)), (6, .long j6), (4, .long j4), (2, .int i2), (0, .ref a0), (1, .int i1)]) (kX8_readRun 20 rfl) rfl rfl rfl (Nat.le_of_ble_eq_true rfl) rfl ?_
        refine X_lload (n := 41) 3 (kX8_readRun 21 rfl) rfl rfl ?_
        refine X_bipush (n := 43) (v := 8) (kX8_readRun 22 rfl) rfl (by decide) ?_
        refine X_lshl (n := 44) (kX8_readRun 23 rfl) rfl ?_
        refine X_iload (n := 46) 1 (kX8_readRun 24 rfl) rfl rfl ?_
        refine X_i2l (n := 47) (kX8_readRun 25 rfl) rfl ?_
        refine X_lor (n := 48) (kX8_readRun 26 rfl) rfl ?_
        refine X_lstore (n := 50) (L1 := [(4, .long ((shl64 j4 (8 : Int32)) ||| (gat S (rf a0 0) i2).toInt64)), (3, .int (i3 + 1)), (8, .int (gat S (rf a0 0) i2)), (6, .long j6), (2, .int i2), (0, .ref a0), (1, .int i1)]) (kX8_readRun 27 rfl) rfl (Nat.le_of_ble_eq_true rfl) rfl ?_
        refine X_goto (tgt := 77) (kX8_readRun 28 rfl) rfl ?_
        refine X_iinc (n := 80) 4 (v := (i2 + 1)) (L1 := [(2, .int (i2 + 1)), (4, .long ((shl64 j4 (8 : Int32)) ||| (gat S (rf a0 0) i2).toInt64)), (3, .int (i3 + 1)), (8, .int (gat S (rf a0 0) i2)), (6, .long j6), (0, .ref a0), (1, .int i1)]) (kX8_readRun 41 rfl) rfl rfl rfl (Nat.le_of_ble_eq_true rfl) rfl ?_
        refine X_goto (tgt := 10) (kX8_readRun 42 rfl) rfl ?_
        exact X_L [4, 1, 2, 0, 5, 6] rfl (ih (i2 + 1) (i3 + 1) ((shl64 j4 (8 : Int32)) ||| (gat S (rf a0 0) i2).toInt64) j6)
      · refine X_iload (n := 55) 0 (kX8_readRun 29 rfl) rfl rfl ?_
        refine X_callS1B (n := 58) (As := [.int (gat S (rf a0 0) i2)]) (st := []) (kX8_readRun 30 rfl) rfl p_X8_isDigit (by decide) ml_X8_86 mf_X8_isDigit rfl rfl (Nat.le_of_ble_eq_true rfl) ?_
        refine X_itebind ?_
        refine X_bz (n := 61) (tgt := 83) (kX8_readRun 31 rfl) rfl rfl (fun h3 => ?_) (fun h3 => ?_)
        · refine X_lload (n := 63) 1 (kX8_readRun 32 rfl) rfl rfl ?_
          refine X_ldc2 (n := 66) (kX8_readRun 33 rfl) rfl cl_X8_96 ?_
          refine X_lmul (n := 67) (kX8_readRun 34 rfl) rfl ?_
          refine X_iload (n := 69) 0 (kX8_readRun 35 rfl) rfl rfl ?_
          refine X_i2l (n := 70) (kX8_readRun 36 rfl) rfl ?_
          refine X_ladd (n := 71) (kX8_readRun 37 rfl) rfl ?_
          refine X_ldc2 (n := 74) (kX8_readRun 38 rfl) rfl cl_X8_98 ?_
          refine X_lsub (n := 75) (kX8_readRun 39 rfl) rfl ?_
          refine X_lstore (n := 77) (L1 := [(6, .long (((j6 * 10) + (gat S (rf a0 0) i2).toInt64) - 48)), (8, .int (gat S (rf a0 0) i2)), (4, .long j4), (3, .int i3), (2, .int i2), (0, .ref a0), (1, .int i1)]) (kX8_readRun 40 rfl) rfl (Nat.le_of_ble_eq_true rfl) rfl ?_
          refine X_iinc (n := 80) 4 (v := (i2 + 1)) (L1 := [(2, .int (i2 + 1)), (6, .long (((j6 * 10) + (gat S (rf a0 0) i2).toInt64) - 48)), (8, .int (gat S (rf a0 0) i2)), (4, .long j4), (3, .int i3), (0, .ref a0), (1, .int i1)]) (kX8_readRun 41 rfl) rfl rfl rfl (Nat.le_of_ble_eq_true rfl) rfl ?_
          refine X_goto (tgt := 10) (kX8_readRun 42 rfl) rfl ?_
          exact X_L [1, 3, 4, 0, 5, 6] rfl (ih (i2 + 1) i3 j4 (((j6 * 10) + (gat S (rf a0 0) i2).toInt64) - 48))
        · exact X_L [1, 2, 3, 4, 5, 6] rfl (kE i2 i3 j4 j6)
set_option maxHeartbeats 4000000 in
set_option maxRecDepth 100000 in
theorem w_X8_readRun {l : Launch} {g : XG}  {a0 : Nat} {i1 : Int32} {S : XS} (hk0 : kd a0 = 8) : Cl φI l g 3 mX8_readRun [.ref a0, .int i1] S (f_X8_readRun a0 i1 S) := by
  refine Cl.of (by decide +kernel) (Nat.le_of_ble_eq_true rfl) ?_
  unfold f_X8_readRun
  show X _ _ _ _ _ 0 [(0, .ref a0), (1, .int i1)] [] S _
  refine X_iload_n (n := 1) 1 (kX8_readRun 0 rfl) rfl rfl rfl ?_
  refine X_istore_n (n := 2) (L1 := [(2, .int i1), (0, .ref a0), (1, .int i1)]) (kX8_readRun 1 rfl) rfl rfl (Nat.le_of_ble_eq_true rfl) rfl ?_
  refine X_iconst (n := 3) (v := 0) (kX8_readRun 2 rfl) rfl (by decide) ?_
  refine X_istore_n (n := 4) (L1 := [(3, .int 0), (2, .int i1), (0, .ref a0), (1, .int i1)]) (kX8_readRun 3 rfl) rfl rfl (Nat.le_of_ble_eq_true rfl) rfl ?_
  refine X_lconst (n := 5) (v := 0) (kX8_readRun 4 rfl) rfl (by decide) ?_
  refine X_lstore (n := 7) (L1 := [(4, .long 0), (3, .int 0), (2, .int i1), (0, .ref a0), (1, .int i1)]) (kX8_readRun 5 rfl) rfl (Nat.le_of_ble_eq_true rfl) rfl ?_
  refine X_lconst (n := 8) (v := 0) (kX8_readRun 6 rfl) rfl (by decide) ?_
  refine X_lstore (n := 10) (L1 := [(6, .long 0), (4, .long 0), (3, .int 0), (2, .int i1), (0, .ref a0), (1, .int i1)]) (kX8_readRun 7 rfl) rfl (Nat.le_of_ble_eq_true rfl) rfl ?_
  refine X_L [0, 1, 2, 3, 4, 5] rfl (w_X8_readRun_L10 hk0 (fun e4 e5 e6 e7 => ?_) 1000000 i1 (0 : Int32) 0 0)
  try dsimp only
  refine X_iload_n (n := 84) 2 (kX8_readRun 43 rfl) rfl rfl rfl ?_
  refine X_iload_n (n := 85) 3 (kX8_readRun 44 rfl) rfl rfl rfl ?_
  refine X_iload_n (n := 86) 5 (kX8_readRun 45 rfl) rfl rfl rfl ?_
  refine X_isub (n := 87) (kX8_readRun 46 rfl) rfl ?_
  refine X_ic_ne (n := 90) (tgt := 112) (kX8_readRun 47 rfl) rfl rfl (fun h8 => ?_) (fun h8 => ?_)
  · refine X_iload_n (n := 91) 2 (kX8_readRun 48 rfl) rfl rfl rfl ?_
    refine X_bipush (n := 93) (v := 7) (kX8_readRun 49 rfl) rfl (by decide) ?_
    refine X_ic_gt (n := 96) (tgt := 112) (kX8_readRun 50 rfl) rfl rfl (fun h9 => ?_) (fun h9 => ?_)
    · refine X_iload_n (n := 113) 2 (kX8_readRun 59 rfl) rfl rfl rfl ?_
      refine X_join 128 (fun x10 => [(6, .long e7), (2, .int e4), (0, .ref a0), (1, .int i1)]) (fun x10 => [.int (bi x10)]) (fun x10 => S) (fun x10 => ?_) (fun kJ => ?_)
      · try dsimp only
        refine X_istore (n := 130) (L1 := [(8, .int (bi x10)), (6, .long e7), (2, .int e4), (0, .ref a0), (1, .int i1)]) (kX8_readRun 69 rfl) rfl (Nat.le_of_ble_eq_true rfl) rfl ?_
        refine X_aload_n (n := 131) 3 (kX8_readRun 70 rfl) rfl rfl rfl ?_
        refine X_iload (n := 133) 0 (kX8_readRun 71 rfl) rfl rfl ?_
        refine X_join 141 (fun x11 => [(6, .long e7), (2, .int e4), (1, .int i1)]) (fun x11 => [.int x11, .ref a0]) (fun x11 => S) (fun x11 => ?_) (fun kJ => ?_)
        · try dsimp only
          refine X_iload_n (n := 142) 2 (kX8_readRun 76 rfl) rfl rfl rfl ?_
          refine X_lload (n := 144) 0 (kX8_readRun 77 rfl) rfl rfl ?_
          refine X_callVV (n := 147) (As := [.int x11, .int i1, .long e7]) (st := []) (kX8_readRun 78 rfl) rfl (w_X8_addToken hk0) (by decide) ml_X8_79 mf_X8_addToken rfl hk0 xf_X8 rfl (Nat.le_of_ble_eq_true rfl) (fun S12 hq => ?_)
          try dsimp only
          refine X_iload_n (n := 148) 1 (kX8_readRun 79 rfl) rfl rfl rfl ?_
          exact X_iret rfl (kX8_readRun 80 rfl)
        · refine X_itebind ?_
          refine X_bz (n := 136) (tgt := 140) (kX8_readRun 72 rfl) rfl rfl (fun h13 => ?_) (fun h13 => ?_)
          · refine X_iconst (n := 137) (v := 3) (kX8_readRun 73 rfl) rfl (by decide) ?_
            refine X_goto (tgt := 141) (kX8_readRun 74 rfl) rfl ?_
            exact X_L [1, 2, 4] rfl (kJ (3 : Int32))
          · refine X_iconst (n := 141) (v := 1) (kX8_readRun 75 rfl) rfl (by decide) ?_
            exact X_L [1, 2, 4] rfl (kJ (1 : Int32))
      · refine X_itebind ?_
        refine X_if_ne (n := 116) (tgt := 127) (kX8_readRun 60 rfl) rfl rfl (fun h14 => ?_) (fun h14 => ?_)
        · refine X_iload_n (n := 117) 3 (kX8_readRun 61 rfl) rfl rfl rfl ?_
          refine X_iload_n (n := 118) 5 (kX8_readRun 62 rfl) rfl rfl rfl ?_
          refine X_isub (n := 119) (kX8_readRun 63 rfl) rfl ?_
          refine X_iconst (n := 120) (v := 3) (kX8_readRun 64 rfl) rfl (by decide) ?_
          refine X_itebind ?_
          refine X_ic_gt (n := 123) (tgt := 127) (kX8_readRun 65 rfl) rfl rfl (fun h15 => ?_) (fun h15 => ?_)
          · refine X_iconst (n := 128) (v := 0) (kX8_readRun 68 rfl) rfl (by decide) ?_
            exact X_L [0, 3, 4, 5] rfl (kJ false)
          · refine X_iconst (n := 124) (v := 1) (kX8_readRun 66 rfl) rfl (by decide) ?_
            refine X_goto (tgt := 128) (kX8_readRun 67 rfl) rfl ?_
            exact X_L [0, 3, 4, 5] rfl (kJ true)
        · refine X_iconst (n := 128) (v := 0) (kX8_readRun 68 rfl) rfl (by decide) ?_
          exact X_L [0, 3, 4, 5] rfl (kJ false)
    · refine X_aload_n (n := 97) 4 (kX8_readRun 51 rfl) rfl rfl rfl ?_
      refine X_aload_n (n := 98) 4 (kX8_readRun 52 rfl) rfl rfl rfl ?_
      refine X_lload (n := 100) 1 (kX8_readRun 53 rfl) rfl rfl ?_
      refine X_callVI (n := 103) (As := [.long e6]) (st := [.ref a0]) (kX8_readRun 54 rfl) rfl (w_X8_kindOfWord hk0) (by decide) ml_X8_100 mf_X8_kindOfWord rfl hk0 xf_X8 rfl (Nat.le_of_ble_eq_true rfl) (fun r16 S17 hq => ?_)
      try dsimp only
      refine X_iload_n (n := 104) 5 (kX8_readRun 55 rfl) rfl rfl rfl ?_
      refine X_lload (n := 106) 1 (kX8_readRun 56 rfl) rfl rfl ?_
      refine X_callVV (n := 109) (As := [.int r16, .int i1, .long e6]) (st := []) (kX8_readRun 57 rfl) rfl (w_X8_addToken hk0) (by decide) ml_X8_79 mf_X8_addToken rfl hk0 xf_X8 rfl (Nat.le_of_ble_eq_true rfl) (fun S18 hq => ?_)
      try dsimp only
      refine X_goto (tgt := 147) (kX8_readRun 58 rfl) rfl ?_
      refine X_iload_n (n := 148) 3 (kX8_readRun 79 rfl) rfl rfl rfl ?_
      exact X_iret rfl (kX8_readRun 80 rfl)
  · refine X_iload_n (n := 113) 2 (kX8_readRun 59 rfl) rfl rfl rfl ?_
    refine X_join 128 (fun x19 => [(6, .long e7), (2, .int e4), (0, .ref a0), (1, .int i1)]) (fun x19 => [.int (bi x19)]) (fun x19 => S) (fun x19 => ?_) (fun kJ => ?_)
    · try dsimp only
      refine X_istore (n := 130) (L1 := [(8, .int (bi x19)), (6, .long e7), (2, .int e4), (0, .ref a0), (1, .int i1)]) (kX8_readRun 69 rfl) rfl (Nat.le_of_ble_eq_true rfl) rfl ?_
      refine X_aload_n (n := 131) 3 (kX8_readRun 70 rfl) rfl rfl rfl ?_
      refine X_iload (n := 133) 0 (kX8_readRun 71 rfl) rfl rfl ?_
      refine X_join 141 (fun x20 => [(6, .long e7), (2, .int e4), (1, .int i1)]) (fun x20 => [.int x20, .ref a0]) (fun x20 => S) (fun x20 => ?_) (fun kJ => ?_)
      · try dsimp only
        refine X_iload_n (n := 142) 2 (kX8_readRun 76 rfl) rfl rfl rfl ?_
        refine X_lload (n := 144) 0 (kX8_readRun 77 rfl) rfl rfl ?_
        refine X_callVV (n := 147) (As := [.int x20, .int i1, .long e7]) (st := []) (kX8_readRun 78 rfl) rfl (w_X8_addToken hk0) (by decide) ml_X8_79 mf_X8_addToken rfl hk0 xf_X8 rfl (Nat.le_of_ble_eq_true rfl) (fun S21 hq => ?_)
        try dsimp only
        refine X_iload_n (n := 148) 1 (kX8_readRun 79 rfl) rfl rfl rfl ?_
        exact X_iret rfl (kX8_readRun 80 rfl)
      · refine X_itebind ?_
        refine X_bz (n := 136) (tgt := 140) (kX8_readRun 72 rfl) rfl rfl (fun h22 => ?_) (fun h22 => ?_)
        · refine X_iconst (n := 137) (v := 3) (kX8_readRun 73 rfl) rfl (by decide) ?_
          refine X_goto (tgt := 141) (kX8_readRun 74 rfl) rfl ?_
          exact X_L [1, 2, 4] rfl (kJ (3 : Int32))
        · refine X_iconst (n := 141) (v := 1) (kX8_readRun 75 rfl) rfl (by decide) ?_
          exact X_L [1, 2, 4] rfl (kJ (1 : Int32))
    · refine X_itebind ?_
      refine X_if_ne (n := 116) (tgt := 127) (kX8_readRun 60 rfl) rfl rfl (fun h23 => ?_) (fun h23 => ?_)
      · refine X_iload_n (n := 117) 3 (kX8_readRun 61 rfl) rfl rfl rfl ?_
        refine X_iload_n (n := 118) 5 (kX8_readRun 62 rfl) rfl rfl rfl ?_
        refine X_isub (n := 119) (kX8_readRun 63 rfl) rfl ?_
        refine X_iconst (n := 120) (v := 3) (kX8_readRun 64 rfl) rfl (by decide) ?_
        refine X_itebind ?_
        refine X_ic_gt (n := 123) (tgt := 127) (kX8_readRun 65 rfl) rfl rfl (fun h24 => ?_) (fun h24 => ?_)
        · refine X_iconst (n := 128) (v := 0) (kX8_readRun 68 rfl) rfl (by decide) ?_
          exact X_L [0, 3, 4, 5] rfl (kJ false)
        · refine X_iconst (n := 124) (v := 1) (kX8_readRun 66 rfl) rfl (by decide) ?_
          refine X_goto (tgt := 128) (kX8_readRun 67 rfl) rfl ?_
          exact X_L [0, 3, 4, 5] rfl (kJ true)
      · refine X_iconst (n := 128) (v := 0) (kX8_readRun 68 rfl) rfl (by decide) ?_
        exact X_L [0, 3, 4, 5] rfl (kJ false)
def f_X8_takeNew  (a0 : Nat) (a1 : Nat) (i2 : Int32) (S : XS) : Option (Bool × XS) := (if (S.1 a0 10) = (2 : Int32) then ((f_X8_content a0 S).bind (fun q => match q with | (r2, S3) => ((f_X2_isTold a1 r2 S3).bind (fun q => match q with | (r4, S5) => (if r4 = true then some ((t_X8_fail a0 (3 : Int32) S5).1, (t_X8_fail a0 (3 : Int32) S5).2) else ((f_X8_content a0 S5).bind (fun q => match q with | (r7, S8) => ((f_X2_tell a1 i2 r7 S8).bind (fun q => match q with | (r9, S10) => some (true, (t_X8_step a0 (sI S10 a0 11 r9)))))))))))) else some ((t_X8_fail a0 (1 : Int32) S).1, (t_X8_fail a0 (1 : Int32) S).2))
set_option maxHeartbeats 4000000 in
set_option maxRecDepth 100000 in
theorem w_X8_takeNew {l : Launch} {g : XG}  {a0 : Nat} {a1 : Nat} {i2 : Int32} {S : XS} (hk0 : kd a0 = 8) (hk1 : kd a1 = 2) : Cl φB l g 3 mX8_takeNew [.ref a0, .ref a1, .int i2] S (f_X8_takeNew a0 a1 i2 S) := by
  refine Cl.of (by decide +kernel) (Nat.le_of_ble_eq_true rfl) ?_
  unfold f_X8_takeNew
  show X _ _ _ _ _ 0 [(0, .ref a0), (1, .ref a1), (2, .int i2)] [] S _
  refine X_aload_n (n := 1) 0 (kX8_takeNew 0 rfl) rfl rfl rfl ?_
  refine X_getI (n := 4) xf_X8 hk0 (by decide) fl_X8_72 rfl (kX8_takeNew 1 rfl) rfl ?_
  refine X_iconst (n := 5) (v := 2) (kX8_takeNew 2 rfl) rfl (by decide) ?_
  refine X_ic_eq (n := 8) (tgt := 14) (kX8_takeNew 3 rfl) rfl rfl (fun h1 => ?_) (fun h1 => ?_)
  · refine X_aload_n (n := 15) 1 (kX8_takeNew 8 rfl) rfl rfl rfl ?_
    refine X_aload_n (n := 16) 0 (kX8_takeNew 9 rfl) rfl rfl rfl ?_
    refine X_callVJ (n := 19) (As := []) (st := [.ref a1]) (kX8_takeNew 10 rfl) rfl (w_X8_content hk0) (by decide) ml_X8_114 mf_X8_content rfl hk0 xf_X8 rfl (Nat.le_of_ble_eq_true rfl) (fun r2 S3 hq => ?_)
    try dsimp only
    refine X_callVB (n := 22) (As := [.long r2]) (st := []) (kX8_takeNew 11 rfl) rfl (w_X2_isTold hk1) (by decide) ml_X8_127 mf_X2_isTold rfl hk1 xf_X2 rfl (Nat.le_of_ble_eq_true rfl) (fun r4 S5 hq => ?_)
    try dsimp only
    refine X_bz (n := 25) (tgt := 31) (kX8_takeNew 12 rfl) rfl rfl (fun h6 => ?_) (fun h6 => ?_)
    · refine X_aload_n (n := 26) 0 (kX8_takeNew 13 rfl) rfl rfl rfl ?_
      refine X_iconst (n := 27) (v := 3) (kX8_takeNew 14 rfl) rfl (by decide) ?_
      refine X_callV1B (n := 30) (As := [.int (3 : Int32)]) (st := []) (kX8_takeNew 15 rfl) rfl (p_X8_fail hk0) (by decide) ml_X8_108 mf_X8_fail rfl hk0 xf_X8 rfl (Nat.le_of_ble_eq_true rfl) ?_
      exact X_zret (b := (t_X8_fail a0 (3 : Int32) S5).1) rfl (kX8_takeNew 16 rfl)
    · refine X_aload_n (n := 32) 0 (kX8_takeNew 17 rfl) rfl rfl rfl ?_
      refine X_aload_n (n := 33) 1 (kX8_takeNew 18 rfl) rfl rfl rfl ?_
      refine X_iload_n (n := 34) 2 (kX8_takeNew 19 rfl) rfl rfl rfl ?_
      refine X_aload_n (n := 35) 0 (kX8_takeNew 20 rfl) rfl rfl rfl ?_
      refine X_callVJ (n := 38) (As := []) (st := [.int i2, .ref a1, .ref a0]) (kX8_takeNew 21 rfl) rfl (w_X8_content hk0) (by decide) ml_X8_114 mf_X8_content rfl hk0 xf_X8 rfl (Nat.le_of_ble_eq_true rfl) (fun r7 S8 hq => ?_)
      try dsimp only
      refine X_callVI (n := 41) (As := [.int i2, .long r7]) (st := [.ref a0]) (kX8_takeNew 22 rfl) rfl (w_X2_tell hk1) (by decide) ml_X8_131 mf_X2_tell rfl hk1 xf_X2 rfl (Nat.le_of_ble_eq_true rfl) (fun r9 S10 hq => ?_)
      try dsimp only
      refine X_putI (n := 44) xf_X8 hk0 (by decide) fl_X8_118 rfl rfl (Or.inl rfl) (kX8_takeNew 23 rfl) rfl ?_
      refine X_aload_n (n := 45) 0 (kX8_takeNew 24 rfl) rfl rfl rfl ?_
      refine X_callV1V (n := 48) (As := []) (st := []) (kX8_takeNew 25 rfl) rfl (p_X8_step hk0) (by decide) ml_X8_111 mf_X8_step rfl hk0 xf_X8 rfl (Nat.le_of_ble_eq_true rfl) ?_
      refine X_iconst (n := 49) (v := 1) (kX8_takeNew 26 rfl) rfl (by decide) ?_
      exact X_zret (b := true) rfl (kX8_takeNew 27 rfl)
  · refine X_aload_n (n := 9) 0 (kX8_takeNew 4 rfl) rfl rfl rfl ?_
    refine X_iconst (n := 10) (v := 1) (kX8_takeNew 5 rfl) rfl (by decide) ?_
    refine X_callV1B (n := 13) (As := [.int (1 : Int32)]) (st := []) (kX8_takeNew 6 rfl) rfl (p_X8_fail hk0) (by decide) ml_X8_108 mf_X8_fail rfl hk0 xf_X8 rfl (Nat.le_of_ble_eq_true rfl) ?_
    exact X_zret (b := (t_X8_fail a0 (1 : Int32) S).1) rfl (kX8_takeNew 7 rfl)
def f_X8_takeNumber  (a0 : Nat) (i1 : Int32) (i2 : Int32) (S : XS) : Option (Bool × XS) := (if (S.1 a0 10) = (3 : Int32) then ((f_X8_content a0 S).bind (fun q => match q with | (r2, S3) => (if r2.toInt32 < i1 then some ((t_X8_fail a0 (2 : Int32) S3).1, (t_X8_fail a0 (2 : Int32) S3).2) else (if r2.toInt32 ≤ i2 then some (true, (t_X8_step a0 (sI S3 a0 11 r2.toInt32))) else some ((t_X8_fail a0 (2 : Int32) S3).1, (t_X8_fail a0 (2 : Int32) S3).2))))) else some ((t_X8_fail a0 (1 : Int32) S).1, (t_X8_fail a0 (1 : Int32) S).2))
set_option maxHeartbeats 4000000 in
set_option maxRecDepth 100000 in
theorem w_X8_takeNumber {l : Launch} {g : XG}  {a0 : Nat} {i1 : Int32} {i2 : Int32} {S : XS} (hk0 : kd a0 = 8) : Cl φB l g 3 mX8_takeNumber [.ref a0, .int i1, .int i2] S (f_X8_takeNumber a0 i1 i2 S) := by
  refine Cl.of (by decide +kernel) (Nat.le_of_ble_eq_true rfl) ?_
  unfold f_X8_takeNumber
  show X _ _ _ _ _ 0 [(0, .ref a0), (1, .int i1), (2, .int i2)] [] S _
  refine X_aload_n (n := 1) 0 (kX8_takeNumber 0 rfl) rfl rfl rfl ?_
  refine X_getI (n := 4) xf_X8 hk0 (by decide) fl_X8_72 rfl (kX8_takeNumber 1 rfl) rfl ?_
  refine X_iconst (n := 5) (v := 3) (kX8_takeNumber 2 rfl) rfl (by decide) ?_
  refine X_ic_eq (n := 8) (tgt := 14) (kX8_takeNumber 3 rfl) rfl rfl (fun h1 => ?_) (fun h1 => ?_)
  · refine X_aload_n (n := 15) 0 (kX8_takeNumber 8 rfl) rfl rfl rfl ?_
    refine X_callVJ (n := 18) (As := []) (st := []) (kX8_takeNumber 9 rfl) rfl (w_X8_content hk0) (by decide) ml_X8_114 mf_X8_content rfl hk0 xf_X8 rfl (Nat.le_of_ble_eq_true rfl) (fun r2 S3 hq => ?_)
    try dsimp only
    refine X_l2i (n := 19) (kX8_takeNumber 10 rfl) rfl ?_
    refine X_istore_n (n := 20) (L1 := [(3, .int r2.toInt32), (0, .ref a0), (1, .int i1), (2, .int i2)]) (kX8_takeNumber 11 rfl) rfl rfl (Nat.le_of_ble_eq_true rfl) rfl ?_
    refine X_iload_n (n := 21) 0 (kX8_takeNumber 12 rfl) rfl rfl rfl ?_
    refine X_iload_n (n := 22) 2 (kX8_takeNumber 13 rfl) rfl rfl rfl ?_
    refine X_ic_lt (n := 25) (tgt := 30) (kX8_takeNumber 14 rfl) rfl rfl (fun h4 => ?_) (fun h4 => ?_)
    · refine X_aload_n (n := 31) 1 (kX8_takeNumber 18 rfl) rfl rfl rfl ?_
      refine X_iconst (n := 32) (v := 2) (kX8_takeNumber 19 rfl) rfl (by decide) ?_
      refine X_callV1B (n := 35) (As := [.int (2 : Int32)]) (st := []) (kX8_takeNumber 20 rfl) rfl (p_X8_fail hk0) (by decide) ml_X8_108 mf_X8_fail rfl hk0 xf_X8 rfl (Nat.le_of_ble_eq_true rfl) ?_
      exact X_zret (b := (t_X8_fail a0 (2 : Int32) S3).1) rfl (kX8_takeNumber 21 rfl)
    · refine X_iload_n (n := 26) 0 (kX8_takeNumber 15 rfl) rfl rfl rfl ?_
      refine X_iload_n (n := 27) 3 (kX8_takeNumber 16 rfl) rfl rfl rfl ?_
      refine X_ic_le (n := 30) (tgt := 36) (kX8_takeNumber 17 rfl) rfl rfl (fun h5 => ?_) (fun h5 => ?_)
      · refine X_aload_n (n := 37) 1 (kX8_takeNumber 22 rfl) rfl rfl rfl ?_
        refine X_iload_n (n := 38) 0 (kX8_takeNumber 23 rfl) rfl rfl rfl ?_
        refine X_putI (n := 41) xf_X8 hk0 (by decide) fl_X8_118 rfl rfl (Or.inl rfl) (kX8_takeNumber 24 rfl) rfl ?_
        refine X_aload_n (n := 42) 1 (kX8_takeNumber 25 rfl) rfl rfl rfl ?_
        refine X_callV1V (n := 45) (As := []) (st := []) (kX8_takeNumber 26 rfl) rfl (p_X8_step hk0) (by decide) ml_X8_111 mf_X8_step rfl hk0 xf_X8 rfl (Nat.le_of_ble_eq_true rfl) ?_
        refine X_iconst (n := 46) (v := 1) (kX8_takeNumber 27 rfl) rfl (by decide) ?_
        exact X_zret (b := true) rfl (kX8_takeNumber 28 rfl)
      · refine X_aload_n (n := 31) 1 (kX8_takeNumber 18 rfl) rfl rfl rfl ?_
        refine X_iconst (n := 32) (v := 2) (kX8_takeNumber 19 rfl) rfl (by decide) ?_
        refine X_callV1B (n := 35) (As := [.int (2 : Int32)]) (st := []) (kX8_takeNumber 20 rfl) rfl (p_X8_fail hk0) (by decide) ml_X8_108 mf_X8_fail rfl hk0 xf_X8 rfl (Nat.le_of_ble_eq_true rfl) ?_
        exact X_zret (b := (t_X8_fail a0 (2 : Int32) S3).1) rfl (kX8_takeNumber 21 rfl)
  · refine X_aload_n (n := 9) 0 (kX8_takeNumber 4 rfl) rfl rfl rfl ?_
    refine X_iconst (n := 10) (v := 1) (kX8_takeNumber 5 rfl) rfl (by decide) ?_
    refine X_callV1B (n := 13) (As := [.int (1 : Int32)]) (st := []) (kX8_takeNumber 6 rfl) rfl (p_X8_fail hk0) (by decide) ml_X8_108 mf_X8_fail rfl hk0 xf_X8 rfl (Nat.le_of_ble_eq_true rfl) ?_
    exact X_zret (b := (t_X8_fail a0 (1 : Int32) S).1) rfl (kX8_takeNumber 7 rfl)
def f_X8_takeTold  (a0 : Nat) (a1 : Nat) (i2 : Int32) (S : XS) : Option (Bool × XS) := (if (S.1 a0 10) = (2 : Int32) then ((f_X8_content a0 S).bind (fun q => match q with | (r2, S3) => ((f_X2_numberOf a1 i2 r2 S3).bind (fun q => match q with | (r4, S5) => (if r4 = (-1 : Int32) then some ((t_X8_fail a0 (3 : Int32) S5).1, (t_X8_fail a0 (3 : Int32) S5).2) else some (true, (t_X8_step a0 (sI S5 a0 11 r4)))))))) else some ((t_X8_fail a0 (1 : Int32) S).1, (t_X8_fail a0 (1 : Int32) S).2))
set_option maxHeartbeats 4000000 in
set_option maxRecDepth 100000 in
theorem w_X8_takeTold {l : Launch} {g : XG}  {a0 : Nat} {a1 : Nat} {i2 : Int32} {S : XS} (hk0 : kd a0 = 8) (hk1 : kd a1 = 2) : Cl φB l g 3 mX8_takeTold [.ref a0, .ref a1, .int i2] S (f_X8_takeTold a0 a1 i2 S) := by
  refine Cl.of (by decide +kernel) (Nat.le_of_ble_eq_true rfl) ?_
  unfold f_X8_takeTold
  show X _ _ _ _ _ 0 [(0, .ref a0), (1, .ref a1), (2, .int i2)] [] S _
  refine X_aload_n (n := 1) 0 (kX8_takeTold 0 rfl) rfl rfl rfl ?_
  refine X_getI (n := 4) xf_X8 hk0 (by decide) fl_X8_72 rfl (kX8_takeTold 1 rfl) rfl ?_
  refine X_iconst (n := 5) (v := 2) (kX8_takeTold 2 rfl) rfl (by decide) ?_
  refine X_ic_eq (n := 8) (tgt := 14) (kX8_takeTold 3 rfl) rfl rfl (fun h1 => ?_) (fun h1 => ?_)
  · refine X_aload_n (n := 15) 1 (kX8_takeTold 8 rfl) rfl rfl rfl ?_
    refine X_iload_n (n := 16) 2 (kX8_takeTold 9 rfl) rfl rfl rfl ?_
    refine X_aload_n (n := 17) 0 (kX8_takeTold 10 rfl) rfl rfl rfl ?_
    refine X_callVJ (n := 20) (As := []) (st := [.int i2, .ref a1]) (kX8_takeTold 11 rfl) rfl (w_X8_content hk0) (by decide) ml_X8_114 mf_X8_content rfl hk0 xf_X8 rfl (Nat.le_of_ble_eq_true rfl) (fun r2 S3 hq => ?_)
    try dsimp only
    refine X_callVI (n := 23) (As := [.int i2, .long r2]) (st := []) (kX8_takeTold 12 rfl) rfl (w_X2_numberOf hk1) (by decide) ml_X8_121 mf_X2_numberOf rfl hk1 xf_X2 rfl (Nat.le_of_ble_eq_true rfl) (fun r4 S5 hq => ?_)
    try dsimp only
    refine X_istore_n (n := 24) (L1 := [(3, .int r4), (0, .ref a0), (1, .ref a1), (2, .int i2)]) (kX8_takeTold 13 rfl) rfl rfl (Nat.le_of_ble_eq_true rfl) rfl ?_
    refine X_iload_n (n := 25) 0 (kX8_takeTold 14 rfl) rfl rfl rfl ?_
    refine X_iconst (n := 26) (v := (-1)) (kX8_takeTold 15 rfl) rfl (by decide) ?_
    refine X_ic_ne (n := 29) (tgt := 35) (kX8_takeTold 16 rfl) rfl rfl (fun h6 => ?_) (fun h6 => ?_)
    · refine X_aload_n (n := 30) 1 (kX8_takeTold 17 rfl) rfl rfl rfl ?_
      refine X_iconst (n := 31) (v := 3) (kX8_takeTold 18 rfl) rfl (by decide) ?_
      refine X_callV1B (n := 34) (As := [.int (3 : Int32)]) (st := []) (kX8_takeTold 19 rfl) rfl (p_X8_fail hk0) (by decide) ml_X8_108 mf_X8_fail rfl hk0 xf_X8 rfl (Nat.le_of_ble_eq_true rfl) ?_
      exact X_zret (b := (t_X8_fail a0 (3 : Int32) S5).1) rfl (kX8_takeTold 20 rfl)
    · refine X_aload_n (n := 36) 1 (kX8_takeTold 21 rfl) rfl rfl rfl ?_
      refine X_iload_n (n := 37) 0 (kX8_takeTold 22 rfl) rfl rfl rfl ?_
      refine X_putI (n := 40) xf_X8 hk0 (by decide) fl_X8_118 rfl rfl (Or.inl rfl) (kX8_takeTold 23 rfl) rfl ?_
      refine X_aload_n (n := 41) 1 (kX8_takeTold 24 rfl) rfl rfl rfl ?_
      refine X_callV1V (n := 44) (As := []) (st := []) (kX8_takeTold 25 rfl) rfl (p_X8_step hk0) (by decide) ml_X8_111 mf_X8_step rfl hk0 xf_X8 rfl (Nat.le_of_ble_eq_true rfl) ?_
      refine X_iconst (n := 45) (v := 1) (kX8_takeTold 26 rfl) rfl (by decide) ?_
      exact X_zret (b := true) rfl (kX8_takeTold 27 rfl)
  · refine X_aload_n (n := 9) 0 (kX8_takeTold 4 rfl) rfl rfl rfl ?_
    refine X_iconst (n := 10) (v := 1) (kX8_takeTold 5 rfl) rfl (by decide) ?_
    refine X_callV1B (n := 13) (As := [.int (1 : Int32)]) (st := []) (kX8_takeTold 6 rfl) rfl (p_X8_fail hk0) (by decide) ml_X8_108 mf_X8_fail rfl hk0 xf_X8 rfl (Nat.le_of_ble_eq_true rfl) ?_
    exact X_zret (b := (t_X8_fail a0 (1 : Int32) S).1) rfl (kX8_takeTold 7 rfl)
def f_X8_take  (a0 : Nat) (i1 : Int32) (S : XS) : Option (Bool × XS) := (if (S.1 a0 10) = i1 then some (true, (t_X8_step a0 S)) else some ((t_X8_fail a0 (1 : Int32) S).1, (t_X8_fail a0 (1 : Int32) S).2))
set_option maxHeartbeats 4000000 in
set_option maxRecDepth 100000 in
theorem w_X8_take {l : Launch} {g : XG}  {a0 : Nat} {i1 : Int32} {S : XS} (hk0 : kd a0 = 8) : Cl φB l g 3 mX8_take [.ref a0, .int i1] S (f_X8_take a0 i1 S) := by
  refine Cl.of (by decide +kernel) (Nat.le_of_ble_eq_true rfl) ?_
  unfold f_X8_take
  show X _ _ _ _ _ 0 [(0, .ref a0), (1, .int i1)] [] S _
  refine X_aload_n (n := 1) 0 (kX8_take 0 rfl) rfl rfl rfl ?_
  refine X_getI (n := 4) xf_X8 hk0 (by decide) fl_X8_72 rfl (kX8_take 1 rfl) rfl ?_
  refine X_iload_n (n := 5) 1 (kX8_take 2 rfl) rfl rfl rfl ?_
  refine X_ic_eq (n := 8) (tgt := 14) (kX8_take 3 rfl) rfl rfl (fun h1 => ?_) (fun h1 => ?_)
  · refine X_aload_n (n := 15) 0 (kX8_take 8 rfl) rfl rfl rfl ?_
    refine X_callV1V (n := 18) (As := []) (st := []) (kX8_take 9 rfl) rfl (p_X8_step hk0) (by decide) ml_X8_111 mf_X8_step rfl hk0 xf_X8 rfl (Nat.le_of_ble_eq_true rfl) ?_
    refine X_iconst (n := 19) (v := 1) (kX8_take 10 rfl) rfl (by decide) ?_
    exact X_zret (b := true) rfl (kX8_take 11 rfl)
  · refine X_aload_n (n := 9) 0 (kX8_take 4 rfl) rfl rfl rfl ?_
    refine X_iconst (n := 10) (v := 1) (kX8_take 5 rfl) rfl (by decide) ?_
    refine X_callV1B (n := 13) (As := [.int (1 : Int32)]) (st := []) (kX8_take 6 rfl) rfl (p_X8_fail hk0) (by decide) ml_X8_108 mf_X8_fail rfl hk0 xf_X8 rfl (Nat.le_of_ble_eq_true rfl) ?_
    exact X_zret (b := (t_X8_fail a0 (1 : Int32) S).1) rfl (kX8_take 7 rfl)
def t_X8_take (a0 : Nat) (i1 : Int32) (S : XS) : Bool × XS := (if (S.1 a0 10) = i1 then (true, (t_X8_step a0 S)) else ((t_X8_fail a0 (1 : Int32) S).1, (t_X8_fail a0 (1 : Int32) S).2))
theorem ft_X8_take (a0 : Nat) (i1 : Int32) (S : XS) : f_X8_take a0 i1 S = some (t_X8_take a0 i1 S) := by
  unfold f_X8_take t_X8_take
  first | rfl | simp only [ite_u]
theorem p_X8_take {l : Launch} {g : XG} {a0 : Nat} {i1 : Int32} {S : XS} (hk0 : kd a0 = 8) : Cl φB l g 3 mX8_take [.ref a0, .int i1] S (some (t_X8_take a0 i1 S)) := ft_X8_take a0 i1 S ▸ w_X8_take hk0
def f_X4_isAnyClean_L2  (a0 : Nat) : Nat → Int32 → XS → Option ((Bool × XS) ⊕ (XS))
  | 0, _, _ => none
  | n + 1, i1, S => (if (S.1 a0 4) ≤ i1 then some (.inr S) else ((f_X11_strongest (rf a0 5) i1 S).bind (fun q => match q with | (r2, S3) => (if r2 = (-1 : Int32) then some (.inl (true, S3)) else f_X4_isAnyClean_L2 a0 n (i1 + 1) S3))))
def f_X4_isAnyClean  (a0 : Nat) (S : XS) : Option (Bool × XS) := ((f_X4_isAnyClean_L2 a0 1000000 (0 : Int32) S).bind (fun q => match q with | .inl r => some r | .inr S5 => some (false, S5)))
set_option maxHeartbeats 4000000 in
set_option maxRecDepth 100000 in
theorem w_X4_isAnyClean_L2 {l : Launch} {g : XG} {G : ((Bool × XS) ⊕ (XS)) → Option (Bool × XS)}  {a0 : Nat} (hk0 : kd a0 = 10) (kE : ∀ (S1 : XS), X φB l g 3 mX4_isAnyClean 30 [] [] S1 (G (.inr S1))) (kR : ∀ r, G (.inl r) = some r) : ∀ (n : Nat) (i1 : Int32) (S : XS), X φB l g 3 mX4_isAnyClean 2 [(1, .int i1), (0, .ref a0)] [] S ((f_X4_isAnyClean_L2 a0 n i1 S).bind G) := by
  intro n
  induction n with
  | zero => intro i1 S; exact X_none
  | succ n ih =>
  · intro i1 S
    rw [f_X4_isAnyClean_L2]
    refine X_iload_n (n := 3) 0 (kX4_isAnyClean 2 rfl) rfl rfl rfl ?_
    refine X_aload_n (n := 4) 1 (kX4_isAnyClean 3 rfl) rfl rfl rfl ?_
    refine X_getI (n := 7) xf_X10 hk0 (by decide) fl_X4_40 rfl (kX4_isAnyClean 4 rfl) rfl ?_
    refine X_itebind ?_
    refine X_ic_ge (n := 10) (tgt := 30) (kX4_isAnyClean 5 rfl) rfl rfl (fun h1 => ?_) (fun h1 => ?_)
    · exact X_L [] rfl (kE S)
    · refine X_aload_n (n := 11) 1 (kX4_isAnyClean 6 rfl) rfl rfl rfl ?_
      refine X_getR (n := 14) xf_X10 hk0 (by decide) fl_X4_67 rfl (kX4_isAnyClean 7 rfl) rfl ?_
      refine X_iload_n (n := 15) 0 (kX4_isAnyClean 8 rfl) rfl rfl rfl ?_
      refine X_assoc ?_
      refine X_callNI (n := 18) (As := [.ref (rf a0 5), .int i1]) (st := []) (kX4_isAnyClean 9 rfl) rfl (w_X11_strongest (kt_10_5 hk0)) (by decide) nl_X4_70 mf_X11_strongest rfl rfl (Nat.le_of_ble_eq_true rfl) (fun r2 S3 hq => ?_)
      try dsimp only
      refine X_iconst (n := 19) (v := (-1)) (kX4_isAnyClean 10 rfl) rfl (by decide) ?_
      refine X_itebind ?_
      refine X_ic_ne (n := 22) (tgt := 24) (kX4_isAnyClean 11 rfl) rfl rfl (fun h4 => ?_) (fun h4 => ?_)
      · refine X_iconst (n := 23) (v := 1) (kX4_isAnyClean 12 rfl) rfl (by decide) ?_
        exact X_req (kR _) (X_zret (b := true) rfl (kX4_isAnyClean 13 rfl))
      · refine X_iinc (n := 27) 0 (v := (i1 + 1)) (L1 := [(1, .int (i1 + 1)), (0, .ref a0)]) (kX4_isAnyClean 14 rfl) rfl rfl rfl (Nat.le_of_ble_eq_true rfl) rfl ?_
        refine X_goto (tgt := 2) (kX4_isAnyClean 15 rfl) rfl ?_
        exact X_L [0, 1] rfl (ih (i1 + 1) S3)
set_option maxHeartbeats 4000000 in
set_option maxRecDepth 100000 in
theorem w_X4_isAnyClean {l : Launch} {g : XG}  {a0 : Nat} {S : XS} (hk0 : kd a0 = 10) : Cl φB l g 3 mX4_isAnyClean [.ref a0] S (f_X4_isAnyClean a0 S) := by
  refine Cl.of (by decide +kernel) (Nat.le_of_ble_eq_true rfl) ?_
  unfold f_X4_isAnyClean
  show X _ _ _ _ _ 0 [(0, .ref a0)] [] S _
  refine X_iconst (n := 1) (v := 0) (kX4_isAnyClean 0 rfl) rfl (by decide) ?_
  refine X_istore_n (n := 2) (L1 := [(1, .int 0), (0, .ref a0)]) (kX4_isAnyClean 1 rfl) rfl rfl (Nat.le_of_ble_eq_true rfl) rfl ?_
  refine X_L [0, 1] rfl (w_X4_isAnyClean_L2 hk0 (fun S5 => ?_) ?_ 1000000 (0 : Int32) S)
  · refine X_iconst (n := 31) (v := 0) (kX4_isAnyClean 16 rfl) rfl (by decide) ?_
    exact X_zret (b := false) rfl (kX4_isAnyClean 17 rfl)
  · intro r
    rfl
def f_X4_openRow_L24  (a0 : Nat) (a1 : Nat) (a2 : Nat) : Nat → Int32 → Int32 → XS → Option (Int32 × XS)
  | 0, _, _, _ => none
  | n + 1, i3, i4, S => (if (S.1 a2 1) ≤ i4 then some (i3, S) else ((if i3 = (-1 : Int32) then ((f_X11_strongest (rf a1 5) (gat S (rf a2 0) i4) S).bind (fun q => match q with | (r9, S10) => (if (t_X4_isDrowned a1 (gat S (rf a2 0) i4) r9 (rf a0 0) (0 : Int32) S10) = true then some (i4, S10) else some (i3, S10)))) else some (i3, S)).bind (fun q => match q with | (x5, S6) => ((f_X4_open a1 (gat S (rf a2 0) i4) (rf a0 0) (0 : Int32) (0 : Int32) S6).bind (fun S7 => f_X4_openRow_L24 a0 a1 a2 n x5 (i4 + 1) S7)))))
def f_X4_openRow  (a0 : Nat) (a1 : Nat) (a2 : Nat) (S : XS) : Option (Int32 × XS) := ((f_X4_isRowTold a1 a2 S).bind (fun q => match q with | (r1, S2) => (if r1 = true then ((f_X4_openRow_L24 a0 a1 a2 1000000 (-1 : Int32) (0 : Int32) (filI S2 (rf a0 0) (0 : Int32))).bind (fun q => match q with | (e12, S13) => some (e12, (sI S13 a0 1 (1 : Int32))))) else some ((-2 : Int32), S2))))
set_option maxHeartbeats 4000000 in
set_option maxRecDepth 100000 in
theorem w_X4_openRow_L24 {l : Launch} {g : XG} {G : (Int32 × XS) → Option (Int32 × XS)}  {a0 : Nat} {a1 : Nat} {a2 : Nat} (hk0 : kd a0 = 4) (hk1 : kd a1 = 10) (hk2 : kd a2 = 8) (kE : ∀ (e3 : Int32) (S1 : XS), X φI l g 3 mX4_openRow 93 [(3, .int e3), (0, .ref a0)] [] S1 (G (e3, S1))) : ∀ (n : Nat) (i3 : Int32) (i4 : Int32) (S : XS), X φI l g 3 mX4_openRow 24 [(4, .int i4), (3, .int i3), (0, .ref a0), (1, .ref a1), (2, .ref a2)] [] S ((f_X4_openRow_L24 a0 a1 a2 n i3 i4 S).bind G) := by
  intro n
  induction n with
  | zero => intro i3 i4 S; exact X_none
  | succ n ih =>
  · intro i3 i4 S
    rw [f_X4_openRow_L24]
    refine X_iload (n := 26) 0 (kX4_openRow 14 rfl) rfl rfl ?_
    refine X_aload_n (n := 27) 4 (kX4_openRow 15 rfl) rfl rfl rfl ?_
    refine X_getI (n := 30) xf_X8 hk2 (by decide) fl_X4_87 rfl (kX4_openRow 16 rfl) rfl ?_
    refine X_itebind ?_
    refine X_ic_ge (n := 33) (tgt := 93) (kX4_openRow 17 rfl) rfl rfl (fun h4 => ?_) (fun h4 => ?_)
    · exact X_L [1, 2] rfl (kE i3 S)
    · refine X_aload_n (n := 34) 4 (kX4_openRow 18 rfl) rfl rfl rfl ?_
      refine X_getR (n := 37) xf_X8 hk2 (by decide) fl_X4_92 rfl (kX4_openRow 19 rfl) rfl ?_
      refine X_iload (n := 39) 0 (kX4_openRow 20 rfl) rfl rfl ?_
      refine X_callN1I (n := 42) (As := [.ref (rf a2 0), .int i4]) (st := []) (kX4_openRow 21 rfl) rfl (p_X11_at (kt_8_0 hk2)) (by decide) nl_X4_53 mf_X11_at rfl rfl (Nat.le_of_ble_eq_true rfl) ?_
      refine X_istore (n := 44) (L1 := [(5, .int (gat S (rf a2 0) i4)), (4, .int i4), (3, .int i3), (0, .ref a0), (1, .ref a1), (2, .ref a2)]) (kX4_openRow 22 rfl) rfl (Nat.le_of_ble_eq_true rfl) rfl ?_
      refine X_iload_n (n := 45) 2 (kX4_openRow 23 rfl) rfl rfl rfl ?_
      refine X_iconst (n := 46) (v := (-1)) (kX4_openRow 24 rfl) rfl (by decide) ?_
      refine X_assoc ?_
      refine X_join 75 (fun q => match q with | (x5, S6) => [(5, .int (gat S (rf a2 0) i4)), (4, .int i4), (0, .ref a0), (1, .ref a1), (2, .ref a2), (3, .int x5)]) (fun q => match q with | (x5, S6) => []) (fun q => match q with | (x5, S6) => S6) (fun q => ?_) (fun kJ => ?_)
      · obtain ⟨x5, S6⟩ := q
        dsimp only
        refine X_aload_n (n := 76) 3 (kX4_openRow 39 rfl) rfl rfl rfl ?_
        refine X_iload (n := 78) 0 (kX4_openRow 40 rfl) rfl rfl ?_
        refine X_aload_n (n := 79) 2 (kX4_openRow 41 rfl) rfl rfl rfl ?_
        refine X_getR (n := 82) xf_X4 hk0 (by decide) fl_X4_9 rfl (kX4_openRow 42 rfl) rfl ?_
        refine X_iconst (n := 83) (v := 0) (kX4_openRow 43 rfl) rfl (by decide) ?_
        refine X_iconst (n := 84) (v := 0) (kX4_openRow 44 rfl) rfl (by decide) ?_
        refine X_assoc ?_
        refine X_callSV (n := 87) (As := [.ref a1, .int (gat S (rf a2 0) i4), .ref (rf a0 0), .int (0 : Int32), .int (0 : Int32)]) (st := []) (kX4_openRow 45 rfl) rfl (w_X4_open hk1 (kt_4_0 hk0)) (by decide) ml_X4_99 mf_X4_open rfl rfl (Nat.le_of_ble_eq_true rfl) (fun S7 hq => ?_)
        try dsimp only
        refine X_iinc (n := 90) 1 (v := (i4 + 1)) (L1 := [(4, .int (i4 + 1)), (5, .int (gat S (rf a2 0) i4)), (0, .ref a0), (1, .ref a1), (2, .ref a2), (3, .int x5)]) (kX4_openRow 46 rfl) rfl rfl rfl (Nat.le_of_ble_eq_true rfl) rfl ?_
        refine X_goto (tgt := 24) (kX4_openRow 47 rfl) rfl ?_
        exact X_L [0, 5, 2, 3, 4] rfl (ih x5 (i4 + 1) S7)
      · refine X_itebind ?_
        refine X_ic_ne (n := 49) (tgt := 75) (kX4_openRow 25 rfl) rfl rfl (fun h8 => ?_) (fun h8 => ?_)
        · refine X_aload_n (n := 50) 4 (kX4_openRow 26 rfl) rfl rfl rfl ?_
          refine X_iload (n := 52) 0 (kX4_openRow 27 rfl) rfl rfl ?_
          refine X_aload_n (n := 53) 4 (kX4_openRow 28 rfl) rfl rfl rfl ?_
          refine X_getR (n := 56) xf_X10 hk1 (by decide) fl_X4_67 rfl (kX4_openRow 29 rfl) rfl ?_
          refine X_iload (n := 58) 0 (kX4_openRow 30 rfl) rfl rfl ?_
          refine X_assoc ?_
          refine X_callNI (n := 61) (As := [.ref (rf a1 5), .int (gat S (rf a2 0) i4)]) (st := [.int (gat S (rf a2 0) i4), .ref a1]) (kX4_openRow 31 rfl) rfl (w_X11_strongest (kt_10_5 hk1)) (by decide) nl_X4_70 mf_X11_strongest rfl rfl (Nat.le_of_ble_eq_true rfl) (fun r9 S10 hq => ?_)
          try dsimp only
          refine X_aload_n (n := 62) 3 (kX4_openRow 32 rfl) rfl rfl rfl ?_
          refine X_getR (n := 65) xf_X4 hk0 (by decide) fl_X4_9 rfl (kX4_openRow 33 rfl) rfl ?_
          refine X_iconst (n := 66) (v := 0) (kX4_openRow 34 rfl) rfl (by decide) ?_
          refine X_callS1B (n := 69) (As := [.ref a1, .int (gat S (rf a2 0) i4), .int r9, .ref (rf a0 0), .int (0 : Int32)]) (st := []) (kX4_openRow 35 rfl) rfl (p_X4_isDrowned hk1 (kt_4_0 hk0)) (by decide) ml_X4_95 mf_X4_isDrowned rfl rfl (Nat.le_of_ble_eq_true rfl) ?_
          refine X_itebind ?_
          refine X_bz (n := 72) (tgt := 75) (kX4_openRow 36 rfl) rfl rfl (fun h11 => ?_) (fun h11 => ?_)
          · refine X_iload (n := 74) 1 (kX4_openRow 37 rfl) rfl rfl ?_
            refine X_istore_n (n := 75) (L1 := [(3, .int i4), (5, .int (gat S (rf a2 0) i4)), (4, .int i4), (0, .ref a0), (1, .ref a1), (2, .ref a2)]) (kX4_openRow 38 rfl) rfl rfl (Nat.le_of_ble_eq_true rfl) rfl ?_
            exact X_L [1, 2, 3, 4, 5, 0] rfl (kJ (i4, S10))
          · exact X_L [0, 1, 3, 4, 5, 2] rfl (kJ (i3, S10))
        · exact X_L [0, 1, 3, 4, 5, 2] rfl (kJ (i3, S))
set_option maxHeartbeats 4000000 in
set_option maxRecDepth 100000 in
theorem w_X4_openRow {l : Launch} {g : XG}  {a0 : Nat} {a1 : Nat} {a2 : Nat} {S : XS} (hk0 : kd a0 = 4) (hk1 : kd a1 = 10) (hk2 : kd a2 = 8) : Cl φI l g 3 mX4_openRow [.ref a0, .ref a1, .ref a2] S (f_X4_openRow a0 a1 a2 S) := by
  refine Cl.of (by decide +kernel) (Nat.le_of_ble_eq_true rfl) ?_
  unfold f_X4_openRow
  show X _ _ _ _ _ 0 [(0, .ref a0), (1, .ref a1), (2, .ref a2)] [] S _
  refine X_aload_n (n := 1) 1 (kX4_openRow 0 rfl) rfl rfl rfl ?_
  refine X_aload_n (n := 2) 2 (kX4_openRow 1 rfl) rfl rfl rfl ?_
  refine X_callSB (n := 5) (As := [.ref a1, .ref a2]) (st := []) (kX4_openRow 2 rfl) rfl (w_X4_isRowTold hk1 hk2) (by decide) ml_X4_77 mf_X4_isRowTold rfl rfl (Nat.le_of_ble_eq_true rfl) (fun r1 S2 hq => ?_)
  try dsimp only
  refine X_bn (n := 8) (tgt := 11) (kX4_openRow 3 rfl) rfl rfl (fun h3 => ?_) (fun h3 => ?_)
  · refine X_aload_n (n := 12) 0 (kX4_openRow 6 rfl) rfl rfl rfl ?_
    refine X_getR (n := 15) xf_X4 hk0 (by decide) fl_X4_9 rfl (kX4_openRow 7 rfl) rfl ?_
    refine X_iconst (n := 16) (v := 0) (kX4_openRow 8 rfl) rfl (by decide) ?_
    refine X_callS1V (n := 19) (As := [.ref (rf a0 0), .int (0 : Int32)]) (st := []) (kX4_openRow 9 rfl) rfl (p_J7_fill_53178 (kt_4_0 hk0)) (by decide) ml_X4_81 mf_J7_fill_53178 rfl rfl (Nat.le_of_ble_eq_true rfl) ?_
    refine X_iconst (n := 20) (v := (-1)) (kX4_openRow 10 rfl) rfl (by decide) ?_
    refine X_istore_n (n := 21) (L1 := [(3, .int (-1)), (0, .ref a0), (1, .ref a1), (2, .ref a2)]) (kX4_openRow 11 rfl) rfl rfl (Nat.le_of_ble_eq_true rfl) rfl ?_
    refine X_iconst (n := 22) (v := 0) (kX4_openRow 12 rfl) rfl (by decide) ?_
    refine X_istore (n := 24) (L1 := [(4, .int 0), (3, .int (-1)), (0, .ref a0), (1, .ref a1), (2, .ref a2)]) (kX4_openRow 13 rfl) rfl (Nat.le_of_ble_eq_true rfl) rfl ?_
    refine X_L [0, 1, 2, 3, 4] rfl (w_X4_openRow_L24 hk0 hk1 hk2 (fun e12 S13 => ?_) 1000000 (-1 : Int32) (0 : Int32) (filI S2 (rf a0 0) (0 : Int32)))
    try dsimp only
    refine X_aload_n (n := 94) 1 (kX4_openRow 48 rfl) rfl rfl rfl ?_
    refine X_iconst (n := 95) (v := 1) (kX4_openRow 49 rfl) rfl (by decide) ?_
    refine X_putI (n := 98) xf_X4 hk0 (by decide) fl_X4_103 rfl rfl (Or.inr (Or.inr rfl)) (kX4_openRow 50 rfl) rfl ?_
    refine X_iload_n (n := 99) 0 (kX4_openRow 51 rfl) rfl rfl rfl ?_
    exact X_iret rfl (kX4_openRow 52 rfl)
  · refine X_bipush (n := 10) (v := (-2)) (kX4_openRow 4 rfl) rfl (by decide) ?_
    exact X_iret rfl (kX4_openRow 5 rfl)
