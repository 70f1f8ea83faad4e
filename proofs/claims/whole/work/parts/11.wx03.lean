def f_X2_wentTo  (a0 : Nat) (i1 : Int32) (i2 : Int32) (S : XS) : Option (Int32 × XS) := some (((gat S (rf a0 6) ((i2 * (6 : Int32)) + i1)) - (1 : Int32)), S)
set_option maxHeartbeats 4000000 in
set_option maxRecDepth 100000 in
theorem w_X2_wentTo {l : Launch} {g : XG}  {a0 : Nat} {i1 : Int32} {i2 : Int32} {S : XS} (hk0 : kd a0 = 2) : Cl φI l g 2 mX2_wentTo [.ref a0, .int i1, .int i2] S (f_X2_wentTo a0 i1 i2 S) := by
  refine Cl.of (by decide +kernel) (Nat.le_of_ble_eq_true rfl) ?_
  unfold f_X2_wentTo
  show X _ _ _ _ _ 0 [(0, .ref a0), (1, .int i1), (2, .int i2)] [] S _
  refine X_aload_n (n := 1) 0 (kX2_wentTo 0 rfl) rfl rfl rfl ?_
  refine X_getR (n := 4) xf_X2 hk0 (by decide) fl_X2_34 rfl (kX2_wentTo 1 rfl) rfl ?_
  refine X_iload_n (n := 5) 2 (kX2_wentTo 2 rfl) rfl rfl rfl ?_
  refine X_bipush (n := 7) (v := 6) (kX2_wentTo 3 rfl) rfl (by decide) ?_
  refine X_imul (n := 8) (kX2_wentTo 4 rfl) rfl ?_
  refine X_iload_n (n := 9) 1 (kX2_wentTo 5 rfl) rfl rfl rfl ?_
  refine X_iadd (n := 10) (kX2_wentTo 6 rfl) rfl ?_
  refine X_callN1I (n := 13) (As := [.ref (rf a0 6), .int ((i2 * (6 : Int32)) + i1)]) (st := []) (kX2_wentTo 7 rfl) rfl (p_X11_at (kt_2_6 hk0)) (by decide) nl_X2_65 mf_X11_at rfl rfl (Nat.le_of_ble_eq_true rfl) ?_
  refine X_iconst (n := 14) (v := 1) (kX2_wentTo 8 rfl) rfl (by decide) ?_
  refine X_isub (n := 15) (kX2_wentTo 9 rfl) rfl ?_
  exact X_iret rfl (kX2_wentTo 10 rfl)
def t_X2_wentTo (a0 : Nat) (i1 : Int32) (i2 : Int32) (S : XS) : Int32 := ((gat S (rf a0 6) ((i2 * (6 : Int32)) + i1)) - (1 : Int32))
theorem ft_X2_wentTo (a0 : Nat) (i1 : Int32) (i2 : Int32) (S : XS) : f_X2_wentTo a0 i1 i2 S = some (t_X2_wentTo a0 i1 i2 S, S) := by
  unfold f_X2_wentTo t_X2_wentTo
  first | rfl | simp only [ite_p]
theorem p_X2_wentTo {l : Launch} {g : XG} {a0 : Nat} {i1 : Int32} {i2 : Int32} {S : XS} (hk0 : kd a0 = 2) : Cl φI l g 2 mX2_wentTo [.ref a0, .int i1, .int i2] S (some (t_X2_wentTo a0 i1 i2 S, S)) := ft_X2_wentTo a0 i1 i2 S ▸ w_X2_wentTo hk0
def f_X0_take_L3  (a0 : Nat) (i1 : Int32) (a2 : Nat) (i3 : Int32) : Nat → Int32 → XS → Option (XS)
  | 0, _, _ => none
  | n + 1, i4, S => (if (6 : Int32) ≤ i4 then some S else f_X0_take_L3 a0 i1 a2 i3 n (i4 + 1) (pat S a2 ((i3 * (6 : Int32)) + i4) (gat S (rf a0 6) ((i1 * (6 : Int32)) + i4))))
def f_X0_take  (a0 : Nat) (i1 : Int32) (a2 : Nat) (i3 : Int32) (S : XS) : Option (XS) := ((f_X0_take_L3 a0 i1 a2 i3 1000000 (0 : Int32) S).bind (fun S2 => some S2))
set_option maxHeartbeats 4000000 in
set_option maxRecDepth 100000 in
theorem w_X0_take_L3 {l : Launch} {g : XG} {G : (XS) → Option (XS)}  {a0 : Nat} {i1 : Int32} {a2 : Nat} {i3 : Int32} (hk0 : kd a0 = 0) (hk2 : kd a2 = 20) (kE : ∀ (S1 : XS), X φV l g 2 mX0_take 41 [] [] S1 (G S1)) : ∀ (n : Nat) (i4 : Int32) (S : XS), X φV l g 2 mX0_take 3 [(4, .int i4), (0, .ref a0), (1, .int i1), (2, .ref a2), (3, .int i3)] [] S ((f_X0_take_L3 a0 i1 a2 i3 n i4 S).bind G) := by
  intro n
  induction n with
  | zero => intro i4 S; exact X_none
  | succ n ih =>
  · intro i4 S
    rw [f_X0_take_L3]
    refine X_iload (n := 5) 0 (kX0_take 2 rfl) rfl rfl ?_
    refine X_bipush (n := 7) (v := 6) (kX0_take 3 rfl) rfl (by decide) ?_
    refine X_itebind ?_
    refine X_ic_ge (n := 10) (tgt := 41) (kX0_take 4 rfl) rfl rfl (fun h1 => ?_) (fun h1 => ?_)
    · exact X_L [] rfl (kE S)
    · refine X_aload_n (n := 11) 3 (kX0_take 5 rfl) rfl rfl rfl ?_
      refine X_iload_n (n := 12) 4 (kX0_take 6 rfl) rfl rfl rfl ?_
      refine X_bipush (n := 14) (v := 6) (kX0_take 7 rfl) rfl (by decide) ?_
      refine X_imul (n := 15) (kX0_take 8 rfl) rfl ?_
      refine X_iload (n := 17) 0 (kX0_take 9 rfl) rfl rfl ?_
      refine X_iadd (n := 18) (kX0_take 10 rfl) rfl ?_
      refine X_aload_n (n := 19) 1 (kX0_take 11 rfl) rfl rfl rfl ?_
      refine X_getR (n := 22) xf_X0 hk0 (by decide) fl_X0_21 rfl (kX0_take 12 rfl) rfl ?_
      refine X_iload_n (n := 23) 2 (kX0_take 13 rfl) rfl rfl rfl ?_
      refine X_bipush (n := 25) (v := 6) (kX0_take 14 rfl) rfl (by decide) ?_
      refine X_imul (n := 26) (kX0_take 15 rfl) rfl ?_
      refine X_iload (n := 28) 0 (kX0_take 16 rfl) rfl rfl ?_
      refine X_iadd (n := 29) (kX0_take 17 rfl) rfl ?_
      refine X_callN1I (n := 32) (As := [.ref (rf a0 6), .int ((i1 * (6 : Int32)) + i4)]) (st := [.int ((i3 * (6 : Int32)) + i4), .ref a2]) (kX0_take 18 rfl) rfl (p_X11_at (kt_0_6 hk0)) (by decide) nl_X0_36 mf_X11_at rfl rfl (Nat.le_of_ble_eq_true rfl) ?_
      refine X_callN1V (n := 35) (As := [.ref a2, .int ((i3 * (6 : Int32)) + i4), .int (gat S (rf a0 6) ((i1 * (6 : Int32)) + i4))]) (st := []) (kX0_take 19 rfl) rfl (p_X11_put hk2) (by decide) nl_X0_73 mf_X11_put rfl rfl (Nat.le_of_ble_eq_true rfl) ?_
      refine X_iinc (n := 38) 0 (v := (i4 + 1)) (L1 := [(4, .int (i4 + 1)), (0, .ref a0), (1, .int i1), (2, .ref a2), (3, .int i3)]) (kX0_take 20 rfl) rfl rfl rfl (Nat.le_of_ble_eq_true rfl) rfl ?_
      refine X_goto (tgt := 3) (kX0_take 21 rfl) rfl ?_
      exact X_L [0, 1, 2, 3, 4] rfl (ih (i4 + 1) (pat S a2 ((i3 * (6 : Int32)) + i4) (gat S (rf a0 6) ((i1 * (6 : Int32)) + i4))))
set_option maxHeartbeats 4000000 in
set_option maxRecDepth 100000 in
theorem w_X0_take {l : Launch} {g : XG}  {a0 : Nat} {i1 : Int32} {a2 : Nat} {i3 : Int32} {S : XS} (hk0 : kd a0 = 0) (hk2 : kd a2 = 20) : Cl φV l g 2 mX0_take [.ref a0, .int i1, .ref a2, .int i3] S (f_X0_take a0 i1 a2 i3 S) := by
  refine Cl.of (by decide +kernel) (Nat.le_of_ble_eq_true rfl) ?_
  unfold f_X0_take
  show X _ _ _ _ _ 0 [(0, .ref a0), (1, .int i1), (2, .ref a2), (3, .int i3)] [] S _
  refine X_iconst (n := 1) (v := 0) (kX0_take 0 rfl) rfl (by decide) ?_
  refine X_istore (n := 3) (L1 := [(4, .int 0), (0, .ref a0), (1, .int i1), (2, .ref a2), (3, .int i3)]) (kX0_take 1 rfl) rfl (Nat.le_of_ble_eq_true rfl) rfl ?_
  refine X_L [0, 1, 2, 3, 4] rfl (w_X0_take_L3 hk0 hk2 (fun S2 => ?_) 1000000 (0 : Int32) S)
  try dsimp only
  exact X_vret rfl (kX0_take 22 rfl)
def f_X2_isRainTold  (a0 : Nat) (i1 : Int32) (S : XS) : Option (Bool × XS) := (if (gat S (rf a0 7) i1) = 0 then some (false, S) else some (true, S))
set_option maxHeartbeats 4000000 in
set_option maxRecDepth 100000 in
theorem w_X2_isRainTold {l : Launch} {g : XG}  {a0 : Nat} {i1 : Int32} {S : XS} (hk0 : kd a0 = 2) : Cl φB l g 2 mX2_isRainTold [.ref a0, .int i1] S (f_X2_isRainTold a0 i1 S) := by
  refine Cl.of (by decide +kernel) (Nat.le_of_ble_eq_true rfl) ?_
  unfold f_X2_isRainTold
  show X _ _ _ _ _ 0 [(0, .ref a0), (1, .int i1)] [] S _
  refine X_aload_n (n := 1) 0 (kX2_isRainTold 0 rfl) rfl rfl rfl ?_
  refine X_getR (n := 4) xf_X2 hk0 (by decide) fl_X2_37 rfl (kX2_isRainTold 1 rfl) rfl ?_
  refine X_iload_n (n := 5) 1 (kX2_isRainTold 2 rfl) rfl rfl rfl ?_
  refine X_callN1I (n := 8) (As := [.ref (rf a0 7), .int i1]) (st := []) (kX2_isRainTold 3 rfl) rfl (p_X11_at (kt_2_7 hk0)) (by decide) nl_X2_65 mf_X11_at rfl rfl (Nat.le_of_ble_eq_true rfl) ?_
  refine X_if_eq (n := 11) (tgt := 15) (kX2_isRainTold 4 rfl) rfl rfl (fun h1 => ?_) (fun h1 => ?_)
  · refine X_iconst (n := 16) (v := 0) (kX2_isRainTold 7 rfl) rfl (by decide) ?_
    exact X_zret (b := false) rfl (kX2_isRainTold 8 rfl)
  · refine X_iconst (n := 12) (v := 1) (kX2_isRainTold 5 rfl) rfl (by decide) ?_
    refine X_goto (tgt := 16) (kX2_isRainTold 6 rfl) rfl ?_
    exact X_zret (b := true) rfl (kX2_isRainTold 8 rfl)
def t_X2_isRainTold (a0 : Nat) (i1 : Int32) (S : XS) : Bool := (if (gat S (rf a0 7) i1) = 0 then false else true)
theorem ft_X2_isRainTold (a0 : Nat) (i1 : Int32) (S : XS) : f_X2_isRainTold a0 i1 S = some (t_X2_isRainTold a0 i1 S, S) := by
  unfold f_X2_isRainTold t_X2_isRainTold
  first | rfl | simp only [ite_p]
theorem p_X2_isRainTold {l : Launch} {g : XG} {a0 : Nat} {i1 : Int32} {S : XS} (hk0 : kd a0 = 2) : Cl φB l g 2 mX2_isRainTold [.ref a0, .int i1] S (some (t_X2_isRainTold a0 i1 S, S)) := ft_X2_isRainTold a0 i1 S ▸ w_X2_isRainTold hk0
def f_X2_fades  (a0 : Nat) (i1 : Int32) (i2 : Int32) (S : XS) : Option (Bool × XS) := (if (gat S (rf a0 4) i1) ≤ 0 then some (false, S) else (if (gat S (rf a0 4) i1) = 0 then none else (if (rem32 i2 (gat S (rf a0 4) i1)) = 0 then some (true, S) else some (false, S))))
set_option maxHeartbeats 4000000 in
set_option maxRecDepth 100000 in
theorem w_X2_fades {l : Launch} {g : XG}  {a0 : Nat} {i1 : Int32} {i2 : Int32} {S : XS} (hk0 : kd a0 = 2) : Cl φB l g 2 mX2_fades [.ref a0, .int i1, .int i2] S (f_X2_fades a0 i1 i2 S) := by
  refine Cl.of (by decide +kernel) (Nat.le_of_ble_eq_true rfl) ?_
  unfold f_X2_fades
  show X _ _ _ _ _ 0 [(0, .ref a0), (1, .int i1), (2, .int i2)] [] S _
  refine X_aload_n (n := 1) 0 (kX2_fades 0 rfl) rfl rfl rfl ?_
  refine X_getR (n := 4) xf_X2 hk0 (by decide) fl_X2_28 rfl (kX2_fades 1 rfl) rfl ?_
  refine X_iload_n (n := 5) 1 (kX2_fades 2 rfl) rfl rfl rfl ?_
  refine X_callN1I (n := 8) (As := [.ref (rf a0 4), .int i1]) (st := []) (kX2_fades 3 rfl) rfl (p_X11_at (kt_2_4 hk0)) (by decide) nl_X2_65 mf_X11_at rfl rfl (Nat.le_of_ble_eq_true rfl) ?_
  refine X_istore_n (n := 9) (L1 := [(3, .int (gat S (rf a0 4) i1)), (0, .ref a0), (1, .int i1), (2, .int i2)]) (kX2_fades 4 rfl) rfl rfl (Nat.le_of_ble_eq_true rfl) rfl ?_
  refine X_iload_n (n := 10) 0 (kX2_fades 5 rfl) rfl rfl rfl ?_
  refine X_if_le (n := 13) (tgt := 23) (kX2_fades 6 rfl) rfl rfl (fun h1 => ?_) (fun h1 => ?_)
  · refine X_iconst (n := 24) (v := 0) (kX2_fades 13 rfl) rfl (by decide) ?_
    exact X_zret (b := false) rfl (kX2_fades 14 rfl)
  · refine X_iload_n (n := 14) 3 (kX2_fades 7 rfl) rfl rfl rfl ?_
    refine X_iload_n (n := 15) 0 (kX2_fades 8 rfl) rfl rfl rfl ?_
    refine X_irem (n := 16) (kX2_fades 9 rfl) rfl (fun h3 => ?_)
    refine X_if_ne (n := 19) (tgt := 23) (kX2_fades 10 rfl) rfl rfl (fun h2 => ?_) (fun h2 => ?_)
    · refine X_iconst (n := 20) (v := 1) (kX2_fades 11 rfl) rfl (by decide) ?_
      refine X_goto (tgt := 24) (kX2_fades 12 rfl) rfl ?_
      exact X_zret (b := true) rfl (kX2_fades 14 rfl)
    · refine X_iconst (n := 24) (v := 0) (kX2_fades 13 rfl) rfl (by decide) ?_
      exact X_zret (b := false) rfl (kX2_fades 14 rfl)
def f_X11_difference_L6  (a0 : Nat) (i1 : Int32) (a2 : Nat) (i3 : Int32) : Nat → Int32 → Int32 → XS → Option (Int32 × XS)
  | 0, _, _, _ => none
  | n + 1, i4, i5, S => (if (6 : Int32) ≤ i5 then some (i4, S) else f_X11_difference_L6 a0 i1 a2 i3 n (i4 + (if 0 ≤ ((gat S a0 ((i1 * (6 : Int32)) + i5)) - (gat S a2 ((i3 * (6 : Int32)) + i5))) then ((gat S a0 ((i1 * (6 : Int32)) + i5)) - (gat S a2 ((i3 * (6 : Int32)) + i5))) else 0 - ((gat S a0 ((i1 * (6 : Int32)) + i5)) - (gat S a2 ((i3 * (6 : Int32)) + i5))))) (i5 + 1) S)
def f_X11_difference  (a0 : Nat) (i1 : Int32) (a2 : Nat) (i3 : Int32) (S : XS) : Option (Int32 × XS) := ((f_X11_difference_L6 a0 i1 a2 i3 1000000 (0 : Int32) (0 : Int32) S).bind (fun q => match q with | (e2, S3) => some (e2, S3)))
set_option maxHeartbeats 4000000 in
set_option maxRecDepth 100000 in
theorem w_X11_difference_L6 {l : Launch} {g : XG} {G : (Int32 × XS) → Option (Int32 × XS)}  {a0 : Nat} {i1 : Int32} {a2 : Nat} {i3 : Int32} (hk0 : kd a0 = 20) (hk2 : kd a2 = 20) (kE : ∀ (e4 : Int32) (S1 : XS), X φI l g 2 mX11_difference 50 [(4, .int e4)] [] S1 (G (e4, S1))) : ∀ (n : Nat) (i4 : Int32) (i5 : Int32) (S : XS), X φI l g 2 mX11_difference 6 [(5, .int i5), (4, .int i4), (0, .ref a0), (1, .int i1), (2, .ref a2), (3, .int i3)] [] S ((f_X11_difference_L6 a0 i1 a2 i3 n i4 i5 S).bind G) := by
  intro n
  induction n with
  | zero => intro i4 i5 S; exact X_none
  | succ n ih =>
  · intro i4 i5 S
    rw [f_X11_difference_L6]
    refine X_iload (n := 8) 0 (kX11_difference 4 rfl) rfl rfl ?_
    refine X_bipush (n := 10) (v := 6) (kX11_difference 5 rfl) rfl (by decide) ?_
    refine X_itebind ?_
    refine X_ic_ge (n := 13) (tgt := 50) (kX11_difference 6 rfl) rfl rfl (fun h1 => ?_) (fun h1 => ?_)
    · exact X_L [1] rfl (kE i4 S)
    · refine X_iload (n := 15) 1 (kX11_difference 7 rfl) rfl rfl ?_
      refine X_aload_n (n := 16) 2 (kX11_difference 8 rfl) rfl rfl rfl ?_
      refine X_iload_n (n := 17) 3 (kX11_difference 9 rfl) rfl rfl rfl ?_
      refine X_bipush (n := 19) (v := 6) (kX11_difference 10 rfl) rfl (by decide) ?_
      refine X_imul (n := 20) (kX11_difference 11 rfl) rfl ?_
      refine X_iload (n := 22) 0 (kX11_difference 12 rfl) rfl rfl ?_
      refine X_iadd (n := 23) (kX11_difference 13 rfl) rfl ?_
      refine X_callS1I (n := 26) (As := [.ref a0, .int ((i1 * (6 : Int32)) + i5)]) (st := [.int i4]) (kX11_difference 14 rfl) rfl (p_X11_at hk0) (by decide) ml_X11_154 mf_X11_at rfl rfl (Nat.le_of_ble_eq_true rfl) ?_
      refine X_aload_n (n := 27) 4 (kX11_difference 15 rfl) rfl rfl rfl ?_
      refine X_iload_n (n := 28) 5 (kX11_difference 16 rfl) rfl rfl rfl ?_
      refine X_bipush (n := 30) (v := 6) (kX11_difference 17 rfl) rfl (by decide) ?_
      refine X_imul (n := 31) (kX11_difference 18 rfl) rfl ?_
      refine X_iload (n := 33) 0 (kX11_difference 19 rfl) rfl rfl ?_
      refine X_iadd (n := 34) (kX11_difference 20 rfl) rfl ?_
      refine X_callS1I (n := 37) (As := [.ref a2, .int ((i3 * (6 : Int32)) + i5)]) (st := [.int (gat S a0 ((i1 * (6 : Int32)) + i5)), .int i4]) (kX11_difference 21 rfl) rfl (p_X11_at hk2) (by decide) ml_X11_154 mf_X11_at rfl rfl (Nat.le_of_ble_eq_true rfl) ?_
      refine X_isub (n := 38) (kX11_difference 22 rfl) rfl ?_
      refine X_mabs (n := 41) (kX11_difference 23 rfl) rfl (by decide) ml_X11_384 ms1_abs ms2 ms3_abs (Nat.le_of_ble_eq_true rfl) ?_
      refine X_iadd (n := 42) (kX11_difference 24 rfl) rfl ?_
      refine X_istore (n := 44) (L1 := [(4, .int (i4 + (if 0 ≤ ((gat S a0 ((i1 * (6 : Int32)) + i5)) - (gat S a2 ((i3 * (6 : Int32)) + i5))) then ((gat S a0 ((i1 * (6 : Int32)) + i5)) - (gat S a2 ((i3 * (6 : Int32)) + i5))) else 0 - ((gat S a0 ((i1 * (6 : Int32)) + i5)) - (gat S a2 ((i3 * (6 : Int32)) + i5)))))), (5, .int i5), (0, .ref a0), (1, .int i1), (2, .ref a2), (3, .int i3)]) (kX11_difference 25 rfl) rfl (Nat.le_of_ble_eq_true rfl) rfl ?_
      refine X_iinc (n := 47) 1 (v := (i5 + 1)) (L1 := [(5, .int (i5 + 1)), (4, .int (i4 + (if 0 ≤ ((gat S a0 ((i1 * (6 : Int32)) + i5)) - (gat S a2 ((i3 * (6 : Int32)) + i5))) then ((gat S a0 ((i1 * (6 : Int32)) + i5)) - (gat S a2 ((i3 * (6 : Int32)) + i5))) else 0 - ((gat S a0 ((i1 * (6 : Int32)) + i5)) - (gat S a2 ((i3 * (6 : Int32)) + i5)))))), (0, .ref a0), (1, .int i1), (2, .ref a2), (3, .int i3)]) (kX11_difference 26 rfl) rfl rfl rfl (Nat.le_of_ble_eq_true rfl) rfl ?_
      refine X_goto (tgt := 6) (kX11_difference 27 rfl) rfl ?_
      exact X_L [0, 1, 2, 3, 4, 5] rfl (ih (i4 + (if 0 ≤ ((gat S a0 ((i1 * (6 : Int32)) + i5)) - (gat S a2 ((i3 * (6 : Int32)) + i5))) then ((gat S a0 ((i1 * (6 : Int32)) + i5)) - (gat S a2 ((i3 * (6 : Int32)) + i5))) else 0 - ((gat S a0 ((i1 * (6 : Int32)) + i5)) - (gat S a2 ((i3 * (6 : Int32)) + i5))))) (i5 + 1) S)
set_option maxHeartbeats 4000000 in
set_option maxRecDepth 100000 in
theorem w_X11_difference {l : Launch} {g : XG}  {a0 : Nat} {i1 : Int32} {a2 : Nat} {i3 : Int32} {S : XS} (hk0 : kd a0 = 20) (hk2 : kd a2 = 20) : Cl φI l g 2 mX11_difference [.ref a0, .int i1, .ref a2, .int i3] S (f_X11_difference a0 i1 a2 i3 S) := by
  refine Cl.of (by decide +kernel) (Nat.le_of_ble_eq_true rfl) ?_
  unfold f_X11_difference
  show X _ _ _ _ _ 0 [(0, .ref a0), (1, .int i1), (2, .ref a2), (3, .int i3)] [] S _
  refine X_iconst (n := 1) (v := 0) (kX11_difference 0 rfl) rfl (by decide) ?_
  refine X_istore (n := 3) (L1 := [(4, .int 0), (0, .ref a0), (1, .int i1), (2, .ref a2), (3, .int i3)]) (kX11_difference 1 rfl) rfl (Nat.le_of_ble_eq_true rfl) rfl ?_
  refine X_iconst (n := 4) (v := 0) (kX11_difference 2 rfl) rfl (by decide) ?_
  refine X_istore (n := 6) (L1 := [(5, .int 0), (4, .int 0), (0, .ref a0), (1, .int i1), (2, .ref a2), (3, .int i3)]) (kX11_difference 3 rfl) rfl (Nat.le_of_ble_eq_true rfl) rfl ?_
  refine X_L [0, 1, 2, 3, 4, 5] rfl (w_X11_difference_L6 hk0 hk2 (fun e2 S3 => ?_) 1000000 (0 : Int32) (0 : Int32) S)
  try dsimp only
  refine X_iload (n := 52) 0 (kX11_difference 28 rfl) rfl rfl ?_
  exact X_iret rfl (kX11_difference 29 rfl)
def f_X1_drawWalks_L5  (a0 : Nat) (a1 : Nat) (a2 : Nat) : Nat → Int32 → Int32 → XS → Option (Int32 × XS)
  | 0, _, _, _ => none
  | n + 1, i3, i4, S => (if (gat S (rf a1 0) (2 : Int32)) ≤ i4 then some (i3, S) else ((f_X1_draw a0 (3 : Int32) S).bind (fun q => match q with | (r2, S3) => (if r2 = 0 then ((f_X1_draw a0 (gat S3 (rf a1 0) (1 : Int32)) S3).bind (fun q => match q with | (r5, S6) => f_X1_drawWalks_L5 a0 a1 a2 n (i3 + 1) (i4 + 1) (pat S6 (rf a2 1) i4 r5))) else f_X1_drawWalks_L5 a0 a1 a2 n i3 (i4 + 1) S3))))
def f_X1_drawWalks  (a0 : Nat) (a1 : Nat) (a2 : Nat) (S : XS) : Option (Int32 × XS) := ((f_X1_drawWalks_L5 a0 a1 a2 1000000 (0 : Int32) (0 : Int32) S).bind (fun q => match q with | (e7, S8) => some (e7, S8)))
set_option maxHeartbeats 4000000 in
set_option maxRecDepth 100000 in
theorem w_X1_drawWalks_L5 {l : Launch} {g : XG} {G : (Int32 × XS) → Option (Int32 × XS)}  {a0 : Nat} {a1 : Nat} {a2 : Nat} (hk0 : kd a0 = 1) (hk1 : kd a1 = 2) (hk2 : kd a2 = 10) (kE : ∀ (e3 : Int32) (S1 : XS), X φI l g 2 mX1_drawWalks 56 [(3, .int e3)] [] S1 (G (e3, S1))) : ∀ (n : Nat) (i3 : Int32) (i4 : Int32) (S : XS), X φI l g 2 mX1_drawWalks 5 [(4, .int i4), (3, .int i3), (0, .ref a0), (1, .ref a1), (2, .ref a2)] [] S ((f_X1_drawWalks_L5 a0 a1 a2 n i3 i4 S).bind G) := by
  intro n
  induction n with
  | zero => intro i3 i4 S; exact X_none
  | succ n ih =>
  · intro i3 i4 S
    rw [f_X1_drawWalks_L5]
    refine X_iload (n := 7) 0 (kX1_drawWalks 4 rfl) rfl rfl ?_
    refine X_aload_n (n := 8) 3 (kX1_drawWalks 5 rfl) rfl rfl rfl ?_
    refine X_getR (n := 11) xf_X2 hk1 (by decide) fl_X1_63 rfl (kX1_drawWalks 6 rfl) rfl ?_
    refine X_iconst (n := 12) (v := 2) (kX1_drawWalks 7 rfl) rfl (by decide) ?_
    refine X_callN1I (n := 15) (As := [.ref (rf a1 0), .int (2 : Int32)]) (st := [.int i4]) (kX1_drawWalks 8 rfl) rfl (p_X11_at (kt_2_0 hk1)) (by decide) nl_X1_58 mf_X11_at rfl rfl (Nat.le_of_ble_eq_true rfl) ?_
    refine X_itebind ?_
    refine X_ic_ge (n := 18) (tgt := 56) (kX1_drawWalks 9 rfl) rfl rfl (fun h1 => ?_) (fun h1 => ?_)
    · exact X_L [1] rfl (kE i3 S)
    · refine X_aload_n (n := 19) 2 (kX1_drawWalks 10 rfl) rfl rfl rfl ?_
      refine X_iconst (n := 20) (v := 3) (kX1_drawWalks 11 rfl) rfl (by decide) ?_
      refine X_assoc ?_
      refine X_callVI (n := 23) (As := [.int (3 : Int32)]) (st := []) (kX1_drawWalks 12 rfl) rfl (w_X1_draw hk0) (by decide) ml_X1_68 mf_X1_draw rfl hk0 xf_X1 rfl (Nat.le_of_ble_eq_true rfl) (fun r2 S3 hq => ?_)
      try dsimp only
      refine X_itebind ?_
      refine X_if_ne (n := 26) (tgt := 50) (kX1_drawWalks 13 rfl) rfl rfl (fun h4 => ?_) (fun h4 => ?_)
      · refine X_aload_n (n := 27) 4 (kX1_drawWalks 14 rfl) rfl rfl rfl ?_
        refine X_getR (n := 30) xf_X10 hk2 (by decide) fl_X1_72 rfl (kX1_drawWalks 15 rfl) rfl ?_
        refine X_iload (n := 32) 0 (kX1_drawWalks 16 rfl) rfl rfl ?_
        refine X_aload_n (n := 33) 2 (kX1_drawWalks 17 rfl) rfl rfl rfl ?_
        refine X_aload_n (n := 34) 3 (kX1_drawWalks 18 rfl) rfl rfl rfl ?_
        refine X_getR (n := 37) xf_X2 hk1 (by decide) fl_X1_63 rfl (kX1_drawWalks 19 rfl) rfl ?_
        refine X_iconst (n := 38) (v := 1) (kX1_drawWalks 20 rfl) rfl (by decide) ?_
        refine X_callN1I (n := 41) (As := [.ref (rf a1 0), .int (1 : Int32)]) (st := [.ref a0, .int i4, .ref (rf a2 1)]) (kX1_drawWalks 21 rfl) rfl (p_X11_at (kt_2_0 hk1)) (by decide) nl_X1_58 mf_X11_at rfl rfl (Nat.le_of_ble_eq_true rfl) ?_
        refine X_assoc ?_
        refine X_callVI (n := 44) (As := [.int (gat S3 (rf a1 0) (1 : Int32))]) (st := [.int i4, .ref (rf a2 1)]) (kX1_drawWalks 22 rfl) rfl (w_X1_draw hk0) (by decide) ml_X1_68 mf_X1_draw rfl hk0 xf_X1 rfl (Nat.le_of_ble_eq_true rfl) (fun r5 S6 hq => ?_)
        try dsimp only
        refine X_callN1V (n := 47) (As := [.ref (rf a2 1), .int i4, .int r5]) (st := []) (kX1_drawWalks 23 rfl) rfl (p_X11_put (kt_10_1 hk2)) (by decide) nl_X1_75 mf_X11_put rfl rfl (Nat.le_of_ble_eq_true rfl) ?_
        refine X_iinc (n := 50) 1 (v := (i3 + 1)) (L1 := [(3, .int (i3 + 1)), (4, .int i4), (0, .ref a0), (1, .ref a1), (2, .ref a2)]) (kX1_drawWalks 24 rfl) rfl rfl rfl (Nat.le_of_ble_eq_true rfl) rfl ?_
        refine X_iinc (n := 53) 1 (v := (i4 + 1)) (L1 := [(4, .int (i4 + 1)), (3, .int (i3 + 1)), (0, .ref a0), (1, .ref a1), (2, .ref a2)]) (kX1_drawWalks 25 rfl) rfl rfl rfl (Nat.le_of_ble_eq_true rfl) rfl ?_
        refine X_goto (tgt := 5) (kX1_drawWalks 26 rfl) rfl ?_
        exact X_L [0, 1, 2, 3, 4] rfl (ih (i3 + 1) (i4 + 1) (pat S6 (rf a2 1) i4 r5))
      · refine X_iinc (n := 53) 0 (v := (i4 + 1)) (L1 := [(4, .int (i4 + 1)), (3, .int i3), (0, .ref a0), (1, .ref a1), (2, .ref a2)]) (kX1_drawWalks 25 rfl) rfl rfl rfl (Nat.le_of_ble_eq_true rfl) rfl ?_
        refine X_goto (tgt := 5) (kX1_drawWalks 26 rfl) rfl ?_
        exact X_L [0, 1, 2, 3, 4] rfl (ih i3 (i4 + 1) S3)
set_option maxHeartbeats 4000000 in
set_option maxRecDepth 100000 in
theorem w_X1_drawWalks {l : Launch} {g : XG}  {a0 : Nat} {a1 : Nat} {a2 : Nat} {S : XS} (hk0 : kd a0 = 1) (hk1 : kd a1 = 2) (hk2 : kd a2 = 10) : Cl φI l g 2 mX1_drawWalks [.ref a0, .ref a1, .ref a2] S (f_X1_drawWalks a0 a1 a2 S) := by
  refine Cl.of (by decide +kernel) (Nat.le_of_ble_eq_true rfl) ?_
  unfold f_X1_drawWalks
  show X _ _ _ _ _ 0 [(0, .ref a0), (1, .ref a1), (2, .ref a2)] [] S _
  refine X_iconst (n := 1) (v := 0) (kX1_drawWalks 0 rfl) rfl (by decide) ?_
  refine X_istore_n (n := 2) (L1 := [(3, .int 0), (0, .ref a0), (1, .ref a1), (2, .ref a2)]) (kX1_drawWalks 1 rfl) rfl rfl (Nat.le_of_ble_eq_true rfl) rfl ?_
  refine X_iconst (n := 3) (v := 0) (kX1_drawWalks 2 rfl) rfl (by decide) ?_
  refine X_istore (n := 5) (L1 := [(4, .int 0), (3, .int 0), (0, .ref a0), (1, .ref a1), (2, .ref a2)]) (kX1_drawWalks 3 rfl) rfl (Nat.le_of_ble_eq_true rfl) rfl ?_
  refine X_L [0, 1, 2, 3, 4] rfl (w_X1_drawWalks_L5 hk0 hk1 hk2 (fun e7 S8 => ?_) 1000000 (0 : Int32) (0 : Int32) S)
  try dsimp only
  refine X_iload_n (n := 57) 0 (kX1_drawWalks 27 rfl) rfl rfl rfl ?_
  exact X_iret rfl (kX1_drawWalks 28 rfl)
def f_X10_swap  (a0 : Nat) (i1 : Int32) (i2 : Int32) (S : XS) : Option (XS) := some (pat (pat S (rf a0 2) i1 (gat S (rf a0 2) i2)) (rf a0 2) i2 (gat S (rf a0 2) i1))
set_option maxHeartbeats 4000000 in
set_option maxRecDepth 100000 in
theorem w_X10_swap {l : Launch} {g : XG}  {a0 : Nat} {i1 : Int32} {i2 : Int32} {S : XS} (hk0 : kd a0 = 10) : Cl φV l g 2 mX10_swap [.ref a0, .int i1, .int i2] S (f_X10_swap a0 i1 i2 S) := by
  refine Cl.of (by decide +kernel) (Nat.le_of_ble_eq_true rfl) ?_
  unfold f_X10_swap
  show X _ _ _ _ _ 0 [(0, .ref a0), (1, .int i1), (2, .int i2)] [] S _
  refine X_aload_n (n := 1) 0 (kX10_swap 0 rfl) rfl rfl rfl ?_
  refine X_getR (n := 4) xf_X10 hk0 (by decide) fl_X10_15 rfl (kX10_swap 1 rfl) rfl ?_
  refine X_iload_n (n := 5) 1 (kX10_swap 2 rfl) rfl rfl rfl ?_
  refine X_callN1I (n := 8) (As := [.ref (rf a0 2), .int i1]) (st := []) (kX10_swap 3 rfl) rfl (p_X11_at (kt_10_2 hk0)) (by decide) nl_X10_55 mf_X11_at rfl rfl (Nat.le_of_ble_eq_true rfl) ?_
  refine X_istore_n (n := 9) (L1 := [(3, .int (gat S (rf a0 2) i1)), (0, .ref a0), (1, .int i1), (2, .int i2)]) (kX10_swap 4 rfl) rfl rfl (Nat.le_of_ble_eq_true rfl) rfl ?_
  refine X_aload_n (n := 10) 1 (kX10_swap 5 rfl) rfl rfl rfl ?_
  refine X_getR (n := 13) xf_X10 hk0 (by decide) fl_X10_15 rfl (kX10_swap 6 rfl) rfl ?_
  refine X_iload_n (n := 14) 2 (kX10_swap 7 rfl) rfl rfl rfl ?_
  refine X_aload_n (n := 15) 1 (kX10_swap 8 rfl) rfl rfl rfl ?_
  refine X_getR (n := 18) xf_X10 hk0 (by decide) fl_X10_15 rfl (kX10_swap 9 rfl) rfl ?_
  refine X_iload_n (n := 19) 3 (kX10_swap 10 rfl) rfl rfl rfl ?_
  refine X_callN1I (n := 22) (As := [.ref (rf a0 2), .int i2]) (st := [.int i1, .ref (rf a0 2)]) (kX10_swap 11 rfl) rfl (p_X11_at (kt_10_2 hk0)) (by decide) nl_X10_55 mf_X11_at rfl rfl (Nat.le_of_ble_eq_true rfl) ?_
  refine X_callN1V (n := 25) (As := [.ref (rf a0 2), .int i1, .int (gat S (rf a0 2) i2)]) (st := []) (kX10_swap 12 rfl) rfl (p_X11_put (kt_10_2 hk0)) (by decide) nl_X10_59 mf_X11_put rfl rfl (Nat.le_of_ble_eq_true rfl) ?_
  refine X_aload_n (n := 26) 1 (kX10_swap 13 rfl) rfl rfl rfl ?_
  refine X_getR (n := 29) xf_X10 hk0 (by decide) fl_X10_15 rfl (kX10_swap 14 rfl) rfl ?_
  refine X_iload_n (n := 30) 3 (kX10_swap 15 rfl) rfl rfl rfl ?_
  refine X_iload_n (n := 31) 0 (kX10_swap 16 rfl) rfl rfl rfl ?_
  refine X_callN1V (n := 34) (As := [.ref (rf a0 2), .int i2, .int (gat S (rf a0 2) i1)]) (st := []) (kX10_swap 17 rfl) rfl (p_X11_put (kt_10_2 hk0)) (by decide) nl_X10_59 mf_X11_put rfl rfl (Nat.le_of_ble_eq_true rfl) ?_
  exact X_vret rfl (kX10_swap 18 rfl)
def t_X10_swap (a0 : Nat) (i1 : Int32) (i2 : Int32) (S : XS) : XS := (pat (pat S (rf a0 2) i1 (gat S (rf a0 2) i2)) (rf a0 2) i2 (gat S (rf a0 2) i1))
theorem ft_X10_swap (a0 : Nat) (i1 : Int32) (i2 : Int32) (S : XS) : f_X10_swap a0 i1 i2 S = some (t_X10_swap a0 i1 i2 S) := by
  unfold f_X10_swap t_X10_swap
  first | rfl | simp only [ite_u]
theorem p_X10_swap {l : Launch} {g : XG} {a0 : Nat} {i1 : Int32} {i2 : Int32} {S : XS} (hk0 : kd a0 = 10) : Cl φV l g 2 mX10_swap [.ref a0, .int i1, .int i2] S (some (t_X10_swap a0 i1 i2 S)) := ft_X10_swap a0 i1 i2 S ▸ w_X10_swap hk0
def f_X1_drawRain  (a0 : Nat) (S : XS) : Option (Int32 × XS) := ((f_X1_draw a0 (5 : Int32) S).bind (fun q => match q with | (r1, S2) => (if r1 = 0 then some ((1 : Int32), S2) else some ((0 : Int32), S2))))
set_option maxHeartbeats 4000000 in
set_option maxRecDepth 100000 in
theorem w_X1_drawRain {l : Launch} {g : XG}  {a0 : Nat} {S : XS} (hk0 : kd a0 = 1) : Cl φI l g 2 mX1_drawRain [.ref a0] S (f_X1_drawRain a0 S) := by
  refine Cl.of (by decide +kernel) (Nat.le_of_ble_eq_true rfl) ?_
  unfold f_X1_drawRain
  show X _ _ _ _ _ 0 [(0, .ref a0)] [] S _
  refine X_aload_n (n := 1) 0 (kX1_drawRain 0 rfl) rfl rfl rfl ?_
  refine X_iconst (n := 2) (v := 5) (kX1_drawRain 1 rfl) rfl (by decide) ?_
  refine X_callVI (n := 5) (As := [.int (5 : Int32)]) (st := []) (kX1_drawRain 2 rfl) rfl (w_X1_draw hk0) (by decide) ml_X1_68 mf_X1_draw rfl hk0 xf_X1 rfl (Nat.le_of_ble_eq_true rfl) (fun r1 S2 hq => ?_)
  try dsimp only
  refine X_if_ne (n := 8) (tgt := 12) (kX1_drawRain 3 rfl) rfl rfl (fun h3 => ?_) (fun h3 => ?_)
  · refine X_iconst (n := 9) (v := 1) (kX1_drawRain 4 rfl) rfl (by decide) ?_
    refine X_goto (tgt := 13) (kX1_drawRain 5 rfl) rfl ?_
    exact X_iret rfl (kX1_drawRain 7 rfl)
  · refine X_iconst (n := 13) (v := 0) (kX1_drawRain 6 rfl) rfl (by decide) ?_
    exact X_iret rfl (kX1_drawRain 7 rfl)
