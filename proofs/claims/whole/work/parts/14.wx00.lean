def f_X4_canOneNose_L10  (a0 : Nat) (a1 : Nat) : Nat → Int32 → XS → Option (XS)
  | 0, _, _ => none
  | n + 1, i2, S => (if (S.1 a1 4) ≤ i2 then some S else ((f_X11_strongest (rf a1 5) i2 S).bind (fun q => match q with | (r2, S3) => f_X4_canOneNose_L10 a0 a1 n (i2 + 1) (pat S3 (rf a0 4) i2 r2))))
def f_X4_canOneNose  (a0 : Nat) (a1 : Nat) (S : XS) : Option (Bool × XS) := ((f_X4_canOneNose_L10 a0 a1 1000000 (0 : Int32) (filI S (rf a0 7) (0 : Int32))).bind (fun S4 => ((rX4_tryNext 12 a0 a1 (0 : Int32) (0 : Int32) S4).bind (fun q => match q with | (r5, S6) => some (r5, S6)))))
set_option maxHeartbeats 4000000 in
set_option maxRecDepth 100000 in
theorem w_X4_canOneNose_L10 {l : Launch} {g : XG} {G : (XS) → Option (Bool × XS)}  {a0 : Nat} {a1 : Nat} (hk0 : kd a0 = 4) (hk1 : kd a1 = 10) (kE : ∀ (S1 : XS), X φB l g 55 mX4_canOneNose 40 [(0, .ref a0), (1, .ref a1)] [] S1 (G S1)) : ∀ (n : Nat) (i2 : Int32) (S : XS), X φB l g 55 mX4_canOneNose 10 [(2, .int i2), (0, .ref a0), (1, .ref a1)] [] S ((f_X4_canOneNose_L10 a0 a1 n i2 S).bind G) := by
  intro n
  induction n with
  | zero => intro i2 S; exact X_none
  | succ n ih =>
  · intro i2 S
    rw [f_X4_canOneNose_L10]
    refine X_iload_n (n := 11) 0 (kX4_canOneNose 6 rfl) rfl rfl rfl ?_
    refine X_aload_n (n := 12) 2 (kX4_canOneNose 7 rfl) rfl rfl rfl ?_
    refine X_getI (n := 15) xf_X10 hk1 (by decide) fl_X4_40 rfl (kX4_canOneNose 8 rfl) rfl ?_
    refine X_itebind ?_
    refine X_ic_ge (n := 18) (tgt := 40) (kX4_canOneNose 9 rfl) rfl rfl (fun h1 => ?_) (fun h1 => ?_)
    · exact X_L [1, 2] rfl (kE S)
    · refine X_aload_n (n := 19) 1 (kX4_canOneNose 10 rfl) rfl rfl rfl ?_
      refine X_getR (n := 22) xf_X4 hk0 (by decide) fl_X4_18 rfl (kX4_canOneNose 11 rfl) rfl ?_
      refine X_iload_n (n := 23) 0 (kX4_canOneNose 12 rfl) rfl rfl rfl ?_
      refine X_aload_n (n := 24) 2 (kX4_canOneNose 13 rfl) rfl rfl rfl ?_
      refine X_getR (n := 27) xf_X10 hk1 (by decide) fl_X4_67 rfl (kX4_canOneNose 14 rfl) rfl ?_
      refine X_iload_n (n := 28) 0 (kX4_canOneNose 15 rfl) rfl rfl rfl ?_
      refine X_assoc ?_
      refine X_callNI (n := 31) (As := [.ref (rf a1 5), .int i2]) (st := [.int i2, .ref (rf a0 4)]) (kX4_canOneNose 16 rfl) rfl (w_X11_strongest (kt_10_5 hk1)) (by decide) nl_X4_70 mf_X11_strongest rfl rfl (Nat.le_of_ble_eq_true rfl) (fun r2 S3 hq => ?_)
      try dsimp only
      refine X_callN1V (n := 34) (As := [.ref (rf a0 4), .int i2, .int r2]) (st := []) (kX4_canOneNose 17 rfl) rfl (p_X11_put (kt_4_4 hk0)) (by decide) nl_X4_73 mf_X11_put rfl rfl (Nat.le_of_ble_eq_true rfl) ?_
      refine X_iinc (n := 37) 0 (v := (i2 + 1)) (L1 := [(2, .int (i2 + 1)), (0, .ref a0), (1, .ref a1)]) (kX4_canOneNose 18 rfl) rfl rfl rfl (Nat.le_of_ble_eq_true rfl) rfl ?_
      refine X_goto (tgt := 10) (kX4_canOneNose 19 rfl) rfl ?_
      exact X_L [0, 1, 2] rfl (ih (i2 + 1) (pat S3 (rf a0 4) i2 r2))
set_option maxHeartbeats 4000000 in
set_option maxRecDepth 100000 in
theorem w_X4_canOneNose {l : Launch} {g : XG}  {a0 : Nat} {a1 : Nat} {S : XS} (hk0 : kd a0 = 4) (hk1 : kd a1 = 10) : Cl φB l g 55 mX4_canOneNose [.ref a0, .ref a1] S (f_X4_canOneNose a0 a1 S) := by
  refine Cl.of (by decide +kernel) (Nat.le_of_ble_eq_true rfl) ?_
  unfold f_X4_canOneNose
  show X _ _ _ _ _ 0 [(0, .ref a0), (1, .ref a1)] [] S _
  refine X_aload_n (n := 1) 0 (kX4_canOneNose 0 rfl) rfl rfl rfl ?_
  refine X_getR (n := 4) xf_X4 hk0 (by decide) fl_X4_27 rfl (kX4_canOneNose 1 rfl) rfl ?_
  refine X_iconst (n := 5) (v := 0) (kX4_canOneNose 2 rfl) rfl (by decide) ?_
  refine X_callS1V (n := 8) (As := [.ref (rf a0 7), .int (0 : Int32)]) (st := []) (kX4_canOneNose 3 rfl) rfl (p_J7_fill_53178 (kt_4_7 hk0)) (by decide) ml_X4_81 mf_J7_fill_53178 rfl rfl (Nat.le_of_ble_eq_true rfl) ?_
  refine X_iconst (n := 9) (v := 0) (kX4_canOneNose 4 rfl) rfl (by decide) ?_
  refine X_istore_n (n := 10) (L1 := [(2, .int 0), (0, .ref a0), (1, .ref a1)]) (kX4_canOneNose 5 rfl) rfl rfl (Nat.le_of_ble_eq_true rfl) rfl ?_
  refine X_L [0, 1, 2] rfl (w_X4_canOneNose_L10 hk0 hk1 (fun S4 => ?_) 1000000 (0 : Int32) (filI S (rf a0 7) (0 : Int32)))
  try dsimp only
  refine X_aload_n (n := 41) 0 (kX4_canOneNose 20 rfl) rfl rfl rfl ?_
  refine X_aload_n (n := 42) 1 (kX4_canOneNose 21 rfl) rfl rfl rfl ?_
  refine X_iconst (n := 43) (v := 0) (kX4_canOneNose 22 rfl) rfl (by decide) ?_
  refine X_iconst (n := 44) (v := 0) (kX4_canOneNose 23 rfl) rfl (by decide) ?_
  refine X_callVB (n := 47) (As := [.ref a1, .int (0 : Int32), .int (0 : Int32)]) (st := []) (kX4_canOneNose 24 rfl) rfl (wr_X4_tryNext 12 a0 a1 (0 : Int32) (0 : Int32) S4 hk0 hk1) (by decide) ml_X4_111 mf_X4_tryNext rfl hk0 xf_X4 rfl (Nat.le_of_ble_eq_true rfl) (fun r5 S6 hq => ?_)
  try dsimp only
  exact X_zret (b := r5) rfl (kX4_canOneNose 25 rfl)
def f_X4_findOrder  (a0 : Nat) (a1 : Nat) (S : XS) : Option (Int32 × XS) := ((f_X4_isAnyClean a1 S).bind (fun q => match q with | (r1, S2) => (if r1 = true then some ((-1 : Int32), S2) else ((f_X4_canOneNose a0 a1 S2).bind (fun q => match q with | (r4, S5) => (if r4 = true then some (((cpy (sI S5 a0 2 (S5.1 a1 4)) (rf a0 5) (rf a0 3)).1 a0 2), (cpy (sI S5 a0 2 (S5.1 a1 4)) (rf a0 5) (rf a0 3))) else some ((-1 : Int32), S5)))))))
set_option maxHeartbeats 4000000 in
set_option maxRecDepth 100000 in
theorem w_X4_findOrder {l : Launch} {g : XG}  {a0 : Nat} {a1 : Nat} {S : XS} (hk0 : kd a0 = 4) (hk1 : kd a1 = 10) : Cl φI l g 56 mX4_findOrder [.ref a0, .ref a1] S (f_X4_findOrder a0 a1 S) := by
  refine Cl.of (by decide +kernel) (Nat.le_of_ble_eq_true rfl) ?_
  unfold f_X4_findOrder
  show X _ _ _ _ _ 0 [(0, .ref a0), (1, .ref a1)] [] S _
  refine X_aload_n (n := 1) 1 (kX4_findOrder 0 rfl) rfl rfl rfl ?_
  refine X_callSB (n := 4) (As := [.ref a1]) (st := []) (kX4_findOrder 1 rfl) rfl (w_X4_isAnyClean hk1) (by decide) ml_X4_33 mf_X4_isAnyClean rfl rfl (Nat.le_of_ble_eq_true rfl) (fun r1 S2 hq => ?_)
  try dsimp only
  refine X_bn (n := 7) (tgt := 15) (kX4_findOrder 2 rfl) rfl rfl (fun h3 => ?_) (fun h3 => ?_)
  · refine X_iconst (n := 16) (v := (-1)) (kX4_findOrder 7 rfl) rfl (by decide) ?_
    exact X_iret rfl (kX4_findOrder 8 rfl)
  · refine X_aload_n (n := 8) 0 (kX4_findOrder 3 rfl) rfl rfl rfl ?_
    refine X_aload_n (n := 9) 1 (kX4_findOrder 4 rfl) rfl rfl rfl ?_
    refine X_callVB (n := 12) (As := [.ref a1]) (st := []) (kX4_findOrder 5 rfl) rfl (w_X4_canOneNose hk0 hk1) (by decide) ml_X4_37 mf_X4_canOneNose rfl hk0 xf_X4 rfl (Nat.le_of_ble_eq_true rfl) (fun r4 S5 hq => ?_)
    try dsimp only
    refine X_bn (n := 15) (tgt := 17) (kX4_findOrder 6 rfl) rfl rfl (fun h6 => ?_) (fun h6 => ?_)
    · refine X_aload_n (n := 18) 0 (kX4_findOrder 9 rfl) rfl rfl rfl ?_
      refine X_aload_n (n := 19) 1 (kX4_findOrder 10 rfl) rfl rfl rfl ?_
      refine X_getI (n := 22) xf_X10 hk1 (by decide) fl_X4_40 rfl (kX4_findOrder 11 rfl) rfl ?_
      refine X_putI (n := 25) xf_X4 hk0 (by decide) fl_X4_46 rfl rfl (Or.inl rfl) (kX4_findOrder 12 rfl) rfl ?_
      refine X_aload_n (n := 26) 0 (kX4_findOrder 13 rfl) rfl rfl rfl ?_
      refine X_getR (n := 29) xf_X4 hk0 (by decide) fl_X4_21 rfl (kX4_findOrder 14 rfl) rfl ?_
      refine X_aload_n (n := 30) 0 (kX4_findOrder 15 rfl) rfl rfl rfl ?_
      refine X_getR (n := 33) xf_X4 hk0 (by decide) fl_X4_15 rfl (kX4_findOrder 16 rfl) rfl ?_
      refine X_callN1V (n := 36) (As := [.ref (rf a0 5), .ref (rf a0 3)]) (st := []) (kX4_findOrder 17 rfl) rfl (p_X11_copy (kt_4_5 hk0) (kt_4_3 hk0)) (by decide) nl_X4_49 mf_X11_copy rfl rfl (Nat.le_of_ble_eq_true rfl) ?_
      refine X_aload_n (n := 37) 0 (kX4_findOrder 18 rfl) rfl rfl rfl ?_
      refine X_getI (n := 40) xf_X4 hk0 (by decide) fl_X4_46 rfl (kX4_findOrder 19 rfl) rfl ?_
      exact X_iret rfl (kX4_findOrder 20 rfl)
    · refine X_iconst (n := 16) (v := (-1)) (kX4_findOrder 7 rfl) rfl (by decide) ?_
      exact X_iret rfl (kX4_findOrder 8 rfl)
def f_X4_fewest_L37  (i2 : Int32) (a0 : Nat) : Nat → Int32 → XS → Option (XS)
  | 0, _, _ => none
  | n + 1, i3, S => (if i2 < i3 then some S else ((f_X4_share a0 i3 S).bind (fun S8 => f_X4_fewest_L37 i2 a0 n (i3 + 1) S8)))
def f_X4_fewest  (a0 : Nat) (a1 : Nat) (S : XS) : Option (Int32 × XS) := ((f_X4_isAnyClean a1 S).bind (fun q => match q with | (r1, S2) => (if r1 = true then some ((-1 : Int32), S2) else ((f_X4_canOneNose a0 a1 S2).bind (fun q => match q with | (r4, S5) => (if r4 = true then some ((if (1 : Int32) < (S5.1 a1 4) then (1 : Int32) else (S5.1 a1 4)), S5) else ((f_X4_fewest_L37 ((shl32 (1 : Int32) (S5.1 a1 4)) - (1 : Int32)) a0 1000000 (1 : Int32) S5).bind (fun S9 => some ((gat S9 (rf a0 8) ((shl32 (1 : Int32) (S5.1 a1 4)) - (1 : Int32))), S9)))))))))
set_option maxHeartbeats 4000000 in
set_option maxRecDepth 100000 in
theorem w_X4_fewest_L37 {l : Launch} {g : XG} {G : (XS) → Option (Int32 × XS)}  {i2 : Int32} {a0 : Nat} (hk0 : kd a0 = 4) (kE : ∀ (S1 : XS), X φI l g 56 mX4_fewest 53 [(2, .int i2), (0, .ref a0)] [] S1 (G S1)) : ∀ (n : Nat) (i3 : Int32) (S : XS), X φI l g 56 mX4_fewest 37 [(3, .int i3), (2, .int i2), (0, .ref a0)] [] S ((f_X4_fewest_L37 i2 a0 n i3 S).bind G) := by
  intro n
  induction n with
  | zero => intro i3 S; exact X_none
  | succ n ih =>
  · intro i3 S
    rw [f_X4_fewest_L37]
    refine X_iload_n (n := 38) 0 (kX4_fewest 23 rfl) rfl rfl rfl ?_
    refine X_iload_n (n := 39) 1 (kX4_fewest 24 rfl) rfl rfl rfl ?_
    refine X_itebind ?_
    refine X_ic_gt (n := 42) (tgt := 53) (kX4_fewest 25 rfl) rfl rfl (fun h7 => ?_) (fun h7 => ?_)
    · exact X_L [1, 2] rfl (kE S)
    · refine X_aload_n (n := 43) 2 (kX4_fewest 26 rfl) rfl rfl rfl ?_
      refine X_iload_n (n := 44) 0 (kX4_fewest 27 rfl) rfl rfl rfl ?_
      refine X_assoc ?_
      refine X_callVV (n := 47) (As := [.int i3]) (st := []) (kX4_fewest 28 rfl) rfl (w_X4_share hk0) (by decide) ml_X4_63 mf_X4_share rfl hk0 xf_X4 rfl (Nat.le_of_ble_eq_true rfl) (fun S8 hq => ?_)
      try dsimp only
      refine X_iinc (n := 50) 0 (v := (i3 + 1)) (L1 := [(3, .int (i3 + 1)), (2, .int i2), (0, .ref a0)]) (kX4_fewest 29 rfl) rfl rfl rfl (Nat.le_of_ble_eq_true rfl) rfl ?_
      refine X_goto (tgt := 37) (kX4_fewest 30 rfl) rfl ?_
      exact X_L [0, 1, 2] rfl (ih (i3 + 1) S8)
set_option maxHeartbeats 4000000 in
set_option maxRecDepth 100000 in
theorem w_X4_fewest {l : Launch} {g : XG}  {a0 : Nat} {a1 : Nat} {S : XS} (hk0 : kd a0 = 4) (hk1 : kd a1 = 10) : Cl φI l g 56 mX4_fewest [.ref a0, .ref a1] S (f_X4_fewest a0 a1 S) := by
  refine Cl.of (by decide +kernel) (Nat.le_of_ble_eq_true rfl) ?_
  unfold f_X4_fewest
  show X _ _ _ _ _ 0 [(0, .ref a0), (1, .ref a1)] [] S _
  refine X_aload_n (n := 1) 1 (kX4_fewest 0 rfl) rfl rfl rfl ?_
  refine X_callSB (n := 4) (As := [.ref a1]) (st := []) (kX4_fewest 1 rfl) rfl (w_X4_isAnyClean hk1) (by decide) ml_X4_33 mf_X4_isAnyClean rfl rfl (Nat.le_of_ble_eq_true rfl) (fun r1 S2 hq => ?_)
  try dsimp only
  refine X_bz (n := 7) (tgt := 9) (kX4_fewest 2 rfl) rfl rfl (fun h3 => ?_) (fun h3 => ?_)
  · refine X_iconst (n := 8) (v := (-1)) (kX4_fewest 3 rfl) rfl (by decide) ?_
    exact X_iret rfl (kX4_fewest 4 rfl)
  · refine X_aload_n (n := 10) 0 (kX4_fewest 5 rfl) rfl rfl rfl ?_
    refine X_aload_n (n := 11) 1 (kX4_fewest 6 rfl) rfl rfl rfl ?_
    refine X_callVB (n := 14) (As := [.ref a1]) (st := []) (kX4_fewest 7 rfl) rfl (w_X4_canOneNose hk0 hk1) (by decide) ml_X4_37 mf_X4_canOneNose rfl hk0 xf_X4 rfl (Nat.le_of_ble_eq_true rfl) (fun r4 S5 hq => ?_)
    try dsimp only
    refine X_bz (n := 17) (tgt := 26) (kX4_fewest 8 rfl) rfl rfl (fun h6 => ?_) (fun h6 => ?_)
    · refine X_aload_n (n := 18) 1 (kX4_fewest 9 rfl) rfl rfl rfl ?_
      refine X_getI (n := 21) xf_X10 hk1 (by decide) fl_X4_40 rfl (kX4_fewest 10 rfl) rfl ?_
      refine X_iconst (n := 22) (v := 1) (kX4_fewest 11 rfl) rfl (by decide) ?_
      refine X_mmin (n := 25) (kX4_fewest 12 rfl) rfl (by decide) ml_X4_57 ms1_min ms2 ms3_min (Nat.le_of_ble_eq_true rfl) ?_
      exact X_iret rfl (kX4_fewest 13 rfl)
    · refine X_iconst (n := 27) (v := 1) (kX4_fewest 14 rfl) rfl (by decide) ?_
      refine X_aload_n (n := 28) 1 (kX4_fewest 15 rfl) rfl rfl rfl ?_
      refine X_getI (n := 31) xf_X10 hk1 (by decide) fl_X4_40 rfl (kX4_fewest 16 rfl) rfl ?_
      refine X_ishl (n := 32) (kX4_fewest 17 rfl) rfl ?_
      refine X_iconst (n := 33) (v := 1) (kX4_fewest 18 rfl) rfl (by decide) ?_
      refine X_isub (n := 34) (kX4_fewest 19 rfl) rfl ?_
      refine X_istore_n (n := 35) (L1 := [(2, .int ((shl32 (1 : Int32) (S5.1 a1 4)) - (1 : Int32))), (0, .ref a0), (1, .ref a1)]) (kX4_fewest 20 rfl) rfl rfl (Nat.le_of_ble_eq_true rfl) rfl ?_
      refine X_iconst (n := 36) (v := 1) (kX4_fewest 21 rfl) rfl (by decide) ?_
      refine X_istore_n (n := 37) (L1 := [(3, .int 1), (2, .int ((shl32 (1 : Int32) (S5.1 a1 4)) - (1 : Int32))), (0, .ref a0), (1, .ref a1)]) (kX4_fewest 22 rfl) rfl rfl (Nat.le_of_ble_eq_true rfl) rfl ?_
      refine X_L [0, 1, 2] rfl (w_X4_fewest_L37 hk0 (fun S9 => ?_) 1000000 (1 : Int32) S5)
      try dsimp only
      refine X_aload_n (n := 54) 1 (kX4_fewest 31 rfl) rfl rfl rfl ?_
      refine X_getR (n := 57) xf_X4 hk0 (by decide) fl_X4_30 rfl (kX4_fewest 32 rfl) rfl ?_
      refine X_iload_n (n := 58) 0 (kX4_fewest 33 rfl) rfl rfl rfl ?_
      refine X_callN1I (n := 61) (As := [.ref (rf a0 8), .int ((shl32 (1 : Int32) (S5.1 a1 4)) - (1 : Int32))]) (st := []) (kX4_fewest 34 rfl) rfl (p_X11_at (kt_4_8 hk0)) (by decide) nl_X4_53 mf_X11_at rfl rfl (Nat.le_of_ble_eq_true rfl) ?_
      exact X_iret rfl (kX4_fewest 35 rfl)
def f_X11_order  (a0 : Nat) (S : XS) : Option (Int32 × XS) := ((f_X4_findOrder (rf a0 14) (rf a0 3) S).bind (fun q => match q with | (r1, S2) => some (r1, S2)))
set_option maxHeartbeats 4000000 in
set_option maxRecDepth 100000 in
theorem w_X11_order {l : Launch} {g : XG}  {a0 : Nat} {S : XS} (hk0 : kd a0 = 11) : Cl φI l g 57 mX11_order [.ref a0] S (f_X11_order a0 S) := by
  refine Cl.of (by decide +kernel) (Nat.le_of_ble_eq_true rfl) ?_
  unfold f_X11_order
  show X _ _ _ _ _ 0 [(0, .ref a0)] [] S _
  refine X_aload_n (n := 1) 0 (kX11_order 0 rfl) rfl rfl rfl ?_
  refine X_getR (n := 4) xf_X11 hk0 (by decide) fl_X11_82 rfl (kX11_order 1 rfl) rfl ?_
  refine X_aload_n (n := 5) 0 (kX11_order 2 rfl) rfl rfl rfl ?_
  refine X_getR (n := 8) xf_X11 hk0 (by decide) fl_X11_35 rfl (kX11_order 3 rfl) rfl ?_
  refine X_callVI (n := 11) (As := [.ref (rf a0 3)]) (st := []) (kX11_order 4 rfl) rfl (w_X4_findOrder (kt_11_14 hk0) (kt_11_3 hk0)) (by decide) ml_X11_239 mf_X4_findOrder rfl (kt_11_14 hk0) xf_X4 rfl (Nat.le_of_ble_eq_true rfl) (fun r1 S2 hq => ?_)
  try dsimp only
  exact X_iret rfl (kX11_order 5 rfl)
def f_X11_noses  (a0 : Nat) (S : XS) : Option (Int32 × XS) := ((f_X4_fewest (rf a0 14) (rf a0 3) S).bind (fun q => match q with | (r1, S2) => some (r1, S2)))
set_option maxHeartbeats 4000000 in
set_option maxRecDepth 100000 in
theorem w_X11_noses {l : Launch} {g : XG}  {a0 : Nat} {S : XS} (hk0 : kd a0 = 11) : Cl φI l g 57 mX11_noses [.ref a0] S (f_X11_noses a0 S) := by
  refine Cl.of (by decide +kernel) (Nat.le_of_ble_eq_true rfl) ?_
  unfold f_X11_noses
  show X _ _ _ _ _ 0 [(0, .ref a0)] [] S _
  refine X_aload_n (n := 1) 0 (kX11_noses 0 rfl) rfl rfl rfl ?_
  refine X_getR (n := 4) xf_X11 hk0 (by decide) fl_X11_82 rfl (kX11_noses 1 rfl) rfl ?_
  refine X_aload_n (n := 5) 0 (kX11_noses 2 rfl) rfl rfl rfl ?_
  refine X_getR (n := 8) xf_X11 hk0 (by decide) fl_X11_35 rfl (kX11_noses 3 rfl) rfl ?_
  refine X_callVI (n := 11) (As := [.ref (rf a0 3)]) (st := []) (kX11_noses 4 rfl) rfl (w_X4_fewest (kt_11_14 hk0) (kt_11_3 hk0)) (by decide) ml_X11_246 mf_X4_fewest rfl (kt_11_14 hk0) xf_X4 rfl (Nat.le_of_ble_eq_true rfl) (fun r1 S2 hq => ?_)
  try dsimp only
  exact X_iret rfl (kX11_noses 5 rfl)
def f_X7_read  (a0 : Nat) (a1 : Nat) (S : XS) : Option (Int32 × XS) := ((f_X8_begin (rf a0 0) (200 : Int32) (sI (t_X6_clear (rf a0 1) S) a0 2 (0 : Int32))).bind (fun S1 => ((f_X7_readCond (rX7_readOne 12) a0 a1 (1 : Int32) S1).bind (fun q => match q with | (r2, S3) => (if r2 = true then (if (S3.1 (rf a0 0) 10) = 0 then some ((S3.1 a0 2), S3) else some ((-1 : Int32), (t_X8_fail (rf a0 0) (1 : Int32) S3).2)) else some ((-1 : Int32), S3))))))
set_option maxHeartbeats 4000000 in
set_option maxRecDepth 100000 in
theorem w_X7_read {l : Launch} {g : XG}  {a0 : Nat} {a1 : Nat} {S : XS} (hk0 : kd a0 = 7) (hk1 : kd a1 = 2) : Cl φI l g 81 mX7_read [.ref a0, .ref a1] S (f_X7_read a0 a1 S) := by
  refine Cl.of (by decide +kernel) (Nat.le_of_ble_eq_true rfl) ?_
  unfold f_X7_read
  show X _ _ _ _ _ 0 [(0, .ref a0), (1, .ref a1)] [] S _
  refine X_aload_n (n := 1) 0 (kX7_read 0 rfl) rfl rfl rfl ?_
  refine X_getR (n := 4) xf_X7 hk0 (by decide) fl_X7_12 rfl (kX7_read 1 rfl) rfl ?_
  refine X_callV1V (n := 7) (As := []) (st := []) (kX7_read 2 rfl) rfl (p_X6_clear (kt_7_1 hk0)) (by decide) ml_X7_22 mf_X6_clear rfl (kt_7_1 hk0) xf_X6 rfl (Nat.le_of_ble_eq_true rfl) ?_
  refine X_aload_n (n := 8) 0 (kX7_read 3 rfl) rfl rfl rfl ?_
  refine X_iconst (n := 9) (v := 0) (kX7_read 4 rfl) rfl (by decide) ?_
  refine X_putI (n := 12) xf_X7 hk0 (by decide) fl_X7_25 rfl rfl (Or.inl rfl) (kX7_read 5 rfl) rfl ?_
  refine X_aload_n (n := 13) 0 (kX7_read 6 rfl) rfl rfl rfl ?_
  refine X_getR (n := 16) xf_X7 hk0 (by decide) fl_X7_18 rfl (kX7_read 7 rfl) rfl ?_
  refine X_sipush (n := 19) (v := 200) (kX7_read 8 rfl) rfl (by decide) ?_
  refine X_callVV (n := 22) (As := [.int (200 : Int32)]) (st := []) (kX7_read 9 rfl) rfl (w_X8_begin (kt_7_0 hk0)) (by decide) ml_X7_29 mf_X8_begin rfl (kt_7_0 hk0) xf_X8 rfl (Nat.le_of_ble_eq_true rfl) (fun S1 hq => ?_)
  try dsimp only
  refine X_aload_n (n := 23) 0 (kX7_read 10 rfl) rfl rfl rfl ?_
  refine X_aload_n (n := 24) 1 (kX7_read 11 rfl) rfl rfl rfl ?_
  refine X_iconst (n := 25) (v := 1) (kX7_read 12 rfl) rfl (by decide) ?_
  refine X_callVB (n := 28) (As := [.ref a1, .int (1 : Int32)]) (st := []) (kX7_read 13 rfl) rfl (w_X7_readCond (d := 78) (by omega) (wr_X7_readOne 12) hk0 hk1) (by decide) ml_X7_35 mf_X7_readCond rfl hk0 xf_X7 rfl (Nat.le_of_ble_eq_true rfl) (fun r2 S3 hq => ?_)
  try dsimp only
  refine X_bn (n := 31) (tgt := 33) (kX7_read 14 rfl) rfl rfl (fun h4 => ?_) (fun h4 => ?_)
  · refine X_aload_n (n := 34) 0 (kX7_read 17 rfl) rfl rfl rfl ?_
    refine X_getR (n := 37) xf_X7 hk0 (by decide) fl_X7_18 rfl (kX7_read 18 rfl) rfl ?_
    refine X_getI (n := 40) xf_X8 (kt_7_0 hk0) (by decide) fl_X7_39 rfl (kX7_read 19 rfl) rfl ?_
    refine X_if_eq (n := 43) (tgt := 54) (kX7_read 20 rfl) rfl rfl (fun h5 => ?_) (fun h5 => ?_)
    · refine X_aload_n (n := 55) 0 (kX7_read 28 rfl) rfl rfl rfl ?_
      refine X_getI (n := 58) xf_X7 hk0 (by decide) fl_X7_25 rfl (kX7_read 29 rfl) rfl ?_
      exact X_iret rfl (kX7_read 30 rfl)
    · refine X_aload_n (n := 44) 0 (kX7_read 21 rfl) rfl rfl rfl ?_
      refine X_getR (n := 47) xf_X7 hk0 (by decide) fl_X7_18 rfl (kX7_read 22 rfl) rfl ?_
      refine X_iconst (n := 48) (v := 1) (kX7_read 23 rfl) rfl (by decide) ?_
      refine X_callV1B (n := 51) (As := [.int (1 : Int32)]) (st := []) (kX7_read 24 rfl) rfl (p_X8_fail (kt_7_0 hk0)) (by decide) ml_X7_42 mf_X8_fail rfl (kt_7_0 hk0) xf_X8 rfl (Nat.le_of_ble_eq_true rfl) ?_
      refine X_pop (n := 52) (kX7_read 25 rfl) rfl rfl ?_
      refine X_iconst (n := 53) (v := (-1)) (kX7_read 26 rfl) rfl (by decide) ?_
      exact X_iret rfl (kX7_read 27 rfl)
  · refine X_iconst (n := 32) (v := (-1)) (kX7_read 15 rfl) rfl (by decide) ?_
    exact X_iret rfl (kX7_read 16 rfl)
def f_X9_search_L26  (a0 : Nat) (a1 : Nat) (a2 : Nat) (i3 : Int32) : Nat → Int32 → XS → Option (XS)
  | 0, _, _ => none
  | n + 1, i5, S => (if (6 : Int32) ≤ i5 then some S else ((if (S.1 a2 1) ≤ i5 then some (0 : Int32) else some (gat S (rf a2 0) i5)).bind (fun x2 => f_X9_search_L26 a0 a1 a2 i3 n (i5 + 1) (pat S (rf a0 6) i5 x2))))
def f_X9_search  (a0 : Nat) (a1 : Nat) (a2 : Nat) (i3 : Int32) (i4 : Int32) (S : XS) : Option (Int32 × XS) := ((f_X9_search_L26 a0 a1 a2 i3 1000000 (0 : Int32) (sI (sI (sI S a0 0 i4) a0 1 (gat (sI S a0 0 i4) (rf a1 0) (1 : Int32))) a0 5 (0 : Int32))).bind (fun S4 => ((f_X9_findMostAir a0 a1 S4).bind (fun S5 => ((rX9_tryHour 12 a0 a1 i3 (1 : Int32) (filI S5 (rf a0 2) (0 : Int32))).bind (fun S6 => some ((S6.1 a0 5), S6)))))))
set_option maxHeartbeats 4000000 in
set_option maxRecDepth 100000 in
theorem w_X9_search_L26 {l : Launch} {g : XG} {G : (XS) → Option (Int32 × XS)}  {a0 : Nat} {a1 : Nat} {a2 : Nat} {i3 : Int32} (hk0 : kd a0 = 9) (hk1 : kd a1 = 2) (hk2 : kd a2 = 8) (kE : ∀ (S1 : XS), X φI l g 55 mX9_search 70 [(0, .ref a0), (1, .ref a1), (3, .int i3)] [] S1 (G S1)) : ∀ (n : Nat) (i5 : Int32) (S : XS), X φI l g 55 mX9_search 26 [(5, .int i5), (0, .ref a0), (1, .ref a1), (2, .ref a2), (3, .int i3)] [] S ((f_X9_search_L26 a0 a1 a2 i3 n i5 S).bind G) := by
  intro n
  induction n with
  | zero => intro i5 S; exact X_none
  | succ n ih =>
  · intro i5 S
    rw [f_X9_search_L26]
    refine X_iload (n := 28) 0 (kX9_search 14 rfl) rfl rfl ?_
    refine X_bipush (n := 30) (v := 6) (kX9_search 15 rfl) rfl (by decide) ?_
    refine X_itebind ?_
    refine X_ic_ge (n := 33) (tgt := 70) (kX9_search 16 rfl) rfl rfl (fun h1 => ?_) (fun h1 => ?_)
    · exact X_L [1, 2, 4] rfl (kE S)
    · refine X_aload_n (n := 34) 1 (kX9_search 17 rfl) rfl rfl rfl ?_
      refine X_getR (n := 37) xf_X9 hk0 (by decide) fl_X9_18 rfl (kX9_search 18 rfl) rfl ?_
      refine X_iload (n := 39) 0 (kX9_search 19 rfl) rfl rfl ?_
      refine X_iload (n := 41) 0 (kX9_search 20 rfl) rfl rfl ?_
      refine X_aload_n (n := 42) 3 (kX9_search 21 rfl) rfl rfl rfl ?_
      refine X_getI (n := 45) xf_X8 hk2 (by decide) fl_X9_49 rfl (kX9_search 22 rfl) rfl ?_
      refine X_assoc ?_
      refine X_join 61 (fun x2 => [(5, .int i5), (0, .ref a0), (1, .ref a1), (2, .ref a2), (3, .int i3)]) (fun x2 => [.int x2, .int i5, .ref (rf a0 6)]) (fun x2 => S) (fun x2 => ?_) (fun kJ => ?_)
      · try dsimp only
        refine X_callN1V (n := 64) (As := [.ref (rf a0 6), .int i5, .int x2]) (st := []) (kX9_search 30 rfl) rfl (p_X11_put (kt_9_6 hk0)) (by decide) nl_X9_57 mf_X11_put rfl rfl (Nat.le_of_ble_eq_true rfl) ?_
        refine X_iinc (n := 67) 0 (v := (i5 + 1)) (L1 := [(5, .int (i5 + 1)), (0, .ref a0), (1, .ref a1), (2, .ref a2), (3, .int i3)]) (kX9_search 31 rfl) rfl rfl rfl (Nat.le_of_ble_eq_true rfl) rfl ?_
        refine X_goto (tgt := 26) (kX9_search 32 rfl) rfl ?_
        exact X_L [0, 1, 2, 3, 4] rfl (ih (i5 + 1) (pat S (rf a0 6) i5 x2))
      · refine X_itebind ?_
        refine X_ic_ge (n := 48) (tgt := 60) (kX9_search 23 rfl) rfl rfl (fun h3 => ?_) (fun h3 => ?_)
        · refine X_iconst (n := 61) (v := 0) (kX9_search 29 rfl) rfl (by decide) ?_
          exact X_L [0, 1, 2, 3, 4] rfl (kJ (0 : Int32))
        · refine X_aload_n (n := 49) 3 (kX9_search 24 rfl) rfl rfl rfl ?_
          refine X_getR (n := 52) xf_X8 hk2 (by decide) fl_X9_54 rfl (kX9_search 25 rfl) rfl ?_
          refine X_iload (n := 54) 0 (kX9_search 26 rfl) rfl rfl ?_
          refine X_callN1I (n := 57) (As := [.ref (rf a2 0), .int i5]) (st := [.int i5, .ref (rf a0 6)]) (kX9_search 27 rfl) rfl (p_X11_at (kt_8_0 hk2)) (by decide) nl_X9_39 mf_X11_at rfl rfl (Nat.le_of_ble_eq_true rfl) ?_
          refine X_goto (tgt := 61) (kX9_search 28 rfl) rfl ?_
          exact X_L [0, 1, 2, 3, 4] rfl (kJ (gat S (rf a2 0) i5))
set_option maxHeartbeats 4000000 in
set_option maxRecDepth 100000 in
theorem w_X9_search {l : Launch} {g : XG}  {a0 : Nat} {a1 : Nat} {a2 : Nat} {i3 : Int32} {i4 : Int32} {S : XS} (hk0 : kd a0 = 9) (hk1 : kd a1 = 2) (hk2 : kd a2 = 8) : Cl φI l g 55 mX9_search [.ref a0, .ref a1, .ref a2, .int i3, .int i4] S (f_X9_search a0 a1 a2 i3 i4 S) := by
  refine Cl.of (by decide +kernel) (Nat.le_of_ble_eq_true rfl) ?_
  unfold f_X9_search
  show X _ _ _ _ _ 0 [(0, .ref a0), (1, .ref a1), (2, .ref a2), (3, .int i3), (4, .int i4)] [] S _
  refine X_aload_n (n := 1) 0 (kX9_search 0 rfl) rfl rfl rfl ?_
  refine X_iload (n := 3) 4 (kX9_search 1 rfl) rfl rfl ?_
  refine X_putI (n := 6) xf_X9 hk0 (by decide) fl_X9_30 rfl rfl (Or.inl rfl) (kX9_search 2 rfl) rfl ?_
  refine X_aload_n (n := 7) 0 (kX9_search 3 rfl) rfl rfl rfl ?_
  refine X_aload_n (n := 8) 1 (kX9_search 4 rfl) rfl rfl rfl ?_
  refine X_getR (n := 11) xf_X2 hk1 (by decide) fl_X9_34 rfl (kX9_search 5 rfl) rfl ?_
  refine X_iconst (n := 12) (v := 1) (kX9_search 6 rfl) rfl (by decide) ?_
  refine X_callN1I (n := 15) (As := [.ref (rf a1 0), .int (1 : Int32)]) (st := [.ref a0]) (kX9_search 7 rfl) rfl (p_X11_at (kt_2_0 hk1)) (by decide) nl_X9_39 mf_X11_at rfl rfl (Nat.le_of_ble_eq_true rfl) ?_
  refine X_putI (n := 18) xf_X9 hk0 (by decide) fl_X9_43 rfl rfl (Or.inl rfl) (kX9_search 8 rfl) rfl ?_
  refine X_aload_n (n := 19) 0 (kX9_search 9 rfl) rfl rfl rfl ?_
  refine X_iconst (n := 20) (v := 0) (kX9_search 10 rfl) rfl (by decide) ?_
  refine X_putI (n := 23) xf_X9 hk0 (by decide) fl_X9_46 rfl rfl (Or.inl rfl) (kX9_search 11 rfl) rfl ?_
  refine X_iconst (n := 24) (v := 0) (kX9_search 12 rfl) rfl (by decide) ?_
  refine X_istore (n := 26) (L1 := [(5, .int 0), (0, .ref a0), (1, .ref a1), (2, .ref a2), (3, .int i3), (4, .int i4)]) (kX9_search 13 rfl) rfl (Nat.le_of_ble_eq_true rfl) rfl ?_
  refine X_L [0, 1, 2, 3, 4] rfl (w_X9_search_L26 hk0 hk1 hk2 (fun S4 => ?_) 1000000 (0 : Int32) (sI (sI (sI S a0 0 i4) a0 1 (gat (sI S a0 0 i4) (rf a1 0) (1 : Int32))) a0 5 (0 : Int32)))
  try dsimp only
  refine X_aload_n (n := 71) 0 (kX9_search 33 rfl) rfl rfl rfl ?_
  refine X_aload_n (n := 72) 1 (kX9_search 34 rfl) rfl rfl rfl ?_
  refine X_callVV (n := 75) (As := [.ref a1]) (st := []) (kX9_search 35 rfl) rfl (w_X9_findMostAir hk0 hk1) (by decide) ml_X9_61 mf_X9_findMostAir rfl hk0 xf_X9 rfl (Nat.le_of_ble_eq_true rfl) (fun S5 hq => ?_)
  try dsimp only
  refine X_aload_n (n := 76) 0 (kX9_search 36 rfl) rfl rfl rfl ?_
  refine X_getR (n := 79) xf_X9 hk0 (by decide) fl_X9_9 rfl (kX9_search 37 rfl) rfl ?_
  refine X_iconst (n := 80) (v := 0) (kX9_search 38 rfl) rfl (by decide) ?_
  refine X_callS1V (n := 83) (As := [.ref (rf a0 2), .int (0 : Int32)]) (st := []) (kX9_search 39 rfl) rfl (p_J7_fill_53178 (kt_9_2 hk0)) (by decide) ml_X9_65 mf_J7_fill_53178 rfl rfl (Nat.le_of_ble_eq_true rfl) ?_
  refine X_aload_n (n := 84) 0 (kX9_search 40 rfl) rfl rfl rfl ?_
  refine X_aload_n (n := 85) 1 (kX9_search 41 rfl) rfl rfl rfl ?_
  refine X_iload_n (n := 86) 2 (kX9_search 42 rfl) rfl rfl rfl ?_
  refine X_iconst (n := 87) (v := 1) (kX9_search 43 rfl) rfl (by decide) ?_
  refine X_callVV (n := 90) (As := [.ref a1, .int i3, .int (1 : Int32)]) (st := []) (kX9_search 44 rfl) rfl (wr_X9_tryHour 12 a0 a1 i3 (1 : Int32) (filI S5 (rf a0 2) (0 : Int32)) hk0 hk1) (by decide) ml_X9_71 mf_X9_tryHour rfl hk0 xf_X9 rfl (Nat.le_of_ble_eq_true rfl) (fun S6 hq => ?_)
  try dsimp only
  refine X_aload_n (n := 91) 0 (kX9_search 45 rfl) rfl rfl rfl ?_
  refine X_getI (n := 94) xf_X9 hk0 (by decide) fl_X9_46 rfl (kX9_search 46 rfl) rfl ?_
  exact X_iret rfl (kX9_search 47 rfl)
def f_X11_was  (a0 : Nat) (i1 : Int32) (i2 : Int32) (S : XS) : Option (Int32 × XS) := ((if (t_X2_has (rf a0 1) (2 : Int32) i1 S) = true then (if i2 < (1 : Int32) then some ((-1 : Int32), S) else (if (6 : Int32) < i2 then some ((-1 : Int32), S) else (if (S.1 (rf a0 0) 1) = (gat S (rf (rf a0 1) 0) (0 : Int32)) then ((f_X9_search (rf a0 15) (rf a0 1) (rf a0 0) i1 i2 S).bind (fun q => match q with | (r7, S8) => some (r7, S8))) else some ((-1 : Int32), S)))) else some ((-1 : Int32), S)).bind (fun q => match q with | (x1, S2) => some (x1, (sI S2 (rf a0 0) 1 (0 : Int32)))))
set_option maxHeartbeats 4000000 in
set_option maxRecDepth 100000 in
theorem w_X11_was {l : Launch} {g : XG}  {a0 : Nat} {i1 : Int32} {i2 : Int32} {S : XS} (hk0 : kd a0 = 11) : Cl φI l g 56 mX11_was [.ref a0, .int i1, .int i2] S (f_X11_was a0 i1 i2 S) := by
  refine Cl.of (by decide +kernel) (Nat.le_of_ble_eq_true rfl) ?_
  unfold f_X11_was
  show X _ _ _ _ _ 0 [(0, .ref a0), (1, .int i1), (2, .int i2)] [] S _
  refine X_iconst (n := 1) (v := (-1)) (kX11_was 0 rfl) rfl (by decide) ?_
  refine X_istore_n (n := 2) (L1 := [(3, .int (-1)), (0, .ref a0), (1, .int i1), (2, .int i2)]) (kX11_was 1 rfl) rfl rfl (Nat.le_of_ble_eq_true rfl) rfl ?_
  refine X_aload_n (n := 3) 1 (kX11_was 2 rfl) rfl rfl rfl ?_
  refine X_getR (n := 6) xf_X11 hk0 (by decide) fl_X11_19 rfl (kX11_was 3 rfl) rfl ?_
  refine X_iconst (n := 7) (v := 2) (kX11_was 4 rfl) rfl (by decide) ?_
  refine X_iload_n (n := 8) 2 (kX11_was 5 rfl) rfl rfl rfl ?_
  refine X_callV1B (n := 11) (As := [.int (2 : Int32), .int i1]) (st := []) (kX11_was 6 rfl) rfl (p_X2_has (kt_11_1 hk0)) (by decide) ml_X11_144 mf_X2_has rfl (kt_11_1 hk0) xf_X2 rfl (Nat.le_of_ble_eq_true rfl) ?_
  refine X_join 64 (fun q => match q with | (x1, S2) => [(0, .ref a0), (3, .int x1)]) (fun q => match q with | (x1, S2) => []) (fun q => match q with | (x1, S2) => S2) (fun q => ?_) (fun kJ => ?_)
  · obtain ⟨x1, S2⟩ := q
    dsimp only
    refine X_aload_n (n := 65) 0 (kX11_was 33 rfl) rfl rfl rfl ?_
    refine X_getR (n := 68) xf_X11 hk0 (by decide) fl_X11_12 rfl (kX11_was 34 rfl) rfl ?_
    refine X_iconst (n := 69) (v := 0) (kX11_was 35 rfl) rfl (by decide) ?_
    refine X_putI (n := 72) xf_X8 (kt_11_0 hk0) (by decide) fl_X11_110 rfl rfl (Or.inl rfl) (kX11_was 36 rfl) rfl ?_
    refine X_iload_n (n := 73) 1 (kX11_was 37 rfl) rfl rfl rfl ?_
    exact X_iret rfl (kX11_was 38 rfl)
  · refine X_itebind ?_
    refine X_bz (n := 14) (tgt := 64) (kX11_was 7 rfl) rfl rfl (fun h3 => ?_) (fun h3 => ?_)
    · refine X_iload_n (n := 15) 3 (kX11_was 8 rfl) rfl rfl rfl ?_
      refine X_iconst (n := 16) (v := 1) (kX11_was 9 rfl) rfl (by decide) ?_
      refine X_itebind ?_
      refine X_ic_lt (n := 19) (tgt := 64) (kX11_was 10 rfl) rfl rfl (fun h4 => ?_) (fun h4 => ?_)
      · exact X_L [1, 0] rfl (kJ ((-1 : Int32), S))
      · refine X_iload_n (n := 20) 3 (kX11_was 11 rfl) rfl rfl rfl ?_
        refine X_bipush (n := 22) (v := 6) (kX11_was 12 rfl) rfl (by decide) ?_
        refine X_itebind ?_
        refine X_ic_gt (n := 25) (tgt := 64) (kX11_was 13 rfl) rfl rfl (fun h5 => ?_) (fun h5 => ?_)
        · exact X_L [1, 0] rfl (kJ ((-1 : Int32), S))
        · refine X_aload_n (n := 26) 1 (kX11_was 14 rfl) rfl rfl rfl ?_
          refine X_getR (n := 29) xf_X11 hk0 (by decide) fl_X11_12 rfl (kX11_was 15 rfl) rfl ?_
          refine X_getI (n := 32) xf_X8 (kt_11_0 hk0) (by decide) fl_X11_110 rfl (kX11_was 16 rfl) rfl ?_
          refine X_aload_n (n := 33) 1 (kX11_was 17 rfl) rfl rfl rfl ?_
          refine X_getR (n := 36) xf_X11 hk0 (by decide) fl_X11_19 rfl (kX11_was 18 rfl) rfl ?_
          refine X_getR (n := 39) xf_X2 (kt_11_1 hk0) (by decide) fl_X11_260 rfl (kX11_was 19 rfl) rfl ?_
          refine X_iconst (n := 40) (v := 0) (kX11_was 20 rfl) rfl (by decide) ?_
          refine X_callS1I (n := 43) (As := [.ref (rf (rf a0 1) 0), .int (0 : Int32)]) (st := [.int (S.1 (rf a0 0) 1)]) (kX11_was 21 rfl) rfl (p_X11_at (kt_2_0 (kt_11_1 hk0))) (by decide) ml_X11_154 mf_X11_at rfl rfl (Nat.le_of_ble_eq_true rfl) ?_
          refine X_itebind ?_
          refine X_ic_ne (n := 46) (tgt := 64) (kX11_was 22 rfl) rfl rfl (fun h6 => ?_) (fun h6 => ?_)
          · refine X_aload_n (n := 47) 1 (kX11_was 23 rfl) rfl rfl rfl ?_
            refine X_getR (n := 50) xf_X11 hk0 (by decide) fl_X11_89 rfl (kX11_was 24 rfl) rfl ?_
            refine X_aload_n (n := 51) 1 (kX11_was 25 rfl) rfl rfl rfl ?_
            refine X_getR (n := 54) xf_X11 hk0 (by decide) fl_X11_19 rfl (kX11_was 26 rfl) rfl ?_
            refine X_aload_n (n := 55) 1 (kX11_was 27 rfl) rfl rfl rfl ?_
            refine X_getR (n := 58) xf_X11 hk0 (by decide) fl_X11_12 rfl (kX11_was 28 rfl) rfl ?_
            refine X_iload_n (n := 59) 2 (kX11_was 29 rfl) rfl rfl rfl ?_
            refine X_iload_n (n := 60) 3 (kX11_was 30 rfl) rfl rfl rfl ?_
            refine X_assoc ?_
            refine X_callVI (n := 63) (As := [.ref (rf a0 1), .ref (rf a0 0), .int i1, .int i2]) (st := []) (kX11_was 31 rfl) rfl (w_X9_search (kt_11_15 hk0) (kt_11_1 hk0) (kt_11_0 hk0)) (by decide) ml_X11_263 mf_X9_search rfl (kt_11_15 hk0) xf_X9 rfl (Nat.le_of_ble_eq_true rfl) (fun r7 S8 hq => ?_)
            try dsimp only
            refine X_istore_n (n := 64) (L1 := [(3, .int r7), (0, .ref a0), (1, .int i1), (2, .int i2)]) (kX11_was 32 rfl) rfl rfl (Nat.le_of_ble_eq_true rfl) rfl ?_
            exact X_L [1, 0] rfl (kJ (r7, S8))
          · exact X_L [1, 0] rfl (kJ ((-1 : Int32), S))
    · exact X_L [1, 0] rfl (kJ ((-1 : Int32), S))
def f_X11_sentence  (a0 : Nat) (S : XS) : Option (Int32 × XS) := ((f_X7_read (rf a0 5) (rf a0 1) S).bind (fun q => match q with | (r1, S2) => (if ((sI S2 (rf a0 0) 1 (0 : Int32)).1 (rf a0 0) 2) = 0 then some (r1, (t_X6_copyFrom (rf a0 4) (rf (rf a0 5) 1) (sI S2 (rf a0 0) 1 (0 : Int32)))) else some (((-1 : Int32) - ((sI S2 (rf a0 0) 1 (0 : Int32)).1 (rf a0 0) 3)), (sI S2 (rf a0 0) 1 (0 : Int32))))))
set_option maxHeartbeats 4000000 in
set_option maxRecDepth 100000 in
theorem w_X11_sentence {l : Launch} {g : XG}  {a0 : Nat} {S : XS} (hk0 : kd a0 = 11) : Cl φI l g 82 mX11_sentence [.ref a0] S (f_X11_sentence a0 S) := by
  refine Cl.of (by decide +kernel) (Nat.le_of_ble_eq_true rfl) ?_
  unfold f_X11_sentence
  show X _ _ _ _ _ 0 [(0, .ref a0)] [] S _
  refine X_aload_n (n := 1) 0 (kX11_sentence 0 rfl) rfl rfl rfl ?_
  refine X_getR (n := 4) xf_X11 hk0 (by decide) fl_X11_49 rfl (kX11_sentence 1 rfl) rfl ?_
  refine X_aload_n (n := 5) 0 (kX11_sentence 2 rfl) rfl rfl rfl ?_
  refine X_getR (n := 8) xf_X11 hk0 (by decide) fl_X11_19 rfl (kX11_sentence 3 rfl) rfl ?_
  refine X_callVI (n := 11) (As := [.ref (rf a0 1)]) (st := []) (kX11_sentence 4 rfl) rfl (w_X7_read (kt_11_5 hk0) (kt_11_1 hk0)) (by decide) ml_X11_353 mf_X7_read rfl (kt_11_5 hk0) xf_X7 rfl (Nat.le_of_ble_eq_true rfl) (fun r1 S2 hq => ?_)
  try dsimp only
  refine X_istore_n (n := 12) (L1 := [(1, .int r1), (0, .ref a0)]) (kX11_sentence 5 rfl) rfl rfl (Nat.le_of_ble_eq_true rfl) rfl ?_
  refine X_aload_n (n := 13) 1 (kX11_sentence 6 rfl) rfl rfl rfl ?_
  refine X_getR (n := 16) xf_X11 hk0 (by decide) fl_X11_12 rfl (kX11_sentence 7 rfl) rfl ?_
  refine X_iconst (n := 17) (v := 0) (kX11_sentence 8 rfl) rfl (by decide) ?_
  refine X_putI (n := 20) xf_X8 (kt_11_0 hk0) (by decide) fl_X11_110 rfl rfl (Or.inl rfl) (kX11_sentence 9 rfl) rfl ?_
  refine X_aload_n (n := 21) 1 (kX11_sentence 10 rfl) rfl rfl rfl ?_
  refine X_getR (n := 24) xf_X11 hk0 (by decide) fl_X11_12 rfl (kX11_sentence 11 rfl) rfl ?_
  refine X_getI (n := 27) xf_X8 (kt_11_0 hk0) (by decide) fl_X11_122 rfl (kX11_sentence 12 rfl) rfl ?_
  refine X_if_eq (n := 30) (tgt := 40) (kX11_sentence 13 rfl) rfl rfl (fun h3 => ?_) (fun h3 => ?_)
  · refine X_aload_n (n := 41) 1 (kX11_sentence 20 rfl) rfl rfl rfl ?_
    refine X_getR (n := 44) xf_X11 hk0 (by decide) fl_X11_42 rfl (kX11_sentence 21 rfl) rfl ?_
    refine X_aload_n (n := 45) 1 (kX11_sentence 22 rfl) rfl rfl rfl ?_
    refine X_getR (n := 48) xf_X11 hk0 (by decide) fl_X11_49 rfl (kX11_sentence 23 rfl) rfl ?_
    refine X_getR (n := 51) xf_X7 (kt_11_5 hk0) (by decide) fl_X11_356 rfl (kX11_sentence 24 rfl) rfl ?_
    refine X_callV1V (n := 54) (As := [.ref (rf (rf a0 5) 1)]) (st := []) (kX11_sentence 25 rfl) rfl (p_X6_copyFrom (kt_11_4 hk0) (kt_7_1 (kt_11_5 hk0))) (by decide) ml_X11_358 mf_X6_copyFrom rfl (kt_11_4 hk0) xf_X6 rfl (Nat.le_of_ble_eq_true rfl) ?_
    refine X_iload_n (n := 55) 0 (kX11_sentence 26 rfl) rfl rfl rfl ?_
    exact X_iret rfl (kX11_sentence 27 rfl)
  · refine X_iconst (n := 31) (v := (-1)) (kX11_sentence 14 rfl) rfl (by decide) ?_
    refine X_aload_n (n := 32) 1 (kX11_sentence 15 rfl) rfl rfl rfl ?_
    refine X_getR (n := 35) xf_X11 hk0 (by decide) fl_X11_12 rfl (kX11_sentence 16 rfl) rfl ?_
    refine X_getI (n := 38) xf_X8 (kt_11_0 hk0) (by decide) fl_X11_125 rfl (kX11_sentence 17 rfl) rfl ?_
    refine X_isub (n := 39) (kX11_sentence 18 rfl) rfl ?_
    exact X_iret rfl (kX11_sentence 19 rfl)
