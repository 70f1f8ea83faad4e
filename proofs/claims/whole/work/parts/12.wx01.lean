def f_X6_most  (a0 : Nat) (i1 : Int32) (S : XS) : Option (Int32 × XS) := ((f_X11_strongest (rf a0 3) i1 S).bind (fun q => match q with | (r1, S2) => (if r1 = (-1 : Int32) then some ((0 : Int32), S2) else some ((gat S2 (rf a0 3) ((i1 * (6 : Int32)) + r1)), S2))))
set_option maxHeartbeats 4000000 in
set_option maxRecDepth 100000 in
theorem w_X6_most {l : Launch} {g : XG}  {a0 : Nat} {i1 : Int32} {S : XS} (hk0 : kd a0 = 10) : Cl φI l g 3 mX6_most [.ref a0, .int i1] S (f_X6_most a0 i1 S) := by
  refine Cl.of (by decide +kernel) (Nat.le_of_ble_eq_true rfl) ?_
  unfold f_X6_most
  show X _ _ _ _ _ 0 [(0, .ref a0), (1, .int i1)] [] S _
  refine X_aload_n (n := 1) 0 (kX6_most 0 rfl) rfl rfl rfl ?_
  refine X_getR (n := 4) xf_X10 hk0 (by decide) fl_X6_54 rfl (kX6_most 1 rfl) rfl ?_
  refine X_iload_n (n := 5) 1 (kX6_most 2 rfl) rfl rfl rfl ?_
  refine X_callNI (n := 8) (As := [.ref (rf a0 3), .int i1]) (st := []) (kX6_most 3 rfl) rfl (w_X11_strongest (kt_10_3 hk0)) (by decide) nl_X6_76 mf_X11_strongest rfl rfl (Nat.le_of_ble_eq_true rfl) (fun r1 S2 hq => ?_)
  try dsimp only
  refine X_istore_n (n := 9) (L1 := [(2, .int r1), (0, .ref a0), (1, .int i1)]) (kX6_most 4 rfl) rfl rfl (Nat.le_of_ble_eq_true rfl) rfl ?_
  refine X_iload_n (n := 10) 0 (kX6_most 5 rfl) rfl rfl rfl ?_
  refine X_iconst (n := 11) (v := (-1)) (kX6_most 6 rfl) rfl (by decide) ?_
  refine X_ic_ne (n := 14) (tgt := 18) (kX6_most 7 rfl) rfl rfl (fun h3 => ?_) (fun h3 => ?_)
  · refine X_iconst (n := 15) (v := 0) (kX6_most 8 rfl) rfl (by decide) ?_
    refine X_goto (tgt := 31) (kX6_most 9 rfl) rfl ?_
    exact X_iret rfl (kX6_most 18 rfl)
  · refine X_aload_n (n := 19) 1 (kX6_most 10 rfl) rfl rfl rfl ?_
    refine X_getR (n := 22) xf_X10 hk0 (by decide) fl_X6_54 rfl (kX6_most 11 rfl) rfl ?_
    refine X_iload_n (n := 23) 2 (kX6_most 12 rfl) rfl rfl rfl ?_
    refine X_bipush (n := 25) (v := 6) (kX6_most 13 rfl) rfl (by decide) ?_
    refine X_imul (n := 26) (kX6_most 14 rfl) rfl ?_
    refine X_iload_n (n := 27) 0 (kX6_most 15 rfl) rfl rfl rfl ?_
    refine X_iadd (n := 28) (kX6_most 16 rfl) rfl ?_
    refine X_callN1I (n := 31) (As := [.ref (rf a0 3), .int ((i1 * (6 : Int32)) + r1)]) (st := []) (kX6_most 17 rfl) rfl (p_X11_at (kt_10_3 hk0)) (by decide) nl_X6_39 mf_X11_at rfl rfl (Nat.le_of_ble_eq_true rfl) ?_
    exact X_iret rfl (kX6_most 18 rfl)
def f_X7_added  (a0 : Nat) (i1 : Int32) (i2 : Int32) (i3 : Int32) (S : XS) : Option (Bool × XS) := some (true, (t_X6_add (rf a0 1) i1 i2 i3 S))
set_option maxHeartbeats 4000000 in
set_option maxRecDepth 100000 in
theorem w_X7_added {l : Launch} {g : XG}  {a0 : Nat} {i1 : Int32} {i2 : Int32} {i3 : Int32} {S : XS} (hk0 : kd a0 = 7) : Cl φB l g 3 mX7_added [.ref a0, .int i1, .int i2, .int i3] S (f_X7_added a0 i1 i2 i3 S) := by
  refine Cl.of (by decide +kernel) (Nat.le_of_ble_eq_true rfl) ?_
  unfold f_X7_added
  show X _ _ _ _ _ 0 [(0, .ref a0), (1, .int i1), (2, .int i2), (3, .int i3)] [] S _
  refine X_aload_n (n := 1) 0 (kX7_added 0 rfl) rfl rfl rfl ?_
  refine X_getR (n := 4) xf_X7 hk0 (by decide) fl_X7_12 rfl (kX7_added 1 rfl) rfl ?_
  refine X_iload_n (n := 5) 1 (kX7_added 2 rfl) rfl rfl rfl ?_
  refine X_iload_n (n := 6) 2 (kX7_added 3 rfl) rfl rfl rfl ?_
  refine X_iload_n (n := 7) 3 (kX7_added 4 rfl) rfl rfl rfl ?_
  refine X_callV1V (n := 10) (As := [.int i1, .int i2, .int i3]) (st := []) (kX7_added 5 rfl) rfl (p_X6_add (kt_7_1 hk0)) (by decide) ml_X7_52 mf_X6_add rfl (kt_7_1 hk0) xf_X6 rfl (Nat.le_of_ble_eq_true rfl) ?_
  refine X_iconst (n := 11) (v := 1) (kX7_added 6 rfl) rfl (by decide) ?_
  exact X_zret (b := true) rfl (kX7_added 7 rfl)
def t_X7_added (a0 : Nat) (i1 : Int32) (i2 : Int32) (i3 : Int32) (S : XS) : Bool × XS := (true, (t_X6_add (rf a0 1) i1 i2 i3 S))
theorem ft_X7_added (a0 : Nat) (i1 : Int32) (i2 : Int32) (i3 : Int32) (S : XS) : f_X7_added a0 i1 i2 i3 S = some (t_X7_added a0 i1 i2 i3 S) := by
  unfold f_X7_added t_X7_added
  first | rfl | simp only [ite_u]
theorem p_X7_added {l : Launch} {g : XG} {a0 : Nat} {i1 : Int32} {i2 : Int32} {i3 : Int32} {S : XS} (hk0 : kd a0 = 7) : Cl φB l g 3 mX7_added [.ref a0, .int i1, .int i2, .int i3] S (some (t_X7_added a0 i1 i2 i3 S)) := ft_X7_added a0 i1 i2 i3 S ▸ w_X7_added hk0
def f_X10_wash_L11  (i2 : Int32) (a0 : Nat) (i1 : Int32) : Nat → Int32 → XS → Option (XS)
  | 0, _, _ => none
  | n + 1, i3, S => (if (6 : Int32) ≤ i3 then some S else f_X10_wash_L11 i2 a0 i1 n (i3 + 1) (pat S (rf a0 3) ((i1 * (6 : Int32)) + i3) (0 : Int32)))
def f_X10_wash  (a0 : Nat) (i1 : Int32) (S : XS) : Option (Int32 × XS) := ((f_X11_total (rf a0 3) i1 S).bind (fun q => match q with | (r1, S2) => ((f_X10_wash_L11 r1 a0 i1 1000000 (0 : Int32) S2).bind (fun S4 => some (r1, S4)))))
set_option maxHeartbeats 4000000 in
set_option maxRecDepth 100000 in
theorem w_X10_wash_L11 {l : Launch} {g : XG} {G : (XS) → Option (Int32 × XS)}  {i2 : Int32} {a0 : Nat} {i1 : Int32} (hk0 : kd a0 = 10) (kE : ∀ (S1 : XS), X φI l g 3 mX10_wash 37 [(2, .int i2)] [] S1 (G S1)) : ∀ (n : Nat) (i3 : Int32) (S : XS), X φI l g 3 mX10_wash 11 [(3, .int i3), (2, .int i2), (0, .ref a0), (1, .int i1)] [] S ((f_X10_wash_L11 i2 a0 i1 n i3 S).bind G) := by
  intro n
  induction n with
  | zero => intro i3 S; exact X_none
  | succ n ih =>
  · intro i3 S
    rw [f_X10_wash_L11]
    refine X_iload_n (n := 12) 0 (kX10_wash 7 rfl) rfl rfl rfl ?_
    refine X_bipush (n := 14) (v := 6) (kX10_wash 8 rfl) rfl (by decide) ?_
    refine X_itebind ?_
    refine X_ic_ge (n := 17) (tgt := 37) (kX10_wash 9 rfl) rfl rfl (fun h3 => ?_) (fun h3 => ?_)
    · exact X_L [1] rfl (kE S)
    · refine X_aload_n (n := 18) 2 (kX10_wash 10 rfl) rfl rfl rfl ?_
      refine X_getR (n := 21) xf_X10 hk0 (by decide) fl_X10_18 rfl (kX10_wash 11 rfl) rfl ?_
      refine X_iload_n (n := 22) 3 (kX10_wash 12 rfl) rfl rfl rfl ?_
      refine X_bipush (n := 24) (v := 6) (kX10_wash 13 rfl) rfl (by decide) ?_
      refine X_imul (n := 25) (kX10_wash 14 rfl) rfl ?_
      refine X_iload_n (n := 26) 0 (kX10_wash 15 rfl) rfl rfl rfl ?_
      refine X_iadd (n := 27) (kX10_wash 16 rfl) rfl ?_
      refine X_iconst (n := 28) (v := 0) (kX10_wash 17 rfl) rfl (by decide) ?_
      refine X_callN1V (n := 31) (As := [.ref (rf a0 3), .int ((i1 * (6 : Int32)) + i3), .int (0 : Int32)]) (st := []) (kX10_wash 18 rfl) rfl (p_X11_put (kt_10_3 hk0)) (by decide) nl_X10_59 mf_X11_put rfl rfl (Nat.le_of_ble_eq_true rfl) ?_
      refine X_iinc (n := 34) 0 (v := (i3 + 1)) (L1 := [(3, .int (i3 + 1)), (2, .int i2), (0, .ref a0), (1, .int i1)]) (kX10_wash 19 rfl) rfl rfl rfl (Nat.le_of_ble_eq_true rfl) rfl ?_
      refine X_goto (tgt := 11) (kX10_wash 20 rfl) rfl ?_
      exact X_L [0, 1, 2, 3] rfl (ih (i3 + 1) (pat S (rf a0 3) ((i1 * (6 : Int32)) + i3) (0 : Int32)))
set_option maxHeartbeats 4000000 in
set_option maxRecDepth 100000 in
theorem w_X10_wash {l : Launch} {g : XG}  {a0 : Nat} {i1 : Int32} {S : XS} (hk0 : kd a0 = 10) : Cl φI l g 3 mX10_wash [.ref a0, .int i1] S (f_X10_wash a0 i1 S) := by
  refine Cl.of (by decide +kernel) (Nat.le_of_ble_eq_true rfl) ?_
  unfold f_X10_wash
  show X _ _ _ _ _ 0 [(0, .ref a0), (1, .int i1)] [] S _
  refine X_aload_n (n := 1) 0 (kX10_wash 0 rfl) rfl rfl rfl ?_
  refine X_getR (n := 4) xf_X10 hk0 (by decide) fl_X10_18 rfl (kX10_wash 1 rfl) rfl ?_
  refine X_iload_n (n := 5) 1 (kX10_wash 2 rfl) rfl rfl rfl ?_
  refine X_callNI (n := 8) (As := [.ref (rf a0 3), .int i1]) (st := []) (kX10_wash 3 rfl) rfl (w_X11_total (kt_10_3 hk0)) (by decide) nl_X10_63 mf_X11_total rfl rfl (Nat.le_of_ble_eq_true rfl) (fun r1 S2 hq => ?_)
  try dsimp only
  refine X_istore_n (n := 9) (L1 := [(2, .int r1), (0, .ref a0), (1, .int i1)]) (kX10_wash 4 rfl) rfl rfl (Nat.le_of_ble_eq_true rfl) rfl ?_
  refine X_iconst (n := 10) (v := 0) (kX10_wash 5 rfl) rfl (by decide) ?_
  refine X_istore_n (n := 11) (L1 := [(3, .int 0), (2, .int r1), (0, .ref a0), (1, .int i1)]) (kX10_wash 6 rfl) rfl rfl (Nat.le_of_ble_eq_true rfl) rfl ?_
  refine X_L [0, 1, 2, 3] rfl (w_X10_wash_L11 hk0 (fun S4 => ?_) 1000000 (0 : Int32) S2)
  try dsimp only
  refine X_iload_n (n := 38) 0 (kX10_wash 21 rfl) rfl rfl rfl ?_
  exact X_iret rfl (kX10_wash 22 rfl)
def f_X11_feed  (a0 : Nat) (i1 : Int32) (i2 : Int32) (i3 : Int32) (i4 : Int32) (i5 : Int32) (S : XS) : Option (Int32 × XS) := (if ((S.1 (rf a0 0) 1) + (20 : Int32)) ≤ (940 : Int32) then ((f_X8_addFour (rf a0 0) i1 S).bind (fun S2 => ((f_X8_addFour (rf a0 0) i2 S2).bind (fun S3 => ((f_X8_addFour (rf a0 0) i3 S3).bind (fun S4 => ((f_X8_addFour (rf a0 0) i4 S4).bind (fun S5 => ((f_X8_addFour (rf a0 0) i5 S5).bind (fun S6 => some ((S6.1 (rf a0 0) 1), S6))))))))))) else some ((-1 : Int32), S))
set_option maxHeartbeats 4000000 in
set_option maxRecDepth 100000 in
theorem w_X11_feed {l : Launch} {g : XG}  {a0 : Nat} {i1 : Int32} {i2 : Int32} {i3 : Int32} {i4 : Int32} {i5 : Int32} {S : XS} (hk0 : kd a0 = 11) : Cl φI l g 3 mX11_feed [.ref a0, .int i1, .int i2, .int i3, .int i4, .int i5] S (f_X11_feed a0 i1 i2 i3 i4 i5 S) := by
  refine Cl.of (by decide +kernel) (Nat.le_of_ble_eq_true rfl) ?_
  unfold f_X11_feed
  show X _ _ _ _ _ 0 [(0, .ref a0), (1, .int i1), (2, .int i2), (3, .int i3), (4, .int i4), (5, .int i5)] [] S _
  refine X_aload_n (n := 1) 0 (kX11_feed 0 rfl) rfl rfl rfl ?_
  refine X_getR (n := 4) xf_X11 hk0 (by decide) fl_X11_12 rfl (kX11_feed 1 rfl) rfl ?_
  refine X_getI (n := 7) xf_X8 (kt_11_0 hk0) (by decide) fl_X11_110 rfl (kX11_feed 2 rfl) rfl ?_
  refine X_bipush (n := 9) (v := 20) (kX11_feed 3 rfl) rfl (by decide) ?_
  refine X_iadd (n := 10) (kX11_feed 4 rfl) rfl ?_
  refine X_sipush (n := 13) (v := 940) (kX11_feed 5 rfl) rfl (by decide) ?_
  refine X_ic_le (n := 16) (tgt := 18) (kX11_feed 6 rfl) rfl rfl (fun h1 => ?_) (fun h1 => ?_)
  · refine X_aload_n (n := 19) 0 (kX11_feed 9 rfl) rfl rfl rfl ?_
    refine X_getR (n := 22) xf_X11 hk0 (by decide) fl_X11_12 rfl (kX11_feed 10 rfl) rfl ?_
    refine X_iload_n (n := 23) 1 (kX11_feed 11 rfl) rfl rfl rfl ?_
    refine X_callVV (n := 26) (As := [.int i1]) (st := []) (kX11_feed 12 rfl) rfl (w_X8_addFour (kt_11_0 hk0)) (by decide) ml_X11_114 mf_X8_addFour rfl (kt_11_0 hk0) xf_X8 rfl (Nat.le_of_ble_eq_true rfl) (fun S2 hq => ?_)
    try dsimp only
    refine X_aload_n (n := 27) 0 (kX11_feed 13 rfl) rfl rfl rfl ?_
    refine X_getR (n := 30) xf_X11 hk0 (by decide) fl_X11_12 rfl (kX11_feed 14 rfl) rfl ?_
    refine X_iload_n (n := 31) 2 (kX11_feed 15 rfl) rfl rfl rfl ?_
    refine X_callVV (n := 34) (As := [.int i2]) (st := []) (kX11_feed 16 rfl) rfl (w_X8_addFour (kt_11_0 hk0)) (by decide) ml_X11_114 mf_X8_addFour rfl (kt_11_0 hk0) xf_X8 rfl (Nat.le_of_ble_eq_true rfl) (fun S3 hq => ?_)
    try dsimp only
    refine X_aload_n (n := 35) 0 (kX11_feed 17 rfl) rfl rfl rfl ?_
    refine X_getR (n := 38) xf_X11 hk0 (by decide) fl_X11_12 rfl (kX11_feed 18 rfl) rfl ?_
    refine X_iload_n (n := 39) 3 (kX11_feed 19 rfl) rfl rfl rfl ?_
    refine X_callVV (n := 42) (As := [.int i3]) (st := []) (kX11_feed 20 rfl) rfl (w_X8_addFour (kt_11_0 hk0)) (by decide) ml_X11_114 mf_X8_addFour rfl (kt_11_0 hk0) xf_X8 rfl (Nat.le_of_ble_eq_true rfl) (fun S4 hq => ?_)
    try dsimp only
    refine X_aload_n (n := 43) 0 (kX11_feed 21 rfl) rfl rfl rfl ?_
    refine X_getR (n := 46) xf_X11 hk0 (by decide) fl_X11_12 rfl (kX11_feed 22 rfl) rfl ?_
    refine X_iload (n := 48) 4 (kX11_feed 23 rfl) rfl rfl ?_
    refine X_callVV (n := 51) (As := [.int i4]) (st := []) (kX11_feed 24 rfl) rfl (w_X8_addFour (kt_11_0 hk0)) (by decide) ml_X11_114 mf_X8_addFour rfl (kt_11_0 hk0) xf_X8 rfl (Nat.le_of_ble_eq_true rfl) (fun S5 hq => ?_)
    try dsimp only
    refine X_aload_n (n := 52) 0 (kX11_feed 25 rfl) rfl rfl rfl ?_
    refine X_getR (n := 55) xf_X11 hk0 (by decide) fl_X11_12 rfl (kX11_feed 26 rfl) rfl ?_
    refine X_iload (n := 57) 5 (kX11_feed 27 rfl) rfl rfl ?_
    refine X_callVV (n := 60) (As := [.int i5]) (st := []) (kX11_feed 28 rfl) rfl (w_X8_addFour (kt_11_0 hk0)) (by decide) ml_X11_114 mf_X8_addFour rfl (kt_11_0 hk0) xf_X8 rfl (Nat.le_of_ble_eq_true rfl) (fun S6 hq => ?_)
    try dsimp only
    refine X_aload_n (n := 61) 0 (kX11_feed 29 rfl) rfl rfl rfl ?_
    refine X_getR (n := 64) xf_X11 hk0 (by decide) fl_X11_12 rfl (kX11_feed 30 rfl) rfl ?_
    refine X_getI (n := 67) xf_X8 (kt_11_0 hk0) (by decide) fl_X11_110 rfl (kX11_feed 31 rfl) rfl ?_
    exact X_iret rfl (kX11_feed 32 rfl)
  · refine X_iconst (n := 17) (v := (-1)) (kX11_feed 7 rfl) rfl (by decide) ?_
    exact X_iret rfl (kX11_feed 8 rfl)
def f_X11_fade  (a0 : Nat) (i1 : Int32) (S : XS) : Option (Int32 × XS) := (if (t_X2_has (rf a0 1) (0 : Int32) i1 S) = true then some ((gat S (rf (rf a0 1) 2) i1), S) else some ((-1 : Int32), S))
set_option maxHeartbeats 4000000 in
set_option maxRecDepth 100000 in
theorem w_X11_fade {l : Launch} {g : XG}  {a0 : Nat} {i1 : Int32} {S : XS} (hk0 : kd a0 = 11) : Cl φI l g 3 mX11_fade [.ref a0, .int i1] S (f_X11_fade a0 i1 S) := by
  refine Cl.of (by decide +kernel) (Nat.le_of_ble_eq_true rfl) ?_
  unfold f_X11_fade
  show X _ _ _ _ _ 0 [(0, .ref a0), (1, .int i1)] [] S _
  refine X_aload_n (n := 1) 0 (kX11_fade 0 rfl) rfl rfl rfl ?_
  refine X_getR (n := 4) xf_X11 hk0 (by decide) fl_X11_19 rfl (kX11_fade 1 rfl) rfl ?_
  refine X_iconst (n := 5) (v := 0) (kX11_fade 2 rfl) rfl (by decide) ?_
  refine X_iload_n (n := 6) 1 (kX11_fade 3 rfl) rfl rfl rfl ?_
  refine X_callV1B (n := 9) (As := [.int (0 : Int32), .int i1]) (st := []) (kX11_fade 4 rfl) rfl (p_X2_has (kt_11_1 hk0)) (by decide) ml_X11_144 mf_X2_has rfl (kt_11_1 hk0) xf_X2 rfl (Nat.le_of_ble_eq_true rfl) ?_
  refine X_bz (n := 12) (tgt := 26) (kX11_fade 5 rfl) rfl rfl (fun h1 => ?_) (fun h1 => ?_)
  · refine X_aload_n (n := 13) 0 (kX11_fade 6 rfl) rfl rfl rfl ?_
    refine X_getR (n := 16) xf_X11 hk0 (by decide) fl_X11_19 rfl (kX11_fade 7 rfl) rfl ?_
    refine X_getR (n := 19) xf_X2 (kt_11_1 hk0) (by decide) fl_X11_158 rfl (kX11_fade 8 rfl) rfl ?_
    refine X_iload_n (n := 20) 1 (kX11_fade 9 rfl) rfl rfl rfl ?_
    refine X_callS1I (n := 23) (As := [.ref (rf (rf a0 1) 2), .int i1]) (st := []) (kX11_fade 10 rfl) rfl (p_X11_at (kt_2_2 (kt_11_1 hk0))) (by decide) ml_X11_154 mf_X11_at rfl rfl (Nat.le_of_ble_eq_true rfl) ?_
    refine X_goto (tgt := 27) (kX11_fade 11 rfl) rfl ?_
    exact X_iret rfl (kX11_fade 13 rfl)
  · refine X_iconst (n := 27) (v := (-1)) (kX11_fade 12 rfl) rfl (by decide) ?_
    exact X_iret rfl (kX11_fade 13 rfl)
def t_X11_fade (a0 : Nat) (i1 : Int32) (S : XS) : Int32 := (if (t_X2_has (rf a0 1) (0 : Int32) i1 S) = true then (gat S (rf (rf a0 1) 2) i1) else (-1 : Int32))
theorem ft_X11_fade (a0 : Nat) (i1 : Int32) (S : XS) : f_X11_fade a0 i1 S = some (t_X11_fade a0 i1 S, S) := by
  unfold f_X11_fade t_X11_fade
  first | rfl | simp only [ite_p]
theorem p_X11_fade {l : Launch} {g : XG} {a0 : Nat} {i1 : Int32} {S : XS} (hk0 : kd a0 = 11) : Cl φI l g 3 mX11_fade [.ref a0, .int i1] S (some (t_X11_fade a0 i1 S, S)) := ft_X11_fade a0 i1 S ▸ w_X11_fade hk0
def f_X11_coat  (a0 : Nat) (i1 : Int32) (i2 : Int32) (S : XS) : Option (Int32 × XS) := (if (t_X2_has (rf a0 1) (2 : Int32) i1 S) = true then (if (t_X2_has (rf a0 1) (0 : Int32) i2 S) = true then some ((gat S (rf (rf a0 3) 3) ((i1 * (6 : Int32)) + i2)), S) else some ((-1 : Int32), S)) else some ((-1 : Int32), S))
set_option maxHeartbeats 4000000 in
set_option maxRecDepth 100000 in
theorem w_X11_coat {l : Launch} {g : XG}  {a0 : Nat} {i1 : Int32} {i2 : Int32} {S : XS} (hk0 : kd a0 = 11) : Cl φI l g 3 mX11_coat [.ref a0, .int i1, .int i2] S (f_X11_coat a0 i1 i2 S) := by
  refine Cl.of (by decide +kernel) (Nat.le_of_ble_eq_true rfl) ?_
  unfold f_X11_coat
  show X _ _ _ _ _ 0 [(0, .ref a0), (1, .int i1), (2, .int i2)] [] S _
  refine X_aload_n (n := 1) 0 (kX11_coat 0 rfl) rfl rfl rfl ?_
  refine X_getR (n := 4) xf_X11 hk0 (by decide) fl_X11_19 rfl (kX11_coat 1 rfl) rfl ?_
  refine X_iconst (n := 5) (v := 2) (kX11_coat 2 rfl) rfl (by decide) ?_
  refine X_iload_n (n := 6) 1 (kX11_coat 3 rfl) rfl rfl rfl ?_
  refine X_callV1B (n := 9) (As := [.int (2 : Int32), .int i1]) (st := []) (kX11_coat 4 rfl) rfl (p_X2_has (kt_11_1 hk0)) (by decide) ml_X11_144 mf_X2_has rfl (kt_11_1 hk0) xf_X2 rfl (Nat.le_of_ble_eq_true rfl) ?_
  refine X_bz (n := 12) (tgt := 24) (kX11_coat 5 rfl) rfl rfl (fun h1 => ?_) (fun h1 => ?_)
  · refine X_aload_n (n := 13) 0 (kX11_coat 6 rfl) rfl rfl rfl ?_
    refine X_getR (n := 16) xf_X11 hk0 (by decide) fl_X11_19 rfl (kX11_coat 7 rfl) rfl ?_
    refine X_iconst (n := 17) (v := 0) (kX11_coat 8 rfl) rfl (by decide) ?_
    refine X_iload_n (n := 18) 2 (kX11_coat 9 rfl) rfl rfl rfl ?_
    refine X_callV1B (n := 21) (As := [.int (0 : Int32), .int i2]) (st := []) (kX11_coat 10 rfl) rfl (p_X2_has (kt_11_1 hk0)) (by decide) ml_X11_144 mf_X2_has rfl (kt_11_1 hk0) xf_X2 rfl (Nat.le_of_ble_eq_true rfl) ?_
    refine X_bn (n := 24) (tgt := 26) (kX11_coat 11 rfl) rfl rfl (fun h2 => ?_) (fun h2 => ?_)
    · refine X_aload_n (n := 27) 0 (kX11_coat 14 rfl) rfl rfl rfl ?_
      refine X_getR (n := 30) xf_X11 hk0 (by decide) fl_X11_35 rfl (kX11_coat 15 rfl) rfl ?_
      refine X_getR (n := 33) xf_X10 (kt_11_3 hk0) (by decide) fl_X11_170 rfl (kX11_coat 16 rfl) rfl ?_
      refine X_iload_n (n := 34) 1 (kX11_coat 17 rfl) rfl rfl rfl ?_
      refine X_bipush (n := 36) (v := 6) (kX11_coat 18 rfl) rfl (by decide) ?_
      refine X_imul (n := 37) (kX11_coat 19 rfl) rfl ?_
      refine X_iload_n (n := 38) 2 (kX11_coat 20 rfl) rfl rfl rfl ?_
      refine X_iadd (n := 39) (kX11_coat 21 rfl) rfl ?_
      refine X_callS1I (n := 42) (As := [.ref (rf (rf a0 3) 3), .int ((i1 * (6 : Int32)) + i2)]) (st := []) (kX11_coat 22 rfl) rfl (p_X11_at (kt_10_3 (kt_11_3 hk0))) (by decide) ml_X11_154 mf_X11_at rfl rfl (Nat.le_of_ble_eq_true rfl) ?_
      exact X_iret rfl (kX11_coat 23 rfl)
    · refine X_iconst (n := 25) (v := (-1)) (kX11_coat 12 rfl) rfl (by decide) ?_
      exact X_iret rfl (kX11_coat 13 rfl)
  · refine X_iconst (n := 25) (v := (-1)) (kX11_coat 12 rfl) rfl (by decide) ?_
    exact X_iret rfl (kX11_coat 13 rfl)
def t_X11_coat (a0 : Nat) (i1 : Int32) (i2 : Int32) (S : XS) : Int32 := (if (t_X2_has (rf a0 1) (2 : Int32) i1 S) = true then (if (t_X2_has (rf a0 1) (0 : Int32) i2 S) = true then (gat S (rf (rf a0 3) 3) ((i1 * (6 : Int32)) + i2)) else (-1 : Int32)) else (-1 : Int32))
theorem ft_X11_coat (a0 : Nat) (i1 : Int32) (i2 : Int32) (S : XS) : f_X11_coat a0 i1 i2 S = some (t_X11_coat a0 i1 i2 S, S) := by
  unfold f_X11_coat t_X11_coat
  first | rfl | simp only [ite_p]
theorem p_X11_coat {l : Launch} {g : XG} {a0 : Nat} {i1 : Int32} {i2 : Int32} {S : XS} (hk0 : kd a0 = 11) : Cl φI l g 3 mX11_coat [.ref a0, .int i1, .int i2] S (some (t_X11_coat a0 i1 i2 S, S)) := ft_X11_coat a0 i1 i2 S ▸ w_X11_coat hk0
def f_X11_cloth  (a0 : Nat) (i1 : Int32) (i2 : Int32) (S : XS) : Option (Int32 × XS) := (if (t_X10_hasCloth (rf a0 3) i1 S) = true then (if (t_X2_has (rf a0 1) (0 : Int32) i2 S) = true then some ((gat S (rf (rf a0 3) 5) ((i1 * (6 : Int32)) + i2)), S) else some ((-1 : Int32), S)) else some ((-1 : Int32), S))
set_option maxHeartbeats 4000000 in
set_option maxRecDepth 100000 in
theorem w_X11_cloth {l : Launch} {g : XG}  {a0 : Nat} {i1 : Int32} {i2 : Int32} {S : XS} (hk0 : kd a0 = 11) : Cl φI l g 3 mX11_cloth [.ref a0, .int i1, .int i2] S (f_X11_cloth a0 i1 i2 S) := by
  refine Cl.of (by decide +kernel) (Nat.le_of_ble_eq_true rfl) ?_
  unfold f_X11_cloth
  show X _ _ _ _ _ 0 [(0, .ref a0), (1, .int i1), (2, .int i2)] [] S _
  refine X_aload_n (n := 1) 0 (kX11_cloth 0 rfl) rfl rfl rfl ?_
  refine X_getR (n := 4) xf_X11 hk0 (by decide) fl_X11_35 rfl (kX11_cloth 1 rfl) rfl ?_
  refine X_iload_n (n := 5) 1 (kX11_cloth 2 rfl) rfl rfl rfl ?_
  refine X_callV1B (n := 8) (As := [.int i1]) (st := []) (kX11_cloth 3 rfl) rfl (p_X10_hasCloth (kt_11_3 hk0)) (by decide) ml_X11_179 mf_X10_hasCloth rfl (kt_11_3 hk0) xf_X10 rfl (Nat.le_of_ble_eq_true rfl) ?_
  refine X_bz (n := 11) (tgt := 23) (kX11_cloth 4 rfl) rfl rfl (fun h1 => ?_) (fun h1 => ?_)
  · refine X_aload_n (n := 12) 0 (kX11_cloth 5 rfl) rfl rfl rfl ?_
    refine X_getR (n := 15) xf_X11 hk0 (by decide) fl_X11_19 rfl (kX11_cloth 6 rfl) rfl ?_
    refine X_iconst (n := 16) (v := 0) (kX11_cloth 7 rfl) rfl (by decide) ?_
    refine X_iload_n (n := 17) 2 (kX11_cloth 8 rfl) rfl rfl rfl ?_
    refine X_callV1B (n := 20) (As := [.int (0 : Int32), .int i2]) (st := []) (kX11_cloth 9 rfl) rfl (p_X2_has (kt_11_1 hk0)) (by decide) ml_X11_144 mf_X2_has rfl (kt_11_1 hk0) xf_X2 rfl (Nat.le_of_ble_eq_true rfl) ?_
    refine X_bn (n := 23) (tgt := 25) (kX11_cloth 10 rfl) rfl rfl (fun h2 => ?_) (fun h2 => ?_)
    · refine X_aload_n (n := 26) 0 (kX11_cloth 13 rfl) rfl rfl rfl ?_
      refine X_getR (n := 29) xf_X11 hk0 (by decide) fl_X11_35 rfl (kX11_cloth 14 rfl) rfl ?_
      refine X_getR (n := 32) xf_X10 (kt_11_3 hk0) (by decide) fl_X11_183 rfl (kX11_cloth 15 rfl) rfl ?_
      refine X_iload_n (n := 33) 1 (kX11_cloth 16 rfl) rfl rfl rfl ?_
      refine X_bipush (n := 35) (v := 6) (kX11_cloth 17 rfl) rfl (by decide) ?_
      refine X_imul (n := 36) (kX11_cloth 18 rfl) rfl ?_
      refine X_iload_n (n := 37) 2 (kX11_cloth 19 rfl) rfl rfl rfl ?_
      refine X_iadd (n := 38) (kX11_cloth 20 rfl) rfl ?_
      refine X_callS1I (n := 41) (As := [.ref (rf (rf a0 3) 5), .int ((i1 * (6 : Int32)) + i2)]) (st := []) (kX11_cloth 21 rfl) rfl (p_X11_at (kt_10_5 (kt_11_3 hk0))) (by decide) ml_X11_154 mf_X11_at rfl rfl (Nat.le_of_ble_eq_true rfl) ?_
      exact X_iret rfl (kX11_cloth 22 rfl)
    · refine X_iconst (n := 24) (v := (-1)) (kX11_cloth 11 rfl) rfl (by decide) ?_
      exact X_iret rfl (kX11_cloth 12 rfl)
  · refine X_iconst (n := 24) (v := (-1)) (kX11_cloth 11 rfl) rfl (by decide) ?_
    exact X_iret rfl (kX11_cloth 12 rfl)
def t_X11_cloth (a0 : Nat) (i1 : Int32) (i2 : Int32) (S : XS) : Int32 := (if (t_X10_hasCloth (rf a0 3) i1 S) = true then (if (t_X2_has (rf a0 1) (0 : Int32) i2 S) = true then (gat S (rf (rf a0 3) 5) ((i1 * (6 : Int32)) + i2)) else (-1 : Int32)) else (-1 : Int32))
theorem ft_X11_cloth (a0 : Nat) (i1 : Int32) (i2 : Int32) (S : XS) : f_X11_cloth a0 i1 i2 S = some (t_X11_cloth a0 i1 i2 S, S) := by
  unfold f_X11_cloth t_X11_cloth
  first | rfl | simp only [ite_p]
theorem p_X11_cloth {l : Launch} {g : XG} {a0 : Nat} {i1 : Int32} {i2 : Int32} {S : XS} (hk0 : kd a0 = 11) : Cl φI l g 3 mX11_cloth [.ref a0, .int i1, .int i2] S (some (t_X11_cloth a0 i1 i2 S, S)) := ft_X11_cloth a0 i1 i2 S ▸ w_X11_cloth hk0
def f_X11_box  (a0 : Nat) (i1 : Int32) (i2 : Int32) (S : XS) : Option (Int32 × XS) := (if (t_X10_hasCloth (rf a0 3) i1 S) = true then (if i2 = 0 then some ((gat S (rf (rf a0 3) 6) i1), S) else (if i2 = 1 then some ((gat S (rf (rf a0 3) 7) i1), S) else (if i2 = 2 then some ((gat S (rf (rf a0 3) 8) i1), S) else (if i2 = 3 then ((f_X11_strongest (rf (rf a0 3) 5) i1 S).bind (fun q => match q with | (r2, S3) => some (r2, S3))) else (if i2 = 4 then ((f_X11_total (rf (rf a0 3) 5) i1 S).bind (fun q => match q with | (r4, S5) => some (r4, S5))) else some ((-1 : Int32), S)))))) else some ((-1 : Int32), S))
set_option maxHeartbeats 4000000 in
set_option maxRecDepth 100000 in
theorem w_X11_box {l : Launch} {g : XG}  {a0 : Nat} {i1 : Int32} {i2 : Int32} {S : XS} (hk0 : kd a0 = 11) : Cl φI l g 3 mX11_box [.ref a0, .int i1, .int i2] S (f_X11_box a0 i1 i2 S) := by
  refine Cl.of (by decide +kernel) (Nat.le_of_ble_eq_true rfl) ?_
  unfold f_X11_box
  show X _ _ _ _ _ 0 [(0, .ref a0), (1, .int i1), (2, .int i2)] [] S _
  refine X_aload_n (n := 1) 0 (kX11_box 0 rfl) rfl rfl rfl ?_
  refine X_getR (n := 4) xf_X11 hk0 (by decide) fl_X11_35 rfl (kX11_box 1 rfl) rfl ?_
  refine X_iload_n (n := 5) 1 (kX11_box 2 rfl) rfl rfl rfl ?_
  refine X_callV1B (n := 8) (As := [.int i1]) (st := []) (kX11_box 3 rfl) rfl (p_X10_hasCloth (kt_11_3 hk0)) (by decide) ml_X11_179 mf_X10_hasCloth rfl (kt_11_3 hk0) xf_X10 rfl (Nat.le_of_ble_eq_true rfl) ?_
  refine X_bn (n := 11) (tgt := 13) (kX11_box 4 rfl) rfl rfl (fun h1 => ?_) (fun h1 => ?_)
  · refine X_iload_n (n := 14) 2 (kX11_box 7 rfl) rfl rfl rfl ?_
    refine X_ite (fun hc0 => ?_) (fun nc0 => ?_)
    · refine X_tabIn (tgt := 48) 0 (xI_of 0 hc0 (by decide)) (kX11_box 8 rfl) (by decide) (by decide) rfl rfl ?_
      refine X_aload_n (n := 49) 0 (kX11_box 9 rfl) rfl rfl rfl ?_
      refine X_getR (n := 52) xf_X11 hk0 (by decide) fl_X11_35 rfl (kX11_box 10 rfl) rfl ?_
      refine X_getR (n := 55) xf_X10 (kt_11_3 hk0) (by decide) fl_X11_186 rfl (kX11_box 11 rfl) rfl ?_
      refine X_iload_n (n := 56) 1 (kX11_box 12 rfl) rfl rfl rfl ?_
      refine X_callS1I (n := 59) (As := [.ref (rf (rf a0 3) 6), .int i1]) (st := []) (kX11_box 13 rfl) rfl (p_X11_at (kt_10_6 (kt_11_3 hk0))) (by decide) ml_X11_154 mf_X11_at rfl rfl (Nat.le_of_ble_eq_true rfl) ?_
      exact X_iret rfl (kX11_box 14 rfl)
    · refine X_ite (fun hc1 => ?_) (fun nc1 => ?_)
      · refine X_tabIn (tgt := 60) 1 (xI_of 1 hc1 (by decide)) (kX11_box 8 rfl) (by decide) (by decide) rfl rfl ?_
        refine X_aload_n (n := 61) 0 (kX11_box 15 rfl) rfl rfl rfl ?_
        refine X_getR (n := 64) xf_X11 hk0 (by decide) fl_X11_35 rfl (kX11_box 16 rfl) rfl ?_
        refine X_getR (n := 67) xf_X10 (kt_11_3 hk0) (by decide) fl_X11_189 rfl (kX11_box 17 rfl) rfl ?_
        refine X_iload_n (n := 68) 1 (kX11_box 18 rfl) rfl rfl rfl ?_
        refine X_callS1I (n := 71) (As := [.ref (rf (rf a0 3) 7), .int i1]) (st := []) (kX11_box 19 rfl) rfl (p_X11_at (kt_10_7 (kt_11_3 hk0))) (by decide) ml_X11_154 mf_X11_at rfl rfl (Nat.le_of_ble_eq_true rfl) ?_
        exact X_iret rfl (kX11_box 20 rfl)
      · refine X_ite (fun hc2 => ?_) (fun nc2 => ?_)
        · refine X_tabIn (tgt := 72) 2 (xI_of 2 hc2 (by decide)) (kX11_box 8 rfl) (by decide) (by decide) rfl rfl ?_
          refine X_aload_n (n := 73) 0 (kX11_box 21 rfl) rfl rfl rfl ?_
          refine X_getR (n := 76) xf_X11 hk0 (by decide) fl_X11_35 rfl (kX11_box 22 rfl) rfl ?_
          refine X_getR (n := 79) xf_X10 (kt_11_3 hk0) (by decide) fl_X11_192 rfl (kX11_box 23 rfl) rfl ?_
          refine X_iload_n (n := 80) 1 (kX11_box 24 rfl) rfl rfl rfl ?_
          refine X_callS1I (n := 83) (As := [.ref (rf (rf a0 3) 8), .int i1]) (st := []) (kX11_box 25 rfl) rfl (p_X11_at (kt_10_8 (kt_11_3 hk0))) (by decide) ml_X11_154 mf_X11_at rfl rfl (Nat.le_of_ble_eq_true rfl) ?_
          exact X_iret rfl (kX11_box 26 rfl)
        · refine X_ite (fun hc3 => ?_) (fun nc3 => ?_)
          · refine X_tabIn (tgt := 84) 3 (xI_of 3 hc3 (by decide)) (kX11_box 8 rfl) (by decide) (by decide) rfl rfl ?_
            refine X_aload_n (n := 85) 0 (kX11_box 27 rfl) rfl rfl rfl ?_
            refine X_getR (n := 88) xf_X11 hk0 (by decide) fl_X11_35 rfl (kX11_box 28 rfl) rfl ?_
            refine X_getR (n := 91) xf_X10 (kt_11_3 hk0) (by decide) fl_X11_183 rfl (kX11_box 29 rfl) rfl ?_
            refine X_iload_n (n := 92) 1 (kX11_box 30 rfl) rfl rfl rfl ?_
            refine X_callSI (n := 95) (As := [.ref (rf (rf a0 3) 5), .int i1]) (st := []) (kX11_box 31 rfl) rfl (w_X11_strongest (kt_10_5 (kt_11_3 hk0))) (by decide) ml_X11_176 mf_X11_strongest rfl rfl (Nat.le_of_ble_eq_true rfl) (fun r2 S3 hq => ?_)
            try dsimp only
            exact X_iret rfl (kX11_box 32 rfl)
          · refine X_ite (fun hc4 => ?_) (fun nc4 => ?_)
            · refine X_tabIn (tgt := 96) 4 (xI_of 4 hc4 (by decide)) (kX11_box 8 rfl) (by decide) (by decide) rfl rfl ?_
              refine X_aload_n (n := 97) 0 (kX11_box 33 rfl) rfl rfl rfl ?_
              refine X_getR (n := 100) xf_X11 hk0 (by decide) fl_X11_35 rfl (kX11_box 34 rfl) rfl ?_
              refine X_getR (n := 103) xf_X10 (kt_11_3 hk0) (by decide) fl_X11_183 rfl (kX11_box 35 rfl) rfl ?_
              refine X_iload_n (n := 104) 1 (kX11_box 36 rfl) rfl rfl rfl ?_
              refine X_callSI (n := 107) (As := [.ref (rf (rf a0 3) 5), .int i1]) (st := []) (kX11_box 37 rfl) rfl (w_X11_total (kt_10_5 (kt_11_3 hk0))) (by decide) ml_X11_173 mf_X11_total rfl rfl (Nat.le_of_ble_eq_true rfl) (fun r4 S5 hq => ?_)
              try dsimp only
              exact X_iret rfl (kX11_box 38 rfl)
            · have e0 := xI_ne (z := 0) 0 nc0 (by decide)
              have e1 := xI_ne (z := 1) 1 nc1 (by decide)
              have e2 := xI_ne (z := 2) 2 nc2 (by decide)
              have e3 := xI_ne (z := 3) 3 nc3 (by decide)
              have e4 := xI_ne (z := 4) 4 nc4 (by decide)
              refine X_tabOut (tgt := 108) (by omega) (kX11_box 8 rfl) rfl ?_
              refine X_iconst (n := 109) (v := (-1)) (kX11_box 39 rfl) rfl (by decide) ?_
              exact X_iret rfl (kX11_box 40 rfl)
  · refine X_iconst (n := 12) (v := (-1)) (kX11_box 5 rfl) rfl (by decide) ?_
    exact X_iret rfl (kX11_box 6 rfl)
def f_X11_keepPast  (a0 : Nat) (S : XS) : Option (XS) := ((if (S.1 a0 8) < 0 then some S else (if (8 : Int32) ≤ (S.1 a0 8) then some S else (if (S.1 a0 8) < 0 ∨ ln (rf a0 7) ≤ (S.1 a0 8).toNatClampNeg then none else (if (S.1 a0 8) < 0 ∨ ln (rf a0 7) ≤ (S.1 a0 8).toNatClampNeg then none else some (t_X10_copyFrom (rf (rf a0 7) (S.1 a0 8).toNatClampNeg) (rf a0 3) S))))).bind (fun S1 => some (sI (sI S1 a0 8 (rem32 ((S1.1 a0 8) + (1 : Int32)) (8 : Int32))) a0 9 (if (((sI S1 a0 8 (rem32 ((S1.1 a0 8) + (1 : Int32)) (8 : Int32))).1 a0 9) + (1 : Int32)) < (8 : Int32) then (((sI S1 a0 8 (rem32 ((S1.1 a0 8) + (1 : Int32)) (8 : Int32))).1 a0 9) + (1 : Int32)) else (8 : Int32)))))
set_option maxHeartbeats 4000000 in
set_option maxRecDepth 100000 in
theorem w_X11_keepPast {l : Launch} {g : XG}  {a0 : Nat} {S : XS} (hk0 : kd a0 = 11) : Cl φV l g 4 mX11_keepPast [.ref a0] S (f_X11_keepPast a0 S) := by
  refine Cl.of (by decide +kernel) (Nat.le_of_ble_eq_true rfl) ?_
  unfold f_X11_keepPast
  show X _ _ _ _ _ 0 [(0, .ref a0)] [] S _
  refine X_aload_n (n := 1) 0 (kX11_keepPast 0 rfl) rfl rfl rfl ?_
  refine X_getI (n := 4) xf_X11 hk0 (by decide) fl_X11_233 rfl (kX11_keepPast 1 rfl) rfl ?_
  refine X_join 47 (fun S1 => [(0, .ref a0)]) (fun S1 => []) (fun S1 => S1) (fun S1 => ?_) (fun kJ => ?_)
  · try dsimp only
    refine X_aload_n (n := 48) 0 (kX11_keepPast 23 rfl) rfl rfl rfl ?_
    refine X_aload_n (n := 49) 0 (kX11_keepPast 24 rfl) rfl rfl rfl ?_
    refine X_getI (n := 52) xf_X11 hk0 (by decide) fl_X11_233 rfl (kX11_keepPast 25 rfl) rfl ?_
    refine X_iconst (n := 53) (v := 1) (kX11_keepPast 26 rfl) rfl (by decide) ?_
    refine X_iadd (n := 54) (kX11_keepPast 27 rfl) rfl ?_
    refine X_bipush (n := 56) (v := 8) (kX11_keepPast 28 rfl) rfl (by decide) ?_
    refine X_irem' (n := 57) (kX11_keepPast 29 rfl) rfl (by decide) ?_
    refine X_putI (n := 60) xf_X11 hk0 (by decide) fl_X11_233 rfl rfl (Or.inl rfl) (kX11_keepPast 30 rfl) rfl ?_
    refine X_aload_n (n := 61) 0 (kX11_keepPast 31 rfl) rfl rfl rfl ?_
    refine X_bipush (n := 63) (v := 8) (kX11_keepPast 32 rfl) rfl (by decide) ?_
    refine X_aload_n (n := 64) 0 (kX11_keepPast 33 rfl) rfl rfl rfl ?_
    refine X_getI (n := 67) xf_X11 hk0 (by decide) fl_X11_230 rfl (kX11_keepPast 34 rfl) rfl ?_
    refine X_iconst (n := 68) (v := 1) (kX11_keepPast 35 rfl) rfl (by decide) ?_
    refine X_iadd (n := 69) (kX11_keepPast 36 rfl) rfl ?_
    refine X_mmin (n := 72) (kX11_keepPast 37 rfl) rfl (by decide) ml_X11_371 ms1_min ms2 ms3_min (Nat.le_of_ble_eq_true rfl) ?_
    refine X_putI (n := 75) xf_X11 hk0 (by decide) fl_X11_230 rfl rfl (Or.inl rfl) (kX11_keepPast 38 rfl) rfl ?_
    exact X_vret rfl (kX11_keepPast 39 rfl)
  · refine X_itebind ?_
    refine X_if_lt (n := 7) (tgt := 47) (kX11_keepPast 2 rfl) rfl rfl (fun h2 => ?_) (fun h2 => ?_)
    · exact X_L [0] rfl (kJ S)
    · refine X_aload_n (n := 8) 0 (kX11_keepPast 3 rfl) rfl rfl rfl ?_
      refine X_getI (n := 11) xf_X11 hk0 (by decide) fl_X11_233 rfl (kX11_keepPast 4 rfl) rfl ?_
      refine X_aload_n (n := 12) 0 (kX11_keepPast 5 rfl) rfl rfl rfl ?_
      refine X_getR (n := 15) xf_X11 hk0 (by decide) fl_X11_60 rfl (kX11_keepPast 6 rfl) rfl ?_
      refine X_alenW (n := 16) (v := 8) (kt_11_7 hk0) (kX11_keepPast 7 rfl) rfl (by rw [lt_11_7 hk0]; rfl) ?_
      refine X_itebind ?_
      refine X_ic_ge (n := 19) (tgt := 47) (kX11_keepPast 8 rfl) rfl rfl (fun h3 => ?_) (fun h3 => ?_)
      · exact X_L [0] rfl (kJ S)
      · refine X_aload_n (n := 20) 0 (kX11_keepPast 9 rfl) rfl rfl rfl ?_
        refine X_getR (n := 23) xf_X11 hk0 (by decide) fl_X11_60 rfl (kX11_keepPast 10 rfl) rfl ?_
        refine X_aload_n (n := 24) 0 (kX11_keepPast 11 rfl) rfl rfl rfl ?_
        refine X_getI (n := 27) xf_X11 hk0 (by decide) fl_X11_233 rfl (kX11_keepPast 12 rfl) rfl ?_
        refine X_itebind ?_
        refine X_aaldW (n := 28) (kt_11_7 hk0) (kX11_keepPast 13 rfl) rfl (fun h4 => ?_)
        refine X_ifnull (n := 31) (kX11_keepPast 14 rfl) rfl ?_
        refine X_aload_n (n := 32) 0 (kX11_keepPast 15 rfl) rfl rfl rfl ?_
        refine X_getR (n := 35) xf_X11 hk0 (by decide) fl_X11_60 rfl (kX11_keepPast 16 rfl) rfl ?_
        refine X_aload_n (n := 36) 0 (kX11_keepPast 17 rfl) rfl rfl rfl ?_
        refine X_getI (n := 39) xf_X11 hk0 (by decide) fl_X11_233 rfl (kX11_keepPast 18 rfl) rfl ?_
        refine X_itebind ?_
        refine X_aaldW (n := 40) (kt_11_7 hk0) (kX11_keepPast 19 rfl) rfl (fun h5 => ?_)
        refine X_aload_n (n := 41) 0 (kX11_keepPast 20 rfl) rfl rfl rfl ?_
        refine X_getR (n := 44) xf_X11 hk0 (by decide) fl_X11_35 rfl (kX11_keepPast 21 rfl) rfl ?_
        refine X_callV1V (n := 47) (As := [.ref (rf a0 3)]) (st := []) (kX11_keepPast 22 rfl) rfl (p_X10_copyFrom (ka_23 (kt_11_7 hk0) h5) (kt_11_3 hk0)) (by decide) ml_X11_236 mf_X10_copyFrom rfl (ka_23 (kt_11_7 hk0) h5) xf_X10 rfl (Nat.le_of_ble_eq_true rfl) ?_
        exact X_L [0] rfl (kJ (t_X10_copyFrom (rf (rf a0 7) (S.1 a0 8).toNatClampNeg) (rf a0 3) S))
def f_X11_undo  (a0 : Nat) (S : XS) : Option (Int32 × XS) := (if 0 < (S.1 a0 9) then (if ((sI (sI S a0 8 (rem32 (((S.1 a0 8) + (8 : Int32)) - (1 : Int32)) (8 : Int32))) a0 9 (((sI S a0 8 (rem32 (((S.1 a0 8) + (8 : Int32)) - (1 : Int32)) (8 : Int32))).1 a0 9) - (1 : Int32))).1 a0 8) < 0 then some (((sI (sI S a0 8 (rem32 (((S.1 a0 8) + (8 : Int32)) - (1 : Int32)) (8 : Int32))) a0 9 (((sI S a0 8 (rem32 (((S.1 a0 8) + (8 : Int32)) - (1 : Int32)) (8 : Int32))).1 a0 9) - (1 : Int32))).1 a0 9), (sI (sI S a0 8 (rem32 (((S.1 a0 8) + (8 : Int32)) - (1 : Int32)) (8 : Int32))) a0 9 (((sI S a0 8 (rem32 (((S.1 a0 8) + (8 : Int32)) - (1 : Int32)) (8 : Int32))).1 a0 9) - (1 : Int32)))) else (if (8 : Int32) ≤ ((sI (sI S a0 8 (rem32 (((S.1 a0 8) + (8 : Int32)) - (1 : Int32)) (8 : Int32))) a0 9 (((sI S a0 8 (rem32 (((S.1 a0 8) + (8 : Int32)) - (1 : Int32)) (8 : Int32))).1 a0 9) - (1 : Int32))).1 a0 8) then some (((sI (sI S a0 8 (rem32 (((S.1 a0 8) + (8 : Int32)) - (1 : Int32)) (8 : Int32))) a0 9 (((sI S a0 8 (rem32 (((S.1 a0 8) + (8 : Int32)) - (1 : Int32)) (8 : Int32))).1 a0 9) - (1 : Int32))).1 a0 9), (sI (sI S a0 8 (rem32 (((S.1 a0 8) + (8 : Int32)) - (1 : Int32)) (8 : Int32))) a0 9 (((sI S a0 8 (rem32 (((S.1 a0 8) + (8 : Int32)) - (1 : Int32)) (8 : Int32))).1 a0 9) - (1 : Int32)))) else (if ((sI (sI S a0 8 (rem32 (((S.1 a0 8) + (8 : Int32)) - (1 : Int32)) (8 : Int32))) a0 9 (((sI S a0 8 (rem32 (((S.1 a0 8) + (8 : Int32)) - (1 : Int32)) (8 : Int32))).1 a0 9) - (1 : Int32))).1 a0 8) < 0 ∨ ln (rf a0 7) ≤ ((sI (sI S a0 8 (rem32 (((S.1 a0 8) + (8 : Int32)) - (1 : Int32)) (8 : Int32))) a0 9 (((sI S a0 8 (rem32 (((S.1 a0 8) + (8 : Int32)) - (1 : Int32)) (8 : Int32))).1 a0 9) - (1 : Int32))).1 a0 8).toNatClampNeg then none else (if ((sI (sI S a0 8 (rem32 (((S.1 a0 8) + (8 : Int32)) - (1 : Int32)) (8 : Int32))) a0 9 (((sI S a0 8 (rem32 (((S.1 a0 8) + (8 : Int32)) - (1 : Int32)) (8 : Int32))).1 a0 9) - (1 : Int32))).1 a0 8) < 0 ∨ ln (rf a0 7) ≤ ((sI (sI S a0 8 (rem32 (((S.1 a0 8) + (8 : Int32)) - (1 : Int32)) (8 : Int32))) a0 9 (((sI S a0 8 (rem32 (((S.1 a0 8) + (8 : Int32)) - (1 : Int32)) (8 : Int32))).1 a0 9) - (1 : Int32))).1 a0 8).toNatClampNeg then none else some (((t_X10_copyFrom (rf a0 3) (rf (rf a0 7) ((sI (sI S a0 8 (rem32 (((S.1 a0 8) + (8 : Int32)) - (1 : Int32)) (8 : Int32))) a0 9 (((sI S a0 8 (rem32 (((S.1 a0 8) + (8 : Int32)) - (1 : Int32)) (8 : Int32))).1 a0 9) - (1 : Int32))).1 a0 8).toNatClampNeg) (sI (sI S a0 8 (rem32 (((S.1 a0 8) + (8 : Int32)) - (1 : Int32)) (8 : Int32))) a0 9 (((sI S a0 8 (rem32 (((S.1 a0 8) + (8 : Int32)) - (1 : Int32)) (8 : Int32))).1 a0 9) - (1 : Int32)))).1 a0 9), (t_X10_copyFrom (rf a0 3) (rf (rf a0 7) ((sI (sI S a0 8 (rem32 (((S.1 a0 8) + (8 : Int32)) - (1 : Int32)) (8 : Int32))) a0 9 (((sI S a0 8 (rem32 (((S.1 a0 8) + (8 : Int32)) - (1 : Int32)) (8 : Int32))).1 a0 9) - (1 : Int32))).1 a0 8).toNatClampNeg) (sI (sI S a0 8 (rem32 (((S.1 a0 8) + (8 : Int32)) - (1 : Int32)) (8 : Int32))) a0 9 (((sI S a0 8 (rem32 (((S.1 a0 8) + (8 : Int32)) - (1 : Int32)) (8 : Int32))).1 a0 9) - (1 : Int32))))))))) else some ((-1 : Int32), S))
set_option maxHeartbeats 4000000 in
set_option maxRecDepth 100000 in
theorem w_X11_undo {l : Launch} {g : XG}  {a0 : Nat} {S : XS} (hk0 : kd a0 = 11) : Cl φI l g 4 mX11_undo [.ref a0] S (f_X11_undo a0 S) := by
  refine Cl.of (by decide +kernel) (Nat.le_of_ble_eq_true rfl) ?_
  unfold f_X11_undo
  show X _ _ _ _ _ 0 [(0, .ref a0)] [] S _
  refine X_aload_n (n := 1) 0 (kX11_undo 0 rfl) rfl rfl rfl ?_
  refine X_getI (n := 4) xf_X11 hk0 (by decide) fl_X11_230 rfl (kX11_undo 1 rfl) rfl ?_
  refine X_if_gt (n := 7) (tgt := 9) (kX11_undo 2 rfl) rfl rfl (fun h1 => ?_) (fun h1 => ?_)
  · refine X_aload_n (n := 10) 0 (kX11_undo 5 rfl) rfl rfl rfl ?_
    refine X_aload_n (n := 11) 0 (kX11_undo 6 rfl) rfl rfl rfl ?_
    refine X_getI (n := 14) xf_X11 hk0 (by decide) fl_X11_233 rfl (kX11_undo 7 rfl) rfl ?_
    refine X_bipush (n := 16) (v := 8) (kX11_undo 8 rfl) rfl (by decide) ?_
    refine X_iadd (n := 17) (kX11_undo 9 rfl) rfl ?_
    refine X_iconst (n := 18) (v := 1) (kX11_undo 10 rfl) rfl (by decide) ?_
    refine X_isub (n := 19) (kX11_undo 11 rfl) rfl ?_
    refine X_bipush (n := 21) (v := 8) (kX11_undo 12 rfl) rfl (by decide) ?_
    refine X_irem' (n := 22) (kX11_undo 13 rfl) rfl (by decide) ?_
    refine X_putI (n := 25) xf_X11 hk0 (by decide) fl_X11_233 rfl rfl (Or.inl rfl) (kX11_undo 14 rfl) rfl ?_
    refine X_aload_n (n := 26) 0 (kX11_undo 15 rfl) rfl rfl rfl ?_
    refine X_dup (n := 27) (kX11_undo 16 rfl) rfl rfl ?_
    refine X_getI (n := 30) xf_X11 hk0 (by decide) fl_X11_230 rfl (kX11_undo 17 rfl) rfl ?_
    refine X_iconst (n := 31) (v := 1) (kX11_undo 18 rfl) rfl (by decide) ?_
    refine X_isub (n := 32) (kX11_undo 19 rfl) rfl ?_
    refine X_putI (n := 35) xf_X11 hk0 (by decide) fl_X11_230 rfl rfl (Or.inl rfl) (kX11_undo 20 rfl) rfl ?_
    refine X_aload_n (n := 36) 0 (kX11_undo 21 rfl) rfl rfl rfl ?_
    refine X_getI (n := 39) xf_X11 hk0 (by decide) fl_X11_233 rfl (kX11_undo 22 rfl) rfl ?_
    refine X_if_lt (n := 42) (tgt := 82) (kX11_undo 23 rfl) rfl rfl (fun h2 => ?_) (fun h2 => ?_)
    · refine X_aload_n (n := 83) 0 (kX11_undo 44 rfl) rfl rfl rfl ?_
      refine X_getI (n := 86) xf_X11 hk0 (by decide) fl_X11_230 rfl (kX11_undo 45 rfl) rfl ?_
      exact X_iret rfl (kX11_undo 46 rfl)
    · refine X_aload_n (n := 43) 0 (kX11_undo 24 rfl) rfl rfl rfl ?_
      refine X_getI (n := 46) xf_X11 hk0 (by decide) fl_X11_233 rfl (kX11_undo 25 rfl) rfl ?_
      refine X_aload_n (n := 47) 0 (kX11_undo 26 rfl) rfl rfl rfl ?_
      refine X_getR (n := 50) xf_X11 hk0 (by decide) fl_X11_60 rfl (kX11_undo 27 rfl) rfl ?_
      refine X_alenW (n := 51) (v := 8) (kt_11_7 hk0) (kX11_undo 28 rfl) rfl (by rw [lt_11_7 hk0]; rfl) ?_
      refine X_ic_ge (n := 54) (tgt := 82) (kX11_undo 29 rfl) rfl rfl (fun h3 => ?_) (fun h3 => ?_)
      · refine X_aload_n (n := 83) 0 (kX11_undo 44 rfl) rfl rfl rfl ?_
        refine X_getI (n := 86) xf_X11 hk0 (by decide) fl_X11_230 rfl (kX11_undo 45 rfl) rfl ?_
        exact X_iret rfl (kX11_undo 46 rfl)
      · refine X_aload_n (n := 55) 0 (kX11_undo 30 rfl) rfl rfl rfl ?_
        refine X_getR (n := 58) xf_X11 hk0 (by decide) fl_X11_60 rfl (kX11_undo 31 rfl) rfl ?_
        refine X_aload_n (n := 59) 0 (kX11_undo 32 rfl) rfl rfl rfl ?_
        refine X_getI (n := 62) xf_X11 hk0 (by decide) fl_X11_233 rfl (kX11_undo 33 rfl) rfl ?_
        refine X_aaldW (n := 63) (kt_11_7 hk0) (kX11_undo 34 rfl) rfl (fun h4 => ?_)
        refine X_ifnull (n := 66) (kX11_undo 35 rfl) rfl ?_
        refine X_aload_n (n := 67) 0 (kX11_undo 36 rfl) rfl rfl rfl ?_
        refine X_getR (n := 70) xf_X11 hk0 (by decide) fl_X11_35 rfl (kX11_undo 37 rfl) rfl ?_
        refine X_aload_n (n := 71) 0 (kX11_undo 38 rfl) rfl rfl rfl ?_
        refine X_getR (n := 74) xf_X11 hk0 (by decide) fl_X11_60 rfl (kX11_undo 39 rfl) rfl ?_
        refine X_aload_n (n := 75) 0 (kX11_undo 40 rfl) rfl rfl rfl ?_
        refine X_getI (n := 78) xf_X11 hk0 (by decide) fl_X11_233 rfl (kX11_undo 41 rfl) rfl ?_
        refine X_aaldW (n := 79) (kt_11_7 hk0) (kX11_undo 42 rfl) rfl (fun h5 => ?_)
        refine X_callV1V (n := 82) (As := [.ref (rf (rf a0 7) ((sI (sI S a0 8 (rem32 (((S.1 a0 8) + (8 : Int32)) - (1 : Int32)) (8 : Int32))) a0 9 (((sI S a0 8 (rem32 (((S.1 a0 8) + (8 : Int32)) - (1 : Int32)) (8 : Int32))).1 a0 9) - (1 : Int32))).1 a0 8).toNatClampNeg)]) (st := []) (kX11_undo 43 rfl) rfl (p_X10_copyFrom (kt_11_3 hk0) (ka_23 (kt_11_7 hk0) h5)) (by decide) ml_X11_236 mf_X10_copyFrom rfl (kt_11_3 hk0) xf_X10 rfl (Nat.le_of_ble_eq_true rfl) ?_
        refine X_aload_n (n := 83) 0 (kX11_undo 44 rfl) rfl rfl rfl ?_
        refine X_getI (n := 86) xf_X11 hk0 (by decide) fl_X11_230 rfl (kX11_undo 45 rfl) rfl ?_
        exact X_iret rfl (kX11_undo 46 rfl)
  · refine X_iconst (n := 8) (v := (-1)) (kX11_undo 3 rfl) rfl (by decide) ?_
    exact X_iret rfl (kX11_undo 4 rfl)
