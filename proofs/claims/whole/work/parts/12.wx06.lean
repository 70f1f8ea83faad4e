def f_X11_on_L16  (a0 : Nat) (i1 : Int32) : Nat → Int32 → XS → Option (XS)
  | 0, _, _ => none
  | n + 1, i2, S => (if i1 ≤ i2 then some S else ((f_X10_passHour (rf a0 3) (rf a0 1) false S).bind (fun S4 => f_X11_on_L16 a0 i1 n (i2 + 1) S4)))
def f_X11_on  (a0 : Nat) (i1 : Int32) (S : XS) : Option (Int32 × XS) := (if (t_X11_canPass a0 i1 S) = true then ((f_X11_keepPast a0 S).bind (fun S2 => ((f_X11_on_L16 a0 i1 1000000 (0 : Int32) S2).bind (fun S5 => some ((S5.1 (rf a0 3) 0), S5))))) else some ((-1 : Int32), S))
set_option maxHeartbeats 4000000 in
set_option maxRecDepth 100000 in
theorem w_X11_on_L16 {l : Launch} {g : XG} {G : (XS) → Option (Int32 × XS)}  {a0 : Nat} {i1 : Int32} (hk0 : kd a0 = 11) (kE : ∀ (S1 : XS), X φI l g 5 mX11_on 39 [(0, .ref a0)] [] S1 (G S1)) : ∀ (n : Nat) (i2 : Int32) (S : XS), X φI l g 5 mX11_on 16 [(2, .int i2), (0, .ref a0), (1, .int i1)] [] S ((f_X11_on_L16 a0 i1 n i2 S).bind G) := by
  intro n
  induction n with
  | zero => intro i2 S; exact X_none
  | succ n ih =>
  · intro i2 S
    rw [f_X11_on_L16]
    refine X_iload_n (n := 17) 0 (kX11_on 10 rfl) rfl rfl rfl ?_
    refine X_iload_n (n := 18) 2 (kX11_on 11 rfl) rfl rfl rfl ?_
    refine X_itebind ?_
    refine X_ic_ge (n := 21) (tgt := 39) (kX11_on 12 rfl) rfl rfl (fun h3 => ?_) (fun h3 => ?_)
    · exact X_L [1] rfl (kE S)
    · refine X_aload_n (n := 22) 1 (kX11_on 13 rfl) rfl rfl rfl ?_
      refine X_getR (n := 25) xf_X11 hk0 (by decide) fl_X11_35 rfl (kX11_on 14 rfl) rfl ?_
      refine X_aload_n (n := 26) 1 (kX11_on 15 rfl) rfl rfl rfl ?_
      refine X_getR (n := 29) xf_X11 hk0 (by decide) fl_X11_19 rfl (kX11_on 16 rfl) rfl ?_
      refine X_iconst (n := 30) (v := 0) (kX11_on 17 rfl) rfl (by decide) ?_
      refine X_assoc ?_
      refine X_callVV (n := 33) (As := [.ref (rf a0 1), .int (bi false)]) (st := []) (kX11_on 18 rfl) rfl (w_X10_passHour (kt_11_3 hk0) (kt_11_1 hk0)) (by decide) ml_X11_223 mf_X10_passHour rfl (kt_11_3 hk0) xf_X10 rfl (Nat.le_of_ble_eq_true rfl) (fun S4 hq => ?_)
      try dsimp only
      refine X_iinc (n := 36) 0 (v := (i2 + 1)) (L1 := [(2, .int (i2 + 1)), (0, .ref a0), (1, .int i1)]) (kX11_on 19 rfl) rfl rfl rfl (Nat.le_of_ble_eq_true rfl) rfl ?_
      refine X_goto (tgt := 16) (kX11_on 20 rfl) rfl ?_
      exact X_L [0, 1, 2] rfl (ih (i2 + 1) S4)
set_option maxHeartbeats 4000000 in
set_option maxRecDepth 100000 in
theorem w_X11_on {l : Launch} {g : XG}  {a0 : Nat} {i1 : Int32} {S : XS} (hk0 : kd a0 = 11) : Cl φI l g 5 mX11_on [.ref a0, .int i1] S (f_X11_on a0 i1 S) := by
  refine Cl.of (by decide +kernel) (Nat.le_of_ble_eq_true rfl) ?_
  unfold f_X11_on
  show X _ _ _ _ _ 0 [(0, .ref a0), (1, .int i1)] [] S _
  refine X_aload_n (n := 1) 0 (kX11_on 0 rfl) rfl rfl rfl ?_
  refine X_iload_n (n := 2) 1 (kX11_on 1 rfl) rfl rfl rfl ?_
  refine X_callV1B (n := 5) (As := [.int i1]) (st := []) (kX11_on 2 rfl) rfl (p_X11_canPass hk0) (by decide) ml_X11_220 mf_X11_canPass rfl hk0 xf_X11 rfl (Nat.le_of_ble_eq_true rfl) ?_
  refine X_bn (n := 8) (tgt := 10) (kX11_on 3 rfl) rfl rfl (fun h1 => ?_) (fun h1 => ?_)
  · refine X_aload_n (n := 11) 0 (kX11_on 6 rfl) rfl rfl rfl ?_
    refine X_callVV (n := 14) (As := []) (st := []) (kX11_on 7 rfl) rfl (w_X11_keepPast hk0) (by decide) ml_X11_195 mf_X11_keepPast rfl hk0 xf_X11 rfl (Nat.le_of_ble_eq_true rfl) (fun S2 hq => ?_)
    try dsimp only
    refine X_iconst (n := 15) (v := 0) (kX11_on 8 rfl) rfl (by decide) ?_
    refine X_istore_n (n := 16) (L1 := [(2, .int 0), (0, .ref a0), (1, .int i1)]) (kX11_on 9 rfl) rfl rfl (Nat.le_of_ble_eq_true rfl) rfl ?_
    refine X_L [0, 1, 2] rfl (w_X11_on_L16 hk0 (fun S5 => ?_) 1000000 (0 : Int32) S2)
    try dsimp only
    refine X_aload_n (n := 40) 0 (kX11_on 21 rfl) rfl rfl rfl ?_
    refine X_getR (n := 43) xf_X11 hk0 (by decide) fl_X11_35 rfl (kX11_on 22 rfl) rfl ?_
    refine X_getI (n := 46) xf_X10 (kt_11_3 hk0) (by decide) fl_X11_227 rfl (kX11_on 23 rfl) rfl ?_
    exact X_iret rfl (kX11_on 24 rfl)
  · refine X_iconst (n := 9) (v := (-1)) (kX11_on 4 rfl) rfl (by decide) ?_
    exact X_iret rfl (kX11_on 5 rfl)
def f_X11_odds_L47  (a0 : Nat) (i1 : Int32) (i2 : Int32) (i3 : Int32) : Nat → Int32 → Int32 → XS → Option (Int32 × XS)
  | 0, _, _, _ => none
  | n + 1, i4, i5, S => (if i2 ≤ i5 then some (i4, S) else ((f_X1_endsInOwnCoat (rf a0 17) (rf a0 1) (rf a0 3) i1 (i3 + i5) S).bind (fun q => match q with | (r7, S8) => (if r7 = true then f_X11_odds_L47 a0 i1 i2 i3 n (i4 + 1) (i5 + 1) S8 else f_X11_odds_L47 a0 i1 i2 i3 n i4 (i5 + 1) S8))))
def f_X11_odds  (a0 : Nat) (i1 : Int32) (i2 : Int32) (i3 : Int32) (S : XS) : Option (Int32 × XS) := (if (t_X2_has (rf a0 1) (2 : Int32) i1 S) = true then (if i2 < (1 : Int32) then some ((-1 : Int32), S) else (if (40 : Int32) < i2 then some ((-1 : Int32), S) else (if (t_X11_canPass a0 (20 : Int32) S) = true then (if (t_X11_canDraw a0 S) = true then ((f_X11_odds_L47 a0 i1 i2 i3 1000000 (0 : Int32) (0 : Int32) S).bind (fun q => match q with | (e10, S11) => some (e10, S11))) else some ((-1 : Int32), S)) else some ((-1 : Int32), S)))) else some ((-1 : Int32), S))
set_option maxHeartbeats 4000000 in
set_option maxRecDepth 100000 in
theorem w_X11_odds_L47 {l : Launch} {g : XG} {G : (Int32 × XS) → Option (Int32 × XS)}  {a0 : Nat} {i1 : Int32} {i2 : Int32} {i3 : Int32} (hk0 : kd a0 = 11) (kE : ∀ (e4 : Int32) (S1 : XS), X φI l g 5 mX11_odds 85 [(4, .int e4)] [] S1 (G (e4, S1))) : ∀ (n : Nat) (i4 : Int32) (i5 : Int32) (S : XS), X φI l g 5 mX11_odds 47 [(5, .int i5), (4, .int i4), (0, .ref a0), (1, .int i1), (2, .int i2), (3, .int i3)] [] S ((f_X11_odds_L47 a0 i1 i2 i3 n i4 i5 S).bind G) := by
  intro n
  induction n with
  | zero => intro i4 i5 S; exact X_none
  | succ n ih =>
  · intro i4 i5 S
    rw [f_X11_odds_L47]
    refine X_iload (n := 49) 0 (kX11_odds 25 rfl) rfl rfl ?_
    refine X_iload_n (n := 50) 4 (kX11_odds 26 rfl) rfl rfl rfl ?_
    refine X_itebind ?_
    refine X_ic_ge (n := 53) (tgt := 85) (kX11_odds 27 rfl) rfl rfl (fun h6 => ?_) (fun h6 => ?_)
    · exact X_L [1] rfl (kE i4 S)
    · refine X_aload_n (n := 54) 2 (kX11_odds 28 rfl) rfl rfl rfl ?_
      refine X_getR (n := 57) xf_X11 hk0 (by decide) fl_X11_103 rfl (kX11_odds 29 rfl) rfl ?_
      refine X_aload_n (n := 58) 2 (kX11_odds 30 rfl) rfl rfl rfl ?_
      refine X_getR (n := 61) xf_X11 hk0 (by decide) fl_X11_19 rfl (kX11_odds 31 rfl) rfl ?_
      refine X_aload_n (n := 62) 2 (kX11_odds 32 rfl) rfl rfl rfl ?_
      refine X_getR (n := 65) xf_X11 hk0 (by decide) fl_X11_35 rfl (kX11_odds 33 rfl) rfl ?_
      refine X_iload_n (n := 66) 3 (kX11_odds 34 rfl) rfl rfl rfl ?_
      refine X_iload_n (n := 67) 5 (kX11_odds 35 rfl) rfl rfl rfl ?_
      refine X_iload (n := 69) 0 (kX11_odds 36 rfl) rfl rfl ?_
      refine X_iadd (n := 70) (kX11_odds 37 rfl) rfl ?_
      refine X_assoc ?_
      refine X_callVB (n := 73) (As := [.ref (rf a0 1), .ref (rf a0 3), .int i1, .int (i3 + i5)]) (st := []) (kX11_odds 38 rfl) rfl (w_X1_endsInOwnCoat (kt_11_17 hk0) (kt_11_1 hk0) (kt_11_3 hk0)) (by decide) ml_X11_332 mf_X1_endsInOwnCoat rfl (kt_11_17 hk0) xf_X1 rfl (Nat.le_of_ble_eq_true rfl) (fun r7 S8 hq => ?_)
      try dsimp only
      refine X_itebind ?_
      refine X_bz (n := 76) (tgt := 79) (kX11_odds 39 rfl) rfl rfl (fun h9 => ?_) (fun h9 => ?_)
      · refine X_iinc (n := 79) 1 (v := (i4 + 1)) (L1 := [(4, .int (i4 + 1)), (5, .int i5), (0, .ref a0), (1, .int i1), (2, .int i2), (3, .int i3)]) (kX11_odds 40 rfl) rfl rfl rfl (Nat.le_of_ble_eq_true rfl) rfl ?_
        refine X_iinc (n := 82) 1 (v := (i5 + 1)) (L1 := [(5, .int (i5 + 1)), (4, .int (i4 + 1)), (0, .ref a0), (1, .int i1), (2, .int i2), (3, .int i3)]) (kX11_odds 41 rfl) rfl rfl rfl (Nat.le_of_ble_eq_true rfl) rfl ?_
        refine X_goto (tgt := 47) (kX11_odds 42 rfl) rfl ?_
        exact X_L [0, 1, 2, 3, 4, 5] rfl (ih (i4 + 1) (i5 + 1) S8)
      · refine X_iinc (n := 82) 0 (v := (i5 + 1)) (L1 := [(5, .int (i5 + 1)), (4, .int i4), (0, .ref a0), (1, .int i1), (2, .int i2), (3, .int i3)]) (kX11_odds 41 rfl) rfl rfl rfl (Nat.le_of_ble_eq_true rfl) rfl ?_
        refine X_goto (tgt := 47) (kX11_odds 42 rfl) rfl ?_
        exact X_L [0, 1, 2, 3, 4, 5] rfl (ih i4 (i5 + 1) S8)
set_option maxHeartbeats 4000000 in
set_option maxRecDepth 100000 in
theorem w_X11_odds {l : Launch} {g : XG}  {a0 : Nat} {i1 : Int32} {i2 : Int32} {i3 : Int32} {S : XS} (hk0 : kd a0 = 11) : Cl φI l g 5 mX11_odds [.ref a0, .int i1, .int i2, .int i3] S (f_X11_odds a0 i1 i2 i3 S) := by
  refine Cl.of (by decide +kernel) (Nat.le_of_ble_eq_true rfl) ?_
  unfold f_X11_odds
  show X _ _ _ _ _ 0 [(0, .ref a0), (1, .int i1), (2, .int i2), (3, .int i3)] [] S _
  refine X_aload_n (n := 1) 0 (kX11_odds 0 rfl) rfl rfl rfl ?_
  refine X_getR (n := 4) xf_X11 hk0 (by decide) fl_X11_19 rfl (kX11_odds 1 rfl) rfl ?_
  refine X_iconst (n := 5) (v := 2) (kX11_odds 2 rfl) rfl (by decide) ?_
  refine X_iload_n (n := 6) 1 (kX11_odds 3 rfl) rfl rfl rfl ?_
  refine X_callV1B (n := 9) (As := [.int (2 : Int32), .int i1]) (st := []) (kX11_odds 4 rfl) rfl (p_X2_has (kt_11_1 hk0)) (by decide) ml_X11_144 mf_X2_has rfl (kt_11_1 hk0) xf_X2 rfl (Nat.le_of_ble_eq_true rfl) ?_
  refine X_bz (n := 12) (tgt := 39) (kX11_odds 5 rfl) rfl rfl (fun h1 => ?_) (fun h1 => ?_)
  · refine X_iload_n (n := 13) 2 (kX11_odds 6 rfl) rfl rfl rfl ?_
    refine X_iconst (n := 14) (v := 1) (kX11_odds 7 rfl) rfl (by decide) ?_
    refine X_ic_lt (n := 17) (tgt := 39) (kX11_odds 8 rfl) rfl rfl (fun h2 => ?_) (fun h2 => ?_)
    · refine X_iconst (n := 40) (v := (-1)) (kX11_odds 19 rfl) rfl (by decide) ?_
      exact X_iret rfl (kX11_odds 20 rfl)
    · refine X_iload_n (n := 18) 2 (kX11_odds 9 rfl) rfl rfl rfl ?_
      refine X_bipush (n := 20) (v := 40) (kX11_odds 10 rfl) rfl (by decide) ?_
      refine X_ic_gt (n := 23) (tgt := 39) (kX11_odds 11 rfl) rfl rfl (fun h3 => ?_) (fun h3 => ?_)
      · refine X_iconst (n := 40) (v := (-1)) (kX11_odds 19 rfl) rfl (by decide) ?_
        exact X_iret rfl (kX11_odds 20 rfl)
      · refine X_aload_n (n := 24) 0 (kX11_odds 12 rfl) rfl rfl rfl ?_
        refine X_bipush (n := 26) (v := 20) (kX11_odds 13 rfl) rfl (by decide) ?_
        refine X_callV1B (n := 29) (As := [.int (20 : Int32)]) (st := []) (kX11_odds 14 rfl) rfl (p_X11_canPass hk0) (by decide) ml_X11_220 mf_X11_canPass rfl hk0 xf_X11 rfl (Nat.le_of_ble_eq_true rfl) ?_
        refine X_bz (n := 32) (tgt := 39) (kX11_odds 15 rfl) rfl rfl (fun h4 => ?_) (fun h4 => ?_)
        · refine X_aload_n (n := 33) 0 (kX11_odds 16 rfl) rfl rfl rfl ?_
          refine X_callV1B (n := 36) (As := []) (st := []) (kX11_odds 17 rfl) rfl (p_X11_canDraw hk0) (by decide) ml_X11_312 mf_X11_canDraw rfl hk0 xf_X11 rfl (Nat.le_of_ble_eq_true rfl) ?_
          refine X_bn (n := 39) (tgt := 41) (kX11_odds 18 rfl) rfl rfl (fun h5 => ?_) (fun h5 => ?_)
          · refine X_iconst (n := 42) (v := 0) (kX11_odds 21 rfl) rfl (by decide) ?_
            refine X_istore (n := 44) (L1 := [(4, .int 0), (0, .ref a0), (1, .int i1), (2, .int i2), (3, .int i3)]) (kX11_odds 22 rfl) rfl (Nat.le_of_ble_eq_true rfl) rfl ?_
            refine X_iconst (n := 45) (v := 0) (kX11_odds 23 rfl) rfl (by decide) ?_
            refine X_istore (n := 47) (L1 := [(5, .int 0), (4, .int 0), (0, .ref a0), (1, .int i1), (2, .int i2), (3, .int i3)]) (kX11_odds 24 rfl) rfl (Nat.le_of_ble_eq_true rfl) rfl ?_
            refine X_L [0, 1, 2, 3, 4, 5] rfl (w_X11_odds_L47 hk0 (fun e10 S11 => ?_) 1000000 (0 : Int32) (0 : Int32) S)
            try dsimp only
            refine X_iload (n := 87) 0 (kX11_odds 43 rfl) rfl rfl ?_
            exact X_iret rfl (kX11_odds 44 rfl)
          · refine X_iconst (n := 40) (v := (-1)) (kX11_odds 19 rfl) rfl (by decide) ?_
            exact X_iret rfl (kX11_odds 20 rfl)
        · refine X_iconst (n := 40) (v := (-1)) (kX11_odds 19 rfl) rfl (by decide) ?_
          exact X_iret rfl (kX11_odds 20 rfl)
  · refine X_iconst (n := 40) (v := (-1)) (kX11_odds 19 rfl) rfl (by decide) ?_
    exact X_iret rfl (kX11_odds 20 rfl)
def f_X0_search_L58  (i4 : Int32) (a0 : Nat) (a1 : Nat) : Nat → Int32 → XS → Option (XS)
  | 0, _, _ => none
  | n + 1, i5, S => (if (S.1 a0 3) ≤ i5 then some S else ((f_X0_areOthersAsTold a0 i4 i5 S).bind (fun q => match q with | (r5, S6) => (if r5 = true then ((f_X0_searchHours a0 a1 i4 i5 S6).bind (fun S8 => f_X0_search_L58 i4 a0 a1 n (i5 + 1) S8)) else f_X0_search_L58 i4 a0 a1 n (i5 + 1) S6))))
def f_X0_search_L43  (a0 : Nat) (a1 : Nat) : Nat → Int32 → XS → Option (XS)
  | 0, _, _ => none
  | n + 1, i4, S => (if (S.1 a0 3) ≤ i4 then some S else ((f_X0_search_L58 i4 a0 a1 1000000 (i4 + (1 : Int32)) S).bind (fun S9 => f_X0_search_L43 a0 a1 n (i4 + 1) S9)))
def f_X0_search  (a0 : Nat) (a1 : Nat) (a2 : Nat) (i3 : Int32) (S : XS) : Option (Int32 × XS) := ((f_X0_readTold a0 a2 (gat (sI (sI (sI S a0 2 i3) a0 3 (gat (sI S a0 2 i3) (rf a1 0) (2 : Int32))) a0 0 (0 : Int32)) (rf a1 0) (0 : Int32)) (sI (sI (sI S a0 2 i3) a0 3 (gat (sI S a0 2 i3) (rf a1 0) (2 : Int32))) a0 0 (0 : Int32))).bind (fun S1 => ((f_X0_passAllHours a0 a1 S1).bind (fun S2 => ((f_X0_search_L43 a0 a1 1000000 (0 : Int32) S2).bind (fun S10 => some ((S10.1 a0 0), S10)))))))
set_option maxHeartbeats 4000000 in
set_option maxRecDepth 100000 in
theorem w_X0_search_L58 {l : Launch} {g : XG} {G : (XS) → Option (Int32 × XS)}  {i4 : Int32} {a0 : Nat} {a1 : Nat} (hk0 : kd a0 = 0) (hk1 : kd a1 = 2) (kE : ∀ (S1 : XS), X φI l g 6 mX0_search 93 [(4, .int i4), (0, .ref a0), (1, .ref a1)] [] S1 (G S1)) : ∀ (n : Nat) (i5 : Int32) (S : XS), X φI l g 6 mX0_search 58 [(5, .int i5), (4, .int i4), (0, .ref a0), (1, .ref a1)] [] S ((f_X0_search_L58 i4 a0 a1 n i5 S).bind G) := by
  intro n
  induction n with
  | zero => intro i5 S; exact X_none
  | succ n ih =>
  · intro i5 S
    rw [f_X0_search_L58]
    refine X_iload (n := 60) 0 (kX0_search 32 rfl) rfl rfl ?_
    refine X_aload_n (n := 61) 2 (kX0_search 33 rfl) rfl rfl rfl ?_
    refine X_getI (n := 64) xf_X0 hk0 (by decide) fl_X0_40 rfl (kX0_search 34 rfl) rfl ?_
    refine X_itebind ?_
    refine X_ic_ge (n := 67) (tgt := 93) (kX0_search 35 rfl) rfl rfl (fun h4 => ?_) (fun h4 => ?_)
    · exact X_L [1, 2, 3] rfl (kE S)
    · refine X_aload_n (n := 68) 2 (kX0_search 36 rfl) rfl rfl rfl ?_
      refine X_iload (n := 70) 1 (kX0_search 37 rfl) rfl rfl ?_
      refine X_iload (n := 72) 0 (kX0_search 38 rfl) rfl rfl ?_
      refine X_assoc ?_
      refine X_callVB (n := 75) (As := [.int i4, .int i5]) (st := []) (kX0_search 39 rfl) rfl (w_X0_areOthersAsTold hk0) (by decide) ml_X0_54 mf_X0_areOthersAsTold rfl hk0 xf_X0 rfl (Nat.le_of_ble_eq_true rfl) (fun r5 S6 hq => ?_)
      try dsimp only
      refine X_itebind ?_
      refine X_bz (n := 78) (tgt := 87) (kX0_search 40 rfl) rfl rfl (fun h7 => ?_) (fun h7 => ?_)
      · refine X_aload_n (n := 79) 2 (kX0_search 41 rfl) rfl rfl rfl ?_
        refine X_aload_n (n := 80) 3 (kX0_search 42 rfl) rfl rfl rfl ?_
        refine X_iload (n := 82) 1 (kX0_search 43 rfl) rfl rfl ?_
        refine X_iload (n := 84) 0 (kX0_search 44 rfl) rfl rfl ?_
        refine X_assoc ?_
        refine X_callVV (n := 87) (As := [.ref a1, .int i4, .int i5]) (st := []) (kX0_search 45 rfl) rfl (w_X0_searchHours hk0 hk1) (by decide) ml_X0_58 mf_X0_searchHours rfl hk0 xf_X0 rfl (Nat.le_of_ble_eq_true rfl) (fun S8 hq => ?_)
        try dsimp only
        refine X_iinc (n := 90) 0 (v := (i5 + 1)) (L1 := [(5, .int (i5 + 1)), (4, .int i4), (0, .ref a0), (1, .ref a1)]) (kX0_search 46 rfl) rfl rfl rfl (Nat.le_of_ble_eq_true rfl) rfl ?_
        refine X_goto (tgt := 58) (kX0_search 47 rfl) rfl ?_
        exact X_L [0, 1, 2, 3] rfl (ih (i5 + 1) S8)
      · refine X_iinc (n := 90) 0 (v := (i5 + 1)) (L1 := [(5, .int (i5 + 1)), (4, .int i4), (0, .ref a0), (1, .ref a1)]) (kX0_search 46 rfl) rfl rfl rfl (Nat.le_of_ble_eq_true rfl) rfl ?_
        refine X_goto (tgt := 58) (kX0_search 47 rfl) rfl ?_
        exact X_L [0, 1, 2, 3] rfl (ih (i5 + 1) S6)
set_option maxHeartbeats 4000000 in
set_option maxRecDepth 100000 in
theorem w_X0_search_L43 {l : Launch} {g : XG} {G : (XS) → Option (Int32 × XS)}  {a0 : Nat} {a1 : Nat} (hk0 : kd a0 = 0) (hk1 : kd a1 = 2) (kE : ∀ (S1 : XS), X φI l g 6 mX0_search 99 [(0, .ref a0)] [] S1 (G S1)) : ∀ (n : Nat) (i4 : Int32) (S : XS), X φI l g 6 mX0_search 43 [(4, .int i4), (0, .ref a0), (1, .ref a1)] [] S ((f_X0_search_L43 a0 a1 n i4 S).bind G) := by
  intro n
  induction n with
  | zero => intro i4 S; exact X_none
  | succ n ih =>
  · intro i4 S
    rw [f_X0_search_L43]
    refine X_iload (n := 45) 0 (kX0_search 24 rfl) rfl rfl ?_
    refine X_aload_n (n := 46) 1 (kX0_search 25 rfl) rfl rfl rfl ?_
    refine X_getI (n := 49) xf_X0 hk0 (by decide) fl_X0_40 rfl (kX0_search 26 rfl) rfl ?_
    refine X_itebind ?_
    refine X_ic_ge (n := 52) (tgt := 99) (kX0_search 27 rfl) rfl rfl (fun h3 => ?_) (fun h3 => ?_)
    · exact X_L [1] rfl (kE S)
    · refine X_iload (n := 54) 0 (kX0_search 28 rfl) rfl rfl ?_
      refine X_iconst (n := 55) (v := 1) (kX0_search 29 rfl) rfl (by decide) ?_
      refine X_iadd (n := 56) (kX0_search 30 rfl) rfl ?_
      refine X_istore (n := 58) (L1 := [(5, .int (i4 + (1 : Int32))), (4, .int i4), (0, .ref a0), (1, .ref a1)]) (kX0_search 31 rfl) rfl (Nat.le_of_ble_eq_true rfl) rfl ?_
      refine X_assoc ?_
      refine X_L [0, 1, 2, 3] rfl (w_X0_search_L58 hk0 hk1 (fun S9 => ?_) 1000000 (i4 + (1 : Int32)) S)
      try dsimp only
      refine X_iinc (n := 96) 0 (v := (i4 + 1)) (L1 := [(4, .int (i4 + 1)), (0, .ref a0), (1, .ref a1)]) (kX0_search 48 rfl) rfl rfl rfl (Nat.le_of_ble_eq_true rfl) rfl ?_
      refine X_goto (tgt := 43) (kX0_search 49 rfl) rfl ?_
      exact X_L [0, 1, 2] rfl (ih (i4 + 1) S9)
set_option maxHeartbeats 4000000 in
set_option maxRecDepth 100000 in
theorem w_X0_search {l : Launch} {g : XG}  {a0 : Nat} {a1 : Nat} {a2 : Nat} {i3 : Int32} {S : XS} (hk0 : kd a0 = 0) (hk1 : kd a1 = 2) (hk2 : kd a2 = 8) : Cl φI l g 6 mX0_search [.ref a0, .ref a1, .ref a2, .int i3] S (f_X0_search a0 a1 a2 i3 S) := by
  refine Cl.of (by decide +kernel) (Nat.le_of_ble_eq_true rfl) ?_
  unfold f_X0_search
  show X _ _ _ _ _ 0 [(0, .ref a0), (1, .ref a1), (2, .ref a2), (3, .int i3)] [] S _
  refine X_aload_n (n := 1) 0 (kX0_search 0 rfl) rfl rfl rfl ?_
  refine X_iload_n (n := 2) 3 (kX0_search 1 rfl) rfl rfl rfl ?_
  refine X_putI (n := 5) xf_X0 hk0 (by decide) fl_X0_27 rfl rfl (Or.inl rfl) (kX0_search 2 rfl) rfl ?_
  refine X_aload_n (n := 6) 0 (kX0_search 3 rfl) rfl rfl rfl ?_
  refine X_aload_n (n := 7) 1 (kX0_search 4 rfl) rfl rfl rfl ?_
  refine X_getR (n := 10) xf_X2 hk1 (by decide) fl_X0_31 rfl (kX0_search 5 rfl) rfl ?_
  refine X_iconst (n := 11) (v := 2) (kX0_search 6 rfl) rfl (by decide) ?_
  refine X_callN1I (n := 14) (As := [.ref (rf a1 0), .int (2 : Int32)]) (st := [.ref a0]) (kX0_search 7 rfl) rfl (p_X11_at (kt_2_0 hk1)) (by decide) nl_X0_36 mf_X11_at rfl rfl (Nat.le_of_ble_eq_true rfl) ?_
  refine X_putI (n := 17) xf_X0 hk0 (by decide) fl_X0_40 rfl rfl (Or.inl rfl) (kX0_search 8 rfl) rfl ?_
  refine X_aload_n (n := 18) 0 (kX0_search 9 rfl) rfl rfl rfl ?_
  refine X_iconst (n := 19) (v := 0) (kX0_search 10 rfl) rfl (by decide) ?_
  refine X_putI (n := 22) xf_X0 hk0 (by decide) fl_X0_43 rfl rfl (Or.inl rfl) (kX0_search 11 rfl) rfl ?_
  refine X_aload_n (n := 23) 0 (kX0_search 12 rfl) rfl rfl rfl ?_
  refine X_aload_n (n := 24) 2 (kX0_search 13 rfl) rfl rfl rfl ?_
  refine X_aload_n (n := 25) 1 (kX0_search 14 rfl) rfl rfl rfl ?_
  refine X_getR (n := 28) xf_X2 hk1 (by decide) fl_X0_31 rfl (kX0_search 15 rfl) rfl ?_
  refine X_iconst (n := 29) (v := 0) (kX0_search 16 rfl) rfl (by decide) ?_
  refine X_callN1I (n := 32) (As := [.ref (rf a1 0), .int (0 : Int32)]) (st := [.ref a2, .ref a0]) (kX0_search 17 rfl) rfl (p_X11_at (kt_2_0 hk1)) (by decide) nl_X0_36 mf_X11_at rfl rfl (Nat.le_of_ble_eq_true rfl) ?_
  refine X_callVV (n := 35) (As := [.ref a2, .int (gat (sI (sI (sI S a0 2 i3) a0 3 (gat (sI S a0 2 i3) (rf a1 0) (2 : Int32))) a0 0 (0 : Int32)) (rf a1 0) (0 : Int32))]) (st := []) (kX0_search 18 rfl) rfl (w_X0_readTold hk0 hk2) (by decide) ml_X0_46 mf_X0_readTold rfl hk0 xf_X0 rfl (Nat.le_of_ble_eq_true rfl) (fun S1 hq => ?_)
  try dsimp only
  refine X_aload_n (n := 36) 0 (kX0_search 19 rfl) rfl rfl rfl ?_
  refine X_aload_n (n := 37) 1 (kX0_search 20 rfl) rfl rfl rfl ?_
  refine X_callVV (n := 40) (As := [.ref a1]) (st := []) (kX0_search 21 rfl) rfl (w_X0_passAllHours hk0 hk1) (by decide) ml_X0_50 mf_X0_passAllHours rfl hk0 xf_X0 rfl (Nat.le_of_ble_eq_true rfl) (fun S2 hq => ?_)
  try dsimp only
  refine X_iconst (n := 41) (v := 0) (kX0_search 22 rfl) rfl (by decide) ?_
  refine X_istore (n := 43) (L1 := [(4, .int 0), (0, .ref a0), (1, .ref a1), (2, .ref a2), (3, .int i3)]) (kX0_search 23 rfl) rfl (Nat.le_of_ble_eq_true rfl) rfl ?_
  refine X_L [0, 1, 2] rfl (w_X0_search_L43 hk0 hk1 (fun S10 => ?_) 1000000 (0 : Int32) S2)
  try dsimp only
  refine X_aload_n (n := 100) 0 (kX0_search 50 rfl) rfl rfl rfl ?_
  refine X_getI (n := 103) xf_X0 hk0 (by decide) fl_X0_43 rfl (kX0_search 51 rfl) rfl ?_
  exact X_iret rfl (kX0_search 52 rfl)
def f_X3_readLine  (a0 : Nat) (S : XS) : Option (Bool × XS) := (if ((S.1 (rf a0 0) 10) - (128 : Int32)) < 0 then some ((t_X8_fail (rf a0 0) (1 : Int32) S).1, (t_X8_fail (rf a0 0) (1 : Int32) S).2) else (if ((S.1 (rf a0 0) 10) - (128 : Int32)) ≤ (5 : Int32) then (if (gat S (rf (rf a0 1) 0) ((S.1 (rf a0 0) 10) - (128 : Int32))) < (mostI ((S.1 (rf a0 0) 10) - (128 : Int32))) then (if ((S.1 (rf a0 0) 10) - (128 : Int32)) = 0 then ((f_X3_readScent a0 (t_X8_step (rf a0 0) S)).bind (fun q => match q with | (r6, S7) => some (r6, S7))) else (if ((S.1 (rf a0 0) 10) - (128 : Int32)) = 1 then ((f_X3_readPlace a0 (t_X8_step (rf a0 0) S)).bind (fun q => match q with | (r8, S9) => some (r8, S9))) else (if ((S.1 (rf a0 0) 10) - (128 : Int32)) = 2 then ((f_X3_readWitness a0 (t_X8_step (rf a0 0) S)).bind (fun q => match q with | (r10, S11) => some (r10, S11))) else (if ((S.1 (rf a0 0) 10) - (128 : Int32)) = 3 then ((f_X3_readSmoke a0 (t_X8_step (rf a0 0) S)).bind (fun q => match q with | (r12, S13) => some (r12, S13))) else (if ((S.1 (rf a0 0) 10) - (128 : Int32)) = 4 then ((f_X3_readWent a0 (t_X8_step (rf a0 0) S)).bind (fun q => match q with | (r14, S15) => some (r14, S15))) else ((f_X3_readRain a0 (t_X8_step (rf a0 0) S)).bind (fun q => match q with | (r4, S5) => some (r4, S5)))))))) else some ((t_X8_fail (rf a0 0) (4 : Int32) S).1, (t_X8_fail (rf a0 0) (4 : Int32) S).2)) else some ((t_X8_fail (rf a0 0) (1 : Int32) S).1, (t_X8_fail (rf a0 0) (1 : Int32) S).2)))
set_option maxHeartbeats 4000000 in
set_option maxRecDepth 100000 in
theorem w_X3_readLine {l : Launch} {g : XG}  {a0 : Nat} {S : XS} (hk0 : kd a0 = 3) : Cl φB l g 6 mX3_readLine [.ref a0] S (f_X3_readLine a0 S) := by
  refine Cl.of (by decide +kernel) (Nat.le_of_ble_eq_true rfl) ?_
  unfold f_X3_readLine
  show X _ _ _ _ _ 0 [(0, .ref a0)] [] S _
  refine X_aload_n (n := 1) 0 (kX3_readLine 0 rfl) rfl rfl rfl ?_
  refine X_getR (n := 4) xf_X3 hk0 (by decide) fl_X3_25 rfl (kX3_readLine 1 rfl) rfl ?_
  refine X_getI (n := 7) xf_X8 (kt_3_0 hk0) (by decide) fl_X3_44 rfl (kX3_readLine 2 rfl) rfl ?_
  refine X_sipush (n := 10) (v := 128) (kX3_readLine 3 rfl) rfl (by decide) ?_
  refine X_isub (n := 11) (kX3_readLine 4 rfl) rfl ?_
  refine X_istore_n (n := 12) (L1 := [(1, .int ((S.1 (rf a0 0) 10) - (128 : Int32))), (0, .ref a0)]) (kX3_readLine 5 rfl) rfl rfl (Nat.le_of_ble_eq_true rfl) rfl ?_
  refine X_iload_n (n := 13) 0 (kX3_readLine 6 rfl) rfl rfl rfl ?_
  refine X_if_lt (n := 16) (tgt := 21) (kX3_readLine 7 rfl) rfl rfl (fun h1 => ?_) (fun h1 => ?_)
  · refine X_aload_n (n := 22) 1 (kX3_readLine 11 rfl) rfl rfl rfl ?_
    refine X_getR (n := 25) xf_X3 hk0 (by decide) fl_X3_25 rfl (kX3_readLine 12 rfl) rfl ?_
    refine X_iconst (n := 26) (v := 1) (kX3_readLine 13 rfl) rfl (by decide) ?_
    refine X_callV1B (n := 29) (As := [.int (1 : Int32)]) (st := []) (kX3_readLine 14 rfl) rfl (p_X8_fail (kt_3_0 hk0)) (by decide) ml_X3_56 mf_X8_fail rfl (kt_3_0 hk0) xf_X8 rfl (Nat.le_of_ble_eq_true rfl) ?_
    exact X_zret (b := (t_X8_fail (rf a0 0) (1 : Int32) S).1) rfl (kX3_readLine 15 rfl)
  · refine X_iload_n (n := 17) 0 (kX3_readLine 8 rfl) rfl rfl rfl ?_
    refine X_iconst (n := 18) (v := 5) (kX3_readLine 9 rfl) rfl (by decide) ?_
    refine X_ic_le (n := 21) (tgt := 30) (kX3_readLine 10 rfl) rfl rfl (fun h2 => ?_) (fun h2 => ?_)
    · refine X_aload_n (n := 31) 1 (kX3_readLine 16 rfl) rfl rfl rfl ?_
      refine X_getR (n := 34) xf_X3 hk0 (by decide) fl_X3_12 rfl (kX3_readLine 17 rfl) rfl ?_
      refine X_getR (n := 37) xf_X2 (kt_3_1 hk0) (by decide) fl_X3_59 rfl (kX3_readLine 18 rfl) rfl ?_
      refine X_iload_n (n := 38) 0 (kX3_readLine 19 rfl) rfl rfl rfl ?_
      refine X_callN1I (n := 41) (As := [.ref (rf (rf a0 1) 0), .int ((S.1 (rf a0 0) 10) - (128 : Int32))]) (st := []) (kX3_readLine 20 rfl) rfl (p_X11_at (kt_2_0 (kt_3_1 hk0))) (by decide) nl_X3_62 mf_X11_at rfl rfl (Nat.le_of_ble_eq_true rfl) ?_
      refine X_getMN (n := 44) nf_X3_66 (kX3_readLine 21 rfl) rfl ?_
      refine X_iload_n (n := 45) 0 (kX3_readLine 22 rfl) rfl rfl rfl ?_
      refine X_callN1I (n := 48) (As := [.ref KK, .int ((S.1 (rf a0 0) 10) - (128 : Int32))]) (st := [.int (gat S (rf (rf a0 1) 0) ((S.1 (rf a0 0) 10) - (128 : Int32)))]) (kX3_readLine 23 rfl) rfl p_X11_atM (by decide) nl_X3_62 mf_X11_at rfl rfl (Nat.le_of_ble_eq_true rfl) ?_
      refine X_ic_lt (n := 51) (tgt := 60) (kX3_readLine 24 rfl) rfl rfl (fun h3 => ?_) (fun h3 => ?_)
      · refine X_aload_n (n := 61) 1 (kX3_readLine 30 rfl) rfl rfl rfl ?_
        refine X_getR (n := 64) xf_X3 hk0 (by decide) fl_X3_25 rfl (kX3_readLine 31 rfl) rfl ?_
        refine X_callV1V (n := 67) (As := []) (st := []) (kX3_readLine 32 rfl) rfl (p_X8_step (kt_3_0 hk0)) (by decide) ml_X3_69 mf_X8_step rfl (kt_3_0 hk0) xf_X8 rfl (Nat.le_of_ble_eq_true rfl) ?_
        refine X_iload_n (n := 68) 0 (kX3_readLine 33 rfl) rfl rfl rfl ?_
        refine X_ite (fun hc0 => ?_) (fun nc0 => ?_)
        · refine X_tabIn (tgt := 104) 0 (xI_of 0 hc0 (by decide)) (kX3_readLine 34 rfl) (by decide) (by decide) rfl rfl ?_
          refine X_aload_n (n := 105) 1 (kX3_readLine 35 rfl) rfl rfl rfl ?_
          refine X_callVB (n := 108) (As := []) (st := []) (kX3_readLine 36 rfl) rfl (w_X3_readScent hk0) (by decide) ml_X3_72 mf_X3_readScent rfl hk0 xf_X3 rfl (Nat.le_of_ble_eq_true rfl) (fun r6 S7 hq => ?_)
          try dsimp only
          exact X_zret (b := r6) rfl (kX3_readLine 37 rfl)
        · refine X_ite (fun hc1 => ?_) (fun nc1 => ?_)
          · refine X_tabIn (tgt := 109) 1 (xI_of 1 hc1 (by decide)) (kX3_readLine 34 rfl) (by decide) (by decide) rfl rfl ?_
            refine X_aload_n (n := 110) 1 (kX3_readLine 38 rfl) rfl rfl rfl ?_
            refine X_callVB (n := 113) (As := []) (st := []) (kX3_readLine 39 rfl) rfl (w_X3_readPlace hk0) (by decide) ml_X3_75 mf_X3_readPlace rfl hk0 xf_X3 rfl (Nat.le_of_ble_eq_true rfl) (fun r8 S9 hq => ?_)
            try dsimp only
            exact X_zret (b := r8) rfl (kX3_readLine 40 rfl)
          · refine X_ite (fun hc2 => ?_) (fun nc2 => ?_)
            · refine X_tabIn (tgt := 114) 2 (xI_of 2 hc2 (by decide)) (kX3_readLine 34 rfl) (by decide) (by decide) rfl rfl ?_
              refine X_aload_n (n := 115) 1 (kX3_readLine 41 rfl) rfl rfl rfl ?_
              refine X_callVB (n := 118) (As := []) (st := []) (kX3_readLine 42 rfl) rfl (w_X3_readWitness hk0) (by decide) ml_X3_78 mf_X3_readWitness rfl hk0 xf_X3 rfl (Nat.le_of_ble_eq_true rfl) (fun r10 S11 hq => ?_)
              try dsimp only
              exact X_zret (b := r10) rfl (kX3_readLine 43 rfl)
            · refine X_ite (fun hc3 => ?_) (fun nc3 => ?_)
              · refine X_tabIn (tgt := 119) 3 (xI_of 3 hc3 (by decide)) (kX3_readLine 34 rfl) (by decide) (by decide) rfl rfl ?_
                refine X_aload_n (n := 120) 1 (kX3_readLine 44 rfl) rfl rfl rfl ?_
                refine X_callVB (n := 123) (As := []) (st := []) (kX3_readLine 45 rfl) rfl (w_X3_readSmoke hk0) (by decide) ml_X3_81 mf_X3_readSmoke rfl hk0 xf_X3 rfl (Nat.le_of_ble_eq_true rfl) (fun r12 S13 hq => ?_)
                try dsimp only
                exact X_zret (b := r12) rfl (kX3_readLine 46 rfl)
              · refine X_ite (fun hc4 => ?_) (fun nc4 => ?_)
                · refine X_tabIn (tgt := 124) 4 (xI_of 4 hc4 (by decide)) (kX3_readLine 34 rfl) (by decide) (by decide) rfl rfl ?_
                  refine X_aload_n (n := 125) 1 (kX3_readLine 47 rfl) rfl rfl rfl ?_
                  refine X_callVB (n := 128) (As := []) (st := []) (kX3_readLine 48 rfl) rfl (w_X3_readWent hk0) (by decide) ml_X3_84 mf_X3_readWent rfl hk0 xf_X3 rfl (Nat.le_of_ble_eq_true rfl) (fun r14 S15 hq => ?_)
                  try dsimp only
                  exact X_zret (b := r14) rfl (kX3_readLine 49 rfl)
                · have e0 := xI_ne (z := 0) 0 nc0 (by decide)
                  have e1 := xI_ne (z := 1) 1 nc1 (by decide)
                  have e2 := xI_ne (z := 2) 2 nc2 (by decide)
                  have e3 := xI_ne (z := 3) 3 nc3 (by decide)
                  have e4 := xI_ne (z := 4) 4 nc4 (by decide)
                  refine X_tabOut (tgt := 129) (by omega) (kX3_readLine 34 rfl) rfl ?_
                  refine X_aload_n (n := 130) 1 (kX3_readLine 50 rfl) rfl rfl rfl ?_
                  refine X_callVB (n := 133) (As := []) (st := []) (kX3_readLine 51 rfl) rfl (w_X3_readRain hk0) (by decide) ml_X3_87 mf_X3_readRain rfl hk0 xf_X3 rfl (Nat.le_of_ble_eq_true rfl) (fun r4 S5 hq => ?_)
                  try dsimp only
                  exact X_zret (b := r4) rfl (kX3_readLine 52 rfl)
      · refine X_aload_n (n := 52) 1 (kX3_readLine 25 rfl) rfl rfl rfl ?_
        refine X_getR (n := 55) xf_X3 hk0 (by decide) fl_X3_25 rfl (kX3_readLine 26 rfl) rfl ?_
        refine X_iconst (n := 56) (v := 4) (kX3_readLine 27 rfl) rfl (by decide) ?_
        refine X_callV1B (n := 59) (As := [.int (4 : Int32)]) (st := []) (kX3_readLine 28 rfl) rfl (p_X8_fail (kt_3_0 hk0)) (by decide) ml_X3_56 mf_X8_fail rfl (kt_3_0 hk0) xf_X8 rfl (Nat.le_of_ble_eq_true rfl) ?_
        exact X_zret (b := (t_X8_fail (rf a0 0) (4 : Int32) S).1) rfl (kX3_readLine 29 rfl)
    · refine X_aload_n (n := 22) 1 (kX3_readLine 11 rfl) rfl rfl rfl ?_
      refine X_getR (n := 25) xf_X3 hk0 (by decide) fl_X3_25 rfl (kX3_readLine 12 rfl) rfl ?_
      refine X_iconst (n := 26) (v := 1) (kX3_readLine 13 rfl) rfl (by decide) ?_
      refine X_callV1B (n := 29) (As := [.int (1 : Int32)]) (st := []) (kX3_readLine 14 rfl) rfl (p_X8_fail (kt_3_0 hk0)) (by decide) ml_X3_56 mf_X8_fail rfl (kt_3_0 hk0) xf_X8 rfl (Nat.le_of_ble_eq_true rfl) ?_
      exact X_zret (b := (t_X8_fail (rf a0 0) (1 : Int32) S).1) rfl (kX3_readLine 15 rfl)
def f_X5_read_L15  (a0 : Nat) (a1 : Nat) (a2 : Nat) (a3 : Nat) : Nat → Int32 → XS → Option ((XS) ⊕ (XS))
  | 0, _, _ => none
  | n + 1, i4, S => (if (30 : Int32) < i4 then some (.inr S) else (if (S.1 a1 10) = 0 then some (.inr S) else ((f_X5_readLine a0 a1 a2 a3 i4 S).bind (fun q => match q with | (r4, S5) => (if r4 = true then f_X5_read_L15 a0 a1 a2 a3 n (i4 + 1) S5 else some (.inl S5))))))
def f_X5_read  (a0 : Nat) (a1 : Nat) (a2 : Nat) (a3 : Nat) (S : XS) : Option (XS) := ((f_X8_begin a1 (300 : Int32) (sI S a0 0 (-1 : Int32))).bind (fun S1 => ((f_X5_read_L15 a0 a1 a2 a3 1000000 (0 : Int32) S1).bind (fun q => match q with | .inl r => some r | .inr S7 => some S7))))
set_option maxHeartbeats 4000000 in
set_option maxRecDepth 100000 in
theorem w_X5_read_L15 {l : Launch} {g : XG} {G : ((XS) ⊕ (XS)) → Option (XS)}  {a0 : Nat} {a1 : Nat} {a2 : Nat} {a3 : Nat} (hk0 : kd a0 = 5) (hk1 : kd a1 = 8) (hk2 : kd a2 = 2) (hk3 : kd a3 = 10) (kE : ∀ (S1 : XS), X φV l g 6 mX5_read 48 [] [] S1 (G (.inr S1))) (kR : ∀ r, G (.inl r) = some r) : ∀ (n : Nat) (i4 : Int32) (S : XS), X φV l g 6 mX5_read 15 [(4, .int i4), (0, .ref a0), (1, .ref a1), (2, .ref a2), (3, .ref a3)] [] S ((f_X5_read_L15 a0 a1 a2 a3 n i4 S).bind G) := by
  intro n
  induction n with
  | zero => intro i4 S; exact X_none
  | succ n ih =>
  · intro i4 S
    rw [f_X5_read_L15]
    refine X_iload (n := 17) 0 (kX5_read 8 rfl) rfl rfl ?_
    refine X_bipush (n := 19) (v := 30) (kX5_read 9 rfl) rfl (by decide) ?_
    refine X_itebind ?_
    refine X_ic_gt (n := 22) (tgt := 48) (kX5_read 10 rfl) rfl rfl (fun h2 => ?_) (fun h2 => ?_)
    · exact X_L [] rfl (kE S)
    · refine X_aload_n (n := 23) 2 (kX5_read 11 rfl) rfl rfl rfl ?_
      refine X_getI (n := 26) xf_X8 hk1 (by decide) fl_X5_21 rfl (kX5_read 12 rfl) rfl ?_
      refine X_itebind ?_
      refine X_if_eq (n := 29) (tgt := 48) (kX5_read 13 rfl) rfl rfl (fun h3 => ?_) (fun h3 => ?_)
      · exact X_L [] rfl (kE S)
      · refine X_aload_n (n := 30) 1 (kX5_read 14 rfl) rfl rfl rfl ?_
        refine X_aload_n (n := 31) 2 (kX5_read 15 rfl) rfl rfl rfl ?_
        refine X_aload_n (n := 32) 3 (kX5_read 16 rfl) rfl rfl rfl ?_
        refine X_aload_n (n := 33) 4 (kX5_read 17 rfl) rfl rfl rfl ?_
        refine X_iload (n := 35) 0 (kX5_read 18 rfl) rfl rfl ?_
        refine X_assoc ?_
        refine X_callVB (n := 38) (As := [.ref a1, .ref a2, .ref a3, .int i4]) (st := []) (kX5_read 19 rfl) rfl (w_X5_readLine hk0 hk1 hk2 hk3) (by decide) ml_X5_24 mf_X5_readLine rfl hk0 xf_X5 rfl (Nat.le_of_ble_eq_true rfl) (fun r4 S5 hq => ?_)
        try dsimp only
        refine X_itebind ?_
        refine X_bn (n := 41) (tgt := 42) (kX5_read 20 rfl) rfl rfl (fun h6 => ?_) (fun h6 => ?_)
        · refine X_iinc (n := 45) 0 (v := (i4 + 1)) (L1 := [(4, .int (i4 + 1)), (0, .ref a0), (1, .ref a1), (2, .ref a2), (3, .ref a3)]) (kX5_read 22 rfl) rfl rfl rfl (Nat.le_of_ble_eq_true rfl) rfl ?_
          refine X_goto (tgt := 15) (kX5_read 23 rfl) rfl ?_
          exact X_L [0, 1, 2, 3, 4] rfl (ih (i4 + 1) S5)
        · exact X_req (kR _) (X_vret rfl (kX5_read 21 rfl))
set_option maxHeartbeats 4000000 in
set_option maxRecDepth 100000 in
theorem w_X5_read {l : Launch} {g : XG}  {a0 : Nat} {a1 : Nat} {a2 : Nat} {a3 : Nat} {S : XS} (hk0 : kd a0 = 5) (hk1 : kd a1 = 8) (hk2 : kd a2 = 2) (hk3 : kd a3 = 10) : Cl φV l g 6 mX5_read [.ref a0, .ref a1, .ref a2, .ref a3] S (f_X5_read a0 a1 a2 a3 S) := by
  refine Cl.of (by decide +kernel) (Nat.le_of_ble_eq_true rfl) ?_
  unfold f_X5_read
  show X _ _ _ _ _ 0 [(0, .ref a0), (1, .ref a1), (2, .ref a2), (3, .ref a3)] [] S _
  refine X_aload_n (n := 1) 0 (kX5_read 0 rfl) rfl rfl rfl ?_
  refine X_iconst (n := 2) (v := (-1)) (kX5_read 1 rfl) rfl (by decide) ?_
  refine X_putI (n := 5) xf_X5 hk0 (by decide) fl_X5_9 rfl rfl (Or.inl rfl) (kX5_read 2 rfl) rfl ?_
  refine X_aload_n (n := 6) 1 (kX5_read 3 rfl) rfl rfl rfl ?_
  refine X_sipush (n := 9) (v := 300) (kX5_read 4 rfl) rfl (by decide) ?_
  refine X_callVV (n := 12) (As := [.int (300 : Int32)]) (st := []) (kX5_read 5 rfl) rfl (w_X8_begin hk1) (by decide) ml_X5_15 mf_X8_begin rfl hk1 xf_X8 rfl (Nat.le_of_ble_eq_true rfl) (fun S1 hq => ?_)
  try dsimp only
  refine X_iconst (n := 13) (v := 0) (kX5_read 6 rfl) rfl (by decide) ?_
  refine X_istore (n := 15) (L1 := [(4, .int 0), (0, .ref a0), (1, .ref a1), (2, .ref a2), (3, .ref a3)]) (kX5_read 7 rfl) rfl (Nat.le_of_ble_eq_true rfl) rfl ?_
  refine X_L [0, 1, 2, 3, 4] rfl (w_X5_read_L15 hk0 hk1 hk2 hk3 (fun S7 => ?_) ?_ 1000000 (0 : Int32) S1)
  · exact X_vret rfl (kX5_read 24 rfl)
  · intro r
    rfl
def f_X11_drawn  (a0 : Nat) (i1 : Int32) (i2 : Int32) (S : XS) : Option (Int32 × XS) := (if (t_X11_canPass a0 i1 S) = true then (if (t_X11_canDraw a0 S) = true then ((f_X11_keepPast a0 S).bind (fun S3 => ((f_X1_passHours (rf a0 17) (rf a0 1) (rf a0 3) i1 i2 S3).bind (fun S4 => some ((S4.1 (rf a0 3) 0), S4))))) else some ((-1 : Int32), S)) else some ((-1 : Int32), S))
set_option maxHeartbeats 4000000 in
set_option maxRecDepth 100000 in
theorem w_X11_drawn {l : Launch} {g : XG}  {a0 : Nat} {i1 : Int32} {i2 : Int32} {S : XS} (hk0 : kd a0 = 11) : Cl φI l g 6 mX11_drawn [.ref a0, .int i1, .int i2] S (f_X11_drawn a0 i1 i2 S) := by
  refine Cl.of (by decide +kernel) (Nat.le_of_ble_eq_true rfl) ?_
  unfold f_X11_drawn
  show X _ _ _ _ _ 0 [(0, .ref a0), (1, .int i1), (2, .int i2)] [] S _
  refine X_aload_n (n := 1) 0 (kX11_drawn 0 rfl) rfl rfl rfl ?_
  refine X_iload_n (n := 2) 1 (kX11_drawn 1 rfl) rfl rfl rfl ?_
  refine X_callV1B (n := 5) (As := [.int i1]) (st := []) (kX11_drawn 2 rfl) rfl (p_X11_canPass hk0) (by decide) ml_X11_220 mf_X11_canPass rfl hk0 xf_X11 rfl (Nat.le_of_ble_eq_true rfl) ?_
  refine X_bz (n := 8) (tgt := 15) (kX11_drawn 3 rfl) rfl rfl (fun h1 => ?_) (fun h1 => ?_)
  · refine X_aload_n (n := 9) 0 (kX11_drawn 4 rfl) rfl rfl rfl ?_
    refine X_callV1B (n := 12) (As := []) (st := []) (kX11_drawn 5 rfl) rfl (p_X11_canDraw hk0) (by decide) ml_X11_312 mf_X11_canDraw rfl hk0 xf_X11 rfl (Nat.le_of_ble_eq_true rfl) ?_
    refine X_bn (n := 15) (tgt := 17) (kX11_drawn 6 rfl) rfl rfl (fun h2 => ?_) (fun h2 => ?_)
    · refine X_aload_n (n := 18) 0 (kX11_drawn 9 rfl) rfl rfl rfl ?_
      refine X_callVV (n := 21) (As := []) (st := []) (kX11_drawn 10 rfl) rfl (w_X11_keepPast hk0) (by decide) ml_X11_195 mf_X11_keepPast rfl hk0 xf_X11 rfl (Nat.le_of_ble_eq_true rfl) (fun S3 hq => ?_)
      try dsimp only
      refine X_aload_n (n := 22) 0 (kX11_drawn 11 rfl) rfl rfl rfl ?_
      refine X_getR (n := 25) xf_X11 hk0 (by decide) fl_X11_103 rfl (kX11_drawn 12 rfl) rfl ?_
      refine X_aload_n (n := 26) 0 (kX11_drawn 13 rfl) rfl rfl rfl ?_
      refine X_getR (n := 29) xf_X11 hk0 (by decide) fl_X11_19 rfl (kX11_drawn 14 rfl) rfl ?_
      refine X_aload_n (n := 30) 0 (kX11_drawn 15 rfl) rfl rfl rfl ?_
      refine X_getR (n := 33) xf_X11 hk0 (by decide) fl_X11_35 rfl (kX11_drawn 16 rfl) rfl ?_
      refine X_iload_n (n := 34) 1 (kX11_drawn 17 rfl) rfl rfl rfl ?_
      refine X_iload_n (n := 35) 2 (kX11_drawn 18 rfl) rfl rfl rfl ?_
      refine X_callVV (n := 38) (As := [.ref (rf a0 1), .ref (rf a0 3), .int i1, .int i2]) (st := []) (kX11_drawn 19 rfl) rfl (w_X1_passHours (kt_11_17 hk0) (kt_11_1 hk0) (kt_11_3 hk0)) (by decide) ml_X11_316 mf_X1_passHours rfl (kt_11_17 hk0) xf_X1 rfl (Nat.le_of_ble_eq_true rfl) (fun S4 hq => ?_)
      try dsimp only
      refine X_aload_n (n := 39) 0 (kX11_drawn 20 rfl) rfl rfl rfl ?_
      refine X_getR (n := 42) xf_X11 hk0 (by decide) fl_X11_35 rfl (kX11_drawn 21 rfl) rfl ?_
      refine X_getI (n := 45) xf_X10 (kt_11_3 hk0) (by decide) fl_X11_227 rfl (kX11_drawn 22 rfl) rfl ?_
      exact X_iret rfl (kX11_drawn 23 rfl)
    · refine X_iconst (n := 16) (v := (-1)) (kX11_drawn 7 rfl) rfl (by decide) ?_
      exact X_iret rfl (kX11_drawn 8 rfl)
  · refine X_iconst (n := 16) (v := (-1)) (kX11_drawn 7 rfl) rfl (by decide) ?_
    exact X_iret rfl (kX11_drawn 8 rfl)
def f_X11_said_L21  (a0 : Nat) (i1 : Int32) : Nat → Int32 → Int32 → XS → Option ((Int32 × XS) ⊕ (Int32 × XS))
  | 0, _, _, _ => none
  | n + 1, i2, i3, S => (if (gat S (rf (rf a0 1) 0) (2 : Int32)) ≤ i3 then some (.inr (i2, S)) else ((f_X6_isSaidOf (rf a0 4) (rf a0 1) (rf a0 3) i3 S).bind (fun q => match q with | (r4, S5) => (if r4 = true then (if i2 = i1 then some (.inl (i3, S5)) else f_X11_said_L21 a0 i1 n (i2 + 1) (i3 + 1) S5) else f_X11_said_L21 a0 i1 n i2 (i3 + 1) S5))))
def f_X11_said  (a0 : Nat) (i1 : Int32) (S : XS) : Option (Int32 × XS) := (if i1 < (-1 : Int32) then some ((-1 : Int32), S) else (if (t_X6_isEmpty (rf a0 4) S) = true then some ((-1 : Int32), S) else ((f_X11_said_L21 a0 i1 1000000 (0 : Int32) (0 : Int32) S).bind (fun q => match q with | .inl r => some r | .inr (e8, S9) => (if i1 = (-1 : Int32) then some (e8, S9) else some ((-1 : Int32), S9))))))
set_option maxHeartbeats 4000000 in
set_option maxRecDepth 100000 in
theorem w_X11_said_L21 {l : Launch} {g : XG} {G : ((Int32 × XS) ⊕ (Int32 × XS)) → Option (Int32 × XS)}  {a0 : Nat} {i1 : Int32} (hk0 : kd a0 = 11) (kE : ∀ (e2 : Int32) (S1 : XS), X φI l g 6 mX11_said 71 [(2, .int e2), (1, .int i1)] [] S1 (G (.inr (e2, S1)))) (kR : ∀ r, G (.inl r) = some r) : ∀ (n : Nat) (i2 : Int32) (i3 : Int32) (S : XS), X φI l g 6 mX11_said 21 [(3, .int i3), (2, .int i2), (0, .ref a0), (1, .int i1)] [] S ((f_X11_said_L21 a0 i1 n i2 i3 S).bind G) := by
  intro n
  induction n with
  | zero => intro i2 i3 S; exact X_none
  | succ n ih =>
  · intro i2 i3 S
    rw [f_X11_said_L21]
    refine X_iload_n (n := 22) 0 (kX11_said 13 rfl) rfl rfl rfl ?_
    refine X_aload_n (n := 23) 2 (kX11_said 14 rfl) rfl rfl rfl ?_
    refine X_getR (n := 26) xf_X11 hk0 (by decide) fl_X11_19 rfl (kX11_said 15 rfl) rfl ?_
    refine X_getR (n := 29) xf_X2 (kt_11_1 hk0) (by decide) fl_X11_260 rfl (kX11_said 16 rfl) rfl ?_
    refine X_iconst (n := 30) (v := 2) (kX11_said 17 rfl) rfl (by decide) ?_
    refine X_callS1I (n := 33) (As := [.ref (rf (rf a0 1) 0), .int (2 : Int32)]) (st := [.int i3]) (kX11_said 18 rfl) rfl (p_X11_at (kt_2_0 (kt_11_1 hk0))) (by decide) ml_X11_154 mf_X11_at rfl rfl (Nat.le_of_ble_eq_true rfl) ?_
    refine X_itebind ?_
    refine X_ic_ge (n := 36) (tgt := 71) (kX11_said 19 rfl) rfl rfl (fun h3 => ?_) (fun h3 => ?_)
    · exact X_L [1, 3] rfl (kE i2 S)
    · refine X_aload_n (n := 37) 2 (kX11_said 20 rfl) rfl rfl rfl ?_
      refine X_getR (n := 40) xf_X11 hk0 (by decide) fl_X11_42 rfl (kX11_said 21 rfl) rfl ?_
      refine X_aload_n (n := 41) 2 (kX11_said 22 rfl) rfl rfl rfl ?_
      refine X_getR (n := 44) xf_X11 hk0 (by decide) fl_X11_19 rfl (kX11_said 23 rfl) rfl ?_
      refine X_aload_n (n := 45) 2 (kX11_said 24 rfl) rfl rfl rfl ?_
      refine X_getR (n := 48) xf_X11 hk0 (by decide) fl_X11_35 rfl (kX11_said 25 rfl) rfl ?_
      refine X_iload_n (n := 49) 0 (kX11_said 26 rfl) rfl rfl rfl ?_
      refine X_assoc ?_
      refine X_callVB (n := 52) (As := [.ref (rf a0 1), .ref (rf a0 3), .int i3]) (st := []) (kX11_said 27 rfl) rfl (w_X6_isSaidOf (kt_11_4 hk0) (kt_11_1 hk0) (kt_11_3 hk0)) (by decide) ml_X11_364 mf_X6_isSaidOf rfl (kt_11_4 hk0) xf_X6 rfl (Nat.le_of_ble_eq_true rfl) (fun r4 S5 hq => ?_)
      try dsimp only
      refine X_itebind ?_
      refine X_bz (n := 55) (tgt := 65) (kX11_said 28 rfl) rfl rfl (fun h6 => ?_) (fun h6 => ?_)
      · refine X_iload_n (n := 56) 1 (kX11_said 29 rfl) rfl rfl rfl ?_
        refine X_iload_n (n := 57) 3 (kX11_said 30 rfl) rfl rfl rfl ?_
        refine X_itebind ?_
        refine X_ic_ne (n := 60) (tgt := 62) (kX11_said 31 rfl) rfl rfl (fun h7 => ?_) (fun h7 => ?_)
        · refine X_iload_n (n := 61) 0 (kX11_said 32 rfl) rfl rfl rfl ?_
          exact X_req (kR _) (X_iret rfl (kX11_said 33 rfl))
        · refine X_iinc (n := 65) 1 (v := (i2 + 1)) (L1 := [(2, .int (i2 + 1)), (3, .int i3), (0, .ref a0), (1, .int i1)]) (kX11_said 34 rfl) rfl rfl rfl (Nat.le_of_ble_eq_true rfl) rfl ?_
          refine X_iinc (n := 68) 1 (v := (i3 + 1)) (L1 := [(3, .int (i3 + 1)), (2, .int (i2 + 1)), (0, .ref a0), (1, .int i1)]) (kX11_said 35 rfl) rfl rfl rfl (Nat.le_of_ble_eq_true rfl) rfl ?_
          refine X_goto (tgt := 21) (kX11_said 36 rfl) rfl ?_
          exact X_L [0, 1, 2, 3] rfl (ih (i2 + 1) (i3 + 1) S5)
      · refine X_iinc (n := 68) 0 (v := (i3 + 1)) (L1 := [(3, .int (i3 + 1)), (2, .int i2), (0, .ref a0), (1, .int i1)]) (kX11_said 35 rfl) rfl rfl rfl (Nat.le_of_ble_eq_true rfl) rfl ?_
        refine X_goto (tgt := 21) (kX11_said 36 rfl) rfl ?_
        exact X_L [0, 1, 2, 3] rfl (ih i2 (i3 + 1) S5)
set_option maxHeartbeats 4000000 in
set_option maxRecDepth 100000 in
theorem w_X11_said {l : Launch} {g : XG}  {a0 : Nat} {i1 : Int32} {S : XS} (hk0 : kd a0 = 11) : Cl φI l g 6 mX11_said [.ref a0, .int i1] S (f_X11_said a0 i1 S) := by
  refine Cl.of (by decide +kernel) (Nat.le_of_ble_eq_true rfl) ?_
  unfold f_X11_said
  show X _ _ _ _ _ 0 [(0, .ref a0), (1, .int i1)] [] S _
  refine X_iload_n (n := 1) 1 (kX11_said 0 rfl) rfl rfl rfl ?_
  refine X_iconst (n := 2) (v := (-1)) (kX11_said 1 rfl) rfl (by decide) ?_
  refine X_ic_lt (n := 5) (tgt := 15) (kX11_said 2 rfl) rfl rfl (fun h1 => ?_) (fun h1 => ?_)
  · refine X_iconst (n := 16) (v := (-1)) (kX11_said 7 rfl) rfl (by decide) ?_
    exact X_iret rfl (kX11_said 8 rfl)
  · refine X_aload_n (n := 6) 0 (kX11_said 3 rfl) rfl rfl rfl ?_
    refine X_getR (n := 9) xf_X11 hk0 (by decide) fl_X11_42 rfl (kX11_said 4 rfl) rfl ?_
    refine X_callV1B (n := 12) (As := []) (st := []) (kX11_said 5 rfl) rfl (p_X6_isEmpty (kt_11_4 hk0)) (by decide) ml_X11_361 mf_X6_isEmpty rfl (kt_11_4 hk0) xf_X6 rfl (Nat.le_of_ble_eq_true rfl) ?_
    refine X_bz (n := 15) (tgt := 17) (kX11_said 6 rfl) rfl rfl (fun h2 => ?_) (fun h2 => ?_)
    · refine X_iconst (n := 16) (v := (-1)) (kX11_said 7 rfl) rfl (by decide) ?_
      exact X_iret rfl (kX11_said 8 rfl)
    · refine X_iconst (n := 18) (v := 0) (kX11_said 9 rfl) rfl (by decide) ?_
      refine X_istore_n (n := 19) (L1 := [(2, .int 0), (0, .ref a0), (1, .int i1)]) (kX11_said 10 rfl) rfl rfl (Nat.le_of_ble_eq_true rfl) rfl ?_
      refine X_iconst (n := 20) (v := 0) (kX11_said 11 rfl) rfl (by decide) ?_
      refine X_istore_n (n := 21) (L1 := [(3, .int 0), (2, .int 0), (0, .ref a0), (1, .int i1)]) (kX11_said 12 rfl) rfl rfl (Nat.le_of_ble_eq_true rfl) rfl ?_
      refine X_L [0, 1, 2, 3] rfl (w_X11_said_L21 hk0 (fun e8 S9 => ?_) ?_ 1000000 (0 : Int32) (0 : Int32) S)
      · refine X_iload_n (n := 72) 1 (kX11_said 37 rfl) rfl rfl rfl ?_
        refine X_iconst (n := 73) (v := (-1)) (kX11_said 38 rfl) rfl (by decide) ?_
        refine X_ic_ne (n := 76) (tgt := 80) (kX11_said 39 rfl) rfl rfl (fun h10 => ?_) (fun h10 => ?_)
        · refine X_iload_n (n := 77) 0 (kX11_said 40 rfl) rfl rfl rfl ?_
          refine X_goto (tgt := 81) (kX11_said 41 rfl) rfl ?_
          exact X_iret rfl (kX11_said 43 rfl)
        · refine X_iconst (n := 81) (v := (-1)) (kX11_said 42 rfl) rfl (by decide) ?_
          exact X_iret rfl (kX11_said 43 rfl)
      · intro r
        rfl
def f_X3_read_L35  (a0 : Nat) : Nat → Int32 → XS → Option ((Int32 × XS) ⊕ (XS))
  | 0, _, _ => none
  | n + 1, i1, S => (if (940 : Int32) ≤ i1 then some (.inr S) else (if (S.1 (rf a0 0) 10) = 0 then some (.inl (i1, S)) else ((f_X3_readLine a0 S).bind (fun q => match q with | (r4, S5) => (if r4 = true then (if (t_X8_take (rf a0 0) (59 : Int32) S5).1 = true then f_X3_read_L35 a0 n (i1 + 1) ((t_X8_take (rf a0 0) (59 : Int32) S5).2) else some (.inl ((-1 : Int32), (t_X8_take (rf a0 0) (59 : Int32) S5).2))) else some (.inl ((-1 : Int32), S5)))))))
def f_X3_read  (a0 : Nat) (S : XS) : Option (Int32 × XS) := ((f_X8_begin (rf a0 0) (900 : Int32) (filI (filI (t_X2_clear (rf a0 1) S) (rf a0 2) (0 : Int32)) (rf a0 3) (0 : Int32))).bind (fun S1 => ((f_X3_read_L35 a0 1000000 (0 : Int32) S1).bind (fun q => match q with | .inl r => some r | .inr S8 => some ((-1 : Int32), S8)))))
set_option maxHeartbeats 4000000 in
set_option maxRecDepth 100000 in
theorem w_X3_read_L35 {l : Launch} {g : XG} {G : ((Int32 × XS) ⊕ (XS)) → Option (Int32 × XS)}  {a0 : Nat} (hk0 : kd a0 = 3) (kE : ∀ (S1 : XS), X φI l g 7 mX3_read 81 [] [] S1 (G (.inr S1))) (kR : ∀ r, G (.inl r) = some r) : ∀ (n : Nat) (i1 : Int32) (S : XS), X φI l g 7 mX3_read 35 [(1, .int i1), (0, .ref a0)] [] S ((f_X3_read_L35 a0 n i1 S).bind G) := by
  intro n
  induction n with
  | zero => intro i1 S; exact X_none
  | succ n ih =>
  · intro i1 S
    rw [f_X3_read_L35]
    refine X_iload_n (n := 36) 0 (kX3_read 17 rfl) rfl rfl rfl ?_
    refine X_sipush (n := 39) (v := 940) (kX3_read 18 rfl) rfl (by decide) ?_
    refine X_itebind ?_
    refine X_ic_ge (n := 42) (tgt := 81) (kX3_read 19 rfl) rfl rfl (fun h2 => ?_) (fun h2 => ?_)
    · exact X_L [] rfl (kE S)
    · refine X_aload_n (n := 43) 1 (kX3_read 20 rfl) rfl rfl rfl ?_
      refine X_getR (n := 46) xf_X3 hk0 (by decide) fl_X3_25 rfl (kX3_read 21 rfl) rfl ?_
      refine X_getI (n := 49) xf_X8 (kt_3_0 hk0) (by decide) fl_X3_44 rfl (kX3_read 22 rfl) rfl ?_
      refine X_itebind ?_
      refine X_if_ne (n := 52) (tgt := 54) (kX3_read 23 rfl) rfl rfl (fun h3 => ?_) (fun h3 => ?_)
      · refine X_iload_n (n := 53) 0 (kX3_read 24 rfl) rfl rfl rfl ?_
        exact X_req (kR _) (X_iret rfl (kX3_read 25 rfl))
      · refine X_aload_n (n := 55) 1 (kX3_read 26 rfl) rfl rfl rfl ?_
        refine X_assoc ?_
        refine X_callVB (n := 58) (As := []) (st := []) (kX3_read 27 rfl) rfl (w_X3_readLine hk0) (by decide) ml_X3_48 mf_X3_readLine rfl hk0 xf_X3 rfl (Nat.le_of_ble_eq_true rfl) (fun r4 S5 hq => ?_)
        try dsimp only
        refine X_itebind ?_
        refine X_bz (n := 61) (tgt := 73) (kX3_read 28 rfl) rfl rfl (fun h6 => ?_) (fun h6 => ?_)
        · refine X_aload_n (n := 62) 1 (kX3_read 29 rfl) rfl rfl rfl ?_
          refine X_getR (n := 65) xf_X3 hk0 (by decide) fl_X3_25 rfl (kX3_read 30 rfl) rfl ?_
          refine X_bipush (n := 67) (v := 59) (kX3_read 31 rfl) rfl (by decide) ?_
          refine X_callV1B (n := 70) (As := [.int (59 : Int32)]) (st := []) (kX3_read 32 rfl) rfl (p_X8_take (kt_3_0 hk0)) (by decide) ml_X3_52 mf_X8_take rfl (kt_3_0 hk0) xf_X8 rfl (Nat.le_of_ble_eq_true rfl) ?_
          refine X_itebind ?_
          refine X_bn (n := 73) (tgt := 75) (kX3_read 33 rfl) rfl rfl (fun h7 => ?_) (fun h7 => ?_)
          · refine X_iinc (n := 78) 0 (v := (i1 + 1)) (L1 := [(1, .int (i1 + 1)), (0, .ref a0)]) (kX3_read 36 rfl) rfl rfl rfl (Nat.le_of_ble_eq_true rfl) rfl ?_
            refine X_goto (tgt := 35) (kX3_read 37 rfl) rfl ?_
            exact X_L [0, 1] rfl (ih (i1 + 1) ((t_X8_take (rf a0 0) (59 : Int32) S5).2))
          · refine X_iconst (n := 74) (v := (-1)) (kX3_read 34 rfl) rfl (by decide) ?_
            exact X_req (kR _) (X_iret rfl (kX3_read 35 rfl))
        · refine X_iconst (n := 74) (v := (-1)) (kX3_read 34 rfl) rfl (by decide) ?_
          exact X_req (kR _) (X_iret rfl (kX3_read 35 rfl))
set_option maxHeartbeats 4000000 in
set_option maxRecDepth 100000 in
theorem w_X3_read {l : Launch} {g : XG}  {a0 : Nat} {S : XS} (hk0 : kd a0 = 3) : Cl φI l g 7 mX3_read [.ref a0] S (f_X3_read a0 S) := by
  refine Cl.of (by decide +kernel) (Nat.le_of_ble_eq_true rfl) ?_
  unfold f_X3_read
  show X _ _ _ _ _ 0 [(0, .ref a0)] [] S _
  refine X_aload_n (n := 1) 0 (kX3_read 0 rfl) rfl rfl rfl ?_
  refine X_getR (n := 4) xf_X3 hk0 (by decide) fl_X3_12 rfl (kX3_read 1 rfl) rfl ?_
  refine X_callV1V (n := 7) (As := []) (st := []) (kX3_read 2 rfl) rfl (p_X2_clear (kt_3_1 hk0)) (by decide) ml_X3_29 mf_X2_clear rfl (kt_3_1 hk0) xf_X2 rfl (Nat.le_of_ble_eq_true rfl) ?_
  refine X_aload_n (n := 8) 0 (kX3_read 3 rfl) rfl rfl rfl ?_
  refine X_getR (n := 11) xf_X3 hk0 (by decide) fl_X3_18 rfl (kX3_read 4 rfl) rfl ?_
  refine X_iconst (n := 12) (v := 0) (kX3_read 5 rfl) rfl (by decide) ?_
  refine X_callS1V (n := 15) (As := [.ref (rf a0 2), .int (0 : Int32)]) (st := []) (kX3_read 6 rfl) rfl (p_J7_fill_53178 (kt_3_2 hk0)) (by decide) ml_X3_32 mf_J7_fill_53178 rfl rfl (Nat.le_of_ble_eq_true rfl) ?_
  refine X_aload_n (n := 16) 0 (kX3_read 7 rfl) rfl rfl rfl ?_
  refine X_getR (n := 19) xf_X3 hk0 (by decide) fl_X3_22 rfl (kX3_read 8 rfl) rfl ?_
  refine X_iconst (n := 20) (v := 0) (kX3_read 9 rfl) rfl (by decide) ?_
  refine X_callS1V (n := 23) (As := [.ref (rf a0 3), .int (0 : Int32)]) (st := []) (kX3_read 10 rfl) rfl (p_J7_fill_53178 (kt_3_3 hk0)) (by decide) ml_X3_32 mf_J7_fill_53178 rfl rfl (Nat.le_of_ble_eq_true rfl) ?_
  refine X_aload_n (n := 24) 0 (kX3_read 11 rfl) rfl rfl rfl ?_
  refine X_getR (n := 27) xf_X3 hk0 (by decide) fl_X3_25 rfl (kX3_read 12 rfl) rfl ?_
  refine X_sipush (n := 30) (v := 900) (kX3_read 13 rfl) rfl (by decide) ?_
  refine X_callVV (n := 33) (As := [.int (900 : Int32)]) (st := []) (kX3_read 14 rfl) rfl (w_X8_begin (kt_3_0 hk0)) (by decide) ml_X3_38 mf_X8_begin rfl (kt_3_0 hk0) xf_X8 rfl (Nat.le_of_ble_eq_true rfl) (fun S1 hq => ?_)
  try dsimp only
  refine X_iconst (n := 34) (v := 0) (kX3_read 15 rfl) rfl (by decide) ?_
  refine X_istore_n (n := 35) (L1 := [(1, .int 0), (0, .ref a0)]) (kX3_read 16 rfl) rfl rfl (Nat.le_of_ble_eq_true rfl) rfl ?_
  refine X_L [0, 1] rfl (w_X3_read_L35 hk0 (fun S8 => ?_) ?_ 1000000 (0 : Int32) S1)
  · refine X_iconst (n := 82) (v := (-1)) (kX3_read 38 rfl) rfl (by decide) ?_
    exact X_iret rfl (kX3_read 39 rfl)
  · intro r
    rfl
def f_X11_changed  (a0 : Nat) (S : XS) : Option (Int32 × XS) := ((if (60 : Int32) < (S.1 (rf a0 3) 0) then some ((-1 : Int32), S) else (if (S.1 (rf a0 0) 1) = ((gat S (rf (rf a0 1) 0) (2 : Int32)) * (gat S (rf (rf a0 1) 0) (0 : Int32))) then ((f_X0_search (rf a0 16) (rf a0 1) (rf a0 0) (S.1 (rf a0 3) 0) S).bind (fun q => match q with | (r5, S6) => some (r5, S6))) else some ((-1 : Int32), S))).bind (fun q => match q with | (x1, S2) => some (x1, (sI S2 (rf a0 0) 1 (0 : Int32)))))
set_option maxHeartbeats 4000000 in
set_option maxRecDepth 100000 in
theorem w_X11_changed {l : Launch} {g : XG}  {a0 : Nat} {S : XS} (hk0 : kd a0 = 11) : Cl φI l g 7 mX11_changed [.ref a0] S (f_X11_changed a0 S) := by
  refine Cl.of (by decide +kernel) (Nat.le_of_ble_eq_true rfl) ?_
  unfold f_X11_changed
  show X _ _ _ _ _ 0 [(0, .ref a0)] [] S _
  refine X_iconst (n := 1) (v := (-1)) (kX11_changed 0 rfl) rfl (by decide) ?_
  refine X_istore_n (n := 2) (L1 := [(1, .int (-1)), (0, .ref a0)]) (kX11_changed 1 rfl) rfl rfl (Nat.le_of_ble_eq_true rfl) rfl ?_
  refine X_aload_n (n := 3) 1 (kX11_changed 2 rfl) rfl rfl rfl ?_
  refine X_getR (n := 6) xf_X11 hk0 (by decide) fl_X11_35 rfl (kX11_changed 3 rfl) rfl ?_
  refine X_getI (n := 9) xf_X10 (kt_11_3 hk0) (by decide) fl_X11_227 rfl (kX11_changed 4 rfl) rfl ?_
  refine X_bipush (n := 11) (v := 60) (kX11_changed 5 rfl) rfl (by decide) ?_
  refine X_join 70 (fun q => match q with | (x1, S2) => [(0, .ref a0), (1, .int x1)]) (fun q => match q with | (x1, S2) => []) (fun q => match q with | (x1, S2) => S2) (fun q => ?_) (fun kJ => ?_)
  · obtain ⟨x1, S2⟩ := q
    dsimp only
    refine X_aload_n (n := 71) 0 (kX11_changed 33 rfl) rfl rfl rfl ?_
    refine X_getR (n := 74) xf_X11 hk0 (by decide) fl_X11_12 rfl (kX11_changed 34 rfl) rfl ?_
    refine X_iconst (n := 75) (v := 0) (kX11_changed 35 rfl) rfl (by decide) ?_
    refine X_putI (n := 78) xf_X8 (kt_11_0 hk0) (by decide) fl_X11_110 rfl rfl (Or.inl rfl) (kX11_changed 36 rfl) rfl ?_
    refine X_iload_n (n := 79) 1 (kX11_changed 37 rfl) rfl rfl rfl ?_
    exact X_iret rfl (kX11_changed 38 rfl)
  · refine X_itebind ?_
    refine X_ic_gt (n := 14) (tgt := 70) (kX11_changed 6 rfl) rfl rfl (fun h3 => ?_) (fun h3 => ?_)
    · exact X_L [1, 0] rfl (kJ ((-1 : Int32), S))
    · refine X_aload_n (n := 15) 1 (kX11_changed 7 rfl) rfl rfl rfl ?_
      refine X_getR (n := 18) xf_X11 hk0 (by decide) fl_X11_12 rfl (kX11_changed 8 rfl) rfl ?_
      refine X_getI (n := 21) xf_X8 (kt_11_0 hk0) (by decide) fl_X11_110 rfl (kX11_changed 9 rfl) rfl ?_
      refine X_aload_n (n := 22) 1 (kX11_changed 10 rfl) rfl rfl rfl ?_
      refine X_getR (n := 25) xf_X11 hk0 (by decide) fl_X11_19 rfl (kX11_changed 11 rfl) rfl ?_
      refine X_getR (n := 28) xf_X2 (kt_11_1 hk0) (by decide) fl_X11_260 rfl (kX11_changed 12 rfl) rfl ?_
      refine X_iconst (n := 29) (v := 2) (kX11_changed 13 rfl) rfl (by decide) ?_
      refine X_callS1I (n := 32) (As := [.ref (rf (rf a0 1) 0), .int (2 : Int32)]) (st := [.int (S.1 (rf a0 0) 1)]) (kX11_changed 14 rfl) rfl (p_X11_at (kt_2_0 (kt_11_1 hk0))) (by decide) ml_X11_154 mf_X11_at rfl rfl (Nat.le_of_ble_eq_true rfl) ?_
      refine X_aload_n (n := 33) 1 (kX11_changed 15 rfl) rfl rfl rfl ?_
      refine X_getR (n := 36) xf_X11 hk0 (by decide) fl_X11_19 rfl (kX11_changed 16 rfl) rfl ?_
      refine X_getR (n := 39) xf_X2 (kt_11_1 hk0) (by decide) fl_X11_260 rfl (kX11_changed 17 rfl) rfl ?_
      refine X_iconst (n := 40) (v := 0) (kX11_changed 18 rfl) rfl (by decide) ?_
      refine X_callS1I (n := 43) (As := [.ref (rf (rf a0 1) 0), .int (0 : Int32)]) (st := [.int (gat S (rf (rf a0 1) 0) (2 : Int32)), .int (S.1 (rf a0 0) 1)]) (kX11_changed 19 rfl) rfl (p_X11_at (kt_2_0 (kt_11_1 hk0))) (by decide) ml_X11_154 mf_X11_at rfl rfl (Nat.le_of_ble_eq_true rfl) ?_
      refine X_imul (n := 44) (kX11_changed 20 rfl) rfl ?_
      refine X_itebind ?_
      refine X_ic_ne (n := 47) (tgt := 70) (kX11_changed 21 rfl) rfl rfl (fun h4 => ?_) (fun h4 => ?_)
      · refine X_aload_n (n := 48) 1 (kX11_changed 22 rfl) rfl rfl rfl ?_
        refine X_getR (n := 51) xf_X11 hk0 (by decide) fl_X11_96 rfl (kX11_changed 23 rfl) rfl ?_
        refine X_aload_n (n := 52) 1 (kX11_changed 24 rfl) rfl rfl rfl ?_
        refine X_getR (n := 55) xf_X11 hk0 (by decide) fl_X11_19 rfl (kX11_changed 25 rfl) rfl ?_
        refine X_aload_n (n := 56) 1 (kX11_changed 26 rfl) rfl rfl rfl ?_
        refine X_getR (n := 59) xf_X11 hk0 (by decide) fl_X11_12 rfl (kX11_changed 27 rfl) rfl ?_
        refine X_aload_n (n := 60) 1 (kX11_changed 28 rfl) rfl rfl rfl ?_
        refine X_getR (n := 63) xf_X11 hk0 (by decide) fl_X11_35 rfl (kX11_changed 29 rfl) rfl ?_
        refine X_getI (n := 66) xf_X10 (kt_11_3 hk0) (by decide) fl_X11_227 rfl (kX11_changed 30 rfl) rfl ?_
        refine X_assoc ?_
        refine X_callVI (n := 69) (As := [.ref (rf a0 1), .ref (rf a0 0), .int (S.1 (rf a0 3) 0)]) (st := []) (kX11_changed 31 rfl) rfl (w_X0_search (kt_11_16 hk0) (kt_11_1 hk0) (kt_11_0 hk0)) (by decide) ml_X11_282 mf_X0_search rfl (kt_11_16 hk0) xf_X0 rfl (Nat.le_of_ble_eq_true rfl) (fun r5 S6 hq => ?_)
        try dsimp only
        refine X_istore_n (n := 70) (L1 := [(1, .int r5), (0, .ref a0)]) (kX11_changed 32 rfl) rfl rfl (Nat.le_of_ble_eq_true rfl) rfl ?_
        exact X_L [1, 0] rfl (kJ (r5, S6))
      · exact X_L [1, 0] rfl (kJ ((-1 : Int32), S))
def f_X11_pleas  (a0 : Nat) (S : XS) : Option (Int32 × XS) := ((f_X5_read (rf a0 6) (rf a0 0) (rf a0 1) (rf a0 3) S).bind (fun S1 => (if ((sI S1 (rf a0 0) 1 (0 : Int32)).1 (rf a0 0) 2) = 0 then some (((sI S1 (rf a0 0) 1 (0 : Int32)).1 (rf a0 6) 0), (sI S1 (rf a0 0) 1 (0 : Int32))) else some (((-2 : Int32) - ((sI S1 (rf a0 0) 1 (0 : Int32)).1 (rf a0 0) 3)), (sI S1 (rf a0 0) 1 (0 : Int32))))))
set_option maxHeartbeats 4000000 in
set_option maxRecDepth 100000 in
theorem w_X11_pleas {l : Launch} {g : XG}  {a0 : Nat} {S : XS} (hk0 : kd a0 = 11) : Cl φI l g 7 mX11_pleas [.ref a0] S (f_X11_pleas a0 S) := by
  refine Cl.of (by decide +kernel) (Nat.le_of_ble_eq_true rfl) ?_
  unfold f_X11_pleas
  show X _ _ _ _ _ 0 [(0, .ref a0)] [] S _
  refine X_aload_n (n := 1) 0 (kX11_pleas 0 rfl) rfl rfl rfl ?_
  refine X_getR (n := 4) xf_X11 hk0 (by decide) fl_X11_56 rfl (kX11_pleas 1 rfl) rfl ?_
  refine X_aload_n (n := 5) 0 (kX11_pleas 2 rfl) rfl rfl rfl ?_
  refine X_getR (n := 8) xf_X11 hk0 (by decide) fl_X11_12 rfl (kX11_pleas 3 rfl) rfl ?_
  refine X_aload_n (n := 9) 0 (kX11_pleas 4 rfl) rfl rfl rfl ?_
  refine X_getR (n := 12) xf_X11 hk0 (by decide) fl_X11_19 rfl (kX11_pleas 5 rfl) rfl ?_
  refine X_aload_n (n := 13) 0 (kX11_pleas 6 rfl) rfl rfl rfl ?_
  refine X_getR (n := 16) xf_X11 hk0 (by decide) fl_X11_35 rfl (kX11_pleas 7 rfl) rfl ?_
  refine X_callVV (n := 19) (As := [.ref (rf a0 0), .ref (rf a0 1), .ref (rf a0 3)]) (st := []) (kX11_pleas 8 rfl) rfl (w_X5_read (kt_11_6 hk0) (kt_11_0 hk0) (kt_11_1 hk0) (kt_11_3 hk0)) (by decide) ml_X11_306 mf_X5_read rfl (kt_11_6 hk0) xf_X5 rfl (Nat.le_of_ble_eq_true rfl) (fun S1 hq => ?_)
  try dsimp only
  refine X_aload_n (n := 20) 0 (kX11_pleas 9 rfl) rfl rfl rfl ?_
  refine X_getR (n := 23) xf_X11 hk0 (by decide) fl_X11_12 rfl (kX11_pleas 10 rfl) rfl ?_
  refine X_iconst (n := 24) (v := 0) (kX11_pleas 11 rfl) rfl (by decide) ?_
  refine X_putI (n := 27) xf_X8 (kt_11_0 hk0) (by decide) fl_X11_110 rfl rfl (Or.inl rfl) (kX11_pleas 12 rfl) rfl ?_
  refine X_aload_n (n := 28) 0 (kX11_pleas 13 rfl) rfl rfl rfl ?_
  refine X_getR (n := 31) xf_X11 hk0 (by decide) fl_X11_12 rfl (kX11_pleas 14 rfl) rfl ?_
  refine X_getI (n := 34) xf_X8 (kt_11_0 hk0) (by decide) fl_X11_122 rfl (kX11_pleas 15 rfl) rfl ?_
  refine X_if_eq (n := 37) (tgt := 50) (kX11_pleas 16 rfl) rfl rfl (fun h2 => ?_) (fun h2 => ?_)
  · refine X_aload_n (n := 51) 0 (kX11_pleas 23 rfl) rfl rfl rfl ?_
    refine X_getR (n := 54) xf_X11 hk0 (by decide) fl_X11_56 rfl (kX11_pleas 24 rfl) rfl ?_
    refine X_getI (n := 57) xf_X5 (kt_11_6 hk0) (by decide) fl_X11_309 rfl (kX11_pleas 25 rfl) rfl ?_
    exact X_iret rfl (kX11_pleas 26 rfl)
  · refine X_bipush (n := 39) (v := (-2)) (kX11_pleas 17 rfl) rfl (by decide) ?_
    refine X_aload_n (n := 40) 0 (kX11_pleas 18 rfl) rfl rfl rfl ?_
    refine X_getR (n := 43) xf_X11 hk0 (by decide) fl_X11_12 rfl (kX11_pleas 19 rfl) rfl ?_
    refine X_getI (n := 46) xf_X8 (kt_11_0 hk0) (by decide) fl_X11_125 rfl (kX11_pleas 20 rfl) rfl ?_
    refine X_isub (n := 47) (kX11_pleas 21 rfl) rfl ?_
    refine X_goto (tgt := 57) (kX11_pleas 22 rfl) rfl ?_
    exact X_iret rfl (kX11_pleas 26 rfl)
