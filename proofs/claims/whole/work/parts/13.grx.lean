def f_X7_readAll_L13 (r : Nat → Nat → Int32 → XS → Option (Bool × XS)) (a0 : Nat) (a1 : Nat) (i2 : Int32) : Nat → Int32 → XS → Option ((Bool × XS) ⊕ (XS))
  | 0, _, _ => none
  | n + 1, i3, S => (if (940 : Int32) ≤ i3 then some (.inr S) else (if (S.1 (rf a0 0) 10) = (138 : Int32) then ((r a0 a1 i2 (t_X8_step (rf a0 0) S)).bind (fun q => match q with | (r6, S7) => (if r6 = true then f_X7_readAll_L13 r a0 a1 i2 n (i3 + 1) (t_X6_add (rf a0 1) (138 : Int32) (0 : Int32) (0 : Int32) S7) else some (.inl (false, S7))))) else some (.inr S)))
def f_X7_readAll (r : Nat → Nat → Int32 → XS → Option (Bool × XS)) (a0 : Nat) (a1 : Nat) (i2 : Int32) (S : XS) : Option (Bool × XS) := ((r a0 a1 i2 S).bind (fun q => match q with | (r1, S2) => (if r1 = true then ((f_X7_readAll_L13 r a0 a1 i2 1000000 (0 : Int32) S2).bind (fun q => match q with | .inl r => some r | .inr S9 => some (true, S9))) else some (false, S2))))
set_option maxHeartbeats 4000000 in
set_option maxRecDepth 100000 in
theorem w_X7_readAll_L13 {l : Launch} {g : XG} {G : ((Bool × XS) ⊕ (XS)) → Option (Bool × XS)} {d : Nat} (hd : 30 ≤ d) {r : Nat → Nat → Int32 → XS → Option (Bool × XS)} (hr : ∀ (a0 : Nat) (a1 : Nat) (i2 : Int32) (S : XS), kd a0 = 7 → kd a1 = 2 → Cl φB l g d mX7_readOne [.ref a0, .ref a1, .int i2] S (r a0 a1 i2 S)) {a0 : Nat} {a1 : Nat} {i2 : Int32} (hk0 : kd a0 = 7) (hk1 : kd a1 = 2) (kE : ∀ (S1 : XS), X φB l g (d + 1) mX7_readAll 69 [] [] S1 (G (.inr S1))) (kR : ∀ r, G (.inl r) = some r) : ∀ (n : Nat) (i3 : Int32) (S : XS), X φB l g (d + 1) mX7_readAll 13 [(3, .int i3), (0, .ref a0), (1, .ref a1), (2, .int i2)] [] S ((f_X7_readAll_L13 r a0 a1 i2 n i3 S).bind G) := by
  intro n
  induction n with
  | zero => intro i3 S; exact X_none
  | succ n ih =>
  · intro i3 S
    rw [f_X7_readAll_L13]
    refine X_iload_n (n := 14) 0 (kX7_readAll 9 rfl) rfl rfl rfl ?_
    refine X_sipush (n := 17) (v := 940) (kX7_readAll 10 rfl) rfl (by decide) ?_
    refine X_itebind ?_
    refine X_ic_ge (n := 20) (tgt := 69) (kX7_readAll 11 rfl) rfl rfl (fun h4 => ?_) (fun h4 => ?_)
    · exact X_L [] rfl (kE S)
    · refine X_aload_n (n := 21) 1 (kX7_readAll 12 rfl) rfl rfl rfl ?_
      refine X_getR (n := 24) xf_X7 hk0 (by decide) fl_X7_18 rfl (kX7_readAll 13 rfl) rfl ?_
      refine X_getI (n := 27) xf_X8 (kt_7_0 hk0) (by decide) fl_X7_39 rfl (kX7_readAll 14 rfl) rfl ?_
      refine X_sipush (n := 30) (v := 138) (kX7_readAll 15 rfl) rfl (by decide) ?_
      refine X_itebind ?_
      refine X_ic_ne (n := 33) (tgt := 69) (kX7_readAll 16 rfl) rfl rfl (fun h5 => ?_) (fun h5 => ?_)
      · refine X_aload_n (n := 34) 1 (kX7_readAll 17 rfl) rfl rfl rfl ?_
        refine X_getR (n := 37) xf_X7 hk0 (by decide) fl_X7_18 rfl (kX7_readAll 18 rfl) rfl ?_
        refine X_callV1V (n := 40) (As := []) (st := []) (kX7_readAll 19 rfl) rfl (p_X8_step (kt_7_0 hk0)) (by omega) ml_X7_49 mf_X8_step rfl (kt_7_0 hk0) xf_X8 rfl (Nat.le_of_ble_eq_true rfl) ?_
        refine X_aload_n (n := 41) 1 (kX7_readAll 20 rfl) rfl rfl rfl ?_
        refine X_aload_n (n := 42) 2 (kX7_readAll 21 rfl) rfl rfl rfl ?_
        refine X_iload_n (n := 43) 3 (kX7_readAll 22 rfl) rfl rfl rfl ?_
        refine X_assoc ?_
        refine X_callVB (n := 46) (As := [.ref a1, .int i2]) (st := []) (kX7_readAll 23 rfl) rfl (hr a0 a1 i2 (t_X8_step (rf a0 0) S) hk0 hk1) (by omega) ml_X7_56 mf_X7_readOne rfl hk0 xf_X7 rfl (Nat.le_of_ble_eq_true rfl) (fun r6 S7 hq => ?_)
        try dsimp only
        refine X_itebind ?_
        refine X_bn (n := 49) (tgt := 51) (kX7_readAll 24 rfl) rfl rfl (fun h8 => ?_) (fun h8 => ?_)
        · refine X_aload_n (n := 52) 1 (kX7_readAll 27 rfl) rfl rfl rfl ?_
          refine X_getR (n := 55) xf_X7 hk0 (by decide) fl_X7_12 rfl (kX7_readAll 28 rfl) rfl ?_
          refine X_sipush (n := 58) (v := 138) (kX7_readAll 29 rfl) rfl (by decide) ?_
          refine X_iconst (n := 59) (v := 0) (kX7_readAll 30 rfl) rfl (by decide) ?_
          refine X_iconst (n := 60) (v := 0) (kX7_readAll 31 rfl) rfl (by decide) ?_
          refine X_callV1V (n := 63) (As := [.int (138 : Int32), .int (0 : Int32), .int (0 : Int32)]) (st := []) (kX7_readAll 32 rfl) rfl (p_X6_add (kt_7_1 hk0)) (by omega) ml_X7_52 mf_X6_add rfl (kt_7_1 hk0) xf_X6 rfl (Nat.le_of_ble_eq_true rfl) ?_
          refine X_iinc (n := 66) 0 (v := (i3 + 1)) (L1 := [(3, .int (i3 + 1)), (0, .ref a0), (1, .ref a1), (2, .int i2)]) (kX7_readAll 33 rfl) rfl rfl rfl (Nat.le_of_ble_eq_true rfl) rfl ?_
          refine X_goto (tgt := 13) (kX7_readAll 34 rfl) rfl ?_
          exact X_L [0, 1, 2, 3] rfl (ih (i3 + 1) (t_X6_add (rf a0 1) (138 : Int32) (0 : Int32) (0 : Int32) S7))
        · refine X_iconst (n := 50) (v := 0) (kX7_readAll 25 rfl) rfl (by decide) ?_
          exact X_req (kR _) (X_zret (b := false) rfl (kX7_readAll 26 rfl))
      · exact X_L [] rfl (kE S)
set_option maxHeartbeats 4000000 in
set_option maxRecDepth 100000 in
theorem w_X7_readAll {l : Launch} {g : XG} {d : Nat} (hd : 30 ≤ d) {r : Nat → Nat → Int32 → XS → Option (Bool × XS)} (hr : ∀ (a0 : Nat) (a1 : Nat) (i2 : Int32) (S : XS), kd a0 = 7 → kd a1 = 2 → Cl φB l g d mX7_readOne [.ref a0, .ref a1, .int i2] S (r a0 a1 i2 S)) {a0 : Nat} {a1 : Nat} {i2 : Int32} {S : XS} (hk0 : kd a0 = 7) (hk1 : kd a1 = 2) : Cl φB l g (d + 1) mX7_readAll [.ref a0, .ref a1, .int i2] S (f_X7_readAll r a0 a1 i2 S) := by
  refine Cl.of (by decide +kernel) (Nat.le_of_ble_eq_true rfl) ?_
  unfold f_X7_readAll
  show X _ _ _ _ _ 0 [(0, .ref a0), (1, .ref a1), (2, .int i2)] [] S _
  refine X_aload_n (n := 1) 0 (kX7_readAll 0 rfl) rfl rfl rfl ?_
  refine X_aload_n (n := 2) 1 (kX7_readAll 1 rfl) rfl rfl rfl ?_
  refine X_iload_n (n := 3) 2 (kX7_readAll 2 rfl) rfl rfl rfl ?_
  refine X_callVB (n := 6) (As := [.ref a1, .int i2]) (st := []) (kX7_readAll 3 rfl) rfl (hr a0 a1 i2 S hk0 hk1) (by omega) ml_X7_56 mf_X7_readOne rfl hk0 xf_X7 rfl (Nat.le_of_ble_eq_true rfl) (fun r1 S2 hq => ?_)
  try dsimp only
  refine X_bn (n := 9) (tgt := 11) (kX7_readAll 4 rfl) rfl rfl (fun h3 => ?_) (fun h3 => ?_)
  · refine X_iconst (n := 12) (v := 0) (kX7_readAll 7 rfl) rfl (by decide) ?_
    refine X_istore_n (n := 13) (L1 := [(3, .int 0), (0, .ref a0), (1, .ref a1), (2, .int i2)]) (kX7_readAll 8 rfl) rfl rfl (Nat.le_of_ble_eq_true rfl) rfl ?_
    refine X_L [0, 1, 2, 3] rfl (w_X7_readAll_L13 hd hr hk0 hk1 (fun S9 => ?_) ?_ 1000000 (0 : Int32) S2)
    · refine X_iconst (n := 70) (v := 1) (kX7_readAll 35 rfl) rfl (by decide) ?_
      exact X_zret (b := true) rfl (kX7_readAll 36 rfl)
    · intro r
      rfl
  · refine X_iconst (n := 10) (v := 0) (kX7_readAll 5 rfl) rfl (by decide) ?_
    exact X_zret (b := false) rfl (kX7_readAll 6 rfl)
def f_X7_readCond_L13 (r : Nat → Nat → Int32 → XS → Option (Bool × XS)) (a0 : Nat) (a1 : Nat) (i2 : Int32) : Nat → Int32 → XS → Option ((Bool × XS) ⊕ (XS))
  | 0, _, _ => none
  | n + 1, i3, S => (if (940 : Int32) ≤ i3 then some (.inr S) else (if (S.1 (rf a0 0) 10) = (137 : Int32) then ((f_X7_readAll r a0 a1 i2 (t_X8_step (rf a0 0) S)).bind (fun q => match q with | (r6, S7) => (if r6 = true then f_X7_readCond_L13 r a0 a1 i2 n (i3 + 1) (t_X6_add (rf a0 1) (137 : Int32) (0 : Int32) (0 : Int32) S7) else some (.inl (false, S7))))) else some (.inr S)))
def f_X7_readCond (r : Nat → Nat → Int32 → XS → Option (Bool × XS)) (a0 : Nat) (a1 : Nat) (i2 : Int32) (S : XS) : Option (Bool × XS) := ((f_X7_readAll r a0 a1 i2 S).bind (fun q => match q with | (r1, S2) => (if r1 = true then ((f_X7_readCond_L13 r a0 a1 i2 1000000 (0 : Int32) S2).bind (fun q => match q with | .inl r => some r | .inr S9 => some (true, S9))) else some (false, S2))))
set_option maxHeartbeats 4000000 in
set_option maxRecDepth 100000 in
theorem w_X7_readCond_L13 {l : Launch} {g : XG} {G : ((Bool × XS) ⊕ (XS)) → Option (Bool × XS)} {d : Nat} (hd : 30 ≤ d) {r : Nat → Nat → Int32 → XS → Option (Bool × XS)} (hr : ∀ (a0 : Nat) (a1 : Nat) (i2 : Int32) (S : XS), kd a0 = 7 → kd a1 = 2 → Cl φB l g d mX7_readOne [.ref a0, .ref a1, .int i2] S (r a0 a1 i2 S)) {a0 : Nat} {a1 : Nat} {i2 : Int32} (hk0 : kd a0 = 7) (hk1 : kd a1 = 2) (kE : ∀ (S1 : XS), X φB l g (d + 2) mX7_readCond 69 [] [] S1 (G (.inr S1))) (kR : ∀ r, G (.inl r) = some r) : ∀ (n : Nat) (i3 : Int32) (S : XS), X φB l g (d + 2) mX7_readCond 13 [(3, .int i3), (0, .ref a0), (1, .ref a1), (2, .int i2)] [] S ((f_X7_readCond_L13 r a0 a1 i2 n i3 S).bind G) := by
  intro n
  induction n with
  | zero => intro i3 S; exact X_none
  | succ n ih =>
  · intro i3 S
    rw [f_X7_readCond_L13]
    refine X_iload_n (n := 14) 0 (kX7_readCond 9 rfl) rfl rfl rfl ?_
    refine X_sipush (n := 17) (v := 940) (kX7_readCond 10 rfl) rfl (by decide) ?_
    refine X_itebind ?_
    refine X_ic_ge (n := 20) (tgt := 69) (kX7_readCond 11 rfl) rfl rfl (fun h4 => ?_) (fun h4 => ?_)
    · exact X_L [] rfl (kE S)
    · refine X_aload_n (n := 21) 1 (kX7_readCond 12 rfl) rfl rfl rfl ?_
      refine X_getR (n := 24) xf_X7 hk0 (by decide) fl_X7_18 rfl (kX7_readCond 13 rfl) rfl ?_
      refine X_getI (n := 27) xf_X8 (kt_7_0 hk0) (by decide) fl_X7_39 rfl (kX7_readCond 14 rfl) rfl ?_
      refine X_sipush (n := 30) (v := 137) (kX7_readCond 15 rfl) rfl (by decide) ?_
      refine X_itebind ?_
      refine X_ic_ne (n := 33) (tgt := 69) (kX7_readCond 16 rfl) rfl rfl (fun h5 => ?_) (fun h5 => ?_)
      · refine X_aload_n (n := 34) 1 (kX7_readCond 17 rfl) rfl rfl rfl ?_
        refine X_getR (n := 37) xf_X7 hk0 (by decide) fl_X7_18 rfl (kX7_readCond 18 rfl) rfl ?_
        refine X_callV1V (n := 40) (As := []) (st := []) (kX7_readCond 19 rfl) rfl (p_X8_step (kt_7_0 hk0)) (by omega) ml_X7_49 mf_X8_step rfl (kt_7_0 hk0) xf_X8 rfl (Nat.le_of_ble_eq_true rfl) ?_
        refine X_aload_n (n := 41) 1 (kX7_readCond 20 rfl) rfl rfl rfl ?_
        refine X_aload_n (n := 42) 2 (kX7_readCond 21 rfl) rfl rfl rfl ?_
        refine X_iload_n (n := 43) 3 (kX7_readCond 22 rfl) rfl rfl rfl ?_
        refine X_assoc ?_
        refine X_callVB (n := 46) (As := [.ref a1, .int i2]) (st := []) (kX7_readCond 23 rfl) rfl (w_X7_readAll hd hr hk0 hk1) (by omega) ml_X7_46 mf_X7_readAll rfl hk0 xf_X7 rfl (Nat.le_of_ble_eq_true rfl) (fun r6 S7 hq => ?_)
        try dsimp only
        refine X_itebind ?_
        refine X_bn (n := 49) (tgt := 51) (kX7_readCond 24 rfl) rfl rfl (fun h8 => ?_) (fun h8 => ?_)
        · refine X_aload_n (n := 52) 1 (kX7_readCond 27 rfl) rfl rfl rfl ?_
          refine X_getR (n := 55) xf_X7 hk0 (by decide) fl_X7_12 rfl (kX7_readCond 28 rfl) rfl ?_
          refine X_sipush (n := 58) (v := 137) (kX7_readCond 29 rfl) rfl (by decide) ?_
          refine X_iconst (n := 59) (v := 0) (kX7_readCond 30 rfl) rfl (by decide) ?_
          refine X_iconst (n := 60) (v := 0) (kX7_readCond 31 rfl) rfl (by decide) ?_
          refine X_callV1V (n := 63) (As := [.int (137 : Int32), .int (0 : Int32), .int (0 : Int32)]) (st := []) (kX7_readCond 32 rfl) rfl (p_X6_add (kt_7_1 hk0)) (by omega) ml_X7_52 mf_X6_add rfl (kt_7_1 hk0) xf_X6 rfl (Nat.le_of_ble_eq_true rfl) ?_
          refine X_iinc (n := 66) 0 (v := (i3 + 1)) (L1 := [(3, .int (i3 + 1)), (0, .ref a0), (1, .ref a1), (2, .int i2)]) (kX7_readCond 33 rfl) rfl rfl rfl (Nat.le_of_ble_eq_true rfl) rfl ?_
          refine X_goto (tgt := 13) (kX7_readCond 34 rfl) rfl ?_
          exact X_L [0, 1, 2, 3] rfl (ih (i3 + 1) (t_X6_add (rf a0 1) (137 : Int32) (0 : Int32) (0 : Int32) S7))
        · refine X_iconst (n := 50) (v := 0) (kX7_readCond 25 rfl) rfl (by decide) ?_
          exact X_req (kR _) (X_zret (b := false) rfl (kX7_readCond 26 rfl))
      · exact X_L [] rfl (kE S)
set_option maxHeartbeats 4000000 in
set_option maxRecDepth 100000 in
theorem w_X7_readCond {l : Launch} {g : XG} {d : Nat} (hd : 30 ≤ d) {r : Nat → Nat → Int32 → XS → Option (Bool × XS)} (hr : ∀ (a0 : Nat) (a1 : Nat) (i2 : Int32) (S : XS), kd a0 = 7 → kd a1 = 2 → Cl φB l g d mX7_readOne [.ref a0, .ref a1, .int i2] S (r a0 a1 i2 S)) {a0 : Nat} {a1 : Nat} {i2 : Int32} {S : XS} (hk0 : kd a0 = 7) (hk1 : kd a1 = 2) : Cl φB l g (d + 2) mX7_readCond [.ref a0, .ref a1, .int i2] S (f_X7_readCond r a0 a1 i2 S) := by
  refine Cl.of (by decide +kernel) (Nat.le_of_ble_eq_true rfl) ?_
  unfold f_X7_readCond
  show X _ _ _ _ _ 0 [(0, .ref a0), (1, .ref a1), (2, .int i2)] [] S _
  refine X_aload_n (n := 1) 0 (kX7_readCond 0 rfl) rfl rfl rfl ?_
  refine X_aload_n (n := 2) 1 (kX7_readCond 1 rfl) rfl rfl rfl ?_
  refine X_iload_n (n := 3) 2 (kX7_readCond 2 rfl) rfl rfl rfl ?_
  refine X_callVB (n := 6) (As := [.ref a1, .int i2]) (st := []) (kX7_readCond 3 rfl) rfl (w_X7_readAll hd hr hk0 hk1) (by omega) ml_X7_46 mf_X7_readAll rfl hk0 xf_X7 rfl (Nat.le_of_ble_eq_true rfl) (fun r1 S2 hq => ?_)
  try dsimp only
  refine X_bn (n := 9) (tgt := 11) (kX7_readCond 4 rfl) rfl rfl (fun h3 => ?_) (fun h3 => ?_)
  · refine X_iconst (n := 12) (v := 0) (kX7_readCond 7 rfl) rfl (by decide) ?_
    refine X_istore_n (n := 13) (L1 := [(3, .int 0), (0, .ref a0), (1, .ref a1), (2, .int i2)]) (kX7_readCond 8 rfl) rfl rfl (Nat.le_of_ble_eq_true rfl) rfl ?_
    refine X_L [0, 1, 2, 3] rfl (w_X7_readCond_L13 hd hr hk0 hk1 (fun S9 => ?_) ?_ 1000000 (0 : Int32) S2)
    · refine X_iconst (n := 70) (v := 1) (kX7_readCond 35 rfl) rfl (by decide) ?_
      exact X_zret (b := true) rfl (kX7_readCond 36 rfl)
    · intro r
      rfl
  · refine X_iconst (n := 10) (v := 0) (kX7_readCond 5 rfl) rfl (by decide) ?_
    exact X_zret (b := false) rfl (kX7_readCond 6 rfl)
def f_X7_readInside (r : Nat → Nat → Int32 → XS → Option (Bool × XS)) (a0 : Nat) (a1 : Nat) (i2 : Int32) (i3 : Int32) (S : XS) : Option (Bool × XS) := (if i2 = 40 then ((f_X7_readCond r a0 a1 i3 S).bind (fun q => match q with | (r3, S4) => (if r3 = true then (if (t_X8_take (rf a0 0) (41 : Int32) S4).1 = true then some (true, (t_X8_take (rf a0 0) (41 : Int32) S4).2) else some (false, (t_X8_take (rf a0 0) (41 : Int32) S4).2)) else some (false, S4)))) else (if i2 = 134 then ((f_X8_takeTold (rf a0 0) a1 (1 : Int32) S).bind (fun q => match q with | (r7, S8) => (if r7 = true then (if (t_X7_added a0 (134 : Int32) (0 : Int32) (S8.1 (rf a0 0) 11) S8).1 = true then some (true, (t_X7_added a0 (134 : Int32) (0 : Int32) (S8.1 (rf a0 0) 11) S8).2) else some (false, (t_X7_added a0 (134 : Int32) (0 : Int32) (S8.1 (rf a0 0) 11) S8).2)) else some (false, S8)))) else (if i2 = 135 then ((f_X8_takeTold (rf a0 0) a1 (0 : Int32) S).bind (fun q => match q with | (r11, S12) => (if r11 = true then (if (t_X7_added a0 (135 : Int32) (0 : Int32) (S12.1 (rf a0 0) 11) S12).1 = true then some (true, (t_X7_added a0 (135 : Int32) (0 : Int32) (S12.1 (rf a0 0) 11) S12).2) else some (false, (t_X7_added a0 (135 : Int32) (0 : Int32) (S12.1 (rf a0 0) 11) S12).2)) else some (false, S12)))) else (if i2 = 139 then ((r a0 a1 i3 S).bind (fun q => match q with | (r15, S16) => (if r15 = true then (if (t_X7_added a0 (139 : Int32) (0 : Int32) (0 : Int32) S16).1 = true then some (true, (t_X7_added a0 (139 : Int32) (0 : Int32) (0 : Int32) S16).2) else some (false, (t_X7_added a0 (139 : Int32) (0 : Int32) (0 : Int32) S16).2)) else some (false, S16)))) else (if i2 = 140 then some ((t_X7_added a0 i2 (0 : Int32) (0 : Int32) S).1, (t_X7_added a0 i2 (0 : Int32) (0 : Int32) S).2) else (if i2 = 141 then some ((t_X7_added a0 i2 (0 : Int32) (0 : Int32) S).1, (t_X7_added a0 i2 (0 : Int32) (0 : Int32) S).2) else ((f_X7_readMeasure a0 i2 S).bind (fun q => match q with | (r1, S2) => some (r1, S2)))))))))
set_option maxHeartbeats 4000000 in
set_option maxRecDepth 100000 in
theorem w_X7_readInside {l : Launch} {g : XG} {d : Nat} (hd : 30 ≤ d) {r : Nat → Nat → Int32 → XS → Option (Bool × XS)} (hr : ∀ (a0 : Nat) (a1 : Nat) (i2 : Int32) (S : XS), kd a0 = 7 → kd a1 = 2 → Cl φB l g d mX7_readOne [.ref a0, .ref a1, .int i2] S (r a0 a1 i2 S)) {a0 : Nat} {a1 : Nat} {i2 : Int32} {i3 : Int32} {S : XS} (hk0 : kd a0 = 7) (hk1 : kd a1 = 2) : Cl φB l g (d + 3) mX7_readInside [.ref a0, .ref a1, .int i2, .int i3] S (f_X7_readInside r a0 a1 i2 i3 S) := by
  refine Cl.of (by decide +kernel) (Nat.le_of_ble_eq_true rfl) ?_
  unfold f_X7_readInside
  show X _ _ _ _ _ 0 [(0, .ref a0), (1, .ref a1), (2, .int i2), (3, .int i3)] [] S _
  refine X_iload_n (n := 1) 2 (kX7_readInside 0 rfl) rfl rfl rfl ?_
  refine X_ite (fun hc40 => ?_) (fun nc40 => ?_)
  · refine X_look (tgt := 60) (kX7_readInside 1 rfl) (by decide) (by rw [hc40] <;> rfl) rfl ?_
    refine X_aload_n (n := 61) 0 (kX7_readInside 2 rfl) rfl rfl rfl ?_
    refine X_aload_n (n := 62) 1 (kX7_readInside 3 rfl) rfl rfl rfl ?_
    refine X_iload_n (n := 63) 3 (kX7_readInside 4 rfl) rfl rfl rfl ?_
    refine X_callVB (n := 66) (As := [.ref a1, .int i3]) (st := []) (kX7_readInside 5 rfl) rfl (w_X7_readCond hd hr hk0 hk1) (by omega) ml_X7_35 mf_X7_readCond rfl hk0 xf_X7 rfl (Nat.le_of_ble_eq_true rfl) (fun r3 S4 hq => ?_)
    try dsimp only
    refine X_bz (n := 69) (tgt := 85) (kX7_readInside 6 rfl) rfl rfl (fun h5 => ?_) (fun h5 => ?_)
    · refine X_aload_n (n := 70) 0 (kX7_readInside 7 rfl) rfl rfl rfl ?_
      refine X_getR (n := 73) xf_X7 hk0 (by decide) fl_X7_18 rfl (kX7_readInside 8 rfl) rfl ?_
      refine X_bipush (n := 75) (v := 41) (kX7_readInside 9 rfl) rfl (by decide) ?_
      refine X_callV1B (n := 78) (As := [.int (41 : Int32)]) (st := []) (kX7_readInside 10 rfl) rfl (p_X8_take (kt_7_0 hk0)) (by omega) ml_X7_66 mf_X8_take rfl (kt_7_0 hk0) xf_X8 rfl (Nat.le_of_ble_eq_true rfl) ?_
      refine X_bz (n := 81) (tgt := 85) (kX7_readInside 11 rfl) rfl rfl (fun h6 => ?_) (fun h6 => ?_)
      · refine X_iconst (n := 82) (v := 1) (kX7_readInside 12 rfl) rfl (by decide) ?_
        refine X_goto (tgt := 86) (kX7_readInside 13 rfl) rfl ?_
        exact X_zret (b := true) rfl (kX7_readInside 15 rfl)
      · refine X_iconst (n := 86) (v := 0) (kX7_readInside 14 rfl) rfl (by decide) ?_
        exact X_zret (b := false) rfl (kX7_readInside 15 rfl)
    · refine X_iconst (n := 86) (v := 0) (kX7_readInside 14 rfl) rfl (by decide) ?_
      exact X_zret (b := false) rfl (kX7_readInside 15 rfl)
  · refine X_ite (fun hc134 => ?_) (fun nc134 => ?_)
    · refine X_look (tgt := 114) (kX7_readInside 1 rfl) (by decide) (by rw [hc134] <;> rfl) rfl ?_
      refine X_aload_n (n := 115) 0 (kX7_readInside 31 rfl) rfl rfl rfl ?_
      refine X_getR (n := 118) xf_X7 hk0 (by decide) fl_X7_18 rfl (kX7_readInside 32 rfl) rfl ?_
      refine X_aload_n (n := 119) 1 (kX7_readInside 33 rfl) rfl rfl rfl ?_
      refine X_iconst (n := 120) (v := 1) (kX7_readInside 34 rfl) rfl (by decide) ?_
      refine X_callVB (n := 123) (As := [.ref a1, .int (1 : Int32)]) (st := []) (kX7_readInside 35 rfl) rfl (w_X8_takeTold (kt_7_0 hk0) hk1) (by omega) ml_X7_73 mf_X8_takeTold rfl (kt_7_0 hk0) xf_X8 rfl (Nat.le_of_ble_eq_true rfl) (fun r7 S8 hq => ?_)
      try dsimp only
      refine X_bz (n := 126) (tgt := 148) (kX7_readInside 36 rfl) rfl rfl (fun h9 => ?_) (fun h9 => ?_)
      · refine X_aload_n (n := 127) 0 (kX7_readInside 37 rfl) rfl rfl rfl ?_
        refine X_sipush (n := 130) (v := 134) (kX7_readInside 38 rfl) rfl (by decide) ?_
        refine X_iconst (n := 131) (v := 0) (kX7_readInside 39 rfl) rfl (by decide) ?_
        refine X_aload_n (n := 132) 0 (kX7_readInside 40 rfl) rfl rfl rfl ?_
        refine X_getR (n := 135) xf_X7 hk0 (by decide) fl_X7_18 rfl (kX7_readInside 41 rfl) rfl ?_
        refine X_getI (n := 138) xf_X8 (kt_7_0 hk0) (by decide) fl_X7_76 rfl (kX7_readInside 42 rfl) rfl ?_
        refine X_callV1B (n := 141) (As := [.int (134 : Int32), .int (0 : Int32), .int (S8.1 (rf a0 0) 11)]) (st := []) (kX7_readInside 43 rfl) rfl (p_X7_added hk0) (by omega) ml_X7_69 mf_X7_added rfl hk0 xf_X7 rfl (Nat.le_of_ble_eq_true rfl) ?_
        refine X_bz (n := 144) (tgt := 148) (kX7_readInside 44 rfl) rfl rfl (fun h10 => ?_) (fun h10 => ?_)
        · refine X_iconst (n := 145) (v := 1) (kX7_readInside 45 rfl) rfl (by decide) ?_
          refine X_goto (tgt := 149) (kX7_readInside 46 rfl) rfl ?_
          exact X_zret (b := true) rfl (kX7_readInside 48 rfl)
        · refine X_iconst (n := 149) (v := 0) (kX7_readInside 47 rfl) rfl (by decide) ?_
          exact X_zret (b := false) rfl (kX7_readInside 48 rfl)
      · refine X_iconst (n := 149) (v := 0) (kX7_readInside 47 rfl) rfl (by decide) ?_
        exact X_zret (b := false) rfl (kX7_readInside 48 rfl)
    · refine X_ite (fun hc135 => ?_) (fun nc135 => ?_)
      · refine X_look (tgt := 150) (kX7_readInside 1 rfl) (by decide) (by rw [hc135] <;> rfl) rfl ?_
        refine X_aload_n (n := 151) 0 (kX7_readInside 49 rfl) rfl rfl rfl ?_
        refine X_getR (n := 154) xf_X7 hk0 (by decide) fl_X7_18 rfl (kX7_readInside 50 rfl) rfl ?_
        refine X_aload_n (n := 155) 1 (kX7_readInside 51 rfl) rfl rfl rfl ?_
        refine X_iconst (n := 156) (v := 0) (kX7_readInside 52 rfl) rfl (by decide) ?_
        refine X_callVB (n := 159) (As := [.ref a1, .int (0 : Int32)]) (st := []) (kX7_readInside 53 rfl) rfl (w_X8_takeTold (kt_7_0 hk0) hk1) (by omega) ml_X7_73 mf_X8_takeTold rfl (kt_7_0 hk0) xf_X8 rfl (Nat.le_of_ble_eq_true rfl) (fun r11 S12 hq => ?_)
        try dsimp only
        refine X_bz (n := 162) (tgt := 184) (kX7_readInside 54 rfl) rfl rfl (fun h13 => ?_) (fun h13 => ?_)
        · refine X_aload_n (n := 163) 0 (kX7_readInside 55 rfl) rfl rfl rfl ?_
          refine X_sipush (n := 166) (v := 135) (kX7_readInside 56 rfl) rfl (by decide) ?_
          refine X_iconst (n := 167) (v := 0) (kX7_readInside 57 rfl) rfl (by decide) ?_
          refine X_aload_n (n := 168) 0 (kX7_readInside 58 rfl) rfl rfl rfl ?_
          refine X_getR (n := 171) xf_X7 hk0 (by decide) fl_X7_18 rfl (kX7_readInside 59 rfl) rfl ?_
          refine X_getI (n := 174) xf_X8 (kt_7_0 hk0) (by decide) fl_X7_76 rfl (kX7_readInside 60 rfl) rfl ?_
          refine X_callV1B (n := 177) (As := [.int (135 : Int32), .int (0 : Int32), .int (S12.1 (rf a0 0) 11)]) (st := []) (kX7_readInside 61 rfl) rfl (p_X7_added hk0) (by omega) ml_X7_69 mf_X7_added rfl hk0 xf_X7 rfl (Nat.le_of_ble_eq_true rfl) ?_
          refine X_bz (n := 180) (tgt := 184) (kX7_readInside 62 rfl) rfl rfl (fun h14 => ?_) (fun h14 => ?_)
          · refine X_iconst (n := 181) (v := 1) (kX7_readInside 63 rfl) rfl (by decide) ?_
            refine X_goto (tgt := 185) (kX7_readInside 64 rfl) rfl ?_
            exact X_zret (b := true) rfl (kX7_readInside 66 rfl)
          · refine X_iconst (n := 185) (v := 0) (kX7_readInside 65 rfl) rfl (by decide) ?_
            exact X_zret (b := false) rfl (kX7_readInside 66 rfl)
        · refine X_iconst (n := 185) (v := 0) (kX7_readInside 65 rfl) rfl (by decide) ?_
          exact X_zret (b := false) rfl (kX7_readInside 66 rfl)
      · refine X_ite (fun hc139 => ?_) (fun nc139 => ?_)
        · refine X_look (tgt := 87) (kX7_readInside 1 rfl) (by decide) (by rw [hc139] <;> rfl) rfl ?_
          refine X_aload_n (n := 88) 0 (kX7_readInside 16 rfl) rfl rfl rfl ?_
          refine X_aload_n (n := 89) 1 (kX7_readInside 17 rfl) rfl rfl rfl ?_
          refine X_iload_n (n := 90) 3 (kX7_readInside 18 rfl) rfl rfl rfl ?_
          refine X_callVB (n := 93) (As := [.ref a1, .int i3]) (st := []) (kX7_readInside 19 rfl) rfl (hr a0 a1 i3 S hk0 hk1) (by omega) ml_X7_56 mf_X7_readOne rfl hk0 xf_X7 rfl (Nat.le_of_ble_eq_true rfl) (fun r15 S16 hq => ?_)
          try dsimp only
          refine X_bz (n := 96) (tgt := 112) (kX7_readInside 20 rfl) rfl rfl (fun h17 => ?_) (fun h17 => ?_)
          · refine X_aload_n (n := 97) 0 (kX7_readInside 21 rfl) rfl rfl rfl ?_
            refine X_sipush (n := 100) (v := 139) (kX7_readInside 22 rfl) rfl (by decide) ?_
            refine X_iconst (n := 101) (v := 0) (kX7_readInside 23 rfl) rfl (by decide) ?_
            refine X_iconst (n := 102) (v := 0) (kX7_readInside 24 rfl) rfl (by decide) ?_
            refine X_callV1B (n := 105) (As := [.int (139 : Int32), .int (0 : Int32), .int (0 : Int32)]) (st := []) (kX7_readInside 25 rfl) rfl (p_X7_added hk0) (by omega) ml_X7_69 mf_X7_added rfl hk0 xf_X7 rfl (Nat.le_of_ble_eq_true rfl) ?_
            refine X_bz (n := 108) (tgt := 112) (kX7_readInside 26 rfl) rfl rfl (fun h18 => ?_) (fun h18 => ?_)
            · refine X_iconst (n := 109) (v := 1) (kX7_readInside 27 rfl) rfl (by decide) ?_
              refine X_goto (tgt := 113) (kX7_readInside 28 rfl) rfl ?_
              exact X_zret (b := true) rfl (kX7_readInside 30 rfl)
            · refine X_iconst (n := 113) (v := 0) (kX7_readInside 29 rfl) rfl (by decide) ?_
              exact X_zret (b := false) rfl (kX7_readInside 30 rfl)
          · refine X_iconst (n := 113) (v := 0) (kX7_readInside 29 rfl) rfl (by decide) ?_
            exact X_zret (b := false) rfl (kX7_readInside 30 rfl)
        · refine X_ite (fun hc140 => ?_) (fun nc140 => ?_)
          · refine X_look (tgt := 186) (kX7_readInside 1 rfl) (by decide) (by rw [hc140] <;> rfl) rfl ?_
            refine X_aload_n (n := 187) 0 (kX7_readInside 67 rfl) rfl rfl rfl ?_
            refine X_iload_n (n := 188) 2 (kX7_readInside 68 rfl) rfl rfl rfl ?_
            refine X_iconst (n := 189) (v := 0) (kX7_readInside 69 rfl) rfl (by decide) ?_
            refine X_iconst (n := 190) (v := 0) (kX7_readInside 70 rfl) rfl (by decide) ?_
            refine X_callV1B (n := 193) (As := [.int i2, .int (0 : Int32), .int (0 : Int32)]) (st := []) (kX7_readInside 71 rfl) rfl (p_X7_added hk0) (by omega) ml_X7_69 mf_X7_added rfl hk0 xf_X7 rfl (Nat.le_of_ble_eq_true rfl) ?_
            exact X_zret (b := (t_X7_added a0 i2 (0 : Int32) (0 : Int32) S).1) rfl (kX7_readInside 72 rfl)
          · refine X_ite (fun hc141 => ?_) (fun nc141 => ?_)
            · refine X_look (tgt := 186) (kX7_readInside 1 rfl) (by decide) (by rw [hc141] <;> rfl) rfl ?_
              refine X_aload_n (n := 187) 0 (kX7_readInside 67 rfl) rfl rfl rfl ?_
              refine X_iload_n (n := 188) 2 (kX7_readInside 68 rfl) rfl rfl rfl ?_
              refine X_iconst (n := 189) (v := 0) (kX7_readInside 69 rfl) rfl (by decide) ?_
              refine X_iconst (n := 190) (v := 0) (kX7_readInside 70 rfl) rfl (by decide) ?_
              refine X_callV1B (n := 193) (As := [.int i2, .int (0 : Int32), .int (0 : Int32)]) (st := []) (kX7_readInside 71 rfl) rfl (p_X7_added hk0) (by omega) ml_X7_69 mf_X7_added rfl hk0 xf_X7 rfl (Nat.le_of_ble_eq_true rfl) ?_
              exact X_zret (b := (t_X7_added a0 i2 (0 : Int32) (0 : Int32) S).1) rfl (kX7_readInside 72 rfl)
            · refine X_look (tgt := 194) (kX7_readInside 1 rfl) (by decide) (by show Op.lookupswitch.offset [(40, 59), (134, 113), (135, 149), (139, 86), (140, 185), (141, 185)] 193 _ = _; rw [lv_osw nc40 (by decide), lv_osw nc134 (by decide), lv_osw nc135 (by decide), lv_osw nc139 (by decide), lv_osw nc140 (by decide), lv_osw nc141 (by decide)] <;> rfl) rfl ?_
              refine X_aload_n (n := 195) 0 (kX7_readInside 73 rfl) rfl rfl rfl ?_
              refine X_iload_n (n := 196) 2 (kX7_readInside 74 rfl) rfl rfl rfl ?_
              refine X_callVB (n := 199) (As := [.int i2]) (st := []) (kX7_readInside 75 rfl) rfl (w_X7_readMeasure hk0) (by omega) ml_X7_79 mf_X7_readMeasure rfl hk0 xf_X7 rfl (Nat.le_of_ble_eq_true rfl) (fun r1 S2 hq => ?_)
              try dsimp only
              exact X_zret (b := r1) rfl (kX7_readInside 76 rfl)
def f_X7_readOne (r : Nat → Nat → Int32 → XS → Option (Bool × XS)) (a0 : Nat) (a1 : Nat) (i2 : Int32) (S : XS) : Option (Bool × XS) := (if (t_X7_beginsOne (S.1 (rf a0 0) 10)) = true then (if (20 : Int32) ≤ (S.1 a0 2) then some ((t_X8_fail (rf a0 0) (4 : Int32) S).1, (t_X8_fail (rf a0 0) (4 : Int32) S).2) else (if i2 ≤ (8 : Int32) then ((f_X7_readInside r a0 a1 (S.1 (rf a0 0) 10) (i2 + (1 : Int32)) (t_X8_step (rf a0 0) (sI S a0 2 ((S.1 a0 2) + (1 : Int32))))).bind (fun q => match q with | (r4, S5) => some (r4, S5))) else some ((t_X8_fail (rf a0 0) (4 : Int32) S).1, (t_X8_fail (rf a0 0) (4 : Int32) S).2))) else some ((t_X8_fail (rf a0 0) (1 : Int32) S).1, (t_X8_fail (rf a0 0) (1 : Int32) S).2))
set_option maxHeartbeats 4000000 in
set_option maxRecDepth 100000 in
theorem w_X7_readOne {l : Launch} {g : XG} {d : Nat} (hd : 30 ≤ d) {r : Nat → Nat → Int32 → XS → Option (Bool × XS)} (hr : ∀ (a0 : Nat) (a1 : Nat) (i2 : Int32) (S : XS), kd a0 = 7 → kd a1 = 2 → Cl φB l g d mX7_readOne [.ref a0, .ref a1, .int i2] S (r a0 a1 i2 S)) {a0 : Nat} {a1 : Nat} {i2 : Int32} {S : XS} (hk0 : kd a0 = 7) (hk1 : kd a1 = 2) : Cl φB l g (d + 4) mX7_readOne [.ref a0, .ref a1, .int i2] S (f_X7_readOne r a0 a1 i2 S) := by
  refine Cl.of (by decide +kernel) (Nat.le_of_ble_eq_true rfl) ?_
  unfold f_X7_readOne
  show X _ _ _ _ _ 0 [(0, .ref a0), (1, .ref a1), (2, .int i2)] [] S _
  refine X_aload_n (n := 1) 0 (kX7_readOne 0 rfl) rfl rfl rfl ?_
  refine X_getR (n := 4) xf_X7 hk0 (by decide) fl_X7_18 rfl (kX7_readOne 1 rfl) rfl ?_
  refine X_getI (n := 7) xf_X8 (kt_7_0 hk0) (by decide) fl_X7_39 rfl (kX7_readOne 2 rfl) rfl ?_
  refine X_istore_n (n := 8) (L1 := [(3, .int (S.1 (rf a0 0) 10)), (0, .ref a0), (1, .ref a1), (2, .int i2)]) (kX7_readOne 3 rfl) rfl rfl (Nat.le_of_ble_eq_true rfl) rfl ?_
  refine X_iload_n (n := 9) 0 (kX7_readOne 4 rfl) rfl rfl rfl ?_
  refine X_callS1B (n := 12) (As := [.int (S.1 (rf a0 0) 10)]) (st := []) (kX7_readOne 5 rfl) rfl p_X7_beginsOne (by omega) ml_X7_59 mf_X7_beginsOne rfl rfl (Nat.le_of_ble_eq_true rfl) ?_
  refine X_bn (n := 15) (tgt := 24) (kX7_readOne 6 rfl) rfl rfl (fun h1 => ?_) (fun h1 => ?_)
  · refine X_aload_n (n := 25) 1 (kX7_readOne 12 rfl) rfl rfl rfl ?_
    refine X_getI (n := 28) xf_X7 hk0 (by decide) fl_X7_25 rfl (kX7_readOne 13 rfl) rfl ?_
    refine X_bipush (n := 30) (v := 20) (kX7_readOne 14 rfl) rfl (by decide) ?_
    refine X_ic_ge (n := 33) (tgt := 39) (kX7_readOne 15 rfl) rfl rfl (fun h2 => ?_) (fun h2 => ?_)
    · refine X_aload_n (n := 40) 1 (kX7_readOne 19 rfl) rfl rfl rfl ?_
      refine X_getR (n := 43) xf_X7 hk0 (by decide) fl_X7_18 rfl (kX7_readOne 20 rfl) rfl ?_
      refine X_iconst (n := 44) (v := 4) (kX7_readOne 21 rfl) rfl (by decide) ?_
      refine X_callV1B (n := 47) (As := [.int (4 : Int32)]) (st := []) (kX7_readOne 22 rfl) rfl (p_X8_fail (kt_7_0 hk0)) (by omega) ml_X7_42 mf_X8_fail rfl (kt_7_0 hk0) xf_X8 rfl (Nat.le_of_ble_eq_true rfl) ?_
      exact X_zret (b := (t_X8_fail (rf a0 0) (4 : Int32) S).1) rfl (kX7_readOne 23 rfl)
    · refine X_iload_n (n := 34) 3 (kX7_readOne 16 rfl) rfl rfl rfl ?_
      refine X_bipush (n := 36) (v := 8) (kX7_readOne 17 rfl) rfl (by decide) ?_
      refine X_ic_le (n := 39) (tgt := 48) (kX7_readOne 18 rfl) rfl rfl (fun h3 => ?_) (fun h3 => ?_)
      · refine X_aload_n (n := 49) 1 (kX7_readOne 24 rfl) rfl rfl rfl ?_
        refine X_dup (n := 50) (kX7_readOne 25 rfl) rfl rfl ?_
        refine X_getI (n := 53) xf_X7 hk0 (by decide) fl_X7_25 rfl (kX7_readOne 26 rfl) rfl ?_
        refine X_iconst (n := 54) (v := 1) (kX7_readOne 27 rfl) rfl (by decide) ?_
        refine X_iadd (n := 55) (kX7_readOne 28 rfl) rfl ?_
        refine X_putI (n := 58) xf_X7 hk0 (by decide) fl_X7_25 rfl rfl (Or.inl rfl) (kX7_readOne 29 rfl) rfl ?_
        refine X_aload_n (n := 59) 1 (kX7_readOne 30 rfl) rfl rfl rfl ?_
        refine X_getR (n := 62) xf_X7 hk0 (by decide) fl_X7_18 rfl (kX7_readOne 31 rfl) rfl ?_
        refine X_callV1V (n := 65) (As := []) (st := []) (kX7_readOne 32 rfl) rfl (p_X8_step (kt_7_0 hk0)) (by omega) ml_X7_49 mf_X8_step rfl (kt_7_0 hk0) xf_X8 rfl (Nat.le_of_ble_eq_true rfl) ?_
        refine X_aload_n (n := 66) 1 (kX7_readOne 33 rfl) rfl rfl rfl ?_
        refine X_aload_n (n := 67) 2 (kX7_readOne 34 rfl) rfl rfl rfl ?_
        refine X_iload_n (n := 68) 0 (kX7_readOne 35 rfl) rfl rfl rfl ?_
        refine X_iload_n (n := 69) 3 (kX7_readOne 36 rfl) rfl rfl rfl ?_
        refine X_iconst (n := 70) (v := 1) (kX7_readOne 37 rfl) rfl (by decide) ?_
        refine X_iadd (n := 71) (kX7_readOne 38 rfl) rfl ?_
        refine X_callVB (n := 74) (As := [.ref a1, .int (S.1 (rf a0 0) 10), .int (i2 + (1 : Int32))]) (st := []) (kX7_readOne 39 rfl) rfl (w_X7_readInside hd hr hk0 hk1) (by omega) ml_X7_62 mf_X7_readInside rfl hk0 xf_X7 rfl (Nat.le_of_ble_eq_true rfl) (fun r4 S5 hq => ?_)
        try dsimp only
        exact X_zret (b := r4) rfl (kX7_readOne 40 rfl)
      · refine X_aload_n (n := 40) 1 (kX7_readOne 19 rfl) rfl rfl rfl ?_
        refine X_getR (n := 43) xf_X7 hk0 (by decide) fl_X7_18 rfl (kX7_readOne 20 rfl) rfl ?_
        refine X_iconst (n := 44) (v := 4) (kX7_readOne 21 rfl) rfl (by decide) ?_
        refine X_callV1B (n := 47) (As := [.int (4 : Int32)]) (st := []) (kX7_readOne 22 rfl) rfl (p_X8_fail (kt_7_0 hk0)) (by omega) ml_X7_42 mf_X8_fail rfl (kt_7_0 hk0) xf_X8 rfl (Nat.le_of_ble_eq_true rfl) ?_
        exact X_zret (b := (t_X8_fail (rf a0 0) (4 : Int32) S).1) rfl (kX7_readOne 23 rfl)
  · refine X_aload_n (n := 16) 1 (kX7_readOne 7 rfl) rfl rfl rfl ?_
    refine X_getR (n := 19) xf_X7 hk0 (by decide) fl_X7_18 rfl (kX7_readOne 8 rfl) rfl ?_
    refine X_iconst (n := 20) (v := 1) (kX7_readOne 9 rfl) rfl (by decide) ?_
    refine X_callV1B (n := 23) (As := [.int (1 : Int32)]) (st := []) (kX7_readOne 10 rfl) rfl (p_X8_fail (kt_7_0 hk0)) (by omega) ml_X7_42 mf_X8_fail rfl (kt_7_0 hk0) xf_X8 rfl (Nat.le_of_ble_eq_true rfl) ?_
    exact X_zret (b := (t_X8_fail (rf a0 0) (1 : Int32) S).1) rfl (kX7_readOne 11 rfl)
def rX7_readOne : Nat → Nat → Nat → Int32 → XS → Option (Bool × XS)
  | 0, _, _, _, _ => none
  | n + 1, a0, a1, i2, S => f_X7_readOne (rX7_readOne n) a0 a1 i2 S
theorem wr_X7_readOne {l : Launch} {g : XG} : ∀ (n : Nat) (a0 : Nat) (a1 : Nat) (i2 : Int32) (S : XS), kd a0 = 7 → kd a1 = 2 → Cl φB l g (30 + 4 * n) mX7_readOne [.ref a0, .ref a1, .int i2] S (rX7_readOne n a0 a1 i2 S) := by
  intro n
  induction n with
  | zero => intro a0 a1 i2 S h0 h1 q hq; cases hq
  | succ n ih => intro a0 a1 i2 S h0 h1; exact w_X7_readOne (d := 30 + 4 * n) (by omega) ih h0 h1
def f_X4_tryCloth (r : Nat → Nat → Int32 → Int32 → XS → Option (Bool × XS)) (a0 : Nat) (a1 : Nat) (i2 : Int32) (i3 : Int32) (i4 : Int32) (S : XS) : Option (Bool × XS) := (if (t_X4_isDrowned a1 i4 (gat S (rf a0 4) i4) (rf a0 6) i2 S) = true then some (false, S) else ((f_X4_open a1 i4 (rf a0 6) i2 (i2 + (1 : Int32)) (pat S (rf a0 5) i2 i4)).bind (fun S2 => ((r a0 a1 (i2 + (1 : Int32)) (i3 ||| (shl32 (1 : Int32) i4)) S2).bind (fun q => match q with | (r3, S4) => some (r3, S4))))))
set_option maxHeartbeats 4000000 in
set_option maxRecDepth 100000 in
theorem w_X4_tryCloth {l : Launch} {g : XG} {d : Nat} (hd : 30 ≤ d) {r : Nat → Nat → Int32 → Int32 → XS → Option (Bool × XS)} (hr : ∀ (a0 : Nat) (a1 : Nat) (i2 : Int32) (i3 : Int32) (S : XS), kd a0 = 4 → kd a1 = 10 → Cl φB l g d mX4_tryNext [.ref a0, .ref a1, .int i2, .int i3] S (r a0 a1 i2 i3 S)) {a0 : Nat} {a1 : Nat} {i2 : Int32} {i3 : Int32} {i4 : Int32} {S : XS} (hk0 : kd a0 = 4) (hk1 : kd a1 = 10) : Cl φB l g (d + 1) mX4_tryCloth [.ref a0, .ref a1, .int i2, .int i3, .int i4] S (f_X4_tryCloth r a0 a1 i2 i3 i4 S) := by
  refine Cl.of (by decide +kernel) (Nat.le_of_ble_eq_true rfl) ?_
  unfold f_X4_tryCloth
  show X _ _ _ _ _ 0 [(0, .ref a0), (1, .ref a1), (2, .int i2), (3, .int i3), (4, .int i4)] [] S _
  refine X_aload_n (n := 1) 1 (kX4_tryCloth 0 rfl) rfl rfl rfl ?_
  refine X_iload (n := 3) 4 (kX4_tryCloth 1 rfl) rfl rfl ?_
  refine X_aload_n (n := 4) 0 (kX4_tryCloth 2 rfl) rfl rfl rfl ?_
  refine X_getR (n := 7) xf_X4 hk0 (by decide) fl_X4_18 rfl (kX4_tryCloth 3 rfl) rfl ?_
  refine X_iload (n := 9) 4 (kX4_tryCloth 4 rfl) rfl rfl ?_
  refine X_callN1I (n := 12) (As := [.ref (rf a0 4), .int i4]) (st := [.int i4, .ref a1]) (kX4_tryCloth 5 rfl) rfl (p_X11_at (kt_4_4 hk0)) (by omega) nl_X4_53 mf_X11_at rfl rfl (Nat.le_of_ble_eq_true rfl) ?_
  refine X_aload_n (n := 13) 0 (kX4_tryCloth 6 rfl) rfl rfl rfl ?_
  refine X_getR (n := 16) xf_X4 hk0 (by decide) fl_X4_24 rfl (kX4_tryCloth 7 rfl) rfl ?_
  refine X_iload_n (n := 17) 2 (kX4_tryCloth 8 rfl) rfl rfl rfl ?_
  refine X_callS1B (n := 20) (As := [.ref a1, .int i4, .int (gat S (rf a0 4) i4), .ref (rf a0 6), .int i2]) (st := []) (kX4_tryCloth 9 rfl) rfl (p_X4_isDrowned hk1 (kt_4_6 hk0)) (by omega) ml_X4_95 mf_X4_isDrowned rfl rfl (Nat.le_of_ble_eq_true rfl) ?_
  refine X_bz (n := 23) (tgt := 25) (kX4_tryCloth 10 rfl) rfl rfl (fun h1 => ?_) (fun h1 => ?_)
  · refine X_iconst (n := 24) (v := 0) (kX4_tryCloth 11 rfl) rfl (by decide) ?_
    exact X_zret (b := false) rfl (kX4_tryCloth 12 rfl)
  · refine X_aload_n (n := 26) 0 (kX4_tryCloth 13 rfl) rfl rfl rfl ?_
    refine X_getR (n := 29) xf_X4 hk0 (by decide) fl_X4_21 rfl (kX4_tryCloth 14 rfl) rfl ?_
    refine X_iload_n (n := 30) 2 (kX4_tryCloth 15 rfl) rfl rfl rfl ?_
    refine X_iload (n := 32) 4 (kX4_tryCloth 16 rfl) rfl rfl ?_
    refine X_callN1V (n := 35) (As := [.ref (rf a0 5), .int i2, .int i4]) (st := []) (kX4_tryCloth 17 rfl) rfl (p_X11_put (kt_4_5 hk0)) (by omega) nl_X4_73 mf_X11_put rfl rfl (Nat.le_of_ble_eq_true rfl) ?_
    refine X_aload_n (n := 36) 1 (kX4_tryCloth 18 rfl) rfl rfl rfl ?_
    refine X_iload (n := 38) 4 (kX4_tryCloth 19 rfl) rfl rfl ?_
    refine X_aload_n (n := 39) 0 (kX4_tryCloth 20 rfl) rfl rfl rfl ?_
    refine X_getR (n := 42) xf_X4 hk0 (by decide) fl_X4_24 rfl (kX4_tryCloth 21 rfl) rfl ?_
    refine X_iload_n (n := 43) 2 (kX4_tryCloth 22 rfl) rfl rfl rfl ?_
    refine X_iload_n (n := 44) 2 (kX4_tryCloth 23 rfl) rfl rfl rfl ?_
    refine X_iconst (n := 45) (v := 1) (kX4_tryCloth 24 rfl) rfl (by decide) ?_
    refine X_iadd (n := 46) (kX4_tryCloth 25 rfl) rfl ?_
    refine X_callSV (n := 49) (As := [.ref a1, .int i4, .ref (rf a0 6), .int i2, .int (i2 + (1 : Int32))]) (st := []) (kX4_tryCloth 26 rfl) rfl (w_X4_open hk1 (kt_4_6 hk0)) (by omega) ml_X4_99 mf_X4_open rfl rfl (Nat.le_of_ble_eq_true rfl) (fun S2 hq => ?_)
    try dsimp only
    refine X_aload_n (n := 50) 0 (kX4_tryCloth 27 rfl) rfl rfl rfl ?_
    refine X_aload_n (n := 51) 1 (kX4_tryCloth 28 rfl) rfl rfl rfl ?_
    refine X_iload_n (n := 52) 2 (kX4_tryCloth 29 rfl) rfl rfl rfl ?_
    refine X_iconst (n := 53) (v := 1) (kX4_tryCloth 30 rfl) rfl (by decide) ?_
    refine X_iadd (n := 54) (kX4_tryCloth 31 rfl) rfl ?_
    refine X_iload_n (n := 55) 3 (kX4_tryCloth 32 rfl) rfl rfl rfl ?_
    refine X_iconst (n := 56) (v := 1) (kX4_tryCloth 33 rfl) rfl (by decide) ?_
    refine X_iload (n := 58) 4 (kX4_tryCloth 34 rfl) rfl rfl ?_
    refine X_ishl (n := 59) (kX4_tryCloth 35 rfl) rfl ?_
    refine X_ior (n := 60) (kX4_tryCloth 36 rfl) rfl ?_
    refine X_callVB (n := 63) (As := [.ref a1, .int (i2 + (1 : Int32)), .int (i3 ||| (shl32 (1 : Int32) i4))]) (st := []) (kX4_tryCloth 37 rfl) rfl (hr a0 a1 (i2 + (1 : Int32)) (i3 ||| (shl32 (1 : Int32) i4)) S2 hk0 hk1) (by omega) ml_X4_111 mf_X4_tryNext rfl hk0 xf_X4 rfl (Nat.le_of_ble_eq_true rfl) (fun r3 S4 hq => ?_)
    try dsimp only
    exact X_zret (b := r3) rfl (kX4_tryCloth 38 rfl)
def f_X4_tryNext_L28 (r : Nat → Nat → Int32 → Int32 → XS → Option (Bool × XS)) (a0 : Nat) (a1 : Nat) (i2 : Int32) (i3 : Int32) : Nat → Int32 → XS → Option ((Bool × XS) ⊕ (XS))
  | 0, _, _ => none
  | n + 1, i4, S => (if (S.1 a1 4) ≤ i4 then some (.inr S) else (if ((shr32 i3 i4) &&& (1 : Int32)) = 0 then ((f_X4_tryCloth r a0 a1 i2 i3 i4 S).bind (fun q => match q with | (r5, S6) => (if r5 = true then some (.inl (true, S6)) else f_X4_tryNext_L28 r a0 a1 i2 i3 n (i4 + 1) S6))) else f_X4_tryNext_L28 r a0 a1 i2 i3 n (i4 + 1) S))
def f_X4_tryNext (r : Nat → Nat → Int32 → Int32 → XS → Option (Bool × XS)) (a0 : Nat) (a1 : Nat) (i2 : Int32) (i3 : Int32) (S : XS) : Option (Bool × XS) := (if ((pat S (rf a0 7) i3 (1 : Int32)).1 a1 4) ≤ i2 then some (true, (pat S (rf a0 7) i3 (1 : Int32))) else (if i2 < (8 : Int32) then ((f_X4_tryNext_L28 r a0 a1 i2 i3 1000000 (0 : Int32) (pat S (rf a0 7) i3 (1 : Int32))).bind (fun q => match q with | .inl r => some r | .inr S8 => some (false, S8))) else some (true, (pat S (rf a0 7) i3 (1 : Int32)))))
set_option maxHeartbeats 4000000 in
set_option maxRecDepth 100000 in
theorem w_X4_tryNext_L28 {l : Launch} {g : XG} {G : ((Bool × XS) ⊕ (XS)) → Option (Bool × XS)} {d : Nat} (hd : 30 ≤ d) {r : Nat → Nat → Int32 → Int32 → XS → Option (Bool × XS)} (hr : ∀ (a0 : Nat) (a1 : Nat) (i2 : Int32) (i3 : Int32) (S : XS), kd a0 = 4 → kd a1 = 10 → Cl φB l g d mX4_tryNext [.ref a0, .ref a1, .int i2, .int i3] S (r a0 a1 i2 i3 S)) {a0 : Nat} {a1 : Nat} {i2 : Int32} {i3 : Int32} (hk0 : kd a0 = 4) (hk1 : kd a1 = 10) (kE : ∀ (S1 : XS), X φB l g (d + 2) mX4_tryNext 66 [] [] S1 (G (.inr S1))) (kR : ∀ r, G (.inl r) = some r) : ∀ (n : Nat) (i4 : Int32) (S : XS), X φB l g (d + 2) mX4_tryNext 28 [(4, .int i4), (0, .ref a0), (1, .ref a1), (2, .int i2), (3, .int i3)] [] S ((f_X4_tryNext_L28 r a0 a1 i2 i3 n i4 S).bind G) := by
  intro n
  induction n with
  | zero => intro i4 S; exact X_none
  | succ n ih =>
  · intro i4 S
    rw [f_X4_tryNext_L28]
    refine X_iload (n := 30) 0 (kX4_tryNext 16 rfl) rfl rfl ?_
    refine X_aload_n (n := 31) 2 (kX4_tryNext 17 rfl) rfl rfl rfl ?_
    refine X_getI (n := 34) xf_X10 hk1 (by decide) fl_X4_40 rfl (kX4_tryNext 18 rfl) rfl ?_
    refine X_itebind ?_
    refine X_ic_ge (n := 37) (tgt := 66) (kX4_tryNext 19 rfl) rfl rfl (fun h3 => ?_) (fun h3 => ?_)
    · exact X_L [] rfl (kE S)
    · refine X_iload_n (n := 38) 4 (kX4_tryNext 20 rfl) rfl rfl rfl ?_
      refine X_iload (n := 40) 0 (kX4_tryNext 21 rfl) rfl rfl ?_
      refine X_ishr (n := 41) (kX4_tryNext 22 rfl) rfl ?_
      refine X_iconst (n := 42) (v := 1) (kX4_tryNext 23 rfl) rfl (by decide) ?_
      refine X_iand (n := 43) (kX4_tryNext 24 rfl) rfl ?_
      refine X_itebind ?_
      refine X_if_ne (n := 46) (tgt := 60) (kX4_tryNext 25 rfl) rfl rfl (fun h4 => ?_) (fun h4 => ?_)
      · refine X_aload_n (n := 47) 1 (kX4_tryNext 26 rfl) rfl rfl rfl ?_
        refine X_aload_n (n := 48) 2 (kX4_tryNext 27 rfl) rfl rfl rfl ?_
        refine X_iload_n (n := 49) 3 (kX4_tryNext 28 rfl) rfl rfl rfl ?_
        refine X_iload_n (n := 50) 4 (kX4_tryNext 29 rfl) rfl rfl rfl ?_
        refine X_iload (n := 52) 0 (kX4_tryNext 30 rfl) rfl rfl ?_
        refine X_assoc ?_
        refine X_callVB (n := 55) (As := [.ref a1, .int i2, .int i3, .int i4]) (st := []) (kX4_tryNext 31 rfl) rfl (w_X4_tryCloth hd hr hk0 hk1) (by omega) ml_X4_115 mf_X4_tryCloth rfl hk0 xf_X4 rfl (Nat.le_of_ble_eq_true rfl) (fun r5 S6 hq => ?_)
        try dsimp only
        refine X_itebind ?_
        refine X_bz (n := 58) (tgt := 60) (kX4_tryNext 32 rfl) rfl rfl (fun h7 => ?_) (fun h7 => ?_)
        · refine X_iconst (n := 59) (v := 1) (kX4_tryNext 33 rfl) rfl (by decide) ?_
          exact X_req (kR _) (X_zret (b := true) rfl (kX4_tryNext 34 rfl))
        · refine X_iinc (n := 63) 0 (v := (i4 + 1)) (L1 := [(4, .int (i4 + 1)), (0, .ref a0), (1, .ref a1), (2, .int i2), (3, .int i3)]) (kX4_tryNext 35 rfl) rfl rfl rfl (Nat.le_of_ble_eq_true rfl) rfl ?_
          refine X_goto (tgt := 28) (kX4_tryNext 36 rfl) rfl ?_
          exact X_L [0, 1, 2, 3, 4] rfl (ih (i4 + 1) S6)
      · refine X_iinc (n := 63) 0 (v := (i4 + 1)) (L1 := [(4, .int (i4 + 1)), (0, .ref a0), (1, .ref a1), (2, .int i2), (3, .int i3)]) (kX4_tryNext 35 rfl) rfl rfl rfl (Nat.le_of_ble_eq_true rfl) rfl ?_
        refine X_goto (tgt := 28) (kX4_tryNext 36 rfl) rfl ?_
        exact X_L [0, 1, 2, 3, 4] rfl (ih (i4 + 1) S)
set_option maxHeartbeats 4000000 in
set_option maxRecDepth 100000 in
theorem w_X4_tryNext {l : Launch} {g : XG} {d : Nat} (hd : 30 ≤ d) {r : Nat → Nat → Int32 → Int32 → XS → Option (Bool × XS)} (hr : ∀ (a0 : Nat) (a1 : Nat) (i2 : Int32) (i3 : Int32) (S : XS), kd a0 = 4 → kd a1 = 10 → Cl φB l g d mX4_tryNext [.ref a0, .ref a1, .int i2, .int i3] S (r a0 a1 i2 i3 S)) {a0 : Nat} {a1 : Nat} {i2 : Int32} {i3 : Int32} {S : XS} (hk0 : kd a0 = 4) (hk1 : kd a1 = 10) : Cl φB l g (d + 2) mX4_tryNext [.ref a0, .ref a1, .int i2, .int i3] S (f_X4_tryNext r a0 a1 i2 i3 S) := by
  refine Cl.of (by decide +kernel) (Nat.le_of_ble_eq_true rfl) ?_
  unfold f_X4_tryNext
  show X _ _ _ _ _ 0 [(0, .ref a0), (1, .ref a1), (2, .int i2), (3, .int i3)] [] S _
  refine X_aload_n (n := 1) 0 (kX4_tryNext 0 rfl) rfl rfl rfl ?_
  refine X_getR (n := 4) xf_X4 hk0 (by decide) fl_X4_27 rfl (kX4_tryNext 1 rfl) rfl ?_
  refine X_iload_n (n := 5) 3 (kX4_tryNext 2 rfl) rfl rfl rfl ?_
  refine X_iconst (n := 6) (v := 1) (kX4_tryNext 3 rfl) rfl (by decide) ?_
  refine X_callN1V (n := 9) (As := [.ref (rf a0 7), .int i3, .int (1 : Int32)]) (st := []) (kX4_tryNext 4 rfl) rfl (p_X11_put (kt_4_7 hk0)) (by omega) nl_X4_73 mf_X11_put rfl rfl (Nat.le_of_ble_eq_true rfl) ?_
  refine X_iload_n (n := 10) 2 (kX4_tryNext 5 rfl) rfl rfl rfl ?_
  refine X_aload_n (n := 11) 1 (kX4_tryNext 6 rfl) rfl rfl rfl ?_
  refine X_getI (n := 14) xf_X10 hk1 (by decide) fl_X4_40 rfl (kX4_tryNext 7 rfl) rfl ?_
  refine X_ic_ge (n := 17) (tgt := 23) (kX4_tryNext 8 rfl) rfl rfl (fun h1 => ?_) (fun h1 => ?_)
  · refine X_iconst (n := 24) (v := 1) (kX4_tryNext 12 rfl) rfl (by decide) ?_
    exact X_zret (b := true) rfl (kX4_tryNext 13 rfl)
  · refine X_iload_n (n := 18) 2 (kX4_tryNext 9 rfl) rfl rfl rfl ?_
    refine X_bipush (n := 20) (v := 8) (kX4_tryNext 10 rfl) rfl (by decide) ?_
    refine X_ic_lt (n := 23) (tgt := 25) (kX4_tryNext 11 rfl) rfl rfl (fun h2 => ?_) (fun h2 => ?_)
    · refine X_iconst (n := 26) (v := 0) (kX4_tryNext 14 rfl) rfl (by decide) ?_
      refine X_istore (n := 28) (L1 := [(4, .int 0), (0, .ref a0), (1, .ref a1), (2, .int i2), (3, .int i3)]) (kX4_tryNext 15 rfl) rfl (Nat.le_of_ble_eq_true rfl) rfl ?_
      refine X_L [0, 1, 2, 3, 4] rfl (w_X4_tryNext_L28 hd hr hk0 hk1 (fun S8 => ?_) ?_ 1000000 (0 : Int32) (pat S (rf a0 7) i3 (1 : Int32)))
      · refine X_iconst (n := 67) (v := 0) (kX4_tryNext 37 rfl) rfl (by decide) ?_
        exact X_zret (b := false) rfl (kX4_tryNext 38 rfl)
      · intro r
        rfl
    · refine X_iconst (n := 24) (v := 1) (kX4_tryNext 12 rfl) rfl (by decide) ?_
      exact X_zret (b := true) rfl (kX4_tryNext 13 rfl)
def rX4_tryNext : Nat → Nat → Nat → Int32 → Int32 → XS → Option (Bool × XS)
  | 0, _, _, _, _, _ => none
  | n + 1, a0, a1, i2, i3, S => f_X4_tryNext (rX4_tryNext n) a0 a1 i2 i3 S
theorem wr_X4_tryNext {l : Launch} {g : XG} : ∀ (n : Nat) (a0 : Nat) (a1 : Nat) (i2 : Int32) (i3 : Int32) (S : XS), kd a0 = 4 → kd a1 = 10 → Cl φB l g (30 + 2 * n) mX4_tryNext [.ref a0, .ref a1, .int i2, .int i3] S (rX4_tryNext n a0 a1 i2 i3 S) := by
  intro n
  induction n with
  | zero => intro a0 a1 i2 i3 S h0 h1 q hq; cases hq
  | succ n ih => intro a0 a1 i2 i3 S h0 h1; exact w_X4_tryNext (d := 30 + 2 * n) (by omega) ih h0 h1
def f_X9_tryPlace_L13 (r : Nat → Nat → Int32 → Int32 → XS → Option (XS)) (a0 : Nat) (a1 : Nat) (i2 : Int32) (i3 : Int32) (i4 : Int32) : Nat → Int32 → XS → Option (XS)
  | 0, _, _ => none
  | n + 1, i5, S => (if (6 : Int32) ≤ i5 then some S else f_X9_tryPlace_L13 r a0 a1 i2 i3 i4 n (i5 + 1) (pat S (rf a0 9) ((i3 * (6 : Int32)) + i5) (gat S (rf a0 9) (((i3 - (1 : Int32)) * (6 : Int32)) + i5))))
def f_X9_tryPlace (r : Nat → Nat → Int32 → Int32 → XS → Option (XS)) (a0 : Nat) (a1 : Nat) (i2 : Int32) (i3 : Int32) (i4 : Int32) (S : XS) : Option (XS) := ((f_X9_tryPlace_L13 r a0 a1 i2 i3 i4 1000000 (0 : Int32) (pat S (rf a0 8) i3 i4)).bind (fun S2 => ((f_X2_passHour a1 (rf a0 9) i3 i2 i3 false i4 S2).bind (fun S3 => ((f_X9_canEndAsTold a0 a1 i2 i3 S3).bind (fun q => match q with | (r4, S5) => (if r4 = true then ((r a0 a1 i2 (i3 + (1 : Int32)) S5).bind (fun S7 => some S7)) else some S5)))))))
set_option maxHeartbeats 4000000 in
set_option maxRecDepth 100000 in
theorem w_X9_tryPlace_L13 {l : Launch} {g : XG} {G : (XS) → Option (XS)} {d : Nat} (hd : 30 ≤ d) {r : Nat → Nat → Int32 → Int32 → XS → Option (XS)} (hr : ∀ (a0 : Nat) (a1 : Nat) (i2 : Int32) (i3 : Int32) (S : XS), kd a0 = 9 → kd a1 = 2 → Cl φV l g d mX9_tryHour [.ref a0, .ref a1, .int i2, .int i3] S (r a0 a1 i2 i3 S)) {a0 : Nat} {a1 : Nat} {i2 : Int32} {i3 : Int32} {i4 : Int32} (hk0 : kd a0 = 9) (hk1 : kd a1 = 2) (kE : ∀ (S1 : XS), X φV l g (d + 1) mX9_tryPlace 56 [(0, .ref a0), (1, .ref a1), (2, .int i2), (3, .int i3), (4, .int i4)] [] S1 (G S1)) : ∀ (n : Nat) (i5 : Int32) (S : XS), X φV l g (d + 1) mX9_tryPlace 13 [(5, .int i5), (0, .ref a0), (1, .ref a1), (2, .int i2), (3, .int i3), (4, .int i4)] [] S ((f_X9_tryPlace_L13 r a0 a1 i2 i3 i4 n i5 S).bind G) := by
  intro n
  induction n with
  | zero => intro i5 S; exact X_none
  | succ n ih =>
  · intro i5 S
    rw [f_X9_tryPlace_L13]
    refine X_iload (n := 15) 0 (kX9_tryPlace 7 rfl) rfl rfl ?_
    refine X_bipush (n := 17) (v := 6) (kX9_tryPlace 8 rfl) rfl (by decide) ?_
    refine X_itebind ?_
    refine X_ic_ge (n := 20) (tgt := 56) (kX9_tryPlace 9 rfl) rfl rfl (fun h1 => ?_) (fun h1 => ?_)
    · exact X_L [1, 2, 3, 4, 5] rfl (kE S)
    · refine X_aload_n (n := 21) 1 (kX9_tryPlace 10 rfl) rfl rfl rfl ?_
      refine X_getR (n := 24) xf_X9 hk0 (by decide) fl_X9_27 rfl (kX9_tryPlace 11 rfl) rfl ?_
      refine X_iload_n (n := 25) 4 (kX9_tryPlace 12 rfl) rfl rfl rfl ?_
      refine X_bipush (n := 27) (v := 6) (kX9_tryPlace 13 rfl) rfl (by decide) ?_
      refine X_imul (n := 28) (kX9_tryPlace 14 rfl) rfl ?_
      refine X_iload (n := 30) 0 (kX9_tryPlace 15 rfl) rfl rfl ?_
      refine X_iadd (n := 31) (kX9_tryPlace 16 rfl) rfl ?_
      refine X_aload_n (n := 32) 1 (kX9_tryPlace 17 rfl) rfl rfl rfl ?_
      refine X_getR (n := 35) xf_X9 hk0 (by decide) fl_X9_27 rfl (kX9_tryPlace 18 rfl) rfl ?_
      refine X_iload_n (n := 36) 4 (kX9_tryPlace 19 rfl) rfl rfl rfl ?_
      refine X_iconst (n := 37) (v := 1) (kX9_tryPlace 20 rfl) rfl (by decide) ?_
      refine X_isub (n := 38) (kX9_tryPlace 21 rfl) rfl ?_
      refine X_bipush (n := 40) (v := 6) (kX9_tryPlace 22 rfl) rfl (by decide) ?_
      refine X_imul (n := 41) (kX9_tryPlace 23 rfl) rfl ?_
      refine X_iload (n := 43) 0 (kX9_tryPlace 24 rfl) rfl rfl ?_
      refine X_iadd (n := 44) (kX9_tryPlace 25 rfl) rfl ?_
      refine X_callN1I (n := 47) (As := [.ref (rf a0 9), .int (((i3 - (1 : Int32)) * (6 : Int32)) + i5)]) (st := [.int ((i3 * (6 : Int32)) + i5), .ref (rf a0 9)]) (kX9_tryPlace 26 rfl) rfl (p_X11_at (kt_9_9 hk0)) (by omega) nl_X9_39 mf_X11_at rfl rfl (Nat.le_of_ble_eq_true rfl) ?_
      refine X_callN1V (n := 50) (As := [.ref (rf a0 9), .int ((i3 * (6 : Int32)) + i5), .int (gat S (rf a0 9) (((i3 - (1 : Int32)) * (6 : Int32)) + i5))]) (st := []) (kX9_tryPlace 27 rfl) rfl (p_X11_put (kt_9_9 hk0)) (by omega) nl_X9_57 mf_X11_put rfl rfl (Nat.le_of_ble_eq_true rfl) ?_
      refine X_iinc (n := 53) 0 (v := (i5 + 1)) (L1 := [(5, .int (i5 + 1)), (0, .ref a0), (1, .ref a1), (2, .int i2), (3, .int i3), (4, .int i4)]) (kX9_tryPlace 28 rfl) rfl rfl rfl (Nat.le_of_ble_eq_true rfl) rfl ?_
      refine X_goto (tgt := 13) (kX9_tryPlace 29 rfl) rfl ?_
      exact X_L [0, 1, 2, 3, 4, 5] rfl (ih (i5 + 1) (pat S (rf a0 9) ((i3 * (6 : Int32)) + i5) (gat S (rf a0 9) (((i3 - (1 : Int32)) * (6 : Int32)) + i5))))
set_option maxHeartbeats 4000000 in
set_option maxRecDepth 100000 in
theorem w_X9_tryPlace {l : Launch} {g : XG} {d : Nat} (hd : 30 ≤ d) {r : Nat → Nat → Int32 → Int32 → XS → Option (XS)} (hr : ∀ (a0 : Nat) (a1 : Nat) (i2 : Int32) (i3 : Int32) (S : XS), kd a0 = 9 → kd a1 = 2 → Cl φV l g d mX9_tryHour [.ref a0, .ref a1, .int i2, .int i3] S (r a0 a1 i2 i3 S)) {a0 : Nat} {a1 : Nat} {i2 : Int32} {i3 : Int32} {i4 : Int32} {S : XS} (hk0 : kd a0 = 9) (hk1 : kd a1 = 2) : Cl φV l g (d + 1) mX9_tryPlace [.ref a0, .ref a1, .int i2, .int i3, .int i4] S (f_X9_tryPlace r a0 a1 i2 i3 i4 S) := by
  refine Cl.of (by decide +kernel) (Nat.le_of_ble_eq_true rfl) ?_
  unfold f_X9_tryPlace
  show X _ _ _ _ _ 0 [(0, .ref a0), (1, .ref a1), (2, .int i2), (3, .int i3), (4, .int i4)] [] S _
  refine X_aload_n (n := 1) 0 (kX9_tryPlace 0 rfl) rfl rfl rfl ?_
  refine X_getR (n := 4) xf_X9 hk0 (by decide) fl_X9_24 rfl (kX9_tryPlace 1 rfl) rfl ?_
  refine X_iload_n (n := 5) 3 (kX9_tryPlace 2 rfl) rfl rfl rfl ?_
  refine X_iload (n := 7) 4 (kX9_tryPlace 3 rfl) rfl rfl ?_
  refine X_callN1V (n := 10) (As := [.ref (rf a0 8), .int i3, .int i4]) (st := []) (kX9_tryPlace 4 rfl) rfl (p_X11_put (kt_9_8 hk0)) (by omega) nl_X9_57 mf_X11_put rfl rfl (Nat.le_of_ble_eq_true rfl) ?_
  refine X_iconst (n := 11) (v := 0) (kX9_tryPlace 5 rfl) rfl (by decide) ?_
  refine X_istore (n := 13) (L1 := [(5, .int 0), (0, .ref a0), (1, .ref a1), (2, .int i2), (3, .int i3), (4, .int i4)]) (kX9_tryPlace 6 rfl) rfl (Nat.le_of_ble_eq_true rfl) rfl ?_
  refine X_L [0, 1, 2, 3, 4, 5] rfl (w_X9_tryPlace_L13 hd hr hk0 hk1 (fun S2 => ?_) 1000000 (0 : Int32) (pat S (rf a0 8) i3 i4))
  try dsimp only
  refine X_aload_n (n := 57) 1 (kX9_tryPlace 30 rfl) rfl rfl rfl ?_
  refine X_aload_n (n := 58) 0 (kX9_tryPlace 31 rfl) rfl rfl rfl ?_
  refine X_getR (n := 61) xf_X9 hk0 (by decide) fl_X9_27 rfl (kX9_tryPlace 32 rfl) rfl ?_
  refine X_iload_n (n := 62) 3 (kX9_tryPlace 33 rfl) rfl rfl rfl ?_
  refine X_iload_n (n := 63) 2 (kX9_tryPlace 34 rfl) rfl rfl rfl ?_
  refine X_iload_n (n := 64) 3 (kX9_tryPlace 35 rfl) rfl rfl rfl ?_
  refine X_iconst (n := 65) (v := 0) (kX9_tryPlace 36 rfl) rfl (by decide) ?_
  refine X_iload (n := 67) 4 (kX9_tryPlace 37 rfl) rfl rfl ?_
  refine X_callVV (n := 70) (As := [.ref (rf a0 9), .int i3, .int i2, .int i3, .int (bi false), .int i4]) (st := []) (kX9_tryPlace 38 rfl) rfl (w_X2_passHour hk1 (kt_9_9 hk0)) (by omega) ml_X9_91 mf_X2_passHour rfl hk1 xf_X2 rfl (Nat.le_of_ble_eq_true rfl) (fun S3 hq => ?_)
  try dsimp only
  refine X_aload_n (n := 71) 0 (kX9_tryPlace 39 rfl) rfl rfl rfl ?_
  refine X_aload_n (n := 72) 1 (kX9_tryPlace 40 rfl) rfl rfl rfl ?_
  refine X_iload_n (n := 73) 2 (kX9_tryPlace 41 rfl) rfl rfl rfl ?_
  refine X_iload_n (n := 74) 3 (kX9_tryPlace 42 rfl) rfl rfl rfl ?_
  refine X_callVB (n := 77) (As := [.ref a1, .int i2, .int i3]) (st := []) (kX9_tryPlace 43 rfl) rfl (w_X9_canEndAsTold hk0 hk1) (by omega) ml_X9_95 mf_X9_canEndAsTold rfl hk0 xf_X9 rfl (Nat.le_of_ble_eq_true rfl) (fun r4 S5 hq => ?_)
  try dsimp only
  refine X_bz (n := 80) (tgt := 89) (kX9_tryPlace 44 rfl) rfl rfl (fun h6 => ?_) (fun h6 => ?_)
  · refine X_aload_n (n := 81) 0 (kX9_tryPlace 45 rfl) rfl rfl rfl ?_
    refine X_aload_n (n := 82) 1 (kX9_tryPlace 46 rfl) rfl rfl rfl ?_
    refine X_iload_n (n := 83) 2 (kX9_tryPlace 47 rfl) rfl rfl rfl ?_
    refine X_iload_n (n := 84) 3 (kX9_tryPlace 48 rfl) rfl rfl rfl ?_
    refine X_iconst (n := 85) (v := 1) (kX9_tryPlace 49 rfl) rfl (by decide) ?_
    refine X_iadd (n := 86) (kX9_tryPlace 50 rfl) rfl ?_
    refine X_callVV (n := 89) (As := [.ref a1, .int i2, .int (i3 + (1 : Int32))]) (st := []) (kX9_tryPlace 51 rfl) rfl (hr a0 a1 i2 (i3 + (1 : Int32)) S5 hk0 hk1) (by omega) ml_X9_71 mf_X9_tryHour rfl hk0 xf_X9 rfl (Nat.le_of_ble_eq_true rfl) (fun S7 hq => ?_)
    try dsimp only
    exact X_vret rfl (kX9_tryPlace 52 rfl)
  · exact X_vret rfl (kX9_tryPlace 52 rfl)
def f_X9_tryHour_L22 (r : Nat → Nat → Int32 → Int32 → XS → Option (XS)) (a0 : Nat) (a1 : Nat) (i2 : Int32) (i3 : Int32) : Nat → Int32 → XS → Option (XS)
  | 0, _, _ => none
  | n + 1, i4, S => (if (S.1 a0 1) ≤ i4 then some S else ((f_X9_tryPlace r a0 a1 i2 i3 i4 S).bind (fun S5 => f_X9_tryHour_L22 r a0 a1 i2 i3 n (i4 + 1) S5)))
def f_X9_tryHour (r : Nat → Nat → Int32 → Int32 → XS → Option (XS)) (a0 : Nat) (a1 : Nat) (i2 : Int32) (i3 : Int32) (S : XS) : Option (XS) := (if (S.1 a0 0) < i3 then ((f_X9_addRow a0 S).bind (fun S2 => some S2)) else (if i3 ≤ (6 : Int32) then ((f_X9_tryHour_L22 r a0 a1 i2 i3 1000000 (0 : Int32) S).bind (fun S6 => some S6)) else ((f_X9_addRow a0 S).bind (fun S7 => some S7))))
set_option maxHeartbeats 4000000 in
set_option maxRecDepth 100000 in
theorem w_X9_tryHour_L22 {l : Launch} {g : XG} {G : (XS) → Option (XS)} {d : Nat} (hd : 30 ≤ d) {r : Nat → Nat → Int32 → Int32 → XS → Option (XS)} (hr : ∀ (a0 : Nat) (a1 : Nat) (i2 : Int32) (i3 : Int32) (S : XS), kd a0 = 9 → kd a1 = 2 → Cl φV l g d mX9_tryHour [.ref a0, .ref a1, .int i2, .int i3] S (r a0 a1 i2 i3 S)) {a0 : Nat} {a1 : Nat} {i2 : Int32} {i3 : Int32} (hk0 : kd a0 = 9) (hk1 : kd a1 = 2) (kE : ∀ (S1 : XS), X φV l g (d + 2) mX9_tryHour 46 [] [] S1 (G S1)) : ∀ (n : Nat) (i4 : Int32) (S : XS), X φV l g (d + 2) mX9_tryHour 22 [(4, .int i4), (0, .ref a0), (1, .ref a1), (2, .int i2), (3, .int i3)] [] S ((f_X9_tryHour_L22 r a0 a1 i2 i3 n i4 S).bind G) := by
  intro n
  induction n with
  | zero => intro i4 S; exact X_none
  | succ n ih =>
  · intro i4 S
    rw [f_X9_tryHour_L22]
    refine X_iload (n := 24) 0 (kX9_tryHour 12 rfl) rfl rfl ?_
    refine X_aload_n (n := 25) 1 (kX9_tryHour 13 rfl) rfl rfl rfl ?_
    refine X_getI (n := 28) xf_X9 hk0 (by decide) fl_X9_43 rfl (kX9_tryHour 14 rfl) rfl ?_
    refine X_itebind ?_
    refine X_ic_ge (n := 31) (tgt := 46) (kX9_tryHour 15 rfl) rfl rfl (fun h4 => ?_) (fun h4 => ?_)
    · exact X_L [] rfl (kE S)
    · refine X_aload_n (n := 32) 1 (kX9_tryHour 16 rfl) rfl rfl rfl ?_
      refine X_aload_n (n := 33) 2 (kX9_tryHour 17 rfl) rfl rfl rfl ?_
      refine X_iload_n (n := 34) 3 (kX9_tryHour 18 rfl) rfl rfl rfl ?_
      refine X_iload_n (n := 35) 4 (kX9_tryHour 19 rfl) rfl rfl rfl ?_
      refine X_iload (n := 37) 0 (kX9_tryHour 20 rfl) rfl rfl ?_
      refine X_assoc ?_
      refine X_callVV (n := 40) (As := [.ref a1, .int i2, .int i3, .int i4]) (st := []) (kX9_tryHour 21 rfl) rfl (w_X9_tryPlace hd hr hk0 hk1) (by omega) ml_X9_87 mf_X9_tryPlace rfl hk0 xf_X9 rfl (Nat.le_of_ble_eq_true rfl) (fun S5 hq => ?_)
      try dsimp only
      refine X_iinc (n := 43) 0 (v := (i4 + 1)) (L1 := [(4, .int (i4 + 1)), (0, .ref a0), (1, .ref a1), (2, .int i2), (3, .int i3)]) (kX9_tryHour 22 rfl) rfl rfl rfl (Nat.le_of_ble_eq_true rfl) rfl ?_
      refine X_goto (tgt := 22) (kX9_tryHour 23 rfl) rfl ?_
      exact X_L [0, 1, 2, 3, 4] rfl (ih (i4 + 1) S5)
set_option maxHeartbeats 4000000 in
set_option maxRecDepth 100000 in
theorem w_X9_tryHour {l : Launch} {g : XG} {d : Nat} (hd : 30 ≤ d) {r : Nat → Nat → Int32 → Int32 → XS → Option (XS)} (hr : ∀ (a0 : Nat) (a1 : Nat) (i2 : Int32) (i3 : Int32) (S : XS), kd a0 = 9 → kd a1 = 2 → Cl φV l g d mX9_tryHour [.ref a0, .ref a1, .int i2, .int i3] S (r a0 a1 i2 i3 S)) {a0 : Nat} {a1 : Nat} {i2 : Int32} {i3 : Int32} {S : XS} (hk0 : kd a0 = 9) (hk1 : kd a1 = 2) : Cl φV l g (d + 2) mX9_tryHour [.ref a0, .ref a1, .int i2, .int i3] S (f_X9_tryHour r a0 a1 i2 i3 S) := by
  refine Cl.of (by decide +kernel) (Nat.le_of_ble_eq_true rfl) ?_
  unfold f_X9_tryHour
  show X _ _ _ _ _ 0 [(0, .ref a0), (1, .ref a1), (2, .int i2), (3, .int i3)] [] S _
  refine X_iload_n (n := 1) 3 (kX9_tryHour 0 rfl) rfl rfl rfl ?_
  refine X_aload_n (n := 2) 0 (kX9_tryHour 1 rfl) rfl rfl rfl ?_
  refine X_getI (n := 5) xf_X9 hk0 (by decide) fl_X9_30 rfl (kX9_tryHour 2 rfl) rfl ?_
  refine X_ic_gt (n := 8) (tgt := 14) (kX9_tryHour 3 rfl) rfl rfl (fun h1 => ?_) (fun h1 => ?_)
  · refine X_aload_n (n := 15) 0 (kX9_tryHour 7 rfl) rfl rfl rfl ?_
    refine X_callVV (n := 18) (As := []) (st := []) (kX9_tryHour 8 rfl) rfl (w_X9_addRow hk0) (by omega) ml_X9_84 mf_X9_addRow rfl hk0 xf_X9 rfl (Nat.le_of_ble_eq_true rfl) (fun S2 hq => ?_)
    try dsimp only
    exact X_vret rfl (kX9_tryHour 9 rfl)
  · refine X_iload_n (n := 9) 3 (kX9_tryHour 4 rfl) rfl rfl rfl ?_
    refine X_bipush (n := 11) (v := 6) (kX9_tryHour 5 rfl) rfl (by decide) ?_
    refine X_ic_le (n := 14) (tgt := 19) (kX9_tryHour 6 rfl) rfl rfl (fun h3 => ?_) (fun h3 => ?_)
    · refine X_iconst (n := 20) (v := 0) (kX9_tryHour 10 rfl) rfl (by decide) ?_
      refine X_istore (n := 22) (L1 := [(4, .int 0), (0, .ref a0), (1, .ref a1), (2, .int i2), (3, .int i3)]) (kX9_tryHour 11 rfl) rfl (Nat.le_of_ble_eq_true rfl) rfl ?_
      refine X_L [0, 1, 2, 3, 4] rfl (w_X9_tryHour_L22 hd hr hk0 hk1 (fun S6 => ?_) 1000000 (0 : Int32) S)
      try dsimp only
      exact X_vret rfl (kX9_tryHour 24 rfl)
    · refine X_aload_n (n := 15) 0 (kX9_tryHour 7 rfl) rfl rfl rfl ?_
      refine X_callVV (n := 18) (As := []) (st := []) (kX9_tryHour 8 rfl) rfl (w_X9_addRow hk0) (by omega) ml_X9_84 mf_X9_addRow rfl hk0 xf_X9 rfl (Nat.le_of_ble_eq_true rfl) (fun S7 hq => ?_)
      try dsimp only
      exact X_vret rfl (kX9_tryHour 9 rfl)
def rX9_tryHour : Nat → Nat → Nat → Int32 → Int32 → XS → Option (XS)
  | 0, _, _, _, _, _ => none
  | n + 1, a0, a1, i2, i3, S => f_X9_tryHour (rX9_tryHour n) a0 a1 i2 i3 S
theorem wr_X9_tryHour {l : Launch} {g : XG} : ∀ (n : Nat) (a0 : Nat) (a1 : Nat) (i2 : Int32) (i3 : Int32) (S : XS), kd a0 = 9 → kd a1 = 2 → Cl φV l g (30 + 2 * n) mX9_tryHour [.ref a0, .ref a1, .int i2, .int i3] S (rX9_tryHour n a0 a1 i2 i3 S) := by
  intro n
  induction n with
  | zero => intro a0 a1 i2 i3 S h0 h1 q hq; cases hq
  | succ n ih => intro a0 a1 i2 i3 S h0 h1; exact w_X9_tryHour (d := 30 + 2 * n) (by omega) ih h0 h1
