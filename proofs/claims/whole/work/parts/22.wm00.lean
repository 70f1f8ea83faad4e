def f_X12_openAll_L2  (a0 : Nat) : Nat → Int32 → XS → Option (XS)
  | 0, _, _ => none
  | n + 1, i1, S => (if (256 : Int32) ≤ i1 then some S else (if i1 < 0 ∨ ln (rf a0 27) ≤ i1.toNatClampNeg then none else f_X12_openAll_L2 a0 n (i1 + 1) (sI S (rf a0 27) i1.toNatClampNeg (vp_nar .boolean (0 : Int32)))))
def f_X12_openAll  (a0 : Nat) (S : XS) : Option (XS) := ((f_X12_openAll_L2 a0 1000000 (0 : Int32) S).bind (fun S3 => ((f_X12_startOpening a0 (sI S3 a0 30 (0 : Int32))).bind (fun S4 => ((rX12_openOn 12 a0 (0 : Int32) (0 : Int32) S4).bind (fun S5 => some S5))))))
set_option maxHeartbeats 4000000 in
set_option maxRecDepth 100000 in
theorem w_X12_openAll_L2 {l : Launch} {g : XG} {G : (XS) → Option (XS)}  {a0 : Nat} (hk0 : kd a0 = 12) (kE : ∀ (S1 : XS), X φV l g 43 mX12_openAll 22 [(0, .ref a0)] [] S1 (G S1)) : ∀ (n : Nat) (i1 : Int32) (S : XS), X φV l g 43 mX12_openAll 2 [(1, .int i1), (0, .ref a0)] [] S ((f_X12_openAll_L2 a0 n i1 S).bind G) := by
  intro n
  induction n with
  | zero => intro i1 S; exact X_none
  | succ n ih =>
  · intro i1 S
    rw [f_X12_openAll_L2]
    refine X_iload_n (n := 3) 0 (kX12_openAll 2 rfl) rfl rfl rfl ?_
    refine X_sipush (n := 6) (v := 256) (kX12_openAll 3 rfl) rfl (by decide) ?_
    refine X_itebind ?_
    refine X_ic_ge (n := 9) (tgt := 22) (kX12_openAll 4 rfl) rfl rfl (fun h1 => ?_) (fun h1 => ?_)
    · exact X_L [1] rfl (kE S)
    · refine X_aload_n (n := 10) 1 (kX12_openAll 5 rfl) rfl rfl rfl ?_
      refine X_getR (n := 13) xf_X12 hk0 (by decide) fl_X12_51 rfl (kX12_openAll 6 rfl) rfl ?_
      refine X_iload_n (n := 14) 0 (kX12_openAll 7 rfl) rfl rfl rfl ?_
      refine X_iconst (n := 15) (v := 0) (kX12_openAll 8 rfl) rfl (by decide) ?_
      refine X_itebind ?_
      refine X_zast (n := 16) (kt_12_27 hk0) (kX12_openAll 9 rfl) rfl (fun h2 => ?_)
      refine X_iinc (n := 19) 0 (v := (i1 + 1)) (L1 := [(1, .int (i1 + 1)), (0, .ref a0)]) (kX12_openAll 10 rfl) rfl rfl rfl (Nat.le_of_ble_eq_true rfl) rfl ?_
      refine X_goto (tgt := 2) (kX12_openAll 11 rfl) rfl ?_
      exact X_L [0, 1] rfl (ih (i1 + 1) (sI S (rf a0 27) i1.toNatClampNeg (vp_nar .boolean (0 : Int32))))
set_option maxHeartbeats 4000000 in
set_option maxRecDepth 100000 in
theorem w_X12_openAll {l : Launch} {g : XG}  {a0 : Nat} {S : XS} (hk0 : kd a0 = 12) : Cl φV l g 43 mX12_openAll [.ref a0] S (f_X12_openAll a0 S) := by
  refine Cl.of (by decide +kernel) (Nat.le_of_ble_eq_true rfl) ?_
  unfold f_X12_openAll
  show X _ _ _ _ _ 0 [(0, .ref a0)] [] S _
  refine X_iconst (n := 1) (v := 0) (kX12_openAll 0 rfl) rfl (by decide) ?_
  refine X_istore_n (n := 2) (L1 := [(1, .int 0), (0, .ref a0)]) (kX12_openAll 1 rfl) rfl rfl (Nat.le_of_ble_eq_true rfl) rfl ?_
  refine X_L [0, 1] rfl (w_X12_openAll_L2 hk0 (fun S3 => ?_) 1000000 (0 : Int32) S)
  try dsimp only
  refine X_aload_n (n := 23) 0 (kX12_openAll 12 rfl) rfl rfl rfl ?_
  refine X_iconst (n := 24) (v := 0) (kX12_openAll 13 rfl) rfl (by decide) ?_
  refine X_putI (n := 27) xf_X12 hk0 (by decide) fl_X12_317 rfl rfl (Or.inr (Or.inl rfl)) (kX12_openAll 14 rfl) rfl ?_
  refine X_aload_n (n := 28) 0 (kX12_openAll 15 rfl) rfl rfl rfl ?_
  refine X_callVV (n := 31) (As := []) (st := []) (kX12_openAll 16 rfl) rfl (w_X12_startOpening hk0) (by decide) ml_X12_330 mf_X12_startOpening rfl hk0 xf_X12 rfl (Nat.le_of_ble_eq_true rfl) (fun S4 hq => ?_)
  try dsimp only
  refine X_aload_n (n := 32) 0 (kX12_openAll 17 rfl) rfl rfl rfl ?_
  refine X_iconst (n := 33) (v := 0) (kX12_openAll 18 rfl) rfl (by decide) ?_
  refine X_iconst (n := 34) (v := 0) (kX12_openAll 19 rfl) rfl (by decide) ?_
  refine X_callVV (n := 37) (As := [.int (0 : Int32), .int (0 : Int32)]) (st := []) (kX12_openAll 20 rfl) rfl (wr_X12_openOn 12 a0 (0 : Int32) (0 : Int32) S4 hk0) (by decide) ml_X12_327 mf_X12_openOn rfl hk0 xf_X12 rfl (Nat.le_of_ble_eq_true rfl) (fun S5 hq => ?_)
  try dsimp only
  exact X_vret rfl (kX12_openAll 21 rfl)
def f_X12_said_L22  (a0 : Nat) (i1 : Int32) : Nat → Int32 → Int32 → XS → Option ((Int32 × XS) ⊕ (Int32 × XS))
  | 0, _, _, _ => none
  | n + 1, i2, i3, S => (if (S.1 (rf a0 14) 3) ≤ i3 then some (.inr (i2, S)) else ((rX12_holds 64 a0 (S.1 (rf a0 14) 275) i3 S).bind (fun q => match q with | (r3, S4) => (if r3 = true then (if i2 = i1 then some (.inl (i3, S4)) else f_X12_said_L22 a0 i1 n (i2 + 1) (i3 + 1) S4) else f_X12_said_L22 a0 i1 n i2 (i3 + 1) S4))))
def f_X12_said  (a0 : Nat) (i1 : Int32) (S : XS) : Option (Int32 × XS) := (if ((sI S a0 0 (0 : Int32)).1 (rf a0 14) 274) = 0 then some ((-1 : Int32), (sI S a0 0 (0 : Int32))) else ((f_X12_said_L22 a0 i1 1000000 (0 : Int32) (0 : Int32) (sI S a0 0 (0 : Int32))).bind (fun q => match q with | .inl r => some r | .inr (e7, S8) => (if i1 = (-1 : Int32) then some (e7, S8) else some ((-1 : Int32), S8)))))
set_option maxHeartbeats 4000000 in
set_option maxRecDepth 100000 in
theorem w_X12_said_L22 {l : Launch} {g : XG} {G : ((Int32 × XS) ⊕ (Int32 × XS)) → Option (Int32 × XS)}  {a0 : Nat} {i1 : Int32} (hk0 : kd a0 = 12) (kE : ∀ (e2 : Int32) (S1 : XS), X φI l g 95 mX12_said 67 [(2, .int e2), (1, .int i1)] [] S1 (G (.inr (e2, S1)))) (kR : ∀ r, G (.inl r) = some r) : ∀ (n : Nat) (i2 : Int32) (i3 : Int32) (S : XS), X φI l g 95 mX12_said 22 [(3, .int i3), (2, .int i2), (0, .ref a0), (1, .int i1)] [] S ((f_X12_said_L22 a0 i1 n i2 i3 S).bind G) := by
  intro n
  induction n with
  | zero => intro i2 i3 S; exact X_none
  | succ n ih =>
  · intro i2 i3 S
    rw [f_X12_said_L22]
    refine X_iload_n (n := 23) 0 (kX12_said 14 rfl) rfl rfl rfl ?_
    refine X_aload_n (n := 24) 2 (kX12_said 15 rfl) rfl rfl rfl ?_
    refine X_getR (n := 27) xf_X12 hk0 (by decide) fl_X12_13 rfl (kX12_said 16 rfl) rfl ?_
    refine X_iconst (n := 28) (v := 3) (kX12_said 17 rfl) rfl (by decide) ?_
    refine X_iald' (n := 29) (kt_12_14 hk0) (kX12_said 18 rfl) rfl (by rw [lt_12_14 hk0]; decide) ?_
    refine X_itebind ?_
    refine X_ic_ge (n := 32) (tgt := 67) (kX12_said 19 rfl) rfl rfl (fun h2 => ?_) (fun h2 => ?_)
    · exact X_L [1, 3] rfl (kE i2 S)
    · refine X_aload_n (n := 33) 2 (kX12_said 20 rfl) rfl rfl rfl ?_
      refine X_aload_n (n := 34) 2 (kX12_said 21 rfl) rfl rfl rfl ?_
      refine X_getR (n := 37) xf_X12 hk0 (by decide) fl_X12_13 rfl (kX12_said 22 rfl) rfl ?_
      refine X_sipush (n := 40) (v := 275) (kX12_said 23 rfl) rfl (by decide) ?_
      refine X_iald' (n := 41) (kt_12_14 hk0) (kX12_said 24 rfl) rfl (by rw [lt_12_14 hk0]; decide) ?_
      refine X_iload_n (n := 42) 0 (kX12_said 25 rfl) rfl rfl rfl ?_
      refine X_assoc ?_
      refine X_callVB (n := 45) (As := [.int (S.1 (rf a0 14) 275), .int i3]) (st := []) (kX12_said 26 rfl) rfl (wr_X12_holds 64 a0 (S.1 (rf a0 14) 275) i3 S hk0) (by decide) ml_X12_445 mf_X12_holds rfl hk0 xf_X12 rfl (Nat.le_of_ble_eq_true rfl) (fun r3 S4 hq => ?_)
      try dsimp only
      refine X_itebind ?_
      refine X_bn (n := 48) (tgt := 51) (kX12_said 27 rfl) rfl rfl (fun h5 => ?_) (fun h5 => ?_)
      · refine X_iload_n (n := 52) 1 (kX12_said 29 rfl) rfl rfl rfl ?_
        refine X_iload_n (n := 53) 3 (kX12_said 30 rfl) rfl rfl rfl ?_
        refine X_itebind ?_
        refine X_ic_ne (n := 56) (tgt := 58) (kX12_said 31 rfl) rfl rfl (fun h6 => ?_) (fun h6 => ?_)
        · refine X_iload_n (n := 57) 0 (kX12_said 32 rfl) rfl rfl rfl ?_
          exact X_req (kR _) (X_iret rfl (kX12_said 33 rfl))
        · refine X_iinc (n := 61) 1 (v := (i2 + 1)) (L1 := [(2, .int (i2 + 1)), (3, .int i3), (0, .ref a0), (1, .int i1)]) (kX12_said 34 rfl) rfl rfl rfl (Nat.le_of_ble_eq_true rfl) rfl ?_
          refine X_iinc (n := 64) 1 (v := (i3 + 1)) (L1 := [(3, .int (i3 + 1)), (2, .int (i2 + 1)), (0, .ref a0), (1, .int i1)]) (kX12_said 35 rfl) rfl rfl rfl (Nat.le_of_ble_eq_true rfl) rfl ?_
          refine X_goto (tgt := 22) (kX12_said 36 rfl) rfl ?_
          exact X_L [0, 1, 2, 3] rfl (ih (i2 + 1) (i3 + 1) S4)
      · refine X_goto (tgt := 61) (kX12_said 28 rfl) rfl ?_
        refine X_iinc (n := 64) 0 (v := (i3 + 1)) (L1 := [(3, .int (i3 + 1)), (2, .int i2), (0, .ref a0), (1, .int i1)]) (kX12_said 35 rfl) rfl rfl rfl (Nat.le_of_ble_eq_true rfl) rfl ?_
        refine X_goto (tgt := 22) (kX12_said 36 rfl) rfl ?_
        exact X_L [0, 1, 2, 3] rfl (ih i2 (i3 + 1) S4)
set_option maxHeartbeats 4000000 in
set_option maxRecDepth 100000 in
theorem w_X12_said {l : Launch} {g : XG}  {a0 : Nat} {i1 : Int32} {S : XS} (hk0 : kd a0 = 12) : Cl φI l g 95 mX12_said [.ref a0, .int i1] S (f_X12_said a0 i1 S) := by
  refine Cl.of (by decide +kernel) (Nat.le_of_ble_eq_true rfl) ?_
  unfold f_X12_said
  show X _ _ _ _ _ 0 [(0, .ref a0), (1, .int i1)] [] S _
  refine X_aload_n (n := 1) 0 (kX12_said 0 rfl) rfl rfl rfl ?_
  refine X_iconst (n := 2) (v := 0) (kX12_said 1 rfl) rfl (by decide) ?_
  refine X_putI (n := 5) xf_X12 hk0 (by decide) fl_X12_100 rfl rfl (Or.inl rfl) (kX12_said 2 rfl) rfl ?_
  refine X_aload_n (n := 6) 0 (kX12_said 3 rfl) rfl rfl rfl ?_
  refine X_getR (n := 9) xf_X12 hk0 (by decide) fl_X12_13 rfl (kX12_said 4 rfl) rfl ?_
  refine X_sipush (n := 12) (v := 274) (kX12_said 5 rfl) rfl (by decide) ?_
  refine X_iald' (n := 13) (kt_12_14 hk0) (kX12_said 6 rfl) rfl (by rw [lt_12_14 hk0]; decide) ?_
  refine X_if_ne (n := 16) (tgt := 18) (kX12_said 7 rfl) rfl rfl (fun h1 => ?_) (fun h1 => ?_)
  · refine X_iconst (n := 17) (v := (-1)) (kX12_said 8 rfl) rfl (by decide) ?_
    exact X_iret rfl (kX12_said 9 rfl)
  · refine X_iconst (n := 19) (v := 0) (kX12_said 10 rfl) rfl (by decide) ?_
    refine X_istore_n (n := 20) (L1 := [(2, .int 0), (0, .ref a0), (1, .int i1)]) (kX12_said 11 rfl) rfl rfl (Nat.le_of_ble_eq_true rfl) rfl ?_
    refine X_iconst (n := 21) (v := 0) (kX12_said 12 rfl) rfl (by decide) ?_
    refine X_istore_n (n := 22) (L1 := [(3, .int 0), (2, .int 0), (0, .ref a0), (1, .int i1)]) (kX12_said 13 rfl) rfl rfl (Nat.le_of_ble_eq_true rfl) rfl ?_
    refine X_L [0, 1, 2, 3] rfl (w_X12_said_L22 hk0 (fun e7 S8 => ?_) ?_ 1000000 (0 : Int32) (0 : Int32) (sI S a0 0 (0 : Int32)))
    · refine X_iload_n (n := 68) 1 (kX12_said 37 rfl) rfl rfl rfl ?_
      refine X_iconst (n := 69) (v := (-1)) (kX12_said 38 rfl) rfl (by decide) ?_
      refine X_ic_ne (n := 72) (tgt := 76) (kX12_said 39 rfl) rfl rfl (fun h9 => ?_) (fun h9 => ?_)
      · refine X_iload_n (n := 73) 0 (kX12_said 40 rfl) rfl rfl rfl ?_
        refine X_goto (tgt := 77) (kX12_said 41 rfl) rfl ?_
        exact X_iret rfl (kX12_said 43 rfl)
      · refine X_iconst (n := 77) (v := (-1)) (kX12_said 42 rfl) rfl (by decide) ?_
        exact X_iret rfl (kX12_said 43 rfl)
    · intro r
      rfl
def f_X12_order_L32  (a0 : Nat) : Nat → Int32 → XS → Option (XS)
  | 0, _, _ => none
  | n + 1, i1, S => (if (S.1 a0 29) ≤ i1 then some S else (if i1 < 0 ∨ ln (rf a0 31) ≤ i1.toNatClampNeg then none else (if i1 < 0 ∨ ln (rf a0 26) ≤ i1.toNatClampNeg then none else f_X12_order_L32 a0 n (i1 + 1) (sI S (rf a0 26) i1.toNatClampNeg (S.1 (rf a0 31) i1.toNatClampNeg)))))
def f_X12_order  (a0 : Nat) (S : XS) : Option (Int32 × XS) := ((f_X12_openAll a0 (sI S a0 0 (0 : Int32))).bind (fun S1 => (if (S1.1 a0 30) = 0 then some ((-1 : Int32), S1) else ((f_X12_order_L32 a0 1000000 (0 : Int32) (sI S1 a0 29 (S1.1 (rf a0 14) 193))).bind (fun S6 => some ((S6.1 a0 29), S6))))))
set_option maxHeartbeats 4000000 in
set_option maxRecDepth 100000 in
theorem w_X12_order_L32 {l : Launch} {g : XG} {G : (XS) → Option (Int32 × XS)}  {a0 : Nat} (hk0 : kd a0 = 12) (kE : ∀ (S1 : XS), X φI l g 44 mX12_order 58 [(0, .ref a0)] [] S1 (G S1)) : ∀ (n : Nat) (i1 : Int32) (S : XS), X φI l g 44 mX12_order 32 [(1, .int i1), (0, .ref a0)] [] S ((f_X12_order_L32 a0 n i1 S).bind G) := by
  intro n
  induction n with
  | zero => intro i1 S; exact X_none
  | succ n ih =>
  · intro i1 S
    rw [f_X12_order_L32]
    refine X_iload_n (n := 33) 0 (kX12_order 18 rfl) rfl rfl rfl ?_
    refine X_aload_n (n := 34) 1 (kX12_order 19 rfl) rfl rfl rfl ?_
    refine X_getI (n := 37) xf_X12 hk0 (by decide) fl_X12_336 rfl (kX12_order 20 rfl) rfl ?_
    refine X_itebind ?_
    refine X_ic_ge (n := 40) (tgt := 58) (kX12_order 21 rfl) rfl rfl (fun h3 => ?_) (fun h3 => ?_)
    · exact X_L [1] rfl (kE S)
    · refine X_aload_n (n := 41) 1 (kX12_order 22 rfl) rfl rfl rfl ?_
      refine X_getR (n := 44) xf_X12 hk0 (by decide) fl_X12_48 rfl (kX12_order 23 rfl) rfl ?_
      refine X_iload_n (n := 45) 0 (kX12_order 24 rfl) rfl rfl rfl ?_
      refine X_aload_n (n := 46) 1 (kX12_order 25 rfl) rfl rfl rfl ?_
      refine X_getR (n := 49) xf_X12 hk0 (by decide) fl_X12_57 rfl (kX12_order 26 rfl) rfl ?_
      refine X_iload_n (n := 50) 0 (kX12_order 27 rfl) rfl rfl rfl ?_
      refine X_itebind ?_
      refine X_iald (n := 51) (kt_12_31 hk0) (kX12_order 28 rfl) rfl (fun h5 => ?_)
      refine X_itebind ?_
      refine X_iast (n := 52) (kt_12_26 hk0) (kX12_order 29 rfl) rfl (fun h4 => ?_)
      refine X_iinc (n := 55) 0 (v := (i1 + 1)) (L1 := [(1, .int (i1 + 1)), (0, .ref a0)]) (kX12_order 30 rfl) rfl rfl rfl (Nat.le_of_ble_eq_true rfl) rfl ?_
      refine X_goto (tgt := 32) (kX12_order 31 rfl) rfl ?_
      exact X_L [0, 1] rfl (ih (i1 + 1) (sI S (rf a0 26) i1.toNatClampNeg (S.1 (rf a0 31) i1.toNatClampNeg)))
set_option maxHeartbeats 4000000 in
set_option maxRecDepth 100000 in
theorem w_X12_order {l : Launch} {g : XG}  {a0 : Nat} {S : XS} (hk0 : kd a0 = 12) : Cl φI l g 44 mX12_order [.ref a0] S (f_X12_order a0 S) := by
  refine Cl.of (by decide +kernel) (Nat.le_of_ble_eq_true rfl) ?_
  unfold f_X12_order
  show X _ _ _ _ _ 0 [(0, .ref a0)] [] S _
  refine X_aload_n (n := 1) 0 (kX12_order 0 rfl) rfl rfl rfl ?_
  refine X_iconst (n := 2) (v := 0) (kX12_order 1 rfl) rfl (by decide) ?_
  refine X_putI (n := 5) xf_X12 hk0 (by decide) fl_X12_100 rfl rfl (Or.inl rfl) (kX12_order 2 rfl) rfl ?_
  refine X_aload_n (n := 6) 0 (kX12_order 3 rfl) rfl rfl rfl ?_
  refine X_callVV (n := 9) (As := []) (st := []) (kX12_order 4 rfl) rfl (w_X12_openAll hk0) (by decide) ml_X12_333 mf_X12_openAll rfl hk0 xf_X12 rfl (Nat.le_of_ble_eq_true rfl) (fun S1 hq => ?_)
  try dsimp only
  refine X_aload_n (n := 10) 0 (kX12_order 5 rfl) rfl rfl rfl ?_
  refine X_getI (n := 13) xf_X12 hk0 (by decide) fl_X12_317 rfl (kX12_order 6 rfl) rfl ?_
  refine X_if_ne (n := 16) (tgt := 18) (kX12_order 7 rfl) rfl rfl (fun h2 => ?_) (fun h2 => ?_)
  · refine X_iconst (n := 17) (v := (-1)) (kX12_order 8 rfl) rfl (by decide) ?_
    exact X_iret rfl (kX12_order 9 rfl)
  · refine X_aload_n (n := 19) 0 (kX12_order 10 rfl) rfl rfl rfl ?_
    refine X_aload_n (n := 20) 0 (kX12_order 11 rfl) rfl rfl rfl ?_
    refine X_getR (n := 23) xf_X12 hk0 (by decide) fl_X12_13 rfl (kX12_order 12 rfl) rfl ?_
    refine X_sipush (n := 26) (v := 193) (kX12_order 13 rfl) rfl (by decide) ?_
    refine X_iald' (n := 27) (kt_12_14 hk0) (kX12_order 14 rfl) rfl (by rw [lt_12_14 hk0]; decide) ?_
    refine X_putI (n := 30) xf_X12 hk0 (by decide) fl_X12_336 rfl rfl (Or.inl rfl) (kX12_order 15 rfl) rfl ?_
    refine X_iconst (n := 31) (v := 0) (kX12_order 16 rfl) rfl (by decide) ?_
    refine X_istore_n (n := 32) (L1 := [(1, .int 0), (0, .ref a0)]) (kX12_order 17 rfl) rfl rfl (Nat.le_of_ble_eq_true rfl) rfl ?_
    refine X_L [0, 1] rfl (w_X12_order_L32 hk0 (fun S6 => ?_) 1000000 (0 : Int32) (sI S1 a0 29 (S1.1 (rf a0 14) 193)))
    try dsimp only
    refine X_aload_n (n := 59) 0 (kX12_order 32 rfl) rfl rfl rfl ?_
    refine X_getI (n := 62) xf_X12 hk0 (by decide) fl_X12_336 rfl (kX12_order 33 rfl) rfl ?_
    exact X_iret rfl (kX12_order 34 rfl)
def f_X12_noses_L45  (i2 : Int32) (i1 : Int32) (a0 : Nat) : Nat → Int32 → XS → Option (XS)
  | 0, _, _ => none
  | n + 1, i3, S => (if i3 ≤ 0 then some S else (if i3 < 0 ∨ ln (rf a0 27) ≤ i3.toNatClampNeg then none else ((if (S.1 (rf a0 27) i3.toNatClampNeg) = 0 then some S else (if (i2 &&& (i3 ^^^ (-1 : Int32))) < 0 ∨ ln (rf a0 28) ≤ (i2 &&& (i3 ^^^ (-1 : Int32))).toNatClampNeg then none else (if (S.1 (rf a0 28) (i2 &&& (i3 ^^^ (-1 : Int32))).toNatClampNeg) = (-1 : Int32) then some S else (if i2 < 0 ∨ ln (rf a0 28) ≤ i2.toNatClampNeg then none else (if (S.1 (rf a0 28) i2.toNatClampNeg) = (-1 : Int32) then (if (i2 &&& (i3 ^^^ (-1 : Int32))) < 0 ∨ ln (rf a0 28) ≤ (i2 &&& (i3 ^^^ (-1 : Int32))).toNatClampNeg then none else (if i2 < 0 ∨ ln (rf a0 28) ≤ i2.toNatClampNeg then none else some (sI S (rf a0 28) i2.toNatClampNeg ((S.1 (rf a0 28) (i2 &&& (i3 ^^^ (-1 : Int32))).toNatClampNeg) + (1 : Int32))))) else (if (i2 &&& (i3 ^^^ (-1 : Int32))) < 0 ∨ ln (rf a0 28) ≤ (i2 &&& (i3 ^^^ (-1 : Int32))).toNatClampNeg then none else (if i2 < 0 ∨ ln (rf a0 28) ≤ i2.toNatClampNeg then none else (if (S.1 (rf a0 28) i2.toNatClampNeg) ≤ ((S.1 (rf a0 28) (i2 &&& (i3 ^^^ (-1 : Int32))).toNatClampNeg) + (1 : Int32)) then some S else (if (i2 &&& (i3 ^^^ (-1 : Int32))) < 0 ∨ ln (rf a0 28) ≤ (i2 &&& (i3 ^^^ (-1 : Int32))).toNatClampNeg then none else (if i2 < 0 ∨ ln (rf a0 28) ≤ i2.toNatClampNeg then none else some (sI S (rf a0 28) i2.toNatClampNeg ((S.1 (rf a0 28) (i2 &&& (i3 ^^^ (-1 : Int32))).toNatClampNeg) + (1 : Int32))))))))))))).bind (fun S4 => f_X12_noses_L45 i2 i1 a0 n ((i3 - (1 : Int32)) &&& i2) S4))))
def f_X12_noses_L31  (i1 : Int32) (a0 : Nat) : Nat → Int32 → XS → Option (XS)
  | 0, _, _ => none
  | n + 1, i2, S => (if i1 < i2 then some S else (if i2 < 0 ∨ ln (rf a0 28) ≤ i2.toNatClampNeg then none else ((f_X12_noses_L45 i2 i1 a0 1000000 i2 (sI S (rf a0 28) i2.toNatClampNeg (-1 : Int32))).bind (fun S18 => f_X12_noses_L31 i1 a0 n (i2 + 1) S18))))
def f_X12_noses  (a0 : Nat) (S : XS) : Option (Int32 × XS) := ((f_X12_openAll a0 (sI S a0 0 (0 : Int32))).bind (fun S1 => ((f_X12_noses_L31 ((shl32 (1 : Int32) (S1.1 (rf a0 14) 193)) - (1 : Int32)) a0 1000000 (1 : Int32) (sI S1 (rf a0 28) 0 (0 : Int32))).bind (fun S20 => (if ((shl32 (1 : Int32) (S1.1 (rf a0 14) 193)) - (1 : Int32)) < 0 ∨ ln (rf a0 28) ≤ ((shl32 (1 : Int32) (S1.1 (rf a0 14) 193)) - (1 : Int32)).toNatClampNeg then none else some ((S20.1 (rf a0 28) ((shl32 (1 : Int32) (S1.1 (rf a0 14) 193)) - (1 : Int32)).toNatClampNeg), S20))))))
set_option maxHeartbeats 4000000 in
set_option maxRecDepth 100000 in
theorem w_X12_noses_L45 {l : Launch} {g : XG} {G : (XS) → Option (Int32 × XS)}  {i2 : Int32} {i1 : Int32} {a0 : Nat} (hk0 : kd a0 = 12) (kE : ∀ (S1 : XS), X φI l g 44 mX12_noses 130 [(2, .int i2), (1, .int i1), (0, .ref a0)] [] S1 (G S1)) : ∀ (n : Nat) (i3 : Int32) (S : XS), X φI l g 44 mX12_noses 45 [(3, .int i3), (2, .int i2), (1, .int i1), (0, .ref a0)] [] S ((f_X12_noses_L45 i2 i1 a0 n i3 S).bind G) := by
  intro n
  induction n with
  | zero => intro i3 S; exact X_none
  | succ n ih =>
  · intro i3 S
    rw [f_X12_noses_L45]
    refine X_iload_n (n := 46) 0 (kX12_noses 31 rfl) rfl rfl rfl ?_
    refine X_itebind ?_
    refine X_if_le (n := 49) (tgt := 130) (kX12_noses 32 rfl) rfl rfl (fun h3 => ?_) (fun h3 => ?_)
    · exact X_L [1, 2, 3] rfl (kE S)
    · refine X_aload_n (n := 50) 3 (kX12_noses 33 rfl) rfl rfl rfl ?_
      refine X_getR (n := 53) xf_X12 hk0 (by decide) fl_X12_51 rfl (kX12_noses 34 rfl) rfl ?_
      refine X_iload_n (n := 54) 0 (kX12_noses 35 rfl) rfl rfl rfl ?_
      refine X_itebind ?_
      refine X_zald (n := 55) (kt_12_27 hk0) (kX12_noses 36 rfl) rfl (fun h17 => ?_)
      refine X_assoc ?_
      refine X_join 121 (fun S4 => [(3, .int i3), (2, .int i2), (1, .int i1), (0, .ref a0)]) (fun S4 => []) (fun S4 => S4) (fun S4 => ?_) (fun kJ => ?_)
      · try dsimp only
        refine X_iload_n (n := 122) 0 (kX12_noses 83 rfl) rfl rfl rfl ?_
        refine X_iconst (n := 123) (v := 1) (kX12_noses 84 rfl) rfl (by decide) ?_
        refine X_isub (n := 124) (kX12_noses 85 rfl) rfl ?_
        refine X_iload_n (n := 125) 1 (kX12_noses 86 rfl) rfl rfl rfl ?_
        refine X_iand (n := 126) (kX12_noses 87 rfl) rfl ?_
        refine X_istore_n (n := 127) (L1 := [(3, .int ((i3 - (1 : Int32)) &&& i2)), (2, .int i2), (1, .int i1), (0, .ref a0)]) (kX12_noses 88 rfl) rfl rfl (Nat.le_of_ble_eq_true rfl) rfl ?_
        refine X_goto (tgt := 45) (kX12_noses 89 rfl) rfl ?_
        exact X_L [0, 1, 2, 3] rfl (ih ((i3 - (1 : Int32)) &&& i2) S4)
      · refine X_itebind ?_
        refine X_if_eq (n := 58) (tgt := 121) (kX12_noses 37 rfl) rfl rfl (fun h5 => ?_) (fun h5 => ?_)
        · exact X_L [0, 1, 2, 3] rfl (kJ S)
        · refine X_aload_n (n := 59) 3 (kX12_noses 38 rfl) rfl rfl rfl ?_
          refine X_getR (n := 62) xf_X12 hk0 (by decide) fl_X12_54 rfl (kX12_noses 39 rfl) rfl ?_
          refine X_iload_n (n := 63) 1 (kX12_noses 40 rfl) rfl rfl rfl ?_
          refine X_iload_n (n := 64) 0 (kX12_noses 41 rfl) rfl rfl rfl ?_
          refine X_iconst (n := 65) (v := (-1)) (kX12_noses 42 rfl) rfl (by decide) ?_
          refine X_ixor (n := 66) (kX12_noses 43 rfl) rfl ?_
          refine X_iand (n := 67) (kX12_noses 44 rfl) rfl ?_
          refine X_itebind ?_
          refine X_iald (n := 68) (kt_12_28 hk0) (kX12_noses 45 rfl) rfl (fun h16 => ?_)
          refine X_iconst (n := 69) (v := (-1)) (kX12_noses 46 rfl) rfl (by decide) ?_
          refine X_itebind ?_
          refine X_ic_eq (n := 72) (tgt := 121) (kX12_noses 47 rfl) rfl rfl (fun h6 => ?_) (fun h6 => ?_)
          · exact X_L [0, 1, 2, 3] rfl (kJ S)
          · refine X_aload_n (n := 73) 3 (kX12_noses 48 rfl) rfl rfl rfl ?_
            refine X_getR (n := 76) xf_X12 hk0 (by decide) fl_X12_54 rfl (kX12_noses 49 rfl) rfl ?_
            refine X_iload_n (n := 77) 1 (kX12_noses 50 rfl) rfl rfl rfl ?_
            refine X_itebind ?_
            refine X_iald (n := 78) (kt_12_28 hk0) (kX12_noses 51 rfl) rfl (fun h15 => ?_)
            refine X_iconst (n := 79) (v := (-1)) (kX12_noses 52 rfl) rfl (by decide) ?_
            refine X_itebind ?_
            refine X_ic_eq (n := 82) (tgt := 103) (kX12_noses 53 rfl) rfl rfl (fun h7 => ?_) (fun h7 => ?_)
            · refine X_aload_n (n := 104) 3 (kX12_noses 69 rfl) rfl rfl rfl ?_
              refine X_getR (n := 107) xf_X12 hk0 (by decide) fl_X12_54 rfl (kX12_noses 70 rfl) rfl ?_
              refine X_iload_n (n := 108) 1 (kX12_noses 71 rfl) rfl rfl rfl ?_
              refine X_aload_n (n := 109) 3 (kX12_noses 72 rfl) rfl rfl rfl ?_
              refine X_getR (n := 112) xf_X12 hk0 (by decide) fl_X12_54 rfl (kX12_noses 73 rfl) rfl ?_
              refine X_iload_n (n := 113) 1 (kX12_noses 74 rfl) rfl rfl rfl ?_
              refine X_iload_n (n := 114) 0 (kX12_noses 75 rfl) rfl rfl rfl ?_
              refine X_iconst (n := 115) (v := (-1)) (kX12_noses 76 rfl) rfl (by decide) ?_
              refine X_ixor (n := 116) (kX12_noses 77 rfl) rfl ?_
              refine X_iand (n := 117) (kX12_noses 78 rfl) rfl ?_
              refine X_itebind ?_
              refine X_iald (n := 118) (kt_12_28 hk0) (kX12_noses 79 rfl) rfl (fun h9 => ?_)
              refine X_iconst (n := 119) (v := 1) (kX12_noses 80 rfl) rfl (by decide) ?_
              refine X_iadd (n := 120) (kX12_noses 81 rfl) rfl ?_
              refine X_itebind ?_
              refine X_iast (n := 121) (kt_12_28 hk0) (kX12_noses 82 rfl) rfl (fun h8 => ?_)
              exact X_L [0, 1, 2, 3] rfl (kJ (sI S (rf a0 28) i2.toNatClampNeg ((S.1 (rf a0 28) (i2 &&& (i3 ^^^ (-1 : Int32))).toNatClampNeg) + (1 : Int32))))
            · refine X_aload_n (n := 83) 3 (kX12_noses 54 rfl) rfl rfl rfl ?_
              refine X_getR (n := 86) xf_X12 hk0 (by decide) fl_X12_54 rfl (kX12_noses 55 rfl) rfl ?_
              refine X_iload_n (n := 87) 1 (kX12_noses 56 rfl) rfl rfl rfl ?_
              refine X_iload_n (n := 88) 0 (kX12_noses 57 rfl) rfl rfl rfl ?_
              refine X_iconst (n := 89) (v := (-1)) (kX12_noses 58 rfl) rfl (by decide) ?_
              refine X_ixor (n := 90) (kX12_noses 59 rfl) rfl ?_
              refine X_iand (n := 91) (kX12_noses 60 rfl) rfl ?_
              refine X_itebind ?_
              refine X_iald (n := 92) (kt_12_28 hk0) (kX12_noses 61 rfl) rfl (fun h14 => ?_)
              refine X_iconst (n := 93) (v := 1) (kX12_noses 62 rfl) rfl (by decide) ?_
              refine X_iadd (n := 94) (kX12_noses 63 rfl) rfl ?_
              refine X_aload_n (n := 95) 3 (kX12_noses 64 rfl) rfl rfl rfl ?_
              refine X_getR (n := 98) xf_X12 hk0 (by decide) fl_X12_54 rfl (kX12_noses 65 rfl) rfl ?_
              refine X_iload_n (n := 99) 1 (kX12_noses 66 rfl) rfl rfl rfl ?_
              refine X_itebind ?_
              refine X_iald (n := 100) (kt_12_28 hk0) (kX12_noses 67 rfl) rfl (fun h13 => ?_)
              refine X_itebind ?_
              refine X_ic_ge (n := 103) (tgt := 121) (kX12_noses 68 rfl) rfl rfl (fun h10 => ?_) (fun h10 => ?_)
              · exact X_L [0, 1, 2, 3] rfl (kJ S)
              · refine X_aload_n (n := 104) 3 (kX12_noses 69 rfl) rfl rfl rfl ?_
                refine X_getR (n := 107) xf_X12 hk0 (by decide) fl_X12_54 rfl (kX12_noses 70 rfl) rfl ?_
                refine X_iload_n (n := 108) 1 (kX12_noses 71 rfl) rfl rfl rfl ?_
                refine X_aload_n (n := 109) 3 (kX12_noses 72 rfl) rfl rfl rfl ?_
                refine X_getR (n := 112) xf_X12 hk0 (by decide) fl_X12_54 rfl (kX12_noses 73 rfl) rfl ?_
                refine X_iload_n (n := 113) 1 (kX12_noses 74 rfl) rfl rfl rfl ?_
                refine X_iload_n (n := 114) 0 (kX12_noses 75 rfl) rfl rfl rfl ?_
                refine X_iconst (n := 115) (v := (-1)) (kX12_noses 76 rfl) rfl (by decide) ?_
                refine X_ixor (n := 116) (kX12_noses 77 rfl) rfl ?_
                refine X_iand (n := 117) (kX12_noses 78 rfl) rfl ?_
                refine X_itebind ?_
                refine X_iald (n := 118) (kt_12_28 hk0) (kX12_noses 79 rfl) rfl (fun h12 => ?_)
                refine X_iconst (n := 119) (v := 1) (kX12_noses 80 rfl) rfl (by decide) ?_
                refine X_iadd (n := 120) (kX12_noses 81 rfl) rfl ?_
                refine X_itebind ?_
                refine X_iast (n := 121) (kt_12_28 hk0) (kX12_noses 82 rfl) rfl (fun h11 => ?_)
                exact X_L [0, 1, 2, 3] rfl (kJ (sI S (rf a0 28) i2.toNatClampNeg ((S.1 (rf a0 28) (i2 &&& (i3 ^^^ (-1 : Int32))).toNatClampNeg) + (1 : Int32))))
set_option maxHeartbeats 4000000 in
set_option maxRecDepth 100000 in
theorem w_X12_noses_L31 {l : Launch} {g : XG} {G : (XS) → Option (Int32 × XS)}  {i1 : Int32} {a0 : Nat} (hk0 : kd a0 = 12) (kE : ∀ (S1 : XS), X φI l g 44 mX12_noses 136 [(1, .int i1), (0, .ref a0)] [] S1 (G S1)) : ∀ (n : Nat) (i2 : Int32) (S : XS), X φI l g 44 mX12_noses 31 [(2, .int i2), (1, .int i1), (0, .ref a0)] [] S ((f_X12_noses_L31 i1 a0 n i2 S).bind G) := by
  intro n
  induction n with
  | zero => intro i2 S; exact X_none
  | succ n ih =>
  · intro i2 S
    rw [f_X12_noses_L31]
    refine X_iload_n (n := 32) 0 (kX12_noses 21 rfl) rfl rfl rfl ?_
    refine X_iload_n (n := 33) 1 (kX12_noses 22 rfl) rfl rfl rfl ?_
    refine X_itebind ?_
    refine X_ic_gt (n := 36) (tgt := 136) (kX12_noses 23 rfl) rfl rfl (fun h2 => ?_) (fun h2 => ?_)
    · exact X_L [1, 2] rfl (kE S)
    · refine X_aload_n (n := 37) 2 (kX12_noses 24 rfl) rfl rfl rfl ?_
      refine X_getR (n := 40) xf_X12 hk0 (by decide) fl_X12_54 rfl (kX12_noses 25 rfl) rfl ?_
      refine X_iload_n (n := 41) 0 (kX12_noses 26 rfl) rfl rfl rfl ?_
      refine X_iconst (n := 42) (v := (-1)) (kX12_noses 27 rfl) rfl (by decide) ?_
      refine X_itebind ?_
      refine X_iast (n := 43) (kt_12_28 hk0) (kX12_noses 28 rfl) rfl (fun h19 => ?_)
      refine X_iload_n (n := 44) 0 (kX12_noses 29 rfl) rfl rfl rfl ?_
      refine X_istore_n (n := 45) (L1 := [(3, .int i2), (2, .int i2), (1, .int i1), (0, .ref a0)]) (kX12_noses 30 rfl) rfl rfl (Nat.le_of_ble_eq_true rfl) rfl ?_
      refine X_assoc ?_
      refine X_L [0, 1, 2, 3] rfl (w_X12_noses_L45 hk0 (fun S18 => ?_) 1000000 i2 (sI S (rf a0 28) i2.toNatClampNeg (-1 : Int32)))
      try dsimp only
      refine X_iinc (n := 133) 0 (v := (i2 + 1)) (L1 := [(2, .int (i2 + 1)), (1, .int i1), (0, .ref a0)]) (kX12_noses 90 rfl) rfl rfl rfl (Nat.le_of_ble_eq_true rfl) rfl ?_
      refine X_goto (tgt := 31) (kX12_noses 91 rfl) rfl ?_
      exact X_L [0, 1, 2] rfl (ih (i2 + 1) S18)
set_option maxHeartbeats 4000000 in
set_option maxRecDepth 100000 in
theorem w_X12_noses {l : Launch} {g : XG}  {a0 : Nat} {S : XS} (hk0 : kd a0 = 12) : Cl φI l g 44 mX12_noses [.ref a0] S (f_X12_noses a0 S) := by
  refine Cl.of (by decide +kernel) (Nat.le_of_ble_eq_true rfl) ?_
  unfold f_X12_noses
  show X _ _ _ _ _ 0 [(0, .ref a0)] [] S _
  refine X_aload_n (n := 1) 0 (kX12_noses 0 rfl) rfl rfl rfl ?_
  refine X_iconst (n := 2) (v := 0) (kX12_noses 1 rfl) rfl (by decide) ?_
  refine X_putI (n := 5) xf_X12 hk0 (by decide) fl_X12_100 rfl rfl (Or.inl rfl) (kX12_noses 2 rfl) rfl ?_
  refine X_aload_n (n := 6) 0 (kX12_noses 3 rfl) rfl rfl rfl ?_
  refine X_callVV (n := 9) (As := []) (st := []) (kX12_noses 4 rfl) rfl (w_X12_openAll hk0) (by decide) ml_X12_333 mf_X12_openAll rfl hk0 xf_X12 rfl (Nat.le_of_ble_eq_true rfl) (fun S1 hq => ?_)
  try dsimp only
  refine X_iconst (n := 10) (v := 1) (kX12_noses 5 rfl) rfl (by decide) ?_
  refine X_aload_n (n := 11) 0 (kX12_noses 6 rfl) rfl rfl rfl ?_
  refine X_getR (n := 14) xf_X12 hk0 (by decide) fl_X12_13 rfl (kX12_noses 7 rfl) rfl ?_
  refine X_sipush (n := 17) (v := 193) (kX12_noses 8 rfl) rfl (by decide) ?_
  refine X_iald' (n := 18) (kt_12_14 hk0) (kX12_noses 9 rfl) rfl (by rw [lt_12_14 hk0]; decide) ?_
  refine X_ishl (n := 19) (kX12_noses 10 rfl) rfl ?_
  refine X_iconst (n := 20) (v := 1) (kX12_noses 11 rfl) rfl (by decide) ?_
  refine X_isub (n := 21) (kX12_noses 12 rfl) rfl ?_
  refine X_istore_n (n := 22) (L1 := [(1, .int ((shl32 (1 : Int32) (S1.1 (rf a0 14) 193)) - (1 : Int32))), (0, .ref a0)]) (kX12_noses 13 rfl) rfl rfl (Nat.le_of_ble_eq_true rfl) rfl ?_
  refine X_aload_n (n := 23) 1 (kX12_noses 14 rfl) rfl rfl rfl ?_
  refine X_getR (n := 26) xf_X12 hk0 (by decide) fl_X12_54 rfl (kX12_noses 15 rfl) rfl ?_
  refine X_iconst (n := 27) (v := 0) (kX12_noses 16 rfl) rfl (by decide) ?_
  refine X_iconst (n := 28) (v := 0) (kX12_noses 17 rfl) rfl (by decide) ?_
  refine X_iast' (n := 29) (kt_12_28 hk0) (kX12_noses 18 rfl) rfl (by rw [lt_12_28 hk0]; decide) ?_
  refine X_iconst (n := 30) (v := 1) (kX12_noses 19 rfl) rfl (by decide) ?_
  refine X_istore_n (n := 31) (L1 := [(2, .int 1), (1, .int ((shl32 (1 : Int32) (S1.1 (rf a0 14) 193)) - (1 : Int32))), (0, .ref a0)]) (kX12_noses 20 rfl) rfl rfl (Nat.le_of_ble_eq_true rfl) rfl ?_
  refine X_L [0, 1, 2] rfl (w_X12_noses_L31 hk0 (fun S20 => ?_) 1000000 (1 : Int32) (sI S1 (rf a0 28) 0 (0 : Int32)))
  try dsimp only
  refine X_aload_n (n := 137) 1 (kX12_noses 92 rfl) rfl rfl rfl ?_
  refine X_getR (n := 140) xf_X12 hk0 (by decide) fl_X12_54 rfl (kX12_noses 93 rfl) rfl ?_
  refine X_iload_n (n := 141) 0 (kX12_noses 94 rfl) rfl rfl rfl ?_
  refine X_iald (n := 142) (kt_12_28 hk0) (kX12_noses 95 rfl) rfl (fun h21 => ?_)
  exact X_iret rfl (kX12_noses 96 rfl)
def f_X12_sentence_L79  (a0 : Nat) : Nat → Int32 → XS → Option (XS)
  | 0, _, _ => none
  | n + 1, i1, S => (if (240 : Int32) ≤ i1 then some S else (if i1 < 0 ∨ ln (rf a0 55) ≤ i1.toNatClampNeg then none else (if ((276 : Int32) + i1) < 0 ∨ ln (rf a0 14) ≤ ((276 : Int32) + i1).toNatClampNeg then none else f_X12_sentence_L79 a0 n (i1 + 1) (sI S (rf a0 14) (((276 : Int32) + i1).toNatClampNeg) (S.1 (rf a0 55) i1.toNatClampNeg)))))
def f_X12_sentence  (a0 : Nat) (S : XS) : Option (Int32 × XS) := ((f_X12_begin a0 (200 : Int32) S).bind (fun S1 => ((f_X12_readOr (rX12_readTerm 12) a0 (sI (sI (sI S1 a0 56 (0 : Int32)) a0 57 (0 : Int32)) a0 58 (0 : Int32))).bind (fun q => match q with | (r2, S3) => (if r2 = true then (if (S3.1 a0 7) = 0 then ((f_X12_sentence_L79 a0 1000000 (0 : Int32) (sI (sI S3 (rf a0 14) 274 (1 : Int32)) (rf a0 14) 275 ((sI S3 (rf a0 14) 274 (1 : Int32)).1 a0 59))).bind (fun S9 => some ((S9.1 a0 57), S9))) else ((f_X12_bad a0 (1 : Int32) S3).bind (fun q => match q with | (r10, S11) => some (((-1 : Int32) - (S11.1 a0 11)), S11)))) else some (((-1 : Int32) - (S3.1 a0 11)), S3))))))
set_option maxHeartbeats 4000000 in
set_option maxRecDepth 100000 in
theorem w_X12_sentence_L79 {l : Launch} {g : XG} {G : (XS) → Option (Int32 × XS)}  {a0 : Nat} (hk0 : kd a0 = 12) (kE : ∀ (S1 : XS), X φI l g 81 mX12_sentence 108 [(0, .ref a0)] [] S1 (G S1)) : ∀ (n : Nat) (i1 : Int32) (S : XS), X φI l g 81 mX12_sentence 79 [(1, .int i1), (0, .ref a0)] [] S ((f_X12_sentence_L79 a0 n i1 S).bind G) := by
  intro n
  induction n with
  | zero => intro i1 S; exact X_none
  | succ n ih =>
  · intro i1 S
    rw [f_X12_sentence_L79]
    refine X_iload_n (n := 80) 0 (kX12_sentence 45 rfl) rfl rfl rfl ?_
    refine X_sipush (n := 83) (v := 240) (kX12_sentence 46 rfl) rfl (by decide) ?_
    refine X_itebind ?_
    refine X_ic_ge (n := 86) (tgt := 108) (kX12_sentence 47 rfl) rfl rfl (fun h6 => ?_) (fun h6 => ?_)
    · exact X_L [1] rfl (kE S)
    · refine X_aload_n (n := 87) 1 (kX12_sentence 48 rfl) rfl rfl rfl ?_
      refine X_getR (n := 90) xf_X12 hk0 (by decide) fl_X12_13 rfl (kX12_sentence 49 rfl) rfl ?_
      refine X_sipush (n := 93) (v := 276) (kX12_sentence 50 rfl) rfl (by decide) ?_
      refine X_iload_n (n := 94) 0 (kX12_sentence 51 rfl) rfl rfl rfl ?_
      refine X_iadd (n := 95) (kX12_sentence 52 rfl) rfl ?_
      refine X_aload_n (n := 96) 1 (kX12_sentence 53 rfl) rfl rfl rfl ?_
      refine X_getR (n := 99) xf_X12 hk0 (by decide) fl_X12_97 rfl (kX12_sentence 54 rfl) rfl ?_
      refine X_iload_n (n := 100) 0 (kX12_sentence 55 rfl) rfl rfl rfl ?_
      refine X_itebind ?_
      refine X_iald (n := 101) (kt_12_55 hk0) (kX12_sentence 56 rfl) rfl (fun h8 => ?_)
      refine X_itebind ?_
      refine X_iast (n := 102) (kt_12_14 hk0) (kX12_sentence 57 rfl) rfl (fun h7 => ?_)
      refine X_iinc (n := 105) 0 (v := (i1 + 1)) (L1 := [(1, .int (i1 + 1)), (0, .ref a0)]) (kX12_sentence 58 rfl) rfl rfl rfl (Nat.le_of_ble_eq_true rfl) rfl ?_
      refine X_goto (tgt := 79) (kX12_sentence 59 rfl) rfl ?_
      exact X_L [0, 1] rfl (ih (i1 + 1) (sI S (rf a0 14) (((276 : Int32) + i1).toNatClampNeg) (S.1 (rf a0 55) i1.toNatClampNeg)))
set_option maxHeartbeats 4000000 in
set_option maxRecDepth 100000 in
theorem w_X12_sentence {l : Launch} {g : XG}  {a0 : Nat} {S : XS} (hk0 : kd a0 = 12) : Cl φI l g 81 mX12_sentence [.ref a0] S (f_X12_sentence a0 S) := by
  refine Cl.of (by decide +kernel) (Nat.le_of_ble_eq_true rfl) ?_
  unfold f_X12_sentence
  show X _ _ _ _ _ 0 [(0, .ref a0)] [] S _
  refine X_aload_n (n := 1) 0 (kX12_sentence 0 rfl) rfl rfl rfl ?_
  refine X_sipush (n := 4) (v := 200) (kX12_sentence 1 rfl) rfl (by decide) ?_
  refine X_callVV (n := 7) (As := [.int (200 : Int32)]) (st := []) (kX12_sentence 2 rfl) rfl (w_X12_begin hk0) (by decide) ml_X12_238 mf_X12_begin rfl hk0 xf_X12 rfl (Nat.le_of_ble_eq_true rfl) (fun S1 hq => ?_)
  try dsimp only
  refine X_aload_n (n := 8) 0 (kX12_sentence 3 rfl) rfl rfl rfl ?_
  refine X_iconst (n := 9) (v := 0) (kX12_sentence 4 rfl) rfl (by decide) ?_
  refine X_putI (n := 12) xf_X12 hk0 (by decide) fl_X12_408 rfl rfl (Or.inl rfl) (kX12_sentence 5 rfl) rfl ?_
  refine X_aload_n (n := 13) 0 (kX12_sentence 6 rfl) rfl rfl rfl ?_
  refine X_iconst (n := 14) (v := 0) (kX12_sentence 7 rfl) rfl (by decide) ?_
  refine X_putI (n := 17) xf_X12 hk0 (by decide) fl_X12_424 rfl rfl (Or.inl rfl) (kX12_sentence 8 rfl) rfl ?_
  refine X_aload_n (n := 18) 0 (kX12_sentence 9 rfl) rfl rfl rfl ?_
  refine X_iconst (n := 19) (v := 0) (kX12_sentence 10 rfl) rfl (by decide) ?_
  refine X_putI (n := 22) xf_X12 hk0 (by decide) fl_X12_427 rfl rfl (Or.inl rfl) (kX12_sentence 11 rfl) rfl ?_
  refine X_aload_n (n := 23) 0 (kX12_sentence 12 rfl) rfl rfl rfl ?_
  refine X_callVB (n := 26) (As := []) (st := []) (kX12_sentence 13 rfl) rfl (w_X12_readOr (d := 78) (by omega) (wr_X12_readTerm 12) hk0) (by decide) ml_X12_442 mf_X12_readOr rfl hk0 xf_X12 rfl (Nat.le_of_ble_eq_true rfl) (fun r2 S3 hq => ?_)
  try dsimp only
  refine X_bn (n := 29) (tgt := 36) (kX12_sentence 14 rfl) rfl rfl (fun h4 => ?_) (fun h4 => ?_)
  · refine X_aload_n (n := 37) 0 (kX12_sentence 20 rfl) rfl rfl rfl ?_
    refine X_getI (n := 40) xf_X12 hk0 (by decide) fl_X12_122 rfl (kX12_sentence 21 rfl) rfl ?_
    refine X_if_eq (n := 43) (tgt := 56) (kX12_sentence 22 rfl) rfl rfl (fun h5 => ?_) (fun h5 => ?_)
    · refine X_aload_n (n := 57) 0 (kX12_sentence 32 rfl) rfl rfl rfl ?_
      refine X_getR (n := 60) xf_X12 hk0 (by decide) fl_X12_13 rfl (kX12_sentence 33 rfl) rfl ?_
      refine X_sipush (n := 63) (v := 274) (kX12_sentence 34 rfl) rfl (by decide) ?_
      refine X_iconst (n := 64) (v := 1) (kX12_sentence 35 rfl) rfl (by decide) ?_
      refine X_iast' (n := 65) (kt_12_14 hk0) (kX12_sentence 36 rfl) rfl (by rw [lt_12_14 hk0]; decide) ?_
      refine X_aload_n (n := 66) 0 (kX12_sentence 37 rfl) rfl rfl rfl ?_
      refine X_getR (n := 69) xf_X12 hk0 (by decide) fl_X12_13 rfl (kX12_sentence 38 rfl) rfl ?_
      refine X_sipush (n := 72) (v := 275) (kX12_sentence 39 rfl) rfl (by decide) ?_
      refine X_aload_n (n := 73) 0 (kX12_sentence 40 rfl) rfl rfl rfl ?_
      refine X_getI (n := 76) xf_X12 hk0 (by decide) fl_X12_414 rfl (kX12_sentence 41 rfl) rfl ?_
      refine X_iast' (n := 77) (kt_12_14 hk0) (kX12_sentence 42 rfl) rfl (by rw [lt_12_14 hk0]; decide) ?_
      refine X_iconst (n := 78) (v := 0) (kX12_sentence 43 rfl) rfl (by decide) ?_
      refine X_istore_n (n := 79) (L1 := [(1, .int 0), (0, .ref a0)]) (kX12_sentence 44 rfl) rfl rfl (Nat.le_of_ble_eq_true rfl) rfl ?_
      refine X_L [0, 1] rfl (w_X12_sentence_L79 hk0 (fun S9 => ?_) 1000000 (0 : Int32) (sI (sI S3 (rf a0 14) 274 (1 : Int32)) (rf a0 14) 275 ((sI S3 (rf a0 14) 274 (1 : Int32)).1 a0 59)))
      try dsimp only
      refine X_aload_n (n := 109) 0 (kX12_sentence 60 rfl) rfl rfl rfl ?_
      refine X_getI (n := 112) xf_X12 hk0 (by decide) fl_X12_424 rfl (kX12_sentence 61 rfl) rfl ?_
      exact X_iret rfl (kX12_sentence 62 rfl)
    · refine X_aload_n (n := 44) 0 (kX12_sentence 23 rfl) rfl rfl rfl ?_
      refine X_iconst (n := 45) (v := 1) (kX12_sentence 24 rfl) rfl (by decide) ?_
      refine X_callVB (n := 48) (As := [.int (1 : Int32)]) (st := []) (kX12_sentence 25 rfl) rfl (w_X12_bad hk0) (by decide) ml_X12_166 mf_X12_bad rfl hk0 xf_X12 rfl (Nat.le_of_ble_eq_true rfl) (fun r10 S11 hq => ?_)
      try dsimp only
      refine X_pop (n := 49) (kX12_sentence 26 rfl) rfl rfl ?_
      refine X_iconst (n := 50) (v := (-1)) (kX12_sentence 27 rfl) rfl (by decide) ?_
      refine X_aload_n (n := 51) 0 (kX12_sentence 28 rfl) rfl rfl rfl ?_
      refine X_getI (n := 54) xf_X12 hk0 (by decide) fl_X12_163 rfl (kX12_sentence 29 rfl) rfl ?_
      refine X_isub (n := 55) (kX12_sentence 30 rfl) rfl ?_
      exact X_iret rfl (kX12_sentence 31 rfl)
  · refine X_iconst (n := 30) (v := (-1)) (kX12_sentence 15 rfl) rfl (by decide) ?_
    refine X_aload_n (n := 31) 0 (kX12_sentence 16 rfl) rfl rfl rfl ?_
    refine X_getI (n := 34) xf_X12 hk0 (by decide) fl_X12_163 rfl (kX12_sentence 17 rfl) rfl ?_
    refine X_isub (n := 35) (kX12_sentence 18 rfl) rfl ?_
    exact X_iret rfl (kX12_sentence 19 rfl)
