def f_X12_goes  (a0 : Nat) (i1 : Int32) (i2 : Int32) (S : XS) : Option (Bool × XS) := (if (t_X12_isWitness a0 i1 (sI S a0 0 (0 : Int32))) = true then (if (t_X12_isPlace a0 i2 (sI S a0 0 (0 : Int32))) = true then ((f_X12_snap a0 (sI S a0 0 (0 : Int32))).bind (fun S3 => (if ((145 : Int32) + i1) < 0 ∨ ln (rf a0 14) ≤ ((145 : Int32) + i1).toNatClampNeg then none else some (true, (sI S3 (rf a0 14) (((145 : Int32) + i1).toNatClampNeg) i2))))) else some (false, (sI S a0 0 (0 : Int32)))) else some (false, (sI S a0 0 (0 : Int32))))
set_option maxHeartbeats 4000000 in
set_option maxRecDepth 100000 in
theorem w_X12_goes {l : Launch} {g : XG}  {a0 : Nat} {i1 : Int32} {i2 : Int32} {S : XS} (hk0 : kd a0 = 12) : Cl φB l g 2 mX12_goes [.ref a0, .int i1, .int i2] S (f_X12_goes a0 i1 i2 S) := by
  refine Cl.of (by decide +kernel) (Nat.le_of_ble_eq_true rfl) ?_
  unfold f_X12_goes
  show X _ _ _ _ _ 0 [(0, .ref a0), (1, .int i1), (2, .int i2)] [] S _
  refine X_aload_n (n := 1) 0 (kX12_goes 0 rfl) rfl rfl rfl ?_
  refine X_iconst (n := 2) (v := 0) (kX12_goes 1 rfl) rfl (by decide) ?_
  refine X_putI (n := 5) xf_X12 hk0 (by decide) fl_X12_100 rfl rfl (Or.inl rfl) (kX12_goes 2 rfl) rfl ?_
  refine X_aload_n (n := 6) 0 (kX12_goes 3 rfl) rfl rfl rfl ?_
  refine X_iload_n (n := 7) 1 (kX12_goes 4 rfl) rfl rfl rfl ?_
  refine X_callV1B (n := 10) (As := [.int i1]) (st := []) (kX12_goes 5 rfl) rfl (p_X12_isWitness hk0) (by decide) ml_X12_263 mf_X12_isWitness rfl hk0 xf_X12 rfl (Nat.le_of_ble_eq_true rfl) ?_
  refine X_bz (n := 13) (tgt := 21) (kX12_goes 6 rfl) rfl rfl (fun h1 => ?_) (fun h1 => ?_)
  · refine X_aload_n (n := 14) 0 (kX12_goes 7 rfl) rfl rfl rfl ?_
    refine X_iload_n (n := 15) 2 (kX12_goes 8 rfl) rfl rfl rfl ?_
    refine X_callV1B (n := 18) (As := [.int i2]) (st := []) (kX12_goes 9 rfl) rfl (p_X12_isPlace hk0) (by decide) ml_X12_250 mf_X12_isPlace rfl hk0 xf_X12 rfl (Nat.le_of_ble_eq_true rfl) ?_
    refine X_bn (n := 21) (tgt := 23) (kX12_goes 10 rfl) rfl rfl (fun h2 => ?_) (fun h2 => ?_)
    · refine X_aload_n (n := 24) 0 (kX12_goes 13 rfl) rfl rfl rfl ?_
      refine X_callVV (n := 27) (As := []) (st := []) (kX12_goes 14 rfl) rfl (w_X12_snap hk0) (by decide) ml_X12_307 mf_X12_snap rfl hk0 xf_X12 rfl (Nat.le_of_ble_eq_true rfl) (fun S3 hq => ?_)
      try dsimp only
      refine X_aload_n (n := 28) 0 (kX12_goes 15 rfl) rfl rfl rfl ?_
      refine X_getR (n := 31) xf_X12 hk0 (by decide) fl_X12_13 rfl (kX12_goes 16 rfl) rfl ?_
      refine X_sipush (n := 34) (v := 145) (kX12_goes 17 rfl) rfl (by decide) ?_
      refine X_iload_n (n := 35) 1 (kX12_goes 18 rfl) rfl rfl rfl ?_
      refine X_iadd (n := 36) (kX12_goes 19 rfl) rfl ?_
      refine X_iload_n (n := 37) 2 (kX12_goes 20 rfl) rfl rfl rfl ?_
      refine X_iast (n := 38) (kt_12_14 hk0) (kX12_goes 21 rfl) rfl (fun h4 => ?_)
      refine X_iconst (n := 39) (v := 1) (kX12_goes 22 rfl) rfl (by decide) ?_
      exact X_zret (b := true) rfl (kX12_goes 23 rfl)
    · refine X_iconst (n := 22) (v := 0) (kX12_goes 11 rfl) rfl (by decide) ?_
      exact X_zret (b := false) rfl (kX12_goes 12 rfl)
  · refine X_iconst (n := 22) (v := 0) (kX12_goes 11 rfl) rfl (by decide) ?_
    exact X_zret (b := false) rfl (kX12_goes 12 rfl)
def f_X12_change  (a0 : Nat) (i1 : Int32) (i2 : Int32) (S : XS) : Option (Bool × XS) := (if (t_X12_isWitness a0 i1 (sI S a0 0 (0 : Int32))) = true then (if (t_X12_isWitness a0 i2 (sI S a0 0 (0 : Int32))) = true then (if i1 = i2 then some (false, (sI S a0 0 (0 : Int32))) else ((f_X12_snap a0 (sI S a0 0 (0 : Int32))).bind (fun S4 => ((f_X12_changeBoth a0 i1 i2 S4).bind (fun S5 => some (true, S5)))))) else some (false, (sI S a0 0 (0 : Int32)))) else some (false, (sI S a0 0 (0 : Int32))))
set_option maxHeartbeats 4000000 in
set_option maxRecDepth 100000 in
theorem w_X12_change {l : Launch} {g : XG}  {a0 : Nat} {i1 : Int32} {i2 : Int32} {S : XS} (hk0 : kd a0 = 12) : Cl φB l g 2 mX12_change [.ref a0, .int i1, .int i2] S (f_X12_change a0 i1 i2 S) := by
  refine Cl.of (by decide +kernel) (Nat.le_of_ble_eq_true rfl) ?_
  unfold f_X12_change
  show X _ _ _ _ _ 0 [(0, .ref a0), (1, .int i1), (2, .int i2)] [] S _
  refine X_aload_n (n := 1) 0 (kX12_change 0 rfl) rfl rfl rfl ?_
  refine X_iconst (n := 2) (v := 0) (kX12_change 1 rfl) rfl (by decide) ?_
  refine X_putI (n := 5) xf_X12 hk0 (by decide) fl_X12_100 rfl rfl (Or.inl rfl) (kX12_change 2 rfl) rfl ?_
  refine X_aload_n (n := 6) 0 (kX12_change 3 rfl) rfl rfl rfl ?_
  refine X_iload_n (n := 7) 1 (kX12_change 4 rfl) rfl rfl rfl ?_
  refine X_callV1B (n := 10) (As := [.int i1]) (st := []) (kX12_change 5 rfl) rfl (p_X12_isWitness hk0) (by decide) ml_X12_263 mf_X12_isWitness rfl hk0 xf_X12 rfl (Nat.le_of_ble_eq_true rfl) ?_
  refine X_bz (n := 13) (tgt := 26) (kX12_change 6 rfl) rfl rfl (fun h1 => ?_) (fun h1 => ?_)
  · refine X_aload_n (n := 14) 0 (kX12_change 7 rfl) rfl rfl rfl ?_
    refine X_iload_n (n := 15) 2 (kX12_change 8 rfl) rfl rfl rfl ?_
    refine X_callV1B (n := 18) (As := [.int i2]) (st := []) (kX12_change 9 rfl) rfl (p_X12_isWitness hk0) (by decide) ml_X12_263 mf_X12_isWitness rfl hk0 xf_X12 rfl (Nat.le_of_ble_eq_true rfl) ?_
    refine X_bz (n := 21) (tgt := 26) (kX12_change 10 rfl) rfl rfl (fun h2 => ?_) (fun h2 => ?_)
    · refine X_iload_n (n := 22) 1 (kX12_change 11 rfl) rfl rfl rfl ?_
      refine X_iload_n (n := 23) 2 (kX12_change 12 rfl) rfl rfl rfl ?_
      refine X_ic_ne (n := 26) (tgt := 28) (kX12_change 13 rfl) rfl rfl (fun h3 => ?_) (fun h3 => ?_)
      · refine X_iconst (n := 27) (v := 0) (kX12_change 14 rfl) rfl (by decide) ?_
        exact X_zret (b := false) rfl (kX12_change 15 rfl)
      · refine X_aload_n (n := 29) 0 (kX12_change 16 rfl) rfl rfl rfl ?_
        refine X_callVV (n := 32) (As := []) (st := []) (kX12_change 17 rfl) rfl (w_X12_snap hk0) (by decide) ml_X12_307 mf_X12_snap rfl hk0 xf_X12 rfl (Nat.le_of_ble_eq_true rfl) (fun S4 hq => ?_)
        try dsimp only
        refine X_aload_n (n := 33) 0 (kX12_change 18 rfl) rfl rfl rfl ?_
        refine X_iload_n (n := 34) 1 (kX12_change 19 rfl) rfl rfl rfl ?_
        refine X_iload_n (n := 35) 2 (kX12_change 20 rfl) rfl rfl rfl ?_
        refine X_callVV (n := 38) (As := [.int i1, .int i2]) (st := []) (kX12_change 21 rfl) rfl (w_X12_changeBoth hk0) (by decide) ml_X12_310 mf_X12_changeBoth rfl hk0 xf_X12 rfl (Nat.le_of_ble_eq_true rfl) (fun S5 hq => ?_)
        try dsimp only
        refine X_iconst (n := 39) (v := 1) (kX12_change 22 rfl) rfl (by decide) ?_
        exact X_zret (b := true) rfl (kX12_change 23 rfl)
    · refine X_iconst (n := 27) (v := 0) (kX12_change 14 rfl) rfl (by decide) ?_
      exact X_zret (b := false) rfl (kX12_change 15 rfl)
  · refine X_iconst (n := 27) (v := 0) (kX12_change 14 rfl) rfl (by decide) ?_
    exact X_zret (b := false) rfl (kX12_change 15 rfl)
def f_X12_soap_L31  (i2 : Int32) (a0 : Nat) (i1 : Int32) : Nat → Int32 → XS → Option (XS)
  | 0, _, _ => none
  | n + 1, i3, S => (if (6 : Int32) ≤ i3 then some S else ((f_X12_worn a0 i1 S).bind (fun q => match q with | (r8, S9) => (if (r8 + i3) < 0 ∨ ln (rf a0 14) ≤ (r8 + i3).toNatClampNeg then none else f_X12_soap_L31 i2 a0 i1 n (i3 + 1) (sI S9 (rf a0 14) ((r8 + i3).toNatClampNeg) (0 : Int32))))))
def f_X12_soap  (a0 : Nat) (i1 : Int32) (S : XS) : Option (Int32 × XS) := (if (t_X12_isWitness a0 i1 (sI S a0 0 (0 : Int32))) = true then ((f_X12_snap a0 (sI S a0 0 (0 : Int32))).bind (fun S2 => ((f_X12_worn a0 i1 S2).bind (fun q => match q with | (r3, S4) => ((f_X12_sumAt a0 r3 S4).bind (fun q => match q with | (r5, S6) => ((f_X12_soap_L31 r5 a0 i1 1000000 (0 : Int32) S6).bind (fun S11 => some (r5, S11))))))))) else some ((-1 : Int32), (sI S a0 0 (0 : Int32))))
set_option maxHeartbeats 4000000 in
set_option maxRecDepth 100000 in
theorem w_X12_soap_L31 {l : Launch} {g : XG} {G : (XS) → Option (Int32 × XS)}  {i2 : Int32} {a0 : Nat} {i1 : Int32} (hk0 : kd a0 = 12) (kE : ∀ (S1 : XS), X φI l g 2 mX12_soap 56 [(2, .int i2)] [] S1 (G S1)) : ∀ (n : Nat) (i3 : Int32) (S : XS), X φI l g 2 mX12_soap 31 [(3, .int i3), (2, .int i2), (0, .ref a0), (1, .int i1)] [] S ((f_X12_soap_L31 i2 a0 i1 n i3 S).bind G) := by
  intro n
  induction n with
  | zero => intro i3 S; exact X_none
  | succ n ih =>
  · intro i3 S
    rw [f_X12_soap_L31]
    refine X_iload_n (n := 32) 0 (kX12_soap 19 rfl) rfl rfl rfl ?_
    refine X_bipush (n := 34) (v := 6) (kX12_soap 20 rfl) rfl (by decide) ?_
    refine X_itebind ?_
    refine X_ic_ge (n := 37) (tgt := 56) (kX12_soap 21 rfl) rfl rfl (fun h7 => ?_) (fun h7 => ?_)
    · exact X_L [1] rfl (kE S)
    · refine X_aload_n (n := 38) 2 (kX12_soap 22 rfl) rfl rfl rfl ?_
      refine X_getR (n := 41) xf_X12 hk0 (by decide) fl_X12_13 rfl (kX12_soap 23 rfl) rfl ?_
      refine X_aload_n (n := 42) 2 (kX12_soap 24 rfl) rfl rfl rfl ?_
      refine X_iload_n (n := 43) 3 (kX12_soap 25 rfl) rfl rfl rfl ?_
      refine X_assoc ?_
      refine X_callVI (n := 46) (As := [.int i1]) (st := [.ref (rf a0 14)]) (kX12_soap 26 rfl) rfl (w_X12_worn hk0) (by decide) ml_X12_266 mf_X12_worn rfl hk0 xf_X12 rfl (Nat.le_of_ble_eq_true rfl) (fun r8 S9 hq => ?_)
      try dsimp only
      refine X_iload_n (n := 47) 0 (kX12_soap 27 rfl) rfl rfl rfl ?_
      refine X_iadd (n := 48) (kX12_soap 28 rfl) rfl ?_
      refine X_iconst (n := 49) (v := 0) (kX12_soap 29 rfl) rfl (by decide) ?_
      refine X_itebind ?_
      refine X_iast (n := 50) (kt_12_14 hk0) (kX12_soap 30 rfl) rfl (fun h10 => ?_)
      refine X_iinc (n := 53) 0 (v := (i3 + 1)) (L1 := [(3, .int (i3 + 1)), (2, .int i2), (0, .ref a0), (1, .int i1)]) (kX12_soap 31 rfl) rfl rfl rfl (Nat.le_of_ble_eq_true rfl) rfl ?_
      refine X_goto (tgt := 31) (kX12_soap 32 rfl) rfl ?_
      exact X_L [0, 1, 2, 3] rfl (ih (i3 + 1) (sI S9 (rf a0 14) ((r8 + i3).toNatClampNeg) (0 : Int32)))
set_option maxHeartbeats 4000000 in
set_option maxRecDepth 100000 in
theorem w_X12_soap {l : Launch} {g : XG}  {a0 : Nat} {i1 : Int32} {S : XS} (hk0 : kd a0 = 12) : Cl φI l g 2 mX12_soap [.ref a0, .int i1] S (f_X12_soap a0 i1 S) := by
  refine Cl.of (by decide +kernel) (Nat.le_of_ble_eq_true rfl) ?_
  unfold f_X12_soap
  show X _ _ _ _ _ 0 [(0, .ref a0), (1, .int i1)] [] S _
  refine X_aload_n (n := 1) 0 (kX12_soap 0 rfl) rfl rfl rfl ?_
  refine X_iconst (n := 2) (v := 0) (kX12_soap 1 rfl) rfl (by decide) ?_
  refine X_putI (n := 5) xf_X12 hk0 (by decide) fl_X12_100 rfl rfl (Or.inl rfl) (kX12_soap 2 rfl) rfl ?_
  refine X_aload_n (n := 6) 0 (kX12_soap 3 rfl) rfl rfl rfl ?_
  refine X_iload_n (n := 7) 1 (kX12_soap 4 rfl) rfl rfl rfl ?_
  refine X_callV1B (n := 10) (As := [.int i1]) (st := []) (kX12_soap 5 rfl) rfl (p_X12_isWitness hk0) (by decide) ml_X12_263 mf_X12_isWitness rfl hk0 xf_X12 rfl (Nat.le_of_ble_eq_true rfl) ?_
  refine X_bn (n := 13) (tgt := 15) (kX12_soap 6 rfl) rfl rfl (fun h1 => ?_) (fun h1 => ?_)
  · refine X_aload_n (n := 16) 0 (kX12_soap 9 rfl) rfl rfl rfl ?_
    refine X_callVV (n := 19) (As := []) (st := []) (kX12_soap 10 rfl) rfl (w_X12_snap hk0) (by decide) ml_X12_307 mf_X12_snap rfl hk0 xf_X12 rfl (Nat.le_of_ble_eq_true rfl) (fun S2 hq => ?_)
    try dsimp only
    refine X_aload_n (n := 20) 0 (kX12_soap 11 rfl) rfl rfl rfl ?_
    refine X_aload_n (n := 21) 0 (kX12_soap 12 rfl) rfl rfl rfl ?_
    refine X_iload_n (n := 22) 1 (kX12_soap 13 rfl) rfl rfl rfl ?_
    refine X_callVI (n := 25) (As := [.int i1]) (st := [.ref a0]) (kX12_soap 14 rfl) rfl (w_X12_worn hk0) (by decide) ml_X12_266 mf_X12_worn rfl hk0 xf_X12 rfl (Nat.le_of_ble_eq_true rfl) (fun r3 S4 hq => ?_)
    try dsimp only
    refine X_callVI (n := 28) (As := [.int r3]) (st := []) (kX12_soap 15 rfl) rfl (w_X12_sumAt hk0) (by decide) ml_X12_269 mf_X12_sumAt rfl hk0 xf_X12 rfl (Nat.le_of_ble_eq_true rfl) (fun r5 S6 hq => ?_)
    try dsimp only
    refine X_istore_n (n := 29) (L1 := [(2, .int r5), (0, .ref a0), (1, .int i1)]) (kX12_soap 16 rfl) rfl rfl (Nat.le_of_ble_eq_true rfl) rfl ?_
    refine X_iconst (n := 30) (v := 0) (kX12_soap 17 rfl) rfl (by decide) ?_
    refine X_istore_n (n := 31) (L1 := [(3, .int 0), (2, .int r5), (0, .ref a0), (1, .int i1)]) (kX12_soap 18 rfl) rfl rfl (Nat.le_of_ble_eq_true rfl) rfl ?_
    refine X_L [0, 1, 2, 3] rfl (w_X12_soap_L31 hk0 (fun S11 => ?_) 1000000 (0 : Int32) S6)
    try dsimp only
    refine X_iload_n (n := 57) 0 (kX12_soap 33 rfl) rfl rfl rfl ?_
    exact X_iret rfl (kX12_soap 34 rfl)
  · refine X_iconst (n := 14) (v := (-1)) (kX12_soap 7 rfl) rfl (by decide) ?_
    exact X_iret rfl (kX12_soap 8 rfl)
def f_X12_send_L129  (i4 : Int32) (i3 : Int32) (a0 : Nat) (i1 : Int32) : Nat → Int32 → XS → Option (XS)
  | 0, _, _ => none
  | n + 1, i5, S => (if (6 : Int32) ≤ i5 then some S else ((f_X12_worn a0 i1 S).bind (fun q => match q with | (r6, S7) => (if (r6 + i5) < 0 ∨ ln (rf a0 14) ≤ (r6 + i5).toNatClampNeg then none else (if ((i4 + (4 : Int32)) + i5) < 0 ∨ ln (rf a0 14) ≤ ((i4 + (4 : Int32)) + i5).toNatClampNeg then none else f_X12_send_L129 i4 i3 a0 i1 n (i5 + 1) (sI S7 (rf a0 14) (((i4 + (4 : Int32)) + i5).toNatClampNeg) (S7.1 (rf a0 14) (r6 + i5).toNatClampNeg)))))))
def f_X12_send  (a0 : Nat) (i1 : Int32) (i2 : Int32) (S : XS) : Option (Int32 × XS) := (if (t_X12_isWitness a0 i1 (sI S a0 0 (0 : Int32))) = true then (if (t_X12_isIn i2 (0 : Int32) (2 : Int32)) = true then (if ((sI S a0 0 (0 : Int32)).1 (rf a0 14) 193) = (8 : Int32) then some ((-1 : Int32), (sI S a0 0 (0 : Int32))) else ((f_X12_snap a0 (sI S a0 0 (0 : Int32))).bind (fun S4 => (if ((151 : Int32) + i1) < 0 ∨ ln (rf a0 14) ≤ ((151 : Int32) + i1).toNatClampNeg then none else (if (((194 : Int32) + ((10 : Int32) * ((sI S a0 0 (0 : Int32)).1 (rf a0 14) 193))) + (0 : Int32)) < 0 ∨ ln (rf a0 14) ≤ (((194 : Int32) + ((10 : Int32) * ((sI S a0 0 (0 : Int32)).1 (rf a0 14) 193))) + (0 : Int32)).toNatClampNeg then none else (if (((194 : Int32) + ((10 : Int32) * ((sI S a0 0 (0 : Int32)).1 (rf a0 14) 193))) + (1 : Int32)) < 0 ∨ ln (rf a0 14) ≤ (((194 : Int32) + ((10 : Int32) * ((sI S a0 0 (0 : Int32)).1 (rf a0 14) 193))) + (1 : Int32)).toNatClampNeg then none else (if (((194 : Int32) + ((10 : Int32) * ((sI S a0 0 (0 : Int32)).1 (rf a0 14) 193))) + (2 : Int32)) < 0 ∨ ln (rf a0 14) ≤ (((194 : Int32) + ((10 : Int32) * ((sI S a0 0 (0 : Int32)).1 (rf a0 14) 193))) + (2 : Int32)).toNatClampNeg then none else (if ((151 : Int32) + i1) < 0 ∨ ln (rf a0 14) ≤ ((151 : Int32) + i1).toNatClampNeg then none else (if ((66 : Int32) + ((sI (sI (sI S4 (rf a0 14) ((((194 : Int32) + ((10 : Int32) * ((sI S a0 0 (0 : Int32)).1 (rf a0 14) 193))) + (0 : Int32)).toNatClampNeg) (S4.1 (rf a0 14) ((151 : Int32) + i1).toNatClampNeg)) (rf a0 14) ((((194 : Int32) + ((10 : Int32) * ((sI S a0 0 (0 : Int32)).1 (rf a0 14) 193))) + (1 : Int32)).toNatClampNeg) i2) (rf a0 14) ((((194 : Int32) + ((10 : Int32) * ((sI S a0 0 (0 : Int32)).1 (rf a0 14) 193))) + (2 : Int32)).toNatClampNeg) ((sI (sI S4 (rf a0 14) ((((194 : Int32) + ((10 : Int32) * ((sI S a0 0 (0 : Int32)).1 (rf a0 14) 193))) + (0 : Int32)).toNatClampNeg) (S4.1 (rf a0 14) ((151 : Int32) + i1).toNatClampNeg)) (rf a0 14) ((((194 : Int32) + ((10 : Int32) * ((sI S a0 0 (0 : Int32)).1 (rf a0 14) 193))) + (1 : Int32)).toNatClampNeg) i2).1 (rf a0 14) 144)).1 (rf a0 14) ((151 : Int32) + i1).toNatClampNeg)) < 0 ∨ ln (rf a0 14) ≤ ((66 : Int32) + ((sI (sI (sI S4 (rf a0 14) ((((194 : Int32) + ((10 : Int32) * ((sI S a0 0 (0 : Int32)).1 (rf a0 14) 193))) + (0 : Int32)).toNatClampNeg) (S4.1 (rf a0 14) ((151 : Int32) + i1).toNatClampNeg)) (rf a0 14) ((((194 : Int32) + ((10 : Int32) * ((sI S a0 0 (0 : Int32)).1 (rf a0 14) 193))) + (1 : Int32)).toNatClampNeg) i2) (rf a0 14) ((((194 : Int32) + ((10 : Int32) * ((sI S a0 0 (0 : Int32)).1 (rf a0 14) 193))) + (2 : Int32)).toNatClampNeg) ((sI (sI S4 (rf a0 14) ((((194 : Int32) + ((10 : Int32) * ((sI S a0 0 (0 : Int32)).1 (rf a0 14) 193))) + (0 : Int32)).toNatClampNeg) (S4.1 (rf a0 14) ((151 : Int32) + i1).toNatClampNeg)) (rf a0 14) ((((194 : Int32) + ((10 : Int32) * ((sI S a0 0 (0 : Int32)).1 (rf a0 14) 193))) + (1 : Int32)).toNatClampNeg) i2).1 (rf a0 14) 144)).1 (rf a0 14) ((151 : Int32) + i1).toNatClampNeg)).toNatClampNeg then none else (if (((194 : Int32) + ((10 : Int32) * ((sI S a0 0 (0 : Int32)).1 (rf a0 14) 193))) + (3 : Int32)) < 0 ∨ ln (rf a0 14) ≤ (((194 : Int32) + ((10 : Int32) * ((sI S a0 0 (0 : Int32)).1 (rf a0 14) 193))) + (3 : Int32)).toNatClampNeg then none else ((f_X12_send_L129 ((194 : Int32) + ((10 : Int32) * ((sI S a0 0 (0 : Int32)).1 (rf a0 14) 193))) ((sI S a0 0 (0 : Int32)).1 (rf a0 14) 193) a0 i1 1000000 (0 : Int32) (sI (sI (sI (sI S4 (rf a0 14) ((((194 : Int32) + ((10 : Int32) * ((sI S a0 0 (0 : Int32)).1 (rf a0 14) 193))) + (0 : Int32)).toNatClampNeg) (S4.1 (rf a0 14) ((151 : Int32) + i1).toNatClampNeg)) (rf a0 14) ((((194 : Int32) + ((10 : Int32) * ((sI S a0 0 (0 : Int32)).1 (rf a0 14) 193))) + (1 : Int32)).toNatClampNeg) i2) (rf a0 14) ((((194 : Int32) + ((10 : Int32) * ((sI S a0 0 (0 : Int32)).1 (rf a0 14) 193))) + (2 : Int32)).toNatClampNeg) ((sI (sI S4 (rf a0 14) ((((194 : Int32) + ((10 : Int32) * ((sI S a0 0 (0 : Int32)).1 (rf a0 14) 193))) + (0 : Int32)).toNatClampNeg) (S4.1 (rf a0 14) ((151 : Int32) + i1).toNatClampNeg)) (rf a0 14) ((((194 : Int32) + ((10 : Int32) * ((sI S a0 0 (0 : Int32)).1 (rf a0 14) 193))) + (1 : Int32)).toNatClampNeg) i2).1 (rf a0 14) 144)) (rf a0 14) ((((194 : Int32) + ((10 : Int32) * ((sI S a0 0 (0 : Int32)).1 (rf a0 14) 193))) + (3 : Int32)).toNatClampNeg) ((sI (sI (sI S4 (rf a0 14) ((((194 : Int32) + ((10 : Int32) * ((sI S a0 0 (0 : Int32)).1 (rf a0 14) 193))) + (0 : Int32)).toNatClampNeg) (S4.1 (rf a0 14) ((151 : Int32) + i1).toNatClampNeg)) (rf a0 14) ((((194 : Int32) + ((10 : Int32) * ((sI S a0 0 (0 : Int32)).1 (rf a0 14) 193))) + (1 : Int32)).toNatClampNeg) i2) (rf a0 14) ((((194 : Int32) + ((10 : Int32) * ((sI S a0 0 (0 : Int32)).1 (rf a0 14) 193))) + (2 : Int32)).toNatClampNeg) ((sI (sI S4 (rf a0 14) ((((194 : Int32) + ((10 : Int32) * ((sI S a0 0 (0 : Int32)).1 (rf a0 14) 193))) + (0 : Int32)).toNatClampNeg) (S4.1 (rf a0 14) ((151 : Int32) + i1).toNatClampNeg)) (rf a0 14) ((((194 : Int32) + ((10 : Int32) * ((sI S a0 0 (0 : Int32)).1 (rf a0 14) 193))) + (1 : Int32)).toNatClampNeg) i2).1 (rf a0 14) 144)).1 (rf a0 14) ((66 : Int32) + ((sI (sI (sI S4 (rf a0 14) ((((194 : Int32) + ((10 : Int32) * ((sI S a0 0 (0 : Int32)).1 (rf a0 14) 193))) + (0 : Int32)).toNatClampNeg) (S4.1 (rf a0 14) ((151 : Int32) + i1).toNatClampNeg)) (rf a0 14) ((((194 : Int32) + ((10 : Int32) * ((sI S a0 0 (0 : Int32)).1 (rf a0 14) 193))) + (1 : Int32)).toNatClampNeg) i2) (rf a0 14) ((((194 : Int32) + ((10 : Int32) * ((sI S a0 0 (0 : Int32)).1 (rf a0 14) 193))) + (2 : Int32)).toNatClampNeg) ((sI (sI S4 (rf a0 14) ((((194 : Int32) + ((10 : Int32) * ((sI S a0 0 (0 : Int32)).1 (rf a0 14) 193))) + (0 : Int32)).toNatClampNeg) (S4.1 (rf a0 14) ((151 : Int32) + i1).toNatClampNeg)) (rf a0 14) ((((194 : Int32) + ((10 : Int32) * ((sI S a0 0 (0 : Int32)).1 (rf a0 14) 193))) + (1 : Int32)).toNatClampNeg) i2).1 (rf a0 14) 144)).1 (rf a0 14) ((151 : Int32) + i1).toNatClampNeg)).toNatClampNeg))).bind (fun S10 => some (((sI S a0 0 (0 : Int32)).1 (rf a0 14) 193), (sI S10 (rf a0 14) 193 ((S10.1 (rf a0 14) 193) + (1 : Int32)))))))))))))))) else some ((-1 : Int32), (sI S a0 0 (0 : Int32)))) else some ((-1 : Int32), (sI S a0 0 (0 : Int32))))
set_option maxHeartbeats 4000000 in
set_option maxRecDepth 100000 in
theorem w_X12_send_L129 {l : Launch} {g : XG} {G : (XS) → Option (Int32 × XS)}  {i4 : Int32} {i3 : Int32} {a0 : Nat} {i1 : Int32} (hk0 : kd a0 = 12) (kE : ∀ (S1 : XS), X φI l g 2 mX12_send 167 [(3, .int i3), (0, .ref a0)] [] S1 (G S1)) : ∀ (n : Nat) (i5 : Int32) (S : XS), X φI l g 2 mX12_send 129 [(5, .int i5), (4, .int i4), (3, .int i3), (0, .ref a0), (1, .int i1)] [] S ((f_X12_send_L129 i4 i3 a0 i1 n i5 S).bind G) := by
  intro n
  induction n with
  | zero => intro i5 S; exact X_none
  | succ n ih =>
  · intro i5 S
    rw [f_X12_send_L129]
    refine X_iload (n := 131) 0 (kX12_send 78 rfl) rfl rfl ?_
    refine X_bipush (n := 133) (v := 6) (kX12_send 79 rfl) rfl (by decide) ?_
    refine X_itebind ?_
    refine X_ic_ge (n := 136) (tgt := 167) (kX12_send 80 rfl) rfl rfl (fun h5 => ?_) (fun h5 => ?_)
    · exact X_L [2, 3] rfl (kE S)
    · refine X_aload_n (n := 137) 3 (kX12_send 81 rfl) rfl rfl rfl ?_
      refine X_getR (n := 140) xf_X12 hk0 (by decide) fl_X12_13 rfl (kX12_send 82 rfl) rfl ?_
      refine X_iload (n := 142) 1 (kX12_send 83 rfl) rfl rfl ?_
      refine X_iconst (n := 143) (v := 4) (kX12_send 84 rfl) rfl (by decide) ?_
      refine X_iadd (n := 144) (kX12_send 85 rfl) rfl ?_
      refine X_iload (n := 146) 0 (kX12_send 86 rfl) rfl rfl ?_
      refine X_iadd (n := 147) (kX12_send 87 rfl) rfl ?_
      refine X_aload_n (n := 148) 3 (kX12_send 88 rfl) rfl rfl rfl ?_
      refine X_getR (n := 151) xf_X12 hk0 (by decide) fl_X12_13 rfl (kX12_send 89 rfl) rfl ?_
      refine X_aload_n (n := 152) 3 (kX12_send 90 rfl) rfl rfl rfl ?_
      refine X_iload_n (n := 153) 4 (kX12_send 91 rfl) rfl rfl rfl ?_
      refine X_assoc ?_
      refine X_callVI (n := 156) (As := [.int i1]) (st := [.ref (rf a0 14), .int ((i4 + (4 : Int32)) + i5), .ref (rf a0 14)]) (kX12_send 92 rfl) rfl (w_X12_worn hk0) (by decide) ml_X12_266 mf_X12_worn rfl hk0 xf_X12 rfl (Nat.le_of_ble_eq_true rfl) (fun r6 S7 hq => ?_)
      try dsimp only
      refine X_iload (n := 158) 0 (kX12_send 93 rfl) rfl rfl ?_
      refine X_iadd (n := 159) (kX12_send 94 rfl) rfl ?_
      refine X_itebind ?_
      refine X_iald (n := 160) (kt_12_14 hk0) (kX12_send 95 rfl) rfl (fun h9 => ?_)
      refine X_itebind ?_
      refine X_iast (n := 161) (kt_12_14 hk0) (kX12_send 96 rfl) rfl (fun h8 => ?_)
      refine X_iinc (n := 164) 0 (v := (i5 + 1)) (L1 := [(5, .int (i5 + 1)), (4, .int i4), (3, .int i3), (0, .ref a0), (1, .int i1)]) (kX12_send 97 rfl) rfl rfl rfl (Nat.le_of_ble_eq_true rfl) rfl ?_
      refine X_goto (tgt := 129) (kX12_send 98 rfl) rfl ?_
      exact X_L [0, 1, 2, 3, 4] rfl (ih (i5 + 1) (sI S7 (rf a0 14) (((i4 + (4 : Int32)) + i5).toNatClampNeg) (S7.1 (rf a0 14) (r6 + i5).toNatClampNeg)))
set_option maxHeartbeats 4000000 in
set_option maxRecDepth 100000 in
theorem w_X12_send {l : Launch} {g : XG}  {a0 : Nat} {i1 : Int32} {i2 : Int32} {S : XS} (hk0 : kd a0 = 12) : Cl φI l g 2 mX12_send [.ref a0, .int i1, .int i2] S (f_X12_send a0 i1 i2 S) := by
  refine Cl.of (by decide +kernel) (Nat.le_of_ble_eq_true rfl) ?_
  unfold f_X12_send
  show X _ _ _ _ _ 0 [(0, .ref a0), (1, .int i1), (2, .int i2)] [] S _
  refine X_aload_n (n := 1) 0 (kX12_send 0 rfl) rfl rfl rfl ?_
  refine X_iconst (n := 2) (v := 0) (kX12_send 1 rfl) rfl (by decide) ?_
  refine X_putI (n := 5) xf_X12 hk0 (by decide) fl_X12_100 rfl rfl (Or.inl rfl) (kX12_send 2 rfl) rfl ?_
  refine X_aload_n (n := 6) 0 (kX12_send 3 rfl) rfl rfl rfl ?_
  refine X_getR (n := 9) xf_X12 hk0 (by decide) fl_X12_13 rfl (kX12_send 4 rfl) rfl ?_
  refine X_sipush (n := 12) (v := 193) (kX12_send 5 rfl) rfl (by decide) ?_
  refine X_iald' (n := 13) (kt_12_14 hk0) (kX12_send 6 rfl) rfl (by rw [lt_12_14 hk0]; decide) ?_
  refine X_istore_n (n := 14) (L1 := [(3, .int ((sI S a0 0 (0 : Int32)).1 (rf a0 14) 193)), (0, .ref a0), (1, .int i1), (2, .int i2)]) (kX12_send 7 rfl) rfl rfl (Nat.le_of_ble_eq_true rfl) rfl ?_
  refine X_aload_n (n := 15) 1 (kX12_send 8 rfl) rfl rfl rfl ?_
  refine X_iload_n (n := 16) 2 (kX12_send 9 rfl) rfl rfl rfl ?_
  refine X_callV1B (n := 19) (As := [.int i1]) (st := []) (kX12_send 10 rfl) rfl (p_X12_isWitness hk0) (by decide) ml_X12_263 mf_X12_isWitness rfl hk0 xf_X12 rfl (Nat.le_of_ble_eq_true rfl) ?_
  refine X_bz (n := 22) (tgt := 37) (kX12_send 11 rfl) rfl rfl (fun h1 => ?_) (fun h1 => ?_)
  · refine X_iload_n (n := 23) 3 (kX12_send 12 rfl) rfl rfl rfl ?_
    refine X_iconst (n := 24) (v := 0) (kX12_send 13 rfl) rfl (by decide) ?_
    refine X_iconst (n := 25) (v := 2) (kX12_send 14 rfl) rfl (by decide) ?_
    refine X_callS1B (n := 28) (As := [.int i2, .int (0 : Int32), .int (2 : Int32)]) (st := []) (kX12_send 15 rfl) rfl p_X12_isIn (by decide) ml_X12_169 mf_X12_isIn rfl rfl (Nat.le_of_ble_eq_true rfl) ?_
    refine X_bz (n := 31) (tgt := 37) (kX12_send 16 rfl) rfl rfl (fun h2 => ?_) (fun h2 => ?_)
    · refine X_iload_n (n := 32) 0 (kX12_send 17 rfl) rfl rfl rfl ?_
      refine X_bipush (n := 34) (v := 8) (kX12_send 18 rfl) rfl (by decide) ?_
      refine X_ic_ne (n := 37) (tgt := 39) (kX12_send 19 rfl) rfl rfl (fun h3 => ?_) (fun h3 => ?_)
      · refine X_iconst (n := 38) (v := (-1)) (kX12_send 20 rfl) rfl (by decide) ?_
        exact X_iret rfl (kX12_send 21 rfl)
      · refine X_aload_n (n := 40) 1 (kX12_send 22 rfl) rfl rfl rfl ?_
        refine X_callVV (n := 43) (As := []) (st := []) (kX12_send 23 rfl) rfl (w_X12_snap hk0) (by decide) ml_X12_307 mf_X12_snap rfl hk0 xf_X12 rfl (Nat.le_of_ble_eq_true rfl) (fun S4 hq => ?_)
        try dsimp only
        refine X_sipush (n := 46) (v := 194) (kX12_send 24 rfl) rfl (by decide) ?_
        refine X_bipush (n := 48) (v := 10) (kX12_send 25 rfl) rfl (by decide) ?_
        refine X_iload_n (n := 49) 0 (kX12_send 26 rfl) rfl rfl rfl ?_
        refine X_imul (n := 50) (kX12_send 27 rfl) rfl ?_
        refine X_iadd (n := 51) (kX12_send 28 rfl) rfl ?_
        refine X_istore (n := 53) (L1 := [(4, .int ((194 : Int32) + ((10 : Int32) * ((sI S a0 0 (0 : Int32)).1 (rf a0 14) 193)))), (3, .int ((sI S a0 0 (0 : Int32)).1 (rf a0 14) 193)), (0, .ref a0), (1, .int i1), (2, .int i2)]) (kX12_send 29 rfl) rfl (Nat.le_of_ble_eq_true rfl) rfl ?_
        refine X_aload_n (n := 54) 2 (kX12_send 30 rfl) rfl rfl rfl ?_
        refine X_getR (n := 57) xf_X12 hk0 (by decide) fl_X12_13 rfl (kX12_send 31 rfl) rfl ?_
        refine X_iload (n := 59) 0 (kX12_send 32 rfl) rfl rfl ?_
        refine X_iconst (n := 60) (v := 0) (kX12_send 33 rfl) rfl (by decide) ?_
        refine X_iadd (n := 61) (kX12_send 34 rfl) rfl ?_
        refine X_aload_n (n := 62) 2 (kX12_send 35 rfl) rfl rfl rfl ?_
        refine X_getR (n := 65) xf_X12 hk0 (by decide) fl_X12_13 rfl (kX12_send 36 rfl) rfl ?_
        refine X_sipush (n := 68) (v := 151) (kX12_send 37 rfl) rfl (by decide) ?_
        refine X_iload_n (n := 69) 3 (kX12_send 38 rfl) rfl rfl rfl ?_
        refine X_iadd (n := 70) (kX12_send 39 rfl) rfl ?_
        refine X_iald (n := 71) (kt_12_14 hk0) (kX12_send 40 rfl) rfl (fun h17 => ?_)
        refine X_iast (n := 72) (kt_12_14 hk0) (kX12_send 41 rfl) rfl (fun h16 => ?_)
        refine X_aload_n (n := 73) 2 (kX12_send 42 rfl) rfl rfl rfl ?_
        refine X_getR (n := 76) xf_X12 hk0 (by decide) fl_X12_13 rfl (kX12_send 43 rfl) rfl ?_
        refine X_iload (n := 78) 0 (kX12_send 44 rfl) rfl rfl ?_
        refine X_iconst (n := 79) (v := 1) (kX12_send 45 rfl) rfl (by decide) ?_
        refine X_iadd (n := 80) (kX12_send 46 rfl) rfl ?_
        refine X_iload_n (n := 81) 4 (kX12_send 47 rfl) rfl rfl rfl ?_
        refine X_iast (n := 82) (kt_12_14 hk0) (kX12_send 48 rfl) rfl (fun h15 => ?_)
        refine X_aload_n (n := 83) 2 (kX12_send 49 rfl) rfl rfl rfl ?_
        refine X_getR (n := 86) xf_X12 hk0 (by decide) fl_X12_13 rfl (kX12_send 50 rfl) rfl ?_
        refine X_iload (n := 88) 0 (kX12_send 51 rfl) rfl rfl ?_
        refine X_iconst (n := 89) (v := 2) (kX12_send 52 rfl) rfl (by decide) ?_
        refine X_iadd (n := 90) (kX12_send 53 rfl) rfl ?_
        refine X_aload_n (n := 91) 2 (kX12_send 54 rfl) rfl rfl rfl ?_
        refine X_getR (n := 94) xf_X12 hk0 (by decide) fl_X12_13 rfl (kX12_send 55 rfl) rfl ?_
        refine X_sipush (n := 97) (v := 144) (kX12_send 56 rfl) rfl (by decide) ?_
        refine X_iald' (n := 98) (kt_12_14 hk0) (kX12_send 57 rfl) rfl (by rw [lt_12_14 hk0]; decide) ?_
        refine X_iast (n := 99) (kt_12_14 hk0) (kX12_send 58 rfl) rfl (fun h14 => ?_)
        refine X_aload_n (n := 100) 2 (kX12_send 59 rfl) rfl rfl rfl ?_
        refine X_getR (n := 103) xf_X12 hk0 (by decide) fl_X12_13 rfl (kX12_send 60 rfl) rfl ?_
        refine X_iload (n := 105) 0 (kX12_send 61 rfl) rfl rfl ?_
        refine X_iconst (n := 106) (v := 3) (kX12_send 62 rfl) rfl (by decide) ?_
        refine X_iadd (n := 107) (kX12_send 63 rfl) rfl ?_
        refine X_aload_n (n := 108) 2 (kX12_send 64 rfl) rfl rfl rfl ?_
        refine X_getR (n := 111) xf_X12 hk0 (by decide) fl_X12_13 rfl (kX12_send 65 rfl) rfl ?_
        refine X_bipush (n := 113) (v := 66) (kX12_send 66 rfl) rfl (by decide) ?_
        refine X_aload_n (n := 114) 2 (kX12_send 67 rfl) rfl rfl rfl ?_
        refine X_getR (n := 117) xf_X12 hk0 (by decide) fl_X12_13 rfl (kX12_send 68 rfl) rfl ?_
        refine X_sipush (n := 120) (v := 151) (kX12_send 69 rfl) rfl (by decide) ?_
        refine X_iload_n (n := 121) 3 (kX12_send 70 rfl) rfl rfl rfl ?_
        refine X_iadd (n := 122) (kX12_send 71 rfl) rfl ?_
        refine X_iald (n := 123) (kt_12_14 hk0) (kX12_send 72 rfl) rfl (fun h13 => ?_)
        refine X_iadd (n := 124) (kX12_send 73 rfl) rfl ?_
        refine X_iald (n := 125) (kt_12_14 hk0) (kX12_send 74 rfl) rfl (fun h12 => ?_)
        refine X_iast (n := 126) (kt_12_14 hk0) (kX12_send 75 rfl) rfl (fun h11 => ?_)
        refine X_iconst (n := 127) (v := 0) (kX12_send 76 rfl) rfl (by decide) ?_
        refine X_istore (n := 129) (L1 := [(5, .int 0), (4, .int ((194 : Int32) + ((10 : Int32) * ((sI S a0 0 (0 : Int32)).1 (rf a0 14) 193)))), (3, .int ((sI S a0 0 (0 : Int32)).1 (rf a0 14) 193)), (0, .ref a0), (1, .int i1), (2, .int i2)]) (kX12_send 77 rfl) rfl (Nat.le_of_ble_eq_true rfl) rfl ?_
        refine X_L [0, 1, 2, 3, 4] rfl (w_X12_send_L129 hk0 (fun S10 => ?_) 1000000 (0 : Int32) (sI (sI (sI (sI S4 (rf a0 14) ((((194 : Int32) + ((10 : Int32) * ((sI S a0 0 (0 : Int32)).1 (rf a0 14) 193))) + (0 : Int32)).toNatClampNeg) (S4.1 (rf a0 14) ((151 : Int32) + i1).toNatClampNeg)) (rf a0 14) ((((194 : Int32) + ((10 : Int32) * ((sI S a0 0 (0 : Int32)).1 (rf a0 14) 193))) + (1 : Int32)).toNatClampNeg) i2) (rf a0 14) ((((194 : Int32) + ((10 : Int32) * ((sI S a0 0 (0 : Int32)).1 (rf a0 14) 193))) + (2 : Int32)).toNatClampNeg) ((sI (sI S4 (rf a0 14) ((((194 : Int32) + ((10 : Int32) * ((sI S a0 0 (0 : Int32)).1 (rf a0 14) 193))) + (0 : Int32)).toNatClampNeg) (S4.1 (rf a0 14) ((151 : Int32) + i1).toNatClampNeg)) (rf a0 14) ((((194 : Int32) + ((10 : Int32) * ((sI S a0 0 (0 : Int32)).1 (rf a0 14) 193))) + (1 : Int32)).toNatClampNeg) i2).1 (rf a0 14) 144)) (rf a0 14) ((((194 : Int32) + ((10 : Int32) * ((sI S a0 0 (0 : Int32)).1 (rf a0 14) 193))) + (3 : Int32)).toNatClampNeg) ((sI (sI (sI S4 (rf a0 14) ((((194 : Int32) + ((10 : Int32) * ((sI S a0 0 (0 : Int32)).1 (rf a0 14) 193))) + (0 : Int32)).toNatClampNeg) (S4.1 (rf a0 14) ((151 : Int32) + i1).toNatClampNeg)) (rf a0 14) ((((194 : Int32) + ((10 : Int32) * ((sI S a0 0 (0 : Int32)).1 (rf a0 14) 193))) + (1 : Int32)).toNatClampNeg) i2) (rf a0 14) ((((194 : Int32) + ((10 : Int32) * ((sI S a0 0 (0 : Int32)).1 (rf a0 14) 193))) + (2 : Int32)).toNatClampNeg) ((sI (sI S4 (rf a0 14) ((((194 : Int32) + ((10 : Int32) * ((sI S a0 0 (0 : Int32)).1 (rf a0 14) 193))) + (0 : Int32)).toNatClampNeg) (S4.1 (rf a0 14) ((151 : Int32) + i1).toNatClampNeg)) (rf a0 14) ((((194 : Int32) + ((10 : Int32) * ((sI S a0 0 (0 : Int32)).1 (rf a0 14) 193))) + (1 : Int32)).toNatClampNeg) i2).1 (rf a0 14) 144)).1 (rf a0 14) ((66 : Int32) + ((sI (sI (sI S4 (rf a0 14) ((((194 : Int32) + ((10 : Int32) * ((sI S a0 0 (0 : Int32)).1 (rf a0 14) 193))) + (0 : Int32)).toNatClampNeg) (S4.1 (rf a0 14) ((151 : Int32) + i1).toNatClampNeg)) (rf a0 14) ((((194 : Int32) + ((10 : Int32) * ((sI S a0 0 (0 : Int32)).1 (rf a0 14) 193))) + (1 : Int32)).toNatClampNeg) i2) (rf a0 14) ((((194 : Int32) + ((10 : Int32) * ((sI S a0 0 (0 : Int32)).1 (rf a0 14) 193))) + (2 : Int32)).toNatClampNeg) ((sI (sI S4 (rf a0 14) ((((194 : Int32) + ((10 : Int32) * ((sI S a0 0 (0 : Int32)).1 (rf a0 14) 193))) + (0 : Int32)).toNatClampNeg) (S4.1 (rf a0 14) ((151 : Int32) + i1).toNatClampNeg)) (rf a0 14) ((((194 : Int32) + ((10 : Int32) * ((sI S a0 0 (0 : Int32)).1 (rf a0 14) 193))) + (1 : Int32)).toNatClampNeg) i2).1 (rf a0 14) 144)).1 (rf a0 14) ((151 : Int32) + i1).toNatClampNeg)).toNatClampNeg)))
        try dsimp only
        refine X_aload_n (n := 168) 1 (kX12_send 99 rfl) rfl rfl rfl ?_
        refine X_getR (n := 171) xf_X12 hk0 (by decide) fl_X12_13 rfl (kX12_send_1 0 rfl) rfl ?_
        refine X_sipush (n := 174) (v := 193) (kX12_send_1 1 rfl) rfl (by decide) ?_
        refine X_dup2 (n := 175) (kX12_send_1 2 rfl) rfl rfl rfl ?_
        refine X_iald' (n := 176) (kt_12_14 hk0) (kX12_send_1 3 rfl) rfl (by rw [lt_12_14 hk0]; decide) ?_
        refine X_iconst (n := 177) (v := 1) (kX12_send_1 4 rfl) rfl (by decide) ?_
        refine X_iadd (n := 178) (kX12_send_1 5 rfl) rfl ?_
        refine X_iast' (n := 179) (kt_12_14 hk0) (kX12_send_1 6 rfl) rfl (by rw [lt_12_14 hk0]; decide) ?_
        refine X_iload_n (n := 180) 0 (kX12_send_1 7 rfl) rfl rfl rfl ?_
        exact X_iret rfl (kX12_send_1 8 rfl)
    · refine X_iconst (n := 38) (v := (-1)) (kX12_send 20 rfl) rfl (by decide) ?_
      exact X_iret rfl (kX12_send 21 rfl)
  · refine X_iconst (n := 38) (v := (-1)) (kX12_send 20 rfl) rfl (by decide) ?_
    exact X_iret rfl (kX12_send 21 rfl)
def f_X12_move  (a0 : Nat) (i1 : Int32) (i2 : Int32) (S : XS) : Option (Bool × XS) := (if (t_X12_isCloth a0 i1 (sI S a0 0 (0 : Int32))) = true then (if (t_X12_isIn i2 (0 : Int32) (2 : Int32)) = true then ((f_X12_ofCloth a0 i1 (1 : Int32) (sI S a0 0 (0 : Int32))).bind (fun q => match q with | (r3, S4) => (if r3 = i2 then some (false, S4) else ((f_X12_snap a0 S4).bind (fun S6 => (if (((194 : Int32) + ((10 : Int32) * i1)) + (1 : Int32)) < 0 ∨ ln (rf a0 14) ≤ (((194 : Int32) + ((10 : Int32) * i1)) + (1 : Int32)).toNatClampNeg then none else some (true, (sI S6 (rf a0 14) ((((194 : Int32) + ((10 : Int32) * i1)) + (1 : Int32)).toNatClampNeg) i2)))))))) else some (false, (sI S a0 0 (0 : Int32)))) else some (false, (sI S a0 0 (0 : Int32))))
set_option maxHeartbeats 4000000 in
set_option maxRecDepth 100000 in
theorem w_X12_move {l : Launch} {g : XG}  {a0 : Nat} {i1 : Int32} {i2 : Int32} {S : XS} (hk0 : kd a0 = 12) : Cl φB l g 2 mX12_move [.ref a0, .int i1, .int i2] S (f_X12_move a0 i1 i2 S) := by
  refine Cl.of (by decide +kernel) (Nat.le_of_ble_eq_true rfl) ?_
  unfold f_X12_move
  show X _ _ _ _ _ 0 [(0, .ref a0), (1, .int i1), (2, .int i2)] [] S _
  refine X_aload_n (n := 1) 0 (kX12_move 0 rfl) rfl rfl rfl ?_
  refine X_iconst (n := 2) (v := 0) (kX12_move 1 rfl) rfl (by decide) ?_
  refine X_putI (n := 5) xf_X12 hk0 (by decide) fl_X12_100 rfl rfl (Or.inl rfl) (kX12_move 2 rfl) rfl ?_
  refine X_aload_n (n := 6) 0 (kX12_move 3 rfl) rfl rfl rfl ?_
  refine X_iload_n (n := 7) 1 (kX12_move 4 rfl) rfl rfl rfl ?_
  refine X_callV1B (n := 10) (As := [.int i1]) (st := []) (kX12_move 5 rfl) rfl (p_X12_isCloth hk0) (by decide) ml_X12_278 mf_X12_isCloth rfl hk0 xf_X12 rfl (Nat.le_of_ble_eq_true rfl) ?_
  refine X_bz (n := 13) (tgt := 32) (kX12_move 6 rfl) rfl rfl (fun h1 => ?_) (fun h1 => ?_)
  · refine X_iload_n (n := 14) 2 (kX12_move 7 rfl) rfl rfl rfl ?_
    refine X_iconst (n := 15) (v := 0) (kX12_move 8 rfl) rfl (by decide) ?_
    refine X_iconst (n := 16) (v := 2) (kX12_move 9 rfl) rfl (by decide) ?_
    refine X_callS1B (n := 19) (As := [.int i2, .int (0 : Int32), .int (2 : Int32)]) (st := []) (kX12_move 10 rfl) rfl p_X12_isIn (by decide) ml_X12_169 mf_X12_isIn rfl rfl (Nat.le_of_ble_eq_true rfl) ?_
    refine X_bz (n := 22) (tgt := 32) (kX12_move 11 rfl) rfl rfl (fun h2 => ?_) (fun h2 => ?_)
    · refine X_aload_n (n := 23) 0 (kX12_move 12 rfl) rfl rfl rfl ?_
      refine X_iload_n (n := 24) 1 (kX12_move 13 rfl) rfl rfl rfl ?_
      refine X_iconst (n := 25) (v := 1) (kX12_move 14 rfl) rfl (by decide) ?_
      refine X_callVI (n := 28) (As := [.int i1, .int (1 : Int32)]) (st := []) (kX12_move 15 rfl) rfl (w_X12_ofCloth hk0) (by decide) ml_X12_284 mf_X12_ofCloth rfl hk0 xf_X12 rfl (Nat.le_of_ble_eq_true rfl) (fun r3 S4 hq => ?_)
      try dsimp only
      refine X_iload_n (n := 29) 2 (kX12_move 16 rfl) rfl rfl rfl ?_
      refine X_ic_ne (n := 32) (tgt := 34) (kX12_move 17 rfl) rfl rfl (fun h5 => ?_) (fun h5 => ?_)
      · refine X_iconst (n := 33) (v := 0) (kX12_move 18 rfl) rfl (by decide) ?_
        exact X_zret (b := false) rfl (kX12_move 19 rfl)
      · refine X_aload_n (n := 35) 0 (kX12_move 20 rfl) rfl rfl rfl ?_
        refine X_callVV (n := 38) (As := []) (st := []) (kX12_move 21 rfl) rfl (w_X12_snap hk0) (by decide) ml_X12_307 mf_X12_snap rfl hk0 xf_X12 rfl (Nat.le_of_ble_eq_true rfl) (fun S6 hq => ?_)
        try dsimp only
        refine X_aload_n (n := 39) 0 (kX12_move 22 rfl) rfl rfl rfl ?_
        refine X_getR (n := 42) xf_X12 hk0 (by decide) fl_X12_13 rfl (kX12_move 23 rfl) rfl ?_
        refine X_sipush (n := 45) (v := 194) (kX12_move 24 rfl) rfl (by decide) ?_
        refine X_bipush (n := 47) (v := 10) (kX12_move 25 rfl) rfl (by decide) ?_
        refine X_iload_n (n := 48) 1 (kX12_move 26 rfl) rfl rfl rfl ?_
        refine X_imul (n := 49) (kX12_move 27 rfl) rfl ?_
        refine X_iadd (n := 50) (kX12_move 28 rfl) rfl ?_
        refine X_iconst (n := 51) (v := 1) (kX12_move 29 rfl) rfl (by decide) ?_
        refine X_iadd (n := 52) (kX12_move 30 rfl) rfl ?_
        refine X_iload_n (n := 53) 2 (kX12_move 31 rfl) rfl rfl rfl ?_
        refine X_iast (n := 54) (kt_12_14 hk0) (kX12_move 32 rfl) rfl (fun h7 => ?_)
        refine X_iconst (n := 55) (v := 1) (kX12_move 33 rfl) rfl (by decide) ?_
        exact X_zret (b := true) rfl (kX12_move 34 rfl)
    · refine X_iconst (n := 33) (v := 0) (kX12_move 18 rfl) rfl (by decide) ?_
      exact X_zret (b := false) rfl (kX12_move 19 rfl)
  · refine X_iconst (n := 33) (v := 0) (kX12_move 18 rfl) rfl (by decide) ?_
    exact X_zret (b := false) rfl (kX12_move 19 rfl)
def f_X12_isDrowned  (a0 : Nat) (i1 : Int32) (i2 : Int32) (S : XS) : Option (Bool × XS) := ((f_X12_strongestAt a0 (((194 : Int32) + ((10 : Int32) * i1)) + (4 : Int32)) S).bind (fun q => match q with | (r1, S2) => (if r1 = (-1 : Int32) then some (true, S2) else (if (((6 : Int32) * i2) + r1) < 0 ∨ ln (rf a0 24) ≤ (((6 : Int32) * i2) + r1).toNatClampNeg then none else ((f_X12_onCloth a0 i1 r1 S2).bind (fun q => match q with | (r4, S5) => (if (S2.1 (rf a0 24) (((6 : Int32) * i2) + r1).toNatClampNeg) < r4 then some (false, S5) else some (true, S5))))))))
set_option maxHeartbeats 4000000 in
set_option maxRecDepth 100000 in
theorem w_X12_isDrowned {l : Launch} {g : XG}  {a0 : Nat} {i1 : Int32} {i2 : Int32} {S : XS} (hk0 : kd a0 = 12) : Cl φB l g 2 mX12_isDrowned [.ref a0, .int i1, .int i2] S (f_X12_isDrowned a0 i1 i2 S) := by
  refine Cl.of (by decide +kernel) (Nat.le_of_ble_eq_true rfl) ?_
  unfold f_X12_isDrowned
  show X _ _ _ _ _ 0 [(0, .ref a0), (1, .int i1), (2, .int i2)] [] S _
  refine X_aload_n (n := 1) 0 (kX12_isDrowned 0 rfl) rfl rfl rfl ?_
  refine X_sipush (n := 4) (v := 194) (kX12_isDrowned 1 rfl) rfl (by decide) ?_
  refine X_bipush (n := 6) (v := 10) (kX12_isDrowned 2 rfl) rfl (by decide) ?_
  refine X_iload_n (n := 7) 1 (kX12_isDrowned 3 rfl) rfl rfl rfl ?_
  refine X_imul (n := 8) (kX12_isDrowned 4 rfl) rfl ?_
  refine X_iadd (n := 9) (kX12_isDrowned 5 rfl) rfl ?_
  refine X_iconst (n := 10) (v := 4) (kX12_isDrowned 6 rfl) rfl (by decide) ?_
  refine X_iadd (n := 11) (kX12_isDrowned 7 rfl) rfl ?_
  refine X_callVI (n := 14) (As := [.int (((194 : Int32) + ((10 : Int32) * i1)) + (4 : Int32))]) (st := []) (kX12_isDrowned 8 rfl) rfl (w_X12_strongestAt hk0) (by decide) ml_X12_272 mf_X12_strongestAt rfl hk0 xf_X12 rfl (Nat.le_of_ble_eq_true rfl) (fun r1 S2 hq => ?_)
  try dsimp only
  refine X_istore_n (n := 15) (L1 := [(3, .int r1), (0, .ref a0), (1, .int i1), (2, .int i2)]) (kX12_isDrowned 9 rfl) rfl rfl (Nat.le_of_ble_eq_true rfl) rfl ?_
  refine X_iload_n (n := 16) 0 (kX12_isDrowned 10 rfl) rfl rfl rfl ?_
  refine X_iconst (n := 17) (v := (-1)) (kX12_isDrowned 11 rfl) rfl (by decide) ?_
  refine X_ic_eq (n := 20) (tgt := 40) (kX12_isDrowned 12 rfl) rfl rfl (fun h3 => ?_) (fun h3 => ?_)
  · refine X_iconst (n := 41) (v := 1) (kX12_isDrowned 26 rfl) rfl (by decide) ?_
    refine X_goto (tgt := 45) (kX12_isDrowned 27 rfl) rfl ?_
    exact X_zret (b := true) rfl (kX12_isDrowned 29 rfl)
  · refine X_aload_n (n := 21) 1 (kX12_isDrowned 13 rfl) rfl rfl rfl ?_
    refine X_getR (n := 24) xf_X12 hk0 (by decide) fl_X12_42 rfl (kX12_isDrowned 14 rfl) rfl ?_
    refine X_bipush (n := 26) (v := 6) (kX12_isDrowned 15 rfl) rfl (by decide) ?_
    refine X_iload_n (n := 27) 3 (kX12_isDrowned 16 rfl) rfl rfl rfl ?_
    refine X_imul (n := 28) (kX12_isDrowned 17 rfl) rfl ?_
    refine X_iload_n (n := 29) 0 (kX12_isDrowned 18 rfl) rfl rfl rfl ?_
    refine X_iadd (n := 30) (kX12_isDrowned 19 rfl) rfl ?_
    refine X_iald (n := 31) (kt_12_24 hk0) (kX12_isDrowned 20 rfl) rfl (fun h7 => ?_)
    refine X_aload_n (n := 32) 1 (kX12_isDrowned 21 rfl) rfl rfl rfl ?_
    refine X_iload_n (n := 33) 2 (kX12_isDrowned 22 rfl) rfl rfl rfl ?_
    refine X_iload_n (n := 34) 0 (kX12_isDrowned 23 rfl) rfl rfl rfl ?_
    refine X_callVI (n := 37) (As := [.int i1, .int r1]) (st := [.int (S2.1 (rf a0 24) (((6 : Int32) * i2) + r1).toNatClampNeg)]) (kX12_isDrowned 24 rfl) rfl (w_X12_onCloth hk0) (by decide) ml_X12_281 mf_X12_onCloth rfl hk0 xf_X12 rfl (Nat.le_of_ble_eq_true rfl) (fun r4 S5 hq => ?_)
    try dsimp only
    refine X_ic_lt (n := 40) (tgt := 44) (kX12_isDrowned 25 rfl) rfl rfl (fun h6 => ?_) (fun h6 => ?_)
    · refine X_iconst (n := 45) (v := 0) (kX12_isDrowned 28 rfl) rfl (by decide) ?_
      exact X_zret (b := false) rfl (kX12_isDrowned 29 rfl)
    · refine X_iconst (n := 41) (v := 1) (kX12_isDrowned 26 rfl) rfl (by decide) ?_
      refine X_goto (tgt := 45) (kX12_isDrowned 27 rfl) rfl ?_
      exact X_zret (b := true) rfl (kX12_isDrowned 29 rfl)
def f_X12_open_L2  (a0 : Nat) (i1 : Int32) (i2 : Int32) : Nat → Int32 → XS → Option (XS)
  | 0, _, _ => none
  | n + 1, i3, S => (if (6 : Int32) ≤ i3 then some S else (if (((6 : Int32) * i2) + i3) < 0 ∨ ln (rf a0 24) ≤ (((6 : Int32) * i2) + i3).toNatClampNeg then none else ((f_X12_onCloth a0 i1 i3 S).bind (fun q => match q with | (r2, S3) => (if ((S.1 (rf a0 24) (((6 : Int32) * i2) + i3).toNatClampNeg) / (2 : Int32)) ≤ r2 then ((f_X12_onCloth a0 i1 i3 S3).bind (fun q => match q with | (r5, S6) => (if ((((6 : Int32) * i2) + (6 : Int32)) + i3) < 0 ∨ ln (rf a0 24) ≤ ((((6 : Int32) * i2) + (6 : Int32)) + i3).toNatClampNeg then none else f_X12_open_L2 a0 i1 i2 n (i3 + 1) (sI S6 (rf a0 24) (((((6 : Int32) * i2) + (6 : Int32)) + i3).toNatClampNeg) r5)))) else (if ((((6 : Int32) * i2) + (6 : Int32)) + i3) < 0 ∨ ln (rf a0 24) ≤ ((((6 : Int32) * i2) + (6 : Int32)) + i3).toNatClampNeg then none else f_X12_open_L2 a0 i1 i2 n (i3 + 1) (sI S3 (rf a0 24) (((((6 : Int32) * i2) + (6 : Int32)) + i3).toNatClampNeg) ((S.1 (rf a0 24) (((6 : Int32) * i2) + i3).toNatClampNeg) / (2 : Int32)))))))))
def f_X12_open  (a0 : Nat) (i1 : Int32) (i2 : Int32) (S : XS) : Option (XS) := ((f_X12_open_L2 a0 i1 i2 1000000 (0 : Int32) S).bind (fun S10 => some S10))
set_option maxHeartbeats 4000000 in
set_option maxRecDepth 100000 in
theorem w_X12_open_L2 {l : Launch} {g : XG} {G : (XS) → Option (XS)}  {a0 : Nat} {i1 : Int32} {i2 : Int32} (hk0 : kd a0 = 12) (kE : ∀ (S1 : XS), X φV l g 2 mX12_open 65 [] [] S1 (G S1)) : ∀ (n : Nat) (i3 : Int32) (S : XS), X φV l g 2 mX12_open 2 [(3, .int i3), (0, .ref a0), (1, .int i1), (2, .int i2)] [] S ((f_X12_open_L2 a0 i1 i2 n i3 S).bind G) := by
  intro n
  induction n with
  | zero => intro i3 S; exact X_none
  | succ n ih =>
  · intro i3 S
    rw [f_X12_open_L2]
    refine X_iload_n (n := 3) 0 (kX12_open 2 rfl) rfl rfl rfl ?_
    refine X_bipush (n := 5) (v := 6) (kX12_open 3 rfl) rfl (by decide) ?_
    refine X_itebind ?_
    refine X_ic_ge (n := 8) (tgt := 65) (kX12_open 4 rfl) rfl rfl (fun h1 => ?_) (fun h1 => ?_)
    · exact X_L [] rfl (kE S)
    · refine X_aload_n (n := 9) 1 (kX12_open 5 rfl) rfl rfl rfl ?_
      refine X_getR (n := 12) xf_X12 hk0 (by decide) fl_X12_42 rfl (kX12_open 6 rfl) rfl ?_
      refine X_bipush (n := 14) (v := 6) (kX12_open 7 rfl) rfl (by decide) ?_
      refine X_iload_n (n := 15) 3 (kX12_open 8 rfl) rfl rfl rfl ?_
      refine X_imul (n := 16) (kX12_open 9 rfl) rfl ?_
      refine X_iload_n (n := 17) 0 (kX12_open 10 rfl) rfl rfl rfl ?_
      refine X_iadd (n := 18) (kX12_open 11 rfl) rfl ?_
      refine X_itebind ?_
      refine X_iald (n := 19) (kt_12_24 hk0) (kX12_open 12 rfl) rfl (fun h9 => ?_)
      refine X_iconst (n := 20) (v := 2) (kX12_open 13 rfl) rfl (by decide) ?_
      refine X_idiv' (n := 21) (kX12_open 14 rfl) rfl (by decide) ?_
      refine X_istore (n := 23) (L1 := [(4, .int ((S.1 (rf a0 24) (((6 : Int32) * i2) + i3).toNatClampNeg) / (2 : Int32))), (3, .int i3), (0, .ref a0), (1, .int i1), (2, .int i2)]) (kX12_open 15 rfl) rfl (Nat.le_of_ble_eq_true rfl) rfl ?_
      refine X_aload_n (n := 24) 2 (kX12_open 16 rfl) rfl rfl rfl ?_
      refine X_getR (n := 27) xf_X12 hk0 (by decide) fl_X12_42 rfl (kX12_open 17 rfl) rfl ?_
      refine X_bipush (n := 29) (v := 6) (kX12_open 18 rfl) rfl (by decide) ?_
      refine X_iload_n (n := 30) 4 (kX12_open 19 rfl) rfl rfl rfl ?_
      refine X_imul (n := 31) (kX12_open 20 rfl) rfl ?_
      refine X_bipush (n := 33) (v := 6) (kX12_open 21 rfl) rfl (by decide) ?_
      refine X_iadd (n := 34) (kX12_open 22 rfl) rfl ?_
      refine X_iload_n (n := 35) 1 (kX12_open 23 rfl) rfl rfl rfl ?_
      refine X_iadd (n := 36) (kX12_open 24 rfl) rfl ?_
      refine X_iload (n := 38) 0 (kX12_open 25 rfl) rfl rfl ?_
      refine X_aload_n (n := 39) 2 (kX12_open 26 rfl) rfl rfl rfl ?_
      refine X_iload_n (n := 40) 3 (kX12_open 27 rfl) rfl rfl rfl ?_
      refine X_iload_n (n := 41) 1 (kX12_open 28 rfl) rfl rfl rfl ?_
      refine X_assoc ?_
      refine X_callVI (n := 44) (As := [.int i1, .int i3]) (st := [.int ((S.1 (rf a0 24) (((6 : Int32) * i2) + i3).toNatClampNeg) / (2 : Int32)), .int ((((6 : Int32) * i2) + (6 : Int32)) + i3), .ref (rf a0 24)]) (kX12_open 29 rfl) rfl (w_X12_onCloth hk0) (by decide) ml_X12_281 mf_X12_onCloth rfl hk0 xf_X12 rfl (Nat.le_of_ble_eq_true rfl) (fun r2 S3 hq => ?_)
      try dsimp only
      refine X_itebind ?_
      refine X_ic_le (n := 47) (tgt := 52) (kX12_open 30 rfl) rfl rfl (fun h4 => ?_) (fun h4 => ?_)
      · refine X_aload_n (n := 53) 2 (kX12_open 33 rfl) rfl rfl rfl ?_
        refine X_iload_n (n := 54) 3 (kX12_open 34 rfl) rfl rfl rfl ?_
        refine X_iload_n (n := 55) 1 (kX12_open 35 rfl) rfl rfl rfl ?_
        refine X_assoc ?_
        refine X_callVI (n := 58) (As := [.int i1, .int i3]) (st := [.int ((((6 : Int32) * i2) + (6 : Int32)) + i3), .ref (rf a0 24)]) (kX12_open 36 rfl) rfl (w_X12_onCloth hk0) (by decide) ml_X12_281 mf_X12_onCloth rfl hk0 xf_X12 rfl (Nat.le_of_ble_eq_true rfl) (fun r5 S6 hq => ?_)
        try dsimp only
        refine X_itebind ?_
        refine X_iast (n := 59) (kt_12_24 hk0) (kX12_open 37 rfl) rfl (fun h7 => ?_)
        refine X_iinc (n := 62) 1 (v := (i3 + 1)) (L1 := [(3, .int (i3 + 1)), (4, .int ((S.1 (rf a0 24) (((6 : Int32) * i2) + i3).toNatClampNeg) / (2 : Int32))), (0, .ref a0), (1, .int i1), (2, .int i2)]) (kX12_open 38 rfl) rfl rfl rfl (Nat.le_of_ble_eq_true rfl) rfl ?_
        refine X_goto (tgt := 2) (kX12_open 39 rfl) rfl ?_
        exact X_L [0, 2, 3, 4] rfl (ih (i3 + 1) (sI S6 (rf a0 24) (((((6 : Int32) * i2) + (6 : Int32)) + i3).toNatClampNeg) r5))
      · refine X_iload (n := 49) 0 (kX12_open 31 rfl) rfl rfl ?_
        refine X_goto (tgt := 58) (kX12_open 32 rfl) rfl ?_
        refine X_itebind ?_
        refine X_iast (n := 59) (kt_12_24 hk0) (kX12_open 37 rfl) rfl (fun h8 => ?_)
        refine X_iinc (n := 62) 1 (v := (i3 + 1)) (L1 := [(3, .int (i3 + 1)), (4, .int ((S.1 (rf a0 24) (((6 : Int32) * i2) + i3).toNatClampNeg) / (2 : Int32))), (0, .ref a0), (1, .int i1), (2, .int i2)]) (kX12_open 38 rfl) rfl rfl rfl (Nat.le_of_ble_eq_true rfl) rfl ?_
        refine X_goto (tgt := 2) (kX12_open 39 rfl) rfl ?_
        exact X_L [0, 2, 3, 4] rfl (ih (i3 + 1) (sI S3 (rf a0 24) (((((6 : Int32) * i2) + (6 : Int32)) + i3).toNatClampNeg) ((S.1 (rf a0 24) (((6 : Int32) * i2) + i3).toNatClampNeg) / (2 : Int32))))
set_option maxHeartbeats 4000000 in
set_option maxRecDepth 100000 in
theorem w_X12_open {l : Launch} {g : XG}  {a0 : Nat} {i1 : Int32} {i2 : Int32} {S : XS} (hk0 : kd a0 = 12) : Cl φV l g 2 mX12_open [.ref a0, .int i1, .int i2] S (f_X12_open a0 i1 i2 S) := by
  refine Cl.of (by decide +kernel) (Nat.le_of_ble_eq_true rfl) ?_
  unfold f_X12_open
  show X _ _ _ _ _ 0 [(0, .ref a0), (1, .int i1), (2, .int i2)] [] S _
  refine X_iconst (n := 1) (v := 0) (kX12_open 0 rfl) rfl (by decide) ?_
  refine X_istore_n (n := 2) (L1 := [(3, .int 0), (0, .ref a0), (1, .int i1), (2, .int i2)]) (kX12_open 1 rfl) rfl rfl (Nat.le_of_ble_eq_true rfl) rfl ?_
  refine X_L [0, 1, 2, 3] rfl (w_X12_open_L2 hk0 (fun S10 => ?_) 1000000 (0 : Int32) S)
  try dsimp only
  exact X_vret rfl (kX12_open 40 rfl)
def f_X12_remains  (a0 : Nat) (i1 : Int32) (S : XS) : Option (Int32 × XS) := (if ((sI S a0 0 (0 : Int32)).1 a0 33) = 0 then some ((-1 : Int32), (sI S a0 0 (0 : Int32))) else (if (t_X12_isScent a0 i1 (sI S a0 0 (0 : Int32))) = true then (if i1 < 0 ∨ ln (rf a0 32) ≤ i1.toNatClampNeg then none else some (((sI S a0 0 (0 : Int32)).1 (rf a0 32) i1.toNatClampNeg), (sI S a0 0 (0 : Int32)))) else some ((-1 : Int32), (sI S a0 0 (0 : Int32)))))
set_option maxHeartbeats 4000000 in
set_option maxRecDepth 100000 in
theorem w_X12_remains {l : Launch} {g : XG}  {a0 : Nat} {i1 : Int32} {S : XS} (hk0 : kd a0 = 12) : Cl φI l g 2 mX12_remains [.ref a0, .int i1] S (f_X12_remains a0 i1 S) := by
  refine Cl.of (by decide +kernel) (Nat.le_of_ble_eq_true rfl) ?_
  unfold f_X12_remains
  show X _ _ _ _ _ 0 [(0, .ref a0), (1, .int i1)] [] S _
  refine X_aload_n (n := 1) 0 (kX12_remains 0 rfl) rfl rfl rfl ?_
  refine X_iconst (n := 2) (v := 0) (kX12_remains 1 rfl) rfl (by decide) ?_
  refine X_putI (n := 5) xf_X12 hk0 (by decide) fl_X12_100 rfl rfl (Or.inl rfl) (kX12_remains 2 rfl) rfl ?_
  refine X_aload_n (n := 6) 0 (kX12_remains 3 rfl) rfl rfl rfl ?_
  refine X_getI (n := 9) xf_X12 hk0 (by decide) fl_X12_339 rfl (kX12_remains 4 rfl) rfl ?_
  refine X_if_eq (n := 12) (tgt := 29) (kX12_remains 5 rfl) rfl rfl (fun h1 => ?_) (fun h1 => ?_)
  · refine X_iconst (n := 30) (v := (-1)) (kX12_remains 15 rfl) rfl (by decide) ?_
    exact X_iret rfl (kX12_remains 16 rfl)
  · refine X_aload_n (n := 13) 0 (kX12_remains 6 rfl) rfl rfl rfl ?_
    refine X_iload_n (n := 14) 1 (kX12_remains 7 rfl) rfl rfl rfl ?_
    refine X_callV1B (n := 17) (As := [.int i1]) (st := []) (kX12_remains 8 rfl) rfl (p_X12_isScent hk0) (by decide) ml_X12_253 mf_X12_isScent rfl hk0 xf_X12 rfl (Nat.le_of_ble_eq_true rfl) ?_
    refine X_bz (n := 20) (tgt := 29) (kX12_remains 9 rfl) rfl rfl (fun h2 => ?_) (fun h2 => ?_)
    · refine X_aload_n (n := 21) 0 (kX12_remains 10 rfl) rfl rfl rfl ?_
      refine X_getR (n := 24) xf_X12 hk0 (by decide) fl_X12_60 rfl (kX12_remains 11 rfl) rfl ?_
      refine X_iload_n (n := 25) 1 (kX12_remains 12 rfl) rfl rfl rfl ?_
      refine X_iald (n := 26) (kt_12_32 hk0) (kX12_remains 13 rfl) rfl (fun h3 => ?_)
      refine X_goto (tgt := 30) (kX12_remains 14 rfl) rfl ?_
      exact X_iret rfl (kX12_remains 16 rfl)
    · refine X_iconst (n := 30) (v := (-1)) (kX12_remains 15 rfl) rfl (by decide) ?_
      exact X_iret rfl (kX12_remains 16 rfl)
def f_X12_wearThrough_L2  (a0 : Nat) (i1 : Int32) (i2 : Int32) : Nat → Int32 → XS → Option (XS)
  | 0, _, _ => none
  | n + 1, i3, S => (if (6 : Int32) ≤ i3 then some S else (if i3 < 0 ∨ ln (rf a0 37) ≤ i3.toNatClampNeg then none else f_X12_wearThrough_L2 a0 i1 i2 n (i3 + 1) (sI S (rf a0 37) i3.toNatClampNeg (0 : Int32))))
def f_X12_wearThrough_L31  (i3 : Int32) (a0 : Nat) (i1 : Int32) (i2 : Int32) : Nat → Int32 → XS → Option (XS)
  | 0, _, _ => none
  | n + 1, i4, S => (if (S.1 (rf a0 14) 0) ≤ i4 then some S else (if i4 < 0 ∨ ln (rf a0 37) ≤ i4.toNatClampNeg then none else (if ((66 : Int32) + i1) < 0 ∨ ln (rf a0 14) ≤ ((66 : Int32) + i1).toNatClampNeg then none else (if (S.1 (rf a0 14) ((66 : Int32) + i1).toNatClampNeg) = 0 then none else ((if (rem32 i3 (S.1 (rf a0 14) ((66 : Int32) + i1).toNatClampNeg)) = 0 then (if ((6 : Int32) + i4) < 0 ∨ ln (rf a0 14) ≤ ((6 : Int32) + i4).toNatClampNeg then none else some (S.1 (rf a0 14) ((6 : Int32) + i4).toNatClampNeg)) else some (0 : Int32)).bind (fun x6 => (if (i3 - (1 : Int32)) < 0 ∨ ln (rf a0 38) ≤ (i3 - (1 : Int32)).toNatClampNeg then none else ((f_X12_airOf a0 (S.1 (rf a0 38) (i3 - (1 : Int32)).toNatClampNeg) i4 S).bind (fun q => match q with | (r7, S8) => (if i4 < 0 ∨ ln (rf a0 37) ≤ i4.toNatClampNeg then none else f_X12_wearThrough_L31 i3 a0 i1 i2 n (i4 + 1) (sI S8 (rf a0 37) i4.toNatClampNeg (t_X12_least (99 : Int32) ((t_X12_less (S.1 (rf a0 37) i4.toNatClampNeg) x6) + r7)))))))))))))
def f_X12_wearThrough_L23  (a0 : Nat) (i1 : Int32) (i2 : Int32) : Nat → Int32 → XS → Option (XS)
  | 0, _, _ => none
  | n + 1, i3, S => (if i2 < i3 then some S else ((f_X12_wearThrough_L31 i3 a0 i1 i2 1000000 (0 : Int32) S).bind (fun S16 => f_X12_wearThrough_L23 a0 i1 i2 n (i3 + 1) S16)))
def f_X12_wearThrough  (a0 : Nat) (i1 : Int32) (i2 : Int32) (S : XS) : Option (XS) := ((f_X12_wearThrough_L2 a0 i1 i2 1000000 (0 : Int32) S).bind (fun S3 => ((f_X12_wearThrough_L23 a0 i1 i2 1000000 (1 : Int32) S3).bind (fun S17 => some S17))))
set_option maxHeartbeats 4000000 in
set_option maxRecDepth 100000 in
theorem w_X12_wearThrough_L2 {l : Launch} {g : XG} {G : (XS) → Option (XS)}  {a0 : Nat} {i1 : Int32} {i2 : Int32} (hk0 : kd a0 = 12) (kE : ∀ (S1 : XS), X φV l g 2 mX12_wearThrough 21 [(0, .ref a0), (1, .int i1), (2, .int i2)] [] S1 (G S1)) : ∀ (n : Nat) (i3 : Int32) (S : XS), X φV l g 2 mX12_wearThrough 2 [(3, .int i3), (0, .ref a0), (1, .int i1), (2, .int i2)] [] S ((f_X12_wearThrough_L2 a0 i1 i2 n i3 S).bind G) := by
  intro n
  induction n with
  | zero => intro i3 S; exact X_none
  | succ n ih =>
  · intro i3 S
    rw [f_X12_wearThrough_L2]
    refine X_iload_n (n := 3) 0 (kX12_wearThrough 2 rfl) rfl rfl rfl ?_
    refine X_bipush (n := 5) (v := 6) (kX12_wearThrough 3 rfl) rfl (by decide) ?_
    refine X_itebind ?_
    refine X_ic_ge (n := 8) (tgt := 21) (kX12_wearThrough 4 rfl) rfl rfl (fun h1 => ?_) (fun h1 => ?_)
    · exact X_L [1, 2, 3] rfl (kE S)
    · refine X_aload_n (n := 9) 1 (kX12_wearThrough 5 rfl) rfl rfl rfl ?_
      refine X_getR (n := 12) xf_X12 hk0 (by decide) fl_X12_72 rfl (kX12_wearThrough 6 rfl) rfl ?_
      refine X_iload_n (n := 13) 0 (kX12_wearThrough 7 rfl) rfl rfl rfl ?_
      refine X_iconst (n := 14) (v := 0) (kX12_wearThrough 8 rfl) rfl (by decide) ?_
      refine X_itebind ?_
      refine X_iast (n := 15) (kt_12_37 hk0) (kX12_wearThrough 9 rfl) rfl (fun h2 => ?_)
      refine X_iinc (n := 18) 0 (v := (i3 + 1)) (L1 := [(3, .int (i3 + 1)), (0, .ref a0), (1, .int i1), (2, .int i2)]) (kX12_wearThrough 10 rfl) rfl rfl rfl (Nat.le_of_ble_eq_true rfl) rfl ?_
      refine X_goto (tgt := 2) (kX12_wearThrough 11 rfl) rfl ?_
      exact X_L [0, 1, 2, 3] rfl (ih (i3 + 1) (sI S (rf a0 37) i3.toNatClampNeg (0 : Int32)))
set_option maxHeartbeats 4000000 in
set_option maxRecDepth 100000 in
theorem w_X12_wearThrough_L31 {l : Launch} {g : XG} {G : (XS) → Option (XS)}  {i3 : Int32} {a0 : Nat} {i1 : Int32} {i2 : Int32} (hk0 : kd a0 = 12) (kE : ∀ (S1 : XS), X φV l g 2 mX12_wearThrough 113 [(3, .int i3), (0, .ref a0), (1, .int i1), (2, .int i2)] [] S1 (G S1)) : ∀ (n : Nat) (i4 : Int32) (S : XS), X φV l g 2 mX12_wearThrough 31 [(4, .int i4), (3, .int i3), (0, .ref a0), (1, .int i1), (2, .int i2)] [] S ((f_X12_wearThrough_L31 i3 a0 i1 i2 n i4 S).bind G) := by
  intro n
  induction n with
  | zero => intro i4 S; exact X_none
  | succ n ih =>
  · intro i4 S
    rw [f_X12_wearThrough_L31]
    refine X_iload (n := 33) 0 (kX12_wearThrough 19 rfl) rfl rfl ?_
    refine X_aload_n (n := 34) 2 (kX12_wearThrough 20 rfl) rfl rfl rfl ?_
    refine X_getR (n := 37) xf_X12 hk0 (by decide) fl_X12_13 rfl (kX12_wearThrough 21 rfl) rfl ?_
    refine X_iconst (n := 38) (v := 0) (kX12_wearThrough 22 rfl) rfl (by decide) ?_
    refine X_iald' (n := 39) (kt_12_14 hk0) (kX12_wearThrough 23 rfl) rfl (by rw [lt_12_14 hk0]; decide) ?_
    refine X_itebind ?_
    refine X_ic_ge (n := 42) (tgt := 113) (kX12_wearThrough 24 rfl) rfl rfl (fun h5 => ?_) (fun h5 => ?_)
    · exact X_L [1, 2, 3, 4] rfl (kE S)
    · refine X_aload_n (n := 43) 2 (kX12_wearThrough 25 rfl) rfl rfl rfl ?_
      refine X_getR (n := 46) xf_X12 hk0 (by decide) fl_X12_72 rfl (kX12_wearThrough 26 rfl) rfl ?_
      refine X_iload (n := 48) 0 (kX12_wearThrough 27 rfl) rfl rfl ?_
      refine X_bipush (n := 50) (v := 99) (kX12_wearThrough 28 rfl) rfl (by decide) ?_
      refine X_aload_n (n := 51) 2 (kX12_wearThrough 29 rfl) rfl rfl rfl ?_
      refine X_getR (n := 54) xf_X12 hk0 (by decide) fl_X12_72 rfl (kX12_wearThrough 30 rfl) rfl ?_
      refine X_iload (n := 56) 0 (kX12_wearThrough 31 rfl) rfl rfl ?_
      refine X_itebind ?_
      refine X_iald (n := 57) (kt_12_37 hk0) (kX12_wearThrough 32 rfl) rfl (fun h15 => ?_)
      refine X_iload_n (n := 58) 1 (kX12_wearThrough 33 rfl) rfl rfl rfl ?_
      refine X_aload_n (n := 59) 2 (kX12_wearThrough 34 rfl) rfl rfl rfl ?_
      refine X_getR (n := 62) xf_X12 hk0 (by decide) fl_X12_13 rfl (kX12_wearThrough 35 rfl) rfl ?_
      refine X_bipush (n := 64) (v := 66) (kX12_wearThrough 36 rfl) rfl (by decide) ?_
      refine X_iload_n (n := 65) 3 (kX12_wearThrough 37 rfl) rfl rfl rfl ?_
      refine X_iadd (n := 66) (kX12_wearThrough 38 rfl) rfl ?_
      refine X_itebind ?_
      refine X_iald (n := 67) (kt_12_14 hk0) (kX12_wearThrough 39 rfl) rfl (fun h14 => ?_)
      refine X_itebind ?_
      refine X_irem (n := 68) (kX12_wearThrough 40 rfl) rfl (fun h13 => ?_)
      refine X_assoc ?_
      refine X_join 85 (fun x6 => [(4, .int i4), (3, .int i3), (0, .ref a0), (1, .int i1), (2, .int i2)]) (fun x6 => [.int x6, .int (S.1 (rf a0 37) i4.toNatClampNeg), .int 99, .int i4, .ref (rf a0 37)]) (fun x6 => S) (fun x6 => ?_) (fun kJ => ?_)
      · try dsimp only
        refine X_callS1I (n := 88) (As := [.int (S.1 (rf a0 37) i4.toNatClampNeg), .int x6]) (st := [.int 99, .int i4, .ref (rf a0 37)]) (kX12_wearThrough 50 rfl) rfl p_X12_less (by decide) ml_X12_290 mf_X12_less rfl rfl (Nat.le_of_ble_eq_true rfl) ?_
        refine X_aload_n (n := 89) 2 (kX12_wearThrough 51 rfl) rfl rfl rfl ?_
        refine X_aload_n (n := 90) 2 (kX12_wearThrough 52 rfl) rfl rfl rfl ?_
        refine X_getR (n := 93) xf_X12 hk0 (by decide) fl_X12_75 rfl (kX12_wearThrough 53 rfl) rfl ?_
        refine X_iload_n (n := 94) 1 (kX12_wearThrough 54 rfl) rfl rfl rfl ?_
        refine X_iconst (n := 95) (v := 1) (kX12_wearThrough 55 rfl) rfl (by decide) ?_
        refine X_isub (n := 96) (kX12_wearThrough 56 rfl) rfl ?_
        refine X_itebind ?_
        refine X_iald (n := 97) (kt_12_38 hk0) (kX12_wearThrough 57 rfl) rfl (fun h10 => ?_)
        refine X_iload (n := 99) 0 (kX12_wearThrough 58 rfl) rfl rfl ?_
        refine X_assoc ?_
        refine X_callVI (n := 102) (As := [.int (S.1 (rf a0 38) (i3 - (1 : Int32)).toNatClampNeg), .int i4]) (st := [.int (t_X12_less (S.1 (rf a0 37) i4.toNatClampNeg) x6), .int 99, .int i4, .ref (rf a0 37)]) (kX12_wearThrough 59 rfl) rfl (w_X12_airOf hk0) (by decide) ml_X12_259 mf_X12_airOf rfl hk0 xf_X12 rfl (Nat.le_of_ble_eq_true rfl) (fun r7 S8 hq => ?_)
        try dsimp only
        refine X_iadd (n := 103) (kX12_wearThrough 60 rfl) rfl ?_
        refine X_callS1I (n := 106) (As := [.int (99 : Int32), .int ((t_X12_less (S.1 (rf a0 37) i4.toNatClampNeg) x6) + r7)]) (st := [.int i4, .ref (rf a0 37)]) (kX12_wearThrough 61 rfl) rfl p_X12_least (by decide) ml_X12_300 mf_X12_least rfl rfl (Nat.le_of_ble_eq_true rfl) ?_
        refine X_itebind ?_
        refine X_iast (n := 107) (kt_12_37 hk0) (kX12_wearThrough 62 rfl) rfl (fun h9 => ?_)
        refine X_iinc (n := 110) 0 (v := (i4 + 1)) (L1 := [(4, .int (i4 + 1)), (3, .int i3), (0, .ref a0), (1, .int i1), (2, .int i2)]) (kX12_wearThrough 63 rfl) rfl rfl rfl (Nat.le_of_ble_eq_true rfl) rfl ?_
        refine X_goto (tgt := 31) (kX12_wearThrough 64 rfl) rfl ?_
        exact X_L [0, 1, 2, 3, 4] rfl (ih (i4 + 1) (sI S8 (rf a0 37) i4.toNatClampNeg (t_X12_least (99 : Int32) ((t_X12_less (S.1 (rf a0 37) i4.toNatClampNeg) x6) + r7))))
      · refine X_itebind ?_
        refine X_if_ne (n := 71) (tgt := 84) (kX12_wearThrough 41 rfl) rfl rfl (fun h11 => ?_) (fun h11 => ?_)
        · refine X_aload_n (n := 72) 2 (kX12_wearThrough 42 rfl) rfl rfl rfl ?_
          refine X_getR (n := 75) xf_X12 hk0 (by decide) fl_X12_13 rfl (kX12_wearThrough 43 rfl) rfl ?_
          refine X_bipush (n := 77) (v := 6) (kX12_wearThrough 44 rfl) rfl (by decide) ?_
          refine X_iload (n := 79) 0 (kX12_wearThrough 45 rfl) rfl rfl ?_
          refine X_iadd (n := 80) (kX12_wearThrough 46 rfl) rfl ?_
          refine X_itebind ?_
          refine X_iald (n := 81) (kt_12_14 hk0) (kX12_wearThrough 47 rfl) rfl (fun h12 => ?_)
          refine X_goto (tgt := 85) (kX12_wearThrough 48 rfl) rfl ?_
          exact X_L [0, 1, 2, 3, 4] rfl (kJ (S.1 (rf a0 14) ((6 : Int32) + i4).toNatClampNeg))
        · refine X_iconst (n := 85) (v := 0) (kX12_wearThrough 49 rfl) rfl (by decide) ?_
          exact X_L [0, 1, 2, 3, 4] rfl (kJ (0 : Int32))
set_option maxHeartbeats 4000000 in
set_option maxRecDepth 100000 in
theorem w_X12_wearThrough_L23 {l : Launch} {g : XG} {G : (XS) → Option (XS)}  {a0 : Nat} {i1 : Int32} {i2 : Int32} (hk0 : kd a0 = 12) (kE : ∀ (S1 : XS), X φV l g 2 mX12_wearThrough 119 [] [] S1 (G S1)) : ∀ (n : Nat) (i3 : Int32) (S : XS), X φV l g 2 mX12_wearThrough 23 [(3, .int i3), (0, .ref a0), (1, .int i1), (2, .int i2)] [] S ((f_X12_wearThrough_L23 a0 i1 i2 n i3 S).bind G) := by
  intro n
  induction n with
  | zero => intro i3 S; exact X_none
  | succ n ih =>
  · intro i3 S
    rw [f_X12_wearThrough_L23]
    refine X_iload_n (n := 24) 0 (kX12_wearThrough 14 rfl) rfl rfl rfl ?_
    refine X_iload_n (n := 25) 3 (kX12_wearThrough 15 rfl) rfl rfl rfl ?_
    refine X_itebind ?_
    refine X_ic_gt (n := 28) (tgt := 119) (kX12_wearThrough 16 rfl) rfl rfl (fun h4 => ?_) (fun h4 => ?_)
    · exact X_L [] rfl (kE S)
    · refine X_iconst (n := 29) (v := 0) (kX12_wearThrough 17 rfl) rfl (by decide) ?_
      refine X_istore (n := 31) (L1 := [(4, .int 0), (3, .int i3), (0, .ref a0), (1, .int i1), (2, .int i2)]) (kX12_wearThrough 18 rfl) rfl (Nat.le_of_ble_eq_true rfl) rfl ?_
      refine X_assoc ?_
      refine X_L [0, 1, 2, 3, 4] rfl (w_X12_wearThrough_L31 hk0 (fun S16 => ?_) 1000000 (0 : Int32) S)
      try dsimp only
      refine X_iinc (n := 116) 0 (v := (i3 + 1)) (L1 := [(3, .int (i3 + 1)), (0, .ref a0), (1, .int i1), (2, .int i2)]) (kX12_wearThrough 65 rfl) rfl rfl rfl (Nat.le_of_ble_eq_true rfl) rfl ?_
      refine X_goto (tgt := 23) (kX12_wearThrough 66 rfl) rfl ?_
      exact X_L [0, 1, 2, 3] rfl (ih (i3 + 1) S16)
set_option maxHeartbeats 4000000 in
set_option maxRecDepth 100000 in
theorem w_X12_wearThrough {l : Launch} {g : XG}  {a0 : Nat} {i1 : Int32} {i2 : Int32} {S : XS} (hk0 : kd a0 = 12) : Cl φV l g 2 mX12_wearThrough [.ref a0, .int i1, .int i2] S (f_X12_wearThrough a0 i1 i2 S) := by
  refine Cl.of (by decide +kernel) (Nat.le_of_ble_eq_true rfl) ?_
  unfold f_X12_wearThrough
  show X _ _ _ _ _ 0 [(0, .ref a0), (1, .int i1), (2, .int i2)] [] S _
  refine X_iconst (n := 1) (v := 0) (kX12_wearThrough 0 rfl) rfl (by decide) ?_
  refine X_istore_n (n := 2) (L1 := [(3, .int 0), (0, .ref a0), (1, .int i1), (2, .int i2)]) (kX12_wearThrough 1 rfl) rfl rfl (Nat.le_of_ble_eq_true rfl) rfl ?_
  refine X_L [0, 1, 2, 3] rfl (w_X12_wearThrough_L2 hk0 (fun S3 => ?_) 1000000 (0 : Int32) S)
  try dsimp only
  refine X_iconst (n := 22) (v := 1) (kX12_wearThrough 12 rfl) rfl (by decide) ?_
  refine X_istore_n (n := 23) (L1 := [(3, .int 1), (0, .ref a0), (1, .int i1), (2, .int i2)]) (kX12_wearThrough 13 rfl) rfl rfl (Nat.le_of_ble_eq_true rfl) rfl ?_
  refine X_L [0, 1, 2, 3] rfl (w_X12_wearThrough_L23 hk0 (fun S17 => ?_) 1000000 (1 : Int32) S3)
  try dsimp only
  exact X_vret rfl (kX12_wearThrough 67 rfl)
def f_X12_rows  (a0 : Nat) (i1 : Int32) (i2 : Int32) (S : XS) : Option (Int32 × XS) := (if ((sI S a0 0 (0 : Int32)).1 a0 39) = (-1 : Int32) then some ((-1 : Int32), (sI S a0 0 (0 : Int32))) else (if (t_X12_isIn i1 (1 : Int32) ((sI S a0 0 (0 : Int32)).1 a0 39)) = true then (if (t_X12_isIn i2 (0 : Int32) (((sI S a0 0 (0 : Int32)).1 a0 40) - (1 : Int32))) = true then (if (((6 : Int32) * (i1 - (1 : Int32))) + i2) < 0 ∨ ln (rf a0 35) ≤ (((6 : Int32) * (i1 - (1 : Int32))) + i2).toNatClampNeg then none else some (((sI S a0 0 (0 : Int32)).1 (rf a0 35) (((6 : Int32) * (i1 - (1 : Int32))) + i2).toNatClampNeg), (sI S a0 0 (0 : Int32)))) else some ((-1 : Int32), (sI S a0 0 (0 : Int32)))) else some ((-1 : Int32), (sI S a0 0 (0 : Int32)))))
set_option maxHeartbeats 4000000 in
set_option maxRecDepth 100000 in
theorem w_X12_rows {l : Launch} {g : XG}  {a0 : Nat} {i1 : Int32} {i2 : Int32} {S : XS} (hk0 : kd a0 = 12) : Cl φI l g 2 mX12_rows [.ref a0, .int i1, .int i2] S (f_X12_rows a0 i1 i2 S) := by
  refine Cl.of (by decide +kernel) (Nat.le_of_ble_eq_true rfl) ?_
  unfold f_X12_rows
  show X _ _ _ _ _ 0 [(0, .ref a0), (1, .int i1), (2, .int i2)] [] S _
  refine X_aload_n (n := 1) 0 (kX12_rows 0 rfl) rfl rfl rfl ?_
  refine X_iconst (n := 2) (v := 0) (kX12_rows 1 rfl) rfl (by decide) ?_
  refine X_putI (n := 5) xf_X12 hk0 (by decide) fl_X12_100 rfl rfl (Or.inl rfl) (kX12_rows 2 rfl) rfl ?_
  refine X_aload_n (n := 6) 0 (kX12_rows 3 rfl) rfl rfl rfl ?_
  refine X_getI (n := 9) xf_X12 hk0 (by decide) fl_X12_78 rfl (kX12_rows 4 rfl) rfl ?_
  refine X_iconst (n := 10) (v := (-1)) (kX12_rows 5 rfl) rfl (by decide) ?_
  refine X_ic_eq (n := 13) (tgt := 55) (kX12_rows 6 rfl) rfl rfl (fun h1 => ?_) (fun h1 => ?_)
  · refine X_iconst (n := 56) (v := (-1)) (kX12_rows 32 rfl) rfl (by decide) ?_
    exact X_iret rfl (kX12_rows 33 rfl)
  · refine X_iload_n (n := 14) 1 (kX12_rows 7 rfl) rfl rfl rfl ?_
    refine X_iconst (n := 15) (v := 1) (kX12_rows 8 rfl) rfl (by decide) ?_
    refine X_aload_n (n := 16) 0 (kX12_rows 9 rfl) rfl rfl rfl ?_
    refine X_getI (n := 19) xf_X12 hk0 (by decide) fl_X12_78 rfl (kX12_rows 10 rfl) rfl ?_
    refine X_callS1B (n := 22) (As := [.int i1, .int (1 : Int32), .int ((sI S a0 0 (0 : Int32)).1 a0 39)]) (st := []) (kX12_rows 11 rfl) rfl p_X12_isIn (by decide) ml_X12_169 mf_X12_isIn rfl rfl (Nat.le_of_ble_eq_true rfl) ?_
    refine X_bz (n := 25) (tgt := 55) (kX12_rows 12 rfl) rfl rfl (fun h2 => ?_) (fun h2 => ?_)
    · refine X_iload_n (n := 26) 2 (kX12_rows 13 rfl) rfl rfl rfl ?_
      refine X_iconst (n := 27) (v := 0) (kX12_rows 14 rfl) rfl (by decide) ?_
      refine X_aload_n (n := 28) 0 (kX12_rows 15 rfl) rfl rfl rfl ?_
      refine X_getI (n := 31) xf_X12 hk0 (by decide) fl_X12_342 rfl (kX12_rows 16 rfl) rfl ?_
      refine X_iconst (n := 32) (v := 1) (kX12_rows 17 rfl) rfl (by decide) ?_
      refine X_isub (n := 33) (kX12_rows 18 rfl) rfl ?_
      refine X_callS1B (n := 36) (As := [.int i2, .int (0 : Int32), .int (((sI S a0 0 (0 : Int32)).1 a0 40) - (1 : Int32))]) (st := []) (kX12_rows 19 rfl) rfl p_X12_isIn (by decide) ml_X12_169 mf_X12_isIn rfl rfl (Nat.le_of_ble_eq_true rfl) ?_
      refine X_bz (n := 39) (tgt := 55) (kX12_rows 20 rfl) rfl rfl (fun h3 => ?_) (fun h3 => ?_)
      · refine X_aload_n (n := 40) 0 (kX12_rows 21 rfl) rfl rfl rfl ?_
        refine X_getR (n := 43) xf_X12 hk0 (by decide) fl_X12_66 rfl (kX12_rows 22 rfl) rfl ?_
        refine X_bipush (n := 45) (v := 6) (kX12_rows 23 rfl) rfl (by decide) ?_
        refine X_iload_n (n := 46) 1 (kX12_rows 24 rfl) rfl rfl rfl ?_
        refine X_iconst (n := 47) (v := 1) (kX12_rows 25 rfl) rfl (by decide) ?_
        refine X_isub (n := 48) (kX12_rows 26 rfl) rfl ?_
        refine X_imul (n := 49) (kX12_rows 27 rfl) rfl ?_
        refine X_iload_n (n := 50) 2 (kX12_rows 28 rfl) rfl rfl rfl ?_
        refine X_iadd (n := 51) (kX12_rows 29 rfl) rfl ?_
        refine X_iald (n := 52) (kt_12_35 hk0) (kX12_rows 30 rfl) rfl (fun h4 => ?_)
        refine X_goto (tgt := 56) (kX12_rows 31 rfl) rfl ?_
        exact X_iret rfl (kX12_rows 33 rfl)
      · refine X_iconst (n := 56) (v := (-1)) (kX12_rows 32 rfl) rfl (by decide) ?_
        exact X_iret rfl (kX12_rows 33 rfl)
    · refine X_iconst (n := 56) (v := (-1)) (kX12_rows 32 rfl) rfl (by decide) ?_
      exact X_iret rfl (kX12_rows 33 rfl)
