def f_X12_readCompare  (a0 : Nat) (i1 : Int32) (S : XS) : Option (Bool × XS) := (if (t_X12_isSign a0 (60 : Int32) S) = true then ((f_X12_go a0 S).bind (fun S2 => ((f_X12_readNumber a0 (0 : Int32) (999 : Int32) S2).bind (fun q => match q with | (r3, S4) => (if r3 = true then ((f_X12_saysOne a0 ((50 : Int32) + i1) (0 : Int32) (S4.1 a0 13) (S.1 a0 9) S4).bind (fun q => match q with | (r6, S7) => some (true, (sI S7 a0 59 r6)))) else some (false, S4)))))) else (if (t_X12_isSign a0 (61 : Int32) S) = true then ((f_X12_go a0 S).bind (fun S9 => ((f_X12_readNumber a0 (0 : Int32) (999 : Int32) S9).bind (fun q => match q with | (r10, S11) => (if r10 = true then ((f_X12_saysOne a0 ((50 : Int32) + i1) (0 : Int32) (S11.1 a0 13) (S.1 a0 9) S11).bind (fun q => match q with | (r13, S14) => some (true, (sI S14 a0 59 r13)))) else some (false, S11)))))) else (if (t_X12_isSign a0 (62 : Int32) S) = true then ((f_X12_go a0 S).bind (fun S16 => ((f_X12_readNumber a0 (0 : Int32) (999 : Int32) S16).bind (fun q => match q with | (r17, S18) => (if r17 = true then ((f_X12_saysOne a0 ((50 : Int32) + i1) (0 : Int32) (S18.1 a0 13) (S.1 a0 9) S18).bind (fun q => match q with | (r20, S21) => some (true, (sI S21 a0 59 r20)))) else some (false, S18)))))) else ((f_X12_bad a0 (1 : Int32) S).bind (fun q => match q with | (r22, S23) => some (r22, S23))))))
set_option maxHeartbeats 4000000 in
set_option maxRecDepth 100000 in
theorem w_X12_readCompare {l : Launch} {g : XG}  {a0 : Nat} {i1 : Int32} {S : XS} (hk0 : kd a0 = 12) : Cl φB l g 4 mX12_readCompare [.ref a0, .int i1] S (f_X12_readCompare a0 i1 S) := by
  refine Cl.of (by decide +kernel) (Nat.le_of_ble_eq_true rfl) ?_
  unfold f_X12_readCompare
  show X _ _ _ _ _ 0 [(0, .ref a0), (1, .int i1)] [] S _
  refine X_aload_n (n := 1) 0 (kX12_readCompare 0 rfl) rfl rfl rfl ?_
  refine X_bipush (n := 3) (v := 60) (kX12_readCompare 1 rfl) rfl (by decide) ?_
  refine X_callV1B (n := 6) (As := [.int (60 : Int32)]) (st := []) (kX12_readCompare 2 rfl) rfl (p_X12_isSign hk0) (by decide) ml_X12_183 mf_X12_isSign rfl hk0 xf_X12 rfl (Nat.le_of_ble_eq_true rfl) ?_
  refine X_bn (n := 9) (tgt := 33) (kX12_readCompare 3 rfl) rfl rfl (fun h1 => ?_) (fun h1 => ?_)
  · refine X_aload_n (n := 34) 0 (kX12_readCompare 16 rfl) rfl rfl rfl ?_
    refine X_getI (n := 37) xf_X12 hk0 (by decide) fl_X12_132 rfl (kX12_readCompare 17 rfl) rfl ?_
    refine X_istore_n (n := 38) (L1 := [(2, .int (S.1 a0 9)), (0, .ref a0), (1, .int i1)]) (kX12_readCompare 18 rfl) rfl rfl (Nat.le_of_ble_eq_true rfl) rfl ?_
    refine X_aload_n (n := 39) 1 (kX12_readCompare 19 rfl) rfl rfl rfl ?_
    refine X_callVV (n := 42) (As := []) (st := []) (kX12_readCompare 20 rfl) rfl (w_X12_go hk0) (by decide) ml_X12_180 mf_X12_go rfl hk0 xf_X12 rfl (Nat.le_of_ble_eq_true rfl) (fun S2 hq => ?_)
    try dsimp only
    refine X_aload_n (n := 43) 1 (kX12_readCompare 21 rfl) rfl rfl rfl ?_
    refine X_iconst (n := 44) (v := 0) (kX12_readCompare 22 rfl) rfl (by decide) ?_
    refine X_sipush (n := 47) (v := 999) (kX12_readCompare 23 rfl) rfl (by decide) ?_
    refine X_callVB (n := 50) (As := [.int (0 : Int32), .int (999 : Int32)]) (st := []) (kX12_readCompare 24 rfl) rfl (w_X12_readNumber hk0) (by decide) ml_X12_205 mf_X12_readNumber rfl hk0 xf_X12 rfl (Nat.le_of_ble_eq_true rfl) (fun r3 S4 hq => ?_)
    try dsimp only
    refine X_bn (n := 53) (tgt := 55) (kX12_readCompare 25 rfl) rfl rfl (fun h5 => ?_) (fun h5 => ?_)
    · refine X_aload_n (n := 56) 1 (kX12_readCompare 28 rfl) rfl rfl rfl ?_
      refine X_aload_n (n := 57) 1 (kX12_readCompare 29 rfl) rfl rfl rfl ?_
      refine X_bipush (n := 59) (v := 50) (kX12_readCompare 30 rfl) rfl (by decide) ?_
      refine X_iload_n (n := 60) 2 (kX12_readCompare 31 rfl) rfl rfl rfl ?_
      refine X_iadd (n := 61) (kX12_readCompare 32 rfl) rfl ?_
      refine X_iconst (n := 62) (v := 0) (kX12_readCompare 33 rfl) rfl (by decide) ?_
      refine X_aload_n (n := 63) 1 (kX12_readCompare 34 rfl) rfl rfl rfl ?_
      refine X_getI (n := 66) xf_X12 hk0 (by decide) fl_X12_173 rfl (kX12_readCompare 35 rfl) rfl ?_
      refine X_iload_n (n := 67) 0 (kX12_readCompare 36 rfl) rfl rfl rfl ?_
      refine X_callVI (n := 70) (As := [.int ((50 : Int32) + i1), .int (0 : Int32), .int (S4.1 a0 13), .int (S.1 a0 9)]) (st := [.ref a0]) (kX12_readCompare 37 rfl) rfl (w_X12_saysOne hk0) (by decide) ml_X12_417 mf_X12_saysOne rfl hk0 xf_X12 rfl (Nat.le_of_ble_eq_true rfl) (fun r6 S7 hq => ?_)
      try dsimp only
      refine X_putI (n := 73) xf_X12 hk0 (by decide) fl_X12_414 rfl rfl (Or.inl rfl) (kX12_readCompare 38 rfl) rfl ?_
      refine X_iconst (n := 74) (v := 1) (kX12_readCompare 39 rfl) rfl (by decide) ?_
      exact X_zret (b := true) rfl (kX12_readCompare 40 rfl)
    · refine X_iconst (n := 54) (v := 0) (kX12_readCompare 26 rfl) rfl (by decide) ?_
      exact X_zret (b := false) rfl (kX12_readCompare 27 rfl)
  · refine X_aload_n (n := 10) 0 (kX12_readCompare 4 rfl) rfl rfl rfl ?_
    refine X_bipush (n := 12) (v := 61) (kX12_readCompare 5 rfl) rfl (by decide) ?_
    refine X_callV1B (n := 15) (As := [.int (61 : Int32)]) (st := []) (kX12_readCompare 6 rfl) rfl (p_X12_isSign hk0) (by decide) ml_X12_183 mf_X12_isSign rfl hk0 xf_X12 rfl (Nat.le_of_ble_eq_true rfl) ?_
    refine X_bn (n := 18) (tgt := 33) (kX12_readCompare 7 rfl) rfl rfl (fun h8 => ?_) (fun h8 => ?_)
    · refine X_aload_n (n := 34) 0 (kX12_readCompare 16 rfl) rfl rfl rfl ?_
      refine X_getI (n := 37) xf_X12 hk0 (by decide) fl_X12_132 rfl (kX12_readCompare 17 rfl) rfl ?_
      refine X_istore_n (n := 38) (L1 := [(2, .int (S.1 a0 9)), (0, .ref a0), (1, .int i1)]) (kX12_readCompare 18 rfl) rfl rfl (Nat.le_of_ble_eq_true rfl) rfl ?_
      refine X_aload_n (n := 39) 1 (kX12_readCompare 19 rfl) rfl rfl rfl ?_
      refine X_callVV (n := 42) (As := []) (st := []) (kX12_readCompare 20 rfl) rfl (w_X12_go hk0) (by decide) ml_X12_180 mf_X12_go rfl hk0 xf_X12 rfl (Nat.le_of_ble_eq_true rfl) (fun S9 hq => ?_)
      try dsimp only
      refine X_aload_n (n := 43) 1 (kX12_readCompare 21 rfl) rfl rfl rfl ?_
      refine X_iconst (n := 44) (v := 0) (kX12_readCompare 22 rfl) rfl (by decide) ?_
      refine X_sipush (n := 47) (v := 999) (kX12_readCompare 23 rfl) rfl (by decide) ?_
      refine X_callVB (n := 50) (As := [.int (0 : Int32), .int (999 : Int32)]) (st := []) (kX12_readCompare 24 rfl) rfl (w_X12_readNumber hk0) (by decide) ml_X12_205 mf_X12_readNumber rfl hk0 xf_X12 rfl (Nat.le_of_ble_eq_true rfl) (fun r10 S11 hq => ?_)
      try dsimp only
      refine X_bn (n := 53) (tgt := 55) (kX12_readCompare 25 rfl) rfl rfl (fun h12 => ?_) (fun h12 => ?_)
      · refine X_aload_n (n := 56) 1 (kX12_readCompare 28 rfl) rfl rfl rfl ?_
        refine X_aload_n (n := 57) 1 (kX12_readCompare 29 rfl) rfl rfl rfl ?_
        refine X_bipush (n := 59) (v := 50) (kX12_readCompare 30 rfl) rfl (by decide) ?_
        refine X_iload_n (n := 60) 2 (kX12_readCompare 31 rfl) rfl rfl rfl ?_
        refine X_iadd (n := 61) (kX12_readCompare 32 rfl) rfl ?_
        refine X_iconst (n := 62) (v := 0) (kX12_readCompare 33 rfl) rfl (by decide) ?_
        refine X_aload_n (n := 63) 1 (kX12_readCompare 34 rfl) rfl rfl rfl ?_
        refine X_getI (n := 66) xf_X12 hk0 (by decide) fl_X12_173 rfl (kX12_readCompare 35 rfl) rfl ?_
        refine X_iload_n (n := 67) 0 (kX12_readCompare 36 rfl) rfl rfl rfl ?_
        refine X_callVI (n := 70) (As := [.int ((50 : Int32) + i1), .int (0 : Int32), .int (S11.1 a0 13), .int (S.1 a0 9)]) (st := [.ref a0]) (kX12_readCompare 37 rfl) rfl (w_X12_saysOne hk0) (by decide) ml_X12_417 mf_X12_saysOne rfl hk0 xf_X12 rfl (Nat.le_of_ble_eq_true rfl) (fun r13 S14 hq => ?_)
        try dsimp only
        refine X_putI (n := 73) xf_X12 hk0 (by decide) fl_X12_414 rfl rfl (Or.inl rfl) (kX12_readCompare 38 rfl) rfl ?_
        refine X_iconst (n := 74) (v := 1) (kX12_readCompare 39 rfl) rfl (by decide) ?_
        exact X_zret (b := true) rfl (kX12_readCompare 40 rfl)
      · refine X_iconst (n := 54) (v := 0) (kX12_readCompare 26 rfl) rfl (by decide) ?_
        exact X_zret (b := false) rfl (kX12_readCompare 27 rfl)
    · refine X_aload_n (n := 19) 0 (kX12_readCompare 8 rfl) rfl rfl rfl ?_
      refine X_bipush (n := 21) (v := 62) (kX12_readCompare 9 rfl) rfl (by decide) ?_
      refine X_callV1B (n := 24) (As := [.int (62 : Int32)]) (st := []) (kX12_readCompare 10 rfl) rfl (p_X12_isSign hk0) (by decide) ml_X12_183 mf_X12_isSign rfl hk0 xf_X12 rfl (Nat.le_of_ble_eq_true rfl) ?_
      refine X_bn (n := 27) (tgt := 33) (kX12_readCompare 11 rfl) rfl rfl (fun h15 => ?_) (fun h15 => ?_)
      · refine X_aload_n (n := 34) 0 (kX12_readCompare 16 rfl) rfl rfl rfl ?_
        refine X_getI (n := 37) xf_X12 hk0 (by decide) fl_X12_132 rfl (kX12_readCompare 17 rfl) rfl ?_
        refine X_istore_n (n := 38) (L1 := [(2, .int (S.1 a0 9)), (0, .ref a0), (1, .int i1)]) (kX12_readCompare 18 rfl) rfl rfl (Nat.le_of_ble_eq_true rfl) rfl ?_
        refine X_aload_n (n := 39) 1 (kX12_readCompare 19 rfl) rfl rfl rfl ?_
        refine X_callVV (n := 42) (As := []) (st := []) (kX12_readCompare 20 rfl) rfl (w_X12_go hk0) (by decide) ml_X12_180 mf_X12_go rfl hk0 xf_X12 rfl (Nat.le_of_ble_eq_true rfl) (fun S16 hq => ?_)
        try dsimp only
        refine X_aload_n (n := 43) 1 (kX12_readCompare 21 rfl) rfl rfl rfl ?_
        refine X_iconst (n := 44) (v := 0) (kX12_readCompare 22 rfl) rfl (by decide) ?_
        refine X_sipush (n := 47) (v := 999) (kX12_readCompare 23 rfl) rfl (by decide) ?_
        refine X_callVB (n := 50) (As := [.int (0 : Int32), .int (999 : Int32)]) (st := []) (kX12_readCompare 24 rfl) rfl (w_X12_readNumber hk0) (by decide) ml_X12_205 mf_X12_readNumber rfl hk0 xf_X12 rfl (Nat.le_of_ble_eq_true rfl) (fun r17 S18 hq => ?_)
        try dsimp only
        refine X_bn (n := 53) (tgt := 55) (kX12_readCompare 25 rfl) rfl rfl (fun h19 => ?_) (fun h19 => ?_)
        · refine X_aload_n (n := 56) 1 (kX12_readCompare 28 rfl) rfl rfl rfl ?_
          refine X_aload_n (n := 57) 1 (kX12_readCompare 29 rfl) rfl rfl rfl ?_
          refine X_bipush (n := 59) (v := 50) (kX12_readCompare 30 rfl) rfl (by decide) ?_
          refine X_iload_n (n := 60) 2 (kX12_readCompare 31 rfl) rfl rfl rfl ?_
          refine X_iadd (n := 61) (kX12_readCompare 32 rfl) rfl ?_
          refine X_iconst (n := 62) (v := 0) (kX12_readCompare 33 rfl) rfl (by decide) ?_
          refine X_aload_n (n := 63) 1 (kX12_readCompare 34 rfl) rfl rfl rfl ?_
          refine X_getI (n := 66) xf_X12 hk0 (by decide) fl_X12_173 rfl (kX12_readCompare 35 rfl) rfl ?_
          refine X_iload_n (n := 67) 0 (kX12_readCompare 36 rfl) rfl rfl rfl ?_
          refine X_callVI (n := 70) (As := [.int ((50 : Int32) + i1), .int (0 : Int32), .int (S18.1 a0 13), .int (S.1 a0 9)]) (st := [.ref a0]) (kX12_readCompare 37 rfl) rfl (w_X12_saysOne hk0) (by decide) ml_X12_417 mf_X12_saysOne rfl hk0 xf_X12 rfl (Nat.le_of_ble_eq_true rfl) (fun r20 S21 hq => ?_)
          try dsimp only
          refine X_putI (n := 73) xf_X12 hk0 (by decide) fl_X12_414 rfl rfl (Or.inl rfl) (kX12_readCompare 38 rfl) rfl ?_
          refine X_iconst (n := 74) (v := 1) (kX12_readCompare 39 rfl) rfl (by decide) ?_
          exact X_zret (b := true) rfl (kX12_readCompare 40 rfl)
        · refine X_iconst (n := 54) (v := 0) (kX12_readCompare 26 rfl) rfl (by decide) ?_
          exact X_zret (b := false) rfl (kX12_readCompare 27 rfl)
      · refine X_aload_n (n := 28) 0 (kX12_readCompare 12 rfl) rfl rfl rfl ?_
        refine X_iconst (n := 29) (v := 1) (kX12_readCompare 13 rfl) rfl (by decide) ?_
        refine X_callVB (n := 32) (As := [.int (1 : Int32)]) (st := []) (kX12_readCompare 14 rfl) rfl (w_X12_bad hk0) (by decide) ml_X12_166 mf_X12_bad rfl hk0 xf_X12 rfl (Nat.le_of_ble_eq_true rfl) (fun r22 S23 hq => ?_)
        try dsimp only
        exact X_zret (b := r22) rfl (kX12_readCompare 15 rfl)
def f_X12_readOne  (a0 : Nat) (i1 : Int32) (i2 : Int32) (S : XS) : Option (Bool × XS) := ((f_X12_isOne a0 (rf a0 20) i1 i2 S).bind (fun q => match q with | (r1, S2) => (if r1 = true then ((f_X12_go a0 S2).bind (fun S4 => some (true, S4))) else some (false, S2))))
set_option maxHeartbeats 4000000 in
set_option maxRecDepth 100000 in
theorem w_X12_readOne {l : Launch} {g : XG}  {a0 : Nat} {i1 : Int32} {i2 : Int32} {S : XS} (hk0 : kd a0 = 12) : Cl φB l g 5 mX12_readOne [.ref a0, .int i1, .int i2] S (f_X12_readOne a0 i1 i2 S) := by
  refine Cl.of (by decide +kernel) (Nat.le_of_ble_eq_true rfl) ?_
  unfold f_X12_readOne
  show X _ _ _ _ _ 0 [(0, .ref a0), (1, .int i1), (2, .int i2)] [] S _
  refine X_aload_n (n := 1) 0 (kX12_readOne 0 rfl) rfl rfl rfl ?_
  refine X_aload_n (n := 2) 0 (kX12_readOne 1 rfl) rfl rfl rfl ?_
  refine X_getR (n := 5) xf_X12 hk0 (by decide) fl_X12_32 rfl (kX12_readOne 2 rfl) rfl ?_
  refine X_iload_n (n := 6) 1 (kX12_readOne 3 rfl) rfl rfl rfl ?_
  refine X_iload_n (n := 7) 2 (kX12_readOne 4 rfl) rfl rfl rfl ?_
  refine X_callVB (n := 10) (As := [.ref (rf a0 20), .int i1, .int i2]) (st := []) (kX12_readOne 5 rfl) rfl (w_X12_isOne hk0 (kt_12_20 hk0)) (by decide) ml_X12_198 mf_X12_isOne rfl hk0 xf_X12 rfl (Nat.le_of_ble_eq_true rfl) (fun r1 S2 hq => ?_)
  try dsimp only
  refine X_bn (n := 13) (tgt := 15) (kX12_readOne 6 rfl) rfl rfl (fun h3 => ?_) (fun h3 => ?_)
  · refine X_aload_n (n := 16) 0 (kX12_readOne 9 rfl) rfl rfl rfl ?_
    refine X_callVV (n := 19) (As := []) (st := []) (kX12_readOne 10 rfl) rfl (w_X12_go hk0) (by decide) ml_X12_180 mf_X12_go rfl hk0 xf_X12 rfl (Nat.le_of_ble_eq_true rfl) (fun S4 hq => ?_)
    try dsimp only
    refine X_iconst (n := 20) (v := 1) (kX12_readOne 11 rfl) rfl (by decide) ?_
    exact X_zret (b := true) rfl (kX12_readOne 12 rfl)
  · refine X_iconst (n := 14) (v := 0) (kX12_readOne 7 rfl) rfl (by decide) ?_
    exact X_zret (b := false) rfl (kX12_readOne 8 rfl)
def f_X12_readScent  (a0 : Nat) (S : XS) : Option (Bool × XS) := (if (S.1 (rf a0 15) 0) = (6 : Int32) then ((f_X12_bad a0 (4 : Int32) S).bind (fun q => match q with | (r2, S3) => some (r2, S3))) else ((f_X12_go a0 S).bind (fun S4 => ((f_X12_readNew a0 (S.1 (rf a0 15) 0) S4).bind (fun q => match q with | (r5, S6) => (if r5 = true then ((f_X12_readNumber a0 (0 : Int32) (9 : Int32) S6).bind (fun q => match q with | (r8, S9) => (if r8 = true then (if ((6 : Int32) + (S.1 (rf a0 15) 0)) < 0 ∨ ln (rf a0 15) ≤ ((6 : Int32) + (S.1 (rf a0 15) 0)).toNatClampNeg then none else some (true, (sI (sI S9 (rf a0 15) (((6 : Int32) + (S.1 (rf a0 15) 0)).toNatClampNeg) (S9.1 a0 13)) (rf a0 15) 0 (((sI S9 (rf a0 15) (((6 : Int32) + (S.1 (rf a0 15) 0)).toNatClampNeg) (S9.1 a0 13)).1 (rf a0 15) 0) + (1 : Int32))))) else some (false, S9)))) else some (false, S6)))))))
set_option maxHeartbeats 4000000 in
set_option maxRecDepth 100000 in
theorem w_X12_readScent {l : Launch} {g : XG}  {a0 : Nat} {S : XS} (hk0 : kd a0 = 12) : Cl φB l g 5 mX12_readScent [.ref a0] S (f_X12_readScent a0 S) := by
  refine Cl.of (by decide +kernel) (Nat.le_of_ble_eq_true rfl) ?_
  unfold f_X12_readScent
  show X _ _ _ _ _ 0 [(0, .ref a0)] [] S _
  refine X_aload_n (n := 1) 0 (kX12_readScent 0 rfl) rfl rfl rfl ?_
  refine X_getR (n := 4) xf_X12 hk0 (by decide) fl_X12_16 rfl (kX12_readScent 1 rfl) rfl ?_
  refine X_iconst (n := 5) (v := 0) (kX12_readScent 2 rfl) rfl (by decide) ?_
  refine X_iald' (n := 6) (kt_12_15 hk0) (kX12_readScent 3 rfl) rfl (by rw [lt_12_15 hk0]; decide) ?_
  refine X_istore_n (n := 7) (L1 := [(1, .int (S.1 (rf a0 15) 0)), (0, .ref a0)]) (kX12_readScent 4 rfl) rfl rfl (Nat.le_of_ble_eq_true rfl) rfl ?_
  refine X_iload_n (n := 8) 0 (kX12_readScent 5 rfl) rfl rfl rfl ?_
  refine X_bipush (n := 10) (v := 6) (kX12_readScent 6 rfl) rfl (by decide) ?_
  refine X_ic_ne (n := 13) (tgt := 19) (kX12_readScent 7 rfl) rfl rfl (fun h1 => ?_) (fun h1 => ?_)
  · refine X_aload_n (n := 14) 1 (kX12_readScent 8 rfl) rfl rfl rfl ?_
    refine X_iconst (n := 15) (v := 4) (kX12_readScent 9 rfl) rfl (by decide) ?_
    refine X_callVB (n := 18) (As := [.int (4 : Int32)]) (st := []) (kX12_readScent 10 rfl) rfl (w_X12_bad hk0) (by decide) ml_X12_166 mf_X12_bad rfl hk0 xf_X12 rfl (Nat.le_of_ble_eq_true rfl) (fun r2 S3 hq => ?_)
    try dsimp only
    exact X_zret (b := r2) rfl (kX12_readScent 11 rfl)
  · refine X_aload_n (n := 20) 1 (kX12_readScent 12 rfl) rfl rfl rfl ?_
    refine X_callVV (n := 23) (As := []) (st := []) (kX12_readScent 13 rfl) rfl (w_X12_go hk0) (by decide) ml_X12_180 mf_X12_go rfl hk0 xf_X12 rfl (Nat.le_of_ble_eq_true rfl) (fun S4 hq => ?_)
    try dsimp only
    refine X_aload_n (n := 24) 1 (kX12_readScent 14 rfl) rfl rfl rfl ?_
    refine X_iload_n (n := 25) 0 (kX12_readScent 15 rfl) rfl rfl rfl ?_
    refine X_callVB (n := 28) (As := [.int (S.1 (rf a0 15) 0)]) (st := []) (kX12_readScent 16 rfl) rfl (w_X12_readNew hk0) (by decide) ml_X12_202 mf_X12_readNew rfl hk0 xf_X12 rfl (Nat.le_of_ble_eq_true rfl) (fun r5 S6 hq => ?_)
    try dsimp only
    refine X_bz (n := 31) (tgt := 41) (kX12_readScent 17 rfl) rfl rfl (fun h7 => ?_) (fun h7 => ?_)
    · refine X_aload_n (n := 32) 1 (kX12_readScent 18 rfl) rfl rfl rfl ?_
      refine X_iconst (n := 33) (v := 0) (kX12_readScent 19 rfl) rfl (by decide) ?_
      refine X_bipush (n := 35) (v := 9) (kX12_readScent 20 rfl) rfl (by decide) ?_
      refine X_callVB (n := 38) (As := [.int (0 : Int32), .int (9 : Int32)]) (st := []) (kX12_readScent 21 rfl) rfl (w_X12_readNumber hk0) (by decide) ml_X12_205 mf_X12_readNumber rfl hk0 xf_X12 rfl (Nat.le_of_ble_eq_true rfl) (fun r8 S9 hq => ?_)
      try dsimp only
      refine X_bn (n := 41) (tgt := 43) (kX12_readScent 22 rfl) rfl rfl (fun h10 => ?_) (fun h10 => ?_)
      · refine X_aload_n (n := 44) 1 (kX12_readScent 25 rfl) rfl rfl rfl ?_
        refine X_getR (n := 47) xf_X12 hk0 (by decide) fl_X12_16 rfl (kX12_readScent 26 rfl) rfl ?_
        refine X_bipush (n := 49) (v := 6) (kX12_readScent 27 rfl) rfl (by decide) ?_
        refine X_iload_n (n := 50) 0 (kX12_readScent 28 rfl) rfl rfl rfl ?_
        refine X_iadd (n := 51) (kX12_readScent 29 rfl) rfl ?_
        refine X_aload_n (n := 52) 1 (kX12_readScent 30 rfl) rfl rfl rfl ?_
        refine X_getI (n := 55) xf_X12 hk0 (by decide) fl_X12_173 rfl (kX12_readScent 31 rfl) rfl ?_
        refine X_iast (n := 56) (kt_12_15 hk0) (kX12_readScent 32 rfl) rfl (fun h11 => ?_)
        refine X_aload_n (n := 57) 1 (kX12_readScent 33 rfl) rfl rfl rfl ?_
        refine X_getR (n := 60) xf_X12 hk0 (by decide) fl_X12_16 rfl (kX12_readScent 34 rfl) rfl ?_
        refine X_iconst (n := 61) (v := 0) (kX12_readScent 35 rfl) rfl (by decide) ?_
        refine X_dup2 (n := 62) (kX12_readScent 36 rfl) rfl rfl rfl ?_
        refine X_iald' (n := 63) (kt_12_15 hk0) (kX12_readScent 37 rfl) rfl (by rw [lt_12_15 hk0]; decide) ?_
        refine X_iconst (n := 64) (v := 1) (kX12_readScent 38 rfl) rfl (by decide) ?_
        refine X_iadd (n := 65) (kX12_readScent 39 rfl) rfl ?_
        refine X_iast' (n := 66) (kt_12_15 hk0) (kX12_readScent 40 rfl) rfl (by rw [lt_12_15 hk0]; decide) ?_
        refine X_iconst (n := 67) (v := 1) (kX12_readScent 41 rfl) rfl (by decide) ?_
        exact X_zret (b := true) rfl (kX12_readScent 42 rfl)
      · refine X_iconst (n := 42) (v := 0) (kX12_readScent 23 rfl) rfl (by decide) ?_
        exact X_zret (b := false) rfl (kX12_readScent 24 rfl)
    · refine X_iconst (n := 42) (v := 0) (kX12_readScent 23 rfl) rfl (by decide) ?_
      exact X_zret (b := false) rfl (kX12_readScent 24 rfl)
def f_X12_readPlace_L40  (i2 : Int32) (i1 : Int32) (a0 : Nat) : Nat → Int32 → XS → Option (XS)
  | 0, _, _ => none
  | n + 1, i3, S => (if (6 : Int32) ≤ i3 then some S else (if (((12 : Int32) + ((6 : Int32) * i1)) + i3) < 0 ∨ ln (rf a0 15) ≤ (((12 : Int32) + ((6 : Int32) * i1)) + i3).toNatClampNeg then none else f_X12_readPlace_L40 i2 i1 a0 n (i3 + 1) (sI S (rf a0 15) ((((12 : Int32) + ((6 : Int32) * i1)) + i3).toNatClampNeg) (0 : Int32))))
def f_X12_readPlace_L67  (i1 : Int32) (a0 : Nat) : Nat → Int32 → XS → Option ((Bool × XS) ⊕ (XS))
  | 0, _, _ => none
  | n + 1, i2, S => (if (S.1 a0 7) = (2 : Int32) then ((f_X12_isOne a0 (rf a0 20) (0 : Int32) (S.1 (rf a0 15) 0) S).bind (fun q => match q with | (r12, S13) => (if r12 = true then (if (t_X12_has i2 (S13.1 a0 13)) = true then ((f_X12_bad a0 (3 : Int32) S13).bind (fun q => match q with | (r16, S17) => some (.inl (r16, S17)))) else ((f_X12_go a0 S13).bind (fun S18 => ((f_X12_readNumber a0 (1 : Int32) (9 : Int32) S18).bind (fun q => match q with | (r19, S20) => (if r19 = true then (if (((12 : Int32) + ((6 : Int32) * i1)) + (S13.1 a0 13)) < 0 ∨ ln (rf a0 15) ≤ (((12 : Int32) + ((6 : Int32) * i1)) + (S13.1 a0 13)).toNatClampNeg then none else f_X12_readPlace_L67 i1 a0 n (i2 ||| (shl32 (1 : Int32) (S13.1 a0 13))) (sI S20 (rf a0 15) ((((12 : Int32) + ((6 : Int32) * i1)) + (S13.1 a0 13)).toNatClampNeg) (S20.1 a0 13))) else some (.inl (false, S20)))))))) else some (.inl (false, S13))))) else some (.inr S))
def f_X12_readPlace  (a0 : Nat) (S : XS) : Option (Bool × XS) := (if (S.1 (rf a0 15) 1) = (6 : Int32) then ((f_X12_bad a0 (4 : Int32) S).bind (fun q => match q with | (r2, S3) => some (r2, S3))) else ((f_X12_go a0 S).bind (fun S4 => ((f_X12_readNew a0 ((6 : Int32) + (S.1 (rf a0 15) 1)) S4).bind (fun q => match q with | (r5, S6) => (if r5 = true then ((f_X12_readPlace_L40 (0 : Int32) (S.1 (rf a0 15) 1) a0 1000000 (0 : Int32) S6).bind (fun S10 => ((f_X12_readPlace_L67 (S.1 (rf a0 15) 1) a0 1000000 (0 : Int32) S10).bind (fun q => match q with | .inl r => some r | .inr S23 => some (true, (sI S23 (rf a0 15) 1 ((S23.1 (rf a0 15) 1) + (1 : Int32)))))))) else some (false, S6)))))))
set_option maxHeartbeats 4000000 in
set_option maxRecDepth 100000 in
theorem w_X12_readPlace_L40 {l : Launch} {g : XG} {G : (XS) → Option (Bool × XS)}  {i2 : Int32} {i1 : Int32} {a0 : Nat} (hk0 : kd a0 = 12) (kE : ∀ (S1 : XS), X φB l g 5 mX12_readPlace 67 [(2, .int i2), (1, .int i1), (0, .ref a0)] [] S1 (G S1)) : ∀ (n : Nat) (i3 : Int32) (S : XS), X φB l g 5 mX12_readPlace 40 [(3, .int i3), (2, .int i2), (1, .int i1), (0, .ref a0)] [] S ((f_X12_readPlace_L40 i2 i1 a0 n i3 S).bind G) := by
  intro n
  induction n with
  | zero => intro i3 S; exact X_none
  | succ n ih =>
  · intro i3 S
    rw [f_X12_readPlace_L40]
    refine X_iload_n (n := 41) 0 (kX12_readPlace 26 rfl) rfl rfl rfl ?_
    refine X_bipush (n := 43) (v := 6) (kX12_readPlace 27 rfl) rfl (by decide) ?_
    refine X_itebind ?_
    refine X_ic_ge (n := 46) (tgt := 67) (kX12_readPlace 28 rfl) rfl rfl (fun h8 => ?_) (fun h8 => ?_)
    · exact X_L [1, 2, 3] rfl (kE S)
    · refine X_aload_n (n := 47) 3 (kX12_readPlace 29 rfl) rfl rfl rfl ?_
      refine X_getR (n := 50) xf_X12 hk0 (by decide) fl_X12_16 rfl (kX12_readPlace 30 rfl) rfl ?_
      refine X_bipush (n := 52) (v := 12) (kX12_readPlace 31 rfl) rfl (by decide) ?_
      refine X_bipush (n := 54) (v := 6) (kX12_readPlace 32 rfl) rfl (by decide) ?_
      refine X_iload_n (n := 55) 2 (kX12_readPlace 33 rfl) rfl rfl rfl ?_
      refine X_imul (n := 56) (kX12_readPlace 34 rfl) rfl ?_
      refine X_iadd (n := 57) (kX12_readPlace 35 rfl) rfl ?_
      refine X_iload_n (n := 58) 0 (kX12_readPlace 36 rfl) rfl rfl rfl ?_
      refine X_iadd (n := 59) (kX12_readPlace 37 rfl) rfl ?_
      refine X_iconst (n := 60) (v := 0) (kX12_readPlace 38 rfl) rfl (by decide) ?_
      refine X_itebind ?_
      refine X_iast (n := 61) (kt_12_15 hk0) (kX12_readPlace 39 rfl) rfl (fun h9 => ?_)
      refine X_iinc (n := 64) 0 (v := (i3 + 1)) (L1 := [(3, .int (i3 + 1)), (2, .int i2), (1, .int i1), (0, .ref a0)]) (kX12_readPlace 40 rfl) rfl rfl rfl (Nat.le_of_ble_eq_true rfl) rfl ?_
      refine X_goto (tgt := 40) (kX12_readPlace 41 rfl) rfl ?_
      exact X_L [0, 1, 2, 3] rfl (ih (i3 + 1) (sI S (rf a0 15) ((((12 : Int32) + ((6 : Int32) * i1)) + i3).toNatClampNeg) (0 : Int32)))
set_option maxHeartbeats 4000000 in
set_option maxRecDepth 100000 in
theorem w_X12_readPlace_L67 {l : Launch} {g : XG} {G : ((Bool × XS) ⊕ (XS)) → Option (Bool × XS)}  {i1 : Int32} {a0 : Nat} (hk0 : kd a0 = 12) (kE : ∀ (S1 : XS), X φB l g 5 mX12_readPlace 157 [(0, .ref a0)] [] S1 (G (.inr S1))) (kR : ∀ r, G (.inl r) = some r) : ∀ (n : Nat) (i2 : Int32) (S : XS), X φB l g 5 mX12_readPlace 67 [(2, .int i2), (1, .int i1), (0, .ref a0)] [] S ((f_X12_readPlace_L67 i1 a0 n i2 S).bind G) := by
  intro n
  induction n with
  | zero => intro i2 S; exact X_none
  | succ n ih =>
  · intro i2 S
    rw [f_X12_readPlace_L67]
    refine X_aload_n (n := 68) 2 (kX12_readPlace 42 rfl) rfl rfl rfl ?_
    refine X_getI (n := 71) xf_X12 hk0 (by decide) fl_X12_122 rfl (kX12_readPlace 43 rfl) rfl ?_
    refine X_iconst (n := 72) (v := 2) (kX12_readPlace 44 rfl) rfl (by decide) ?_
    refine X_itebind ?_
    refine X_ic_ne (n := 75) (tgt := 157) (kX12_readPlace 45 rfl) rfl rfl (fun h11 => ?_) (fun h11 => ?_)
    · refine X_aload_n (n := 76) 2 (kX12_readPlace 46 rfl) rfl rfl rfl ?_
      refine X_aload_n (n := 77) 2 (kX12_readPlace 47 rfl) rfl rfl rfl ?_
      refine X_getR (n := 80) xf_X12 hk0 (by decide) fl_X12_32 rfl (kX12_readPlace 48 rfl) rfl ?_
      refine X_iconst (n := 81) (v := 0) (kX12_readPlace 49 rfl) rfl (by decide) ?_
      refine X_aload_n (n := 82) 2 (kX12_readPlace 50 rfl) rfl rfl rfl ?_
      refine X_getR (n := 85) xf_X12 hk0 (by decide) fl_X12_16 rfl (kX12_readPlace 51 rfl) rfl ?_
      refine X_iconst (n := 86) (v := 0) (kX12_readPlace 52 rfl) rfl (by decide) ?_
      refine X_iald' (n := 87) (kt_12_15 hk0) (kX12_readPlace 53 rfl) rfl (by rw [lt_12_15 hk0]; decide) ?_
      refine X_assoc ?_
      refine X_callVB (n := 90) (As := [.ref (rf a0 20), .int (0 : Int32), .int (S.1 (rf a0 15) 0)]) (st := []) (kX12_readPlace 54 rfl) rfl (w_X12_isOne hk0 (kt_12_20 hk0)) (by decide) ml_X12_198 mf_X12_isOne rfl hk0 xf_X12 rfl (Nat.le_of_ble_eq_true rfl) (fun r12 S13 hq => ?_)
      try dsimp only
      refine X_itebind ?_
      refine X_bn (n := 93) (tgt := 95) (kX12_readPlace 55 rfl) rfl rfl (fun h14 => ?_) (fun h14 => ?_)
      · refine X_aload_n (n := 96) 2 (kX12_readPlace 58 rfl) rfl rfl rfl ?_
        refine X_getI (n := 99) xf_X12 hk0 (by decide) fl_X12_173 rfl (kX12_readPlace 59 rfl) rfl ?_
        refine X_istore_n (n := 100) (L1 := [(3, .int (S13.1 a0 13)), (2, .int i2), (1, .int i1), (0, .ref a0)]) (kX12_readPlace 60 rfl) rfl rfl (Nat.le_of_ble_eq_true rfl) rfl ?_
        refine X_iload_n (n := 101) 1 (kX12_readPlace 61 rfl) rfl rfl rfl ?_
        refine X_iload_n (n := 102) 0 (kX12_readPlace 62 rfl) rfl rfl rfl ?_
        refine X_callS1B (n := 105) (As := [.int i2, .int (S13.1 a0 13)]) (st := []) (kX12_readPlace 63 rfl) rfl p_X12_has (by decide) ml_X12_208 mf_X12_has rfl rfl (Nat.le_of_ble_eq_true rfl) ?_
        refine X_itebind ?_
        refine X_bz (n := 108) (tgt := 114) (kX12_readPlace 64 rfl) rfl rfl (fun h15 => ?_) (fun h15 => ?_)
        · refine X_aload_n (n := 109) 3 (kX12_readPlace 65 rfl) rfl rfl rfl ?_
          refine X_iconst (n := 110) (v := 3) (kX12_readPlace 66 rfl) rfl (by decide) ?_
          refine X_assoc ?_
          refine X_callVB (n := 113) (As := [.int (3 : Int32)]) (st := []) (kX12_readPlace 67 rfl) rfl (w_X12_bad hk0) (by decide) ml_X12_166 mf_X12_bad rfl hk0 xf_X12 rfl (Nat.le_of_ble_eq_true rfl) (fun r16 S17 hq => ?_)
          try dsimp only
          exact X_req (kR _) (X_zret (b := r16) rfl (kX12_readPlace 68 rfl))
        · refine X_iload_n (n := 115) 1 (kX12_readPlace 69 rfl) rfl rfl rfl ?_
          refine X_iconst (n := 116) (v := 1) (kX12_readPlace 70 rfl) rfl (by decide) ?_
          refine X_iload_n (n := 117) 0 (kX12_readPlace 71 rfl) rfl rfl rfl ?_
          refine X_ishl (n := 118) (kX12_readPlace 72 rfl) rfl ?_
          refine X_ior (n := 119) (kX12_readPlace 73 rfl) rfl ?_
          refine X_istore_n (n := 120) (L1 := [(2, .int (i2 ||| (shl32 (1 : Int32) (S13.1 a0 13)))), (3, .int (S13.1 a0 13)), (1, .int i1), (0, .ref a0)]) (kX12_readPlace 74 rfl) rfl rfl (Nat.le_of_ble_eq_true rfl) rfl ?_
          refine X_aload_n (n := 121) 3 (kX12_readPlace 75 rfl) rfl rfl rfl ?_
          refine X_assoc ?_
          refine X_callVV (n := 124) (As := []) (st := []) (kX12_readPlace 76 rfl) rfl (w_X12_go hk0) (by decide) ml_X12_180 mf_X12_go rfl hk0 xf_X12 rfl (Nat.le_of_ble_eq_true rfl) (fun S18 hq => ?_)
          try dsimp only
          refine X_aload_n (n := 125) 3 (kX12_readPlace 77 rfl) rfl rfl rfl ?_
          refine X_iconst (n := 126) (v := 1) (kX12_readPlace 78 rfl) rfl (by decide) ?_
          refine X_bipush (n := 128) (v := 9) (kX12_readPlace 79 rfl) rfl (by decide) ?_
          refine X_assoc ?_
          refine X_callVB (n := 131) (As := [.int (1 : Int32), .int (9 : Int32)]) (st := []) (kX12_readPlace 80 rfl) rfl (w_X12_readNumber hk0) (by decide) ml_X12_205 mf_X12_readNumber rfl hk0 xf_X12 rfl (Nat.le_of_ble_eq_true rfl) (fun r19 S20 hq => ?_)
          try dsimp only
          refine X_itebind ?_
          refine X_bn (n := 134) (tgt := 136) (kX12_readPlace 81 rfl) rfl rfl (fun h21 => ?_) (fun h21 => ?_)
          · refine X_aload_n (n := 137) 3 (kX12_readPlace 84 rfl) rfl rfl rfl ?_
            refine X_getR (n := 140) xf_X12 hk0 (by decide) fl_X12_16 rfl (kX12_readPlace 85 rfl) rfl ?_
            refine X_bipush (n := 142) (v := 12) (kX12_readPlace 86 rfl) rfl (by decide) ?_
            refine X_bipush (n := 144) (v := 6) (kX12_readPlace 87 rfl) rfl (by decide) ?_
            refine X_iload_n (n := 145) 2 (kX12_readPlace 88 rfl) rfl rfl rfl ?_
            refine X_imul (n := 146) (kX12_readPlace 89 rfl) rfl ?_
            refine X_iadd (n := 147) (kX12_readPlace 90 rfl) rfl ?_
            refine X_iload_n (n := 148) 1 (kX12_readPlace 91 rfl) rfl rfl rfl ?_
            refine X_iadd (n := 149) (kX12_readPlace 92 rfl) rfl ?_
            refine X_aload_n (n := 150) 3 (kX12_readPlace 93 rfl) rfl rfl rfl ?_
            refine X_getI (n := 153) xf_X12 hk0 (by decide) fl_X12_173 rfl (kX12_readPlace 94 rfl) rfl ?_
            refine X_itebind ?_
            refine X_iast (n := 154) (kt_12_15 hk0) (kX12_readPlace 95 rfl) rfl (fun h22 => ?_)
            refine X_goto (tgt := 67) (kX12_readPlace 96 rfl) rfl ?_
            exact X_L [0, 2, 3] rfl (ih (i2 ||| (shl32 (1 : Int32) (S13.1 a0 13))) (sI S20 (rf a0 15) ((((12 : Int32) + ((6 : Int32) * i1)) + (S13.1 a0 13)).toNatClampNeg) (S20.1 a0 13)))
          · refine X_iconst (n := 135) (v := 0) (kX12_readPlace 82 rfl) rfl (by decide) ?_
            exact X_req (kR _) (X_zret (b := false) rfl (kX12_readPlace 83 rfl))
      · refine X_iconst (n := 94) (v := 0) (kX12_readPlace 56 rfl) rfl (by decide) ?_
        exact X_req (kR _) (X_zret (b := false) rfl (kX12_readPlace 57 rfl))
    · exact X_L [2] rfl (kE S)
set_option maxHeartbeats 4000000 in
set_option maxRecDepth 100000 in
theorem w_X12_readPlace {l : Launch} {g : XG}  {a0 : Nat} {S : XS} (hk0 : kd a0 = 12) : Cl φB l g 5 mX12_readPlace [.ref a0] S (f_X12_readPlace a0 S) := by
  refine Cl.of (by decide +kernel) (Nat.le_of_ble_eq_true rfl) ?_
  unfold f_X12_readPlace
  show X _ _ _ _ _ 0 [(0, .ref a0)] [] S _
  refine X_aload_n (n := 1) 0 (kX12_readPlace 0 rfl) rfl rfl rfl ?_
  refine X_getR (n := 4) xf_X12 hk0 (by decide) fl_X12_16 rfl (kX12_readPlace 1 rfl) rfl ?_
  refine X_iconst (n := 5) (v := 1) (kX12_readPlace 2 rfl) rfl (by decide) ?_
  refine X_iald' (n := 6) (kt_12_15 hk0) (kX12_readPlace 3 rfl) rfl (by rw [lt_12_15 hk0]; decide) ?_
  refine X_istore_n (n := 7) (L1 := [(1, .int (S.1 (rf a0 15) 1)), (0, .ref a0)]) (kX12_readPlace 4 rfl) rfl rfl (Nat.le_of_ble_eq_true rfl) rfl ?_
  refine X_iload_n (n := 8) 0 (kX12_readPlace 5 rfl) rfl rfl rfl ?_
  refine X_bipush (n := 10) (v := 6) (kX12_readPlace 6 rfl) rfl (by decide) ?_
  refine X_ic_ne (n := 13) (tgt := 19) (kX12_readPlace 7 rfl) rfl rfl (fun h1 => ?_) (fun h1 => ?_)
  · refine X_aload_n (n := 14) 1 (kX12_readPlace 8 rfl) rfl rfl rfl ?_
    refine X_iconst (n := 15) (v := 4) (kX12_readPlace 9 rfl) rfl (by decide) ?_
    refine X_callVB (n := 18) (As := [.int (4 : Int32)]) (st := []) (kX12_readPlace 10 rfl) rfl (w_X12_bad hk0) (by decide) ml_X12_166 mf_X12_bad rfl hk0 xf_X12 rfl (Nat.le_of_ble_eq_true rfl) (fun r2 S3 hq => ?_)
    try dsimp only
    exact X_zret (b := r2) rfl (kX12_readPlace 11 rfl)
  · refine X_aload_n (n := 20) 1 (kX12_readPlace 12 rfl) rfl rfl rfl ?_
    refine X_callVV (n := 23) (As := []) (st := []) (kX12_readPlace 13 rfl) rfl (w_X12_go hk0) (by decide) ml_X12_180 mf_X12_go rfl hk0 xf_X12 rfl (Nat.le_of_ble_eq_true rfl) (fun S4 hq => ?_)
    try dsimp only
    refine X_aload_n (n := 24) 1 (kX12_readPlace 14 rfl) rfl rfl rfl ?_
    refine X_bipush (n := 26) (v := 6) (kX12_readPlace 15 rfl) rfl (by decide) ?_
    refine X_iload_n (n := 27) 0 (kX12_readPlace 16 rfl) rfl rfl rfl ?_
    refine X_iadd (n := 28) (kX12_readPlace 17 rfl) rfl ?_
    refine X_callVB (n := 31) (As := [.int ((6 : Int32) + (S.1 (rf a0 15) 1))]) (st := []) (kX12_readPlace 18 rfl) rfl (w_X12_readNew hk0) (by decide) ml_X12_202 mf_X12_readNew rfl hk0 xf_X12 rfl (Nat.le_of_ble_eq_true rfl) (fun r5 S6 hq => ?_)
    try dsimp only
    refine X_bn (n := 34) (tgt := 36) (kX12_readPlace 19 rfl) rfl rfl (fun h7 => ?_) (fun h7 => ?_)
    · refine X_iconst (n := 37) (v := 0) (kX12_readPlace 22 rfl) rfl (by decide) ?_
      refine X_istore_n (n := 38) (L1 := [(2, .int 0), (1, .int (S.1 (rf a0 15) 1)), (0, .ref a0)]) (kX12_readPlace 23 rfl) rfl rfl (Nat.le_of_ble_eq_true rfl) rfl ?_
      refine X_iconst (n := 39) (v := 0) (kX12_readPlace 24 rfl) rfl (by decide) ?_
      refine X_istore_n (n := 40) (L1 := [(3, .int 0), (2, .int 0), (1, .int (S.1 (rf a0 15) 1)), (0, .ref a0)]) (kX12_readPlace 25 rfl) rfl rfl (Nat.le_of_ble_eq_true rfl) rfl ?_
      refine X_L [0, 1, 2, 3] rfl (w_X12_readPlace_L40 hk0 (fun S10 => ?_) 1000000 (0 : Int32) S6)
      try dsimp only
      refine X_L [0, 1, 2] rfl (w_X12_readPlace_L67 hk0 (fun S23 => ?_) ?_ 1000000 (0 : Int32) S10)
      · refine X_aload_n (n := 158) 0 (kX12_readPlace 97 rfl) rfl rfl rfl ?_
        refine X_getR (n := 161) xf_X12 hk0 (by decide) fl_X12_16 rfl (kX12_readPlace 98 rfl) rfl ?_
        refine X_iconst (n := 162) (v := 1) (kX12_readPlace 99 rfl) rfl (by decide) ?_
        refine X_dup2 (n := 163) (kX12_readPlace_1 0 rfl) rfl rfl rfl ?_
        refine X_iald' (n := 164) (kt_12_15 hk0) (kX12_readPlace_1 1 rfl) rfl (by rw [lt_12_15 hk0]; decide) ?_
        refine X_iconst (n := 165) (v := 1) (kX12_readPlace_1 2 rfl) rfl (by decide) ?_
        refine X_iadd (n := 166) (kX12_readPlace_1 3 rfl) rfl ?_
        refine X_iast' (n := 167) (kt_12_15 hk0) (kX12_readPlace_1 4 rfl) rfl (by rw [lt_12_15 hk0]; decide) ?_
        refine X_iconst (n := 168) (v := 1) (kX12_readPlace_1 5 rfl) rfl (by decide) ?_
        exact X_zret (b := true) rfl (kX12_readPlace_1 6 rfl)
      · intro r
        rfl
    · refine X_iconst (n := 35) (v := 0) (kX12_readPlace 20 rfl) rfl (by decide) ?_
      exact X_zret (b := false) rfl (kX12_readPlace 21 rfl)
def f_X12_readPlea  (a0 : Nat) (S : XS) : Option (Bool × XS) := ((f_X12_isOne a0 (rf a0 19) (12 : Int32) (S.1 (rf a0 14) 3) S).bind (fun q => match q with | (r1, S2) => (if r1 = true then (if (S2.1 a0 45) = (30 : Int32) then ((f_X12_bad a0 (4 : Int32) S2).bind (fun q => match q with | (r5, S6) => some (r5, S6))) else ((f_X12_go a0 S2).bind (fun S7 => ((f_X12_isWord a0 (12 : Int32) S7).bind (fun q => match q with | (r8, S9) => ((if r8 = true then some ((0 : Int32), S9) else ((f_X12_isWord a0 (13 : Int32) S9).bind (fun q => match q with | (r85, S86) => (if r85 = true then some ((1 : Int32), S86) else ((f_X12_isWord a0 (6 : Int32) S86).bind (fun q => match q with | (r88, S89) => (if r88 = true then some ((2 : Int32), S89) else some ((-1 : Int32), S89)))))))).bind (fun q => match q with | (x10, S11) => (if x10 = (-1 : Int32) then ((f_X12_bad a0 (1 : Int32) S11).bind (fun q => match q with | (r13, S14) => some (r13, S14))) else ((f_X12_go a0 S11).bind (fun S15 => (if x10 = 0 then ((f_X12_isOne a0 (rf a0 19) (6 : Int32) (S15.1 (rf a0 14) 1) S15).bind (fun q => match q with | (r17, S18) => (if r17 = true then ((f_X12_go a0 S18).bind (fun S20 => ((f_X12_readEnd a0 S20).bind (fun q => match q with | (r21, S22) => (if r21 = true then ((if x10 = 0 then (if ((145 : Int32) + (S2.1 a0 13)) < 0 ∨ ln (rf a0 14) ≤ ((145 : Int32) + (S2.1 a0 13)).toNatClampNeg then none else (if (S22.1 (rf a0 14) ((145 : Int32) + (S2.1 a0 13)).toNatClampNeg) = (S18.1 a0 13) then some (true, S22) else some (false, S22))) else (if x10 = (1 : Int32) then ((f_X12_worn a0 (S2.1 a0 13) S22).bind (fun q => match q with | (r33, S34) => (if (r33 + (S18.1 a0 13)) < 0 ∨ ln (rf a0 14) ≤ (r33 + (S18.1 a0 13)).toNatClampNeg then none else (if (S34.1 (rf a0 14) (r33 + (S18.1 a0 13)).toNatClampNeg) ≤ 0 then some (false, S34) else some (true, S34))))) else (if ((151 : Int32) + (S2.1 a0 13)) < 0 ∨ ln (rf a0 14) ≤ ((151 : Int32) + (S2.1 a0 13)).toNatClampNeg then none else (if (S22.1 (rf a0 14) ((151 : Int32) + (S2.1 a0 13)).toNatClampNeg) = (S18.1 a0 13) then some (true, S22) else some (false, S22))))).bind (fun q => match q with | (x24, S25) => ((if x24 = true then some S25 else (if (S25.1 a0 46) = (-1 : Int32) then some (sI S25 a0 46 (S25.1 a0 45)) else some S25)).bind (fun S26 => some (true, (sI S26 a0 45 ((S26.1 a0 45) + (1 : Int32)))))))) else some (false, S22)))))) else some (false, S18)))) else (if x10 = (1 : Int32) then ((f_X12_isOne a0 (rf a0 19) (0 : Int32) (S15.1 (rf a0 14) 0) S15).bind (fun q => match q with | (r40, S41) => (if r40 = true then ((f_X12_go a0 S41).bind (fun S43 => ((f_X12_readEnd a0 S43).bind (fun q => match q with | (r44, S45) => (if r44 = true then ((if x10 = 0 then (if ((145 : Int32) + (S2.1 a0 13)) < 0 ∨ ln (rf a0 14) ≤ ((145 : Int32) + (S2.1 a0 13)).toNatClampNeg then none else (if (S45.1 (rf a0 14) ((145 : Int32) + (S2.1 a0 13)).toNatClampNeg) = (S41.1 a0 13) then some (true, S45) else some (false, S45))) else (if x10 = (1 : Int32) then ((f_X12_worn a0 (S2.1 a0 13) S45).bind (fun q => match q with | (r56, S57) => (if (r56 + (S41.1 a0 13)) < 0 ∨ ln (rf a0 14) ≤ (r56 + (S41.1 a0 13)).toNatClampNeg then none else (if (S57.1 (rf a0 14) (r56 + (S41.1 a0 13)).toNatClampNeg) ≤ 0 then some (false, S57) else some (true, S57))))) else (if ((151 : Int32) + (S2.1 a0 13)) < 0 ∨ ln (rf a0 14) ≤ ((151 : Int32) + (S2.1 a0 13)).toNatClampNeg then none else (if (S45.1 (rf a0 14) ((151 : Int32) + (S2.1 a0 13)).toNatClampNeg) = (S41.1 a0 13) then some (true, S45) else some (false, S45))))).bind (fun q => match q with | (x47, S48) => ((if x47 = true then some S48 else (if (S48.1 a0 46) = (-1 : Int32) then some (sI S48 a0 46 (S48.1 a0 45)) else some S48)).bind (fun S49 => some (true, (sI S49 a0 45 ((S49.1 a0 45) + (1 : Int32)))))))) else some (false, S45)))))) else some (false, S41)))) else ((f_X12_isOne a0 (rf a0 19) (12 : Int32) (S15.1 (rf a0 14) 3) S15).bind (fun q => match q with | (r62, S63) => (if r62 = true then ((f_X12_go a0 S63).bind (fun S65 => ((f_X12_readEnd a0 S65).bind (fun q => match q with | (r66, S67) => (if r66 = true then ((if x10 = 0 then (if ((145 : Int32) + (S2.1 a0 13)) < 0 ∨ ln (rf a0 14) ≤ ((145 : Int32) + (S2.1 a0 13)).toNatClampNeg then none else (if (S67.1 (rf a0 14) ((145 : Int32) + (S2.1 a0 13)).toNatClampNeg) = (S63.1 a0 13) then some (true, S67) else some (false, S67))) else (if x10 = (1 : Int32) then ((f_X12_worn a0 (S2.1 a0 13) S67).bind (fun q => match q with | (r78, S79) => (if (r78 + (S63.1 a0 13)) < 0 ∨ ln (rf a0 14) ≤ (r78 + (S63.1 a0 13)).toNatClampNeg then none else (if (S79.1 (rf a0 14) (r78 + (S63.1 a0 13)).toNatClampNeg) ≤ 0 then some (false, S79) else some (true, S79))))) else (if ((151 : Int32) + (S2.1 a0 13)) < 0 ∨ ln (rf a0 14) ≤ ((151 : Int32) + (S2.1 a0 13)).toNatClampNeg then none else (if (S67.1 (rf a0 14) ((151 : Int32) + (S2.1 a0 13)).toNatClampNeg) = (S63.1 a0 13) then some (true, S67) else some (false, S67))))).bind (fun q => match q with | (x69, S70) => ((if x69 = true then some S70 else (if (S70.1 a0 46) = (-1 : Int32) then some (sI S70 a0 46 (S70.1 a0 45)) else some S70)).bind (fun S71 => some (true, (sI S71 a0 45 ((S71.1 a0 45) + (1 : Int32)))))))) else some (false, S67)))))) else some (false, S63)))))))))))))))) else some (false, S2))))
set_option maxHeartbeats 4000000 in
set_option maxRecDepth 100000 in
theorem w_X12_readPlea {l : Launch} {g : XG}  {a0 : Nat} {S : XS} (hk0 : kd a0 = 12) : Cl φB l g 5 mX12_readPlea [.ref a0] S (f_X12_readPlea a0 S) := by
  refine Cl.of (by decide +kernel) (Nat.le_of_ble_eq_true rfl) ?_
  unfold f_X12_readPlea
  show X _ _ _ _ _ 0 [(0, .ref a0)] [] S _
  refine X_aload_n (n := 1) 0 (kX12_readPlea 0 rfl) rfl rfl rfl ?_
  refine X_aload_n (n := 2) 0 (kX12_readPlea 1 rfl) rfl rfl rfl ?_
  refine X_getR (n := 5) xf_X12 hk0 (by decide) fl_X12_28 rfl (kX12_readPlea 2 rfl) rfl ?_
  refine X_bipush (n := 7) (v := 12) (kX12_readPlea 3 rfl) rfl (by decide) ?_
  refine X_aload_n (n := 8) 0 (kX12_readPlea 4 rfl) rfl rfl rfl ?_
  refine X_getR (n := 11) xf_X12 hk0 (by decide) fl_X12_13 rfl (kX12_readPlea 5 rfl) rfl ?_
  refine X_iconst (n := 12) (v := 3) (kX12_readPlea 6 rfl) rfl (by decide) ?_
  refine X_iald' (n := 13) (kt_12_14 hk0) (kX12_readPlea 7 rfl) rfl (by rw [lt_12_14 hk0]; decide) ?_
  refine X_callVB (n := 16) (As := [.ref (rf a0 19), .int (12 : Int32), .int (S.1 (rf a0 14) 3)]) (st := []) (kX12_readPlea 8 rfl) rfl (w_X12_isOne hk0 (kt_12_19 hk0)) (by decide) ml_X12_198 mf_X12_isOne rfl hk0 xf_X12 rfl (Nat.le_of_ble_eq_true rfl) (fun r1 S2 hq => ?_)
  try dsimp only
  refine X_bn (n := 19) (tgt := 21) (kX12_readPlea 9 rfl) rfl rfl (fun h3 => ?_) (fun h3 => ?_)
  · refine X_aload_n (n := 22) 0 (kX12_readPlea 12 rfl) rfl rfl rfl ?_
    refine X_getI (n := 25) xf_X12 hk0 (by decide) fl_X12_173 rfl (kX12_readPlea 13 rfl) rfl ?_
    refine X_istore_n (n := 26) (L1 := [(1, .int (S2.1 a0 13)), (0, .ref a0)]) (kX12_readPlea 14 rfl) rfl rfl (Nat.le_of_ble_eq_true rfl) rfl ?_
    refine X_aload_n (n := 27) 1 (kX12_readPlea 15 rfl) rfl rfl rfl ?_
    refine X_getI (n := 30) xf_X12 hk0 (by decide) fl_X12_371 rfl (kX12_readPlea 16 rfl) rfl ?_
    refine X_bipush (n := 32) (v := 30) (kX12_readPlea 17 rfl) rfl (by decide) ?_
    refine X_ic_ne (n := 35) (tgt := 41) (kX12_readPlea 18 rfl) rfl rfl (fun h4 => ?_) (fun h4 => ?_)
    · refine X_aload_n (n := 36) 1 (kX12_readPlea 19 rfl) rfl rfl rfl ?_
      refine X_iconst (n := 37) (v := 4) (kX12_readPlea 20 rfl) rfl (by decide) ?_
      refine X_callVB (n := 40) (As := [.int (4 : Int32)]) (st := []) (kX12_readPlea 21 rfl) rfl (w_X12_bad hk0) (by decide) ml_X12_166 mf_X12_bad rfl hk0 xf_X12 rfl (Nat.le_of_ble_eq_true rfl) (fun r5 S6 hq => ?_)
      try dsimp only
      exact X_zret (b := r5) rfl (kX12_readPlea 22 rfl)
    · refine X_aload_n (n := 42) 1 (kX12_readPlea 23 rfl) rfl rfl rfl ?_
      refine X_callVV (n := 45) (As := []) (st := []) (kX12_readPlea 24 rfl) rfl (w_X12_go hk0) (by decide) ml_X12_180 mf_X12_go rfl hk0 xf_X12 rfl (Nat.le_of_ble_eq_true rfl) (fun S7 hq => ?_)
      try dsimp only
      refine X_aload_n (n := 46) 1 (kX12_readPlea 25 rfl) rfl rfl rfl ?_
      refine X_bipush (n := 48) (v := 12) (kX12_readPlea 26 rfl) rfl (by decide) ?_
      refine X_callVB (n := 51) (As := [.int (12 : Int32)]) (st := []) (kX12_readPlea 27 rfl) rfl (w_X12_isWord hk0) (by decide) ml_X12_214 mf_X12_isWord rfl hk0 xf_X12 rfl (Nat.le_of_ble_eq_true rfl) (fun r8 S9 hq => ?_)
      try dsimp only
      refine X_join 85 (fun q => match q with | (x10, S11) => [(1, .int (S2.1 a0 13)), (0, .ref a0)]) (fun q => match q with | (x10, S11) => [.int x10]) (fun q => match q with | (x10, S11) => S11) (fun q => ?_) (fun kJ => ?_)
      · obtain ⟨x10, S11⟩ := q
        dsimp only
        refine X_istore_n (n := 86) (L1 := [(2, .int x10), (1, .int (S2.1 a0 13)), (0, .ref a0)]) (kX12_readPlea 44 rfl) rfl rfl (Nat.le_of_ble_eq_true rfl) rfl ?_
        refine X_iload_n (n := 87) 0 (kX12_readPlea 45 rfl) rfl rfl rfl ?_
        refine X_iconst (n := 88) (v := (-1)) (kX12_readPlea 46 rfl) rfl (by decide) ?_
        refine X_ic_ne (n := 91) (tgt := 97) (kX12_readPlea 47 rfl) rfl rfl (fun h12 => ?_) (fun h12 => ?_)
        · refine X_aload_n (n := 92) 2 (kX12_readPlea 48 rfl) rfl rfl rfl ?_
          refine X_iconst (n := 93) (v := 1) (kX12_readPlea 49 rfl) rfl (by decide) ?_
          refine X_callVB (n := 96) (As := [.int (1 : Int32)]) (st := []) (kX12_readPlea 50 rfl) rfl (w_X12_bad hk0) (by decide) ml_X12_166 mf_X12_bad rfl hk0 xf_X12 rfl (Nat.le_of_ble_eq_true rfl) (fun r13 S14 hq => ?_)
          try dsimp only
          exact X_zret (b := r13) rfl (kX12_readPlea 51 rfl)
        · refine X_aload_n (n := 98) 2 (kX12_readPlea 52 rfl) rfl rfl rfl ?_
          refine X_callVV (n := 101) (As := []) (st := []) (kX12_readPlea 53 rfl) rfl (w_X12_go hk0) (by decide) ml_X12_180 mf_X12_go rfl hk0 xf_X12 rfl (Nat.le_of_ble_eq_true rfl) (fun S15 hq => ?_)
          try dsimp only
          refine X_iload_n (n := 102) 0 (kX12_readPlea 54 rfl) rfl rfl rfl ?_
          refine X_if_ne (n := 105) (tgt := 127) (kX12_readPlea 55 rfl) rfl rfl (fun h16 => ?_) (fun h16 => ?_)
          · refine X_aload_n (n := 106) 2 (kX12_readPlea 56 rfl) rfl rfl rfl ?_
            refine X_aload_n (n := 107) 2 (kX12_readPlea 57 rfl) rfl rfl rfl ?_
            refine X_getR (n := 110) xf_X12 hk0 (by decide) fl_X12_28 rfl (kX12_readPlea 58 rfl) rfl ?_
            refine X_bipush (n := 112) (v := 6) (kX12_readPlea 59 rfl) rfl (by decide) ?_
            refine X_aload_n (n := 113) 2 (kX12_readPlea 60 rfl) rfl rfl rfl ?_
            refine X_getR (n := 116) xf_X12 hk0 (by decide) fl_X12_13 rfl (kX12_readPlea 61 rfl) rfl ?_
            refine X_iconst (n := 117) (v := 1) (kX12_readPlea 62 rfl) rfl (by decide) ?_
            refine X_iald' (n := 118) (kt_12_14 hk0) (kX12_readPlea 63 rfl) rfl (by rw [lt_12_14 hk0]; decide) ?_
            refine X_callVB (n := 121) (As := [.ref (rf a0 19), .int (6 : Int32), .int (S15.1 (rf a0 14) 1)]) (st := []) (kX12_readPlea 64 rfl) rfl (w_X12_isOne hk0 (kt_12_19 hk0)) (by decide) ml_X12_198 mf_X12_isOne rfl hk0 xf_X12 rfl (Nat.le_of_ble_eq_true rfl) (fun r17 S18 hq => ?_)
            try dsimp only
            refine X_bn (n := 124) (tgt := 174) (kX12_readPlea 65 rfl) rfl rfl (fun h19 => ?_) (fun h19 => ?_)
            · refine X_aload_n (n := 175) 2 (kX12_readPlea 93 rfl) rfl rfl rfl ?_
              refine X_getI (n := 178) xf_X12 hk0 (by decide) fl_X12_173 rfl (kX12_readPlea 94 rfl) rfl ?_
              refine X_istore_n (n := 179) (L1 := [(3, .int (S18.1 a0 13)), (2, .int x10), (1, .int (S2.1 a0 13)), (0, .ref a0)]) (kX12_readPlea 95 rfl) rfl rfl (Nat.le_of_ble_eq_true rfl) rfl ?_
              refine X_aload_n (n := 180) 3 (kX12_readPlea 96 rfl) rfl rfl rfl ?_
              refine X_callVV (n := 183) (As := []) (st := []) (kX12_readPlea 97 rfl) rfl (w_X12_go hk0) (by decide) ml_X12_180 mf_X12_go rfl hk0 xf_X12 rfl (Nat.le_of_ble_eq_true rfl) (fun S20 hq => ?_)
              try dsimp only
              refine X_aload_n (n := 184) 3 (kX12_readPlea 98 rfl) rfl rfl rfl ?_
              refine X_callVB (n := 187) (As := []) (st := []) (kX12_readPlea 99 rfl) rfl (w_X12_readEnd hk0) (by decide) ml_X12_235 mf_X12_readEnd rfl hk0 xf_X12 rfl (Nat.le_of_ble_eq_true rfl) (fun r21 S22 hq => ?_)
              try dsimp only
              refine X_bn (n := 190) (tgt := 192) (kX12_readPlea_1 0 rfl) rfl rfl (fun h23 => ?_) (fun h23 => ?_)
              · refine X_iload_n (n := 193) 1 (kX12_readPlea_1 3 rfl) rfl rfl rfl ?_
                refine X_join 265 (fun q => match q with | (x24, S25) => [(0, .ref a0)]) (fun q => match q with | (x24, S25) => [.int (bi x24)]) (fun q => match q with | (x24, S25) => S25) (fun q => ?_) (fun kJ => ?_)
                · obtain ⟨x24, S25⟩ := q
                  dsimp only
                  refine X_istore (n := 267) (L1 := [(4, .int (bi x24)), (0, .ref a0)]) (kX12_readPlea_1 44 rfl) rfl (Nat.le_of_ble_eq_true rfl) rfl ?_
                  refine X_iload (n := 269) 0 (kX12_readPlea_1 45 rfl) rfl rfl ?_
                  refine X_join 288 (fun S26 => [(0, .ref a0)]) (fun S26 => []) (fun S26 => S26) (fun S26 => ?_) (fun kJ => ?_)
                  · try dsimp only
                    refine X_aload_n (n := 289) 0 (kX12_readPlea_1 55 rfl) rfl rfl rfl ?_
                    refine X_dup (n := 290) (kX12_readPlea_1 56 rfl) rfl rfl ?_
                    refine X_getI (n := 293) xf_X12 hk0 (by decide) fl_X12_371 rfl (kX12_readPlea_1 57 rfl) rfl ?_
                    refine X_iconst (n := 294) (v := 1) (kX12_readPlea_1 58 rfl) rfl (by decide) ?_
                    refine X_iadd (n := 295) (kX12_readPlea_1 59 rfl) rfl ?_
                    refine X_putI (n := 298) xf_X12 hk0 (by decide) fl_X12_371 rfl rfl (Or.inl rfl) (kX12_readPlea_1 60 rfl) rfl ?_
                    refine X_iconst (n := 299) (v := 1) (kX12_readPlea_1 61 rfl) rfl (by decide) ?_
                    exact X_zret (b := true) rfl (kX12_readPlea_1 62 rfl)
                  · refine X_itebind ?_
                    refine X_bn (n := 272) (tgt := 288) (kX12_readPlea_1 46 rfl) rfl rfl (fun h27 => ?_) (fun h27 => ?_)
                    · exact X_L [1] rfl (kJ S25)
                    · refine X_aload_n (n := 273) 1 (kX12_readPlea_1 47 rfl) rfl rfl rfl ?_
                      refine X_getI (n := 276) xf_X12 hk0 (by decide) fl_X12_374 rfl (kX12_readPlea_1 48 rfl) rfl ?_
                      refine X_iconst (n := 277) (v := (-1)) (kX12_readPlea_1 49 rfl) rfl (by decide) ?_
                      refine X_itebind ?_
                      refine X_ic_ne (n := 280) (tgt := 288) (kX12_readPlea_1 50 rfl) rfl rfl (fun h28 => ?_) (fun h28 => ?_)
                      · refine X_aload_n (n := 281) 1 (kX12_readPlea_1 51 rfl) rfl rfl rfl ?_
                        refine X_aload_n (n := 282) 1 (kX12_readPlea_1 52 rfl) rfl rfl rfl ?_
                        refine X_getI (n := 285) xf_X12 hk0 (by decide) fl_X12_371 rfl (kX12_readPlea_1 53 rfl) rfl ?_
                        refine X_putI (n := 288) xf_X12 hk0 (by decide) fl_X12_374 rfl rfl (Or.inl rfl) (kX12_readPlea_1 54 rfl) rfl ?_
                        exact X_L [1] rfl (kJ (sI S25 a0 46 (S25.1 a0 45)))
                      · exact X_L [1] rfl (kJ S25)
                · refine X_itebind ?_
                  refine X_if_ne (n := 196) (tgt := 218) (kX12_readPlea_1 4 rfl) rfl rfl (fun h29 => ?_) (fun h29 => ?_)
                  · refine X_aload_n (n := 197) 3 (kX12_readPlea_1 5 rfl) rfl rfl rfl ?_
                    refine X_getR (n := 200) xf_X12 hk0 (by decide) fl_X12_13 rfl (kX12_readPlea_1 6 rfl) rfl ?_
                    refine X_sipush (n := 203) (v := 145) (kX12_readPlea_1 7 rfl) rfl (by decide) ?_
                    refine X_iload_n (n := 204) 2 (kX12_readPlea_1 8 rfl) rfl rfl rfl ?_
                    refine X_iadd (n := 205) (kX12_readPlea_1 9 rfl) rfl ?_
                    refine X_itebind ?_
                    refine X_iald (n := 206) (kt_12_14 hk0) (kX12_readPlea_1 10 rfl) rfl (fun h31 => ?_)
                    refine X_iload_n (n := 207) 0 (kX12_readPlea_1 11 rfl) rfl rfl rfl ?_
                    refine X_itebind ?_
                    refine X_ic_ne (n := 210) (tgt := 214) (kX12_readPlea_1 12 rfl) rfl rfl (fun h30 => ?_) (fun h30 => ?_)
                    · refine X_iconst (n := 211) (v := 1) (kX12_readPlea_1 13 rfl) rfl (by decide) ?_
                      refine X_goto (tgt := 265) (kX12_readPlea_1 14 rfl) rfl ?_
                      exact X_L [3] rfl (kJ (true, S22))
                    · refine X_iconst (n := 215) (v := 0) (kX12_readPlea_1 15 rfl) rfl (by decide) ?_
                      refine X_goto (tgt := 265) (kX12_readPlea_1 16 rfl) rfl ?_
                      exact X_L [3] rfl (kJ (false, S22))
                  · refine X_iload_n (n := 219) 1 (kX12_readPlea_1 17 rfl) rfl rfl rfl ?_
                    refine X_iconst (n := 220) (v := 1) (kX12_readPlea_1 18 rfl) rfl (by decide) ?_
                    refine X_itebind ?_
                    refine X_ic_ne (n := 223) (tgt := 246) (kX12_readPlea_1 19 rfl) rfl rfl (fun h32 => ?_) (fun h32 => ?_)
                    · refine X_aload_n (n := 224) 3 (kX12_readPlea_1 20 rfl) rfl rfl rfl ?_
                      refine X_getR (n := 227) xf_X12 hk0 (by decide) fl_X12_13 rfl (kX12_readPlea_1 21 rfl) rfl ?_
                      refine X_aload_n (n := 228) 3 (kX12_readPlea_1 22 rfl) rfl rfl rfl ?_
                      refine X_iload_n (n := 229) 2 (kX12_readPlea_1 23 rfl) rfl rfl rfl ?_
                      refine X_assoc ?_
                      refine X_callVI (n := 232) (As := [.int (S2.1 a0 13)]) (st := [.ref (rf a0 14)]) (kX12_readPlea_1 24 rfl) rfl (w_X12_worn hk0) (by decide) ml_X12_266 mf_X12_worn rfl hk0 xf_X12 rfl (Nat.le_of_ble_eq_true rfl) (fun r33 S34 hq => ?_)
                      try dsimp only
                      refine X_iload_n (n := 233) 0 (kX12_readPlea_1 25 rfl) rfl rfl rfl ?_
                      refine X_iadd (n := 234) (kX12_readPlea_1 26 rfl) rfl ?_
                      refine X_itebind ?_
                      refine X_iald (n := 235) (kt_12_14 hk0) (kX12_readPlea_1 27 rfl) rfl (fun h36 => ?_)
                      refine X_itebind ?_
                      refine X_if_le (n := 238) (tgt := 242) (kX12_readPlea_1 28 rfl) rfl rfl (fun h35 => ?_) (fun h35 => ?_)
                      · refine X_iconst (n := 243) (v := 0) (kX12_readPlea_1 31 rfl) rfl (by decide) ?_
                        refine X_goto (tgt := 265) (kX12_readPlea_1 32 rfl) rfl ?_
                        exact X_L [3] rfl (kJ (false, S34))
                      · refine X_iconst (n := 239) (v := 1) (kX12_readPlea_1 29 rfl) rfl (by decide) ?_
                        refine X_goto (tgt := 265) (kX12_readPlea_1 30 rfl) rfl ?_
                        exact X_L [3] rfl (kJ (true, S34))
                    · refine X_aload_n (n := 247) 3 (kX12_readPlea_1 33 rfl) rfl rfl rfl ?_
                      refine X_getR (n := 250) xf_X12 hk0 (by decide) fl_X12_13 rfl (kX12_readPlea_1 34 rfl) rfl ?_
                      refine X_sipush (n := 253) (v := 151) (kX12_readPlea_1 35 rfl) rfl (by decide) ?_
                      refine X_iload_n (n := 254) 2 (kX12_readPlea_1 36 rfl) rfl rfl rfl ?_
                      refine X_iadd (n := 255) (kX12_readPlea_1 37 rfl) rfl ?_
                      refine X_itebind ?_
                      refine X_iald (n := 256) (kt_12_14 hk0) (kX12_readPlea_1 38 rfl) rfl (fun h38 => ?_)
                      refine X_iload_n (n := 257) 0 (kX12_readPlea_1 39 rfl) rfl rfl rfl ?_
                      refine X_itebind ?_
                      refine X_ic_ne (n := 260) (tgt := 264) (kX12_readPlea_1 40 rfl) rfl rfl (fun h37 => ?_) (fun h37 => ?_)
                      · refine X_iconst (n := 261) (v := 1) (kX12_readPlea_1 41 rfl) rfl (by decide) ?_
                        refine X_goto (tgt := 265) (kX12_readPlea_1 42 rfl) rfl ?_
                        exact X_L [3] rfl (kJ (true, S22))
                      · refine X_iconst (n := 265) (v := 0) (kX12_readPlea_1 43 rfl) rfl (by decide) ?_
                        exact X_L [3] rfl (kJ (false, S22))
              · refine X_iconst (n := 191) (v := 0) (kX12_readPlea_1 1 rfl) rfl (by decide) ?_
                exact X_zret (b := false) rfl (kX12_readPlea_1 2 rfl)
            · refine X_goto (tgt := 172) (kX12_readPlea 66 rfl) rfl ?_
              refine X_iconst (n := 173) (v := 0) (kX12_readPlea 91 rfl) rfl (by decide) ?_
              exact X_zret (b := false) rfl (kX12_readPlea 92 rfl)
          · refine X_iload_n (n := 128) 0 (kX12_readPlea 67 rfl) rfl rfl rfl ?_
            refine X_iconst (n := 129) (v := 1) (kX12_readPlea 68 rfl) rfl (by decide) ?_
            refine X_ic_ne (n := 132) (tgt := 153) (kX12_readPlea 69 rfl) rfl rfl (fun h39 => ?_) (fun h39 => ?_)
            · refine X_aload_n (n := 133) 2 (kX12_readPlea 70 rfl) rfl rfl rfl ?_
              refine X_aload_n (n := 134) 2 (kX12_readPlea 71 rfl) rfl rfl rfl ?_
              refine X_getR (n := 137) xf_X12 hk0 (by decide) fl_X12_28 rfl (kX12_readPlea 72 rfl) rfl ?_
              refine X_iconst (n := 138) (v := 0) (kX12_readPlea 73 rfl) rfl (by decide) ?_
              refine X_aload_n (n := 139) 2 (kX12_readPlea 74 rfl) rfl rfl rfl ?_
              refine X_getR (n := 142) xf_X12 hk0 (by decide) fl_X12_13 rfl (kX12_readPlea 75 rfl) rfl ?_
              refine X_iconst (n := 143) (v := 0) (kX12_readPlea 76 rfl) rfl (by decide) ?_
              refine X_iald' (n := 144) (kt_12_14 hk0) (kX12_readPlea 77 rfl) rfl (by rw [lt_12_14 hk0]; decide) ?_
              refine X_callVB (n := 147) (As := [.ref (rf a0 19), .int (0 : Int32), .int (S15.1 (rf a0 14) 0)]) (st := []) (kX12_readPlea 78 rfl) rfl (w_X12_isOne hk0 (kt_12_19 hk0)) (by decide) ml_X12_198 mf_X12_isOne rfl hk0 xf_X12 rfl (Nat.le_of_ble_eq_true rfl) (fun r40 S41 hq => ?_)
              try dsimp only
              refine X_bn (n := 150) (tgt := 174) (kX12_readPlea 79 rfl) rfl rfl (fun h42 => ?_) (fun h42 => ?_)
              · refine X_aload_n (n := 175) 2 (kX12_readPlea 93 rfl) rfl rfl rfl ?_
                refine X_getI (n := 178) xf_X12 hk0 (by decide) fl_X12_173 rfl (kX12_readPlea 94 rfl) rfl ?_
                refine X_istore_n (n := 179) (L1 := [(3, .int (S41.1 a0 13)), (2, .int x10), (1, .int (S2.1 a0 13)), (0, .ref a0)]) (kX12_readPlea 95 rfl) rfl rfl (Nat.le_of_ble_eq_true rfl) rfl ?_
                refine X_aload_n (n := 180) 3 (kX12_readPlea 96 rfl) rfl rfl rfl ?_
                refine X_callVV (n := 183) (As := []) (st := []) (kX12_readPlea 97 rfl) rfl (w_X12_go hk0) (by decide) ml_X12_180 mf_X12_go rfl hk0 xf_X12 rfl (Nat.le_of_ble_eq_true rfl) (fun S43 hq => ?_)
                try dsimp only
                refine X_aload_n (n := 184) 3 (kX12_readPlea 98 rfl) rfl rfl rfl ?_
                refine X_callVB (n := 187) (As := []) (st := []) (kX12_readPlea 99 rfl) rfl (w_X12_readEnd hk0) (by decide) ml_X12_235 mf_X12_readEnd rfl hk0 xf_X12 rfl (Nat.le_of_ble_eq_true rfl) (fun r44 S45 hq => ?_)
                try dsimp only
                refine X_bn (n := 190) (tgt := 192) (kX12_readPlea_1 0 rfl) rfl rfl (fun h46 => ?_) (fun h46 => ?_)
                · refine X_iload_n (n := 193) 1 (kX12_readPlea_1 3 rfl) rfl rfl rfl ?_
                  refine X_join 265 (fun q => match q with | (x47, S48) => [(0, .ref a0)]) (fun q => match q with | (x47, S48) => [.int (bi x47)]) (fun q => match q with | (x47, S48) => S48) (fun q => ?_) (fun kJ => ?_)
                  · obtain ⟨x47, S48⟩ := q
                    dsimp only
                    refine X_istore (n := 267) (L1 := [(4, .int (bi x47)), (0, .ref a0)]) (kX12_readPlea_1 44 rfl) rfl (Nat.le_of_ble_eq_true rfl) rfl ?_
                    refine X_iload (n := 269) 0 (kX12_readPlea_1 45 rfl) rfl rfl ?_
                    refine X_join 288 (fun S49 => [(0, .ref a0)]) (fun S49 => []) (fun S49 => S49) (fun S49 => ?_) (fun kJ => ?_)
                    · try dsimp only
                      refine X_aload_n (n := 289) 0 (kX12_readPlea_1 55 rfl) rfl rfl rfl ?_
                      refine X_dup (n := 290) (kX12_readPlea_1 56 rfl) rfl rfl ?_
                      refine X_getI (n := 293) xf_X12 hk0 (by decide) fl_X12_371 rfl (kX12_readPlea_1 57 rfl) rfl ?_
                      refine X_iconst (n := 294) (v := 1) (kX12_readPlea_1 58 rfl) rfl (by decide) ?_
                      refine X_iadd (n := 295) (kX12_readPlea_1 59 rfl) rfl ?_
                      refine X_putI (n := 298) xf_X12 hk0 (by decide) fl_X12_371 rfl rfl (Or.inl rfl) (kX12_readPlea_1 60 rfl) rfl ?_
                      refine X_iconst (n := 299) (v := 1) (kX12_readPlea_1 61 rfl) rfl (by decide) ?_
                      exact X_zret (b := true) rfl (kX12_readPlea_1 62 rfl)
                    · refine X_itebind ?_
                      refine X_bn (n := 272) (tgt := 288) (kX12_readPlea_1 46 rfl) rfl rfl (fun h50 => ?_) (fun h50 => ?_)
                      · exact X_L [1] rfl (kJ S48)
                      · refine X_aload_n (n := 273) 1 (kX12_readPlea_1 47 rfl) rfl rfl rfl ?_
                        refine X_getI (n := 276) xf_X12 hk0 (by decide) fl_X12_374 rfl (kX12_readPlea_1 48 rfl) rfl ?_
                        refine X_iconst (n := 277) (v := (-1)) (kX12_readPlea_1 49 rfl) rfl (by decide) ?_
                        refine X_itebind ?_
                        refine X_ic_ne (n := 280) (tgt := 288) (kX12_readPlea_1 50 rfl) rfl rfl (fun h51 => ?_) (fun h51 => ?_)
                        · refine X_aload_n (n := 281) 1 (kX12_readPlea_1 51 rfl) rfl rfl rfl ?_
                          refine X_aload_n (n := 282) 1 (kX12_readPlea_1 52 rfl) rfl rfl rfl ?_
                          refine X_getI (n := 285) xf_X12 hk0 (by decide) fl_X12_371 rfl (kX12_readPlea_1 53 rfl) rfl ?_
                          refine X_putI (n := 288) xf_X12 hk0 (by decide) fl_X12_374 rfl rfl (Or.inl rfl) (kX12_readPlea_1 54 rfl) rfl ?_
                          exact X_L [1] rfl (kJ (sI S48 a0 46 (S48.1 a0 45)))
                        · exact X_L [1] rfl (kJ S48)
                  · refine X_itebind ?_
                    refine X_if_ne (n := 196) (tgt := 218) (kX12_readPlea_1 4 rfl) rfl rfl (fun h52 => ?_) (fun h52 => ?_)
                    · refine X_aload_n (n := 197) 3 (kX12_readPlea_1 5 rfl) rfl rfl rfl ?_
                      refine X_getR (n := 200) xf_X12 hk0 (by decide) fl_X12_13 rfl (kX12_readPlea_1 6 rfl) rfl ?_
                      refine X_sipush (n := 203) (v := 145) (kX12_readPlea_1 7 rfl) rfl (by decide) ?_
                      refine X_iload_n (n := 204) 2 (kX12_readPlea_1 8 rfl) rfl rfl rfl ?_
                      refine X_iadd (n := 205) (kX12_readPlea_1 9 rfl) rfl ?_
                      refine X_itebind ?_
                      refine X_iald (n := 206) (kt_12_14 hk0) (kX12_readPlea_1 10 rfl) rfl (fun h54 => ?_)
                      refine X_iload_n (n := 207) 0 (kX12_readPlea_1 11 rfl) rfl rfl rfl ?_
                      refine X_itebind ?_
                      refine X_ic_ne (n := 210) (tgt := 214) (kX12_readPlea_1 12 rfl) rfl rfl (fun h53 => ?_) (fun h53 => ?_)
                      · refine X_iconst (n := 211) (v := 1) (kX12_readPlea_1 13 rfl) rfl (by decide) ?_
                        refine X_goto (tgt := 265) (kX12_readPlea_1 14 rfl) rfl ?_
                        exact X_L [3] rfl (kJ (true, S45))
                      · refine X_iconst (n := 215) (v := 0) (kX12_readPlea_1 15 rfl) rfl (by decide) ?_
                        refine X_goto (tgt := 265) (kX12_readPlea_1 16 rfl) rfl ?_
                        exact X_L [3] rfl (kJ (false, S45))
                    · refine X_iload_n (n := 219) 1 (kX12_readPlea_1 17 rfl) rfl rfl rfl ?_
                      refine X_iconst (n := 220) (v := 1) (kX12_readPlea_1 18 rfl) rfl (by decide) ?_
                      refine X_itebind ?_
                      refine X_ic_ne (n := 223) (tgt := 246) (kX12_readPlea_1 19 rfl) rfl rfl (fun h55 => ?_) (fun h55 => ?_)
                      · refine X_aload_n (n := 224) 3 (kX12_readPlea_1 20 rfl) rfl rfl rfl ?_
                        refine X_getR (n := 227) xf_X12 hk0 (by decide) fl_X12_13 rfl (kX12_readPlea_1 21 rfl) rfl ?_
                        refine X_aload_n (n := 228) 3 (kX12_readPlea_1 22 rfl) rfl rfl rfl ?_
                        refine X_iload_n (n := 229) 2 (kX12_readPlea_1 23 rfl) rfl rfl rfl ?_
                        refine X_assoc ?_
                        refine X_callVI (n := 232) (As := [.int (S2.1 a0 13)]) (st := [.ref (rf a0 14)]) (kX12_readPlea_1 24 rfl) rfl (w_X12_worn hk0) (by decide) ml_X12_266 mf_X12_worn rfl hk0 xf_X12 rfl (Nat.le_of_ble_eq_true rfl) (fun r56 S57 hq => ?_)
                        try dsimp only
                        refine X_iload_n (n := 233) 0 (kX12_readPlea_1 25 rfl) rfl rfl rfl ?_
                        refine X_iadd (n := 234) (kX12_readPlea_1 26 rfl) rfl ?_
                        refine X_itebind ?_
                        refine X_iald (n := 235) (kt_12_14 hk0) (kX12_readPlea_1 27 rfl) rfl (fun h59 => ?_)
                        refine X_itebind ?_
                        refine X_if_le (n := 238) (tgt := 242) (kX12_readPlea_1 28 rfl) rfl rfl (fun h58 => ?_) (fun h58 => ?_)
                        · refine X_iconst (n := 243) (v := 0) (kX12_readPlea_1 31 rfl) rfl (by decide) ?_
                          refine X_goto (tgt := 265) (kX12_readPlea_1 32 rfl) rfl ?_
                          exact X_L [3] rfl (kJ (false, S57))
                        · refine X_iconst (n := 239) (v := 1) (kX12_readPlea_1 29 rfl) rfl (by decide) ?_
                          refine X_goto (tgt := 265) (kX12_readPlea_1 30 rfl) rfl ?_
                          exact X_L [3] rfl (kJ (true, S57))
                      · refine X_aload_n (n := 247) 3 (kX12_readPlea_1 33 rfl) rfl rfl rfl ?_
                        refine X_getR (n := 250) xf_X12 hk0 (by decide) fl_X12_13 rfl (kX12_readPlea_1 34 rfl) rfl ?_
                        refine X_sipush (n := 253) (v := 151) (kX12_readPlea_1 35 rfl) rfl (by decide) ?_
                        refine X_iload_n (n := 254) 2 (kX12_readPlea_1 36 rfl) rfl rfl rfl ?_
                        refine X_iadd (n := 255) (kX12_readPlea_1 37 rfl) rfl ?_
                        refine X_itebind ?_
                        refine X_iald (n := 256) (kt_12_14 hk0) (kX12_readPlea_1 38 rfl) rfl (fun h61 => ?_)
                        refine X_iload_n (n := 257) 0 (kX12_readPlea_1 39 rfl) rfl rfl rfl ?_
                        refine X_itebind ?_
                        refine X_ic_ne (n := 260) (tgt := 264) (kX12_readPlea_1 40 rfl) rfl rfl (fun h60 => ?_) (fun h60 => ?_)
                        · refine X_iconst (n := 261) (v := 1) (kX12_readPlea_1 41 rfl) rfl (by decide) ?_
                          refine X_goto (tgt := 265) (kX12_readPlea_1 42 rfl) rfl ?_
                          exact X_L [3] rfl (kJ (true, S45))
                        · refine X_iconst (n := 265) (v := 0) (kX12_readPlea_1 43 rfl) rfl (by decide) ?_
                          exact X_L [3] rfl (kJ (false, S45))
                · refine X_iconst (n := 191) (v := 0) (kX12_readPlea_1 1 rfl) rfl (by decide) ?_
                  exact X_zret (b := false) rfl (kX12_readPlea_1 2 rfl)
              · refine X_goto (tgt := 172) (kX12_readPlea 80 rfl) rfl ?_
                refine X_iconst (n := 173) (v := 0) (kX12_readPlea 91 rfl) rfl (by decide) ?_
                exact X_zret (b := false) rfl (kX12_readPlea 92 rfl)
            · refine X_aload_n (n := 154) 2 (kX12_readPlea 81 rfl) rfl rfl rfl ?_
              refine X_aload_n (n := 155) 2 (kX12_readPlea 82 rfl) rfl rfl rfl ?_
              refine X_getR (n := 158) xf_X12 hk0 (by decide) fl_X12_28 rfl (kX12_readPlea 83 rfl) rfl ?_
              refine X_bipush (n := 160) (v := 12) (kX12_readPlea 84 rfl) rfl (by decide) ?_
              refine X_aload_n (n := 161) 2 (kX12_readPlea 85 rfl) rfl rfl rfl ?_
              refine X_getR (n := 164) xf_X12 hk0 (by decide) fl_X12_13 rfl (kX12_readPlea 86 rfl) rfl ?_
              refine X_iconst (n := 165) (v := 3) (kX12_readPlea 87 rfl) rfl (by decide) ?_
              refine X_iald' (n := 166) (kt_12_14 hk0) (kX12_readPlea 88 rfl) rfl (by rw [lt_12_14 hk0]; decide) ?_
              refine X_callVB (n := 169) (As := [.ref (rf a0 19), .int (12 : Int32), .int (S15.1 (rf a0 14) 3)]) (st := []) (kX12_readPlea 89 rfl) rfl (w_X12_isOne hk0 (kt_12_19 hk0)) (by decide) ml_X12_198 mf_X12_isOne rfl hk0 xf_X12 rfl (Nat.le_of_ble_eq_true rfl) (fun r62 S63 hq => ?_)
              try dsimp only
              refine X_bn (n := 172) (tgt := 174) (kX12_readPlea 90 rfl) rfl rfl (fun h64 => ?_) (fun h64 => ?_)
              · refine X_aload_n (n := 175) 2 (kX12_readPlea 93 rfl) rfl rfl rfl ?_
                refine X_getI (n := 178) xf_X12 hk0 (by decide) fl_X12_173 rfl (kX12_readPlea 94 rfl) rfl ?_
                refine X_istore_n (n := 179) (L1 := [(3, .int (S63.1 a0 13)), (2, .int x10), (1, .int (S2.1 a0 13)), (0, .ref a0)]) (kX12_readPlea 95 rfl) rfl rfl (Nat.le_of_ble_eq_true rfl) rfl ?_
                refine X_aload_n (n := 180) 3 (kX12_readPlea 96 rfl) rfl rfl rfl ?_
                refine X_callVV (n := 183) (As := []) (st := []) (kX12_readPlea 97 rfl) rfl (w_X12_go hk0) (by decide) ml_X12_180 mf_X12_go rfl hk0 xf_X12 rfl (Nat.le_of_ble_eq_true rfl) (fun S65 hq => ?_)
                try dsimp only
                refine X_aload_n (n := 184) 3 (kX12_readPlea 98 rfl) rfl rfl rfl ?_
                refine X_callVB (n := 187) (As := []) (st := []) (kX12_readPlea 99 rfl) rfl (w_X12_readEnd hk0) (by decide) ml_X12_235 mf_X12_readEnd rfl hk0 xf_X12 rfl (Nat.le_of_ble_eq_true rfl) (fun r66 S67 hq => ?_)
                try dsimp only
                refine X_bn (n := 190) (tgt := 192) (kX12_readPlea_1 0 rfl) rfl rfl (fun h68 => ?_) (fun h68 => ?_)
                · refine X_iload_n (n := 193) 1 (kX12_readPlea_1 3 rfl) rfl rfl rfl ?_
                  refine X_join 265 (fun q => match q with | (x69, S70) => [(0, .ref a0)]) (fun q => match q with | (x69, S70) => [.int (bi x69)]) (fun q => match q with | (x69, S70) => S70) (fun q => ?_) (fun kJ => ?_)
                  · obtain ⟨x69, S70⟩ := q
                    dsimp only
                    refine X_istore (n := 267) (L1 := [(4, .int (bi x69)), (0, .ref a0)]) (kX12_readPlea_1 44 rfl) rfl (Nat.le_of_ble_eq_true rfl) rfl ?_
                    refine X_iload (n := 269) 0 (kX12_readPlea_1 45 rfl) rfl rfl ?_
                    refine X_join 288 (fun S71 => [(0, .ref a0)]) (fun S71 => []) (fun S71 => S71) (fun S71 => ?_) (fun kJ => ?_)
                    · try dsimp only
                      refine X_aload_n (n := 289) 0 (kX12_readPlea_1 55 rfl) rfl rfl rfl ?_
                      refine X_dup (n := 290) (kX12_readPlea_1 56 rfl) rfl rfl ?_
                      refine X_getI (n := 293) xf_X12 hk0 (by decide) fl_X12_371 rfl (kX12_readPlea_1 57 rfl) rfl ?_
                      refine X_iconst (n := 294) (v := 1) (kX12_readPlea_1 58 rfl) rfl (by decide) ?_
                      refine X_iadd (n := 295) (kX12_readPlea_1 59 rfl) rfl ?_
                      refine X_putI (n := 298) xf_X12 hk0 (by decide) fl_X12_371 rfl rfl (Or.inl rfl) (kX12_readPlea_1 60 rfl) rfl ?_
                      refine X_iconst (n := 299) (v := 1) (kX12_readPlea_1 61 rfl) rfl (by decide) ?_
                      exact X_zret (b := true) rfl (kX12_readPlea_1 62 rfl)
                    · refine X_itebind ?_
                      refine X_bn (n := 272) (tgt := 288) (kX12_readPlea_1 46 rfl) rfl rfl (fun h72 => ?_) (fun h72 => ?_)
                      · exact X_L [1] rfl (kJ S70)
                      · refine X_aload_n (n := 273) 1 (kX12_readPlea_1 47 rfl) rfl rfl rfl ?_
                        refine X_getI (n := 276) xf_X12 hk0 (by decide) fl_X12_374 rfl (kX12_readPlea_1 48 rfl) rfl ?_
                        refine X_iconst (n := 277) (v := (-1)) (kX12_readPlea_1 49 rfl) rfl (by decide) ?_
                        refine X_itebind ?_
                        refine X_ic_ne (n := 280) (tgt := 288) (kX12_readPlea_1 50 rfl) rfl rfl (fun h73 => ?_) (fun h73 => ?_)
                        · refine X_aload_n (n := 281) 1 (kX12_readPlea_1 51 rfl) rfl rfl rfl ?_
                          refine X_aload_n (n := 282) 1 (kX12_readPlea_1 52 rfl) rfl rfl rfl ?_
                          refine X_getI (n := 285) xf_X12 hk0 (by decide) fl_X12_371 rfl (kX12_readPlea_1 53 rfl) rfl ?_
                          refine X_putI (n := 288) xf_X12 hk0 (by decide) fl_X12_374 rfl rfl (Or.inl rfl) (kX12_readPlea_1 54 rfl) rfl ?_
                          exact X_L [1] rfl (kJ (sI S70 a0 46 (S70.1 a0 45)))
                        · exact X_L [1] rfl (kJ S70)
                  · refine X_itebind ?_
                    refine X_if_ne (n := 196) (tgt := 218) (kX12_readPlea_1 4 rfl) rfl rfl (fun h74 => ?_) (fun h74 => ?_)
                    · refine X_aload_n (n := 197) 3 (kX12_readPlea_1 5 rfl) rfl rfl rfl ?_
                      refine X_getR (n := 200) xf_X12 hk0 (by decide) fl_X12_13 rfl (kX12_readPlea_1 6 rfl) rfl ?_
                      refine X_sipush (n := 203) (v := 145) (kX12_readPlea_1 7 rfl) rfl (by decide) ?_
                      refine X_iload_n (n := 204) 2 (kX12_readPlea_1 8 rfl) rfl rfl rfl ?_
                      refine X_iadd (n := 205) (kX12_readPlea_1 9 rfl) rfl ?_
                      refine X_itebind ?_
                      refine X_iald (n := 206) (kt_12_14 hk0) (kX12_readPlea_1 10 rfl) rfl (fun h76 => ?_)
                      refine X_iload_n (n := 207) 0 (kX12_readPlea_1 11 rfl) rfl rfl rfl ?_
                      refine X_itebind ?_
                      refine X_ic_ne (n := 210) (tgt := 214) (kX12_readPlea_1 12 rfl) rfl rfl (fun h75 => ?_) (fun h75 => ?_)
                      · refine X_iconst (n := 211) (v := 1) (kX12_readPlea_1 13 rfl) rfl (by decide) ?_
                        refine X_goto (tgt := 265) (kX12_readPlea_1 14 rfl) rfl ?_
                        exact X_L [3] rfl (kJ (true, S67))
                      · refine X_iconst (n := 215) (v := 0) (kX12_readPlea_1 15 rfl) rfl (by decide) ?_
                        refine X_goto (tgt := 265) (kX12_readPlea_1 16 rfl) rfl ?_
                        exact X_L [3] rfl (kJ (false, S67))
                    · refine X_iload_n (n := 219) 1 (kX12_readPlea_1 17 rfl) rfl rfl rfl ?_
                      refine X_iconst (n := 220) (v := 1) (kX12_readPlea_1 18 rfl) rfl (by decide) ?_
                      refine X_itebind ?_
                      refine X_ic_ne (n := 223) (tgt := 246) (kX12_readPlea_1 19 rfl) rfl rfl (fun h77 => ?_) (fun h77 => ?_)
                      · refine X_aload_n (n := 224) 3 (kX12_readPlea_1 20 rfl) rfl rfl rfl ?_
                        refine X_getR (n := 227) xf_X12 hk0 (by decide) fl_X12_13 rfl (kX12_readPlea_1 21 rfl) rfl ?_
                        refine X_aload_n (n := 228) 3 (kX12_readPlea_1 22 rfl) rfl rfl rfl ?_
                        refine X_iload_n (n := 229) 2 (kX12_readPlea_1 23 rfl) rfl rfl rfl ?_
                        refine X_assoc ?_
                        refine X_callVI (n := 232) (As := [.int (S2.1 a0 13)]) (st := [.ref (rf a0 14)]) (kX12_readPlea_1 24 rfl) rfl (w_X12_worn hk0) (by decide) ml_X12_266 mf_X12_worn rfl hk0 xf_X12 rfl (Nat.le_of_ble_eq_true rfl) (fun r78 S79 hq => ?_)
                        try dsimp only
                        refine X_iload_n (n := 233) 0 (kX12_readPlea_1 25 rfl) rfl rfl rfl ?_
                        refine X_iadd (n := 234) (kX12_readPlea_1 26 rfl) rfl ?_
                        refine X_itebind ?_
                        refine X_iald (n := 235) (kt_12_14 hk0) (kX12_readPlea_1 27 rfl) rfl (fun h81 => ?_)
                        refine X_itebind ?_
                        refine X_if_le (n := 238) (tgt := 242) (kX12_readPlea_1 28 rfl) rfl rfl (fun h80 => ?_) (fun h80 => ?_)
                        · refine X_iconst (n := 243) (v := 0) (kX12_readPlea_1 31 rfl) rfl (by decide) ?_
                          refine X_goto (tgt := 265) (kX12_readPlea_1 32 rfl) rfl ?_
                          exact X_L [3] rfl (kJ (false, S79))
                        · refine X_iconst (n := 239) (v := 1) (kX12_readPlea_1 29 rfl) rfl (by decide) ?_
                          refine X_goto (tgt := 265) (kX12_readPlea_1 30 rfl) rfl ?_
                          exact X_L [3] rfl (kJ (true, S79))
                      · refine X_aload_n (n := 247) 3 (kX12_readPlea_1 33 rfl) rfl rfl rfl ?_
                        refine X_getR (n := 250) xf_X12 hk0 (by decide) fl_X12_13 rfl (kX12_readPlea_1 34 rfl) rfl ?_
                        refine X_sipush (n := 253) (v := 151) (kX12_readPlea_1 35 rfl) rfl (by decide) ?_
                        refine X_iload_n (n := 254) 2 (kX12_readPlea_1 36 rfl) rfl rfl rfl ?_
                        refine X_iadd (n := 255) (kX12_readPlea_1 37 rfl) rfl ?_
                        refine X_itebind ?_
                        refine X_iald (n := 256) (kt_12_14 hk0) (kX12_readPlea_1 38 rfl) rfl (fun h83 => ?_)
                        refine X_iload_n (n := 257) 0 (kX12_readPlea_1 39 rfl) rfl rfl rfl ?_
                        refine X_itebind ?_
                        refine X_ic_ne (n := 260) (tgt := 264) (kX12_readPlea_1 40 rfl) rfl rfl (fun h82 => ?_) (fun h82 => ?_)
                        · refine X_iconst (n := 261) (v := 1) (kX12_readPlea_1 41 rfl) rfl (by decide) ?_
                          refine X_goto (tgt := 265) (kX12_readPlea_1 42 rfl) rfl ?_
                          exact X_L [3] rfl (kJ (true, S67))
                        · refine X_iconst (n := 265) (v := 0) (kX12_readPlea_1 43 rfl) rfl (by decide) ?_
                          exact X_L [3] rfl (kJ (false, S67))
                · refine X_iconst (n := 191) (v := 0) (kX12_readPlea_1 1 rfl) rfl (by decide) ?_
                  exact X_zret (b := false) rfl (kX12_readPlea_1 2 rfl)
              · refine X_iconst (n := 173) (v := 0) (kX12_readPlea 91 rfl) rfl (by decide) ?_
                exact X_zret (b := false) rfl (kX12_readPlea 92 rfl)
      · refine X_itebind ?_
        refine X_bz (n := 54) (tgt := 58) (kX12_readPlea 28 rfl) rfl rfl (fun h84 => ?_) (fun h84 => ?_)
        · refine X_iconst (n := 55) (v := 0) (kX12_readPlea 29 rfl) rfl (by decide) ?_
          refine X_goto (tgt := 85) (kX12_readPlea 30 rfl) rfl ?_
          exact X_L [0, 1] rfl (kJ ((0 : Int32), S9))
        · refine X_aload_n (n := 59) 1 (kX12_readPlea 31 rfl) rfl rfl rfl ?_
          refine X_bipush (n := 61) (v := 13) (kX12_readPlea 32 rfl) rfl (by decide) ?_
          refine X_assoc ?_
          refine X_callVB (n := 64) (As := [.int (13 : Int32)]) (st := []) (kX12_readPlea 33 rfl) rfl (w_X12_isWord hk0) (by decide) ml_X12_214 mf_X12_isWord rfl hk0 xf_X12 rfl (Nat.le_of_ble_eq_true rfl) (fun r85 S86 hq => ?_)
          try dsimp only
          refine X_itebind ?_
          refine X_bz (n := 67) (tgt := 71) (kX12_readPlea 34 rfl) rfl rfl (fun h87 => ?_) (fun h87 => ?_)
          · refine X_iconst (n := 68) (v := 1) (kX12_readPlea 35 rfl) rfl (by decide) ?_
            refine X_goto (tgt := 85) (kX12_readPlea 36 rfl) rfl ?_
            exact X_L [0, 1] rfl (kJ ((1 : Int32), S86))
          · refine X_aload_n (n := 72) 1 (kX12_readPlea 37 rfl) rfl rfl rfl ?_
            refine X_bipush (n := 74) (v := 6) (kX12_readPlea 38 rfl) rfl (by decide) ?_
            refine X_assoc ?_
            refine X_callVB (n := 77) (As := [.int (6 : Int32)]) (st := []) (kX12_readPlea 39 rfl) rfl (w_X12_isWord hk0) (by decide) ml_X12_214 mf_X12_isWord rfl hk0 xf_X12 rfl (Nat.le_of_ble_eq_true rfl) (fun r88 S89 hq => ?_)
            try dsimp only
            refine X_itebind ?_
            refine X_bz (n := 80) (tgt := 84) (kX12_readPlea 40 rfl) rfl rfl (fun h90 => ?_) (fun h90 => ?_)
            · refine X_iconst (n := 81) (v := 2) (kX12_readPlea 41 rfl) rfl (by decide) ?_
              refine X_goto (tgt := 85) (kX12_readPlea 42 rfl) rfl ?_
              exact X_L [0, 1] rfl (kJ ((2 : Int32), S89))
            · refine X_iconst (n := 85) (v := (-1)) (kX12_readPlea 43 rfl) rfl (by decide) ?_
              exact X_L [0, 1] rfl (kJ ((-1 : Int32), S89))
  · refine X_iconst (n := 20) (v := 0) (kX12_readPlea 10 rfl) rfl (by decide) ?_
    exact X_zret (b := false) rfl (kX12_readPlea 11 rfl)
def f_X12_drawn  (a0 : Nat) (i1 : Int32) (i2 : Int32) (S : XS) : Option (Int32 × XS) := (if (t_X12_isIn i1 (1 : Int32) (60 : Int32)) = true then (if (t_X12_canDraw a0 i1 (sI S a0 0 (0 : Int32))) = true then ((f_X12_snap a0 (sI S a0 0 (0 : Int32))).bind (fun S3 => ((f_X12_drawHours a0 i1 i2 S3).bind (fun S4 => some (((sI (sI (sI S4 (rf a0 51) 0 (S4.1 a0 48)) (rf a0 51) 1 ((sI S4 (rf a0 51) 0 (S4.1 a0 48)).1 a0 49)) (rf a0 51) 2 ((sI (sI S4 (rf a0 51) 0 (S4.1 a0 48)) (rf a0 51) 1 ((sI S4 (rf a0 51) 0 (S4.1 a0 48)).1 a0 49)).1 a0 50)).1 (rf a0 14) 144), (sI (sI (sI S4 (rf a0 51) 0 (S4.1 a0 48)) (rf a0 51) 1 ((sI S4 (rf a0 51) 0 (S4.1 a0 48)).1 a0 49)) (rf a0 51) 2 ((sI (sI S4 (rf a0 51) 0 (S4.1 a0 48)) (rf a0 51) 1 ((sI S4 (rf a0 51) 0 (S4.1 a0 48)).1 a0 49)).1 a0 50))))))) else some ((-1 : Int32), (sI S a0 0 (0 : Int32)))) else some ((-1 : Int32), (sI S a0 0 (0 : Int32))))
set_option maxHeartbeats 4000000 in
set_option maxRecDepth 100000 in
theorem w_X12_drawn {l : Launch} {g : XG}  {a0 : Nat} {i1 : Int32} {i2 : Int32} {S : XS} (hk0 : kd a0 = 12) : Cl φI l g 5 mX12_drawn [.ref a0, .int i1, .int i2] S (f_X12_drawn a0 i1 i2 S) := by
  refine Cl.of (by decide +kernel) (Nat.le_of_ble_eq_true rfl) ?_
  unfold f_X12_drawn
  show X _ _ _ _ _ 0 [(0, .ref a0), (1, .int i1), (2, .int i2)] [] S _
  refine X_aload_n (n := 1) 0 (kX12_drawn 0 rfl) rfl rfl rfl ?_
  refine X_iconst (n := 2) (v := 0) (kX12_drawn 1 rfl) rfl (by decide) ?_
  refine X_putI (n := 5) xf_X12 hk0 (by decide) fl_X12_100 rfl rfl (Or.inl rfl) (kX12_drawn 2 rfl) rfl ?_
  refine X_iload_n (n := 6) 1 (kX12_drawn 3 rfl) rfl rfl rfl ?_
  refine X_iconst (n := 7) (v := 1) (kX12_drawn 4 rfl) rfl (by decide) ?_
  refine X_bipush (n := 9) (v := 60) (kX12_drawn 5 rfl) rfl (by decide) ?_
  refine X_callS1B (n := 12) (As := [.int i1, .int (1 : Int32), .int (60 : Int32)]) (st := []) (kX12_drawn 6 rfl) rfl p_X12_isIn (by decide) ml_X12_169 mf_X12_isIn rfl rfl (Nat.le_of_ble_eq_true rfl) ?_
  refine X_bz (n := 15) (tgt := 23) (kX12_drawn 7 rfl) rfl rfl (fun h1 => ?_) (fun h1 => ?_)
  · refine X_aload_n (n := 16) 0 (kX12_drawn 8 rfl) rfl rfl rfl ?_
    refine X_iload_n (n := 17) 1 (kX12_drawn 9 rfl) rfl rfl rfl ?_
    refine X_callV1B (n := 20) (As := [.int i1]) (st := []) (kX12_drawn 10 rfl) rfl (p_X12_canDraw hk0) (by decide) ml_X12_396 mf_X12_canDraw rfl hk0 xf_X12 rfl (Nat.le_of_ble_eq_true rfl) ?_
    refine X_bn (n := 23) (tgt := 25) (kX12_drawn 11 rfl) rfl rfl (fun h2 => ?_) (fun h2 => ?_)
    · refine X_aload_n (n := 26) 0 (kX12_drawn 14 rfl) rfl rfl rfl ?_
      refine X_callVV (n := 29) (As := []) (st := []) (kX12_drawn 15 rfl) rfl (w_X12_snap hk0) (by decide) ml_X12_307 mf_X12_snap rfl hk0 xf_X12 rfl (Nat.le_of_ble_eq_true rfl) (fun S3 hq => ?_)
      try dsimp only
      refine X_aload_n (n := 30) 0 (kX12_drawn 16 rfl) rfl rfl rfl ?_
      refine X_iload_n (n := 31) 1 (kX12_drawn 17 rfl) rfl rfl rfl ?_
      refine X_iload_n (n := 32) 2 (kX12_drawn 18 rfl) rfl rfl rfl ?_
      refine X_callVV (n := 35) (As := [.int i1, .int i2]) (st := []) (kX12_drawn 19 rfl) rfl (w_X12_drawHours hk0) (by decide) ml_X12_399 mf_X12_drawHours rfl hk0 xf_X12 rfl (Nat.le_of_ble_eq_true rfl) (fun S4 hq => ?_)
      try dsimp only
      refine X_aload_n (n := 36) 0 (kX12_drawn 20 rfl) rfl rfl rfl ?_
      refine X_getR (n := 39) xf_X12 hk0 (by decide) fl_X12_88 rfl (kX12_drawn 21 rfl) rfl ?_
      refine X_iconst (n := 40) (v := 0) (kX12_drawn 22 rfl) rfl (by decide) ?_
      refine X_aload_n (n := 41) 0 (kX12_drawn 23 rfl) rfl rfl rfl ?_
      refine X_getI (n := 44) xf_X12 hk0 (by decide) fl_X12_384 rfl (kX12_drawn 24 rfl) rfl ?_
      refine X_iast' (n := 45) (kt_12_51 hk0) (kX12_drawn 25 rfl) rfl (by rw [lt_12_51 hk0]; decide) ?_
      refine X_aload_n (n := 46) 0 (kX12_drawn 26 rfl) rfl rfl rfl ?_
      refine X_getR (n := 49) xf_X12 hk0 (by decide) fl_X12_88 rfl (kX12_drawn 27 rfl) rfl ?_
      refine X_iconst (n := 50) (v := 1) (kX12_drawn 28 rfl) rfl (by decide) ?_
      refine X_aload_n (n := 51) 0 (kX12_drawn 29 rfl) rfl rfl rfl ?_
      refine X_getI (n := 54) xf_X12 hk0 (by decide) fl_X12_387 rfl (kX12_drawn 30 rfl) rfl ?_
      refine X_iast' (n := 55) (kt_12_51 hk0) (kX12_drawn 31 rfl) rfl (by rw [lt_12_51 hk0]; decide) ?_
      refine X_aload_n (n := 56) 0 (kX12_drawn 32 rfl) rfl rfl rfl ?_
      refine X_getR (n := 59) xf_X12 hk0 (by decide) fl_X12_88 rfl (kX12_drawn 33 rfl) rfl ?_
      refine X_iconst (n := 60) (v := 2) (kX12_drawn 34 rfl) rfl (by decide) ?_
      refine X_aload_n (n := 61) 0 (kX12_drawn 35 rfl) rfl rfl rfl ?_
      refine X_getI (n := 64) xf_X12 hk0 (by decide) fl_X12_390 rfl (kX12_drawn 36 rfl) rfl ?_
      refine X_iast' (n := 65) (kt_12_51 hk0) (kX12_drawn 37 rfl) rfl (by rw [lt_12_51 hk0]; decide) ?_
      refine X_aload_n (n := 66) 0 (kX12_drawn 38 rfl) rfl rfl rfl ?_
      refine X_getR (n := 69) xf_X12 hk0 (by decide) fl_X12_13 rfl (kX12_drawn 39 rfl) rfl ?_
      refine X_sipush (n := 72) (v := 144) (kX12_drawn 40 rfl) rfl (by decide) ?_
      refine X_iald' (n := 73) (kt_12_14 hk0) (kX12_drawn 41 rfl) rfl (by rw [lt_12_14 hk0]; decide) ?_
      exact X_iret rfl (kX12_drawn 42 rfl)
    · refine X_iconst (n := 24) (v := (-1)) (kX12_drawn 12 rfl) rfl (by decide) ?_
      exact X_iret rfl (kX12_drawn 13 rfl)
  · refine X_iconst (n := 24) (v := (-1)) (kX12_drawn 12 rfl) rfl (by decide) ?_
    exact X_iret rfl (kX12_drawn 13 rfl)
def f_X12_odds_L40  (a0 : Nat) (i1 : Int32) (i2 : Int32) (i3 : Int32) : Nat → Int32 → Int32 → XS → Option (Int32 × XS)
  | 0, _, _, _ => none
  | n + 1, i4, i5, S => (if i2 ≤ i5 then some (i4, S) else ((f_X12_layAside a0 S).bind (fun S5 => ((f_X12_drawHours a0 (20 : Int32) (i3 + i5) S5).bind (fun S6 => (if ((151 : Int32) + i1) < 0 ∨ ln (rf a0 14) ≤ ((151 : Int32) + i1).toNatClampNeg then none else ((if (S6.1 (rf a0 14) ((151 : Int32) + i1).toNatClampNeg) = i1 then some (i4 + 1) else some i4).bind (fun x7 => ((f_X12_layBack a0 S6).bind (fun S8 => f_X12_odds_L40 a0 i1 i2 i3 n x7 (i5 + 1) S8))))))))))
def f_X12_odds  (a0 : Nat) (i1 : Int32) (i2 : Int32) (i3 : Int32) (S : XS) : Option (Int32 × XS) := (if (t_X12_isWitness a0 i1 (sI S a0 0 (0 : Int32))) = true then (if (t_X12_isIn i2 (1 : Int32) (40 : Int32)) = true then (if (t_X12_canDraw a0 (20 : Int32) (sI S a0 0 (0 : Int32))) = true then ((f_X12_odds_L40 a0 i1 i2 i3 1000000 (0 : Int32) (0 : Int32) (sI S a0 0 (0 : Int32))).bind (fun q => match q with | (e11, S12) => some (e11, S12))) else some ((-1 : Int32), (sI S a0 0 (0 : Int32)))) else some ((-1 : Int32), (sI S a0 0 (0 : Int32)))) else some ((-1 : Int32), (sI S a0 0 (0 : Int32))))
set_option maxHeartbeats 4000000 in
set_option maxRecDepth 100000 in
theorem w_X12_odds_L40 {l : Launch} {g : XG} {G : (Int32 × XS) → Option (Int32 × XS)}  {a0 : Nat} {i1 : Int32} {i2 : Int32} {i3 : Int32} (hk0 : kd a0 = 12) (kE : ∀ (e4 : Int32) (S1 : XS), X φI l g 5 mX12_odds 87 [(4, .int e4)] [] S1 (G (e4, S1))) : ∀ (n : Nat) (i4 : Int32) (i5 : Int32) (S : XS), X φI l g 5 mX12_odds 40 [(5, .int i5), (4, .int i4), (0, .ref a0), (1, .int i1), (2, .int i2), (3, .int i3)] [] S ((f_X12_odds_L40 a0 i1 i2 i3 n i4 i5 S).bind G) := by
  intro n
  induction n with
  | zero => intro i4 i5 S; exact X_none
  | succ n ih =>
  · intro i4 i5 S
    rw [f_X12_odds_L40]
    refine X_iload (n := 42) 0 (kX12_odds 22 rfl) rfl rfl ?_
    refine X_iload_n (n := 43) 4 (kX12_odds 23 rfl) rfl rfl rfl ?_
    refine X_itebind ?_
    refine X_ic_ge (n := 46) (tgt := 87) (kX12_odds 24 rfl) rfl rfl (fun h4 => ?_) (fun h4 => ?_)
    · exact X_L [1] rfl (kE i4 S)
    · refine X_aload_n (n := 47) 2 (kX12_odds 25 rfl) rfl rfl rfl ?_
      refine X_assoc ?_
      refine X_callVV (n := 50) (As := []) (st := []) (kX12_odds 26 rfl) rfl (w_X12_layAside hk0) (by decide) ml_X12_354 mf_X12_layAside rfl hk0 xf_X12 rfl (Nat.le_of_ble_eq_true rfl) (fun S5 hq => ?_)
      try dsimp only
      refine X_aload_n (n := 51) 2 (kX12_odds 27 rfl) rfl rfl rfl ?_
      refine X_bipush (n := 53) (v := 20) (kX12_odds 28 rfl) rfl (by decide) ?_
      refine X_iload_n (n := 54) 5 (kX12_odds 29 rfl) rfl rfl rfl ?_
      refine X_iload (n := 56) 0 (kX12_odds 30 rfl) rfl rfl ?_
      refine X_iadd (n := 57) (kX12_odds 31 rfl) rfl ?_
      refine X_assoc ?_
      refine X_callVV (n := 60) (As := [.int (20 : Int32), .int (i3 + i5)]) (st := []) (kX12_odds 32 rfl) rfl (w_X12_drawHours hk0) (by decide) ml_X12_399 mf_X12_drawHours rfl hk0 xf_X12 rfl (Nat.le_of_ble_eq_true rfl) (fun S6 hq => ?_)
      try dsimp only
      refine X_aload_n (n := 61) 2 (kX12_odds 33 rfl) rfl rfl rfl ?_
      refine X_getR (n := 64) xf_X12 hk0 (by decide) fl_X12_13 rfl (kX12_odds 34 rfl) rfl ?_
      refine X_sipush (n := 67) (v := 151) (kX12_odds 35 rfl) rfl (by decide) ?_
      refine X_iload_n (n := 68) 3 (kX12_odds 36 rfl) rfl rfl rfl ?_
      refine X_iadd (n := 69) (kX12_odds 37 rfl) rfl ?_
      refine X_itebind ?_
      refine X_iald (n := 70) (kt_12_14 hk0) (kX12_odds 38 rfl) rfl (fun h10 => ?_)
      refine X_iload_n (n := 71) 3 (kX12_odds 39 rfl) rfl rfl rfl ?_
      refine X_assoc ?_
      refine X_join 77 (fun x7 => [(5, .int i5), (0, .ref a0), (1, .int i1), (2, .int i2), (3, .int i3), (4, .int x7)]) (fun x7 => []) (fun x7 => S6) (fun x7 => ?_) (fun kJ => ?_)
      · try dsimp only
        refine X_aload_n (n := 78) 1 (kX12_odds 42 rfl) rfl rfl rfl ?_
        refine X_assoc ?_
        refine X_callVV (n := 81) (As := []) (st := []) (kX12_odds 43 rfl) rfl (w_X12_layBack hk0) (by decide) ml_X12_360 mf_X12_layBack rfl hk0 xf_X12 rfl (Nat.le_of_ble_eq_true rfl) (fun S8 hq => ?_)
        try dsimp only
        refine X_iinc (n := 84) 0 (v := (i5 + 1)) (L1 := [(5, .int (i5 + 1)), (0, .ref a0), (1, .int i1), (2, .int i2), (3, .int i3), (4, .int x7)]) (kX12_odds 44 rfl) rfl rfl rfl (Nat.le_of_ble_eq_true rfl) rfl ?_
        refine X_goto (tgt := 40) (kX12_odds 45 rfl) rfl ?_
        exact X_L [0, 5, 1, 2, 3, 4] rfl (ih x7 (i5 + 1) S8)
      · refine X_itebind ?_
        refine X_ic_ne (n := 74) (tgt := 77) (kX12_odds 40 rfl) rfl rfl (fun h9 => ?_) (fun h9 => ?_)
        · refine X_iinc (n := 77) 1 (v := (i4 + 1)) (L1 := [(4, .int (i4 + 1)), (5, .int i5), (0, .ref a0), (1, .int i1), (2, .int i2), (3, .int i3)]) (kX12_odds 41 rfl) rfl rfl rfl (Nat.le_of_ble_eq_true rfl) rfl ?_
          exact X_L [1, 2, 3, 4, 5, 0] rfl (kJ (i4 + 1))
        · exact X_L [0, 2, 3, 4, 5, 1] rfl (kJ i4)
set_option maxHeartbeats 4000000 in
set_option maxRecDepth 100000 in
theorem w_X12_odds {l : Launch} {g : XG}  {a0 : Nat} {i1 : Int32} {i2 : Int32} {i3 : Int32} {S : XS} (hk0 : kd a0 = 12) : Cl φI l g 5 mX12_odds [.ref a0, .int i1, .int i2, .int i3] S (f_X12_odds a0 i1 i2 i3 S) := by
  refine Cl.of (by decide +kernel) (Nat.le_of_ble_eq_true rfl) ?_
  unfold f_X12_odds
  show X _ _ _ _ _ 0 [(0, .ref a0), (1, .int i1), (2, .int i2), (3, .int i3)] [] S _
  refine X_aload_n (n := 1) 0 (kX12_odds 0 rfl) rfl rfl rfl ?_
  refine X_iconst (n := 2) (v := 0) (kX12_odds 1 rfl) rfl (by decide) ?_
  refine X_putI (n := 5) xf_X12 hk0 (by decide) fl_X12_100 rfl rfl (Or.inl rfl) (kX12_odds 2 rfl) rfl ?_
  refine X_aload_n (n := 6) 0 (kX12_odds 3 rfl) rfl rfl rfl ?_
  refine X_iload_n (n := 7) 1 (kX12_odds 4 rfl) rfl rfl rfl ?_
  refine X_callV1B (n := 10) (As := [.int i1]) (st := []) (kX12_odds 5 rfl) rfl (p_X12_isWitness hk0) (by decide) ml_X12_263 mf_X12_isWitness rfl hk0 xf_X12 rfl (Nat.le_of_ble_eq_true rfl) ?_
  refine X_bz (n := 13) (tgt := 32) (kX12_odds 6 rfl) rfl rfl (fun h1 => ?_) (fun h1 => ?_)
  · refine X_iload_n (n := 14) 2 (kX12_odds 7 rfl) rfl rfl rfl ?_
    refine X_iconst (n := 15) (v := 1) (kX12_odds 8 rfl) rfl (by decide) ?_
    refine X_bipush (n := 17) (v := 40) (kX12_odds 9 rfl) rfl (by decide) ?_
    refine X_callS1B (n := 20) (As := [.int i2, .int (1 : Int32), .int (40 : Int32)]) (st := []) (kX12_odds 10 rfl) rfl p_X12_isIn (by decide) ml_X12_169 mf_X12_isIn rfl rfl (Nat.le_of_ble_eq_true rfl) ?_
    refine X_bz (n := 23) (tgt := 32) (kX12_odds 11 rfl) rfl rfl (fun h2 => ?_) (fun h2 => ?_)
    · refine X_aload_n (n := 24) 0 (kX12_odds 12 rfl) rfl rfl rfl ?_
      refine X_bipush (n := 26) (v := 20) (kX12_odds 13 rfl) rfl (by decide) ?_
      refine X_callV1B (n := 29) (As := [.int (20 : Int32)]) (st := []) (kX12_odds 14 rfl) rfl (p_X12_canDraw hk0) (by decide) ml_X12_396 mf_X12_canDraw rfl hk0 xf_X12 rfl (Nat.le_of_ble_eq_true rfl) ?_
      refine X_bn (n := 32) (tgt := 34) (kX12_odds 15 rfl) rfl rfl (fun h3 => ?_) (fun h3 => ?_)
      · refine X_iconst (n := 35) (v := 0) (kX12_odds 18 rfl) rfl (by decide) ?_
        refine X_istore (n := 37) (L1 := [(4, .int 0), (0, .ref a0), (1, .int i1), (2, .int i2), (3, .int i3)]) (kX12_odds 19 rfl) rfl (Nat.le_of_ble_eq_true rfl) rfl ?_
        refine X_iconst (n := 38) (v := 0) (kX12_odds 20 rfl) rfl (by decide) ?_
        refine X_istore (n := 40) (L1 := [(5, .int 0), (4, .int 0), (0, .ref a0), (1, .int i1), (2, .int i2), (3, .int i3)]) (kX12_odds 21 rfl) rfl (Nat.le_of_ble_eq_true rfl) rfl ?_
        refine X_L [0, 1, 2, 3, 4, 5] rfl (w_X12_odds_L40 hk0 (fun e11 S12 => ?_) 1000000 (0 : Int32) (0 : Int32) (sI S a0 0 (0 : Int32)))
        try dsimp only
        refine X_iload (n := 89) 0 (kX12_odds 46 rfl) rfl rfl ?_
        exact X_iret rfl (kX12_odds 47 rfl)
      · refine X_iconst (n := 33) (v := (-1)) (kX12_odds 16 rfl) rfl (by decide) ?_
        exact X_iret rfl (kX12_odds 17 rfl)
    · refine X_iconst (n := 33) (v := (-1)) (kX12_odds 16 rfl) rfl (by decide) ?_
      exact X_iret rfl (kX12_odds 17 rfl)
  · refine X_iconst (n := 33) (v := (-1)) (kX12_odds 16 rfl) rfl (by decide) ?_
    exact X_iret rfl (kX12_odds 17 rfl)
def f_X12_readNamed  (a0 : Nat) (i1 : Int32) (i2 : Int32) (i3 : Int32) (S : XS) : Option (Bool × XS) := ((f_X12_isOne a0 (rf a0 19) i2 i3 S).bind (fun q => match q with | (r1, S2) => (if r1 = true then ((f_X12_saysOne a0 ((50 : Int32) + i1) (S2.1 a0 13) (0 : Int32) (0 : Int32) S2).bind (fun q => match q with | (r4, S5) => ((f_X12_go a0 (sI S5 a0 59 r4)).bind (fun S6 => some (true, S6))))) else some (false, S2))))
set_option maxHeartbeats 4000000 in
set_option maxRecDepth 100000 in
theorem w_X12_readNamed {l : Launch} {g : XG}  {a0 : Nat} {i1 : Int32} {i2 : Int32} {i3 : Int32} {S : XS} (hk0 : kd a0 = 12) : Cl φB l g 5 mX12_readNamed [.ref a0, .int i1, .int i2, .int i3] S (f_X12_readNamed a0 i1 i2 i3 S) := by
  refine Cl.of (by decide +kernel) (Nat.le_of_ble_eq_true rfl) ?_
  unfold f_X12_readNamed
  show X _ _ _ _ _ 0 [(0, .ref a0), (1, .int i1), (2, .int i2), (3, .int i3)] [] S _
  refine X_aload_n (n := 1) 0 (kX12_readNamed 0 rfl) rfl rfl rfl ?_
  refine X_aload_n (n := 2) 0 (kX12_readNamed 1 rfl) rfl rfl rfl ?_
  refine X_getR (n := 5) xf_X12 hk0 (by decide) fl_X12_28 rfl (kX12_readNamed 2 rfl) rfl ?_
  refine X_iload_n (n := 6) 2 (kX12_readNamed 3 rfl) rfl rfl rfl ?_
  refine X_iload_n (n := 7) 3 (kX12_readNamed 4 rfl) rfl rfl rfl ?_
  refine X_callVB (n := 10) (As := [.ref (rf a0 19), .int i2, .int i3]) (st := []) (kX12_readNamed 5 rfl) rfl (w_X12_isOne hk0 (kt_12_19 hk0)) (by decide) ml_X12_198 mf_X12_isOne rfl hk0 xf_X12 rfl (Nat.le_of_ble_eq_true rfl) (fun r1 S2 hq => ?_)
  try dsimp only
  refine X_bn (n := 13) (tgt := 15) (kX12_readNamed 6 rfl) rfl rfl (fun h3 => ?_) (fun h3 => ?_)
  · refine X_aload_n (n := 16) 0 (kX12_readNamed 9 rfl) rfl rfl rfl ?_
    refine X_aload_n (n := 17) 0 (kX12_readNamed 10 rfl) rfl rfl rfl ?_
    refine X_bipush (n := 19) (v := 50) (kX12_readNamed 11 rfl) rfl (by decide) ?_
    refine X_iload_n (n := 20) 1 (kX12_readNamed 12 rfl) rfl rfl rfl ?_
    refine X_iadd (n := 21) (kX12_readNamed 13 rfl) rfl ?_
    refine X_aload_n (n := 22) 0 (kX12_readNamed 14 rfl) rfl rfl rfl ?_
    refine X_getI (n := 25) xf_X12 hk0 (by decide) fl_X12_173 rfl (kX12_readNamed 15 rfl) rfl ?_
    refine X_iconst (n := 26) (v := 0) (kX12_readNamed 16 rfl) rfl (by decide) ?_
    refine X_iconst (n := 27) (v := 0) (kX12_readNamed 17 rfl) rfl (by decide) ?_
    refine X_callVI (n := 30) (As := [.int ((50 : Int32) + i1), .int (S2.1 a0 13), .int (0 : Int32), .int (0 : Int32)]) (st := [.ref a0]) (kX12_readNamed 18 rfl) rfl (w_X12_saysOne hk0) (by decide) ml_X12_417 mf_X12_saysOne rfl hk0 xf_X12 rfl (Nat.le_of_ble_eq_true rfl) (fun r4 S5 hq => ?_)
    try dsimp only
    refine X_putI (n := 33) xf_X12 hk0 (by decide) fl_X12_414 rfl rfl (Or.inl rfl) (kX12_readNamed 19 rfl) rfl ?_
    refine X_aload_n (n := 34) 0 (kX12_readNamed 20 rfl) rfl rfl rfl ?_
    refine X_callVV (n := 37) (As := []) (st := []) (kX12_readNamed 21 rfl) rfl (w_X12_go hk0) (by decide) ml_X12_180 mf_X12_go rfl hk0 xf_X12 rfl (Nat.le_of_ble_eq_true rfl) (fun S6 hq => ?_)
    try dsimp only
    refine X_iconst (n := 38) (v := 1) (kX12_readNamed 22 rfl) rfl (by decide) ?_
    exact X_zret (b := true) rfl (kX12_readNamed 23 rfl)
  · refine X_iconst (n := 14) (v := 0) (kX12_readNamed 7 rfl) rfl (by decide) ?_
    exact X_zret (b := false) rfl (kX12_readNamed 8 rfl)
def f_X12_readSmoke_L108  (i4 : Int32) (i3 : Int32) (i2 : Int32) (i1 : Int32) (a0 : Nat) : Nat → Int32 → XS → Option ((Bool × XS) ⊕ (XS))
  | 0, _, _ => none
  | n + 1, i5, S => (if i1 ≤ i5 then some (.inr S) else (if ((48 : Int32) + ((3 : Int32) * i5)) < 0 ∨ ln (rf a0 15) ≤ ((48 : Int32) + ((3 : Int32) * i5)).toNatClampNeg then none else (if (S.1 (rf a0 15) ((48 : Int32) + ((3 : Int32) * i5)).toNatClampNeg) = i2 then (if (((48 : Int32) + ((3 : Int32) * i5)) + (1 : Int32)) < 0 ∨ ln (rf a0 15) ≤ (((48 : Int32) + ((3 : Int32) * i5)) + (1 : Int32)).toNatClampNeg then none else (if (S.1 (rf a0 15) (((48 : Int32) + ((3 : Int32) * i5)) + (1 : Int32)).toNatClampNeg) = i3 then (if (((48 : Int32) + ((3 : Int32) * i5)) + (2 : Int32)) < 0 ∨ ln (rf a0 15) ≤ (((48 : Int32) + ((3 : Int32) * i5)) + (2 : Int32)).toNatClampNeg then none else (if (S.1 (rf a0 15) (((48 : Int32) + ((3 : Int32) * i5)) + (2 : Int32)).toNatClampNeg) = i4 then ((f_X12_bad a0 (3 : Int32) S).bind (fun q => match q with | (r21, S22) => some (.inl (r21, S22)))) else f_X12_readSmoke_L108 i4 i3 i2 i1 a0 n (i5 + 1) S)) else f_X12_readSmoke_L108 i4 i3 i2 i1 a0 n (i5 + 1) S)) else f_X12_readSmoke_L108 i4 i3 i2 i1 a0 n (i5 + 1) S)))
def f_X12_readSmoke  (a0 : Nat) (S : XS) : Option (Bool × XS) := (if (S.1 (rf a0 15) 2) = (6 : Int32) then ((f_X12_bad a0 (4 : Int32) S).bind (fun q => match q with | (r2, S3) => some (r2, S3))) else ((f_X12_go a0 S).bind (fun S4 => ((f_X12_readOne a0 (0 : Int32) (S4.1 (rf a0 15) 0) S4).bind (fun q => match q with | (r5, S6) => (if r5 = true then ((f_X12_readOne a0 (6 : Int32) (S6.1 (rf a0 15) 1) S6).bind (fun q => match q with | (r8, S9) => (if r8 = true then ((f_X12_isOne a0 (rf a0 20) (6 : Int32) (S9.1 (rf a0 15) 1) S9).bind (fun q => match q with | (r11, S12) => (if r11 = true then (if (S9.1 a0 13) = (S12.1 a0 13) then ((f_X12_bad a0 (3 : Int32) S12).bind (fun q => match q with | (r15, S16) => some (r15, S16))) else ((f_X12_readSmoke_L108 (S12.1 a0 13) (S9.1 a0 13) (S6.1 a0 13) (S.1 (rf a0 15) 2) a0 1000000 (0 : Int32) S12).bind (fun q => match q with | .inl r => some r | .inr S26 => (if ((48 : Int32) + ((3 : Int32) * (S.1 (rf a0 15) 2))) < 0 ∨ ln (rf a0 15) ≤ ((48 : Int32) + ((3 : Int32) * (S.1 (rf a0 15) 2))).toNatClampNeg then none else (if (((48 : Int32) + ((3 : Int32) * (S.1 (rf a0 15) 2))) + (1 : Int32)) < 0 ∨ ln (rf a0 15) ≤ (((48 : Int32) + ((3 : Int32) * (S.1 (rf a0 15) 2))) + (1 : Int32)).toNatClampNeg then none else (if (((48 : Int32) + ((3 : Int32) * (S.1 (rf a0 15) 2))) + (2 : Int32)) < 0 ∨ ln (rf a0 15) ≤ (((48 : Int32) + ((3 : Int32) * (S.1 (rf a0 15) 2))) + (2 : Int32)).toNatClampNeg then none else ((f_X12_go a0 (sI (sI (sI (sI S26 (rf a0 15) (((48 : Int32) + ((3 : Int32) * (S.1 (rf a0 15) 2))).toNatClampNeg) (S6.1 a0 13)) (rf a0 15) ((((48 : Int32) + ((3 : Int32) * (S.1 (rf a0 15) 2))) + (1 : Int32)).toNatClampNeg) (S9.1 a0 13)) (rf a0 15) ((((48 : Int32) + ((3 : Int32) * (S.1 (rf a0 15) 2))) + (2 : Int32)).toNatClampNeg) (S12.1 a0 13)) (rf a0 15) 2 (((sI (sI (sI S26 (rf a0 15) (((48 : Int32) + ((3 : Int32) * (S.1 (rf a0 15) 2))).toNatClampNeg) (S6.1 a0 13)) (rf a0 15) ((((48 : Int32) + ((3 : Int32) * (S.1 (rf a0 15) 2))) + (1 : Int32)).toNatClampNeg) (S9.1 a0 13)) (rf a0 15) ((((48 : Int32) + ((3 : Int32) * (S.1 (rf a0 15) 2))) + (2 : Int32)).toNatClampNeg) (S12.1 a0 13)).1 (rf a0 15) 2) + (1 : Int32)))).bind (fun S27 => some (true, S27))))))))) else some (false, S12)))) else some (false, S9)))) else some (false, S6)))))))
set_option maxHeartbeats 4000000 in
set_option maxRecDepth 100000 in
theorem w_X12_readSmoke_L108 {l : Launch} {g : XG} {G : ((Bool × XS) ⊕ (XS)) → Option (Bool × XS)}  {i4 : Int32} {i3 : Int32} {i2 : Int32} {i1 : Int32} {a0 : Nat} (hk0 : kd a0 = 12) (kE : ∀ (S1 : XS), X φB l g 6 mX12_readSmoke 179 [(4, .int i4), (3, .int i3), (2, .int i2), (1, .int i1), (0, .ref a0)] [] S1 (G (.inr S1))) (kR : ∀ r, G (.inl r) = some r) : ∀ (n : Nat) (i5 : Int32) (S : XS), X φB l g 6 mX12_readSmoke 108 [(5, .int i5), (4, .int i4), (3, .int i3), (2, .int i2), (1, .int i1), (0, .ref a0)] [] S ((f_X12_readSmoke_L108 i4 i3 i2 i1 a0 n i5 S).bind G) := by
  intro n
  induction n with
  | zero => intro i5 S; exact X_none
  | succ n ih =>
  · intro i5 S
    rw [f_X12_readSmoke_L108]
    refine X_iload (n := 110) 0 (kX12_readSmoke 64 rfl) rfl rfl ?_
    refine X_iload_n (n := 111) 4 (kX12_readSmoke 65 rfl) rfl rfl rfl ?_
    refine X_itebind ?_
    refine X_ic_ge (n := 114) (tgt := 179) (kX12_readSmoke 66 rfl) rfl rfl (fun h17 => ?_) (fun h17 => ?_)
    · exact X_L [1, 2, 3, 4, 5] rfl (kE S)
    · refine X_aload_n (n := 115) 5 (kX12_readSmoke 67 rfl) rfl rfl rfl ?_
      refine X_getR (n := 118) xf_X12 hk0 (by decide) fl_X12_16 rfl (kX12_readSmoke 68 rfl) rfl ?_
      refine X_bipush (n := 120) (v := 48) (kX12_readSmoke 69 rfl) rfl (by decide) ?_
      refine X_iconst (n := 121) (v := 3) (kX12_readSmoke 70 rfl) rfl (by decide) ?_
      refine X_iload (n := 123) 0 (kX12_readSmoke 71 rfl) rfl rfl ?_
      refine X_imul (n := 124) (kX12_readSmoke 72 rfl) rfl ?_
      refine X_iadd (n := 125) (kX12_readSmoke 73 rfl) rfl ?_
      refine X_itebind ?_
      refine X_iald (n := 126) (kt_12_15 hk0) (kX12_readSmoke 74 rfl) rfl (fun h25 => ?_)
      refine X_iload_n (n := 127) 3 (kX12_readSmoke 75 rfl) rfl rfl rfl ?_
      refine X_itebind ?_
      refine X_ic_ne (n := 130) (tgt := 173) (kX12_readSmoke 76 rfl) rfl rfl (fun h18 => ?_) (fun h18 => ?_)
      · refine X_aload_n (n := 131) 5 (kX12_readSmoke 77 rfl) rfl rfl rfl ?_
        refine X_getR (n := 134) xf_X12 hk0 (by decide) fl_X12_16 rfl (kX12_readSmoke 78 rfl) rfl ?_
        refine X_bipush (n := 136) (v := 48) (kX12_readSmoke 79 rfl) rfl (by decide) ?_
        refine X_iconst (n := 137) (v := 3) (kX12_readSmoke 80 rfl) rfl (by decide) ?_
        refine X_iload (n := 139) 0 (kX12_readSmoke 81 rfl) rfl rfl ?_
        refine X_imul (n := 140) (kX12_readSmoke 82 rfl) rfl ?_
        refine X_iadd (n := 141) (kX12_readSmoke 83 rfl) rfl ?_
        refine X_iconst (n := 142) (v := 1) (kX12_readSmoke 84 rfl) rfl (by decide) ?_
        refine X_iadd (n := 143) (kX12_readSmoke 85 rfl) rfl ?_
        refine X_itebind ?_
        refine X_iald (n := 144) (kt_12_15 hk0) (kX12_readSmoke 86 rfl) rfl (fun h24 => ?_)
        refine X_iload_n (n := 145) 2 (kX12_readSmoke 87 rfl) rfl rfl rfl ?_
        refine X_itebind ?_
        refine X_ic_ne (n := 148) (tgt := 173) (kX12_readSmoke 88 rfl) rfl rfl (fun h19 => ?_) (fun h19 => ?_)
        · refine X_aload_n (n := 149) 5 (kX12_readSmoke 89 rfl) rfl rfl rfl ?_
          refine X_getR (n := 152) xf_X12 hk0 (by decide) fl_X12_16 rfl (kX12_readSmoke 90 rfl) rfl ?_
          refine X_bipush (n := 154) (v := 48) (kX12_readSmoke 91 rfl) rfl (by decide) ?_
          refine X_iconst (n := 155) (v := 3) (kX12_readSmoke 92 rfl) rfl (by decide) ?_
          refine X_iload (n := 157) 0 (kX12_readSmoke 93 rfl) rfl rfl ?_
          refine X_imul (n := 158) (kX12_readSmoke 94 rfl) rfl ?_
          refine X_iadd (n := 159) (kX12_readSmoke 95 rfl) rfl ?_
          refine X_iconst (n := 160) (v := 2) (kX12_readSmoke 96 rfl) rfl (by decide) ?_
          refine X_iadd (n := 161) (kX12_readSmoke 97 rfl) rfl ?_
          refine X_itebind ?_
          refine X_iald (n := 162) (kt_12_15 hk0) (kX12_readSmoke 98 rfl) rfl (fun h23 => ?_)
          refine X_iload (n := 164) 1 (kX12_readSmoke 99 rfl) rfl rfl ?_
          refine X_itebind ?_
          refine X_ic_ne (n := 167) (tgt := 173) (kX12_readSmoke_1 0 rfl) rfl rfl (fun h20 => ?_) (fun h20 => ?_)
          · refine X_aload_n (n := 168) 5 (kX12_readSmoke_1 1 rfl) rfl rfl rfl ?_
            refine X_iconst (n := 169) (v := 3) (kX12_readSmoke_1 2 rfl) rfl (by decide) ?_
            refine X_assoc ?_
            refine X_callVB (n := 172) (As := [.int (3 : Int32)]) (st := []) (kX12_readSmoke_1 3 rfl) rfl (w_X12_bad hk0) (by decide) ml_X12_166 mf_X12_bad rfl hk0 xf_X12 rfl (Nat.le_of_ble_eq_true rfl) (fun r21 S22 hq => ?_)
            try dsimp only
            exact X_req (kR _) (X_zret (b := r21) rfl (kX12_readSmoke_1 4 rfl))
          · refine X_iinc (n := 176) 0 (v := (i5 + 1)) (L1 := [(5, .int (i5 + 1)), (4, .int i4), (3, .int i3), (2, .int i2), (1, .int i1), (0, .ref a0)]) (kX12_readSmoke_1 5 rfl) rfl rfl rfl (Nat.le_of_ble_eq_true rfl) rfl ?_
            refine X_goto (tgt := 108) (kX12_readSmoke_1 6 rfl) rfl ?_
            exact X_L [0, 1, 2, 3, 4, 5] rfl (ih (i5 + 1) S)
        · refine X_iinc (n := 176) 0 (v := (i5 + 1)) (L1 := [(5, .int (i5 + 1)), (4, .int i4), (3, .int i3), (2, .int i2), (1, .int i1), (0, .ref a0)]) (kX12_readSmoke_1 5 rfl) rfl rfl rfl (Nat.le_of_ble_eq_true rfl) rfl ?_
          refine X_goto (tgt := 108) (kX12_readSmoke_1 6 rfl) rfl ?_
          exact X_L [0, 1, 2, 3, 4, 5] rfl (ih (i5 + 1) S)
      · refine X_iinc (n := 176) 0 (v := (i5 + 1)) (L1 := [(5, .int (i5 + 1)), (4, .int i4), (3, .int i3), (2, .int i2), (1, .int i1), (0, .ref a0)]) (kX12_readSmoke_1 5 rfl) rfl rfl rfl (Nat.le_of_ble_eq_true rfl) rfl ?_
        refine X_goto (tgt := 108) (kX12_readSmoke_1 6 rfl) rfl ?_
        exact X_L [0, 1, 2, 3, 4, 5] rfl (ih (i5 + 1) S)
set_option maxHeartbeats 4000000 in
set_option maxRecDepth 100000 in
theorem w_X12_readSmoke {l : Launch} {g : XG}  {a0 : Nat} {S : XS} (hk0 : kd a0 = 12) : Cl φB l g 6 mX12_readSmoke [.ref a0] S (f_X12_readSmoke a0 S) := by
  refine Cl.of (by decide +kernel) (Nat.le_of_ble_eq_true rfl) ?_
  unfold f_X12_readSmoke
  show X _ _ _ _ _ 0 [(0, .ref a0)] [] S _
  refine X_aload_n (n := 1) 0 (kX12_readSmoke 0 rfl) rfl rfl rfl ?_
  refine X_getR (n := 4) xf_X12 hk0 (by decide) fl_X12_16 rfl (kX12_readSmoke 1 rfl) rfl ?_
  refine X_iconst (n := 5) (v := 2) (kX12_readSmoke 2 rfl) rfl (by decide) ?_
  refine X_iald' (n := 6) (kt_12_15 hk0) (kX12_readSmoke 3 rfl) rfl (by rw [lt_12_15 hk0]; decide) ?_
  refine X_istore_n (n := 7) (L1 := [(1, .int (S.1 (rf a0 15) 2)), (0, .ref a0)]) (kX12_readSmoke 4 rfl) rfl rfl (Nat.le_of_ble_eq_true rfl) rfl ?_
  refine X_iload_n (n := 8) 0 (kX12_readSmoke 5 rfl) rfl rfl rfl ?_
  refine X_bipush (n := 10) (v := 6) (kX12_readSmoke 6 rfl) rfl (by decide) ?_
  refine X_ic_ne (n := 13) (tgt := 19) (kX12_readSmoke 7 rfl) rfl rfl (fun h1 => ?_) (fun h1 => ?_)
  · refine X_aload_n (n := 14) 1 (kX12_readSmoke 8 rfl) rfl rfl rfl ?_
    refine X_iconst (n := 15) (v := 4) (kX12_readSmoke 9 rfl) rfl (by decide) ?_
    refine X_callVB (n := 18) (As := [.int (4 : Int32)]) (st := []) (kX12_readSmoke 10 rfl) rfl (w_X12_bad hk0) (by decide) ml_X12_166 mf_X12_bad rfl hk0 xf_X12 rfl (Nat.le_of_ble_eq_true rfl) (fun r2 S3 hq => ?_)
    try dsimp only
    exact X_zret (b := r2) rfl (kX12_readSmoke 11 rfl)
  · refine X_aload_n (n := 20) 1 (kX12_readSmoke 12 rfl) rfl rfl rfl ?_
    refine X_callVV (n := 23) (As := []) (st := []) (kX12_readSmoke 13 rfl) rfl (w_X12_go hk0) (by decide) ml_X12_180 mf_X12_go rfl hk0 xf_X12 rfl (Nat.le_of_ble_eq_true rfl) (fun S4 hq => ?_)
    try dsimp only
    refine X_aload_n (n := 24) 1 (kX12_readSmoke 14 rfl) rfl rfl rfl ?_
    refine X_iconst (n := 25) (v := 0) (kX12_readSmoke 15 rfl) rfl (by decide) ?_
    refine X_aload_n (n := 26) 1 (kX12_readSmoke 16 rfl) rfl rfl rfl ?_
    refine X_getR (n := 29) xf_X12 hk0 (by decide) fl_X12_16 rfl (kX12_readSmoke 17 rfl) rfl ?_
    refine X_iconst (n := 30) (v := 0) (kX12_readSmoke 18 rfl) rfl (by decide) ?_
    refine X_iald' (n := 31) (kt_12_15 hk0) (kX12_readSmoke 19 rfl) rfl (by rw [lt_12_15 hk0]; decide) ?_
    refine X_callVB (n := 34) (As := [.int (0 : Int32), .int (S4.1 (rf a0 15) 0)]) (st := []) (kX12_readSmoke 20 rfl) rfl (w_X12_readOne hk0) (by decide) ml_X12_211 mf_X12_readOne rfl hk0 xf_X12 rfl (Nat.le_of_ble_eq_true rfl) (fun r5 S6 hq => ?_)
    try dsimp only
    refine X_bn (n := 37) (tgt := 39) (kX12_readSmoke 21 rfl) rfl rfl (fun h7 => ?_) (fun h7 => ?_)
    · refine X_aload_n (n := 40) 1 (kX12_readSmoke 24 rfl) rfl rfl rfl ?_
      refine X_getI (n := 43) xf_X12 hk0 (by decide) fl_X12_173 rfl (kX12_readSmoke 25 rfl) rfl ?_
      refine X_istore_n (n := 44) (L1 := [(2, .int (S6.1 a0 13)), (1, .int (S.1 (rf a0 15) 2)), (0, .ref a0)]) (kX12_readSmoke 26 rfl) rfl rfl (Nat.le_of_ble_eq_true rfl) rfl ?_
      refine X_aload_n (n := 45) 2 (kX12_readSmoke 27 rfl) rfl rfl rfl ?_
      refine X_bipush (n := 47) (v := 6) (kX12_readSmoke 28 rfl) rfl (by decide) ?_
      refine X_aload_n (n := 48) 2 (kX12_readSmoke 29 rfl) rfl rfl rfl ?_
      refine X_getR (n := 51) xf_X12 hk0 (by decide) fl_X12_16 rfl (kX12_readSmoke 30 rfl) rfl ?_
      refine X_iconst (n := 52) (v := 1) (kX12_readSmoke 31 rfl) rfl (by decide) ?_
      refine X_iald' (n := 53) (kt_12_15 hk0) (kX12_readSmoke 32 rfl) rfl (by rw [lt_12_15 hk0]; decide) ?_
      refine X_callVB (n := 56) (As := [.int (6 : Int32), .int (S6.1 (rf a0 15) 1)]) (st := []) (kX12_readSmoke 33 rfl) rfl (w_X12_readOne hk0) (by decide) ml_X12_211 mf_X12_readOne rfl hk0 xf_X12 rfl (Nat.le_of_ble_eq_true rfl) (fun r8 S9 hq => ?_)
      try dsimp only
      refine X_bn (n := 59) (tgt := 61) (kX12_readSmoke 34 rfl) rfl rfl (fun h10 => ?_) (fun h10 => ?_)
      · refine X_aload_n (n := 62) 2 (kX12_readSmoke 37 rfl) rfl rfl rfl ?_
        refine X_getI (n := 65) xf_X12 hk0 (by decide) fl_X12_173 rfl (kX12_readSmoke 38 rfl) rfl ?_
        refine X_istore_n (n := 66) (L1 := [(3, .int (S9.1 a0 13)), (2, .int (S6.1 a0 13)), (1, .int (S.1 (rf a0 15) 2)), (0, .ref a0)]) (kX12_readSmoke 39 rfl) rfl rfl (Nat.le_of_ble_eq_true rfl) rfl ?_
        refine X_aload_n (n := 67) 3 (kX12_readSmoke 40 rfl) rfl rfl rfl ?_
        refine X_aload_n (n := 68) 3 (kX12_readSmoke 41 rfl) rfl rfl rfl ?_
        refine X_getR (n := 71) xf_X12 hk0 (by decide) fl_X12_32 rfl (kX12_readSmoke 42 rfl) rfl ?_
        refine X_bipush (n := 73) (v := 6) (kX12_readSmoke 43 rfl) rfl (by decide) ?_
        refine X_aload_n (n := 74) 3 (kX12_readSmoke 44 rfl) rfl rfl rfl ?_
        refine X_getR (n := 77) xf_X12 hk0 (by decide) fl_X12_16 rfl (kX12_readSmoke 45 rfl) rfl ?_
        refine X_iconst (n := 78) (v := 1) (kX12_readSmoke 46 rfl) rfl (by decide) ?_
        refine X_iald' (n := 79) (kt_12_15 hk0) (kX12_readSmoke 47 rfl) rfl (by rw [lt_12_15 hk0]; decide) ?_
        refine X_callVB (n := 82) (As := [.ref (rf a0 20), .int (6 : Int32), .int (S9.1 (rf a0 15) 1)]) (st := []) (kX12_readSmoke 48 rfl) rfl (w_X12_isOne hk0 (kt_12_20 hk0)) (by decide) ml_X12_198 mf_X12_isOne rfl hk0 xf_X12 rfl (Nat.le_of_ble_eq_true rfl) (fun r11 S12 hq => ?_)
        try dsimp only
        refine X_bn (n := 85) (tgt := 87) (kX12_readSmoke 49 rfl) rfl rfl (fun h13 => ?_) (fun h13 => ?_)
        · refine X_aload_n (n := 88) 3 (kX12_readSmoke 52 rfl) rfl rfl rfl ?_
          refine X_getI (n := 91) xf_X12 hk0 (by decide) fl_X12_173 rfl (kX12_readSmoke 53 rfl) rfl ?_
          refine X_istore (n := 93) (L1 := [(4, .int (S12.1 a0 13)), (3, .int (S9.1 a0 13)), (2, .int (S6.1 a0 13)), (1, .int (S.1 (rf a0 15) 2)), (0, .ref a0)]) (kX12_readSmoke 54 rfl) rfl (Nat.le_of_ble_eq_true rfl) rfl ?_
          refine X_iload_n (n := 94) 1 (kX12_readSmoke 55 rfl) rfl rfl rfl ?_
          refine X_iload (n := 96) 0 (kX12_readSmoke 56 rfl) rfl rfl ?_
          refine X_ic_ne (n := 99) (tgt := 105) (kX12_readSmoke 57 rfl) rfl rfl (fun h14 => ?_) (fun h14 => ?_)
          · refine X_aload_n (n := 100) 4 (kX12_readSmoke 58 rfl) rfl rfl rfl ?_
            refine X_iconst (n := 101) (v := 3) (kX12_readSmoke 59 rfl) rfl (by decide) ?_
            refine X_callVB (n := 104) (As := [.int (3 : Int32)]) (st := []) (kX12_readSmoke 60 rfl) rfl (w_X12_bad hk0) (by decide) ml_X12_166 mf_X12_bad rfl hk0 xf_X12 rfl (Nat.le_of_ble_eq_true rfl) (fun r15 S16 hq => ?_)
            try dsimp only
            exact X_zret (b := r15) rfl (kX12_readSmoke 61 rfl)
          · refine X_iconst (n := 106) (v := 0) (kX12_readSmoke 62 rfl) rfl (by decide) ?_
            refine X_istore (n := 108) (L1 := [(5, .int 0), (4, .int (S12.1 a0 13)), (3, .int (S9.1 a0 13)), (2, .int (S6.1 a0 13)), (1, .int (S.1 (rf a0 15) 2)), (0, .ref a0)]) (kX12_readSmoke 63 rfl) rfl (Nat.le_of_ble_eq_true rfl) rfl ?_
            refine X_L [0, 1, 2, 3, 4, 5] rfl (w_X12_readSmoke_L108 hk0 (fun S26 => ?_) ?_ 1000000 (0 : Int32) S12)
            · refine X_aload_n (n := 180) 4 (kX12_readSmoke_1 7 rfl) rfl rfl rfl ?_
              refine X_getR (n := 183) xf_X12 hk0 (by decide) fl_X12_16 rfl (kX12_readSmoke_1 8 rfl) rfl ?_
              refine X_bipush (n := 185) (v := 48) (kX12_readSmoke_1 9 rfl) rfl (by decide) ?_
              refine X_iconst (n := 186) (v := 3) (kX12_readSmoke_1 10 rfl) rfl (by decide) ?_
              refine X_iload_n (n := 187) 3 (kX12_readSmoke_1 11 rfl) rfl rfl rfl ?_
              refine X_imul (n := 188) (kX12_readSmoke_1 12 rfl) rfl ?_
              refine X_iadd (n := 189) (kX12_readSmoke_1 13 rfl) rfl ?_
              refine X_iload_n (n := 190) 2 (kX12_readSmoke_1 14 rfl) rfl rfl rfl ?_
              refine X_iast (n := 191) (kt_12_15 hk0) (kX12_readSmoke_1 15 rfl) rfl (fun h30 => ?_)
              refine X_aload_n (n := 192) 4 (kX12_readSmoke_1 16 rfl) rfl rfl rfl ?_
              refine X_getR (n := 195) xf_X12 hk0 (by decide) fl_X12_16 rfl (kX12_readSmoke_1 17 rfl) rfl ?_
              refine X_bipush (n := 197) (v := 48) (kX12_readSmoke_1 18 rfl) rfl (by decide) ?_
              refine X_iconst (n := 198) (v := 3) (kX12_readSmoke_1 19 rfl) rfl (by decide) ?_
              refine X_iload_n (n := 199) 3 (kX12_readSmoke_1 20 rfl) rfl rfl rfl ?_
              refine X_imul (n := 200) (kX12_readSmoke_1 21 rfl) rfl ?_
              refine X_iadd (n := 201) (kX12_readSmoke_1 22 rfl) rfl ?_
              refine X_iconst (n := 202) (v := 1) (kX12_readSmoke_1 23 rfl) rfl (by decide) ?_
              refine X_iadd (n := 203) (kX12_readSmoke_1 24 rfl) rfl ?_
              refine X_iload_n (n := 204) 1 (kX12_readSmoke_1 25 rfl) rfl rfl rfl ?_
              refine X_iast (n := 205) (kt_12_15 hk0) (kX12_readSmoke_1 26 rfl) rfl (fun h29 => ?_)
              refine X_aload_n (n := 206) 4 (kX12_readSmoke_1 27 rfl) rfl rfl rfl ?_
              refine X_getR (n := 209) xf_X12 hk0 (by decide) fl_X12_16 rfl (kX12_readSmoke_1 28 rfl) rfl ?_
              refine X_bipush (n := 211) (v := 48) (kX12_readSmoke_1 29 rfl) rfl (by decide) ?_
              refine X_iconst (n := 212) (v := 3) (kX12_readSmoke_1 30 rfl) rfl (by decide) ?_
              refine X_iload_n (n := 213) 3 (kX12_readSmoke_1 31 rfl) rfl rfl rfl ?_
              refine X_imul (n := 214) (kX12_readSmoke_1 32 rfl) rfl ?_
              refine X_iadd (n := 215) (kX12_readSmoke_1 33 rfl) rfl ?_
              refine X_iconst (n := 216) (v := 2) (kX12_readSmoke_1 34 rfl) rfl (by decide) ?_
              refine X_iadd (n := 217) (kX12_readSmoke_1 35 rfl) rfl ?_
              refine X_iload (n := 219) 0 (kX12_readSmoke_1 36 rfl) rfl rfl ?_
              refine X_iast (n := 220) (kt_12_15 hk0) (kX12_readSmoke_1 37 rfl) rfl (fun h28 => ?_)
              refine X_aload_n (n := 221) 4 (kX12_readSmoke_1 38 rfl) rfl rfl rfl ?_
              refine X_getR (n := 224) xf_X12 hk0 (by decide) fl_X12_16 rfl (kX12_readSmoke_1 39 rfl) rfl ?_
              refine X_iconst (n := 225) (v := 2) (kX12_readSmoke_1 40 rfl) rfl (by decide) ?_
              refine X_dup2 (n := 226) (kX12_readSmoke_1 41 rfl) rfl rfl rfl ?_
              refine X_iald' (n := 227) (kt_12_15 hk0) (kX12_readSmoke_1 42 rfl) rfl (by rw [lt_12_15 hk0]; decide) ?_
              refine X_iconst (n := 228) (v := 1) (kX12_readSmoke_1 43 rfl) rfl (by decide) ?_
              refine X_iadd (n := 229) (kX12_readSmoke_1 44 rfl) rfl ?_
              refine X_iast' (n := 230) (kt_12_15 hk0) (kX12_readSmoke_1 45 rfl) rfl (by rw [lt_12_15 hk0]; decide) ?_
              refine X_aload_n (n := 231) 4 (kX12_readSmoke_1 46 rfl) rfl rfl rfl ?_
              refine X_callVV (n := 234) (As := []) (st := []) (kX12_readSmoke_1 47 rfl) rfl (w_X12_go hk0) (by decide) ml_X12_180 mf_X12_go rfl hk0 xf_X12 rfl (Nat.le_of_ble_eq_true rfl) (fun S27 hq => ?_)
              try dsimp only
              refine X_iconst (n := 235) (v := 1) (kX12_readSmoke_1 48 rfl) rfl (by decide) ?_
              exact X_zret (b := true) rfl (kX12_readSmoke_1 49 rfl)
            · intro r
              rfl
        · refine X_iconst (n := 86) (v := 0) (kX12_readSmoke 50 rfl) rfl (by decide) ?_
          exact X_zret (b := false) rfl (kX12_readSmoke 51 rfl)
      · refine X_iconst (n := 60) (v := 0) (kX12_readSmoke 35 rfl) rfl (by decide) ?_
        exact X_zret (b := false) rfl (kX12_readSmoke 36 rfl)
    · refine X_iconst (n := 38) (v := 0) (kX12_readSmoke 22 rfl) rfl (by decide) ?_
      exact X_zret (b := false) rfl (kX12_readSmoke 23 rfl)
def f_X12_readWitness  (a0 : Nat) (S : XS) : Option (Bool × XS) := (if (S.1 (rf a0 15) 3) = (6 : Int32) then ((f_X12_bad a0 (4 : Int32) S).bind (fun q => match q with | (r2, S3) => some (r2, S3))) else ((f_X12_go a0 S).bind (fun S4 => ((f_X12_readNew a0 ((12 : Int32) + (S.1 (rf a0 15) 3)) S4).bind (fun q => match q with | (r5, S6) => (if r5 = true then ((f_X12_readNumber a0 (1 : Int32) (9 : Int32) S6).bind (fun q => match q with | (r8, S9) => (if r8 = true then (if ((66 : Int32) + (S.1 (rf a0 15) 3)) < 0 ∨ ln (rf a0 15) ≤ ((66 : Int32) + (S.1 (rf a0 15) 3)).toNatClampNeg then none else ((f_X12_readOne a0 (6 : Int32) ((sI S9 (rf a0 15) (((66 : Int32) + (S.1 (rf a0 15) 3)).toNatClampNeg) (S9.1 a0 13)).1 (rf a0 15) 1) (sI S9 (rf a0 15) (((66 : Int32) + (S.1 (rf a0 15) 3)).toNatClampNeg) (S9.1 a0 13))).bind (fun q => match q with | (r11, S12) => (if r11 = true then (if ((72 : Int32) + (S.1 (rf a0 15) 3)) < 0 ∨ ln (rf a0 15) ≤ ((72 : Int32) + (S.1 (rf a0 15) 3)).toNatClampNeg then none else some (true, (sI (sI S12 (rf a0 15) (((72 : Int32) + (S.1 (rf a0 15) 3)).toNatClampNeg) (S12.1 a0 13)) (rf a0 15) 3 (((sI S12 (rf a0 15) (((72 : Int32) + (S.1 (rf a0 15) 3)).toNatClampNeg) (S12.1 a0 13)).1 (rf a0 15) 3) + (1 : Int32))))) else some (false, S12))))) else some (false, S9)))) else some (false, S6)))))))
set_option maxHeartbeats 4000000 in
set_option maxRecDepth 100000 in
theorem w_X12_readWitness {l : Launch} {g : XG}  {a0 : Nat} {S : XS} (hk0 : kd a0 = 12) : Cl φB l g 6 mX12_readWitness [.ref a0] S (f_X12_readWitness a0 S) := by
  refine Cl.of (by decide +kernel) (Nat.le_of_ble_eq_true rfl) ?_
  unfold f_X12_readWitness
  show X _ _ _ _ _ 0 [(0, .ref a0)] [] S _
  refine X_aload_n (n := 1) 0 (kX12_readWitness 0 rfl) rfl rfl rfl ?_
  refine X_getR (n := 4) xf_X12 hk0 (by decide) fl_X12_16 rfl (kX12_readWitness 1 rfl) rfl ?_
  refine X_iconst (n := 5) (v := 3) (kX12_readWitness 2 rfl) rfl (by decide) ?_
  refine X_iald' (n := 6) (kt_12_15 hk0) (kX12_readWitness 3 rfl) rfl (by rw [lt_12_15 hk0]; decide) ?_
  refine X_istore_n (n := 7) (L1 := [(1, .int (S.1 (rf a0 15) 3)), (0, .ref a0)]) (kX12_readWitness 4 rfl) rfl rfl (Nat.le_of_ble_eq_true rfl) rfl ?_
  refine X_iload_n (n := 8) 0 (kX12_readWitness 5 rfl) rfl rfl rfl ?_
  refine X_bipush (n := 10) (v := 6) (kX12_readWitness 6 rfl) rfl (by decide) ?_
  refine X_ic_ne (n := 13) (tgt := 19) (kX12_readWitness 7 rfl) rfl rfl (fun h1 => ?_) (fun h1 => ?_)
  · refine X_aload_n (n := 14) 1 (kX12_readWitness 8 rfl) rfl rfl rfl ?_
    refine X_iconst (n := 15) (v := 4) (kX12_readWitness 9 rfl) rfl (by decide) ?_
    refine X_callVB (n := 18) (As := [.int (4 : Int32)]) (st := []) (kX12_readWitness 10 rfl) rfl (w_X12_bad hk0) (by decide) ml_X12_166 mf_X12_bad rfl hk0 xf_X12 rfl (Nat.le_of_ble_eq_true rfl) (fun r2 S3 hq => ?_)
    try dsimp only
    exact X_zret (b := r2) rfl (kX12_readWitness 11 rfl)
  · refine X_aload_n (n := 20) 1 (kX12_readWitness 12 rfl) rfl rfl rfl ?_
    refine X_callVV (n := 23) (As := []) (st := []) (kX12_readWitness 13 rfl) rfl (w_X12_go hk0) (by decide) ml_X12_180 mf_X12_go rfl hk0 xf_X12 rfl (Nat.le_of_ble_eq_true rfl) (fun S4 hq => ?_)
    try dsimp only
    refine X_aload_n (n := 24) 1 (kX12_readWitness 14 rfl) rfl rfl rfl ?_
    refine X_bipush (n := 26) (v := 12) (kX12_readWitness 15 rfl) rfl (by decide) ?_
    refine X_iload_n (n := 27) 0 (kX12_readWitness 16 rfl) rfl rfl rfl ?_
    refine X_iadd (n := 28) (kX12_readWitness 17 rfl) rfl ?_
    refine X_callVB (n := 31) (As := [.int ((12 : Int32) + (S.1 (rf a0 15) 3))]) (st := []) (kX12_readWitness 18 rfl) rfl (w_X12_readNew hk0) (by decide) ml_X12_202 mf_X12_readNew rfl hk0 xf_X12 rfl (Nat.le_of_ble_eq_true rfl) (fun r5 S6 hq => ?_)
    try dsimp only
    refine X_bz (n := 34) (tgt := 44) (kX12_readWitness 19 rfl) rfl rfl (fun h7 => ?_) (fun h7 => ?_)
    · refine X_aload_n (n := 35) 1 (kX12_readWitness 20 rfl) rfl rfl rfl ?_
      refine X_iconst (n := 36) (v := 1) (kX12_readWitness 21 rfl) rfl (by decide) ?_
      refine X_bipush (n := 38) (v := 9) (kX12_readWitness 22 rfl) rfl (by decide) ?_
      refine X_callVB (n := 41) (As := [.int (1 : Int32), .int (9 : Int32)]) (st := []) (kX12_readWitness 23 rfl) rfl (w_X12_readNumber hk0) (by decide) ml_X12_205 mf_X12_readNumber rfl hk0 xf_X12 rfl (Nat.le_of_ble_eq_true rfl) (fun r8 S9 hq => ?_)
      try dsimp only
      refine X_bn (n := 44) (tgt := 46) (kX12_readWitness 24 rfl) rfl rfl (fun h10 => ?_) (fun h10 => ?_)
      · refine X_aload_n (n := 47) 1 (kX12_readWitness 27 rfl) rfl rfl rfl ?_
        refine X_getR (n := 50) xf_X12 hk0 (by decide) fl_X12_16 rfl (kX12_readWitness 28 rfl) rfl ?_
        refine X_bipush (n := 52) (v := 66) (kX12_readWitness 29 rfl) rfl (by decide) ?_
        refine X_iload_n (n := 53) 0 (kX12_readWitness 30 rfl) rfl rfl rfl ?_
        refine X_iadd (n := 54) (kX12_readWitness 31 rfl) rfl ?_
        refine X_aload_n (n := 55) 1 (kX12_readWitness 32 rfl) rfl rfl rfl ?_
        refine X_getI (n := 58) xf_X12 hk0 (by decide) fl_X12_173 rfl (kX12_readWitness 33 rfl) rfl ?_
        refine X_iast (n := 59) (kt_12_15 hk0) (kX12_readWitness 34 rfl) rfl (fun h15 => ?_)
        refine X_aload_n (n := 60) 1 (kX12_readWitness 35 rfl) rfl rfl rfl ?_
        refine X_bipush (n := 62) (v := 6) (kX12_readWitness 36 rfl) rfl (by decide) ?_
        refine X_aload_n (n := 63) 1 (kX12_readWitness 37 rfl) rfl rfl rfl ?_
        refine X_getR (n := 66) xf_X12 hk0 (by decide) fl_X12_16 rfl (kX12_readWitness 38 rfl) rfl ?_
        refine X_iconst (n := 67) (v := 1) (kX12_readWitness 39 rfl) rfl (by decide) ?_
        refine X_iald' (n := 68) (kt_12_15 hk0) (kX12_readWitness 40 rfl) rfl (by rw [lt_12_15 hk0]; decide) ?_
        refine X_callVB (n := 71) (As := [.int (6 : Int32), .int ((sI S9 (rf a0 15) (((66 : Int32) + (S.1 (rf a0 15) 3)).toNatClampNeg) (S9.1 a0 13)).1 (rf a0 15) 1)]) (st := []) (kX12_readWitness 41 rfl) rfl (w_X12_readOne hk0) (by decide) ml_X12_211 mf_X12_readOne rfl hk0 xf_X12 rfl (Nat.le_of_ble_eq_true rfl) (fun r11 S12 hq => ?_)
        try dsimp only
        refine X_bn (n := 74) (tgt := 76) (kX12_readWitness 42 rfl) rfl rfl (fun h13 => ?_) (fun h13 => ?_)
        · refine X_aload_n (n := 77) 1 (kX12_readWitness 45 rfl) rfl rfl rfl ?_
          refine X_getR (n := 80) xf_X12 hk0 (by decide) fl_X12_16 rfl (kX12_readWitness 46 rfl) rfl ?_
          refine X_bipush (n := 82) (v := 72) (kX12_readWitness 47 rfl) rfl (by decide) ?_
          refine X_iload_n (n := 83) 0 (kX12_readWitness 48 rfl) rfl rfl rfl ?_
          refine X_iadd (n := 84) (kX12_readWitness 49 rfl) rfl ?_
          refine X_aload_n (n := 85) 1 (kX12_readWitness 50 rfl) rfl rfl rfl ?_
          refine X_getI (n := 88) xf_X12 hk0 (by decide) fl_X12_173 rfl (kX12_readWitness 51 rfl) rfl ?_
          refine X_iast (n := 89) (kt_12_15 hk0) (kX12_readWitness 52 rfl) rfl (fun h14 => ?_)
          refine X_aload_n (n := 90) 1 (kX12_readWitness 53 rfl) rfl rfl rfl ?_
          refine X_getR (n := 93) xf_X12 hk0 (by decide) fl_X12_16 rfl (kX12_readWitness 54 rfl) rfl ?_
          refine X_iconst (n := 94) (v := 3) (kX12_readWitness 55 rfl) rfl (by decide) ?_
          refine X_dup2 (n := 95) (kX12_readWitness 56 rfl) rfl rfl rfl ?_
          refine X_iald' (n := 96) (kt_12_15 hk0) (kX12_readWitness 57 rfl) rfl (by rw [lt_12_15 hk0]; decide) ?_
          refine X_iconst (n := 97) (v := 1) (kX12_readWitness 58 rfl) rfl (by decide) ?_
          refine X_iadd (n := 98) (kX12_readWitness 59 rfl) rfl ?_
          refine X_iast' (n := 99) (kt_12_15 hk0) (kX12_readWitness 60 rfl) rfl (by rw [lt_12_15 hk0]; decide) ?_
          refine X_iconst (n := 100) (v := 1) (kX12_readWitness 61 rfl) rfl (by decide) ?_
          exact X_zret (b := true) rfl (kX12_readWitness 62 rfl)
        · refine X_iconst (n := 75) (v := 0) (kX12_readWitness 43 rfl) rfl (by decide) ?_
          exact X_zret (b := false) rfl (kX12_readWitness 44 rfl)
      · refine X_iconst (n := 45) (v := 0) (kX12_readWitness 25 rfl) rfl (by decide) ?_
        exact X_zret (b := false) rfl (kX12_readWitness 26 rfl)
    · refine X_iconst (n := 45) (v := 0) (kX12_readWitness 25 rfl) rfl (by decide) ?_
      exact X_zret (b := false) rfl (kX12_readWitness 26 rfl)
