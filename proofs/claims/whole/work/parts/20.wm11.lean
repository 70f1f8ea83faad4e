def f_X12_readWent_L59  (i2 : Int32) (i1 : Int32) (a0 : Nat) : Nat → Int32 → XS → Option ((Bool × XS) ⊕ (XS))
  | 0, _, _ => none
  | n + 1, i3, S => (if i1 ≤ i3 then some (.inr S) else (if ((78 : Int32) + ((3 : Int32) * i3)) < 0 ∨ ln (rf a0 15) ≤ ((78 : Int32) + ((3 : Int32) * i3)).toNatClampNeg then none else (if (S.1 (rf a0 15) ((78 : Int32) + ((3 : Int32) * i3)).toNatClampNeg) = i2 then (if (((78 : Int32) + ((3 : Int32) * i3)) + (1 : Int32)) < 0 ∨ ln (rf a0 15) ≤ (((78 : Int32) + ((3 : Int32) * i3)) + (1 : Int32)).toNatClampNeg then none else (if (S.1 (rf a0 15) (((78 : Int32) + ((3 : Int32) * i3)) + (1 : Int32)).toNatClampNeg) = (S.1 a0 13) then ((f_X12_bad a0 (3 : Int32) S).bind (fun q => match q with | (r14, S15) => some (.inl (r14, S15)))) else f_X12_readWent_L59 i2 i1 a0 n (i3 + 1) S)) else f_X12_readWent_L59 i2 i1 a0 n (i3 + 1) S)))
def f_X12_readWent  (a0 : Nat) (S : XS) : Option (Bool × XS) := (if (S.1 (rf a0 15) 4) = (20 : Int32) then ((f_X12_bad a0 (4 : Int32) S).bind (fun q => match q with | (r2, S3) => some (r2, S3))) else ((f_X12_go a0 S).bind (fun S4 => ((f_X12_readOne a0 (12 : Int32) (S4.1 (rf a0 15) 3) S4).bind (fun q => match q with | (r5, S6) => (if r5 = true then ((f_X12_isNumber a0 (1 : Int32) (60 : Int32) S6).bind (fun q => match q with | (r8, S9) => (if r8 = true then ((f_X12_readWent_L59 (S6.1 a0 13) (S.1 (rf a0 15) 4) a0 1000000 (0 : Int32) S9).bind (fun q => match q with | .inl r => some r | .inr S18 => (if ((78 : Int32) + ((3 : Int32) * (S.1 (rf a0 15) 4))) < 0 ∨ ln (rf a0 15) ≤ ((78 : Int32) + ((3 : Int32) * (S.1 (rf a0 15) 4))).toNatClampNeg then none else (if (((78 : Int32) + ((3 : Int32) * (S.1 (rf a0 15) 4))) + (1 : Int32)) < 0 ∨ ln (rf a0 15) ≤ (((78 : Int32) + ((3 : Int32) * (S.1 (rf a0 15) 4))) + (1 : Int32)).toNatClampNeg then none else ((f_X12_go a0 (sI (sI S18 (rf a0 15) (((78 : Int32) + ((3 : Int32) * (S.1 (rf a0 15) 4))).toNatClampNeg) (S6.1 a0 13)) (rf a0 15) ((((78 : Int32) + ((3 : Int32) * (S.1 (rf a0 15) 4))) + (1 : Int32)).toNatClampNeg) ((sI S18 (rf a0 15) (((78 : Int32) + ((3 : Int32) * (S.1 (rf a0 15) 4))).toNatClampNeg) (S6.1 a0 13)).1 a0 13))).bind (fun S19 => ((f_X12_readOne a0 (6 : Int32) (S19.1 (rf a0 15) 1) S19).bind (fun q => match q with | (r20, S21) => (if r20 = true then (if (((78 : Int32) + ((3 : Int32) * (S.1 (rf a0 15) 4))) + (2 : Int32)) < 0 ∨ ln (rf a0 15) ≤ (((78 : Int32) + ((3 : Int32) * (S.1 (rf a0 15) 4))) + (2 : Int32)).toNatClampNeg then none else some (true, (sI (sI S21 (rf a0 15) ((((78 : Int32) + ((3 : Int32) * (S.1 (rf a0 15) 4))) + (2 : Int32)).toNatClampNeg) (S21.1 a0 13)) (rf a0 15) 4 (((sI S21 (rf a0 15) ((((78 : Int32) + ((3 : Int32) * (S.1 (rf a0 15) 4))) + (2 : Int32)).toNatClampNeg) (S21.1 a0 13)).1 (rf a0 15) 4) + (1 : Int32))))) else some (false, S21)))))))))) else some (false, S9)))) else some (false, S6)))))))
set_option maxHeartbeats 4000000 in
set_option maxRecDepth 100000 in
theorem w_X12_readWent_L59 {l : Launch} {g : XG} {G : ((Bool × XS) ⊕ (XS)) → Option (Bool × XS)}  {i2 : Int32} {i1 : Int32} {a0 : Nat} (hk0 : kd a0 = 12) (kE : ∀ (S1 : XS), X φB l g 6 mX12_readWent 111 [(2, .int i2), (1, .int i1), (0, .ref a0)] [] S1 (G (.inr S1))) (kR : ∀ r, G (.inl r) = some r) : ∀ (n : Nat) (i3 : Int32) (S : XS), X φB l g 6 mX12_readWent 59 [(3, .int i3), (2, .int i2), (1, .int i1), (0, .ref a0)] [] S ((f_X12_readWent_L59 i2 i1 a0 n i3 S).bind G) := by
  intro n
  induction n with
  | zero => intro i3 S; exact X_none
  | succ n ih =>
  · intro i3 S
    rw [f_X12_readWent_L59]
    refine X_iload_n (n := 60) 0 (kX12_readWent 36 rfl) rfl rfl rfl ?_
    refine X_iload_n (n := 61) 2 (kX12_readWent 37 rfl) rfl rfl rfl ?_
    refine X_itebind ?_
    refine X_ic_ge (n := 64) (tgt := 111) (kX12_readWent 38 rfl) rfl rfl (fun h11 => ?_) (fun h11 => ?_)
    · exact X_L [1, 2, 3] rfl (kE S)
    · refine X_aload_n (n := 65) 3 (kX12_readWent 39 rfl) rfl rfl rfl ?_
      refine X_getR (n := 68) xf_X12 hk0 (by decide) fl_X12_16 rfl (kX12_readWent 40 rfl) rfl ?_
      refine X_bipush (n := 70) (v := 78) (kX12_readWent 41 rfl) rfl (by decide) ?_
      refine X_iconst (n := 71) (v := 3) (kX12_readWent 42 rfl) rfl (by decide) ?_
      refine X_iload_n (n := 72) 0 (kX12_readWent 43 rfl) rfl rfl rfl ?_
      refine X_imul (n := 73) (kX12_readWent 44 rfl) rfl ?_
      refine X_iadd (n := 74) (kX12_readWent 45 rfl) rfl ?_
      refine X_itebind ?_
      refine X_iald (n := 75) (kt_12_15 hk0) (kX12_readWent 46 rfl) rfl (fun h17 => ?_)
      refine X_iload_n (n := 76) 1 (kX12_readWent 47 rfl) rfl rfl rfl ?_
      refine X_itebind ?_
      refine X_ic_ne (n := 79) (tgt := 105) (kX12_readWent 48 rfl) rfl rfl (fun h12 => ?_) (fun h12 => ?_)
      · refine X_aload_n (n := 80) 3 (kX12_readWent 49 rfl) rfl rfl rfl ?_
        refine X_getR (n := 83) xf_X12 hk0 (by decide) fl_X12_16 rfl (kX12_readWent 50 rfl) rfl ?_
        refine X_bipush (n := 85) (v := 78) (kX12_readWent 51 rfl) rfl (by decide) ?_
        refine X_iconst (n := 86) (v := 3) (kX12_readWent 52 rfl) rfl (by decide) ?_
        refine X_iload_n (n := 87) 0 (kX12_readWent 53 rfl) rfl rfl rfl ?_
        refine X_imul (n := 88) (kX12_readWent 54 rfl) rfl ?_
        refine X_iadd (n := 89) (kX12_readWent 55 rfl) rfl ?_
        refine X_iconst (n := 90) (v := 1) (kX12_readWent 56 rfl) rfl (by decide) ?_
        refine X_iadd (n := 91) (kX12_readWent 57 rfl) rfl ?_
        refine X_itebind ?_
        refine X_iald (n := 92) (kt_12_15 hk0) (kX12_readWent 58 rfl) rfl (fun h16 => ?_)
        refine X_aload_n (n := 93) 3 (kX12_readWent 59 rfl) rfl rfl rfl ?_
        refine X_getI (n := 96) xf_X12 hk0 (by decide) fl_X12_173 rfl (kX12_readWent 60 rfl) rfl ?_
        refine X_itebind ?_
        refine X_ic_ne (n := 99) (tgt := 105) (kX12_readWent 61 rfl) rfl rfl (fun h13 => ?_) (fun h13 => ?_)
        · refine X_aload_n (n := 100) 3 (kX12_readWent 62 rfl) rfl rfl rfl ?_
          refine X_iconst (n := 101) (v := 3) (kX12_readWent 63 rfl) rfl (by decide) ?_
          refine X_assoc ?_
          refine X_callVB (n := 104) (As := [.int (3 : Int32)]) (st := []) (kX12_readWent 64 rfl) rfl (w_X12_bad hk0) (by decide) ml_X12_166 mf_X12_bad rfl hk0 xf_X12 rfl (Nat.le_of_ble_eq_true rfl) (fun r14 S15 hq => ?_)
          try dsimp only
          exact X_req (kR _) (X_zret (b := r14) rfl (kX12_readWent 65 rfl))
        · refine X_iinc (n := 108) 0 (v := (i3 + 1)) (L1 := [(3, .int (i3 + 1)), (2, .int i2), (1, .int i1), (0, .ref a0)]) (kX12_readWent 66 rfl) rfl rfl rfl (Nat.le_of_ble_eq_true rfl) rfl ?_
          refine X_goto (tgt := 59) (kX12_readWent 67 rfl) rfl ?_
          exact X_L [0, 1, 2, 3] rfl (ih (i3 + 1) S)
      · refine X_iinc (n := 108) 0 (v := (i3 + 1)) (L1 := [(3, .int (i3 + 1)), (2, .int i2), (1, .int i1), (0, .ref a0)]) (kX12_readWent 66 rfl) rfl rfl rfl (Nat.le_of_ble_eq_true rfl) rfl ?_
        refine X_goto (tgt := 59) (kX12_readWent 67 rfl) rfl ?_
        exact X_L [0, 1, 2, 3] rfl (ih (i3 + 1) S)
set_option maxHeartbeats 4000000 in
set_option maxRecDepth 100000 in
theorem w_X12_readWent {l : Launch} {g : XG}  {a0 : Nat} {S : XS} (hk0 : kd a0 = 12) : Cl φB l g 6 mX12_readWent [.ref a0] S (f_X12_readWent a0 S) := by
  refine Cl.of (by decide +kernel) (Nat.le_of_ble_eq_true rfl) ?_
  unfold f_X12_readWent
  show X _ _ _ _ _ 0 [(0, .ref a0)] [] S _
  refine X_aload_n (n := 1) 0 (kX12_readWent 0 rfl) rfl rfl rfl ?_
  refine X_getR (n := 4) xf_X12 hk0 (by decide) fl_X12_16 rfl (kX12_readWent 1 rfl) rfl ?_
  refine X_iconst (n := 5) (v := 4) (kX12_readWent 2 rfl) rfl (by decide) ?_
  refine X_iald' (n := 6) (kt_12_15 hk0) (kX12_readWent 3 rfl) rfl (by rw [lt_12_15 hk0]; decide) ?_
  refine X_istore_n (n := 7) (L1 := [(1, .int (S.1 (rf a0 15) 4)), (0, .ref a0)]) (kX12_readWent 4 rfl) rfl rfl (Nat.le_of_ble_eq_true rfl) rfl ?_
  refine X_iload_n (n := 8) 0 (kX12_readWent 5 rfl) rfl rfl rfl ?_
  refine X_bipush (n := 10) (v := 20) (kX12_readWent 6 rfl) rfl (by decide) ?_
  refine X_ic_ne (n := 13) (tgt := 19) (kX12_readWent 7 rfl) rfl rfl (fun h1 => ?_) (fun h1 => ?_)
  · refine X_aload_n (n := 14) 1 (kX12_readWent 8 rfl) rfl rfl rfl ?_
    refine X_iconst (n := 15) (v := 4) (kX12_readWent 9 rfl) rfl (by decide) ?_
    refine X_callVB (n := 18) (As := [.int (4 : Int32)]) (st := []) (kX12_readWent 10 rfl) rfl (w_X12_bad hk0) (by decide) ml_X12_166 mf_X12_bad rfl hk0 xf_X12 rfl (Nat.le_of_ble_eq_true rfl) (fun r2 S3 hq => ?_)
    try dsimp only
    exact X_zret (b := r2) rfl (kX12_readWent 11 rfl)
  · refine X_aload_n (n := 20) 1 (kX12_readWent 12 rfl) rfl rfl rfl ?_
    refine X_callVV (n := 23) (As := []) (st := []) (kX12_readWent 13 rfl) rfl (w_X12_go hk0) (by decide) ml_X12_180 mf_X12_go rfl hk0 xf_X12 rfl (Nat.le_of_ble_eq_true rfl) (fun S4 hq => ?_)
    try dsimp only
    refine X_aload_n (n := 24) 1 (kX12_readWent 14 rfl) rfl rfl rfl ?_
    refine X_bipush (n := 26) (v := 12) (kX12_readWent 15 rfl) rfl (by decide) ?_
    refine X_aload_n (n := 27) 1 (kX12_readWent 16 rfl) rfl rfl rfl ?_
    refine X_getR (n := 30) xf_X12 hk0 (by decide) fl_X12_16 rfl (kX12_readWent 17 rfl) rfl ?_
    refine X_iconst (n := 31) (v := 3) (kX12_readWent 18 rfl) rfl (by decide) ?_
    refine X_iald' (n := 32) (kt_12_15 hk0) (kX12_readWent 19 rfl) rfl (by rw [lt_12_15 hk0]; decide) ?_
    refine X_callVB (n := 35) (As := [.int (12 : Int32), .int (S4.1 (rf a0 15) 3)]) (st := []) (kX12_readWent 20 rfl) rfl (w_X12_readOne hk0) (by decide) ml_X12_211 mf_X12_readOne rfl hk0 xf_X12 rfl (Nat.le_of_ble_eq_true rfl) (fun r5 S6 hq => ?_)
    try dsimp only
    refine X_bn (n := 38) (tgt := 40) (kX12_readWent 21 rfl) rfl rfl (fun h7 => ?_) (fun h7 => ?_)
    · refine X_aload_n (n := 41) 1 (kX12_readWent 24 rfl) rfl rfl rfl ?_
      refine X_getI (n := 44) xf_X12 hk0 (by decide) fl_X12_173 rfl (kX12_readWent 25 rfl) rfl ?_
      refine X_istore_n (n := 45) (L1 := [(2, .int (S6.1 a0 13)), (1, .int (S.1 (rf a0 15) 4)), (0, .ref a0)]) (kX12_readWent 26 rfl) rfl rfl (Nat.le_of_ble_eq_true rfl) rfl ?_
      refine X_aload_n (n := 46) 2 (kX12_readWent 27 rfl) rfl rfl rfl ?_
      refine X_iconst (n := 47) (v := 1) (kX12_readWent 28 rfl) rfl (by decide) ?_
      refine X_bipush (n := 49) (v := 60) (kX12_readWent 29 rfl) rfl (by decide) ?_
      refine X_callVB (n := 52) (As := [.int (1 : Int32), .int (60 : Int32)]) (st := []) (kX12_readWent 30 rfl) rfl (w_X12_isNumber hk0) (by decide) ml_X12_176 mf_X12_isNumber rfl hk0 xf_X12 rfl (Nat.le_of_ble_eq_true rfl) (fun r8 S9 hq => ?_)
      try dsimp only
      refine X_bn (n := 55) (tgt := 57) (kX12_readWent 31 rfl) rfl rfl (fun h10 => ?_) (fun h10 => ?_)
      · refine X_iconst (n := 58) (v := 0) (kX12_readWent 34 rfl) rfl (by decide) ?_
        refine X_istore_n (n := 59) (L1 := [(3, .int 0), (2, .int (S6.1 a0 13)), (1, .int (S.1 (rf a0 15) 4)), (0, .ref a0)]) (kX12_readWent 35 rfl) rfl rfl (Nat.le_of_ble_eq_true rfl) rfl ?_
        refine X_L [0, 1, 2, 3] rfl (w_X12_readWent_L59 hk0 (fun S18 => ?_) ?_ 1000000 (0 : Int32) S9)
        · refine X_aload_n (n := 112) 2 (kX12_readWent 68 rfl) rfl rfl rfl ?_
          refine X_getR (n := 115) xf_X12 hk0 (by decide) fl_X12_16 rfl (kX12_readWent 69 rfl) rfl ?_
          refine X_bipush (n := 117) (v := 78) (kX12_readWent 70 rfl) rfl (by decide) ?_
          refine X_iconst (n := 118) (v := 3) (kX12_readWent 71 rfl) rfl (by decide) ?_
          refine X_iload_n (n := 119) 1 (kX12_readWent 72 rfl) rfl rfl rfl ?_
          refine X_imul (n := 120) (kX12_readWent 73 rfl) rfl ?_
          refine X_iadd (n := 121) (kX12_readWent 74 rfl) rfl ?_
          refine X_iload_n (n := 122) 0 (kX12_readWent 75 rfl) rfl rfl rfl ?_
          refine X_iast (n := 123) (kt_12_15 hk0) (kX12_readWent 76 rfl) rfl (fun h25 => ?_)
          refine X_aload_n (n := 124) 2 (kX12_readWent 77 rfl) rfl rfl rfl ?_
          refine X_getR (n := 127) xf_X12 hk0 (by decide) fl_X12_16 rfl (kX12_readWent 78 rfl) rfl ?_
          refine X_bipush (n := 129) (v := 78) (kX12_readWent 79 rfl) rfl (by decide) ?_
          refine X_iconst (n := 130) (v := 3) (kX12_readWent 80 rfl) rfl (by decide) ?_
          refine X_iload_n (n := 131) 1 (kX12_readWent 81 rfl) rfl rfl rfl ?_
          refine X_imul (n := 132) (kX12_readWent 82 rfl) rfl ?_
          refine X_iadd (n := 133) (kX12_readWent 83 rfl) rfl ?_
          refine X_iconst (n := 134) (v := 1) (kX12_readWent 84 rfl) rfl (by decide) ?_
          refine X_iadd (n := 135) (kX12_readWent 85 rfl) rfl ?_
          refine X_aload_n (n := 136) 2 (kX12_readWent 86 rfl) rfl rfl rfl ?_
          refine X_getI (n := 139) xf_X12 hk0 (by decide) fl_X12_173 rfl (kX12_readWent 87 rfl) rfl ?_
          refine X_iast (n := 140) (kt_12_15 hk0) (kX12_readWent 88 rfl) rfl (fun h24 => ?_)
          refine X_aload_n (n := 141) 2 (kX12_readWent 89 rfl) rfl rfl rfl ?_
          refine X_callVV (n := 144) (As := []) (st := []) (kX12_readWent 90 rfl) rfl (w_X12_go hk0) (by decide) ml_X12_180 mf_X12_go rfl hk0 xf_X12 rfl (Nat.le_of_ble_eq_true rfl) (fun S19 hq => ?_)
          try dsimp only
          refine X_aload_n (n := 145) 2 (kX12_readWent 91 rfl) rfl rfl rfl ?_
          refine X_bipush (n := 147) (v := 6) (kX12_readWent 92 rfl) rfl (by decide) ?_
          refine X_aload_n (n := 148) 2 (kX12_readWent 93 rfl) rfl rfl rfl ?_
          refine X_getR (n := 151) xf_X12 hk0 (by decide) fl_X12_16 rfl (kX12_readWent 94 rfl) rfl ?_
          refine X_iconst (n := 152) (v := 1) (kX12_readWent 95 rfl) rfl (by decide) ?_
          refine X_iald' (n := 153) (kt_12_15 hk0) (kX12_readWent 96 rfl) rfl (by rw [lt_12_15 hk0]; decide) ?_
          refine X_callVB (n := 156) (As := [.int (6 : Int32), .int (S19.1 (rf a0 15) 1)]) (st := []) (kX12_readWent 97 rfl) rfl (w_X12_readOne hk0) (by decide) ml_X12_211 mf_X12_readOne rfl hk0 xf_X12 rfl (Nat.le_of_ble_eq_true rfl) (fun r20 S21 hq => ?_)
          try dsimp only
          refine X_bn (n := 159) (tgt := 161) (kX12_readWent 98 rfl) rfl rfl (fun h22 => ?_) (fun h22 => ?_)
          · refine X_aload_n (n := 162) 2 (kX12_readWent_1 1 rfl) rfl rfl rfl ?_
            refine X_getR (n := 165) xf_X12 hk0 (by decide) fl_X12_16 rfl (kX12_readWent_1 2 rfl) rfl ?_
            refine X_bipush (n := 167) (v := 78) (kX12_readWent_1 3 rfl) rfl (by decide) ?_
            refine X_iconst (n := 168) (v := 3) (kX12_readWent_1 4 rfl) rfl (by decide) ?_
            refine X_iload_n (n := 169) 1 (kX12_readWent_1 5 rfl) rfl rfl rfl ?_
            refine X_imul (n := 170) (kX12_readWent_1 6 rfl) rfl ?_
            refine X_iadd (n := 171) (kX12_readWent_1 7 rfl) rfl ?_
            refine X_iconst (n := 172) (v := 2) (kX12_readWent_1 8 rfl) rfl (by decide) ?_
            refine X_iadd (n := 173) (kX12_readWent_1 9 rfl) rfl ?_
            refine X_aload_n (n := 174) 2 (kX12_readWent_1 10 rfl) rfl rfl rfl ?_
            refine X_getI (n := 177) xf_X12 hk0 (by decide) fl_X12_173 rfl (kX12_readWent_1 11 rfl) rfl ?_
            refine X_iast (n := 178) (kt_12_15 hk0) (kX12_readWent_1 12 rfl) rfl (fun h23 => ?_)
            refine X_aload_n (n := 179) 2 (kX12_readWent_1 13 rfl) rfl rfl rfl ?_
            refine X_getR (n := 182) xf_X12 hk0 (by decide) fl_X12_16 rfl (kX12_readWent_1 14 rfl) rfl ?_
            refine X_iconst (n := 183) (v := 4) (kX12_readWent_1 15 rfl) rfl (by decide) ?_
            refine X_dup2 (n := 184) (kX12_readWent_1 16 rfl) rfl rfl rfl ?_
            refine X_iald' (n := 185) (kt_12_15 hk0) (kX12_readWent_1 17 rfl) rfl (by rw [lt_12_15 hk0]; decide) ?_
            refine X_iconst (n := 186) (v := 1) (kX12_readWent_1 18 rfl) rfl (by decide) ?_
            refine X_iadd (n := 187) (kX12_readWent_1 19 rfl) rfl ?_
            refine X_iast' (n := 188) (kt_12_15 hk0) (kX12_readWent_1 20 rfl) rfl (by rw [lt_12_15 hk0]; decide) ?_
            refine X_iconst (n := 189) (v := 1) (kX12_readWent_1 21 rfl) rfl (by decide) ?_
            exact X_zret (b := true) rfl (kX12_readWent_1 22 rfl)
          · refine X_iconst (n := 160) (v := 0) (kX12_readWent 99 rfl) rfl (by decide) ?_
            exact X_zret (b := false) rfl (kX12_readWent_1 0 rfl)
        · intro r
          rfl
      · refine X_iconst (n := 56) (v := 0) (kX12_readWent 32 rfl) rfl (by decide) ?_
        exact X_zret (b := false) rfl (kX12_readWent 33 rfl)
    · refine X_iconst (n := 39) (v := 0) (kX12_readWent 22 rfl) rfl (by decide) ?_
      exact X_zret (b := false) rfl (kX12_readWent 23 rfl)
def f_X12_pleas_L17  (a0 : Nat) : Nat → XS → Option ((Int32 × XS) ⊕ (XS))
  | 0, _ => none
  | n + 1, S => (if (S.1 a0 7) = 0 then some (.inr S) else ((f_X12_readPlea a0 S).bind (fun q => match q with | (r3, S4) => (if r3 = true then f_X12_pleas_L17 a0 n S4 else some (.inl (((-2 : Int32) - (S4.1 a0 11)), S4))))))
def f_X12_pleas  (a0 : Nat) (S : XS) : Option (Int32 × XS) := ((f_X12_begin a0 (300 : Int32) S).bind (fun S1 => ((f_X12_pleas_L17 a0 1000000 (sI (sI S1 a0 45 (0 : Int32)) a0 46 (-1 : Int32))).bind (fun q => match q with | .inl r => some r | .inr S6 => some ((S6.1 a0 46), S6)))))
set_option maxHeartbeats 4000000 in
set_option maxRecDepth 100000 in
theorem w_X12_pleas_L17 {l : Launch} {g : XG} {G : ((Int32 × XS) ⊕ (XS)) → Option (Int32 × XS)}  {a0 : Nat} (hk0 : kd a0 = 12) (kE : ∀ (S1 : XS), X φI l g 6 mX12_pleas 39 [(0, .ref a0)] [] S1 (G (.inr S1))) (kR : ∀ r, G (.inl r) = some r) : ∀ (n : Nat)  (S : XS), X φI l g 6 mX12_pleas 17 [(0, .ref a0)] [] S ((f_X12_pleas_L17 a0 n  S).bind G) := by
  intro n
  induction n with
  | zero => intro  S; exact X_none
  | succ n ih =>
  · intro  S
    rw [f_X12_pleas_L17]
    refine X_aload_n (n := 18) 0 (kX12_pleas 9 rfl) rfl rfl rfl ?_
    refine X_getI (n := 21) xf_X12 hk0 (by decide) fl_X12_122 rfl (kX12_pleas 10 rfl) rfl ?_
    refine X_itebind ?_
    refine X_if_eq (n := 24) (tgt := 39) (kX12_pleas 11 rfl) rfl rfl (fun h2 => ?_) (fun h2 => ?_)
    · exact X_L [0] rfl (kE S)
    · refine X_aload_n (n := 25) 0 (kX12_pleas 12 rfl) rfl rfl rfl ?_
      refine X_assoc ?_
      refine X_callVB (n := 28) (As := []) (st := []) (kX12_pleas 13 rfl) rfl (w_X12_readPlea hk0) (by decide) ml_X12_377 mf_X12_readPlea rfl hk0 xf_X12 rfl (Nat.le_of_ble_eq_true rfl) (fun r3 S4 hq => ?_)
      try dsimp only
      refine X_itebind ?_
      refine X_bn (n := 31) (tgt := 17) (kX12_pleas 14 rfl) rfl rfl (fun h5 => ?_) (fun h5 => ?_)
      · exact X_L [0] rfl (ih S4)
      · refine X_bipush (n := 33) (v := (-2)) (kX12_pleas 15 rfl) rfl (by decide) ?_
        refine X_aload_n (n := 34) 0 (kX12_pleas 16 rfl) rfl rfl rfl ?_
        refine X_getI (n := 37) xf_X12 hk0 (by decide) fl_X12_163 rfl (kX12_pleas 17 rfl) rfl ?_
        refine X_isub (n := 38) (kX12_pleas 18 rfl) rfl ?_
        exact X_req (kR _) (X_iret rfl (kX12_pleas 19 rfl))
set_option maxHeartbeats 4000000 in
set_option maxRecDepth 100000 in
theorem w_X12_pleas {l : Launch} {g : XG}  {a0 : Nat} {S : XS} (hk0 : kd a0 = 12) : Cl φI l g 6 mX12_pleas [.ref a0] S (f_X12_pleas a0 S) := by
  refine Cl.of (by decide +kernel) (Nat.le_of_ble_eq_true rfl) ?_
  unfold f_X12_pleas
  show X _ _ _ _ _ 0 [(0, .ref a0)] [] S _
  refine X_aload_n (n := 1) 0 (kX12_pleas 0 rfl) rfl rfl rfl ?_
  refine X_sipush (n := 4) (v := 300) (kX12_pleas 1 rfl) rfl (by decide) ?_
  refine X_callVV (n := 7) (As := [.int (300 : Int32)]) (st := []) (kX12_pleas 2 rfl) rfl (w_X12_begin hk0) (by decide) ml_X12_238 mf_X12_begin rfl hk0 xf_X12 rfl (Nat.le_of_ble_eq_true rfl) (fun S1 hq => ?_)
  try dsimp only
  refine X_aload_n (n := 8) 0 (kX12_pleas 3 rfl) rfl rfl rfl ?_
  refine X_iconst (n := 9) (v := 0) (kX12_pleas 4 rfl) rfl (by decide) ?_
  refine X_putI (n := 12) xf_X12 hk0 (by decide) fl_X12_371 rfl rfl (Or.inl rfl) (kX12_pleas 5 rfl) rfl ?_
  refine X_aload_n (n := 13) 0 (kX12_pleas 6 rfl) rfl rfl rfl ?_
  refine X_iconst (n := 14) (v := (-1)) (kX12_pleas 7 rfl) rfl (by decide) ?_
  refine X_putI (n := 17) xf_X12 hk0 (by decide) fl_X12_374 rfl rfl (Or.inl rfl) (kX12_pleas 8 rfl) rfl ?_
  refine X_L [0] rfl (w_X12_pleas_L17 hk0 (fun S6 => ?_) ?_ 1000000  (sI (sI S1 a0 45 (0 : Int32)) a0 46 (-1 : Int32)))
  · refine X_aload_n (n := 40) 0 (kX12_pleas 20 rfl) rfl rfl rfl ?_
    refine X_getI (n := 43) xf_X12 hk0 (by decide) fl_X12_374 rfl (kX12_pleas 21 rfl) rfl ?_
    exact X_iret rfl (kX12_pleas 22 rfl)
  · intro r
    rfl
def f_X12_readLine  (a0 : Nat) (S : XS) : Option (Bool × XS) := ((f_X12_isWord a0 (0 : Int32) S).bind (fun q => match q with | (r1, S2) => ((if r1 = true then ((f_X12_readScent a0 S2).bind (fun q => match q with | (r10, S11) => some (r10, S11))) else ((f_X12_isWord a0 (1 : Int32) S2).bind (fun q => match q with | (r12, S13) => (if r12 = true then ((f_X12_readPlace a0 S13).bind (fun q => match q with | (r15, S16) => some (r15, S16))) else ((f_X12_isWord a0 (2 : Int32) S13).bind (fun q => match q with | (r17, S18) => (if r17 = true then ((f_X12_readSmoke a0 S18).bind (fun q => match q with | (r20, S21) => some (r20, S21))) else ((f_X12_isWord a0 (3 : Int32) S18).bind (fun q => match q with | (r22, S23) => (if r22 = true then ((f_X12_readWitness a0 S23).bind (fun q => match q with | (r25, S26) => some (r25, S26))) else ((f_X12_isWord a0 (4 : Int32) S23).bind (fun q => match q with | (r27, S28) => (if r27 = true then ((f_X12_readWent a0 S28).bind (fun q => match q with | (r30, S31) => some (r30, S31))) else ((f_X12_isWord a0 (5 : Int32) S28).bind (fun q => match q with | (r32, S33) => (if r32 = true then ((f_X12_readRain a0 S33).bind (fun q => match q with | (r35, S36) => some (r35, S36))) else ((f_X12_bad a0 (1 : Int32) S33).bind (fun q => match q with | (r37, S38) => some (r37, S38))))))))))))))))))).bind (fun q => match q with | (x3, S4) => (if x3 = true then ((f_X12_readEnd a0 S4).bind (fun q => match q with | (r6, S7) => (if r6 = true then some (true, S7) else some (false, S7)))) else some (false, S4))))))
set_option maxHeartbeats 4000000 in
set_option maxRecDepth 100000 in
theorem w_X12_readLine {l : Launch} {g : XG}  {a0 : Nat} {S : XS} (hk0 : kd a0 = 12) : Cl φB l g 7 mX12_readLine [.ref a0] S (f_X12_readLine a0 S) := by
  refine Cl.of (by decide +kernel) (Nat.le_of_ble_eq_true rfl) ?_
  unfold f_X12_readLine
  show X _ _ _ _ _ 0 [(0, .ref a0)] [] S _
  refine X_aload_n (n := 1) 0 (kX12_readLine 0 rfl) rfl rfl rfl ?_
  refine X_iconst (n := 2) (v := 0) (kX12_readLine 1 rfl) rfl (by decide) ?_
  refine X_callVB (n := 5) (As := [.int (0 : Int32)]) (st := []) (kX12_readLine 2 rfl) rfl (w_X12_isWord hk0) (by decide) ml_X12_214 mf_X12_isWord rfl hk0 xf_X12 rfl (Nat.le_of_ble_eq_true rfl) (fun r1 S2 hq => ?_)
  try dsimp only
  refine X_join 101 (fun q => match q with | (x3, S4) => [(0, .ref a0), (1, .int (bi x3))]) (fun q => match q with | (x3, S4) => []) (fun q => match q with | (x3, S4) => S4) (fun q => ?_) (fun kJ => ?_)
  · obtain ⟨x3, S4⟩ := q
    dsimp only
    refine X_iload_n (n := 102) 1 (kX12_readLine 51 rfl) rfl rfl rfl ?_
    refine X_bz (n := 105) (tgt := 116) (kX12_readLine 52 rfl) rfl rfl (fun h5 => ?_) (fun h5 => ?_)
    · refine X_aload_n (n := 106) 0 (kX12_readLine 53 rfl) rfl rfl rfl ?_
      refine X_callVB (n := 109) (As := []) (st := []) (kX12_readLine 54 rfl) rfl (w_X12_readEnd hk0) (by decide) ml_X12_235 mf_X12_readEnd rfl hk0 xf_X12 rfl (Nat.le_of_ble_eq_true rfl) (fun r6 S7 hq => ?_)
      try dsimp only
      refine X_bz (n := 112) (tgt := 116) (kX12_readLine 55 rfl) rfl rfl (fun h8 => ?_) (fun h8 => ?_)
      · refine X_iconst (n := 113) (v := 1) (kX12_readLine 56 rfl) rfl (by decide) ?_
        refine X_goto (tgt := 117) (kX12_readLine 57 rfl) rfl ?_
        exact X_zret (b := true) rfl (kX12_readLine 59 rfl)
      · refine X_iconst (n := 117) (v := 0) (kX12_readLine 58 rfl) rfl (by decide) ?_
        exact X_zret (b := false) rfl (kX12_readLine 59 rfl)
    · refine X_iconst (n := 117) (v := 0) (kX12_readLine 58 rfl) rfl (by decide) ?_
      exact X_zret (b := false) rfl (kX12_readLine 59 rfl)
  · refine X_itebind ?_
    refine X_bz (n := 8) (tgt := 16) (kX12_readLine 3 rfl) rfl rfl (fun h9 => ?_) (fun h9 => ?_)
    · refine X_aload_n (n := 9) 0 (kX12_readLine 4 rfl) rfl rfl rfl ?_
      refine X_assoc ?_
      refine X_callVB (n := 12) (As := []) (st := []) (kX12_readLine 5 rfl) rfl (w_X12_readScent hk0) (by decide) ml_X12_217 mf_X12_readScent rfl hk0 xf_X12 rfl (Nat.le_of_ble_eq_true rfl) (fun r10 S11 hq => ?_)
      try dsimp only
      refine X_istore_n (n := 13) (L1 := [(1, .int (bi r10)), (0, .ref a0)]) (kX12_readLine 6 rfl) rfl rfl (Nat.le_of_ble_eq_true rfl) rfl ?_
      refine X_goto (tgt := 101) (kX12_readLine 7 rfl) rfl ?_
      exact X_L [1, 0] rfl (kJ (r10, S11))
    · refine X_aload_n (n := 17) 0 (kX12_readLine 8 rfl) rfl rfl rfl ?_
      refine X_iconst (n := 18) (v := 1) (kX12_readLine 9 rfl) rfl (by decide) ?_
      refine X_assoc ?_
      refine X_callVB (n := 21) (As := [.int (1 : Int32)]) (st := []) (kX12_readLine 10 rfl) rfl (w_X12_isWord hk0) (by decide) ml_X12_214 mf_X12_isWord rfl hk0 xf_X12 rfl (Nat.le_of_ble_eq_true rfl) (fun r12 S13 hq => ?_)
      try dsimp only
      refine X_itebind ?_
      refine X_bz (n := 24) (tgt := 32) (kX12_readLine 11 rfl) rfl rfl (fun h14 => ?_) (fun h14 => ?_)
      · refine X_aload_n (n := 25) 0 (kX12_readLine 12 rfl) rfl rfl rfl ?_
        refine X_assoc ?_
        refine X_callVB (n := 28) (As := []) (st := []) (kX12_readLine 13 rfl) rfl (w_X12_readPlace hk0) (by decide) ml_X12_220 mf_X12_readPlace rfl hk0 xf_X12 rfl (Nat.le_of_ble_eq_true rfl) (fun r15 S16 hq => ?_)
        try dsimp only
        refine X_istore_n (n := 29) (L1 := [(1, .int (bi r15)), (0, .ref a0)]) (kX12_readLine 14 rfl) rfl rfl (Nat.le_of_ble_eq_true rfl) rfl ?_
        refine X_goto (tgt := 101) (kX12_readLine 15 rfl) rfl ?_
        exact X_L [1, 0] rfl (kJ (r15, S16))
      · refine X_aload_n (n := 33) 0 (kX12_readLine 16 rfl) rfl rfl rfl ?_
        refine X_iconst (n := 34) (v := 2) (kX12_readLine 17 rfl) rfl (by decide) ?_
        refine X_assoc ?_
        refine X_callVB (n := 37) (As := [.int (2 : Int32)]) (st := []) (kX12_readLine 18 rfl) rfl (w_X12_isWord hk0) (by decide) ml_X12_214 mf_X12_isWord rfl hk0 xf_X12 rfl (Nat.le_of_ble_eq_true rfl) (fun r17 S18 hq => ?_)
        try dsimp only
        refine X_itebind ?_
        refine X_bz (n := 40) (tgt := 48) (kX12_readLine 19 rfl) rfl rfl (fun h19 => ?_) (fun h19 => ?_)
        · refine X_aload_n (n := 41) 0 (kX12_readLine 20 rfl) rfl rfl rfl ?_
          refine X_assoc ?_
          refine X_callVB (n := 44) (As := []) (st := []) (kX12_readLine 21 rfl) rfl (w_X12_readSmoke hk0) (by decide) ml_X12_223 mf_X12_readSmoke rfl hk0 xf_X12 rfl (Nat.le_of_ble_eq_true rfl) (fun r20 S21 hq => ?_)
          try dsimp only
          refine X_istore_n (n := 45) (L1 := [(1, .int (bi r20)), (0, .ref a0)]) (kX12_readLine 22 rfl) rfl rfl (Nat.le_of_ble_eq_true rfl) rfl ?_
          refine X_goto (tgt := 101) (kX12_readLine 23 rfl) rfl ?_
          exact X_L [1, 0] rfl (kJ (r20, S21))
        · refine X_aload_n (n := 49) 0 (kX12_readLine 24 rfl) rfl rfl rfl ?_
          refine X_iconst (n := 50) (v := 3) (kX12_readLine 25 rfl) rfl (by decide) ?_
          refine X_assoc ?_
          refine X_callVB (n := 53) (As := [.int (3 : Int32)]) (st := []) (kX12_readLine 26 rfl) rfl (w_X12_isWord hk0) (by decide) ml_X12_214 mf_X12_isWord rfl hk0 xf_X12 rfl (Nat.le_of_ble_eq_true rfl) (fun r22 S23 hq => ?_)
          try dsimp only
          refine X_itebind ?_
          refine X_bz (n := 56) (tgt := 64) (kX12_readLine 27 rfl) rfl rfl (fun h24 => ?_) (fun h24 => ?_)
          · refine X_aload_n (n := 57) 0 (kX12_readLine 28 rfl) rfl rfl rfl ?_
            refine X_assoc ?_
            refine X_callVB (n := 60) (As := []) (st := []) (kX12_readLine 29 rfl) rfl (w_X12_readWitness hk0) (by decide) ml_X12_226 mf_X12_readWitness rfl hk0 xf_X12 rfl (Nat.le_of_ble_eq_true rfl) (fun r25 S26 hq => ?_)
            try dsimp only
            refine X_istore_n (n := 61) (L1 := [(1, .int (bi r25)), (0, .ref a0)]) (kX12_readLine 30 rfl) rfl rfl (Nat.le_of_ble_eq_true rfl) rfl ?_
            refine X_goto (tgt := 101) (kX12_readLine 31 rfl) rfl ?_
            exact X_L [1, 0] rfl (kJ (r25, S26))
          · refine X_aload_n (n := 65) 0 (kX12_readLine 32 rfl) rfl rfl rfl ?_
            refine X_iconst (n := 66) (v := 4) (kX12_readLine 33 rfl) rfl (by decide) ?_
            refine X_assoc ?_
            refine X_callVB (n := 69) (As := [.int (4 : Int32)]) (st := []) (kX12_readLine 34 rfl) rfl (w_X12_isWord hk0) (by decide) ml_X12_214 mf_X12_isWord rfl hk0 xf_X12 rfl (Nat.le_of_ble_eq_true rfl) (fun r27 S28 hq => ?_)
            try dsimp only
            refine X_itebind ?_
            refine X_bz (n := 72) (tgt := 80) (kX12_readLine 35 rfl) rfl rfl (fun h29 => ?_) (fun h29 => ?_)
            · refine X_aload_n (n := 73) 0 (kX12_readLine 36 rfl) rfl rfl rfl ?_
              refine X_assoc ?_
              refine X_callVB (n := 76) (As := []) (st := []) (kX12_readLine 37 rfl) rfl (w_X12_readWent hk0) (by decide) ml_X12_229 mf_X12_readWent rfl hk0 xf_X12 rfl (Nat.le_of_ble_eq_true rfl) (fun r30 S31 hq => ?_)
              try dsimp only
              refine X_istore_n (n := 77) (L1 := [(1, .int (bi r30)), (0, .ref a0)]) (kX12_readLine 38 rfl) rfl rfl (Nat.le_of_ble_eq_true rfl) rfl ?_
              refine X_goto (tgt := 101) (kX12_readLine 39 rfl) rfl ?_
              exact X_L [1, 0] rfl (kJ (r30, S31))
            · refine X_aload_n (n := 81) 0 (kX12_readLine 40 rfl) rfl rfl rfl ?_
              refine X_iconst (n := 82) (v := 5) (kX12_readLine 41 rfl) rfl (by decide) ?_
              refine X_assoc ?_
              refine X_callVB (n := 85) (As := [.int (5 : Int32)]) (st := []) (kX12_readLine 42 rfl) rfl (w_X12_isWord hk0) (by decide) ml_X12_214 mf_X12_isWord rfl hk0 xf_X12 rfl (Nat.le_of_ble_eq_true rfl) (fun r32 S33 hq => ?_)
              try dsimp only
              refine X_itebind ?_
              refine X_bz (n := 88) (tgt := 95) (kX12_readLine 43 rfl) rfl rfl (fun h34 => ?_) (fun h34 => ?_)
              · refine X_aload_n (n := 89) 0 (kX12_readLine 44 rfl) rfl rfl rfl ?_
                refine X_assoc ?_
                refine X_callVB (n := 92) (As := []) (st := []) (kX12_readLine 45 rfl) rfl (w_X12_readRain hk0) (by decide) ml_X12_232 mf_X12_readRain rfl hk0 xf_X12 rfl (Nat.le_of_ble_eq_true rfl) (fun r35 S36 hq => ?_)
                try dsimp only
                refine X_goto (tgt := 100) (kX12_readLine 46 rfl) rfl ?_
                refine X_istore_n (n := 101) (L1 := [(1, .int (bi r35)), (0, .ref a0)]) (kX12_readLine 50 rfl) rfl rfl (Nat.le_of_ble_eq_true rfl) rfl ?_
                exact X_L [1, 0] rfl (kJ (r35, S36))
              · refine X_aload_n (n := 96) 0 (kX12_readLine 47 rfl) rfl rfl rfl ?_
                refine X_iconst (n := 97) (v := 1) (kX12_readLine 48 rfl) rfl (by decide) ?_
                refine X_assoc ?_
                refine X_callVB (n := 100) (As := [.int (1 : Int32)]) (st := []) (kX12_readLine 49 rfl) rfl (w_X12_bad hk0) (by decide) ml_X12_166 mf_X12_bad rfl hk0 xf_X12 rfl (Nat.le_of_ble_eq_true rfl) (fun r37 S38 hq => ?_)
                try dsimp only
                refine X_istore_n (n := 101) (L1 := [(1, .int (bi r37)), (0, .ref a0)]) (kX12_readLine 50 rfl) rfl rfl (Nat.le_of_ble_eq_true rfl) rfl ?_
                exact X_L [1, 0] rfl (kJ (r37, S38))
def f_X12_hill_L9  (a0 : Nat) : Nat → Int32 → XS → Option (XS)
  | 0, _, _ => none
  | n + 1, i1, S => (if (144 : Int32) ≤ i1 then some S else (if i1 < 0 ∨ ln (rf a0 15) ≤ i1.toNatClampNeg then none else f_X12_hill_L9 a0 n (i1 + 1) (sI S (rf a0 15) i1.toNatClampNeg (0 : Int32))))
def f_X12_hill_L31  (a0 : Nat) : Nat → Int32 → XS → Option ((Int32 × XS) ⊕ (Int32 × XS))
  | 0, _, _ => none
  | n + 1, i1, S => (if (S.1 a0 7) = 0 then some (.inr (i1, S)) else ((f_X12_readLine a0 S).bind (fun q => match q with | (r6, S7) => (if r6 = true then f_X12_hill_L31 a0 n (i1 + 1) S7 else some (.inl (((-1 : Int32) - (S7.1 a0 11)), S7))))))
def f_X12_hill_L60  (i1 : Int32) (a0 : Nat) : Nat → Int32 → XS → Option (XS)
  | 0, _, _ => none
  | n + 1, i2, S => (if (516 : Int32) ≤ i2 then some S else (if (144 : Int32) ≤ i2 then (if i2 < 0 ∨ ln (rf a0 14) ≤ i2.toNatClampNeg then none else f_X12_hill_L60 i1 a0 n (i2 + 1) (sI S (rf a0 14) i2.toNatClampNeg (0 : Int32))) else (if i2 < 0 ∨ ln (rf a0 15) ≤ i2.toNatClampNeg then none else (if i2 < 0 ∨ ln (rf a0 14) ≤ i2.toNatClampNeg then none else f_X12_hill_L60 i1 a0 n (i2 + 1) (sI S (rf a0 14) i2.toNatClampNeg (S.1 (rf a0 15) i2.toNatClampNeg))))))
def f_X12_hill_L102  (i1 : Int32) (a0 : Nat) : Nat → Int32 → XS → Option (XS)
  | 0, _, _ => none
  | n + 1, i2, S => (if (18 : Int32) ≤ i2 then some S else (if i2 < 0 ∨ ln (rf a0 20) ≤ i2.toNatClampNeg then none else (if i2 < 0 ∨ ln (rf a0 19) ≤ i2.toNatClampNeg then none else f_X12_hill_L102 i1 a0 n (i2 + 1) (sL S (rf a0 19) i2.toNatClampNeg (S.2 (rf a0 20) i2.toNatClampNeg)))))
def f_X12_hill  (a0 : Nat) (S : XS) : Option (Int32 × XS) := ((f_X12_begin a0 (900 : Int32) S).bind (fun S1 => ((f_X12_hill_L9 a0 1000000 (0 : Int32) S1).bind (fun S4 => ((f_X12_hill_L31 a0 1000000 (0 : Int32) S4).bind (fun q => match q with | .inl r => some r | .inr (e9, S10) => ((f_X12_hill_L60 e9 a0 1000000 (0 : Int32) S10).bind (fun S16 => ((f_X12_startAnew a0 S16).bind (fun S17 => ((f_X12_hill_L102 e9 a0 1000000 (0 : Int32) S17).bind (fun S21 => some (e9, (sI S21 a0 23 (0 : Int32)))))))))))))))
set_option maxHeartbeats 4000000 in
set_option maxRecDepth 100000 in
theorem w_X12_hill_L9 {l : Launch} {g : XG} {G : (XS) → Option (Int32 × XS)}  {a0 : Nat} (hk0 : kd a0 = 12) (kE : ∀ (S1 : XS), X φI l g 8 mX12_hill 29 [(0, .ref a0)] [] S1 (G S1)) : ∀ (n : Nat) (i1 : Int32) (S : XS), X φI l g 8 mX12_hill 9 [(1, .int i1), (0, .ref a0)] [] S ((f_X12_hill_L9 a0 n i1 S).bind G) := by
  intro n
  induction n with
  | zero => intro i1 S; exact X_none
  | succ n ih =>
  · intro i1 S
    rw [f_X12_hill_L9]
    refine X_iload_n (n := 10) 0 (kX12_hill 5 rfl) rfl rfl rfl ?_
    refine X_sipush (n := 13) (v := 144) (kX12_hill 6 rfl) rfl (by decide) ?_
    refine X_itebind ?_
    refine X_ic_ge (n := 16) (tgt := 29) (kX12_hill 7 rfl) rfl rfl (fun h2 => ?_) (fun h2 => ?_)
    · exact X_L [1] rfl (kE S)
    · refine X_aload_n (n := 17) 1 (kX12_hill 8 rfl) rfl rfl rfl ?_
      refine X_getR (n := 20) xf_X12 hk0 (by decide) fl_X12_16 rfl (kX12_hill 9 rfl) rfl ?_
      refine X_iload_n (n := 21) 0 (kX12_hill 10 rfl) rfl rfl rfl ?_
      refine X_iconst (n := 22) (v := 0) (kX12_hill 11 rfl) rfl (by decide) ?_
      refine X_itebind ?_
      refine X_iast (n := 23) (kt_12_15 hk0) (kX12_hill 12 rfl) rfl (fun h3 => ?_)
      refine X_iinc (n := 26) 0 (v := (i1 + 1)) (L1 := [(1, .int (i1 + 1)), (0, .ref a0)]) (kX12_hill 13 rfl) rfl rfl rfl (Nat.le_of_ble_eq_true rfl) rfl ?_
      refine X_goto (tgt := 9) (kX12_hill 14 rfl) rfl ?_
      exact X_L [0, 1] rfl (ih (i1 + 1) (sI S (rf a0 15) i1.toNatClampNeg (0 : Int32)))
set_option maxHeartbeats 4000000 in
set_option maxRecDepth 100000 in
theorem w_X12_hill_L31 {l : Launch} {g : XG} {G : ((Int32 × XS) ⊕ (Int32 × XS)) → Option (Int32 × XS)}  {a0 : Nat} (hk0 : kd a0 = 12) (kE : ∀ (e1 : Int32) (S1 : XS), X φI l g 8 mX12_hill 58 [(1, .int e1), (0, .ref a0)] [] S1 (G (.inr (e1, S1)))) (kR : ∀ r, G (.inl r) = some r) : ∀ (n : Nat) (i1 : Int32) (S : XS), X φI l g 8 mX12_hill 31 [(1, .int i1), (0, .ref a0)] [] S ((f_X12_hill_L31 a0 n i1 S).bind G) := by
  intro n
  induction n with
  | zero => intro i1 S; exact X_none
  | succ n ih =>
  · intro i1 S
    rw [f_X12_hill_L31]
    refine X_aload_n (n := 32) 1 (kX12_hill 17 rfl) rfl rfl rfl ?_
    refine X_getI (n := 35) xf_X12 hk0 (by decide) fl_X12_122 rfl (kX12_hill 18 rfl) rfl ?_
    refine X_itebind ?_
    refine X_if_eq (n := 38) (tgt := 58) (kX12_hill 19 rfl) rfl rfl (fun h5 => ?_) (fun h5 => ?_)
    · exact X_L [0, 1] rfl (kE i1 S)
    · refine X_aload_n (n := 39) 1 (kX12_hill 20 rfl) rfl rfl rfl ?_
      refine X_assoc ?_
      refine X_callVB (n := 42) (As := []) (st := []) (kX12_hill 21 rfl) rfl (w_X12_readLine hk0) (by decide) ml_X12_241 mf_X12_readLine rfl hk0 xf_X12 rfl (Nat.le_of_ble_eq_true rfl) (fun r6 S7 hq => ?_)
      try dsimp only
      refine X_itebind ?_
      refine X_bn (n := 45) (tgt := 52) (kX12_hill 22 rfl) rfl rfl (fun h8 => ?_) (fun h8 => ?_)
      · refine X_iinc (n := 55) 0 (v := (i1 + 1)) (L1 := [(1, .int (i1 + 1)), (0, .ref a0)]) (kX12_hill 28 rfl) rfl rfl rfl (Nat.le_of_ble_eq_true rfl) rfl ?_
        refine X_goto (tgt := 31) (kX12_hill 29 rfl) rfl ?_
        exact X_L [0, 1] rfl (ih (i1 + 1) S7)
      · refine X_iconst (n := 46) (v := (-1)) (kX12_hill 23 rfl) rfl (by decide) ?_
        refine X_aload_n (n := 47) 1 (kX12_hill 24 rfl) rfl rfl rfl ?_
        refine X_getI (n := 50) xf_X12 hk0 (by decide) fl_X12_163 rfl (kX12_hill 25 rfl) rfl ?_
        refine X_isub (n := 51) (kX12_hill 26 rfl) rfl ?_
        exact X_req (kR _) (X_iret rfl (kX12_hill 27 rfl))
set_option maxHeartbeats 4000000 in
set_option maxRecDepth 100000 in
theorem w_X12_hill_L60 {l : Launch} {g : XG} {G : (XS) → Option (Int32 × XS)}  {i1 : Int32} {a0 : Nat} (hk0 : kd a0 = 12) (kE : ∀ (S1 : XS), X φI l g 8 mX12_hill 96 [(1, .int i1), (0, .ref a0)] [] S1 (G S1)) : ∀ (n : Nat) (i2 : Int32) (S : XS), X φI l g 8 mX12_hill 60 [(2, .int i2), (1, .int i1), (0, .ref a0)] [] S ((f_X12_hill_L60 i1 a0 n i2 S).bind G) := by
  intro n
  induction n with
  | zero => intro i2 S; exact X_none
  | succ n ih =>
  · intro i2 S
    rw [f_X12_hill_L60]
    refine X_iload_n (n := 61) 0 (kX12_hill 32 rfl) rfl rfl rfl ?_
    refine X_sipush (n := 64) (v := 516) (kX12_hill 33 rfl) rfl (by decide) ?_
    refine X_itebind ?_
    refine X_ic_ge (n := 67) (tgt := 96) (kX12_hill 34 rfl) rfl rfl (fun h11 => ?_) (fun h11 => ?_)
    · exact X_L [1, 2] rfl (kE S)
    · refine X_aload_n (n := 68) 2 (kX12_hill 35 rfl) rfl rfl rfl ?_
      refine X_getR (n := 71) xf_X12 hk0 (by decide) fl_X12_13 rfl (kX12_hill 36 rfl) rfl ?_
      refine X_iload_n (n := 72) 0 (kX12_hill 37 rfl) rfl rfl rfl ?_
      refine X_iload_n (n := 73) 0 (kX12_hill 38 rfl) rfl rfl rfl ?_
      refine X_sipush (n := 76) (v := 144) (kX12_hill 39 rfl) rfl (by decide) ?_
      refine X_itebind ?_
      refine X_ic_ge (n := 79) (tgt := 88) (kX12_hill 40 rfl) rfl rfl (fun h12 => ?_) (fun h12 => ?_)
      · refine X_iconst (n := 89) (v := 0) (kX12_hill 46 rfl) rfl (by decide) ?_
        refine X_itebind ?_
        refine X_iast (n := 90) (kt_12_14 hk0) (kX12_hill 47 rfl) rfl (fun h13 => ?_)
        refine X_iinc (n := 93) 0 (v := (i2 + 1)) (L1 := [(2, .int (i2 + 1)), (1, .int i1), (0, .ref a0)]) (kX12_hill 48 rfl) rfl rfl rfl (Nat.le_of_ble_eq_true rfl) rfl ?_
        refine X_goto (tgt := 60) (kX12_hill 49 rfl) rfl ?_
        exact X_L [0, 1, 2] rfl (ih (i2 + 1) (sI S (rf a0 14) i2.toNatClampNeg (0 : Int32)))
      · refine X_aload_n (n := 80) 2 (kX12_hill 41 rfl) rfl rfl rfl ?_
        refine X_getR (n := 83) xf_X12 hk0 (by decide) fl_X12_16 rfl (kX12_hill 42 rfl) rfl ?_
        refine X_iload_n (n := 84) 0 (kX12_hill 43 rfl) rfl rfl rfl ?_
        refine X_itebind ?_
        refine X_iald (n := 85) (kt_12_15 hk0) (kX12_hill 44 rfl) rfl (fun h15 => ?_)
        refine X_goto (tgt := 89) (kX12_hill 45 rfl) rfl ?_
        refine X_itebind ?_
        refine X_iast (n := 90) (kt_12_14 hk0) (kX12_hill 47 rfl) rfl (fun h14 => ?_)
        refine X_iinc (n := 93) 0 (v := (i2 + 1)) (L1 := [(2, .int (i2 + 1)), (1, .int i1), (0, .ref a0)]) (kX12_hill 48 rfl) rfl rfl rfl (Nat.le_of_ble_eq_true rfl) rfl ?_
        refine X_goto (tgt := 60) (kX12_hill 49 rfl) rfl ?_
        exact X_L [0, 1, 2] rfl (ih (i2 + 1) (sI S (rf a0 14) i2.toNatClampNeg (S.1 (rf a0 15) i2.toNatClampNeg)))
set_option maxHeartbeats 4000000 in
set_option maxRecDepth 100000 in
theorem w_X12_hill_L102 {l : Launch} {g : XG} {G : (XS) → Option (Int32 × XS)}  {i1 : Int32} {a0 : Nat} (hk0 : kd a0 = 12) (kE : ∀ (S1 : XS), X φI l g 8 mX12_hill 126 [(1, .int i1), (0, .ref a0)] [] S1 (G S1)) : ∀ (n : Nat) (i2 : Int32) (S : XS), X φI l g 8 mX12_hill 102 [(2, .int i2), (1, .int i1), (0, .ref a0)] [] S ((f_X12_hill_L102 i1 a0 n i2 S).bind G) := by
  intro n
  induction n with
  | zero => intro i2 S; exact X_none
  | succ n ih =>
  · intro i2 S
    rw [f_X12_hill_L102]
    refine X_iload_n (n := 103) 0 (kX12_hill 54 rfl) rfl rfl rfl ?_
    refine X_bipush (n := 105) (v := 18) (kX12_hill 55 rfl) rfl (by decide) ?_
    refine X_itebind ?_
    refine X_ic_ge (n := 108) (tgt := 126) (kX12_hill 56 rfl) rfl rfl (fun h18 => ?_) (fun h18 => ?_)
    · exact X_L [1, 2] rfl (kE S)
    · refine X_aload_n (n := 109) 2 (kX12_hill 57 rfl) rfl rfl rfl ?_
      refine X_getR (n := 112) xf_X12 hk0 (by decide) fl_X12_28 rfl (kX12_hill 58 rfl) rfl ?_
      refine X_iload_n (n := 113) 0 (kX12_hill 59 rfl) rfl rfl rfl ?_
      refine X_aload_n (n := 114) 2 (kX12_hill 60 rfl) rfl rfl rfl ?_
      refine X_getR (n := 117) xf_X12 hk0 (by decide) fl_X12_32 rfl (kX12_hill 61 rfl) rfl ?_
      refine X_iload_n (n := 118) 0 (kX12_hill 62 rfl) rfl rfl rfl ?_
      refine X_itebind ?_
      refine X_lald (n := 119) (kt_12_20 hk0) (kX12_hill 63 rfl) rfl (fun h20 => ?_)
      refine X_itebind ?_
      refine X_last (n := 120) (kt_12_19 hk0) (kX12_hill 64 rfl) rfl (fun h19 => ?_)
      refine X_iinc (n := 123) 0 (v := (i2 + 1)) (L1 := [(2, .int (i2 + 1)), (1, .int i1), (0, .ref a0)]) (kX12_hill 65 rfl) rfl rfl rfl (Nat.le_of_ble_eq_true rfl) rfl ?_
      refine X_goto (tgt := 102) (kX12_hill 66 rfl) rfl ?_
      exact X_L [0, 1, 2] rfl (ih (i2 + 1) (sL S (rf a0 19) i2.toNatClampNeg (S.2 (rf a0 20) i2.toNatClampNeg)))
set_option maxHeartbeats 4000000 in
set_option maxRecDepth 100000 in
theorem w_X12_hill {l : Launch} {g : XG}  {a0 : Nat} {S : XS} (hk0 : kd a0 = 12) : Cl φI l g 8 mX12_hill [.ref a0] S (f_X12_hill a0 S) := by
  refine Cl.of (by decide +kernel) (Nat.le_of_ble_eq_true rfl) ?_
  unfold f_X12_hill
  show X _ _ _ _ _ 0 [(0, .ref a0)] [] S _
  refine X_aload_n (n := 1) 0 (kX12_hill 0 rfl) rfl rfl rfl ?_
  refine X_sipush (n := 4) (v := 900) (kX12_hill 1 rfl) rfl (by decide) ?_
  refine X_callVV (n := 7) (As := [.int (900 : Int32)]) (st := []) (kX12_hill 2 rfl) rfl (w_X12_begin hk0) (by decide) ml_X12_238 mf_X12_begin rfl hk0 xf_X12 rfl (Nat.le_of_ble_eq_true rfl) (fun S1 hq => ?_)
  try dsimp only
  refine X_iconst (n := 8) (v := 0) (kX12_hill 3 rfl) rfl (by decide) ?_
  refine X_istore_n (n := 9) (L1 := [(1, .int 0), (0, .ref a0)]) (kX12_hill 4 rfl) rfl rfl (Nat.le_of_ble_eq_true rfl) rfl ?_
  refine X_L [0, 1] rfl (w_X12_hill_L9 hk0 (fun S4 => ?_) 1000000 (0 : Int32) S1)
  try dsimp only
  refine X_iconst (n := 30) (v := 0) (kX12_hill 15 rfl) rfl (by decide) ?_
  refine X_istore_n (n := 31) (L1 := [(1, .int 0), (0, .ref a0)]) (kX12_hill 16 rfl) rfl rfl (Nat.le_of_ble_eq_true rfl) rfl ?_
  refine X_L [0, 1] rfl (w_X12_hill_L31 hk0 (fun e9 S10 => ?_) ?_ 1000000 (0 : Int32) S4)
  · refine X_iconst (n := 59) (v := 0) (kX12_hill 30 rfl) rfl (by decide) ?_
    refine X_istore_n (n := 60) (L1 := [(2, .int 0), (1, .int e9), (0, .ref a0)]) (kX12_hill 31 rfl) rfl rfl (Nat.le_of_ble_eq_true rfl) rfl ?_
    refine X_L [0, 1, 2] rfl (w_X12_hill_L60 hk0 (fun S16 => ?_) 1000000 (0 : Int32) S10)
    try dsimp only
    refine X_aload_n (n := 97) 1 (kX12_hill 50 rfl) rfl rfl rfl ?_
    refine X_callVV (n := 100) (As := []) (st := []) (kX12_hill 51 rfl) rfl (w_X12_startAnew hk0) (by decide) ml_X12_244 mf_X12_startAnew rfl hk0 xf_X12 rfl (Nat.le_of_ble_eq_true rfl) (fun S17 hq => ?_)
    try dsimp only
    refine X_iconst (n := 101) (v := 0) (kX12_hill 52 rfl) rfl (by decide) ?_
    refine X_istore_n (n := 102) (L1 := [(2, .int 0), (1, .int e9), (0, .ref a0)]) (kX12_hill 53 rfl) rfl rfl (Nat.le_of_ble_eq_true rfl) rfl ?_
    refine X_L [0, 1, 2] rfl (w_X12_hill_L102 hk0 (fun S21 => ?_) 1000000 (0 : Int32) S17)
    try dsimp only
    refine X_aload_n (n := 127) 1 (kX12_hill 67 rfl) rfl rfl rfl ?_
    refine X_iconst (n := 128) (v := 0) (kX12_hill 68 rfl) rfl (by decide) ?_
    refine X_putI (n := 131) xf_X12 hk0 (by decide) fl_X12_247 rfl rfl (Or.inl rfl) (kX12_hill 69 rfl) rfl ?_
    refine X_iload_n (n := 132) 0 (kX12_hill 70 rfl) rfl rfl rfl ?_
    exact X_iret rfl (kX12_hill 71 rfl)
  · intro r
    rfl
