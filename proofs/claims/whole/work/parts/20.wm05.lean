def f_X12_isNumber  (a0 : Nat) (i1 : Int32) (i2 : Int32) (S : XS) : Option (Bool × XS) := (if (S.1 a0 7) = (3 : Int32) then (if (t_X12_isIn (S.1 a0 8) i1 i2) = true then some (true, (sI S a0 13 (S.1 a0 8))) else ((f_X12_bad a0 (2 : Int32) S).bind (fun q => match q with | (r3, S4) => some (r3, S4)))) else ((f_X12_bad a0 (1 : Int32) S).bind (fun q => match q with | (r5, S6) => some (r5, S6))))
set_option maxHeartbeats 4000000 in
set_option maxRecDepth 100000 in
theorem w_X12_isNumber {l : Launch} {g : XG}  {a0 : Nat} {i1 : Int32} {i2 : Int32} {S : XS} (hk0 : kd a0 = 12) : Cl φB l g 2 mX12_isNumber [.ref a0, .int i1, .int i2] S (f_X12_isNumber a0 i1 i2 S) := by
  refine Cl.of (by decide +kernel) (Nat.le_of_ble_eq_true rfl) ?_
  unfold f_X12_isNumber
  show X _ _ _ _ _ 0 [(0, .ref a0), (1, .int i1), (2, .int i2)] [] S _
  refine X_aload_n (n := 1) 0 (kX12_isNumber 0 rfl) rfl rfl rfl ?_
  refine X_getI (n := 4) xf_X12 hk0 (by decide) fl_X12_122 rfl (kX12_isNumber 1 rfl) rfl ?_
  refine X_iconst (n := 5) (v := 3) (kX12_isNumber 2 rfl) rfl (by decide) ?_
  refine X_ic_eq (n := 8) (tgt := 14) (kX12_isNumber 3 rfl) rfl rfl (fun h1 => ?_) (fun h1 => ?_)
  · refine X_aload_n (n := 15) 0 (kX12_isNumber 8 rfl) rfl rfl rfl ?_
    refine X_getI (n := 18) xf_X12 hk0 (by decide) fl_X12_139 rfl (kX12_isNumber 9 rfl) rfl ?_
    refine X_iload_n (n := 19) 1 (kX12_isNumber 10 rfl) rfl rfl rfl ?_
    refine X_iload_n (n := 20) 2 (kX12_isNumber 11 rfl) rfl rfl rfl ?_
    refine X_callS1B (n := 23) (As := [.int (S.1 a0 8), .int i1, .int i2]) (st := []) (kX12_isNumber 12 rfl) rfl p_X12_isIn (by decide) ml_X12_169 mf_X12_isIn rfl rfl (Nat.le_of_ble_eq_true rfl) ?_
    refine X_bn (n := 26) (tgt := 32) (kX12_isNumber 13 rfl) rfl rfl (fun h2 => ?_) (fun h2 => ?_)
    · refine X_aload_n (n := 33) 0 (kX12_isNumber 18 rfl) rfl rfl rfl ?_
      refine X_aload_n (n := 34) 0 (kX12_isNumber 19 rfl) rfl rfl rfl ?_
      refine X_getI (n := 37) xf_X12 hk0 (by decide) fl_X12_139 rfl (kX12_isNumber 20 rfl) rfl ?_
      refine X_putI (n := 40) xf_X12 hk0 (by decide) fl_X12_173 rfl rfl (Or.inl rfl) (kX12_isNumber 21 rfl) rfl ?_
      refine X_iconst (n := 41) (v := 1) (kX12_isNumber 22 rfl) rfl (by decide) ?_
      exact X_zret (b := true) rfl (kX12_isNumber 23 rfl)
    · refine X_aload_n (n := 27) 0 (kX12_isNumber 14 rfl) rfl rfl rfl ?_
      refine X_iconst (n := 28) (v := 2) (kX12_isNumber 15 rfl) rfl (by decide) ?_
      refine X_callVB (n := 31) (As := [.int (2 : Int32)]) (st := []) (kX12_isNumber 16 rfl) rfl (w_X12_bad hk0) (by decide) ml_X12_166 mf_X12_bad rfl hk0 xf_X12 rfl (Nat.le_of_ble_eq_true rfl) (fun r3 S4 hq => ?_)
      try dsimp only
      exact X_zret (b := r3) rfl (kX12_isNumber 17 rfl)
  · refine X_aload_n (n := 9) 0 (kX12_isNumber 4 rfl) rfl rfl rfl ?_
    refine X_iconst (n := 10) (v := 1) (kX12_isNumber 5 rfl) rfl (by decide) ?_
    refine X_callVB (n := 13) (As := [.int (1 : Int32)]) (st := []) (kX12_isNumber 6 rfl) rfl (w_X12_bad hk0) (by decide) ml_X12_166 mf_X12_bad rfl hk0 xf_X12 rfl (Nat.le_of_ble_eq_true rfl) (fun r5 S6 hq => ?_)
    try dsimp only
    exact X_zret (b := r5) rfl (kX12_isNumber 7 rfl)
def f_X12_air  (a0 : Nat) (i1 : Int32) (i2 : Int32) (S : XS) : Option (Int32 × XS) := (if (t_X12_isPlace a0 i1 S) = true then (if (t_X12_isScent a0 i2 S) = true then ((f_X12_airOf a0 i1 i2 (sI S a0 0 (0 : Int32))).bind (fun q => match q with | (r3, S4) => some (r3, S4))) else some ((t_X12_refuse a0 S).1, (t_X12_refuse a0 S).2)) else some ((t_X12_refuse a0 S).1, (t_X12_refuse a0 S).2))
set_option maxHeartbeats 4000000 in
set_option maxRecDepth 100000 in
theorem w_X12_air {l : Launch} {g : XG}  {a0 : Nat} {i1 : Int32} {i2 : Int32} {S : XS} (hk0 : kd a0 = 12) : Cl φI l g 2 mX12_air [.ref a0, .int i1, .int i2] S (f_X12_air a0 i1 i2 S) := by
  refine Cl.of (by decide +kernel) (Nat.le_of_ble_eq_true rfl) ?_
  unfold f_X12_air
  show X _ _ _ _ _ 0 [(0, .ref a0), (1, .int i1), (2, .int i2)] [] S _
  refine X_aload_n (n := 1) 0 (kX12_air 0 rfl) rfl rfl rfl ?_
  refine X_iload_n (n := 2) 1 (kX12_air 1 rfl) rfl rfl rfl ?_
  refine X_callV1B (n := 5) (As := [.int i1]) (st := []) (kX12_air 2 rfl) rfl (p_X12_isPlace hk0) (by decide) ml_X12_250 mf_X12_isPlace rfl hk0 xf_X12 rfl (Nat.le_of_ble_eq_true rfl) ?_
  refine X_bz (n := 8) (tgt := 16) (kX12_air 3 rfl) rfl rfl (fun h1 => ?_) (fun h1 => ?_)
  · refine X_aload_n (n := 9) 0 (kX12_air 4 rfl) rfl rfl rfl ?_
    refine X_iload_n (n := 10) 2 (kX12_air 5 rfl) rfl rfl rfl ?_
    refine X_callV1B (n := 13) (As := [.int i2]) (st := []) (kX12_air 6 rfl) rfl (p_X12_isScent hk0) (by decide) ml_X12_253 mf_X12_isScent rfl hk0 xf_X12 rfl (Nat.le_of_ble_eq_true rfl) ?_
    refine X_bn (n := 16) (tgt := 21) (kX12_air 7 rfl) rfl rfl (fun h2 => ?_) (fun h2 => ?_)
    · refine X_aload_n (n := 22) 0 (kX12_air 11 rfl) rfl rfl rfl ?_
      refine X_iconst (n := 23) (v := 0) (kX12_air 12 rfl) rfl (by decide) ?_
      refine X_putI (n := 26) xf_X12 hk0 (by decide) fl_X12_100 rfl rfl (Or.inl rfl) (kX12_air 13 rfl) rfl ?_
      refine X_aload_n (n := 27) 0 (kX12_air 14 rfl) rfl rfl rfl ?_
      refine X_iload_n (n := 28) 1 (kX12_air 15 rfl) rfl rfl rfl ?_
      refine X_iload_n (n := 29) 2 (kX12_air 16 rfl) rfl rfl rfl ?_
      refine X_callVI (n := 32) (As := [.int i1, .int i2]) (st := []) (kX12_air 17 rfl) rfl (w_X12_airOf hk0) (by decide) ml_X12_259 mf_X12_airOf rfl hk0 xf_X12 rfl (Nat.le_of_ble_eq_true rfl) (fun r3 S4 hq => ?_)
      try dsimp only
      exact X_iret rfl (kX12_air 18 rfl)
    · refine X_aload_n (n := 17) 0 (kX12_air 8 rfl) rfl rfl rfl ?_
      refine X_callV1I (n := 20) (As := []) (st := []) (kX12_air 9 rfl) rfl (p_X12_refuse hk0) (by decide) ml_X12_256 mf_X12_refuse rfl hk0 xf_X12 rfl (Nat.le_of_ble_eq_true rfl) ?_
      exact X_iret rfl (kX12_air 10 rfl)
  · refine X_aload_n (n := 17) 0 (kX12_air 8 rfl) rfl rfl rfl ?_
    refine X_callV1I (n := 20) (As := []) (st := []) (kX12_air 9 rfl) rfl (p_X12_refuse hk0) (by decide) ml_X12_256 mf_X12_refuse rfl hk0 xf_X12 rfl (Nat.le_of_ble_eq_true rfl) ?_
    exact X_iret rfl (kX12_air 10 rfl)
def f_X12_fade  (a0 : Nat) (i1 : Int32) (S : XS) : Option (Int32 × XS) := (if (t_X12_isScent a0 i1 (sI S a0 0 (0 : Int32))) = true then (if ((6 : Int32) + i1) < 0 ∨ ln (rf a0 14) ≤ ((6 : Int32) + i1).toNatClampNeg then none else some (((sI S a0 0 (0 : Int32)).1 (rf a0 14) ((6 : Int32) + i1).toNatClampNeg), (sI S a0 0 (0 : Int32)))) else some ((-1 : Int32), (sI S a0 0 (0 : Int32))))
set_option maxHeartbeats 4000000 in
set_option maxRecDepth 100000 in
theorem w_X12_fade {l : Launch} {g : XG}  {a0 : Nat} {i1 : Int32} {S : XS} (hk0 : kd a0 = 12) : Cl φI l g 2 mX12_fade [.ref a0, .int i1] S (f_X12_fade a0 i1 S) := by
  refine Cl.of (by decide +kernel) (Nat.le_of_ble_eq_true rfl) ?_
  unfold f_X12_fade
  show X _ _ _ _ _ 0 [(0, .ref a0), (1, .int i1)] [] S _
  refine X_aload_n (n := 1) 0 (kX12_fade 0 rfl) rfl rfl rfl ?_
  refine X_iconst (n := 2) (v := 0) (kX12_fade 1 rfl) rfl (by decide) ?_
  refine X_putI (n := 5) xf_X12 hk0 (by decide) fl_X12_100 rfl rfl (Or.inl rfl) (kX12_fade 2 rfl) rfl ?_
  refine X_aload_n (n := 6) 0 (kX12_fade 3 rfl) rfl rfl rfl ?_
  refine X_iload_n (n := 7) 1 (kX12_fade 4 rfl) rfl rfl rfl ?_
  refine X_callV1B (n := 10) (As := [.int i1]) (st := []) (kX12_fade 5 rfl) rfl (p_X12_isScent hk0) (by decide) ml_X12_253 mf_X12_isScent rfl hk0 xf_X12 rfl (Nat.le_of_ble_eq_true rfl) ?_
  refine X_bz (n := 13) (tgt := 25) (kX12_fade 6 rfl) rfl rfl (fun h1 => ?_) (fun h1 => ?_)
  · refine X_aload_n (n := 14) 0 (kX12_fade 7 rfl) rfl rfl rfl ?_
    refine X_getR (n := 17) xf_X12 hk0 (by decide) fl_X12_13 rfl (kX12_fade 8 rfl) rfl ?_
    refine X_bipush (n := 19) (v := 6) (kX12_fade 9 rfl) rfl (by decide) ?_
    refine X_iload_n (n := 20) 1 (kX12_fade 10 rfl) rfl rfl rfl ?_
    refine X_iadd (n := 21) (kX12_fade 11 rfl) rfl ?_
    refine X_iald (n := 22) (kt_12_14 hk0) (kX12_fade 12 rfl) rfl (fun h2 => ?_)
    refine X_goto (tgt := 26) (kX12_fade 13 rfl) rfl ?_
    exact X_iret rfl (kX12_fade 15 rfl)
  · refine X_iconst (n := 26) (v := (-1)) (kX12_fade 14 rfl) rfl (by decide) ?_
    exact X_iret rfl (kX12_fade 15 rfl)
def f_X12_witness  (a0 : Nat) (i1 : Int32) (i2 : Int32) (S : XS) : Option (Int32 × XS) := (if (t_X12_isWitness a0 i1 S) = true then (if (t_X12_isIn i2 (0 : Int32) (4 : Int32)) = true then (if i2 = 0 then (if ((145 : Int32) + i1) < 0 ∨ ln (rf a0 14) ≤ ((145 : Int32) + i1).toNatClampNeg then none else some (((sI S a0 0 (0 : Int32)).1 (rf a0 14) ((145 : Int32) + i1).toNatClampNeg), (sI S a0 0 (0 : Int32)))) else (if i2 = 1 then (if ((151 : Int32) + i1) < 0 ∨ ln (rf a0 14) ≤ ((151 : Int32) + i1).toNatClampNeg then none else some (((sI S a0 0 (0 : Int32)).1 (rf a0 14) ((151 : Int32) + i1).toNatClampNeg), (sI S a0 0 (0 : Int32)))) else (if i2 = 2 then (if ((66 : Int32) + i1) < 0 ∨ ln (rf a0 14) ≤ ((66 : Int32) + i1).toNatClampNeg then none else some (((sI S a0 0 (0 : Int32)).1 (rf a0 14) ((66 : Int32) + i1).toNatClampNeg), (sI S a0 0 (0 : Int32)))) else (if i2 = 3 then ((f_X12_worn a0 i1 (sI S a0 0 (0 : Int32))).bind (fun q => match q with | (r10, S11) => ((f_X12_sumAt a0 r10 S11).bind (fun q => match q with | (r12, S13) => some (r12, S13))))) else ((f_X12_worn a0 i1 (sI S a0 0 (0 : Int32))).bind (fun q => match q with | (r3, S4) => ((f_X12_strongestAt a0 r3 S4).bind (fun q => match q with | (r5, S6) => some (r5, S6))))))))) else some ((t_X12_refuse a0 S).1, (t_X12_refuse a0 S).2)) else some ((t_X12_refuse a0 S).1, (t_X12_refuse a0 S).2))
set_option maxHeartbeats 4000000 in
set_option maxRecDepth 100000 in
theorem w_X12_witness {l : Launch} {g : XG}  {a0 : Nat} {i1 : Int32} {i2 : Int32} {S : XS} (hk0 : kd a0 = 12) : Cl φI l g 2 mX12_witness [.ref a0, .int i1, .int i2] S (f_X12_witness a0 i1 i2 S) := by
  refine Cl.of (by decide +kernel) (Nat.le_of_ble_eq_true rfl) ?_
  unfold f_X12_witness
  show X _ _ _ _ _ 0 [(0, .ref a0), (1, .int i1), (2, .int i2)] [] S _
  refine X_aload_n (n := 1) 0 (kX12_witness 0 rfl) rfl rfl rfl ?_
  refine X_iload_n (n := 2) 1 (kX12_witness 1 rfl) rfl rfl rfl ?_
  refine X_callV1B (n := 5) (As := [.int i1]) (st := []) (kX12_witness 2 rfl) rfl (p_X12_isWitness hk0) (by decide) ml_X12_263 mf_X12_isWitness rfl hk0 xf_X12 rfl (Nat.le_of_ble_eq_true rfl) ?_
  refine X_bz (n := 8) (tgt := 17) (kX12_witness 3 rfl) rfl rfl (fun h1 => ?_) (fun h1 => ?_)
  · refine X_iload_n (n := 9) 2 (kX12_witness 4 rfl) rfl rfl rfl ?_
    refine X_iconst (n := 10) (v := 0) (kX12_witness 5 rfl) rfl (by decide) ?_
    refine X_iconst (n := 11) (v := 4) (kX12_witness 6 rfl) rfl (by decide) ?_
    refine X_callS1B (n := 14) (As := [.int i2, .int (0 : Int32), .int (4 : Int32)]) (st := []) (kX12_witness 7 rfl) rfl p_X12_isIn (by decide) ml_X12_169 mf_X12_isIn rfl rfl (Nat.le_of_ble_eq_true rfl) ?_
    refine X_bn (n := 17) (tgt := 22) (kX12_witness 8 rfl) rfl rfl (fun h2 => ?_) (fun h2 => ?_)
    · refine X_aload_n (n := 23) 0 (kX12_witness 12 rfl) rfl rfl rfl ?_
      refine X_iconst (n := 24) (v := 0) (kX12_witness 13 rfl) rfl (by decide) ?_
      refine X_putI (n := 27) xf_X12 hk0 (by decide) fl_X12_100 rfl rfl (Or.inl rfl) (kX12_witness 14 rfl) rfl ?_
      refine X_iload_n (n := 28) 2 (kX12_witness 15 rfl) rfl rfl rfl ?_
      refine X_ite (fun hc0 => ?_) (fun nc0 => ?_)
      · refine X_tabIn (tgt := 60) 0 (xI_of 0 hc0 (by decide)) (kX12_witness 16 rfl) (by decide) (by decide) rfl rfl ?_
        refine X_aload_n (n := 61) 0 (kX12_witness 17 rfl) rfl rfl rfl ?_
        refine X_getR (n := 64) xf_X12 hk0 (by decide) fl_X12_13 rfl (kX12_witness 18 rfl) rfl ?_
        refine X_sipush (n := 67) (v := 145) (kX12_witness 19 rfl) rfl (by decide) ?_
        refine X_iload_n (n := 68) 1 (kX12_witness 20 rfl) rfl rfl rfl ?_
        refine X_iadd (n := 69) (kX12_witness 21 rfl) rfl ?_
        refine X_iald (n := 70) (kt_12_14 hk0) (kX12_witness 22 rfl) rfl (fun h7 => ?_)
        exact X_iret rfl (kX12_witness 23 rfl)
      · refine X_ite (fun hc1 => ?_) (fun nc1 => ?_)
        · refine X_tabIn (tgt := 71) 1 (xI_of 1 hc1 (by decide)) (kX12_witness 16 rfl) (by decide) (by decide) rfl rfl ?_
          refine X_aload_n (n := 72) 0 (kX12_witness 24 rfl) rfl rfl rfl ?_
          refine X_getR (n := 75) xf_X12 hk0 (by decide) fl_X12_13 rfl (kX12_witness 25 rfl) rfl ?_
          refine X_sipush (n := 78) (v := 151) (kX12_witness 26 rfl) rfl (by decide) ?_
          refine X_iload_n (n := 79) 1 (kX12_witness 27 rfl) rfl rfl rfl ?_
          refine X_iadd (n := 80) (kX12_witness 28 rfl) rfl ?_
          refine X_iald (n := 81) (kt_12_14 hk0) (kX12_witness 29 rfl) rfl (fun h8 => ?_)
          exact X_iret rfl (kX12_witness 30 rfl)
        · refine X_ite (fun hc2 => ?_) (fun nc2 => ?_)
          · refine X_tabIn (tgt := 82) 2 (xI_of 2 hc2 (by decide)) (kX12_witness 16 rfl) (by decide) (by decide) rfl rfl ?_
            refine X_aload_n (n := 83) 0 (kX12_witness 31 rfl) rfl rfl rfl ?_
            refine X_getR (n := 86) xf_X12 hk0 (by decide) fl_X12_13 rfl (kX12_witness 32 rfl) rfl ?_
            refine X_bipush (n := 88) (v := 66) (kX12_witness 33 rfl) rfl (by decide) ?_
            refine X_iload_n (n := 89) 1 (kX12_witness 34 rfl) rfl rfl rfl ?_
            refine X_iadd (n := 90) (kX12_witness 35 rfl) rfl ?_
            refine X_iald (n := 91) (kt_12_14 hk0) (kX12_witness 36 rfl) rfl (fun h9 => ?_)
            exact X_iret rfl (kX12_witness 37 rfl)
          · refine X_ite (fun hc3 => ?_) (fun nc3 => ?_)
            · refine X_tabIn (tgt := 92) 3 (xI_of 3 hc3 (by decide)) (kX12_witness 16 rfl) (by decide) (by decide) rfl rfl ?_
              refine X_aload_n (n := 93) 0 (kX12_witness 38 rfl) rfl rfl rfl ?_
              refine X_aload_n (n := 94) 0 (kX12_witness 39 rfl) rfl rfl rfl ?_
              refine X_iload_n (n := 95) 1 (kX12_witness 40 rfl) rfl rfl rfl ?_
              refine X_callVI (n := 98) (As := [.int i1]) (st := [.ref a0]) (kX12_witness 41 rfl) rfl (w_X12_worn hk0) (by decide) ml_X12_266 mf_X12_worn rfl hk0 xf_X12 rfl (Nat.le_of_ble_eq_true rfl) (fun r10 S11 hq => ?_)
              try dsimp only
              refine X_callVI (n := 101) (As := [.int r10]) (st := []) (kX12_witness 42 rfl) rfl (w_X12_sumAt hk0) (by decide) ml_X12_269 mf_X12_sumAt rfl hk0 xf_X12 rfl (Nat.le_of_ble_eq_true rfl) (fun r12 S13 hq => ?_)
              try dsimp only
              exact X_iret rfl (kX12_witness 43 rfl)
            · have e0 := xI_ne (z := 0) 0 nc0 (by decide)
              have e1 := xI_ne (z := 1) 1 nc1 (by decide)
              have e2 := xI_ne (z := 2) 2 nc2 (by decide)
              have e3 := xI_ne (z := 3) 3 nc3 (by decide)
              refine X_tabOut (tgt := 102) (by omega) (kX12_witness 16 rfl) rfl ?_
              refine X_aload_n (n := 103) 0 (kX12_witness 44 rfl) rfl rfl rfl ?_
              refine X_aload_n (n := 104) 0 (kX12_witness 45 rfl) rfl rfl rfl ?_
              refine X_iload_n (n := 105) 1 (kX12_witness 46 rfl) rfl rfl rfl ?_
              refine X_callVI (n := 108) (As := [.int i1]) (st := [.ref a0]) (kX12_witness 47 rfl) rfl (w_X12_worn hk0) (by decide) ml_X12_266 mf_X12_worn rfl hk0 xf_X12 rfl (Nat.le_of_ble_eq_true rfl) (fun r3 S4 hq => ?_)
              try dsimp only
              refine X_callVI (n := 111) (As := [.int r3]) (st := []) (kX12_witness 48 rfl) rfl (w_X12_strongestAt hk0) (by decide) ml_X12_272 mf_X12_strongestAt rfl hk0 xf_X12 rfl (Nat.le_of_ble_eq_true rfl) (fun r5 S6 hq => ?_)
              try dsimp only
              exact X_iret rfl (kX12_witness 49 rfl)
    · refine X_aload_n (n := 18) 0 (kX12_witness 9 rfl) rfl rfl rfl ?_
      refine X_callV1I (n := 21) (As := []) (st := []) (kX12_witness 10 rfl) rfl (p_X12_refuse hk0) (by decide) ml_X12_256 mf_X12_refuse rfl hk0 xf_X12 rfl (Nat.le_of_ble_eq_true rfl) ?_
      exact X_iret rfl (kX12_witness 11 rfl)
  · refine X_aload_n (n := 18) 0 (kX12_witness 9 rfl) rfl rfl rfl ?_
    refine X_callV1I (n := 21) (As := []) (st := []) (kX12_witness 10 rfl) rfl (p_X12_refuse hk0) (by decide) ml_X12_256 mf_X12_refuse rfl hk0 xf_X12 rfl (Nat.le_of_ble_eq_true rfl) ?_
    exact X_iret rfl (kX12_witness 11 rfl)
def f_X12_coat  (a0 : Nat) (i1 : Int32) (i2 : Int32) (S : XS) : Option (Int32 × XS) := (if (t_X12_isWitness a0 i1 (sI S a0 0 (0 : Int32))) = true then (if (t_X12_isScent a0 i2 (sI S a0 0 (0 : Int32))) = true then ((f_X12_onCoat a0 i1 i2 (sI S a0 0 (0 : Int32))).bind (fun q => match q with | (r3, S4) => some (r3, S4))) else some ((-1 : Int32), (sI S a0 0 (0 : Int32)))) else some ((-1 : Int32), (sI S a0 0 (0 : Int32))))
set_option maxHeartbeats 4000000 in
set_option maxRecDepth 100000 in
theorem w_X12_coat {l : Launch} {g : XG}  {a0 : Nat} {i1 : Int32} {i2 : Int32} {S : XS} (hk0 : kd a0 = 12) : Cl φI l g 2 mX12_coat [.ref a0, .int i1, .int i2] S (f_X12_coat a0 i1 i2 S) := by
  refine Cl.of (by decide +kernel) (Nat.le_of_ble_eq_true rfl) ?_
  unfold f_X12_coat
  show X _ _ _ _ _ 0 [(0, .ref a0), (1, .int i1), (2, .int i2)] [] S _
  refine X_aload_n (n := 1) 0 (kX12_coat 0 rfl) rfl rfl rfl ?_
  refine X_iconst (n := 2) (v := 0) (kX12_coat 1 rfl) rfl (by decide) ?_
  refine X_putI (n := 5) xf_X12 hk0 (by decide) fl_X12_100 rfl rfl (Or.inl rfl) (kX12_coat 2 rfl) rfl ?_
  refine X_aload_n (n := 6) 0 (kX12_coat 3 rfl) rfl rfl rfl ?_
  refine X_iload_n (n := 7) 1 (kX12_coat 4 rfl) rfl rfl rfl ?_
  refine X_callV1B (n := 10) (As := [.int i1]) (st := []) (kX12_coat 5 rfl) rfl (p_X12_isWitness hk0) (by decide) ml_X12_263 mf_X12_isWitness rfl hk0 xf_X12 rfl (Nat.le_of_ble_eq_true rfl) ?_
  refine X_bz (n := 13) (tgt := 30) (kX12_coat 6 rfl) rfl rfl (fun h1 => ?_) (fun h1 => ?_)
  · refine X_aload_n (n := 14) 0 (kX12_coat 7 rfl) rfl rfl rfl ?_
    refine X_iload_n (n := 15) 2 (kX12_coat 8 rfl) rfl rfl rfl ?_
    refine X_callV1B (n := 18) (As := [.int i2]) (st := []) (kX12_coat 9 rfl) rfl (p_X12_isScent hk0) (by decide) ml_X12_253 mf_X12_isScent rfl hk0 xf_X12 rfl (Nat.le_of_ble_eq_true rfl) ?_
    refine X_bz (n := 21) (tgt := 30) (kX12_coat 10 rfl) rfl rfl (fun h2 => ?_) (fun h2 => ?_)
    · refine X_aload_n (n := 22) 0 (kX12_coat 11 rfl) rfl rfl rfl ?_
      refine X_iload_n (n := 23) 1 (kX12_coat 12 rfl) rfl rfl rfl ?_
      refine X_iload_n (n := 24) 2 (kX12_coat 13 rfl) rfl rfl rfl ?_
      refine X_callVI (n := 27) (As := [.int i1, .int i2]) (st := []) (kX12_coat 14 rfl) rfl (w_X12_onCoat hk0) (by decide) ml_X12_275 mf_X12_onCoat rfl hk0 xf_X12 rfl (Nat.le_of_ble_eq_true rfl) (fun r3 S4 hq => ?_)
      try dsimp only
      refine X_goto (tgt := 31) (kX12_coat 15 rfl) rfl ?_
      exact X_iret rfl (kX12_coat 17 rfl)
    · refine X_iconst (n := 31) (v := (-1)) (kX12_coat 16 rfl) rfl (by decide) ?_
      exact X_iret rfl (kX12_coat 17 rfl)
  · refine X_iconst (n := 31) (v := (-1)) (kX12_coat 16 rfl) rfl (by decide) ?_
    exact X_iret rfl (kX12_coat 17 rfl)
def f_X12_cloth  (a0 : Nat) (i1 : Int32) (i2 : Int32) (S : XS) : Option (Int32 × XS) := (if (t_X12_isCloth a0 i1 (sI S a0 0 (0 : Int32))) = true then (if (t_X12_isScent a0 i2 (sI S a0 0 (0 : Int32))) = true then ((f_X12_onCloth a0 i1 i2 (sI S a0 0 (0 : Int32))).bind (fun q => match q with | (r3, S4) => some (r3, S4))) else some ((-1 : Int32), (sI S a0 0 (0 : Int32)))) else some ((-1 : Int32), (sI S a0 0 (0 : Int32))))
set_option maxHeartbeats 4000000 in
set_option maxRecDepth 100000 in
theorem w_X12_cloth {l : Launch} {g : XG}  {a0 : Nat} {i1 : Int32} {i2 : Int32} {S : XS} (hk0 : kd a0 = 12) : Cl φI l g 2 mX12_cloth [.ref a0, .int i1, .int i2] S (f_X12_cloth a0 i1 i2 S) := by
  refine Cl.of (by decide +kernel) (Nat.le_of_ble_eq_true rfl) ?_
  unfold f_X12_cloth
  show X _ _ _ _ _ 0 [(0, .ref a0), (1, .int i1), (2, .int i2)] [] S _
  refine X_aload_n (n := 1) 0 (kX12_cloth 0 rfl) rfl rfl rfl ?_
  refine X_iconst (n := 2) (v := 0) (kX12_cloth 1 rfl) rfl (by decide) ?_
  refine X_putI (n := 5) xf_X12 hk0 (by decide) fl_X12_100 rfl rfl (Or.inl rfl) (kX12_cloth 2 rfl) rfl ?_
  refine X_aload_n (n := 6) 0 (kX12_cloth 3 rfl) rfl rfl rfl ?_
  refine X_iload_n (n := 7) 1 (kX12_cloth 4 rfl) rfl rfl rfl ?_
  refine X_callV1B (n := 10) (As := [.int i1]) (st := []) (kX12_cloth 5 rfl) rfl (p_X12_isCloth hk0) (by decide) ml_X12_278 mf_X12_isCloth rfl hk0 xf_X12 rfl (Nat.le_of_ble_eq_true rfl) ?_
  refine X_bz (n := 13) (tgt := 30) (kX12_cloth 6 rfl) rfl rfl (fun h1 => ?_) (fun h1 => ?_)
  · refine X_aload_n (n := 14) 0 (kX12_cloth 7 rfl) rfl rfl rfl ?_
    refine X_iload_n (n := 15) 2 (kX12_cloth 8 rfl) rfl rfl rfl ?_
    refine X_callV1B (n := 18) (As := [.int i2]) (st := []) (kX12_cloth 9 rfl) rfl (p_X12_isScent hk0) (by decide) ml_X12_253 mf_X12_isScent rfl hk0 xf_X12 rfl (Nat.le_of_ble_eq_true rfl) ?_
    refine X_bz (n := 21) (tgt := 30) (kX12_cloth 10 rfl) rfl rfl (fun h2 => ?_) (fun h2 => ?_)
    · refine X_aload_n (n := 22) 0 (kX12_cloth 11 rfl) rfl rfl rfl ?_
      refine X_iload_n (n := 23) 1 (kX12_cloth 12 rfl) rfl rfl rfl ?_
      refine X_iload_n (n := 24) 2 (kX12_cloth 13 rfl) rfl rfl rfl ?_
      refine X_callVI (n := 27) (As := [.int i1, .int i2]) (st := []) (kX12_cloth 14 rfl) rfl (w_X12_onCloth hk0) (by decide) ml_X12_281 mf_X12_onCloth rfl hk0 xf_X12 rfl (Nat.le_of_ble_eq_true rfl) (fun r3 S4 hq => ?_)
      try dsimp only
      refine X_goto (tgt := 31) (kX12_cloth 15 rfl) rfl ?_
      exact X_iret rfl (kX12_cloth 17 rfl)
    · refine X_iconst (n := 31) (v := (-1)) (kX12_cloth 16 rfl) rfl (by decide) ?_
      exact X_iret rfl (kX12_cloth 17 rfl)
  · refine X_iconst (n := 31) (v := (-1)) (kX12_cloth 16 rfl) rfl (by decide) ?_
    exact X_iret rfl (kX12_cloth 17 rfl)
def f_X12_box  (a0 : Nat) (i1 : Int32) (i2 : Int32) (S : XS) : Option (Int32 × XS) := (if (t_X12_isCloth a0 i1 (sI S a0 0 (0 : Int32))) = true then (if (t_X12_isIn i2 (0 : Int32) (4 : Int32)) = true then (if (3 : Int32) ≤ i2 then (if i2 = (3 : Int32) then ((f_X12_strongestAt a0 (((194 : Int32) + ((10 : Int32) * i1)) + (4 : Int32)) (sI S a0 0 (0 : Int32))).bind (fun q => match q with | (r5, S6) => some (r5, S6))) else ((f_X12_sumAt a0 (((194 : Int32) + ((10 : Int32) * i1)) + (4 : Int32)) (sI S a0 0 (0 : Int32))).bind (fun q => match q with | (r7, S8) => some (r7, S8)))) else ((f_X12_ofCloth a0 i1 i2 (sI S a0 0 (0 : Int32))).bind (fun q => match q with | (r9, S10) => some (r9, S10)))) else some ((-1 : Int32), (sI S a0 0 (0 : Int32)))) else some ((-1 : Int32), (sI S a0 0 (0 : Int32))))
set_option maxHeartbeats 4000000 in
set_option maxRecDepth 100000 in
theorem w_X12_box {l : Launch} {g : XG}  {a0 : Nat} {i1 : Int32} {i2 : Int32} {S : XS} (hk0 : kd a0 = 12) : Cl φI l g 2 mX12_box [.ref a0, .int i1, .int i2] S (f_X12_box a0 i1 i2 S) := by
  refine Cl.of (by decide +kernel) (Nat.le_of_ble_eq_true rfl) ?_
  unfold f_X12_box
  show X _ _ _ _ _ 0 [(0, .ref a0), (1, .int i1), (2, .int i2)] [] S _
  refine X_aload_n (n := 1) 0 (kX12_box 0 rfl) rfl rfl rfl ?_
  refine X_iconst (n := 2) (v := 0) (kX12_box 1 rfl) rfl (by decide) ?_
  refine X_putI (n := 5) xf_X12 hk0 (by decide) fl_X12_100 rfl rfl (Or.inl rfl) (kX12_box 2 rfl) rfl ?_
  refine X_aload_n (n := 6) 0 (kX12_box 3 rfl) rfl rfl rfl ?_
  refine X_iload_n (n := 7) 1 (kX12_box 4 rfl) rfl rfl rfl ?_
  refine X_callV1B (n := 10) (As := [.int i1]) (st := []) (kX12_box 5 rfl) rfl (p_X12_isCloth hk0) (by decide) ml_X12_278 mf_X12_isCloth rfl hk0 xf_X12 rfl (Nat.le_of_ble_eq_true rfl) ?_
  refine X_bz (n := 13) (tgt := 22) (kX12_box 6 rfl) rfl rfl (fun h1 => ?_) (fun h1 => ?_)
  · refine X_iload_n (n := 14) 2 (kX12_box 7 rfl) rfl rfl rfl ?_
    refine X_iconst (n := 15) (v := 0) (kX12_box 8 rfl) rfl (by decide) ?_
    refine X_iconst (n := 16) (v := 4) (kX12_box 9 rfl) rfl (by decide) ?_
    refine X_callS1B (n := 19) (As := [.int i2, .int (0 : Int32), .int (4 : Int32)]) (st := []) (kX12_box 10 rfl) rfl p_X12_isIn (by decide) ml_X12_169 mf_X12_isIn rfl rfl (Nat.le_of_ble_eq_true rfl) ?_
    refine X_bn (n := 22) (tgt := 24) (kX12_box 11 rfl) rfl rfl (fun h2 => ?_) (fun h2 => ?_)
    · refine X_iload_n (n := 25) 2 (kX12_box 14 rfl) rfl rfl rfl ?_
      refine X_iconst (n := 26) (v := 3) (kX12_box 15 rfl) rfl (by decide) ?_
      refine X_ic_ge (n := 29) (tgt := 36) (kX12_box 16 rfl) rfl rfl (fun h3 => ?_) (fun h3 => ?_)
      · refine X_iload_n (n := 37) 2 (kX12_box 22 rfl) rfl rfl rfl ?_
        refine X_iconst (n := 38) (v := 3) (kX12_box 23 rfl) rfl (by decide) ?_
        refine X_ic_ne (n := 41) (tgt := 58) (kX12_box 24 rfl) rfl rfl (fun h4 => ?_) (fun h4 => ?_)
        · refine X_aload_n (n := 42) 0 (kX12_box 25 rfl) rfl rfl rfl ?_
          refine X_sipush (n := 45) (v := 194) (kX12_box 26 rfl) rfl (by decide) ?_
          refine X_bipush (n := 47) (v := 10) (kX12_box 27 rfl) rfl (by decide) ?_
          refine X_iload_n (n := 48) 1 (kX12_box 28 rfl) rfl rfl rfl ?_
          refine X_imul (n := 49) (kX12_box 29 rfl) rfl ?_
          refine X_iadd (n := 50) (kX12_box 30 rfl) rfl ?_
          refine X_iconst (n := 51) (v := 4) (kX12_box 31 rfl) rfl (by decide) ?_
          refine X_iadd (n := 52) (kX12_box 32 rfl) rfl ?_
          refine X_callVI (n := 55) (As := [.int (((194 : Int32) + ((10 : Int32) * i1)) + (4 : Int32))]) (st := []) (kX12_box 33 rfl) rfl (w_X12_strongestAt hk0) (by decide) ml_X12_272 mf_X12_strongestAt rfl hk0 xf_X12 rfl (Nat.le_of_ble_eq_true rfl) (fun r5 S6 hq => ?_)
          try dsimp only
          refine X_goto (tgt := 72) (kX12_box 34 rfl) rfl ?_
          exact X_iret rfl (kX12_box 44 rfl)
        · refine X_aload_n (n := 59) 0 (kX12_box 35 rfl) rfl rfl rfl ?_
          refine X_sipush (n := 62) (v := 194) (kX12_box 36 rfl) rfl (by decide) ?_
          refine X_bipush (n := 64) (v := 10) (kX12_box 37 rfl) rfl (by decide) ?_
          refine X_iload_n (n := 65) 1 (kX12_box 38 rfl) rfl rfl rfl ?_
          refine X_imul (n := 66) (kX12_box 39 rfl) rfl ?_
          refine X_iadd (n := 67) (kX12_box 40 rfl) rfl ?_
          refine X_iconst (n := 68) (v := 4) (kX12_box 41 rfl) rfl (by decide) ?_
          refine X_iadd (n := 69) (kX12_box 42 rfl) rfl ?_
          refine X_callVI (n := 72) (As := [.int (((194 : Int32) + ((10 : Int32) * i1)) + (4 : Int32))]) (st := []) (kX12_box 43 rfl) rfl (w_X12_sumAt hk0) (by decide) ml_X12_269 mf_X12_sumAt rfl hk0 xf_X12 rfl (Nat.le_of_ble_eq_true rfl) (fun r7 S8 hq => ?_)
          try dsimp only
          exact X_iret rfl (kX12_box 44 rfl)
      · refine X_aload_n (n := 30) 0 (kX12_box 17 rfl) rfl rfl rfl ?_
        refine X_iload_n (n := 31) 1 (kX12_box 18 rfl) rfl rfl rfl ?_
        refine X_iload_n (n := 32) 2 (kX12_box 19 rfl) rfl rfl rfl ?_
        refine X_callVI (n := 35) (As := [.int i1, .int i2]) (st := []) (kX12_box 20 rfl) rfl (w_X12_ofCloth hk0) (by decide) ml_X12_284 mf_X12_ofCloth rfl hk0 xf_X12 rfl (Nat.le_of_ble_eq_true rfl) (fun r9 S10 hq => ?_)
        try dsimp only
        exact X_iret rfl (kX12_box 21 rfl)
    · refine X_iconst (n := 23) (v := (-1)) (kX12_box 12 rfl) rfl (by decide) ?_
      exact X_iret rfl (kX12_box 13 rfl)
  · refine X_iconst (n := 23) (v := (-1)) (kX12_box 12 rfl) rfl (by decide) ?_
    exact X_iret rfl (kX12_box 13 rfl)
def f_X12_wearer  (a0 : Nat) (i1 : Int32) (S : XS) : Option (Int32 × XS) := (if (t_X12_isWitness a0 i1 (sI S a0 0 (0 : Int32))) = true then ((f_X12_wearerOf a0 i1 (sI S a0 0 (0 : Int32))).bind (fun q => match q with | (r2, S3) => some (r2, S3))) else some ((-1 : Int32), (sI S a0 0 (0 : Int32))))
set_option maxHeartbeats 4000000 in
set_option maxRecDepth 100000 in
theorem w_X12_wearer {l : Launch} {g : XG}  {a0 : Nat} {i1 : Int32} {S : XS} (hk0 : kd a0 = 12) : Cl φI l g 2 mX12_wearer [.ref a0, .int i1] S (f_X12_wearer a0 i1 S) := by
  refine Cl.of (by decide +kernel) (Nat.le_of_ble_eq_true rfl) ?_
  unfold f_X12_wearer
  show X _ _ _ _ _ 0 [(0, .ref a0), (1, .int i1)] [] S _
  refine X_aload_n (n := 1) 0 (kX12_wearer 0 rfl) rfl rfl rfl ?_
  refine X_iconst (n := 2) (v := 0) (kX12_wearer 1 rfl) rfl (by decide) ?_
  refine X_putI (n := 5) xf_X12 hk0 (by decide) fl_X12_100 rfl rfl (Or.inl rfl) (kX12_wearer 2 rfl) rfl ?_
  refine X_aload_n (n := 6) 0 (kX12_wearer 3 rfl) rfl rfl rfl ?_
  refine X_iload_n (n := 7) 1 (kX12_wearer 4 rfl) rfl rfl rfl ?_
  refine X_callV1B (n := 10) (As := [.int i1]) (st := []) (kX12_wearer 5 rfl) rfl (p_X12_isWitness hk0) (by decide) ml_X12_263 mf_X12_isWitness rfl hk0 xf_X12 rfl (Nat.le_of_ble_eq_true rfl) ?_
  refine X_bz (n := 13) (tgt := 21) (kX12_wearer 6 rfl) rfl rfl (fun h1 => ?_) (fun h1 => ?_)
  · refine X_aload_n (n := 14) 0 (kX12_wearer 7 rfl) rfl rfl rfl ?_
    refine X_iload_n (n := 15) 1 (kX12_wearer 8 rfl) rfl rfl rfl ?_
    refine X_callVI (n := 18) (As := [.int i1]) (st := []) (kX12_wearer 9 rfl) rfl (w_X12_wearerOf hk0) (by decide) ml_X12_287 mf_X12_wearerOf rfl hk0 xf_X12 rfl (Nat.le_of_ble_eq_true rfl) (fun r2 S3 hq => ?_)
    try dsimp only
    refine X_goto (tgt := 22) (kX12_wearer 10 rfl) rfl ?_
    exact X_iret rfl (kX12_wearer 12 rfl)
  · refine X_iconst (n := 22) (v := (-1)) (kX12_wearer 11 rfl) rfl (by decide) ?_
    exact X_iret rfl (kX12_wearer 12 rfl)
def f_X12_fadeAt_L3  (a0 : Nat) (i1 : Int32) (i2 : Int32) (i3 : Int32) : Nat → Int32 → XS → Option (XS)
  | 0, _, _ => none
  | n + 1, i4, S => (if (S.1 (rf a0 14) 0) ≤ i4 then some S else (if (i1 + i4) < 0 ∨ ln (rf a0 14) ≤ (i1 + i4).toNatClampNeg then none else (if i2 = 0 then none else ((if (rem32 (S.1 (rf a0 14) 144) i2) = 0 then (if ((6 : Int32) + i4) < 0 ∨ ln (rf a0 14) ≤ ((6 : Int32) + i4).toNatClampNeg then none else some (S.1 (rf a0 14) ((6 : Int32) + i4).toNatClampNeg)) else some (0 : Int32)).bind (fun x2 => (if (i1 + i4) < 0 ∨ ln (rf a0 14) ≤ (i1 + i4).toNatClampNeg then none else f_X12_fadeAt_L3 a0 i1 i2 i3 n (i4 + 1) (sI S (rf a0 14) ((i1 + i4).toNatClampNeg) (t_X12_less (S.1 (rf a0 14) (i1 + i4).toNatClampNeg) (x2 + i3)))))))))
def f_X12_fadeAt  (a0 : Nat) (i1 : Int32) (i2 : Int32) (i3 : Int32) (S : XS) : Option (XS) := ((f_X12_fadeAt_L3 a0 i1 i2 i3 1000000 (0 : Int32) S).bind (fun S8 => some S8))
set_option maxHeartbeats 4000000 in
set_option maxRecDepth 100000 in
theorem w_X12_fadeAt_L3 {l : Launch} {g : XG} {G : (XS) → Option (XS)}  {a0 : Nat} {i1 : Int32} {i2 : Int32} {i3 : Int32} (hk0 : kd a0 = 12) (kE : ∀ (S1 : XS), X φV l g 2 mX12_fadeAt 70 [] [] S1 (G S1)) : ∀ (n : Nat) (i4 : Int32) (S : XS), X φV l g 2 mX12_fadeAt 3 [(4, .int i4), (0, .ref a0), (1, .int i1), (2, .int i2), (3, .int i3)] [] S ((f_X12_fadeAt_L3 a0 i1 i2 i3 n i4 S).bind G) := by
  intro n
  induction n with
  | zero => intro i4 S; exact X_none
  | succ n ih =>
  · intro i4 S
    rw [f_X12_fadeAt_L3]
    refine X_iload (n := 5) 0 (kX12_fadeAt 2 rfl) rfl rfl ?_
    refine X_aload_n (n := 6) 1 (kX12_fadeAt 3 rfl) rfl rfl rfl ?_
    refine X_getR (n := 9) xf_X12 hk0 (by decide) fl_X12_13 rfl (kX12_fadeAt 4 rfl) rfl ?_
    refine X_iconst (n := 10) (v := 0) (kX12_fadeAt 5 rfl) rfl (by decide) ?_
    refine X_iald' (n := 11) (kt_12_14 hk0) (kX12_fadeAt 6 rfl) rfl (by rw [lt_12_14 hk0]; decide) ?_
    refine X_itebind ?_
    refine X_ic_ge (n := 14) (tgt := 70) (kX12_fadeAt 7 rfl) rfl rfl (fun h1 => ?_) (fun h1 => ?_)
    · exact X_L [] rfl (kE S)
    · refine X_aload_n (n := 15) 1 (kX12_fadeAt 8 rfl) rfl rfl rfl ?_
      refine X_getR (n := 18) xf_X12 hk0 (by decide) fl_X12_13 rfl (kX12_fadeAt 9 rfl) rfl ?_
      refine X_iload_n (n := 19) 2 (kX12_fadeAt 10 rfl) rfl rfl rfl ?_
      refine X_iload (n := 21) 0 (kX12_fadeAt 11 rfl) rfl rfl ?_
      refine X_iadd (n := 22) (kX12_fadeAt 12 rfl) rfl ?_
      refine X_aload_n (n := 23) 1 (kX12_fadeAt 13 rfl) rfl rfl rfl ?_
      refine X_getR (n := 26) xf_X12 hk0 (by decide) fl_X12_13 rfl (kX12_fadeAt 14 rfl) rfl ?_
      refine X_iload_n (n := 27) 2 (kX12_fadeAt 15 rfl) rfl rfl rfl ?_
      refine X_iload (n := 29) 0 (kX12_fadeAt 16 rfl) rfl rfl ?_
      refine X_iadd (n := 30) (kX12_fadeAt 17 rfl) rfl ?_
      refine X_itebind ?_
      refine X_iald (n := 31) (kt_12_14 hk0) (kX12_fadeAt 18 rfl) rfl (fun h7 => ?_)
      refine X_aload_n (n := 32) 1 (kX12_fadeAt 19 rfl) rfl rfl rfl ?_
      refine X_getR (n := 35) xf_X12 hk0 (by decide) fl_X12_13 rfl (kX12_fadeAt 20 rfl) rfl ?_
      refine X_sipush (n := 38) (v := 144) (kX12_fadeAt 21 rfl) rfl (by decide) ?_
      refine X_iald' (n := 39) (kt_12_14 hk0) (kX12_fadeAt 22 rfl) rfl (by rw [lt_12_14 hk0]; decide) ?_
      refine X_iload_n (n := 40) 3 (kX12_fadeAt 23 rfl) rfl rfl rfl ?_
      refine X_itebind ?_
      refine X_irem (n := 41) (kX12_fadeAt 24 rfl) rfl (fun h6 => ?_)
      refine X_assoc ?_
      refine X_join 58 (fun x2 => [(4, .int i4), (0, .ref a0), (1, .int i1), (2, .int i2), (3, .int i3)]) (fun x2 => [.int x2, .int (S.1 (rf a0 14) (i1 + i4).toNatClampNeg), .int (i1 + i4), .ref (rf a0 14)]) (fun x2 => S) (fun x2 => ?_) (fun kJ => ?_)
      · try dsimp only
        refine X_iload_n (n := 59) 4 (kX12_fadeAt 34 rfl) rfl rfl rfl ?_
        refine X_iadd (n := 60) (kX12_fadeAt 35 rfl) rfl ?_
        refine X_callS1I (n := 63) (As := [.int (S.1 (rf a0 14) (i1 + i4).toNatClampNeg), .int (x2 + i3)]) (st := [.int (i1 + i4), .ref (rf a0 14)]) (kX12_fadeAt 36 rfl) rfl p_X12_less (by decide) ml_X12_290 mf_X12_less rfl rfl (Nat.le_of_ble_eq_true rfl) ?_
        refine X_itebind ?_
        refine X_iast (n := 64) (kt_12_14 hk0) (kX12_fadeAt 37 rfl) rfl (fun h3 => ?_)
        refine X_iinc (n := 67) 0 (v := (i4 + 1)) (L1 := [(4, .int (i4 + 1)), (0, .ref a0), (1, .int i1), (2, .int i2), (3, .int i3)]) (kX12_fadeAt 38 rfl) rfl rfl rfl (Nat.le_of_ble_eq_true rfl) rfl ?_
        refine X_goto (tgt := 3) (kX12_fadeAt 39 rfl) rfl ?_
        exact X_L [0, 1, 2, 3, 4] rfl (ih (i4 + 1) (sI S (rf a0 14) ((i1 + i4).toNatClampNeg) (t_X12_less (S.1 (rf a0 14) (i1 + i4).toNatClampNeg) (x2 + i3))))
      · refine X_itebind ?_
        refine X_if_ne (n := 44) (tgt := 57) (kX12_fadeAt 25 rfl) rfl rfl (fun h4 => ?_) (fun h4 => ?_)
        · refine X_aload_n (n := 45) 1 (kX12_fadeAt 26 rfl) rfl rfl rfl ?_
          refine X_getR (n := 48) xf_X12 hk0 (by decide) fl_X12_13 rfl (kX12_fadeAt 27 rfl) rfl ?_
          refine X_bipush (n := 50) (v := 6) (kX12_fadeAt 28 rfl) rfl (by decide) ?_
          refine X_iload (n := 52) 0 (kX12_fadeAt 29 rfl) rfl rfl ?_
          refine X_iadd (n := 53) (kX12_fadeAt 30 rfl) rfl ?_
          refine X_itebind ?_
          refine X_iald (n := 54) (kt_12_14 hk0) (kX12_fadeAt 31 rfl) rfl (fun h5 => ?_)
          refine X_goto (tgt := 58) (kX12_fadeAt 32 rfl) rfl ?_
          exact X_L [0, 1, 2, 3, 4] rfl (kJ (S.1 (rf a0 14) ((6 : Int32) + i4).toNatClampNeg))
        · refine X_iconst (n := 58) (v := 0) (kX12_fadeAt 33 rfl) rfl (by decide) ?_
          exact X_L [0, 1, 2, 3, 4] rfl (kJ (0 : Int32))
set_option maxHeartbeats 4000000 in
set_option maxRecDepth 100000 in
theorem w_X12_fadeAt {l : Launch} {g : XG}  {a0 : Nat} {i1 : Int32} {i2 : Int32} {i3 : Int32} {S : XS} (hk0 : kd a0 = 12) : Cl φV l g 2 mX12_fadeAt [.ref a0, .int i1, .int i2, .int i3] S (f_X12_fadeAt a0 i1 i2 i3 S) := by
  refine Cl.of (by decide +kernel) (Nat.le_of_ble_eq_true rfl) ?_
  unfold f_X12_fadeAt
  show X _ _ _ _ _ 0 [(0, .ref a0), (1, .int i1), (2, .int i2), (3, .int i3)] [] S _
  refine X_iconst (n := 1) (v := 0) (kX12_fadeAt 0 rfl) rfl (by decide) ?_
  refine X_istore (n := 3) (L1 := [(4, .int 0), (0, .ref a0), (1, .int i1), (2, .int i2), (3, .int i3)]) (kX12_fadeAt 1 rfl) rfl (Nat.le_of_ble_eq_true rfl) rfl ?_
  refine X_L [0, 1, 2, 3, 4] rfl (w_X12_fadeAt_L3 hk0 (fun S8 => ?_) 1000000 (0 : Int32) S)
  try dsimp only
  exact X_vret rfl (kX12_fadeAt 40 rfl)
def f_X12_mixBox_L5  (a0 : Nat) (i1 : Int32) (i2 : Int32) : Nat → Int32 → Int32 → XS → Option (Int32 × XS)
  | 0, _, _, _ => none
  | n + 1, i3, i4, S => (if (S.1 (rf a0 14) 193) ≤ i4 then some (i3, S) else ((f_X12_ofCloth a0 i4 (1 : Int32) S).bind (fun q => match q with | (r2, S3) => (if r2 = i1 then ((f_X12_onCloth a0 i4 i2 S3).bind (fun q => match q with | (r5, S6) => (if r5 ≤ i3 then f_X12_mixBox_L5 a0 i1 i2 n i3 (i4 + 1) S6 else ((f_X12_onCloth a0 i4 i2 S6).bind (fun q => match q with | (r8, S9) => f_X12_mixBox_L5 a0 i1 i2 n r8 (i4 + 1) S9))))) else f_X12_mixBox_L5 a0 i1 i2 n i3 (i4 + 1) S3))))
def f_X12_mixBox_L57  (i3 : Int32) (a0 : Nat) (i1 : Int32) (i2 : Int32) : Nat → Int32 → XS → Option (XS)
  | 0, _, _ => none
  | n + 1, i4, S => (if (S.1 (rf a0 14) 193) ≤ i4 then some S else ((f_X12_ofCloth a0 i4 (1 : Int32) S).bind (fun q => match q with | (r13, S14) => (if r13 = i1 then ((f_X12_onCloth a0 i4 i2 S14).bind (fun q => match q with | (r16, S17) => (if i3 ≤ r16 then f_X12_mixBox_L57 i3 a0 i1 i2 n (i4 + 1) S17 else (if ((((194 : Int32) + ((10 : Int32) * i4)) + (4 : Int32)) + i2) < 0 ∨ ln (rf a0 14) ≤ ((((194 : Int32) + ((10 : Int32) * i4)) + (4 : Int32)) + i2).toNatClampNeg then none else (if ((((194 : Int32) + ((10 : Int32) * i4)) + (4 : Int32)) + i2) < 0 ∨ ln (rf a0 14) ≤ ((((194 : Int32) + ((10 : Int32) * i4)) + (4 : Int32)) + i2).toNatClampNeg then none else f_X12_mixBox_L57 i3 a0 i1 i2 n (i4 + 1) (sI S17 (rf a0 14) (((((194 : Int32) + ((10 : Int32) * i4)) + (4 : Int32)) + i2).toNatClampNeg) ((S17.1 (rf a0 14) ((((194 : Int32) + ((10 : Int32) * i4)) + (4 : Int32)) + i2).toNatClampNeg) + (1 : Int32)))))))) else f_X12_mixBox_L57 i3 a0 i1 i2 n (i4 + 1) S14))))
def f_X12_mixBox  (a0 : Nat) (i1 : Int32) (i2 : Int32) (S : XS) : Option (XS) := ((f_X12_mixBox_L5 a0 i1 i2 1000000 (0 : Int32) (0 : Int32) S).bind (fun q => match q with | (e10, S11) => ((f_X12_mixBox_L57 e10 a0 i1 i2 1000000 (0 : Int32) S11).bind (fun S21 => some S21))))
set_option maxHeartbeats 4000000 in
set_option maxRecDepth 100000 in
theorem w_X12_mixBox_L5 {l : Launch} {g : XG} {G : (Int32 × XS) → Option (XS)}  {a0 : Nat} {i1 : Int32} {i2 : Int32} (hk0 : kd a0 = 12) (kE : ∀ (e3 : Int32) (S1 : XS), X φV l g 2 mX12_mixBox 54 [(3, .int e3), (0, .ref a0), (1, .int i1), (2, .int i2)] [] S1 (G (e3, S1))) : ∀ (n : Nat) (i3 : Int32) (i4 : Int32) (S : XS), X φV l g 2 mX12_mixBox 5 [(4, .int i4), (3, .int i3), (0, .ref a0), (1, .int i1), (2, .int i2)] [] S ((f_X12_mixBox_L5 a0 i1 i2 n i3 i4 S).bind G) := by
  intro n
  induction n with
  | zero => intro i3 i4 S; exact X_none
  | succ n ih =>
  · intro i3 i4 S
    rw [f_X12_mixBox_L5]
    refine X_iload (n := 7) 0 (kX12_mixBox 4 rfl) rfl rfl ?_
    refine X_aload_n (n := 8) 2 (kX12_mixBox 5 rfl) rfl rfl rfl ?_
    refine X_getR (n := 11) xf_X12 hk0 (by decide) fl_X12_13 rfl (kX12_mixBox 6 rfl) rfl ?_
    refine X_sipush (n := 14) (v := 193) (kX12_mixBox 7 rfl) rfl (by decide) ?_
    refine X_iald' (n := 15) (kt_12_14 hk0) (kX12_mixBox 8 rfl) rfl (by rw [lt_12_14 hk0]; decide) ?_
    refine X_itebind ?_
    refine X_ic_ge (n := 18) (tgt := 54) (kX12_mixBox 9 rfl) rfl rfl (fun h1 => ?_) (fun h1 => ?_)
    · exact X_L [1, 2, 3, 4] rfl (kE i3 S)
    · refine X_aload_n (n := 19) 2 (kX12_mixBox 10 rfl) rfl rfl rfl ?_
      refine X_iload (n := 21) 0 (kX12_mixBox 11 rfl) rfl rfl ?_
      refine X_iconst (n := 22) (v := 1) (kX12_mixBox 12 rfl) rfl (by decide) ?_
      refine X_assoc ?_
      refine X_callVI (n := 25) (As := [.int i4, .int (1 : Int32)]) (st := []) (kX12_mixBox 13 rfl) rfl (w_X12_ofCloth hk0) (by decide) ml_X12_284 mf_X12_ofCloth rfl hk0 xf_X12 rfl (Nat.le_of_ble_eq_true rfl) (fun r2 S3 hq => ?_)
      try dsimp only
      refine X_iload_n (n := 26) 3 (kX12_mixBox 14 rfl) rfl rfl rfl ?_
      refine X_itebind ?_
      refine X_ic_ne (n := 29) (tgt := 48) (kX12_mixBox 15 rfl) rfl rfl (fun h4 => ?_) (fun h4 => ?_)
      · refine X_aload_n (n := 30) 2 (kX12_mixBox 16 rfl) rfl rfl rfl ?_
        refine X_iload (n := 32) 0 (kX12_mixBox 17 rfl) rfl rfl ?_
        refine X_iload_n (n := 33) 4 (kX12_mixBox 18 rfl) rfl rfl rfl ?_
        refine X_assoc ?_
        refine X_callVI (n := 36) (As := [.int i4, .int i2]) (st := []) (kX12_mixBox 19 rfl) rfl (w_X12_onCloth hk0) (by decide) ml_X12_281 mf_X12_onCloth rfl hk0 xf_X12 rfl (Nat.le_of_ble_eq_true rfl) (fun r5 S6 hq => ?_)
        try dsimp only
        refine X_iload_n (n := 37) 1 (kX12_mixBox 20 rfl) rfl rfl rfl ?_
        refine X_itebind ?_
        refine X_ic_le (n := 40) (tgt := 48) (kX12_mixBox 21 rfl) rfl rfl (fun h7 => ?_) (fun h7 => ?_)
        · refine X_iinc (n := 51) 0 (v := (i4 + 1)) (L1 := [(4, .int (i4 + 1)), (3, .int i3), (0, .ref a0), (1, .int i1), (2, .int i2)]) (kX12_mixBox 27 rfl) rfl rfl rfl (Nat.le_of_ble_eq_true rfl) rfl ?_
          refine X_goto (tgt := 5) (kX12_mixBox 28 rfl) rfl ?_
          exact X_L [0, 1, 2, 3, 4] rfl (ih i3 (i4 + 1) S6)
        · refine X_aload_n (n := 41) 2 (kX12_mixBox 22 rfl) rfl rfl rfl ?_
          refine X_iload (n := 43) 0 (kX12_mixBox 23 rfl) rfl rfl ?_
          refine X_iload_n (n := 44) 4 (kX12_mixBox 24 rfl) rfl rfl rfl ?_
          refine X_assoc ?_
          refine X_callVI (n := 47) (As := [.int i4, .int i2]) (st := []) (kX12_mixBox 25 rfl) rfl (w_X12_onCloth hk0) (by decide) ml_X12_281 mf_X12_onCloth rfl hk0 xf_X12 rfl (Nat.le_of_ble_eq_true rfl) (fun r8 S9 hq => ?_)
          try dsimp only
          refine X_istore_n (n := 48) (L1 := [(3, .int r8), (4, .int i4), (0, .ref a0), (1, .int i1), (2, .int i2)]) (kX12_mixBox 26 rfl) rfl rfl (Nat.le_of_ble_eq_true rfl) rfl ?_
          refine X_iinc (n := 51) 1 (v := (i4 + 1)) (L1 := [(4, .int (i4 + 1)), (3, .int r8), (0, .ref a0), (1, .int i1), (2, .int i2)]) (kX12_mixBox 27 rfl) rfl rfl rfl (Nat.le_of_ble_eq_true rfl) rfl ?_
          refine X_goto (tgt := 5) (kX12_mixBox 28 rfl) rfl ?_
          exact X_L [0, 1, 2, 3, 4] rfl (ih r8 (i4 + 1) S9)
      · refine X_iinc (n := 51) 0 (v := (i4 + 1)) (L1 := [(4, .int (i4 + 1)), (3, .int i3), (0, .ref a0), (1, .int i1), (2, .int i2)]) (kX12_mixBox 27 rfl) rfl rfl rfl (Nat.le_of_ble_eq_true rfl) rfl ?_
        refine X_goto (tgt := 5) (kX12_mixBox 28 rfl) rfl ?_
        exact X_L [0, 1, 2, 3, 4] rfl (ih i3 (i4 + 1) S3)
set_option maxHeartbeats 4000000 in
set_option maxRecDepth 100000 in
theorem w_X12_mixBox_L57 {l : Launch} {g : XG} {G : (XS) → Option (XS)}  {i3 : Int32} {a0 : Nat} {i1 : Int32} {i2 : Int32} (hk0 : kd a0 = 12) (kE : ∀ (S1 : XS), X φV l g 2 mX12_mixBox 120 [] [] S1 (G S1)) : ∀ (n : Nat) (i4 : Int32) (S : XS), X φV l g 2 mX12_mixBox 57 [(4, .int i4), (3, .int i3), (0, .ref a0), (1, .int i1), (2, .int i2)] [] S ((f_X12_mixBox_L57 i3 a0 i1 i2 n i4 S).bind G) := by
  intro n
  induction n with
  | zero => intro i4 S; exact X_none
  | succ n ih =>
  · intro i4 S
    rw [f_X12_mixBox_L57]
    refine X_iload (n := 59) 0 (kX12_mixBox 31 rfl) rfl rfl ?_
    refine X_aload_n (n := 60) 2 (kX12_mixBox 32 rfl) rfl rfl rfl ?_
    refine X_getR (n := 63) xf_X12 hk0 (by decide) fl_X12_13 rfl (kX12_mixBox 33 rfl) rfl ?_
    refine X_sipush (n := 66) (v := 193) (kX12_mixBox 34 rfl) rfl (by decide) ?_
    refine X_iald' (n := 67) (kt_12_14 hk0) (kX12_mixBox 35 rfl) rfl (by rw [lt_12_14 hk0]; decide) ?_
    refine X_itebind ?_
    refine X_ic_ge (n := 70) (tgt := 120) (kX12_mixBox 36 rfl) rfl rfl (fun h12 => ?_) (fun h12 => ?_)
    · exact X_L [] rfl (kE S)
    · refine X_aload_n (n := 71) 2 (kX12_mixBox 37 rfl) rfl rfl rfl ?_
      refine X_iload (n := 73) 0 (kX12_mixBox 38 rfl) rfl rfl ?_
      refine X_iconst (n := 74) (v := 1) (kX12_mixBox 39 rfl) rfl (by decide) ?_
      refine X_assoc ?_
      refine X_callVI (n := 77) (As := [.int i4, .int (1 : Int32)]) (st := []) (kX12_mixBox 40 rfl) rfl (w_X12_ofCloth hk0) (by decide) ml_X12_284 mf_X12_ofCloth rfl hk0 xf_X12 rfl (Nat.le_of_ble_eq_true rfl) (fun r13 S14 hq => ?_)
      try dsimp only
      refine X_iload_n (n := 78) 3 (kX12_mixBox 41 rfl) rfl rfl rfl ?_
      refine X_itebind ?_
      refine X_ic_ne (n := 81) (tgt := 114) (kX12_mixBox 42 rfl) rfl rfl (fun h15 => ?_) (fun h15 => ?_)
      · refine X_aload_n (n := 82) 2 (kX12_mixBox 43 rfl) rfl rfl rfl ?_
        refine X_iload (n := 84) 0 (kX12_mixBox 44 rfl) rfl rfl ?_
        refine X_iload_n (n := 85) 4 (kX12_mixBox 45 rfl) rfl rfl rfl ?_
        refine X_assoc ?_
        refine X_callVI (n := 88) (As := [.int i4, .int i2]) (st := []) (kX12_mixBox 46 rfl) rfl (w_X12_onCloth hk0) (by decide) ml_X12_281 mf_X12_onCloth rfl hk0 xf_X12 rfl (Nat.le_of_ble_eq_true rfl) (fun r16 S17 hq => ?_)
        try dsimp only
        refine X_iload_n (n := 89) 1 (kX12_mixBox 47 rfl) rfl rfl rfl ?_
        refine X_itebind ?_
        refine X_ic_ge (n := 92) (tgt := 114) (kX12_mixBox 48 rfl) rfl rfl (fun h18 => ?_) (fun h18 => ?_)
        · refine X_iinc (n := 117) 0 (v := (i4 + 1)) (L1 := [(4, .int (i4 + 1)), (3, .int i3), (0, .ref a0), (1, .int i1), (2, .int i2)]) (kX12_mixBox 65 rfl) rfl rfl rfl (Nat.le_of_ble_eq_true rfl) rfl ?_
          refine X_goto (tgt := 57) (kX12_mixBox 66 rfl) rfl ?_
          exact X_L [0, 1, 2, 3, 4] rfl (ih (i4 + 1) S17)
        · refine X_aload_n (n := 93) 2 (kX12_mixBox 49 rfl) rfl rfl rfl ?_
          refine X_getR (n := 96) xf_X12 hk0 (by decide) fl_X12_13 rfl (kX12_mixBox 50 rfl) rfl ?_
          refine X_sipush (n := 99) (v := 194) (kX12_mixBox 51 rfl) rfl (by decide) ?_
          refine X_bipush (n := 101) (v := 10) (kX12_mixBox 52 rfl) rfl (by decide) ?_
          refine X_iload (n := 103) 0 (kX12_mixBox 53 rfl) rfl rfl ?_
          refine X_imul (n := 104) (kX12_mixBox 54 rfl) rfl ?_
          refine X_iadd (n := 105) (kX12_mixBox 55 rfl) rfl ?_
          refine X_iconst (n := 106) (v := 4) (kX12_mixBox 56 rfl) rfl (by decide) ?_
          refine X_iadd (n := 107) (kX12_mixBox 57 rfl) rfl ?_
          refine X_iload_n (n := 108) 4 (kX12_mixBox 58 rfl) rfl rfl rfl ?_
          refine X_iadd (n := 109) (kX12_mixBox 59 rfl) rfl ?_
          refine X_dup2 (n := 110) (kX12_mixBox 60 rfl) rfl rfl rfl ?_
          refine X_itebind ?_
          refine X_iald (n := 111) (kt_12_14 hk0) (kX12_mixBox 61 rfl) rfl (fun h20 => ?_)
          refine X_iconst (n := 112) (v := 1) (kX12_mixBox 62 rfl) rfl (by decide) ?_
          refine X_iadd (n := 113) (kX12_mixBox 63 rfl) rfl ?_
          refine X_itebind ?_
          refine X_iast (n := 114) (kt_12_14 hk0) (kX12_mixBox 64 rfl) rfl (fun h19 => ?_)
          refine X_iinc (n := 117) 0 (v := (i4 + 1)) (L1 := [(4, .int (i4 + 1)), (3, .int i3), (0, .ref a0), (1, .int i1), (2, .int i2)]) (kX12_mixBox 65 rfl) rfl rfl rfl (Nat.le_of_ble_eq_true rfl) rfl ?_
          refine X_goto (tgt := 57) (kX12_mixBox 66 rfl) rfl ?_
          exact X_L [0, 1, 2, 3, 4] rfl (ih (i4 + 1) (sI S17 (rf a0 14) (((((194 : Int32) + ((10 : Int32) * i4)) + (4 : Int32)) + i2).toNatClampNeg) ((S17.1 (rf a0 14) ((((194 : Int32) + ((10 : Int32) * i4)) + (4 : Int32)) + i2).toNatClampNeg) + (1 : Int32))))
      · refine X_iinc (n := 117) 0 (v := (i4 + 1)) (L1 := [(4, .int (i4 + 1)), (3, .int i3), (0, .ref a0), (1, .int i1), (2, .int i2)]) (kX12_mixBox 65 rfl) rfl rfl rfl (Nat.le_of_ble_eq_true rfl) rfl ?_
        refine X_goto (tgt := 57) (kX12_mixBox 66 rfl) rfl ?_
        exact X_L [0, 1, 2, 3, 4] rfl (ih (i4 + 1) S14)
set_option maxHeartbeats 4000000 in
set_option maxRecDepth 100000 in
theorem w_X12_mixBox {l : Launch} {g : XG}  {a0 : Nat} {i1 : Int32} {i2 : Int32} {S : XS} (hk0 : kd a0 = 12) : Cl φV l g 2 mX12_mixBox [.ref a0, .int i1, .int i2] S (f_X12_mixBox a0 i1 i2 S) := by
  refine Cl.of (by decide +kernel) (Nat.le_of_ble_eq_true rfl) ?_
  unfold f_X12_mixBox
  show X _ _ _ _ _ 0 [(0, .ref a0), (1, .int i1), (2, .int i2)] [] S _
  refine X_iconst (n := 1) (v := 0) (kX12_mixBox 0 rfl) rfl (by decide) ?_
  refine X_istore_n (n := 2) (L1 := [(3, .int 0), (0, .ref a0), (1, .int i1), (2, .int i2)]) (kX12_mixBox 1 rfl) rfl rfl (Nat.le_of_ble_eq_true rfl) rfl ?_
  refine X_iconst (n := 3) (v := 0) (kX12_mixBox 2 rfl) rfl (by decide) ?_
  refine X_istore (n := 5) (L1 := [(4, .int 0), (3, .int 0), (0, .ref a0), (1, .int i1), (2, .int i2)]) (kX12_mixBox 3 rfl) rfl (Nat.le_of_ble_eq_true rfl) rfl ?_
  refine X_L [0, 1, 2, 3, 4] rfl (w_X12_mixBox_L5 hk0 (fun e10 S11 => ?_) 1000000 (0 : Int32) (0 : Int32) S)
  try dsimp only
  refine X_iconst (n := 55) (v := 0) (kX12_mixBox 29 rfl) rfl (by decide) ?_
  refine X_istore (n := 57) (L1 := [(4, .int 0), (3, .int e10), (0, .ref a0), (1, .int i1), (2, .int i2)]) (kX12_mixBox 30 rfl) rfl (Nat.le_of_ble_eq_true rfl) rfl ?_
  refine X_L [0, 1, 2, 3, 4] rfl (w_X12_mixBox_L57 hk0 (fun S21 => ?_) 1000000 (0 : Int32) S11)
  try dsimp only
  exact X_vret rfl (kX12_mixBox 67 rfl)
