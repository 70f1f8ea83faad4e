def f_X12_isWitness  (a0 : Nat) (i1 : Int32) (S : XS) : Option (Bool × XS) := (if i1 < 0 then some (false, S) else (if (S.1 (rf a0 14) 3) ≤ i1 then some (false, S) else some (true, S)))
set_option maxHeartbeats 4000000 in
set_option maxRecDepth 100000 in
theorem w_X12_isWitness {l : Launch} {g : XG}  {a0 : Nat} {i1 : Int32} {S : XS} (hk0 : kd a0 = 12) : Cl φB l g 1 mX12_isWitness [.ref a0, .int i1] S (f_X12_isWitness a0 i1 S) := by
  refine Cl.of (by decide +kernel) (Nat.le_of_ble_eq_true rfl) ?_
  unfold f_X12_isWitness
  show X _ _ _ _ _ 0 [(0, .ref a0), (1, .int i1)] [] S _
  refine X_iload_n (n := 1) 1 (kX12_isWitness 0 rfl) rfl rfl rfl ?_
  refine X_if_lt (n := 4) (tgt := 18) (kX12_isWitness 1 rfl) rfl rfl (fun h1 => ?_) (fun h1 => ?_)
  · refine X_iconst (n := 19) (v := 0) (kX12_isWitness 10 rfl) rfl (by decide) ?_
    exact X_zret (b := false) rfl (kX12_isWitness 11 rfl)
  · refine X_iload_n (n := 5) 1 (kX12_isWitness 2 rfl) rfl rfl rfl ?_
    refine X_aload_n (n := 6) 0 (kX12_isWitness 3 rfl) rfl rfl rfl ?_
    refine X_getR (n := 9) xf_X12 hk0 (by decide) fl_X12_13 rfl (kX12_isWitness 4 rfl) rfl ?_
    refine X_iconst (n := 10) (v := 3) (kX12_isWitness 5 rfl) rfl (by decide) ?_
    refine X_iald' (n := 11) (kt_12_14 hk0) (kX12_isWitness 6 rfl) rfl (by rw [lt_12_14 hk0]; decide) ?_
    refine X_ic_ge (n := 14) (tgt := 18) (kX12_isWitness 7 rfl) rfl rfl (fun h2 => ?_) (fun h2 => ?_)
    · refine X_iconst (n := 19) (v := 0) (kX12_isWitness 10 rfl) rfl (by decide) ?_
      exact X_zret (b := false) rfl (kX12_isWitness 11 rfl)
    · refine X_iconst (n := 15) (v := 1) (kX12_isWitness 8 rfl) rfl (by decide) ?_
      refine X_goto (tgt := 19) (kX12_isWitness 9 rfl) rfl ?_
      exact X_zret (b := true) rfl (kX12_isWitness 11 rfl)
def t_X12_isWitness (a0 : Nat) (i1 : Int32) (S : XS) : Bool := (if i1 < 0 then false else (if (S.1 (rf a0 14) 3) ≤ i1 then false else true))
theorem ft_X12_isWitness (a0 : Nat) (i1 : Int32) (S : XS) : f_X12_isWitness a0 i1 S = some (t_X12_isWitness a0 i1 S, S) := by
  unfold f_X12_isWitness t_X12_isWitness
  first | rfl | simp only [ite_p]
theorem p_X12_isWitness {l : Launch} {g : XG} {a0 : Nat} {i1 : Int32} {S : XS} (hk0 : kd a0 = 12) : Cl φB l g 1 mX12_isWitness [.ref a0, .int i1] S (some (t_X12_isWitness a0 i1 S, S)) := ft_X12_isWitness a0 i1 S ▸ w_X12_isWitness hk0
def f_X12_isCloth  (a0 : Nat) (i1 : Int32) (S : XS) : Option (Bool × XS) := (if i1 < 0 then some (false, S) else (if (S.1 (rf a0 14) 193) ≤ i1 then some (false, S) else some (true, S)))
set_option maxHeartbeats 4000000 in
set_option maxRecDepth 100000 in
theorem w_X12_isCloth {l : Launch} {g : XG}  {a0 : Nat} {i1 : Int32} {S : XS} (hk0 : kd a0 = 12) : Cl φB l g 1 mX12_isCloth [.ref a0, .int i1] S (f_X12_isCloth a0 i1 S) := by
  refine Cl.of (by decide +kernel) (Nat.le_of_ble_eq_true rfl) ?_
  unfold f_X12_isCloth
  show X _ _ _ _ _ 0 [(0, .ref a0), (1, .int i1)] [] S _
  refine X_iload_n (n := 1) 1 (kX12_isCloth 0 rfl) rfl rfl rfl ?_
  refine X_if_lt (n := 4) (tgt := 20) (kX12_isCloth 1 rfl) rfl rfl (fun h1 => ?_) (fun h1 => ?_)
  · refine X_iconst (n := 21) (v := 0) (kX12_isCloth 10 rfl) rfl (by decide) ?_
    exact X_zret (b := false) rfl (kX12_isCloth 11 rfl)
  · refine X_iload_n (n := 5) 1 (kX12_isCloth 2 rfl) rfl rfl rfl ?_
    refine X_aload_n (n := 6) 0 (kX12_isCloth 3 rfl) rfl rfl rfl ?_
    refine X_getR (n := 9) xf_X12 hk0 (by decide) fl_X12_13 rfl (kX12_isCloth 4 rfl) rfl ?_
    refine X_sipush (n := 12) (v := 193) (kX12_isCloth 5 rfl) rfl (by decide) ?_
    refine X_iald' (n := 13) (kt_12_14 hk0) (kX12_isCloth 6 rfl) rfl (by rw [lt_12_14 hk0]; decide) ?_
    refine X_ic_ge (n := 16) (tgt := 20) (kX12_isCloth 7 rfl) rfl rfl (fun h2 => ?_) (fun h2 => ?_)
    · refine X_iconst (n := 21) (v := 0) (kX12_isCloth 10 rfl) rfl (by decide) ?_
      exact X_zret (b := false) rfl (kX12_isCloth 11 rfl)
    · refine X_iconst (n := 17) (v := 1) (kX12_isCloth 8 rfl) rfl (by decide) ?_
      refine X_goto (tgt := 21) (kX12_isCloth 9 rfl) rfl ?_
      exact X_zret (b := true) rfl (kX12_isCloth 11 rfl)
def t_X12_isCloth (a0 : Nat) (i1 : Int32) (S : XS) : Bool := (if i1 < 0 then false else (if (S.1 (rf a0 14) 193) ≤ i1 then false else true))
theorem ft_X12_isCloth (a0 : Nat) (i1 : Int32) (S : XS) : f_X12_isCloth a0 i1 S = some (t_X12_isCloth a0 i1 S, S) := by
  unfold f_X12_isCloth t_X12_isCloth
  first | rfl | simp only [ite_p]
theorem p_X12_isCloth {l : Launch} {g : XG} {a0 : Nat} {i1 : Int32} {S : XS} (hk0 : kd a0 = 12) : Cl φB l g 1 mX12_isCloth [.ref a0, .int i1] S (some (t_X12_isCloth a0 i1 S, S)) := ft_X12_isCloth a0 i1 S ▸ w_X12_isCloth hk0
def f_X12_airOf_L18  (a0 : Nat) (i1 : Int32) (i2 : Int32) : Nat → Int32 → Int32 → XS → Option (Int32)
  | 0, _, _, _ => none
  | n + 1, i3, i4, S => (if (S.1 (rf a0 14) 2) ≤ i4 then some i3 else (if ((48 : Int32) + ((3 : Int32) * i4)) < 0 ∨ ln (rf a0 14) ≤ ((48 : Int32) + ((3 : Int32) * i4)).toNatClampNeg then none else (if (S.1 (rf a0 14) ((48 : Int32) + ((3 : Int32) * i4)).toNatClampNeg) = i2 then (if (((48 : Int32) + ((3 : Int32) * i4)) + (2 : Int32)) < 0 ∨ ln (rf a0 14) ≤ (((48 : Int32) + ((3 : Int32) * i4)) + (2 : Int32)).toNatClampNeg then none else (if (S.1 (rf a0 14) (((48 : Int32) + ((3 : Int32) * i4)) + (2 : Int32)).toNatClampNeg) = i1 then (if (((48 : Int32) + ((3 : Int32) * i4)) + (1 : Int32)) < 0 ∨ ln (rf a0 14) ≤ (((48 : Int32) + ((3 : Int32) * i4)) + (1 : Int32)).toNatClampNeg then none else (if (((12 : Int32) + ((6 : Int32) * (S.1 (rf a0 14) (((48 : Int32) + ((3 : Int32) * i4)) + (1 : Int32)).toNatClampNeg))) + i2) < 0 ∨ ln (rf a0 14) ≤ (((12 : Int32) + ((6 : Int32) * (S.1 (rf a0 14) (((48 : Int32) + ((3 : Int32) * i4)) + (1 : Int32)).toNatClampNeg))) + i2).toNatClampNeg then none else f_X12_airOf_L18 a0 i1 i2 n (i3 + ((S.1 (rf a0 14) (((12 : Int32) + ((6 : Int32) * (S.1 (rf a0 14) (((48 : Int32) + ((3 : Int32) * i4)) + (1 : Int32)).toNatClampNeg))) + i2).toNatClampNeg) / (2 : Int32))) (i4 + 1) S)) else f_X12_airOf_L18 a0 i1 i2 n i3 (i4 + 1) S)) else f_X12_airOf_L18 a0 i1 i2 n i3 (i4 + 1) S)))
def f_X12_airOf  (a0 : Nat) (i1 : Int32) (i2 : Int32) (S : XS) : Option (Int32 × XS) := (if (((12 : Int32) + ((6 : Int32) * i1)) + i2) < 0 ∨ ln (rf a0 14) ≤ (((12 : Int32) + ((6 : Int32) * i1)) + i2).toNatClampNeg then none else ((f_X12_airOf_L18 a0 i1 i2 1000000 (S.1 (rf a0 14) (((12 : Int32) + ((6 : Int32) * i1)) + i2).toNatClampNeg) (0 : Int32) S).bind (fun e8 => some (e8, S))))
set_option maxHeartbeats 4000000 in
set_option maxRecDepth 100000 in
theorem w_X12_airOf_L18 {l : Launch} {g : XG} {G : (Int32) → Option (Int32 × XS)}  {a0 : Nat} {i1 : Int32} {i2 : Int32} (hk0 : kd a0 = 12) {S : XS} (kE : ∀ (e3 : Int32), X φI l g 1 mX12_airOf 101 [(3, .int e3)] [] S (G e3)) : ∀ (n : Nat) (i3 : Int32) (i4 : Int32), X φI l g 1 mX12_airOf 18 [(4, .int i4), (3, .int i3), (0, .ref a0), (1, .int i1), (2, .int i2)] [] S ((f_X12_airOf_L18 a0 i1 i2 n i3 i4 S).bind G) := by
  intro n
  induction n with
  | zero => intro i3 i4; exact X_none
  | succ n ih =>
  · intro i3 i4
    rw [f_X12_airOf_L18]
    refine X_iload (n := 20) 0 (kX12_airOf 13 rfl) rfl rfl ?_
    refine X_aload_n (n := 21) 2 (kX12_airOf 14 rfl) rfl rfl rfl ?_
    refine X_getR (n := 24) xf_X12 hk0 (by decide) fl_X12_13 rfl (kX12_airOf 15 rfl) rfl ?_
    refine X_iconst (n := 25) (v := 2) (kX12_airOf 16 rfl) rfl (by decide) ?_
    refine X_iald' (n := 26) (kt_12_14 hk0) (kX12_airOf 17 rfl) rfl (by rw [lt_12_14 hk0]; decide) ?_
    refine X_itebind ?_
    refine X_ic_ge (n := 29) (tgt := 101) (kX12_airOf 18 rfl) rfl rfl (fun h1 => ?_) (fun h1 => ?_)
    · exact X_L [1] rfl (kE i3)
    · refine X_aload_n (n := 30) 2 (kX12_airOf 19 rfl) rfl rfl rfl ?_
      refine X_getR (n := 33) xf_X12 hk0 (by decide) fl_X12_13 rfl (kX12_airOf 20 rfl) rfl ?_
      refine X_bipush (n := 35) (v := 48) (kX12_airOf 21 rfl) rfl (by decide) ?_
      refine X_iconst (n := 36) (v := 3) (kX12_airOf 22 rfl) rfl (by decide) ?_
      refine X_iload (n := 38) 0 (kX12_airOf 23 rfl) rfl rfl ?_
      refine X_imul (n := 39) (kX12_airOf 24 rfl) rfl ?_
      refine X_iadd (n := 40) (kX12_airOf 25 rfl) rfl ?_
      refine X_itebind ?_
      refine X_iald (n := 41) (kt_12_14 hk0) (kX12_airOf 26 rfl) rfl (fun h7 => ?_)
      refine X_iload_n (n := 42) 4 (kX12_airOf 27 rfl) rfl rfl rfl ?_
      refine X_itebind ?_
      refine X_ic_ne (n := 45) (tgt := 95) (kX12_airOf 28 rfl) rfl rfl (fun h2 => ?_) (fun h2 => ?_)
      · refine X_aload_n (n := 46) 2 (kX12_airOf 29 rfl) rfl rfl rfl ?_
        refine X_getR (n := 49) xf_X12 hk0 (by decide) fl_X12_13 rfl (kX12_airOf 30 rfl) rfl ?_
        refine X_bipush (n := 51) (v := 48) (kX12_airOf 31 rfl) rfl (by decide) ?_
        refine X_iconst (n := 52) (v := 3) (kX12_airOf 32 rfl) rfl (by decide) ?_
        refine X_iload (n := 54) 0 (kX12_airOf 33 rfl) rfl rfl ?_
        refine X_imul (n := 55) (kX12_airOf 34 rfl) rfl ?_
        refine X_iadd (n := 56) (kX12_airOf 35 rfl) rfl ?_
        refine X_iconst (n := 57) (v := 2) (kX12_airOf 36 rfl) rfl (by decide) ?_
        refine X_iadd (n := 58) (kX12_airOf 37 rfl) rfl ?_
        refine X_itebind ?_
        refine X_iald (n := 59) (kt_12_14 hk0) (kX12_airOf 38 rfl) rfl (fun h6 => ?_)
        refine X_iload_n (n := 60) 3 (kX12_airOf 39 rfl) rfl rfl rfl ?_
        refine X_itebind ?_
        refine X_ic_ne (n := 63) (tgt := 95) (kX12_airOf 40 rfl) rfl rfl (fun h3 => ?_) (fun h3 => ?_)
        · refine X_iload_n (n := 64) 1 (kX12_airOf 41 rfl) rfl rfl rfl ?_
          refine X_aload_n (n := 65) 2 (kX12_airOf 42 rfl) rfl rfl rfl ?_
          refine X_getR (n := 68) xf_X12 hk0 (by decide) fl_X12_13 rfl (kX12_airOf 43 rfl) rfl ?_
          refine X_bipush (n := 70) (v := 12) (kX12_airOf 44 rfl) rfl (by decide) ?_
          refine X_bipush (n := 72) (v := 6) (kX12_airOf 45 rfl) rfl (by decide) ?_
          refine X_aload_n (n := 73) 2 (kX12_airOf 46 rfl) rfl rfl rfl ?_
          refine X_getR (n := 76) xf_X12 hk0 (by decide) fl_X12_13 rfl (kX12_airOf 47 rfl) rfl ?_
          refine X_bipush (n := 78) (v := 48) (kX12_airOf 48 rfl) rfl (by decide) ?_
          refine X_iconst (n := 79) (v := 3) (kX12_airOf 49 rfl) rfl (by decide) ?_
          refine X_iload (n := 81) 0 (kX12_airOf 50 rfl) rfl rfl ?_
          refine X_imul (n := 82) (kX12_airOf 51 rfl) rfl ?_
          refine X_iadd (n := 83) (kX12_airOf 52 rfl) rfl ?_
          refine X_iconst (n := 84) (v := 1) (kX12_airOf 53 rfl) rfl (by decide) ?_
          refine X_iadd (n := 85) (kX12_airOf 54 rfl) rfl ?_
          refine X_itebind ?_
          refine X_iald (n := 86) (kt_12_14 hk0) (kX12_airOf 55 rfl) rfl (fun h5 => ?_)
          refine X_imul (n := 87) (kX12_airOf 56 rfl) rfl ?_
          refine X_iadd (n := 88) (kX12_airOf 57 rfl) rfl ?_
          refine X_iload_n (n := 89) 4 (kX12_airOf 58 rfl) rfl rfl rfl ?_
          refine X_iadd (n := 90) (kX12_airOf 59 rfl) rfl ?_
          refine X_itebind ?_
          refine X_iald (n := 91) (kt_12_14 hk0) (kX12_airOf 60 rfl) rfl (fun h4 => ?_)
          refine X_iconst (n := 92) (v := 2) (kX12_airOf 61 rfl) rfl (by decide) ?_
          refine X_idiv' (n := 93) (kX12_airOf 62 rfl) rfl (by decide) ?_
          refine X_iadd (n := 94) (kX12_airOf 63 rfl) rfl ?_
          refine X_istore_n (n := 95) (L1 := [(3, .int (i3 + ((S.1 (rf a0 14) (((12 : Int32) + ((6 : Int32) * (S.1 (rf a0 14) (((48 : Int32) + ((3 : Int32) * i4)) + (1 : Int32)).toNatClampNeg))) + i2).toNatClampNeg) / (2 : Int32)))), (4, .int i4), (0, .ref a0), (1, .int i1), (2, .int i2)]) (kX12_airOf 64 rfl) rfl rfl (Nat.le_of_ble_eq_true rfl) rfl ?_
          refine X_iinc (n := 98) 1 (v := (i4 + 1)) (L1 := [(4, .int (i4 + 1)), (3, .int (i3 + ((S.1 (rf a0 14) (((12 : Int32) + ((6 : Int32) * (S.1 (rf a0 14) (((48 : Int32) + ((3 : Int32) * i4)) + (1 : Int32)).toNatClampNeg))) + i2).toNatClampNeg) / (2 : Int32)))), (0, .ref a0), (1, .int i1), (2, .int i2)]) (kX12_airOf 65 rfl) rfl rfl rfl (Nat.le_of_ble_eq_true rfl) rfl ?_
          refine X_goto (tgt := 18) (kX12_airOf 66 rfl) rfl ?_
          exact X_L [0, 1, 2, 3, 4] rfl (ih (i3 + ((S.1 (rf a0 14) (((12 : Int32) + ((6 : Int32) * (S.1 (rf a0 14) (((48 : Int32) + ((3 : Int32) * i4)) + (1 : Int32)).toNatClampNeg))) + i2).toNatClampNeg) / (2 : Int32))) (i4 + 1))
        · refine X_iinc (n := 98) 0 (v := (i4 + 1)) (L1 := [(4, .int (i4 + 1)), (3, .int i3), (0, .ref a0), (1, .int i1), (2, .int i2)]) (kX12_airOf 65 rfl) rfl rfl rfl (Nat.le_of_ble_eq_true rfl) rfl ?_
          refine X_goto (tgt := 18) (kX12_airOf 66 rfl) rfl ?_
          exact X_L [0, 1, 2, 3, 4] rfl (ih i3 (i4 + 1))
      · refine X_iinc (n := 98) 0 (v := (i4 + 1)) (L1 := [(4, .int (i4 + 1)), (3, .int i3), (0, .ref a0), (1, .int i1), (2, .int i2)]) (kX12_airOf 65 rfl) rfl rfl rfl (Nat.le_of_ble_eq_true rfl) rfl ?_
        refine X_goto (tgt := 18) (kX12_airOf 66 rfl) rfl ?_
        exact X_L [0, 1, 2, 3, 4] rfl (ih i3 (i4 + 1))
set_option maxHeartbeats 4000000 in
set_option maxRecDepth 100000 in
theorem w_X12_airOf {l : Launch} {g : XG}  {a0 : Nat} {i1 : Int32} {i2 : Int32} {S : XS} (hk0 : kd a0 = 12) : Cl φI l g 1 mX12_airOf [.ref a0, .int i1, .int i2] S (f_X12_airOf a0 i1 i2 S) := by
  refine Cl.of (by decide +kernel) (Nat.le_of_ble_eq_true rfl) ?_
  unfold f_X12_airOf
  show X _ _ _ _ _ 0 [(0, .ref a0), (1, .int i1), (2, .int i2)] [] S _
  refine X_aload_n (n := 1) 0 (kX12_airOf 0 rfl) rfl rfl rfl ?_
  refine X_getR (n := 4) xf_X12 hk0 (by decide) fl_X12_13 rfl (kX12_airOf 1 rfl) rfl ?_
  refine X_bipush (n := 6) (v := 12) (kX12_airOf 2 rfl) rfl (by decide) ?_
  refine X_bipush (n := 8) (v := 6) (kX12_airOf 3 rfl) rfl (by decide) ?_
  refine X_iload_n (n := 9) 1 (kX12_airOf 4 rfl) rfl rfl rfl ?_
  refine X_imul (n := 10) (kX12_airOf 5 rfl) rfl ?_
  refine X_iadd (n := 11) (kX12_airOf 6 rfl) rfl ?_
  refine X_iload_n (n := 12) 2 (kX12_airOf 7 rfl) rfl rfl rfl ?_
  refine X_iadd (n := 13) (kX12_airOf 8 rfl) rfl ?_
  refine X_iald (n := 14) (kt_12_14 hk0) (kX12_airOf 9 rfl) rfl (fun h9 => ?_)
  refine X_istore_n (n := 15) (L1 := [(3, .int (S.1 (rf a0 14) (((12 : Int32) + ((6 : Int32) * i1)) + i2).toNatClampNeg)), (0, .ref a0), (1, .int i1), (2, .int i2)]) (kX12_airOf 10 rfl) rfl rfl (Nat.le_of_ble_eq_true rfl) rfl ?_
  refine X_iconst (n := 16) (v := 0) (kX12_airOf 11 rfl) rfl (by decide) ?_
  refine X_istore (n := 18) (L1 := [(4, .int 0), (3, .int (S.1 (rf a0 14) (((12 : Int32) + ((6 : Int32) * i1)) + i2).toNatClampNeg)), (0, .ref a0), (1, .int i1), (2, .int i2)]) (kX12_airOf 12 rfl) rfl (Nat.le_of_ble_eq_true rfl) rfl ?_
  refine X_L [0, 1, 2, 3, 4] rfl (w_X12_airOf_L18 hk0 (fun e8 => ?_) 1000000 (S.1 (rf a0 14) (((12 : Int32) + ((6 : Int32) * i1)) + i2).toNatClampNeg) (0 : Int32))
  try dsimp only
  refine X_iload_n (n := 102) 0 (kX12_airOf 67 rfl) rfl rfl rfl ?_
  exact X_iret rfl (kX12_airOf 68 rfl)
def f_X12_onCoat  (a0 : Nat) (i1 : Int32) (i2 : Int32) (S : XS) : Option (Int32 × XS) := (if (((157 : Int32) + ((6 : Int32) * i1)) + i2) < 0 ∨ ln (rf a0 14) ≤ (((157 : Int32) + ((6 : Int32) * i1)) + i2).toNatClampNeg then none else some ((S.1 (rf a0 14) (((157 : Int32) + ((6 : Int32) * i1)) + i2).toNatClampNeg), S))
set_option maxHeartbeats 4000000 in
set_option maxRecDepth 100000 in
theorem w_X12_onCoat {l : Launch} {g : XG}  {a0 : Nat} {i1 : Int32} {i2 : Int32} {S : XS} (hk0 : kd a0 = 12) : Cl φI l g 1 mX12_onCoat [.ref a0, .int i1, .int i2] S (f_X12_onCoat a0 i1 i2 S) := by
  refine Cl.of (by decide +kernel) (Nat.le_of_ble_eq_true rfl) ?_
  unfold f_X12_onCoat
  show X _ _ _ _ _ 0 [(0, .ref a0), (1, .int i1), (2, .int i2)] [] S _
  refine X_aload_n (n := 1) 0 (kX12_onCoat 0 rfl) rfl rfl rfl ?_
  refine X_getR (n := 4) xf_X12 hk0 (by decide) fl_X12_13 rfl (kX12_onCoat 1 rfl) rfl ?_
  refine X_sipush (n := 7) (v := 157) (kX12_onCoat 2 rfl) rfl (by decide) ?_
  refine X_bipush (n := 9) (v := 6) (kX12_onCoat 3 rfl) rfl (by decide) ?_
  refine X_iload_n (n := 10) 1 (kX12_onCoat 4 rfl) rfl rfl rfl ?_
  refine X_imul (n := 11) (kX12_onCoat 5 rfl) rfl ?_
  refine X_iadd (n := 12) (kX12_onCoat 6 rfl) rfl ?_
  refine X_iload_n (n := 13) 2 (kX12_onCoat 7 rfl) rfl rfl rfl ?_
  refine X_iadd (n := 14) (kX12_onCoat 8 rfl) rfl ?_
  refine X_iald (n := 15) (kt_12_14 hk0) (kX12_onCoat 9 rfl) rfl (fun h1 => ?_)
  exact X_iret rfl (kX12_onCoat 10 rfl)
def f_X12_onCloth  (a0 : Nat) (i1 : Int32) (i2 : Int32) (S : XS) : Option (Int32 × XS) := (if ((((194 : Int32) + ((10 : Int32) * i1)) + (4 : Int32)) + i2) < 0 ∨ ln (rf a0 14) ≤ ((((194 : Int32) + ((10 : Int32) * i1)) + (4 : Int32)) + i2).toNatClampNeg then none else some ((S.1 (rf a0 14) ((((194 : Int32) + ((10 : Int32) * i1)) + (4 : Int32)) + i2).toNatClampNeg), S))
set_option maxHeartbeats 4000000 in
set_option maxRecDepth 100000 in
theorem w_X12_onCloth {l : Launch} {g : XG}  {a0 : Nat} {i1 : Int32} {i2 : Int32} {S : XS} (hk0 : kd a0 = 12) : Cl φI l g 1 mX12_onCloth [.ref a0, .int i1, .int i2] S (f_X12_onCloth a0 i1 i2 S) := by
  refine Cl.of (by decide +kernel) (Nat.le_of_ble_eq_true rfl) ?_
  unfold f_X12_onCloth
  show X _ _ _ _ _ 0 [(0, .ref a0), (1, .int i1), (2, .int i2)] [] S _
  refine X_aload_n (n := 1) 0 (kX12_onCloth 0 rfl) rfl rfl rfl ?_
  refine X_getR (n := 4) xf_X12 hk0 (by decide) fl_X12_13 rfl (kX12_onCloth 1 rfl) rfl ?_
  refine X_sipush (n := 7) (v := 194) (kX12_onCloth 2 rfl) rfl (by decide) ?_
  refine X_bipush (n := 9) (v := 10) (kX12_onCloth 3 rfl) rfl (by decide) ?_
  refine X_iload_n (n := 10) 1 (kX12_onCloth 4 rfl) rfl rfl rfl ?_
  refine X_imul (n := 11) (kX12_onCloth 5 rfl) rfl ?_
  refine X_iadd (n := 12) (kX12_onCloth 6 rfl) rfl ?_
  refine X_iconst (n := 13) (v := 4) (kX12_onCloth 7 rfl) rfl (by decide) ?_
  refine X_iadd (n := 14) (kX12_onCloth 8 rfl) rfl ?_
  refine X_iload_n (n := 15) 2 (kX12_onCloth 9 rfl) rfl rfl rfl ?_
  refine X_iadd (n := 16) (kX12_onCloth 10 rfl) rfl ?_
  refine X_iald (n := 17) (kt_12_14 hk0) (kX12_onCloth 11 rfl) rfl (fun h1 => ?_)
  exact X_iret rfl (kX12_onCloth 12 rfl)
def f_X12_ofCloth  (a0 : Nat) (i1 : Int32) (i2 : Int32) (S : XS) : Option (Int32 × XS) := (if (((194 : Int32) + ((10 : Int32) * i1)) + i2) < 0 ∨ ln (rf a0 14) ≤ (((194 : Int32) + ((10 : Int32) * i1)) + i2).toNatClampNeg then none else some ((S.1 (rf a0 14) (((194 : Int32) + ((10 : Int32) * i1)) + i2).toNatClampNeg), S))
set_option maxHeartbeats 4000000 in
set_option maxRecDepth 100000 in
theorem w_X12_ofCloth {l : Launch} {g : XG}  {a0 : Nat} {i1 : Int32} {i2 : Int32} {S : XS} (hk0 : kd a0 = 12) : Cl φI l g 1 mX12_ofCloth [.ref a0, .int i1, .int i2] S (f_X12_ofCloth a0 i1 i2 S) := by
  refine Cl.of (by decide +kernel) (Nat.le_of_ble_eq_true rfl) ?_
  unfold f_X12_ofCloth
  show X _ _ _ _ _ 0 [(0, .ref a0), (1, .int i1), (2, .int i2)] [] S _
  refine X_aload_n (n := 1) 0 (kX12_ofCloth 0 rfl) rfl rfl rfl ?_
  refine X_getR (n := 4) xf_X12 hk0 (by decide) fl_X12_13 rfl (kX12_ofCloth 1 rfl) rfl ?_
  refine X_sipush (n := 7) (v := 194) (kX12_ofCloth 2 rfl) rfl (by decide) ?_
  refine X_bipush (n := 9) (v := 10) (kX12_ofCloth 3 rfl) rfl (by decide) ?_
  refine X_iload_n (n := 10) 1 (kX12_ofCloth 4 rfl) rfl rfl rfl ?_
  refine X_imul (n := 11) (kX12_ofCloth 5 rfl) rfl ?_
  refine X_iadd (n := 12) (kX12_ofCloth 6 rfl) rfl ?_
  refine X_iload_n (n := 13) 2 (kX12_ofCloth 7 rfl) rfl rfl rfl ?_
  refine X_iadd (n := 14) (kX12_ofCloth 8 rfl) rfl ?_
  refine X_iald (n := 15) (kt_12_14 hk0) (kX12_ofCloth 9 rfl) rfl (fun h1 => ?_)
  exact X_iret rfl (kX12_ofCloth 10 rfl)
def f_X12_sumAt_L4  (a0 : Nat) (i1 : Int32) : Nat → Int32 → Int32 → XS → Option (Int32)
  | 0, _, _, _ => none
  | n + 1, i2, i3, S => (if (6 : Int32) ≤ i3 then some i2 else (if (i1 + i3) < 0 ∨ ln (rf a0 14) ≤ (i1 + i3).toNatClampNeg then none else f_X12_sumAt_L4 a0 i1 n (i2 + (S.1 (rf a0 14) (i1 + i3).toNatClampNeg)) (i3 + 1) S))
def f_X12_sumAt  (a0 : Nat) (i1 : Int32) (S : XS) : Option (Int32 × XS) := ((f_X12_sumAt_L4 a0 i1 1000000 (0 : Int32) (0 : Int32) S).bind (fun e3 => some (e3, S)))
set_option maxHeartbeats 4000000 in
set_option maxRecDepth 100000 in
theorem w_X12_sumAt_L4 {l : Launch} {g : XG} {G : (Int32) → Option (Int32 × XS)}  {a0 : Nat} {i1 : Int32} (hk0 : kd a0 = 12) {S : XS} (kE : ∀ (e2 : Int32), X φI l g 1 mX12_sumAt 27 [(2, .int e2)] [] S (G e2)) : ∀ (n : Nat) (i2 : Int32) (i3 : Int32), X φI l g 1 mX12_sumAt 4 [(3, .int i3), (2, .int i2), (0, .ref a0), (1, .int i1)] [] S ((f_X12_sumAt_L4 a0 i1 n i2 i3 S).bind G) := by
  intro n
  induction n with
  | zero => intro i2 i3; exact X_none
  | succ n ih =>
  · intro i2 i3
    rw [f_X12_sumAt_L4]
    refine X_iload_n (n := 5) 0 (kX12_sumAt 4 rfl) rfl rfl rfl ?_
    refine X_bipush (n := 7) (v := 6) (kX12_sumAt 5 rfl) rfl (by decide) ?_
    refine X_itebind ?_
    refine X_ic_ge (n := 10) (tgt := 27) (kX12_sumAt 6 rfl) rfl rfl (fun h1 => ?_) (fun h1 => ?_)
    · exact X_L [1] rfl (kE i2)
    · refine X_iload_n (n := 11) 1 (kX12_sumAt 7 rfl) rfl rfl rfl ?_
      refine X_aload_n (n := 12) 2 (kX12_sumAt 8 rfl) rfl rfl rfl ?_
      refine X_getR (n := 15) xf_X12 hk0 (by decide) fl_X12_13 rfl (kX12_sumAt 9 rfl) rfl ?_
      refine X_iload_n (n := 16) 3 (kX12_sumAt 10 rfl) rfl rfl rfl ?_
      refine X_iload_n (n := 17) 0 (kX12_sumAt 11 rfl) rfl rfl rfl ?_
      refine X_iadd (n := 18) (kX12_sumAt 12 rfl) rfl ?_
      refine X_itebind ?_
      refine X_iald (n := 19) (kt_12_14 hk0) (kX12_sumAt 13 rfl) rfl (fun h2 => ?_)
      refine X_iadd (n := 20) (kX12_sumAt 14 rfl) rfl ?_
      refine X_istore_n (n := 21) (L1 := [(2, .int (i2 + (S.1 (rf a0 14) (i1 + i3).toNatClampNeg))), (3, .int i3), (0, .ref a0), (1, .int i1)]) (kX12_sumAt 15 rfl) rfl rfl (Nat.le_of_ble_eq_true rfl) rfl ?_
      refine X_iinc (n := 24) 1 (v := (i3 + 1)) (L1 := [(3, .int (i3 + 1)), (2, .int (i2 + (S.1 (rf a0 14) (i1 + i3).toNatClampNeg))), (0, .ref a0), (1, .int i1)]) (kX12_sumAt 16 rfl) rfl rfl rfl (Nat.le_of_ble_eq_true rfl) rfl ?_
      refine X_goto (tgt := 4) (kX12_sumAt 17 rfl) rfl ?_
      exact X_L [0, 1, 2, 3] rfl (ih (i2 + (S.1 (rf a0 14) (i1 + i3).toNatClampNeg)) (i3 + 1))
set_option maxHeartbeats 4000000 in
set_option maxRecDepth 100000 in
theorem w_X12_sumAt {l : Launch} {g : XG}  {a0 : Nat} {i1 : Int32} {S : XS} (hk0 : kd a0 = 12) : Cl φI l g 1 mX12_sumAt [.ref a0, .int i1] S (f_X12_sumAt a0 i1 S) := by
  refine Cl.of (by decide +kernel) (Nat.le_of_ble_eq_true rfl) ?_
  unfold f_X12_sumAt
  show X _ _ _ _ _ 0 [(0, .ref a0), (1, .int i1)] [] S _
  refine X_iconst (n := 1) (v := 0) (kX12_sumAt 0 rfl) rfl (by decide) ?_
  refine X_istore_n (n := 2) (L1 := [(2, .int 0), (0, .ref a0), (1, .int i1)]) (kX12_sumAt 1 rfl) rfl rfl (Nat.le_of_ble_eq_true rfl) rfl ?_
  refine X_iconst (n := 3) (v := 0) (kX12_sumAt 2 rfl) rfl (by decide) ?_
  refine X_istore_n (n := 4) (L1 := [(3, .int 0), (2, .int 0), (0, .ref a0), (1, .int i1)]) (kX12_sumAt 3 rfl) rfl rfl (Nat.le_of_ble_eq_true rfl) rfl ?_
  refine X_L [0, 1, 2, 3] rfl (w_X12_sumAt_L4 hk0 (fun e3 => ?_) 1000000 (0 : Int32) (0 : Int32))
  try dsimp only
  refine X_iload_n (n := 28) 0 (kX12_sumAt 18 rfl) rfl rfl rfl ?_
  exact X_iret rfl (kX12_sumAt 19 rfl)
def f_X12_strongestAt_L4  (a0 : Nat) (i1 : Int32) : Nat → Int32 → Int32 → XS → Option (Int32)
  | 0, _, _, _ => none
  | n + 1, i2, i3, S => (if (6 : Int32) ≤ i3 then some i2 else (if (i1 + i3) < 0 ∨ ln (rf a0 14) ≤ (i1 + i3).toNatClampNeg then none else (if (S.1 (rf a0 14) (i1 + i3).toNatClampNeg) ≤ 0 then f_X12_strongestAt_L4 a0 i1 n i2 (i3 + 1) S else (if i2 = (-1 : Int32) then f_X12_strongestAt_L4 a0 i1 n i3 (i3 + 1) S else (if (i1 + i3) < 0 ∨ ln (rf a0 14) ≤ (i1 + i3).toNatClampNeg then none else (if (i1 + i2) < 0 ∨ ln (rf a0 14) ≤ (i1 + i2).toNatClampNeg then none else (if (S.1 (rf a0 14) (i1 + i3).toNatClampNeg) ≤ (S.1 (rf a0 14) (i1 + i2).toNatClampNeg) then f_X12_strongestAt_L4 a0 i1 n i2 (i3 + 1) S else f_X12_strongestAt_L4 a0 i1 n i3 (i3 + 1) S)))))))
def f_X12_strongestAt  (a0 : Nat) (i1 : Int32) (S : XS) : Option (Int32 × XS) := ((f_X12_strongestAt_L4 a0 i1 1000000 (-1 : Int32) (0 : Int32) S).bind (fun e8 => some (e8, S)))
set_option maxHeartbeats 4000000 in
set_option maxRecDepth 100000 in
theorem w_X12_strongestAt_L4 {l : Launch} {g : XG} {G : (Int32) → Option (Int32 × XS)}  {a0 : Nat} {i1 : Int32} (hk0 : kd a0 = 12) {S : XS} (kE : ∀ (e2 : Int32), X φI l g 1 mX12_strongestAt 53 [(2, .int e2)] [] S (G e2)) : ∀ (n : Nat) (i2 : Int32) (i3 : Int32), X φI l g 1 mX12_strongestAt 4 [(3, .int i3), (2, .int i2), (0, .ref a0), (1, .int i1)] [] S ((f_X12_strongestAt_L4 a0 i1 n i2 i3 S).bind G) := by
  intro n
  induction n with
  | zero => intro i2 i3; exact X_none
  | succ n ih =>
  · intro i2 i3
    rw [f_X12_strongestAt_L4]
    refine X_iload_n (n := 5) 0 (kX12_strongestAt 4 rfl) rfl rfl rfl ?_
    refine X_bipush (n := 7) (v := 6) (kX12_strongestAt 5 rfl) rfl (by decide) ?_
    refine X_itebind ?_
    refine X_ic_ge (n := 10) (tgt := 53) (kX12_strongestAt 6 rfl) rfl rfl (fun h1 => ?_) (fun h1 => ?_)
    · exact X_L [1] rfl (kE i2)
    · refine X_aload_n (n := 11) 2 (kX12_strongestAt 7 rfl) rfl rfl rfl ?_
      refine X_getR (n := 14) xf_X12 hk0 (by decide) fl_X12_13 rfl (kX12_strongestAt 8 rfl) rfl ?_
      refine X_iload_n (n := 15) 3 (kX12_strongestAt 9 rfl) rfl rfl rfl ?_
      refine X_iload_n (n := 16) 0 (kX12_strongestAt 10 rfl) rfl rfl rfl ?_
      refine X_iadd (n := 17) (kX12_strongestAt 11 rfl) rfl ?_
      refine X_itebind ?_
      refine X_iald (n := 18) (kt_12_14 hk0) (kX12_strongestAt 12 rfl) rfl (fun h7 => ?_)
      refine X_itebind ?_
      refine X_if_le (n := 21) (tgt := 47) (kX12_strongestAt 13 rfl) rfl rfl (fun h2 => ?_) (fun h2 => ?_)
      · refine X_iinc (n := 50) 0 (v := (i3 + 1)) (L1 := [(3, .int (i3 + 1)), (2, .int i2), (0, .ref a0), (1, .int i1)]) (kX12_strongestAt 32 rfl) rfl rfl rfl (Nat.le_of_ble_eq_true rfl) rfl ?_
        refine X_goto (tgt := 4) (kX12_strongestAt 33 rfl) rfl ?_
        exact X_L [0, 1, 2, 3] rfl (ih i2 (i3 + 1))
      · refine X_iload_n (n := 22) 1 (kX12_strongestAt 14 rfl) rfl rfl rfl ?_
        refine X_iconst (n := 23) (v := (-1)) (kX12_strongestAt 15 rfl) rfl (by decide) ?_
        refine X_itebind ?_
        refine X_ic_eq (n := 26) (tgt := 45) (kX12_strongestAt 16 rfl) rfl rfl (fun h3 => ?_) (fun h3 => ?_)
        · refine X_iload_n (n := 46) 0 (kX12_strongestAt 30 rfl) rfl rfl rfl ?_
          refine X_istore_n (n := 47) (L1 := [(2, .int i3), (3, .int i3), (0, .ref a0), (1, .int i1)]) (kX12_strongestAt 31 rfl) rfl rfl (Nat.le_of_ble_eq_true rfl) rfl ?_
          refine X_iinc (n := 50) 1 (v := (i3 + 1)) (L1 := [(3, .int (i3 + 1)), (2, .int i3), (0, .ref a0), (1, .int i1)]) (kX12_strongestAt 32 rfl) rfl rfl rfl (Nat.le_of_ble_eq_true rfl) rfl ?_
          refine X_goto (tgt := 4) (kX12_strongestAt 33 rfl) rfl ?_
          exact X_L [0, 1, 2, 3] rfl (ih i3 (i3 + 1))
        · refine X_aload_n (n := 27) 2 (kX12_strongestAt 17 rfl) rfl rfl rfl ?_
          refine X_getR (n := 30) xf_X12 hk0 (by decide) fl_X12_13 rfl (kX12_strongestAt 18 rfl) rfl ?_
          refine X_iload_n (n := 31) 3 (kX12_strongestAt 19 rfl) rfl rfl rfl ?_
          refine X_iload_n (n := 32) 0 (kX12_strongestAt 20 rfl) rfl rfl rfl ?_
          refine X_iadd (n := 33) (kX12_strongestAt 21 rfl) rfl ?_
          refine X_itebind ?_
          refine X_iald (n := 34) (kt_12_14 hk0) (kX12_strongestAt 22 rfl) rfl (fun h6 => ?_)
          refine X_aload_n (n := 35) 2 (kX12_strongestAt 23 rfl) rfl rfl rfl ?_
          refine X_getR (n := 38) xf_X12 hk0 (by decide) fl_X12_13 rfl (kX12_strongestAt 24 rfl) rfl ?_
          refine X_iload_n (n := 39) 3 (kX12_strongestAt 25 rfl) rfl rfl rfl ?_
          refine X_iload_n (n := 40) 1 (kX12_strongestAt 26 rfl) rfl rfl rfl ?_
          refine X_iadd (n := 41) (kX12_strongestAt 27 rfl) rfl ?_
          refine X_itebind ?_
          refine X_iald (n := 42) (kt_12_14 hk0) (kX12_strongestAt 28 rfl) rfl (fun h5 => ?_)
          refine X_itebind ?_
          refine X_ic_le (n := 45) (tgt := 47) (kX12_strongestAt 29 rfl) rfl rfl (fun h4 => ?_) (fun h4 => ?_)
          · refine X_iinc (n := 50) 0 (v := (i3 + 1)) (L1 := [(3, .int (i3 + 1)), (2, .int i2), (0, .ref a0), (1, .int i1)]) (kX12_strongestAt 32 rfl) rfl rfl rfl (Nat.le_of_ble_eq_true rfl) rfl ?_
            refine X_goto (tgt := 4) (kX12_strongestAt 33 rfl) rfl ?_
            exact X_L [0, 1, 2, 3] rfl (ih i2 (i3 + 1))
          · refine X_iload_n (n := 46) 0 (kX12_strongestAt 30 rfl) rfl rfl rfl ?_
            refine X_istore_n (n := 47) (L1 := [(2, .int i3), (3, .int i3), (0, .ref a0), (1, .int i1)]) (kX12_strongestAt 31 rfl) rfl rfl (Nat.le_of_ble_eq_true rfl) rfl ?_
            refine X_iinc (n := 50) 1 (v := (i3 + 1)) (L1 := [(3, .int (i3 + 1)), (2, .int i3), (0, .ref a0), (1, .int i1)]) (kX12_strongestAt 32 rfl) rfl rfl rfl (Nat.le_of_ble_eq_true rfl) rfl ?_
            refine X_goto (tgt := 4) (kX12_strongestAt 33 rfl) rfl ?_
            exact X_L [0, 1, 2, 3] rfl (ih i3 (i3 + 1))
set_option maxHeartbeats 4000000 in
set_option maxRecDepth 100000 in
theorem w_X12_strongestAt {l : Launch} {g : XG}  {a0 : Nat} {i1 : Int32} {S : XS} (hk0 : kd a0 = 12) : Cl φI l g 1 mX12_strongestAt [.ref a0, .int i1] S (f_X12_strongestAt a0 i1 S) := by
  refine Cl.of (by decide +kernel) (Nat.le_of_ble_eq_true rfl) ?_
  unfold f_X12_strongestAt
  show X _ _ _ _ _ 0 [(0, .ref a0), (1, .int i1)] [] S _
  refine X_iconst (n := 1) (v := (-1)) (kX12_strongestAt 0 rfl) rfl (by decide) ?_
  refine X_istore_n (n := 2) (L1 := [(2, .int (-1)), (0, .ref a0), (1, .int i1)]) (kX12_strongestAt 1 rfl) rfl rfl (Nat.le_of_ble_eq_true rfl) rfl ?_
  refine X_iconst (n := 3) (v := 0) (kX12_strongestAt 2 rfl) rfl (by decide) ?_
  refine X_istore_n (n := 4) (L1 := [(3, .int 0), (2, .int (-1)), (0, .ref a0), (1, .int i1)]) (kX12_strongestAt 3 rfl) rfl rfl (Nat.le_of_ble_eq_true rfl) rfl ?_
  refine X_L [0, 1, 2, 3] rfl (w_X12_strongestAt_L4 hk0 (fun e8 => ?_) 1000000 (-1 : Int32) (0 : Int32))
  try dsimp only
  refine X_iload_n (n := 54) 0 (kX12_strongestAt 34 rfl) rfl rfl rfl ?_
  exact X_iret rfl (kX12_strongestAt 35 rfl)
def f_X12_worn  (a0 : Nat) (i1 : Int32) (S : XS) : Option (Int32 × XS) := (if ((151 : Int32) + i1) < 0 ∨ ln (rf a0 14) ≤ ((151 : Int32) + i1).toNatClampNeg then none else some (((157 : Int32) + ((6 : Int32) * (S.1 (rf a0 14) ((151 : Int32) + i1).toNatClampNeg))), S))
set_option maxHeartbeats 4000000 in
set_option maxRecDepth 100000 in
theorem w_X12_worn {l : Launch} {g : XG}  {a0 : Nat} {i1 : Int32} {S : XS} (hk0 : kd a0 = 12) : Cl φI l g 1 mX12_worn [.ref a0, .int i1] S (f_X12_worn a0 i1 S) := by
  refine Cl.of (by decide +kernel) (Nat.le_of_ble_eq_true rfl) ?_
  unfold f_X12_worn
  show X _ _ _ _ _ 0 [(0, .ref a0), (1, .int i1)] [] S _
  refine X_sipush (n := 3) (v := 157) (kX12_worn 0 rfl) rfl (by decide) ?_
  refine X_bipush (n := 5) (v := 6) (kX12_worn 1 rfl) rfl (by decide) ?_
  refine X_aload_n (n := 6) 0 (kX12_worn 2 rfl) rfl rfl rfl ?_
  refine X_getR (n := 9) xf_X12 hk0 (by decide) fl_X12_13 rfl (kX12_worn 3 rfl) rfl ?_
  refine X_sipush (n := 12) (v := 151) (kX12_worn 4 rfl) rfl (by decide) ?_
  refine X_iload_n (n := 13) 1 (kX12_worn 5 rfl) rfl rfl rfl ?_
  refine X_iadd (n := 14) (kX12_worn 6 rfl) rfl ?_
  refine X_iald (n := 15) (kt_12_14 hk0) (kX12_worn 7 rfl) rfl (fun h1 => ?_)
  refine X_imul (n := 16) (kX12_worn 8 rfl) rfl ?_
  refine X_iadd (n := 17) (kX12_worn 9 rfl) rfl ?_
  exact X_iret rfl (kX12_worn 10 rfl)
def f_X12_wearerOf_L2  (a0 : Nat) (i1 : Int32) : Nat → Int32 → XS → Option ((Int32 × XS) ⊕ (Unit))
  | 0, _, _ => none
  | n + 1, i2, S => (if (S.1 (rf a0 14) 3) ≤ i2 then some (.inr ()) else (if ((151 : Int32) + i2) < 0 ∨ ln (rf a0 14) ≤ ((151 : Int32) + i2).toNatClampNeg then none else (if (S.1 (rf a0 14) ((151 : Int32) + i2).toNatClampNeg) = i1 then some (.inl (i2, S)) else f_X12_wearerOf_L2 a0 i1 n (i2 + 1) S)))
def f_X12_wearerOf  (a0 : Nat) (i1 : Int32) (S : XS) : Option (Int32 × XS) := ((f_X12_wearerOf_L2 a0 i1 1000000 (0 : Int32) S).bind (fun q => match q with | .inl r => some r | .inr _ => some ((-1 : Int32), S)))
set_option maxHeartbeats 4000000 in
set_option maxRecDepth 100000 in
theorem w_X12_wearerOf_L2 {l : Launch} {g : XG} {G : ((Int32 × XS) ⊕ (Unit)) → Option (Int32 × XS)}  {a0 : Nat} {i1 : Int32} (hk0 : kd a0 = 12) {S : XS} (kE : X φI l g 1 mX12_wearerOf 34 [] [] S (G (.inr ()))) (kR : ∀ r, G (.inl r) = some r) : ∀ (n : Nat) (i2 : Int32), X φI l g 1 mX12_wearerOf 2 [(2, .int i2), (0, .ref a0), (1, .int i1)] [] S ((f_X12_wearerOf_L2 a0 i1 n i2 S).bind G) := by
  intro n
  induction n with
  | zero => intro i2; exact X_none
  | succ n ih =>
  · intro i2
    rw [f_X12_wearerOf_L2]
    refine X_iload_n (n := 3) 0 (kX12_wearerOf 2 rfl) rfl rfl rfl ?_
    refine X_aload_n (n := 4) 1 (kX12_wearerOf 3 rfl) rfl rfl rfl ?_
    refine X_getR (n := 7) xf_X12 hk0 (by decide) fl_X12_13 rfl (kX12_wearerOf 4 rfl) rfl ?_
    refine X_iconst (n := 8) (v := 3) (kX12_wearerOf 5 rfl) rfl (by decide) ?_
    refine X_iald' (n := 9) (kt_12_14 hk0) (kX12_wearerOf 6 rfl) rfl (by rw [lt_12_14 hk0]; decide) ?_
    refine X_itebind ?_
    refine X_ic_ge (n := 12) (tgt := 34) (kX12_wearerOf 7 rfl) rfl rfl (fun h1 => ?_) (fun h1 => ?_)
    · exact X_L [] rfl kE
    · refine X_aload_n (n := 13) 1 (kX12_wearerOf 8 rfl) rfl rfl rfl ?_
      refine X_getR (n := 16) xf_X12 hk0 (by decide) fl_X12_13 rfl (kX12_wearerOf 9 rfl) rfl ?_
      refine X_sipush (n := 19) (v := 151) (kX12_wearerOf 10 rfl) rfl (by decide) ?_
      refine X_iload_n (n := 20) 0 (kX12_wearerOf 11 rfl) rfl rfl rfl ?_
      refine X_iadd (n := 21) (kX12_wearerOf 12 rfl) rfl ?_
      refine X_itebind ?_
      refine X_iald (n := 22) (kt_12_14 hk0) (kX12_wearerOf 13 rfl) rfl (fun h3 => ?_)
      refine X_iload_n (n := 23) 2 (kX12_wearerOf 14 rfl) rfl rfl rfl ?_
      refine X_itebind ?_
      refine X_ic_ne (n := 26) (tgt := 28) (kX12_wearerOf 15 rfl) rfl rfl (fun h2 => ?_) (fun h2 => ?_)
      · refine X_iload_n (n := 27) 0 (kX12_wearerOf 16 rfl) rfl rfl rfl ?_
        exact X_req (kR _) (X_iret rfl (kX12_wearerOf 17 rfl))
      · refine X_iinc (n := 31) 0 (v := (i2 + 1)) (L1 := [(2, .int (i2 + 1)), (0, .ref a0), (1, .int i1)]) (kX12_wearerOf 18 rfl) rfl rfl rfl (Nat.le_of_ble_eq_true rfl) rfl ?_
        refine X_goto (tgt := 2) (kX12_wearerOf 19 rfl) rfl ?_
        exact X_L [0, 1, 2] rfl (ih (i2 + 1))
set_option maxHeartbeats 4000000 in
set_option maxRecDepth 100000 in
theorem w_X12_wearerOf {l : Launch} {g : XG}  {a0 : Nat} {i1 : Int32} {S : XS} (hk0 : kd a0 = 12) : Cl φI l g 1 mX12_wearerOf [.ref a0, .int i1] S (f_X12_wearerOf a0 i1 S) := by
  refine Cl.of (by decide +kernel) (Nat.le_of_ble_eq_true rfl) ?_
  unfold f_X12_wearerOf
  show X _ _ _ _ _ 0 [(0, .ref a0), (1, .int i1)] [] S _
  refine X_iconst (n := 1) (v := 0) (kX12_wearerOf 0 rfl) rfl (by decide) ?_
  refine X_istore_n (n := 2) (L1 := [(2, .int 0), (0, .ref a0), (1, .int i1)]) (kX12_wearerOf 1 rfl) rfl rfl (Nat.le_of_ble_eq_true rfl) rfl ?_
  refine X_L [0, 1, 2] rfl (w_X12_wearerOf_L2 hk0 ?_ ?_ 1000000 (0 : Int32))
  · refine X_iconst (n := 35) (v := (-1)) (kX12_wearerOf 20 rfl) rfl (by decide) ?_
    exact X_iret rfl (kX12_wearerOf 21 rfl)
  · intro r
    rfl
