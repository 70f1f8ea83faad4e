def f_X12_valueOf  (a0 : Nat) (i1 : Int32) (i2 : Int32) (S : XS) : Option (Int32 × XS) := (if i1 = (14 : Int32) then ((f_X12_worn a0 i2 S).bind (fun q => match q with | (r2, S3) => ((f_X12_sumAt a0 r2 S3).bind (fun q => match q with | (r4, S5) => some (r4, S5))))) else (if i1 = (16 : Int32) then (if ((151 : Int32) + i2) < 0 ∨ ln (rf a0 14) ≤ ((151 : Int32) + i2).toNatClampNeg then none else (if ((66 : Int32) + (S.1 (rf a0 14) ((151 : Int32) + i2).toNatClampNeg)) < 0 ∨ ln (rf a0 14) ≤ ((66 : Int32) + (S.1 (rf a0 14) ((151 : Int32) + i2).toNatClampNeg)).toNatClampNeg then none else some ((S.1 (rf a0 14) ((66 : Int32) + (S.1 (rf a0 14) ((151 : Int32) + i2).toNatClampNeg)).toNatClampNeg), S))) else ((f_X12_worn a0 i2 S).bind (fun q => match q with | (r9, S10) => ((f_X12_strongestAt a0 r9 S10).bind (fun q => match q with | (r11, S12) => (if r11 = (-1 : Int32) then some ((0 : Int32), S12) else ((f_X12_worn a0 i2 S12).bind (fun q => match q with | (r14, S15) => (if (r14 + r11) < 0 ∨ ln (rf a0 14) ≤ (r14 + r11).toNatClampNeg then none else some ((S15.1 (rf a0 14) (r14 + r11).toNatClampNeg), S15)))))))))))
set_option maxHeartbeats 4000000 in
set_option maxRecDepth 100000 in
theorem w_X12_valueOf {l : Launch} {g : XG}  {a0 : Nat} {i1 : Int32} {i2 : Int32} {S : XS} (hk0 : kd a0 = 12) : Cl φI l g 2 mX12_valueOf [.ref a0, .int i1, .int i2] S (f_X12_valueOf a0 i1 i2 S) := by
  refine Cl.of (by decide +kernel) (Nat.le_of_ble_eq_true rfl) ?_
  unfold f_X12_valueOf
  show X _ _ _ _ _ 0 [(0, .ref a0), (1, .int i1), (2, .int i2)] [] S _
  refine X_iload_n (n := 1) 1 (kX12_valueOf 0 rfl) rfl rfl rfl ?_
  refine X_bipush (n := 3) (v := 14) (kX12_valueOf 1 rfl) rfl (by decide) ?_
  refine X_ic_ne (n := 6) (tgt := 16) (kX12_valueOf 2 rfl) rfl rfl (fun h1 => ?_) (fun h1 => ?_)
  · refine X_aload_n (n := 7) 0 (kX12_valueOf 3 rfl) rfl rfl rfl ?_
    refine X_aload_n (n := 8) 0 (kX12_valueOf 4 rfl) rfl rfl rfl ?_
    refine X_iload_n (n := 9) 2 (kX12_valueOf 5 rfl) rfl rfl rfl ?_
    refine X_callVI (n := 12) (As := [.int i2]) (st := [.ref a0]) (kX12_valueOf 6 rfl) rfl (w_X12_worn hk0) (by decide) ml_X12_266 mf_X12_worn rfl hk0 xf_X12 rfl (Nat.le_of_ble_eq_true rfl) (fun r2 S3 hq => ?_)
    try dsimp only
    refine X_callVI (n := 15) (As := [.int r2]) (st := []) (kX12_valueOf 7 rfl) rfl (w_X12_sumAt hk0) (by decide) ml_X12_269 mf_X12_sumAt rfl hk0 xf_X12 rfl (Nat.le_of_ble_eq_true rfl) (fun r4 S5 hq => ?_)
    try dsimp only
    exact X_iret rfl (kX12_valueOf 8 rfl)
  · refine X_iload_n (n := 17) 1 (kX12_valueOf 9 rfl) rfl rfl rfl ?_
    refine X_bipush (n := 19) (v := 16) (kX12_valueOf 10 rfl) rfl (by decide) ?_
    refine X_ic_ne (n := 22) (tgt := 41) (kX12_valueOf 11 rfl) rfl rfl (fun h6 => ?_) (fun h6 => ?_)
    · refine X_aload_n (n := 23) 0 (kX12_valueOf 12 rfl) rfl rfl rfl ?_
      refine X_getR (n := 26) xf_X12 hk0 (by decide) fl_X12_13 rfl (kX12_valueOf 13 rfl) rfl ?_
      refine X_bipush (n := 28) (v := 66) (kX12_valueOf 14 rfl) rfl (by decide) ?_
      refine X_aload_n (n := 29) 0 (kX12_valueOf 15 rfl) rfl rfl rfl ?_
      refine X_getR (n := 32) xf_X12 hk0 (by decide) fl_X12_13 rfl (kX12_valueOf 16 rfl) rfl ?_
      refine X_sipush (n := 35) (v := 151) (kX12_valueOf 17 rfl) rfl (by decide) ?_
      refine X_iload_n (n := 36) 2 (kX12_valueOf 18 rfl) rfl rfl rfl ?_
      refine X_iadd (n := 37) (kX12_valueOf 19 rfl) rfl ?_
      refine X_iald (n := 38) (kt_12_14 hk0) (kX12_valueOf 20 rfl) rfl (fun h8 => ?_)
      refine X_iadd (n := 39) (kX12_valueOf 21 rfl) rfl ?_
      refine X_iald (n := 40) (kt_12_14 hk0) (kX12_valueOf 22 rfl) rfl (fun h7 => ?_)
      exact X_iret rfl (kX12_valueOf 23 rfl)
    · refine X_aload_n (n := 42) 0 (kX12_valueOf 24 rfl) rfl rfl rfl ?_
      refine X_aload_n (n := 43) 0 (kX12_valueOf 25 rfl) rfl rfl rfl ?_
      refine X_iload_n (n := 44) 2 (kX12_valueOf 26 rfl) rfl rfl rfl ?_
      refine X_callVI (n := 47) (As := [.int i2]) (st := [.ref a0]) (kX12_valueOf 27 rfl) rfl (w_X12_worn hk0) (by decide) ml_X12_266 mf_X12_worn rfl hk0 xf_X12 rfl (Nat.le_of_ble_eq_true rfl) (fun r9 S10 hq => ?_)
      try dsimp only
      refine X_callVI (n := 50) (As := [.int r9]) (st := []) (kX12_valueOf 28 rfl) rfl (w_X12_strongestAt hk0) (by decide) ml_X12_272 mf_X12_strongestAt rfl hk0 xf_X12 rfl (Nat.le_of_ble_eq_true rfl) (fun r11 S12 hq => ?_)
      try dsimp only
      refine X_istore_n (n := 51) (L1 := [(3, .int r11), (0, .ref a0), (1, .int i1), (2, .int i2)]) (kX12_valueOf 29 rfl) rfl rfl (Nat.le_of_ble_eq_true rfl) rfl ?_
      refine X_iload_n (n := 52) 0 (kX12_valueOf 30 rfl) rfl rfl rfl ?_
      refine X_iconst (n := 53) (v := (-1)) (kX12_valueOf 31 rfl) rfl (by decide) ?_
      refine X_ic_ne (n := 56) (tgt := 60) (kX12_valueOf 32 rfl) rfl rfl (fun h13 => ?_) (fun h13 => ?_)
      · refine X_iconst (n := 57) (v := 0) (kX12_valueOf 33 rfl) rfl (by decide) ?_
        refine X_goto (tgt := 72) (kX12_valueOf 34 rfl) rfl ?_
        exact X_iret rfl (kX12_valueOf 43 rfl)
      · refine X_aload_n (n := 61) 1 (kX12_valueOf 35 rfl) rfl rfl rfl ?_
        refine X_getR (n := 64) xf_X12 hk0 (by decide) fl_X12_13 rfl (kX12_valueOf 36 rfl) rfl ?_
        refine X_aload_n (n := 65) 1 (kX12_valueOf 37 rfl) rfl rfl rfl ?_
        refine X_iload_n (n := 66) 3 (kX12_valueOf 38 rfl) rfl rfl rfl ?_
        refine X_callVI (n := 69) (As := [.int i2]) (st := [.ref (rf a0 14)]) (kX12_valueOf 39 rfl) rfl (w_X12_worn hk0) (by decide) ml_X12_266 mf_X12_worn rfl hk0 xf_X12 rfl (Nat.le_of_ble_eq_true rfl) (fun r14 S15 hq => ?_)
        try dsimp only
        refine X_iload_n (n := 70) 0 (kX12_valueOf 40 rfl) rfl rfl rfl ?_
        refine X_iadd (n := 71) (kX12_valueOf 41 rfl) rfl ?_
        refine X_iald (n := 72) (kt_12_14 hk0) (kX12_valueOf 42 rfl) rfl (fun h16 => ?_)
        exact X_iret rfl (kX12_valueOf 43 rfl)
def f_X12_image_L18  (a0 : Nat) (i1 : Int32) : Nat → Int32 → XS → Option (XS)
  | 0, _, _ => none
  | n + 1, i2, S => (if (516 : Int32) ≤ i2 then some S else (if i2 < 0 ∨ ln (rf a0 14) ≤ i2.toNatClampNeg then none else (if (((516 : Int32) * i1) + i2) < 0 ∨ ln (rf a0 16) ≤ (((516 : Int32) * i1) + i2).toNatClampNeg then none else f_X12_image_L18 a0 i1 n (i2 + 1) (sI S (rf a0 16) ((((516 : Int32) * i1) + i2).toNatClampNeg) (S.1 (rf a0 14) i2.toNatClampNeg)))))
def f_X12_image_L51  (a0 : Nat) (i1 : Int32) : Nat → Int32 → XS → Option (XS)
  | 0, _, _ => none
  | n + 1, i2, S => (if (18 : Int32) ≤ i2 then some S else (if i2 < 0 ∨ ln (rf a0 19) ≤ i2.toNatClampNeg then none else (if (((18 : Int32) * i1) + i2) < 0 ∨ ln (rf a0 21) ≤ (((18 : Int32) * i1) + i2).toNatClampNeg then none else f_X12_image_L51 a0 i1 n (i2 + 1) (sL S (rf a0 21) ((((18 : Int32) * i1) + i2).toNatClampNeg) (S.2 (rf a0 19) i2.toNatClampNeg)))))
def f_X12_image  (a0 : Nat) (i1 : Int32) (S : XS) : Option (Bool × XS) := (if (t_X12_isIn i1 (0 : Int32) (1 : Int32)) = true then ((f_X12_image_L18 a0 i1 1000000 (0 : Int32) (sI S a0 0 (0 : Int32))).bind (fun S5 => ((f_X12_image_L51 a0 i1 1000000 (0 : Int32) S5).bind (fun S9 => (if i1 < 0 ∨ ln (rf a0 22) ≤ i1.toNatClampNeg then none else some (true, (sI S9 (rf a0 22) i1.toNatClampNeg (vp_nar .boolean (1 : Int32))))))))) else some (false, (sI S a0 0 (0 : Int32))))
set_option maxHeartbeats 4000000 in
set_option maxRecDepth 100000 in
theorem w_X12_image_L18 {l : Launch} {g : XG} {G : (XS) → Option (Bool × XS)}  {a0 : Nat} {i1 : Int32} (hk0 : kd a0 = 12) (kE : ∀ (S1 : XS), X φB l g 2 mX12_image 49 [(0, .ref a0), (1, .int i1)] [] S1 (G S1)) : ∀ (n : Nat) (i2 : Int32) (S : XS), X φB l g 2 mX12_image 18 [(2, .int i2), (0, .ref a0), (1, .int i1)] [] S ((f_X12_image_L18 a0 i1 n i2 S).bind G) := by
  intro n
  induction n with
  | zero => intro i2 S; exact X_none
  | succ n ih =>
  · intro i2 S
    rw [f_X12_image_L18]
    refine X_iload_n (n := 19) 0 (kX12_image 12 rfl) rfl rfl rfl ?_
    refine X_sipush (n := 22) (v := 516) (kX12_image 13 rfl) rfl (by decide) ?_
    refine X_itebind ?_
    refine X_ic_ge (n := 25) (tgt := 49) (kX12_image 14 rfl) rfl rfl (fun h2 => ?_) (fun h2 => ?_)
    · exact X_L [1, 2] rfl (kE S)
    · refine X_aload_n (n := 26) 1 (kX12_image 15 rfl) rfl rfl rfl ?_
      refine X_getR (n := 29) xf_X12 hk0 (by decide) fl_X12_19 rfl (kX12_image 16 rfl) rfl ?_
      refine X_sipush (n := 32) (v := 516) (kX12_image 17 rfl) rfl (by decide) ?_
      refine X_iload_n (n := 33) 2 (kX12_image 18 rfl) rfl rfl rfl ?_
      refine X_imul (n := 34) (kX12_image 19 rfl) rfl ?_
      refine X_iload_n (n := 35) 0 (kX12_image 20 rfl) rfl rfl rfl ?_
      refine X_iadd (n := 36) (kX12_image 21 rfl) rfl ?_
      refine X_aload_n (n := 37) 1 (kX12_image 22 rfl) rfl rfl rfl ?_
      refine X_getR (n := 40) xf_X12 hk0 (by decide) fl_X12_13 rfl (kX12_image 23 rfl) rfl ?_
      refine X_iload_n (n := 41) 0 (kX12_image 24 rfl) rfl rfl rfl ?_
      refine X_itebind ?_
      refine X_iald (n := 42) (kt_12_14 hk0) (kX12_image 25 rfl) rfl (fun h4 => ?_)
      refine X_itebind ?_
      refine X_iast (n := 43) (kt_12_16 hk0) (kX12_image 26 rfl) rfl (fun h3 => ?_)
      refine X_iinc (n := 46) 0 (v := (i2 + 1)) (L1 := [(2, .int (i2 + 1)), (0, .ref a0), (1, .int i1)]) (kX12_image 27 rfl) rfl rfl rfl (Nat.le_of_ble_eq_true rfl) rfl ?_
      refine X_goto (tgt := 18) (kX12_image 28 rfl) rfl ?_
      exact X_L [0, 1, 2] rfl (ih (i2 + 1) (sI S (rf a0 16) ((((516 : Int32) * i1) + i2).toNatClampNeg) (S.1 (rf a0 14) i2.toNatClampNeg)))
set_option maxHeartbeats 4000000 in
set_option maxRecDepth 100000 in
theorem w_X12_image_L51 {l : Launch} {g : XG} {G : (XS) → Option (Bool × XS)}  {a0 : Nat} {i1 : Int32} (hk0 : kd a0 = 12) (kE : ∀ (S1 : XS), X φB l g 2 mX12_image 80 [(0, .ref a0), (1, .int i1)] [] S1 (G S1)) : ∀ (n : Nat) (i2 : Int32) (S : XS), X φB l g 2 mX12_image 51 [(2, .int i2), (0, .ref a0), (1, .int i1)] [] S ((f_X12_image_L51 a0 i1 n i2 S).bind G) := by
  intro n
  induction n with
  | zero => intro i2 S; exact X_none
  | succ n ih =>
  · intro i2 S
    rw [f_X12_image_L51]
    refine X_iload_n (n := 52) 0 (kX12_image 31 rfl) rfl rfl rfl ?_
    refine X_bipush (n := 54) (v := 18) (kX12_image 32 rfl) rfl (by decide) ?_
    refine X_itebind ?_
    refine X_ic_ge (n := 57) (tgt := 80) (kX12_image 33 rfl) rfl rfl (fun h6 => ?_) (fun h6 => ?_)
    · exact X_L [1, 2] rfl (kE S)
    · refine X_aload_n (n := 58) 1 (kX12_image 34 rfl) rfl rfl rfl ?_
      refine X_getR (n := 61) xf_X12 hk0 (by decide) fl_X12_35 rfl (kX12_image 35 rfl) rfl ?_
      refine X_bipush (n := 63) (v := 18) (kX12_image 36 rfl) rfl (by decide) ?_
      refine X_iload_n (n := 64) 2 (kX12_image 37 rfl) rfl rfl rfl ?_
      refine X_imul (n := 65) (kX12_image 38 rfl) rfl ?_
      refine X_iload_n (n := 66) 0 (kX12_image 39 rfl) rfl rfl rfl ?_
      refine X_iadd (n := 67) (kX12_image 40 rfl) rfl ?_
      refine X_aload_n (n := 68) 1 (kX12_image 41 rfl) rfl rfl rfl ?_
      refine X_getR (n := 71) xf_X12 hk0 (by decide) fl_X12_28 rfl (kX12_image 42 rfl) rfl ?_
      refine X_iload_n (n := 72) 0 (kX12_image 43 rfl) rfl rfl rfl ?_
      refine X_itebind ?_
      refine X_lald (n := 73) (kt_12_19 hk0) (kX12_image 44 rfl) rfl (fun h8 => ?_)
      refine X_itebind ?_
      refine X_last (n := 74) (kt_12_21 hk0) (kX12_image 45 rfl) rfl (fun h7 => ?_)
      refine X_iinc (n := 77) 0 (v := (i2 + 1)) (L1 := [(2, .int (i2 + 1)), (0, .ref a0), (1, .int i1)]) (kX12_image 46 rfl) rfl rfl rfl (Nat.le_of_ble_eq_true rfl) rfl ?_
      refine X_goto (tgt := 51) (kX12_image 47 rfl) rfl ?_
      exact X_L [0, 1, 2] rfl (ih (i2 + 1) (sL S (rf a0 21) ((((18 : Int32) * i1) + i2).toNatClampNeg) (S.2 (rf a0 19) i2.toNatClampNeg)))
set_option maxHeartbeats 4000000 in
set_option maxRecDepth 100000 in
theorem w_X12_image {l : Launch} {g : XG}  {a0 : Nat} {i1 : Int32} {S : XS} (hk0 : kd a0 = 12) : Cl φB l g 2 mX12_image [.ref a0, .int i1] S (f_X12_image a0 i1 S) := by
  refine Cl.of (by decide +kernel) (Nat.le_of_ble_eq_true rfl) ?_
  unfold f_X12_image
  show X _ _ _ _ _ 0 [(0, .ref a0), (1, .int i1)] [] S _
  refine X_aload_n (n := 1) 0 (kX12_image 0 rfl) rfl rfl rfl ?_
  refine X_iconst (n := 2) (v := 0) (kX12_image 1 rfl) rfl (by decide) ?_
  refine X_putI (n := 5) xf_X12 hk0 (by decide) fl_X12_100 rfl rfl (Or.inl rfl) (kX12_image 2 rfl) rfl ?_
  refine X_iload_n (n := 6) 1 (kX12_image 3 rfl) rfl rfl rfl ?_
  refine X_iconst (n := 7) (v := 0) (kX12_image 4 rfl) rfl (by decide) ?_
  refine X_iconst (n := 8) (v := 1) (kX12_image 5 rfl) rfl (by decide) ?_
  refine X_callS1B (n := 11) (As := [.int i1, .int (0 : Int32), .int (1 : Int32)]) (st := []) (kX12_image 6 rfl) rfl p_X12_isIn (by decide) ml_X12_169 mf_X12_isIn rfl rfl (Nat.le_of_ble_eq_true rfl) ?_
  refine X_bn (n := 14) (tgt := 16) (kX12_image 7 rfl) rfl rfl (fun h1 => ?_) (fun h1 => ?_)
  · refine X_iconst (n := 17) (v := 0) (kX12_image 10 rfl) rfl (by decide) ?_
    refine X_istore_n (n := 18) (L1 := [(2, .int 0), (0, .ref a0), (1, .int i1)]) (kX12_image 11 rfl) rfl rfl (Nat.le_of_ble_eq_true rfl) rfl ?_
    refine X_L [0, 1, 2] rfl (w_X12_image_L18 hk0 (fun S5 => ?_) 1000000 (0 : Int32) (sI S a0 0 (0 : Int32)))
    try dsimp only
    refine X_iconst (n := 50) (v := 0) (kX12_image 29 rfl) rfl (by decide) ?_
    refine X_istore_n (n := 51) (L1 := [(2, .int 0), (0, .ref a0), (1, .int i1)]) (kX12_image 30 rfl) rfl rfl (Nat.le_of_ble_eq_true rfl) rfl ?_
    refine X_L [0, 1, 2] rfl (w_X12_image_L51 hk0 (fun S9 => ?_) 1000000 (0 : Int32) S5)
    try dsimp only
    refine X_aload_n (n := 81) 0 (kX12_image 48 rfl) rfl rfl rfl ?_
    refine X_getR (n := 84) xf_X12 hk0 (by decide) fl_X12_38 rfl (kX12_image 49 rfl) rfl ?_
    refine X_iload_n (n := 85) 1 (kX12_image 50 rfl) rfl rfl rfl ?_
    refine X_iconst (n := 86) (v := 1) (kX12_image 51 rfl) rfl (by decide) ?_
    refine X_zast (n := 87) (kt_12_22 hk0) (kX12_image 52 rfl) rfl (fun h10 => ?_)
    refine X_iconst (n := 88) (v := 1) (kX12_image 53 rfl) rfl (by decide) ?_
    exact X_zret (b := true) rfl (kX12_image 54 rfl)
  · refine X_iconst (n := 15) (v := 0) (kX12_image 8 rfl) rfl (by decide) ?_
    exact X_zret (b := false) rfl (kX12_image 9 rfl)
def f_X12_restore_L27  (a0 : Nat) (i1 : Int32) : Nat → Int32 → XS → Option (XS)
  | 0, _, _ => none
  | n + 1, i2, S => (if (516 : Int32) ≤ i2 then some S else (if (((516 : Int32) * i1) + i2) < 0 ∨ ln (rf a0 16) ≤ (((516 : Int32) * i1) + i2).toNatClampNeg then none else (if i2 < 0 ∨ ln (rf a0 14) ≤ i2.toNatClampNeg then none else f_X12_restore_L27 a0 i1 n (i2 + 1) (sI S (rf a0 14) i2.toNatClampNeg (S.1 (rf a0 16) (((516 : Int32) * i1) + i2).toNatClampNeg)))))
def f_X12_restore_L60  (a0 : Nat) (i1 : Int32) : Nat → Int32 → XS → Option (XS)
  | 0, _, _ => none
  | n + 1, i2, S => (if (18 : Int32) ≤ i2 then some S else (if (((18 : Int32) * i1) + i2) < 0 ∨ ln (rf a0 21) ≤ (((18 : Int32) * i1) + i2).toNatClampNeg then none else (if i2 < 0 ∨ ln (rf a0 19) ≤ i2.toNatClampNeg then none else f_X12_restore_L60 a0 i1 n (i2 + 1) (sL S (rf a0 19) i2.toNatClampNeg (S.2 (rf a0 21) (((18 : Int32) * i1) + i2).toNatClampNeg)))))
def f_X12_restore  (a0 : Nat) (i1 : Int32) (S : XS) : Option (Bool × XS) := (if (t_X12_isIn i1 (0 : Int32) (1 : Int32)) = true then (if i1 < 0 ∨ ln (rf a0 22) ≤ i1.toNatClampNeg then none else (if ((sI S a0 0 (0 : Int32)).1 (rf a0 22) i1.toNatClampNeg) = 0 then some (false, (sI S a0 0 (0 : Int32))) else ((f_X12_restore_L27 a0 i1 1000000 (0 : Int32) (sI S a0 0 (0 : Int32))).bind (fun S6 => ((f_X12_restore_L60 a0 i1 1000000 (0 : Int32) S6).bind (fun S10 => some (true, (sI S10 a0 23 (0 : Int32))))))))) else some (false, (sI S a0 0 (0 : Int32))))
set_option maxHeartbeats 4000000 in
set_option maxRecDepth 100000 in
theorem w_X12_restore_L27 {l : Launch} {g : XG} {G : (XS) → Option (Bool × XS)}  {a0 : Nat} {i1 : Int32} (hk0 : kd a0 = 12) (kE : ∀ (S1 : XS), X φB l g 2 mX12_restore 58 [(0, .ref a0), (1, .int i1)] [] S1 (G S1)) : ∀ (n : Nat) (i2 : Int32) (S : XS), X φB l g 2 mX12_restore 27 [(2, .int i2), (0, .ref a0), (1, .int i1)] [] S ((f_X12_restore_L27 a0 i1 n i2 S).bind G) := by
  intro n
  induction n with
  | zero => intro i2 S; exact X_none
  | succ n ih =>
  · intro i2 S
    rw [f_X12_restore_L27]
    refine X_iload_n (n := 28) 0 (kX12_restore 17 rfl) rfl rfl rfl ?_
    refine X_sipush (n := 31) (v := 516) (kX12_restore 18 rfl) rfl (by decide) ?_
    refine X_itebind ?_
    refine X_ic_ge (n := 34) (tgt := 58) (kX12_restore 19 rfl) rfl rfl (fun h3 => ?_) (fun h3 => ?_)
    · exact X_L [1, 2] rfl (kE S)
    · refine X_aload_n (n := 35) 1 (kX12_restore 20 rfl) rfl rfl rfl ?_
      refine X_getR (n := 38) xf_X12 hk0 (by decide) fl_X12_13 rfl (kX12_restore 21 rfl) rfl ?_
      refine X_iload_n (n := 39) 0 (kX12_restore 22 rfl) rfl rfl rfl ?_
      refine X_aload_n (n := 40) 1 (kX12_restore 23 rfl) rfl rfl rfl ?_
      refine X_getR (n := 43) xf_X12 hk0 (by decide) fl_X12_19 rfl (kX12_restore 24 rfl) rfl ?_
      refine X_sipush (n := 46) (v := 516) (kX12_restore 25 rfl) rfl (by decide) ?_
      refine X_iload_n (n := 47) 2 (kX12_restore 26 rfl) rfl rfl rfl ?_
      refine X_imul (n := 48) (kX12_restore 27 rfl) rfl ?_
      refine X_iload_n (n := 49) 0 (kX12_restore 28 rfl) rfl rfl rfl ?_
      refine X_iadd (n := 50) (kX12_restore 29 rfl) rfl ?_
      refine X_itebind ?_
      refine X_iald (n := 51) (kt_12_16 hk0) (kX12_restore 30 rfl) rfl (fun h5 => ?_)
      refine X_itebind ?_
      refine X_iast (n := 52) (kt_12_14 hk0) (kX12_restore 31 rfl) rfl (fun h4 => ?_)
      refine X_iinc (n := 55) 0 (v := (i2 + 1)) (L1 := [(2, .int (i2 + 1)), (0, .ref a0), (1, .int i1)]) (kX12_restore 32 rfl) rfl rfl rfl (Nat.le_of_ble_eq_true rfl) rfl ?_
      refine X_goto (tgt := 27) (kX12_restore 33 rfl) rfl ?_
      exact X_L [0, 1, 2] rfl (ih (i2 + 1) (sI S (rf a0 14) i2.toNatClampNeg (S.1 (rf a0 16) (((516 : Int32) * i1) + i2).toNatClampNeg)))
set_option maxHeartbeats 4000000 in
set_option maxRecDepth 100000 in
theorem w_X12_restore_L60 {l : Launch} {g : XG} {G : (XS) → Option (Bool × XS)}  {a0 : Nat} {i1 : Int32} (hk0 : kd a0 = 12) (kE : ∀ (S1 : XS), X φB l g 2 mX12_restore 89 [(0, .ref a0)] [] S1 (G S1)) : ∀ (n : Nat) (i2 : Int32) (S : XS), X φB l g 2 mX12_restore 60 [(2, .int i2), (0, .ref a0), (1, .int i1)] [] S ((f_X12_restore_L60 a0 i1 n i2 S).bind G) := by
  intro n
  induction n with
  | zero => intro i2 S; exact X_none
  | succ n ih =>
  · intro i2 S
    rw [f_X12_restore_L60]
    refine X_iload_n (n := 61) 0 (kX12_restore 36 rfl) rfl rfl rfl ?_
    refine X_bipush (n := 63) (v := 18) (kX12_restore 37 rfl) rfl (by decide) ?_
    refine X_itebind ?_
    refine X_ic_ge (n := 66) (tgt := 89) (kX12_restore 38 rfl) rfl rfl (fun h7 => ?_) (fun h7 => ?_)
    · exact X_L [1] rfl (kE S)
    · refine X_aload_n (n := 67) 1 (kX12_restore 39 rfl) rfl rfl rfl ?_
      refine X_getR (n := 70) xf_X12 hk0 (by decide) fl_X12_28 rfl (kX12_restore 40 rfl) rfl ?_
      refine X_iload_n (n := 71) 0 (kX12_restore 41 rfl) rfl rfl rfl ?_
      refine X_aload_n (n := 72) 1 (kX12_restore 42 rfl) rfl rfl rfl ?_
      refine X_getR (n := 75) xf_X12 hk0 (by decide) fl_X12_35 rfl (kX12_restore 43 rfl) rfl ?_
      refine X_bipush (n := 77) (v := 18) (kX12_restore 44 rfl) rfl (by decide) ?_
      refine X_iload_n (n := 78) 2 (kX12_restore 45 rfl) rfl rfl rfl ?_
      refine X_imul (n := 79) (kX12_restore 46 rfl) rfl ?_
      refine X_iload_n (n := 80) 0 (kX12_restore 47 rfl) rfl rfl rfl ?_
      refine X_iadd (n := 81) (kX12_restore 48 rfl) rfl ?_
      refine X_itebind ?_
      refine X_lald (n := 82) (kt_12_21 hk0) (kX12_restore 49 rfl) rfl (fun h9 => ?_)
      refine X_itebind ?_
      refine X_last (n := 83) (kt_12_19 hk0) (kX12_restore 50 rfl) rfl (fun h8 => ?_)
      refine X_iinc (n := 86) 0 (v := (i2 + 1)) (L1 := [(2, .int (i2 + 1)), (0, .ref a0), (1, .int i1)]) (kX12_restore 51 rfl) rfl rfl rfl (Nat.le_of_ble_eq_true rfl) rfl ?_
      refine X_goto (tgt := 60) (kX12_restore 52 rfl) rfl ?_
      exact X_L [0, 1, 2] rfl (ih (i2 + 1) (sL S (rf a0 19) i2.toNatClampNeg (S.2 (rf a0 21) (((18 : Int32) * i1) + i2).toNatClampNeg)))
set_option maxHeartbeats 4000000 in
set_option maxRecDepth 100000 in
theorem w_X12_restore {l : Launch} {g : XG}  {a0 : Nat} {i1 : Int32} {S : XS} (hk0 : kd a0 = 12) : Cl φB l g 2 mX12_restore [.ref a0, .int i1] S (f_X12_restore a0 i1 S) := by
  refine Cl.of (by decide +kernel) (Nat.le_of_ble_eq_true rfl) ?_
  unfold f_X12_restore
  show X _ _ _ _ _ 0 [(0, .ref a0), (1, .int i1)] [] S _
  refine X_aload_n (n := 1) 0 (kX12_restore 0 rfl) rfl rfl rfl ?_
  refine X_iconst (n := 2) (v := 0) (kX12_restore 1 rfl) rfl (by decide) ?_
  refine X_putI (n := 5) xf_X12 hk0 (by decide) fl_X12_100 rfl rfl (Or.inl rfl) (kX12_restore 2 rfl) rfl ?_
  refine X_iload_n (n := 6) 1 (kX12_restore 3 rfl) rfl rfl rfl ?_
  refine X_iconst (n := 7) (v := 0) (kX12_restore 4 rfl) rfl (by decide) ?_
  refine X_iconst (n := 8) (v := 1) (kX12_restore 5 rfl) rfl (by decide) ?_
  refine X_callS1B (n := 11) (As := [.int i1, .int (0 : Int32), .int (1 : Int32)]) (st := []) (kX12_restore 6 rfl) rfl p_X12_isIn (by decide) ml_X12_169 mf_X12_isIn rfl rfl (Nat.le_of_ble_eq_true rfl) ?_
  refine X_bz (n := 14) (tgt := 23) (kX12_restore 7 rfl) rfl rfl (fun h1 => ?_) (fun h1 => ?_)
  · refine X_aload_n (n := 15) 0 (kX12_restore 8 rfl) rfl rfl rfl ?_
    refine X_getR (n := 18) xf_X12 hk0 (by decide) fl_X12_38 rfl (kX12_restore 9 rfl) rfl ?_
    refine X_iload_n (n := 19) 1 (kX12_restore 10 rfl) rfl rfl rfl ?_
    refine X_zald (n := 20) (kt_12_22 hk0) (kX12_restore 11 rfl) rfl (fun h11 => ?_)
    refine X_if_ne (n := 23) (tgt := 25) (kX12_restore 12 rfl) rfl rfl (fun h2 => ?_) (fun h2 => ?_)
    · refine X_iconst (n := 24) (v := 0) (kX12_restore 13 rfl) rfl (by decide) ?_
      exact X_zret (b := false) rfl (kX12_restore 14 rfl)
    · refine X_iconst (n := 26) (v := 0) (kX12_restore 15 rfl) rfl (by decide) ?_
      refine X_istore_n (n := 27) (L1 := [(2, .int 0), (0, .ref a0), (1, .int i1)]) (kX12_restore 16 rfl) rfl rfl (Nat.le_of_ble_eq_true rfl) rfl ?_
      refine X_L [0, 1, 2] rfl (w_X12_restore_L27 hk0 (fun S6 => ?_) 1000000 (0 : Int32) (sI S a0 0 (0 : Int32)))
      try dsimp only
      refine X_iconst (n := 59) (v := 0) (kX12_restore 34 rfl) rfl (by decide) ?_
      refine X_istore_n (n := 60) (L1 := [(2, .int 0), (0, .ref a0), (1, .int i1)]) (kX12_restore 35 rfl) rfl rfl (Nat.le_of_ble_eq_true rfl) rfl ?_
      refine X_L [0, 1, 2] rfl (w_X12_restore_L60 hk0 (fun S10 => ?_) 1000000 (0 : Int32) S6)
      try dsimp only
      refine X_aload_n (n := 90) 0 (kX12_restore 53 rfl) rfl rfl rfl ?_
      refine X_iconst (n := 91) (v := 0) (kX12_restore 54 rfl) rfl (by decide) ?_
      refine X_putI (n := 94) xf_X12 hk0 (by decide) fl_X12_247 rfl rfl (Or.inl rfl) (kX12_restore 55 rfl) rfl ?_
      refine X_iconst (n := 95) (v := 1) (kX12_restore 56 rfl) rfl (by decide) ?_
      exact X_zret (b := true) rfl (kX12_restore 57 rfl)
  · refine X_iconst (n := 24) (v := 0) (kX12_restore 13 rfl) rfl (by decide) ?_
    exact X_zret (b := false) rfl (kX12_restore 14 rfl)
def f_X12_isWord  (a0 : Nat) (i1 : Int32) (S : XS) : Option (Bool × XS) := (if (S.1 a0 7) = (2 : Int32) then ((f_X12_wordOf i1 S).bind (fun q => match q with | (r2, S3) => (if (lg_cmp (S.2 a0 12) r2) = 0 then some (true, S3) else some (false, S3)))) else some (false, S))
set_option maxHeartbeats 4000000 in
set_option maxRecDepth 100000 in
theorem w_X12_isWord {l : Launch} {g : XG}  {a0 : Nat} {i1 : Int32} {S : XS} (hk0 : kd a0 = 12) : Cl φB l g 3 mX12_isWord [.ref a0, .int i1] S (f_X12_isWord a0 i1 S) := by
  refine Cl.of (by decide +kernel) (Nat.le_of_ble_eq_true rfl) ?_
  unfold f_X12_isWord
  show X _ _ _ _ _ 0 [(0, .ref a0), (1, .int i1)] [] S _
  refine X_aload_n (n := 1) 0 (kX12_isWord 0 rfl) rfl rfl rfl ?_
  refine X_getI (n := 4) xf_X12 hk0 (by decide) fl_X12_122 rfl (kX12_isWord 1 rfl) rfl ?_
  refine X_iconst (n := 5) (v := 2) (kX12_isWord 2 rfl) rfl (by decide) ?_
  refine X_ic_ne (n := 8) (tgt := 24) (kX12_isWord 3 rfl) rfl rfl (fun h1 => ?_) (fun h1 => ?_)
  · refine X_aload_n (n := 9) 0 (kX12_isWord 4 rfl) rfl rfl rfl ?_
    refine X_getJ (n := 12) xf_X12 hk0 (by decide) fl_X12_135 rfl (kX12_isWord 5 rfl) rfl ?_
    refine X_iload_n (n := 13) 1 (kX12_isWord 6 rfl) rfl rfl rfl ?_
    refine X_callSJ (n := 16) (As := [.int i1]) (st := [.long (S.2 a0 12)]) (kX12_isWord 7 rfl) rfl w_X12_wordOf (by decide) ml_X12_156 mf_X12_wordOf rfl rfl (Nat.le_of_ble_eq_true rfl) (fun r2 S3 hq => ?_)
    try dsimp only
    refine X_lcmp (n := 17) (kX12_isWord 8 rfl) rfl ?_
    refine X_if_ne (n := 20) (tgt := 24) (kX12_isWord 9 rfl) rfl rfl (fun h4 => ?_) (fun h4 => ?_)
    · refine X_iconst (n := 21) (v := 1) (kX12_isWord 10 rfl) rfl (by decide) ?_
      refine X_goto (tgt := 25) (kX12_isWord 11 rfl) rfl ?_
      exact X_zret (b := true) rfl (kX12_isWord 13 rfl)
    · refine X_iconst (n := 25) (v := 0) (kX12_isWord 12 rfl) rfl (by decide) ?_
      exact X_zret (b := false) rfl (kX12_isWord 13 rfl)
  · refine X_iconst (n := 25) (v := 0) (kX12_isWord 12 rfl) rfl (by decide) ?_
    exact X_zret (b := false) rfl (kX12_isWord 13 rfl)
def f_X12_isName_L12  (a0 : Nat) : Nat → Int32 → XS → Option ((Bool × XS) ⊕ (XS))
  | 0, _, _ => none
  | n + 1, i1, S => (if (16 : Int32) < i1 then some (.inr S) else ((f_X12_wordOf i1 S).bind (fun q => match q with | (r3, S4) => (if (lg_cmp (S.2 a0 12) r3) = 0 then some (.inl (false, S4)) else f_X12_isName_L12 a0 n (i1 + 1) S4))))
def f_X12_isName  (a0 : Nat) (S : XS) : Option (Bool × XS) := (if (S.1 a0 7) = (2 : Int32) then ((f_X12_isName_L12 a0 1000000 (0 : Int32) S).bind (fun q => match q with | .inl r => some r | .inr S6 => some (true, S6))) else some (false, S))
set_option maxHeartbeats 4000000 in
set_option maxRecDepth 100000 in
theorem w_X12_isName_L12 {l : Launch} {g : XG} {G : ((Bool × XS) ⊕ (XS)) → Option (Bool × XS)}  {a0 : Nat} (hk0 : kd a0 = 12) (kE : ∀ (S1 : XS), X φB l g 3 mX12_isName 38 [] [] S1 (G (.inr S1))) (kR : ∀ r, G (.inl r) = some r) : ∀ (n : Nat) (i1 : Int32) (S : XS), X φB l g 3 mX12_isName 12 [(1, .int i1), (0, .ref a0)] [] S ((f_X12_isName_L12 a0 n i1 S).bind G) := by
  intro n
  induction n with
  | zero => intro i1 S; exact X_none
  | succ n ih =>
  · intro i1 S
    rw [f_X12_isName_L12]
    refine X_iload_n (n := 13) 0 (kX12_isName 8 rfl) rfl rfl rfl ?_
    refine X_bipush (n := 15) (v := 16) (kX12_isName 9 rfl) rfl (by decide) ?_
    refine X_itebind ?_
    refine X_ic_gt (n := 18) (tgt := 38) (kX12_isName 10 rfl) rfl rfl (fun h2 => ?_) (fun h2 => ?_)
    · exact X_L [] rfl (kE S)
    · refine X_aload_n (n := 19) 1 (kX12_isName 11 rfl) rfl rfl rfl ?_
      refine X_getJ (n := 22) xf_X12 hk0 (by decide) fl_X12_135 rfl (kX12_isName 12 rfl) rfl ?_
      refine X_iload_n (n := 23) 0 (kX12_isName 13 rfl) rfl rfl rfl ?_
      refine X_assoc ?_
      refine X_callSJ (n := 26) (As := [.int i1]) (st := [.long (S.2 a0 12)]) (kX12_isName 14 rfl) rfl w_X12_wordOf (by decide) ml_X12_156 mf_X12_wordOf rfl rfl (Nat.le_of_ble_eq_true rfl) (fun r3 S4 hq => ?_)
      try dsimp only
      refine X_lcmp (n := 27) (kX12_isName 15 rfl) rfl ?_
      refine X_itebind ?_
      refine X_if_ne (n := 30) (tgt := 32) (kX12_isName 16 rfl) rfl rfl (fun h5 => ?_) (fun h5 => ?_)
      · refine X_iconst (n := 31) (v := 0) (kX12_isName 17 rfl) rfl (by decide) ?_
        exact X_req (kR _) (X_zret (b := false) rfl (kX12_isName 18 rfl))
      · refine X_iinc (n := 35) 0 (v := (i1 + 1)) (L1 := [(1, .int (i1 + 1)), (0, .ref a0)]) (kX12_isName 19 rfl) rfl rfl rfl (Nat.le_of_ble_eq_true rfl) rfl ?_
        refine X_goto (tgt := 12) (kX12_isName 20 rfl) rfl ?_
        exact X_L [0, 1] rfl (ih (i1 + 1) S4)
set_option maxHeartbeats 4000000 in
set_option maxRecDepth 100000 in
theorem w_X12_isName {l : Launch} {g : XG}  {a0 : Nat} {S : XS} (hk0 : kd a0 = 12) : Cl φB l g 3 mX12_isName [.ref a0] S (f_X12_isName a0 S) := by
  refine Cl.of (by decide +kernel) (Nat.le_of_ble_eq_true rfl) ?_
  unfold f_X12_isName
  show X _ _ _ _ _ 0 [(0, .ref a0)] [] S _
  refine X_aload_n (n := 1) 0 (kX12_isName 0 rfl) rfl rfl rfl ?_
  refine X_getI (n := 4) xf_X12 hk0 (by decide) fl_X12_122 rfl (kX12_isName 1 rfl) rfl ?_
  refine X_iconst (n := 5) (v := 2) (kX12_isName 2 rfl) rfl (by decide) ?_
  refine X_ic_eq (n := 8) (tgt := 10) (kX12_isName 3 rfl) rfl rfl (fun h1 => ?_) (fun h1 => ?_)
  · refine X_iconst (n := 11) (v := 0) (kX12_isName 6 rfl) rfl (by decide) ?_
    refine X_istore_n (n := 12) (L1 := [(1, .int 0), (0, .ref a0)]) (kX12_isName 7 rfl) rfl rfl (Nat.le_of_ble_eq_true rfl) rfl ?_
    refine X_L [0, 1] rfl (w_X12_isName_L12 hk0 (fun S6 => ?_) ?_ 1000000 (0 : Int32) S)
    · refine X_iconst (n := 39) (v := 1) (kX12_isName 21 rfl) rfl (by decide) ?_
      exact X_zret (b := true) rfl (kX12_isName 22 rfl)
    · intro r
      rfl
  · refine X_iconst (n := 9) (v := 0) (kX12_isName 4 rfl) rfl (by decide) ?_
    exact X_zret (b := false) rfl (kX12_isName 5 rfl)
def f_X12_readNumber  (a0 : Nat) (i1 : Int32) (i2 : Int32) (S : XS) : Option (Bool × XS) := ((f_X12_isNumber a0 i1 i2 S).bind (fun q => match q with | (r1, S2) => (if r1 = true then ((f_X12_go a0 S2).bind (fun S4 => some (true, S4))) else some (false, S2))))
set_option maxHeartbeats 4000000 in
set_option maxRecDepth 100000 in
theorem w_X12_readNumber {l : Launch} {g : XG}  {a0 : Nat} {i1 : Int32} {i2 : Int32} {S : XS} (hk0 : kd a0 = 12) : Cl φB l g 3 mX12_readNumber [.ref a0, .int i1, .int i2] S (f_X12_readNumber a0 i1 i2 S) := by
  refine Cl.of (by decide +kernel) (Nat.le_of_ble_eq_true rfl) ?_
  unfold f_X12_readNumber
  show X _ _ _ _ _ 0 [(0, .ref a0), (1, .int i1), (2, .int i2)] [] S _
  refine X_aload_n (n := 1) 0 (kX12_readNumber 0 rfl) rfl rfl rfl ?_
  refine X_iload_n (n := 2) 1 (kX12_readNumber 1 rfl) rfl rfl rfl ?_
  refine X_iload_n (n := 3) 2 (kX12_readNumber 2 rfl) rfl rfl rfl ?_
  refine X_callVB (n := 6) (As := [.int i1, .int i2]) (st := []) (kX12_readNumber 3 rfl) rfl (w_X12_isNumber hk0) (by decide) ml_X12_176 mf_X12_isNumber rfl hk0 xf_X12 rfl (Nat.le_of_ble_eq_true rfl) (fun r1 S2 hq => ?_)
  try dsimp only
  refine X_bn (n := 9) (tgt := 11) (kX12_readNumber 4 rfl) rfl rfl (fun h3 => ?_) (fun h3 => ?_)
  · refine X_aload_n (n := 12) 0 (kX12_readNumber 7 rfl) rfl rfl rfl ?_
    refine X_callVV (n := 15) (As := []) (st := []) (kX12_readNumber 8 rfl) rfl (w_X12_go hk0) (by decide) ml_X12_180 mf_X12_go rfl hk0 xf_X12 rfl (Nat.le_of_ble_eq_true rfl) (fun S4 hq => ?_)
    try dsimp only
    refine X_iconst (n := 16) (v := 1) (kX12_readNumber 9 rfl) rfl (by decide) ?_
    exact X_zret (b := true) rfl (kX12_readNumber 10 rfl)
  · refine X_iconst (n := 10) (v := 0) (kX12_readNumber 5 rfl) rfl (by decide) ?_
    exact X_zret (b := false) rfl (kX12_readNumber 6 rfl)
def f_X12_readEnd  (a0 : Nat) (S : XS) : Option (Bool × XS) := (if (t_X12_isSign a0 (59 : Int32) S) = true then ((f_X12_go a0 S).bind (fun S2 => some (true, S2))) else ((f_X12_bad a0 (1 : Int32) S).bind (fun q => match q with | (r3, S4) => some (r3, S4))))
set_option maxHeartbeats 4000000 in
set_option maxRecDepth 100000 in
theorem w_X12_readEnd {l : Launch} {g : XG}  {a0 : Nat} {S : XS} (hk0 : kd a0 = 12) : Cl φB l g 3 mX12_readEnd [.ref a0] S (f_X12_readEnd a0 S) := by
  refine Cl.of (by decide +kernel) (Nat.le_of_ble_eq_true rfl) ?_
  unfold f_X12_readEnd
  show X _ _ _ _ _ 0 [(0, .ref a0)] [] S _
  refine X_aload_n (n := 1) 0 (kX12_readEnd 0 rfl) rfl rfl rfl ?_
  refine X_bipush (n := 3) (v := 59) (kX12_readEnd 1 rfl) rfl (by decide) ?_
  refine X_callV1B (n := 6) (As := [.int (59 : Int32)]) (st := []) (kX12_readEnd 2 rfl) rfl (p_X12_isSign hk0) (by decide) ml_X12_183 mf_X12_isSign rfl hk0 xf_X12 rfl (Nat.le_of_ble_eq_true rfl) ?_
  refine X_bn (n := 9) (tgt := 15) (kX12_readEnd 3 rfl) rfl rfl (fun h1 => ?_) (fun h1 => ?_)
  · refine X_aload_n (n := 16) 0 (kX12_readEnd 8 rfl) rfl rfl rfl ?_
    refine X_callVV (n := 19) (As := []) (st := []) (kX12_readEnd 9 rfl) rfl (w_X12_go hk0) (by decide) ml_X12_180 mf_X12_go rfl hk0 xf_X12 rfl (Nat.le_of_ble_eq_true rfl) (fun S2 hq => ?_)
    try dsimp only
    refine X_iconst (n := 20) (v := 1) (kX12_readEnd 10 rfl) rfl (by decide) ?_
    exact X_zret (b := true) rfl (kX12_readEnd 11 rfl)
  · refine X_aload_n (n := 10) 0 (kX12_readEnd 4 rfl) rfl rfl rfl ?_
    refine X_iconst (n := 11) (v := 1) (kX12_readEnd 5 rfl) rfl (by decide) ?_
    refine X_callVB (n := 14) (As := [.int (1 : Int32)]) (st := []) (kX12_readEnd 6 rfl) rfl (w_X12_bad hk0) (by decide) ml_X12_166 mf_X12_bad rfl hk0 xf_X12 rfl (Nat.le_of_ble_eq_true rfl) (fun r3 S4 hq => ?_)
    try dsimp only
    exact X_zret (b := r3) rfl (kX12_readEnd 7 rfl)
def f_X12_begin  (a0 : Nat) (i1 : Int32) (S : XS) : Option (XS) := ((f_X12_go a0 (sI (sI (sI (sI ((t_X12_take a0 (sI S a0 0 (0 : Int32))).2) a0 3 ((t_X12_take a0 (sI S a0 0 (0 : Int32))).1)) a0 4 i1) a0 10 (0 : Int32)) a0 5 (0 : Int32))).bind (fun S1 => some S1))
set_option maxHeartbeats 4000000 in
set_option maxRecDepth 100000 in
theorem w_X12_begin {l : Launch} {g : XG}  {a0 : Nat} {i1 : Int32} {S : XS} (hk0 : kd a0 = 12) : Cl φV l g 3 mX12_begin [.ref a0, .int i1] S (f_X12_begin a0 i1 S) := by
  refine Cl.of (by decide +kernel) (Nat.le_of_ble_eq_true rfl) ?_
  unfold f_X12_begin
  show X _ _ _ _ _ 0 [(0, .ref a0), (1, .int i1)] [] S _
  refine X_aload_n (n := 1) 0 (kX12_begin 0 rfl) rfl rfl rfl ?_
  refine X_iconst (n := 2) (v := 0) (kX12_begin 1 rfl) rfl (by decide) ?_
  refine X_putI (n := 5) xf_X12 hk0 (by decide) fl_X12_100 rfl rfl (Or.inl rfl) (kX12_begin 2 rfl) rfl ?_
  refine X_aload_n (n := 6) 0 (kX12_begin 3 rfl) rfl rfl rfl ?_
  refine X_aload_n (n := 7) 0 (kX12_begin 4 rfl) rfl rfl rfl ?_
  refine X_callV1I (n := 10) (As := []) (st := [.ref a0]) (kX12_begin 5 rfl) rfl (p_X12_take hk0) (by decide) ml_X12_186 mf_X12_take rfl hk0 xf_X12 rfl (Nat.le_of_ble_eq_true rfl) ?_
  refine X_putI (n := 13) xf_X12 hk0 (by decide) fl_X12_110 rfl rfl (Or.inl rfl) (kX12_begin 6 rfl) rfl ?_
  refine X_aload_n (n := 14) 0 (kX12_begin 7 rfl) rfl rfl rfl ?_
  refine X_iload_n (n := 15) 1 (kX12_begin 8 rfl) rfl rfl rfl ?_
  refine X_putI (n := 18) xf_X12 hk0 (by decide) fl_X12_119 rfl rfl (Or.inl rfl) (kX12_begin 9 rfl) rfl ?_
  refine X_aload_n (n := 19) 0 (kX12_begin 10 rfl) rfl rfl rfl ?_
  refine X_iconst (n := 20) (v := 0) (kX12_begin 11 rfl) rfl (by decide) ?_
  refine X_putI (n := 23) xf_X12 hk0 (by decide) fl_X12_160 rfl rfl (Or.inl rfl) (kX12_begin 12 rfl) rfl ?_
  refine X_aload_n (n := 24) 0 (kX12_begin 13 rfl) rfl rfl rfl ?_
  refine X_iconst (n := 25) (v := 0) (kX12_begin 14 rfl) rfl (by decide) ?_
  refine X_putI (n := 28) xf_X12 hk0 (by decide) fl_X12_113 rfl rfl (Or.inl rfl) (kX12_begin 15 rfl) rfl ?_
  refine X_aload_n (n := 29) 0 (kX12_begin 16 rfl) rfl rfl rfl ?_
  refine X_callVV (n := 32) (As := []) (st := []) (kX12_begin 17 rfl) rfl (w_X12_go hk0) (by decide) ml_X12_180 mf_X12_go rfl hk0 xf_X12 rfl (Nat.le_of_ble_eq_true rfl) (fun S1 hq => ?_)
  try dsimp only
  exact X_vret rfl (kX12_begin 18 rfl)
def f_X12_readRain_L37  (i1 : Int32) (a0 : Nat) : Nat → Int32 → XS → Option ((Bool × XS) ⊕ (XS))
  | 0, _, _ => none
  | n + 1, i2, S => (if i1 ≤ i2 then some (.inr S) else (if ((138 : Int32) + i2) < 0 ∨ ln (rf a0 15) ≤ ((138 : Int32) + i2).toNatClampNeg then none else (if (S.1 (rf a0 15) ((138 : Int32) + i2).toNatClampNeg) = (S.1 a0 13) then ((f_X12_bad a0 (3 : Int32) S).bind (fun q => match q with | (r10, S11) => some (.inl (r10, S11)))) else f_X12_readRain_L37 i1 a0 n (i2 + 1) S)))
def f_X12_readRain  (a0 : Nat) (S : XS) : Option (Bool × XS) := (if (S.1 (rf a0 15) 5) = (6 : Int32) then ((f_X12_bad a0 (4 : Int32) S).bind (fun q => match q with | (r2, S3) => some (r2, S3))) else ((f_X12_go a0 S).bind (fun S4 => ((f_X12_isNumber a0 (1 : Int32) (60 : Int32) S4).bind (fun q => match q with | (r5, S6) => (if r5 = true then ((f_X12_readRain_L37 (S.1 (rf a0 15) 5) a0 1000000 (0 : Int32) S6).bind (fun q => match q with | .inl r => some r | .inr S13 => (if ((138 : Int32) + (S.1 (rf a0 15) 5)) < 0 ∨ ln (rf a0 15) ≤ ((138 : Int32) + (S.1 (rf a0 15) 5)).toNatClampNeg then none else ((f_X12_go a0 (sI (sI S13 (rf a0 15) (((138 : Int32) + (S.1 (rf a0 15) 5)).toNatClampNeg) (S13.1 a0 13)) (rf a0 15) 5 (((sI S13 (rf a0 15) (((138 : Int32) + (S.1 (rf a0 15) 5)).toNatClampNeg) (S13.1 a0 13)).1 (rf a0 15) 5) + (1 : Int32)))).bind (fun S14 => some (true, S14)))))) else some (false, S6)))))))
set_option maxHeartbeats 4000000 in
set_option maxRecDepth 100000 in
theorem w_X12_readRain_L37 {l : Launch} {g : XG} {G : ((Bool × XS) ⊕ (XS)) → Option (Bool × XS)}  {i1 : Int32} {a0 : Nat} (hk0 : kd a0 = 12) (kE : ∀ (S1 : XS), X φB l g 3 mX12_readRain 71 [(1, .int i1), (0, .ref a0)] [] S1 (G (.inr S1))) (kR : ∀ r, G (.inl r) = some r) : ∀ (n : Nat) (i2 : Int32) (S : XS), X φB l g 3 mX12_readRain 37 [(2, .int i2), (1, .int i1), (0, .ref a0)] [] S ((f_X12_readRain_L37 i1 a0 n i2 S).bind G) := by
  intro n
  induction n with
  | zero => intro i2 S; exact X_none
  | succ n ih =>
  · intro i2 S
    rw [f_X12_readRain_L37]
    refine X_iload_n (n := 38) 0 (kX12_readRain 23 rfl) rfl rfl rfl ?_
    refine X_iload_n (n := 39) 1 (kX12_readRain 24 rfl) rfl rfl rfl ?_
    refine X_itebind ?_
    refine X_ic_ge (n := 42) (tgt := 71) (kX12_readRain 25 rfl) rfl rfl (fun h8 => ?_) (fun h8 => ?_)
    · exact X_L [1, 2] rfl (kE S)
    · refine X_aload_n (n := 43) 2 (kX12_readRain 26 rfl) rfl rfl rfl ?_
      refine X_getR (n := 46) xf_X12 hk0 (by decide) fl_X12_16 rfl (kX12_readRain 27 rfl) rfl ?_
      refine X_sipush (n := 49) (v := 138) (kX12_readRain 28 rfl) rfl (by decide) ?_
      refine X_iload_n (n := 50) 0 (kX12_readRain 29 rfl) rfl rfl rfl ?_
      refine X_iadd (n := 51) (kX12_readRain 30 rfl) rfl ?_
      refine X_itebind ?_
      refine X_iald (n := 52) (kt_12_15 hk0) (kX12_readRain 31 rfl) rfl (fun h12 => ?_)
      refine X_aload_n (n := 53) 2 (kX12_readRain 32 rfl) rfl rfl rfl ?_
      refine X_getI (n := 56) xf_X12 hk0 (by decide) fl_X12_173 rfl (kX12_readRain 33 rfl) rfl ?_
      refine X_itebind ?_
      refine X_ic_ne (n := 59) (tgt := 65) (kX12_readRain 34 rfl) rfl rfl (fun h9 => ?_) (fun h9 => ?_)
      · refine X_aload_n (n := 60) 2 (kX12_readRain 35 rfl) rfl rfl rfl ?_
        refine X_iconst (n := 61) (v := 3) (kX12_readRain 36 rfl) rfl (by decide) ?_
        refine X_assoc ?_
        refine X_callVB (n := 64) (As := [.int (3 : Int32)]) (st := []) (kX12_readRain 37 rfl) rfl (w_X12_bad hk0) (by decide) ml_X12_166 mf_X12_bad rfl hk0 xf_X12 rfl (Nat.le_of_ble_eq_true rfl) (fun r10 S11 hq => ?_)
        try dsimp only
        exact X_req (kR _) (X_zret (b := r10) rfl (kX12_readRain 38 rfl))
      · refine X_iinc (n := 68) 0 (v := (i2 + 1)) (L1 := [(2, .int (i2 + 1)), (1, .int i1), (0, .ref a0)]) (kX12_readRain 39 rfl) rfl rfl rfl (Nat.le_of_ble_eq_true rfl) rfl ?_
        refine X_goto (tgt := 37) (kX12_readRain 40 rfl) rfl ?_
        exact X_L [0, 1, 2] rfl (ih (i2 + 1) S)
set_option maxHeartbeats 4000000 in
set_option maxRecDepth 100000 in
theorem w_X12_readRain {l : Launch} {g : XG}  {a0 : Nat} {S : XS} (hk0 : kd a0 = 12) : Cl φB l g 3 mX12_readRain [.ref a0] S (f_X12_readRain a0 S) := by
  refine Cl.of (by decide +kernel) (Nat.le_of_ble_eq_true rfl) ?_
  unfold f_X12_readRain
  show X _ _ _ _ _ 0 [(0, .ref a0)] [] S _
  refine X_aload_n (n := 1) 0 (kX12_readRain 0 rfl) rfl rfl rfl ?_
  refine X_getR (n := 4) xf_X12 hk0 (by decide) fl_X12_16 rfl (kX12_readRain 1 rfl) rfl ?_
  refine X_iconst (n := 5) (v := 5) (kX12_readRain 2 rfl) rfl (by decide) ?_
  refine X_iald' (n := 6) (kt_12_15 hk0) (kX12_readRain 3 rfl) rfl (by rw [lt_12_15 hk0]; decide) ?_
  refine X_istore_n (n := 7) (L1 := [(1, .int (S.1 (rf a0 15) 5)), (0, .ref a0)]) (kX12_readRain 4 rfl) rfl rfl (Nat.le_of_ble_eq_true rfl) rfl ?_
  refine X_iload_n (n := 8) 0 (kX12_readRain 5 rfl) rfl rfl rfl ?_
  refine X_bipush (n := 10) (v := 6) (kX12_readRain 6 rfl) rfl (by decide) ?_
  refine X_ic_ne (n := 13) (tgt := 19) (kX12_readRain 7 rfl) rfl rfl (fun h1 => ?_) (fun h1 => ?_)
  · refine X_aload_n (n := 14) 1 (kX12_readRain 8 rfl) rfl rfl rfl ?_
    refine X_iconst (n := 15) (v := 4) (kX12_readRain 9 rfl) rfl (by decide) ?_
    refine X_callVB (n := 18) (As := [.int (4 : Int32)]) (st := []) (kX12_readRain 10 rfl) rfl (w_X12_bad hk0) (by decide) ml_X12_166 mf_X12_bad rfl hk0 xf_X12 rfl (Nat.le_of_ble_eq_true rfl) (fun r2 S3 hq => ?_)
    try dsimp only
    exact X_zret (b := r2) rfl (kX12_readRain 11 rfl)
  · refine X_aload_n (n := 20) 1 (kX12_readRain 12 rfl) rfl rfl rfl ?_
    refine X_callVV (n := 23) (As := []) (st := []) (kX12_readRain 13 rfl) rfl (w_X12_go hk0) (by decide) ml_X12_180 mf_X12_go rfl hk0 xf_X12 rfl (Nat.le_of_ble_eq_true rfl) (fun S4 hq => ?_)
    try dsimp only
    refine X_aload_n (n := 24) 1 (kX12_readRain 14 rfl) rfl rfl rfl ?_
    refine X_iconst (n := 25) (v := 1) (kX12_readRain 15 rfl) rfl (by decide) ?_
    refine X_bipush (n := 27) (v := 60) (kX12_readRain 16 rfl) rfl (by decide) ?_
    refine X_callVB (n := 30) (As := [.int (1 : Int32), .int (60 : Int32)]) (st := []) (kX12_readRain 17 rfl) rfl (w_X12_isNumber hk0) (by decide) ml_X12_176 mf_X12_isNumber rfl hk0 xf_X12 rfl (Nat.le_of_ble_eq_true rfl) (fun r5 S6 hq => ?_)
    try dsimp only
    refine X_bn (n := 33) (tgt := 35) (kX12_readRain 18 rfl) rfl rfl (fun h7 => ?_) (fun h7 => ?_)
    · refine X_iconst (n := 36) (v := 0) (kX12_readRain 21 rfl) rfl (by decide) ?_
      refine X_istore_n (n := 37) (L1 := [(2, .int 0), (1, .int (S.1 (rf a0 15) 5)), (0, .ref a0)]) (kX12_readRain 22 rfl) rfl rfl (Nat.le_of_ble_eq_true rfl) rfl ?_
      refine X_L [0, 1, 2] rfl (w_X12_readRain_L37 hk0 (fun S13 => ?_) ?_ 1000000 (0 : Int32) S6)
      · refine X_aload_n (n := 72) 1 (kX12_readRain 41 rfl) rfl rfl rfl ?_
        refine X_getR (n := 75) xf_X12 hk0 (by decide) fl_X12_16 rfl (kX12_readRain 42 rfl) rfl ?_
        refine X_sipush (n := 78) (v := 138) (kX12_readRain 43 rfl) rfl (by decide) ?_
        refine X_iload_n (n := 79) 0 (kX12_readRain 44 rfl) rfl rfl rfl ?_
        refine X_iadd (n := 80) (kX12_readRain 45 rfl) rfl ?_
        refine X_aload_n (n := 81) 1 (kX12_readRain 46 rfl) rfl rfl rfl ?_
        refine X_getI (n := 84) xf_X12 hk0 (by decide) fl_X12_173 rfl (kX12_readRain 47 rfl) rfl ?_
        refine X_iast (n := 85) (kt_12_15 hk0) (kX12_readRain 48 rfl) rfl (fun h15 => ?_)
        refine X_aload_n (n := 86) 1 (kX12_readRain 49 rfl) rfl rfl rfl ?_
        refine X_getR (n := 89) xf_X12 hk0 (by decide) fl_X12_16 rfl (kX12_readRain 50 rfl) rfl ?_
        refine X_iconst (n := 90) (v := 5) (kX12_readRain 51 rfl) rfl (by decide) ?_
        refine X_dup2 (n := 91) (kX12_readRain 52 rfl) rfl rfl rfl ?_
        refine X_iald' (n := 92) (kt_12_15 hk0) (kX12_readRain 53 rfl) rfl (by rw [lt_12_15 hk0]; decide) ?_
        refine X_iconst (n := 93) (v := 1) (kX12_readRain 54 rfl) rfl (by decide) ?_
        refine X_iadd (n := 94) (kX12_readRain 55 rfl) rfl ?_
        refine X_iast' (n := 95) (kt_12_15 hk0) (kX12_readRain 56 rfl) rfl (by rw [lt_12_15 hk0]; decide) ?_
        refine X_aload_n (n := 96) 1 (kX12_readRain 57 rfl) rfl rfl rfl ?_
        refine X_callVV (n := 99) (As := []) (st := []) (kX12_readRain 58 rfl) rfl (w_X12_go hk0) (by decide) ml_X12_180 mf_X12_go rfl hk0 xf_X12 rfl (Nat.le_of_ble_eq_true rfl) (fun S14 hq => ?_)
        try dsimp only
        refine X_iconst (n := 100) (v := 1) (kX12_readRain 59 rfl) rfl (by decide) ?_
        exact X_zret (b := true) rfl (kX12_readRain 60 rfl)
      · intro r
        rfl
    · refine X_iconst (n := 34) (v := 0) (kX12_readRain 19 rfl) rfl (by decide) ?_
      exact X_zret (b := false) rfl (kX12_readRain 20 rfl)
def f_X12_pass_L14  (a0 : Nat) (b1 : Bool) : Nat → Int32 → XS → Option (XS)
  | 0, _, _ => none
  | n + 1, i2, S => (if (S.1 (rf a0 14) 4) ≤ i2 then some S else (if (((78 : Int32) + ((3 : Int32) * i2)) + (1 : Int32)) < 0 ∨ ln (rf a0 14) ≤ (((78 : Int32) + ((3 : Int32) * i2)) + (1 : Int32)).toNatClampNeg then none else (if (S.1 (rf a0 14) (((78 : Int32) + ((3 : Int32) * i2)) + (1 : Int32)).toNatClampNeg) = (S.1 (rf a0 14) 144) then (if ((78 : Int32) + ((3 : Int32) * i2)) < 0 ∨ ln (rf a0 14) ≤ ((78 : Int32) + ((3 : Int32) * i2)).toNatClampNeg then none else (if (((78 : Int32) + ((3 : Int32) * i2)) + (2 : Int32)) < 0 ∨ ln (rf a0 14) ≤ (((78 : Int32) + ((3 : Int32) * i2)) + (2 : Int32)).toNatClampNeg then none else (if ((145 : Int32) + (S.1 (rf a0 14) ((78 : Int32) + ((3 : Int32) * i2)).toNatClampNeg)) < 0 ∨ ln (rf a0 14) ≤ ((145 : Int32) + (S.1 (rf a0 14) ((78 : Int32) + ((3 : Int32) * i2)).toNatClampNeg)).toNatClampNeg then none else f_X12_pass_L14 a0 b1 n (i2 + 1) (sI S (rf a0 14) (((145 : Int32) + (S.1 (rf a0 14) ((78 : Int32) + ((3 : Int32) * i2)).toNatClampNeg)).toNatClampNeg) (S.1 (rf a0 14) (((78 : Int32) + ((3 : Int32) * i2)) + (2 : Int32)).toNatClampNeg))))) else f_X12_pass_L14 a0 b1 n (i2 + 1) S)))
def f_X12_pass_L165  (i4 : Int32) (i3 : Int32) (i2 : Int32) (a0 : Nat) : Nat → Int32 → XS → Option (XS)
  | 0, _, _ => none
  | n + 1, i5, S => (if (S.1 (rf a0 14) 0) ≤ i5 then some S else ((f_X12_onCoat a0 i3 i5 S).bind (fun q => match q with | (r15, S16) => ((f_X12_airOf a0 i4 i5 S16).bind (fun q => match q with | (r17, S18) => (if (((157 : Int32) + ((6 : Int32) * i3)) + i5) < 0 ∨ ln (rf a0 14) ≤ (((157 : Int32) + ((6 : Int32) * i3)) + i5).toNatClampNeg then none else f_X12_pass_L165 i4 i3 i2 a0 n (i5 + 1) (sI S18 (rf a0 14) ((((157 : Int32) + ((6 : Int32) * i3)) + i5).toNatClampNeg) (t_X12_least (99 : Int32) (r15 + r17)))))))))
def f_X12_pass_L114  (i2 : Int32) (a0 : Nat) : Nat → Int32 → XS → Option (XS)
  | 0, _, _ => none
  | n + 1, i3, S => (if (S.1 (rf a0 14) 3) ≤ i3 then some S else (if ((66 : Int32) + i3) < 0 ∨ ln (rf a0 14) ≤ ((66 : Int32) + i3).toNatClampNeg then none else ((f_X12_fadeAt a0 ((157 : Int32) + ((6 : Int32) * i3)) (S.1 (rf a0 14) ((66 : Int32) + i3).toNatClampNeg) i2 S).bind (fun S11 => ((f_X12_wearerOf a0 i3 S11).bind (fun q => match q with | (r12, S13) => (if ((145 : Int32) + r12) < 0 ∨ ln (rf a0 14) ≤ ((145 : Int32) + r12).toNatClampNeg then none else ((f_X12_pass_L165 (S13.1 (rf a0 14) ((145 : Int32) + r12).toNatClampNeg) i3 i2 a0 1000000 (0 : Int32) S13).bind (fun S20 => f_X12_pass_L114 i2 a0 n (i3 + 1) S20)))))))))
def f_X12_pass_L227  (a0 : Nat) : Nat → Int32 → XS → Option (XS)
  | 0, _, _ => none
  | n + 1, i3, S => (if (S.1 (rf a0 14) 193) ≤ i3 then some S else ((f_X12_ofCloth a0 i3 (3 : Int32) S).bind (fun q => match q with | (r25, S26) => ((f_X12_fadeAt a0 (((194 : Int32) + ((10 : Int32) * i3)) + (4 : Int32)) r25 (0 : Int32) S26).bind (fun S27 => f_X12_pass_L227 a0 n (i3 + 1) S27)))))
def f_X12_pass_L276  (i3 : Int32) (a0 : Nat) : Nat → Int32 → XS → Option (XS)
  | 0, _, _ => none
  | n + 1, i4, S => (if (S.1 (rf a0 14) 0) ≤ i4 then some S else ((f_X12_mixBox a0 i3 i4 S).bind (fun S31 => f_X12_pass_L276 i3 a0 n (i4 + 1) S31)))
def f_X12_pass_L268  (a0 : Nat) : Nat → Int32 → XS → Option (XS)
  | 0, _, _ => none
  | n + 1, i3, S => (if (3 : Int32) ≤ i3 then some S else ((f_X12_pass_L276 i3 a0 1000000 (0 : Int32) S).bind (fun S32 => f_X12_pass_L268 a0 n (i3 + 1) S32)))
def f_X12_pass  (a0 : Nat) (b1 : Bool) (S : XS) : Option (XS) := ((f_X12_pass_L14 a0 b1 1000000 (0 : Int32) (sI S (rf a0 14) 144 ((S.1 (rf a0 14) 144) + (1 : Int32)))).bind (fun S7 => ((if b1 = true then some ((2 : Int32), S7) else ((f_X12_isRain a0 (S7.1 (rf a0 14) 144) S7).bind (fun q => match q with | (r35, S36) => (if r35 = true then some ((2 : Int32), S36) else some ((0 : Int32), S36))))).bind (fun q => match q with | (x8, S9) => ((f_X12_pass_L114 x8 a0 1000000 (0 : Int32) S9).bind (fun S23 => ((f_X12_pass_L227 a0 1000000 (0 : Int32) S23).bind (fun S28 => ((f_X12_pass_L268 a0 1000000 (0 : Int32) S28).bind (fun S33 => some S33))))))))))
set_option maxHeartbeats 4000000 in
set_option maxRecDepth 100000 in
theorem w_X12_pass_L14 {l : Launch} {g : XG} {G : (XS) → Option (XS)}  {a0 : Nat} {b1 : Bool} (hk0 : kd a0 = 12) (kE : ∀ (S1 : XS), X φV l g 3 mX12_pass 87 [(0, .ref a0), (1, .int (bi b1))] [] S1 (G S1)) : ∀ (n : Nat) (i2 : Int32) (S : XS), X φV l g 3 mX12_pass 14 [(2, .int i2), (0, .ref a0), (1, .int (bi b1))] [] S ((f_X12_pass_L14 a0 b1 n i2 S).bind G) := by
  intro n
  induction n with
  | zero => intro i2 S; exact X_none
  | succ n ih =>
  · intro i2 S
    rw [f_X12_pass_L14]
    refine X_iload_n (n := 15) 0 (kX12_pass 10 rfl) rfl rfl rfl ?_
    refine X_aload_n (n := 16) 1 (kX12_pass 11 rfl) rfl rfl rfl ?_
    refine X_getR (n := 19) xf_X12 hk0 (by decide) fl_X12_13 rfl (kX12_pass 12 rfl) rfl ?_
    refine X_iconst (n := 20) (v := 4) (kX12_pass 13 rfl) rfl (by decide) ?_
    refine X_iald' (n := 21) (kt_12_14 hk0) (kX12_pass 14 rfl) rfl (by rw [lt_12_14 hk0]; decide) ?_
    refine X_itebind ?_
    refine X_ic_ge (n := 24) (tgt := 87) (kX12_pass 15 rfl) rfl rfl (fun h1 => ?_) (fun h1 => ?_)
    · exact X_L [1, 2] rfl (kE S)
    · refine X_aload_n (n := 25) 1 (kX12_pass 16 rfl) rfl rfl rfl ?_
      refine X_getR (n := 28) xf_X12 hk0 (by decide) fl_X12_13 rfl (kX12_pass 17 rfl) rfl ?_
      refine X_bipush (n := 30) (v := 78) (kX12_pass 18 rfl) rfl (by decide) ?_
      refine X_iconst (n := 31) (v := 3) (kX12_pass 19 rfl) rfl (by decide) ?_
      refine X_iload_n (n := 32) 0 (kX12_pass 20 rfl) rfl rfl rfl ?_
      refine X_imul (n := 33) (kX12_pass 21 rfl) rfl ?_
      refine X_iadd (n := 34) (kX12_pass 22 rfl) rfl ?_
      refine X_iconst (n := 35) (v := 1) (kX12_pass 23 rfl) rfl (by decide) ?_
      refine X_iadd (n := 36) (kX12_pass 24 rfl) rfl ?_
      refine X_itebind ?_
      refine X_iald (n := 37) (kt_12_14 hk0) (kX12_pass 25 rfl) rfl (fun h6 => ?_)
      refine X_aload_n (n := 38) 1 (kX12_pass 26 rfl) rfl rfl rfl ?_
      refine X_getR (n := 41) xf_X12 hk0 (by decide) fl_X12_13 rfl (kX12_pass 27 rfl) rfl ?_
      refine X_sipush (n := 44) (v := 144) (kX12_pass 28 rfl) rfl (by decide) ?_
      refine X_iald' (n := 45) (kt_12_14 hk0) (kX12_pass 29 rfl) rfl (by rw [lt_12_14 hk0]; decide) ?_
      refine X_itebind ?_
      refine X_ic_ne (n := 48) (tgt := 81) (kX12_pass 30 rfl) rfl rfl (fun h2 => ?_) (fun h2 => ?_)
      · refine X_aload_n (n := 49) 1 (kX12_pass 31 rfl) rfl rfl rfl ?_
        refine X_getR (n := 52) xf_X12 hk0 (by decide) fl_X12_13 rfl (kX12_pass 32 rfl) rfl ?_
        refine X_sipush (n := 55) (v := 145) (kX12_pass 33 rfl) rfl (by decide) ?_
        refine X_aload_n (n := 56) 1 (kX12_pass 34 rfl) rfl rfl rfl ?_
        refine X_getR (n := 59) xf_X12 hk0 (by decide) fl_X12_13 rfl (kX12_pass 35 rfl) rfl ?_
        refine X_bipush (n := 61) (v := 78) (kX12_pass 36 rfl) rfl (by decide) ?_
        refine X_iconst (n := 62) (v := 3) (kX12_pass 37 rfl) rfl (by decide) ?_
        refine X_iload_n (n := 63) 0 (kX12_pass 38 rfl) rfl rfl rfl ?_
        refine X_imul (n := 64) (kX12_pass 39 rfl) rfl ?_
        refine X_iadd (n := 65) (kX12_pass 40 rfl) rfl ?_
        refine X_itebind ?_
        refine X_iald (n := 66) (kt_12_14 hk0) (kX12_pass 41 rfl) rfl (fun h5 => ?_)
        refine X_iadd (n := 67) (kX12_pass 42 rfl) rfl ?_
        refine X_aload_n (n := 68) 1 (kX12_pass 43 rfl) rfl rfl rfl ?_
        refine X_getR (n := 71) xf_X12 hk0 (by decide) fl_X12_13 rfl (kX12_pass 44 rfl) rfl ?_
        refine X_bipush (n := 73) (v := 78) (kX12_pass 45 rfl) rfl (by decide) ?_
        refine X_iconst (n := 74) (v := 3) (kX12_pass 46 rfl) rfl (by decide) ?_
        refine X_iload_n (n := 75) 0 (kX12_pass 47 rfl) rfl rfl rfl ?_
        refine X_imul (n := 76) (kX12_pass 48 rfl) rfl ?_
        refine X_iadd (n := 77) (kX12_pass 49 rfl) rfl ?_
        refine X_iconst (n := 78) (v := 2) (kX12_pass 50 rfl) rfl (by decide) ?_
        refine X_iadd (n := 79) (kX12_pass 51 rfl) rfl ?_
        refine X_itebind ?_
        refine X_iald (n := 80) (kt_12_14 hk0) (kX12_pass 52 rfl) rfl (fun h4 => ?_)
        refine X_itebind ?_
        refine X_iast (n := 81) (kt_12_14 hk0) (kX12_pass 53 rfl) rfl (fun h3 => ?_)
        refine X_iinc (n := 84) 0 (v := (i2 + 1)) (L1 := [(2, .int (i2 + 1)), (0, .ref a0), (1, .int (bi b1))]) (kX12_pass 54 rfl) rfl rfl rfl (Nat.le_of_ble_eq_true rfl) rfl ?_
        refine X_goto (tgt := 14) (kX12_pass 55 rfl) rfl ?_
        exact X_L [0, 1, 2] rfl (ih (i2 + 1) (sI S (rf a0 14) (((145 : Int32) + (S.1 (rf a0 14) ((78 : Int32) + ((3 : Int32) * i2)).toNatClampNeg)).toNatClampNeg) (S.1 (rf a0 14) (((78 : Int32) + ((3 : Int32) * i2)) + (2 : Int32)).toNatClampNeg)))
      · refine X_iinc (n := 84) 0 (v := (i2 + 1)) (L1 := [(2, .int (i2 + 1)), (0, .ref a0), (1, .int (bi b1))]) (kX12_pass 54 rfl) rfl rfl rfl (Nat.le_of_ble_eq_true rfl) rfl ?_
        refine X_goto (tgt := 14) (kX12_pass 55 rfl) rfl ?_
        exact X_L [0, 1, 2] rfl (ih (i2 + 1) S)
set_option maxHeartbeats 4000000 in
set_option maxRecDepth 100000 in
theorem w_X12_pass_L165 {l : Launch} {g : XG} {G : (XS) → Option (XS)}  {i4 : Int32} {i3 : Int32} {i2 : Int32} {a0 : Nat} (hk0 : kd a0 = 12) (kE : ∀ (S1 : XS), X φV l g 3 mX12_pass 219 [(3, .int i3), (2, .int i2), (0, .ref a0)] [] S1 (G S1)) : ∀ (n : Nat) (i5 : Int32) (S : XS), X φV l g 3 mX12_pass 165 [(5, .int i5), (4, .int i4), (3, .int i3), (2, .int i2), (0, .ref a0)] [] S ((f_X12_pass_L165 i4 i3 i2 a0 n i5 S).bind G) := by
  intro n
  induction n with
  | zero => intro i5 S; exact X_none
  | succ n ih =>
  · intro i5 S
    rw [f_X12_pass_L165]
    refine X_iload (n := 167) 0 (kX12_pass_1 2 rfl) rfl rfl ?_
    refine X_aload_n (n := 168) 4 (kX12_pass_1 3 rfl) rfl rfl rfl ?_
    refine X_getR (n := 171) xf_X12 hk0 (by decide) fl_X12_13 rfl (kX12_pass_1 4 rfl) rfl ?_
    refine X_iconst (n := 172) (v := 0) (kX12_pass_1 5 rfl) rfl (by decide) ?_
    refine X_iald' (n := 173) (kt_12_14 hk0) (kX12_pass_1 6 rfl) rfl (by rw [lt_12_14 hk0]; decide) ?_
    refine X_itebind ?_
    refine X_ic_ge (n := 176) (tgt := 219) (kX12_pass_1 7 rfl) rfl rfl (fun h14 => ?_) (fun h14 => ?_)
    · exact X_L [2, 3, 4] rfl (kE S)
    · refine X_aload_n (n := 177) 4 (kX12_pass_1 8 rfl) rfl rfl rfl ?_
      refine X_getR (n := 180) xf_X12 hk0 (by decide) fl_X12_13 rfl (kX12_pass_1 9 rfl) rfl ?_
      refine X_sipush (n := 183) (v := 157) (kX12_pass_1 10 rfl) rfl (by decide) ?_
      refine X_bipush (n := 185) (v := 6) (kX12_pass_1 11 rfl) rfl (by decide) ?_
      refine X_iload_n (n := 186) 2 (kX12_pass_1 12 rfl) rfl rfl rfl ?_
      refine X_imul (n := 187) (kX12_pass_1 13 rfl) rfl ?_
      refine X_iadd (n := 188) (kX12_pass_1 14 rfl) rfl ?_
      refine X_iload (n := 190) 0 (kX12_pass_1 15 rfl) rfl rfl ?_
      refine X_iadd (n := 191) (kX12_pass_1 16 rfl) rfl ?_
      refine X_bipush (n := 193) (v := 99) (kX12_pass_1 17 rfl) rfl (by decide) ?_
      refine X_aload_n (n := 194) 4 (kX12_pass_1 18 rfl) rfl rfl rfl ?_
      refine X_iload_n (n := 195) 2 (kX12_pass_1 19 rfl) rfl rfl rfl ?_
      refine X_iload (n := 197) 0 (kX12_pass_1 20 rfl) rfl rfl ?_
      refine X_assoc ?_
      refine X_callVI (n := 200) (As := [.int i3, .int i5]) (st := [.int 99, .int (((157 : Int32) + ((6 : Int32) * i3)) + i5), .ref (rf a0 14)]) (kX12_pass_1 21 rfl) rfl (w_X12_onCoat hk0) (by decide) ml_X12_275 mf_X12_onCoat rfl hk0 xf_X12 rfl (Nat.le_of_ble_eq_true rfl) (fun r15 S16 hq => ?_)
      try dsimp only
      refine X_aload_n (n := 201) 4 (kX12_pass_1 22 rfl) rfl rfl rfl ?_
      refine X_iload (n := 203) 1 (kX12_pass_1 23 rfl) rfl rfl ?_
      refine X_iload (n := 205) 0 (kX12_pass_1 24 rfl) rfl rfl ?_
      refine X_assoc ?_
      refine X_callVI (n := 208) (As := [.int i4, .int i5]) (st := [.int r15, .int 99, .int (((157 : Int32) + ((6 : Int32) * i3)) + i5), .ref (rf a0 14)]) (kX12_pass_1 25 rfl) rfl (w_X12_airOf hk0) (by decide) ml_X12_259 mf_X12_airOf rfl hk0 xf_X12 rfl (Nat.le_of_ble_eq_true rfl) (fun r17 S18 hq => ?_)
      try dsimp only
      refine X_iadd (n := 209) (kX12_pass_1 26 rfl) rfl ?_
      refine X_callS1I (n := 212) (As := [.int (99 : Int32), .int (r15 + r17)]) (st := [.int (((157 : Int32) + ((6 : Int32) * i3)) + i5), .ref (rf a0 14)]) (kX12_pass_1 27 rfl) rfl p_X12_least (by decide) ml_X12_300 mf_X12_least rfl rfl (Nat.le_of_ble_eq_true rfl) ?_
      refine X_itebind ?_
      refine X_iast (n := 213) (kt_12_14 hk0) (kX12_pass_1 28 rfl) rfl (fun h19 => ?_)
      refine X_iinc (n := 216) 0 (v := (i5 + 1)) (L1 := [(5, .int (i5 + 1)), (4, .int i4), (3, .int i3), (2, .int i2), (0, .ref a0)]) (kX12_pass_1 29 rfl) rfl rfl rfl (Nat.le_of_ble_eq_true rfl) rfl ?_
      refine X_goto (tgt := 165) (kX12_pass_1 30 rfl) rfl ?_
      exact X_L [0, 1, 2, 3, 4] rfl (ih (i5 + 1) (sI S18 (rf a0 14) ((((157 : Int32) + ((6 : Int32) * i3)) + i5).toNatClampNeg) (t_X12_least (99 : Int32) (r15 + r17))))
set_option maxHeartbeats 4000000 in
set_option maxRecDepth 100000 in
theorem w_X12_pass_L114 {l : Launch} {g : XG} {G : (XS) → Option (XS)}  {i2 : Int32} {a0 : Nat} (hk0 : kd a0 = 12) (kE : ∀ (S1 : XS), X φV l g 3 mX12_pass 225 [(0, .ref a0)] [] S1 (G S1)) : ∀ (n : Nat) (i3 : Int32) (S : XS), X φV l g 3 mX12_pass 114 [(3, .int i3), (2, .int i2), (0, .ref a0)] [] S ((f_X12_pass_L114 i2 a0 n i3 S).bind G) := by
  intro n
  induction n with
  | zero => intro i3 S; exact X_none
  | succ n ih =>
  · intro i3 S
    rw [f_X12_pass_L114]
    refine X_iload_n (n := 115) 0 (kX12_pass 71 rfl) rfl rfl rfl ?_
    refine X_aload_n (n := 116) 2 (kX12_pass 72 rfl) rfl rfl rfl ?_
    refine X_getR (n := 119) xf_X12 hk0 (by decide) fl_X12_13 rfl (kX12_pass 73 rfl) rfl ?_
    refine X_iconst (n := 120) (v := 3) (kX12_pass 74 rfl) rfl (by decide) ?_
    refine X_iald' (n := 121) (kt_12_14 hk0) (kX12_pass 75 rfl) rfl (by rw [lt_12_14 hk0]; decide) ?_
    refine X_itebind ?_
    refine X_ic_ge (n := 124) (tgt := 225) (kX12_pass 76 rfl) rfl rfl (fun h10 => ?_) (fun h10 => ?_)
    · exact X_L [2] rfl (kE S)
    · refine X_aload_n (n := 125) 2 (kX12_pass 77 rfl) rfl rfl rfl ?_
      refine X_sipush (n := 128) (v := 157) (kX12_pass 78 rfl) rfl (by decide) ?_
      refine X_bipush (n := 130) (v := 6) (kX12_pass 79 rfl) rfl (by decide) ?_
      refine X_iload_n (n := 131) 0 (kX12_pass 80 rfl) rfl rfl rfl ?_
      refine X_imul (n := 132) (kX12_pass 81 rfl) rfl ?_
      refine X_iadd (n := 133) (kX12_pass 82 rfl) rfl ?_
      refine X_aload_n (n := 134) 2 (kX12_pass 83 rfl) rfl rfl rfl ?_
      refine X_getR (n := 137) xf_X12 hk0 (by decide) fl_X12_13 rfl (kX12_pass 84 rfl) rfl ?_
      refine X_bipush (n := 139) (v := 66) (kX12_pass 85 rfl) rfl (by decide) ?_
      refine X_iload_n (n := 140) 0 (kX12_pass 86 rfl) rfl rfl rfl ?_
      refine X_iadd (n := 141) (kX12_pass 87 rfl) rfl ?_
      refine X_itebind ?_
      refine X_iald (n := 142) (kt_12_14 hk0) (kX12_pass 88 rfl) rfl (fun h22 => ?_)
      refine X_iload_n (n := 143) 1 (kX12_pass 89 rfl) rfl rfl rfl ?_
      refine X_assoc ?_
      refine X_callVV (n := 146) (As := [.int ((157 : Int32) + ((6 : Int32) * i3)), .int (S.1 (rf a0 14) ((66 : Int32) + i3).toNatClampNeg), .int i2]) (st := []) (kX12_pass 90 rfl) rfl (w_X12_fadeAt hk0) (by decide) ml_X12_296 mf_X12_fadeAt rfl hk0 xf_X12 rfl (Nat.le_of_ble_eq_true rfl) (fun S11 hq => ?_)
      try dsimp only
      refine X_aload_n (n := 147) 2 (kX12_pass 91 rfl) rfl rfl rfl ?_
      refine X_getR (n := 150) xf_X12 hk0 (by decide) fl_X12_13 rfl (kX12_pass 92 rfl) rfl ?_
      refine X_sipush (n := 153) (v := 145) (kX12_pass 93 rfl) rfl (by decide) ?_
      refine X_aload_n (n := 154) 2 (kX12_pass 94 rfl) rfl rfl rfl ?_
      refine X_iload_n (n := 155) 0 (kX12_pass 95 rfl) rfl rfl rfl ?_
      refine X_assoc ?_
      refine X_callVI (n := 158) (As := [.int i3]) (st := [.int 145, .ref (rf a0 14)]) (kX12_pass 96 rfl) rfl (w_X12_wearerOf hk0) (by decide) ml_X12_287 mf_X12_wearerOf rfl hk0 xf_X12 rfl (Nat.le_of_ble_eq_true rfl) (fun r12 S13 hq => ?_)
      try dsimp only
      refine X_iadd (n := 159) (kX12_pass 97 rfl) rfl ?_
      refine X_itebind ?_
      refine X_iald (n := 160) (kt_12_14 hk0) (kX12_pass 98 rfl) rfl (fun h21 => ?_)
      refine X_istore (n := 162) (L1 := [(4, .int (S13.1 (rf a0 14) ((145 : Int32) + r12).toNatClampNeg)), (3, .int i3), (2, .int i2), (0, .ref a0)]) (kX12_pass 99 rfl) rfl (Nat.le_of_ble_eq_true rfl) rfl ?_
      refine X_iconst (n := 163) (v := 0) (kX12_pass_1 0 rfl) rfl (by decide) ?_
      refine X_istore (n := 165) (L1 := [(5, .int 0), (4, .int (S13.1 (rf a0 14) ((145 : Int32) + r12).toNatClampNeg)), (3, .int i3), (2, .int i2), (0, .ref a0)]) (kX12_pass_1 1 rfl) rfl (Nat.le_of_ble_eq_true rfl) rfl ?_
      refine X_assoc ?_
      refine X_L [0, 1, 2, 3, 4] rfl (w_X12_pass_L165 hk0 (fun S20 => ?_) 1000000 (0 : Int32) S13)
      try dsimp only
      refine X_iinc (n := 222) 0 (v := (i3 + 1)) (L1 := [(3, .int (i3 + 1)), (2, .int i2), (0, .ref a0)]) (kX12_pass_1 31 rfl) rfl rfl rfl (Nat.le_of_ble_eq_true rfl) rfl ?_
      refine X_goto (tgt := 114) (kX12_pass_1 32 rfl) rfl ?_
      exact X_L [0, 1, 2] rfl (ih (i3 + 1) S20)
set_option maxHeartbeats 4000000 in
set_option maxRecDepth 100000 in
theorem w_X12_pass_L227 {l : Launch} {g : XG} {G : (XS) → Option (XS)}  {a0 : Nat} (hk0 : kd a0 = 12) (kE : ∀ (S1 : XS), X φV l g 3 mX12_pass 266 [(0, .ref a0)] [] S1 (G S1)) : ∀ (n : Nat) (i3 : Int32) (S : XS), X φV l g 3 mX12_pass 227 [(3, .int i3), (0, .ref a0)] [] S ((f_X12_pass_L227 a0 n i3 S).bind G) := by
  intro n
  induction n with
  | zero => intro i3 S; exact X_none
  | succ n ih =>
  · intro i3 S
    rw [f_X12_pass_L227]
    refine X_iload_n (n := 228) 0 (kX12_pass_1 35 rfl) rfl rfl rfl ?_
    refine X_aload_n (n := 229) 1 (kX12_pass_1 36 rfl) rfl rfl rfl ?_
    refine X_getR (n := 232) xf_X12 hk0 (by decide) fl_X12_13 rfl (kX12_pass_1 37 rfl) rfl ?_
    refine X_sipush (n := 235) (v := 193) (kX12_pass_1 38 rfl) rfl (by decide) ?_
    refine X_iald' (n := 236) (kt_12_14 hk0) (kX12_pass_1 39 rfl) rfl (by rw [lt_12_14 hk0]; decide) ?_
    refine X_itebind ?_
    refine X_ic_ge (n := 239) (tgt := 266) (kX12_pass_1 40 rfl) rfl rfl (fun h24 => ?_) (fun h24 => ?_)
    · exact X_L [1] rfl (kE S)
    · refine X_aload_n (n := 240) 1 (kX12_pass_1 41 rfl) rfl rfl rfl ?_
      refine X_sipush (n := 243) (v := 194) (kX12_pass_1 42 rfl) rfl (by decide) ?_
      refine X_bipush (n := 245) (v := 10) (kX12_pass_1 43 rfl) rfl (by decide) ?_
      refine X_iload_n (n := 246) 0 (kX12_pass_1 44 rfl) rfl rfl rfl ?_
      refine X_imul (n := 247) (kX12_pass_1 45 rfl) rfl ?_
      refine X_iadd (n := 248) (kX12_pass_1 46 rfl) rfl ?_
      refine X_iconst (n := 249) (v := 4) (kX12_pass_1 47 rfl) rfl (by decide) ?_
      refine X_iadd (n := 250) (kX12_pass_1 48 rfl) rfl ?_
      refine X_aload_n (n := 251) 1 (kX12_pass_1 49 rfl) rfl rfl rfl ?_
      refine X_iload_n (n := 252) 0 (kX12_pass_1 50 rfl) rfl rfl rfl ?_
      refine X_iconst (n := 253) (v := 3) (kX12_pass_1 51 rfl) rfl (by decide) ?_
      refine X_assoc ?_
      refine X_callVI (n := 256) (As := [.int i3, .int (3 : Int32)]) (st := [.int (((194 : Int32) + ((10 : Int32) * i3)) + (4 : Int32)), .ref a0]) (kX12_pass_1 52 rfl) rfl (w_X12_ofCloth hk0) (by decide) ml_X12_284 mf_X12_ofCloth rfl hk0 xf_X12 rfl (Nat.le_of_ble_eq_true rfl) (fun r25 S26 hq => ?_)
      try dsimp only
      refine X_iconst (n := 257) (v := 0) (kX12_pass_1 53 rfl) rfl (by decide) ?_
      refine X_assoc ?_
      refine X_callVV (n := 260) (As := [.int (((194 : Int32) + ((10 : Int32) * i3)) + (4 : Int32)), .int r25, .int (0 : Int32)]) (st := []) (kX12_pass_1 54 rfl) rfl (w_X12_fadeAt hk0) (by decide) ml_X12_296 mf_X12_fadeAt rfl hk0 xf_X12 rfl (Nat.le_of_ble_eq_true rfl) (fun S27 hq => ?_)
      try dsimp only
      refine X_iinc (n := 263) 0 (v := (i3 + 1)) (L1 := [(3, .int (i3 + 1)), (0, .ref a0)]) (kX12_pass_1 55 rfl) rfl rfl rfl (Nat.le_of_ble_eq_true rfl) rfl ?_
      refine X_goto (tgt := 227) (kX12_pass_1 56 rfl) rfl ?_
      exact X_L [0, 1] rfl (ih (i3 + 1) S27)
set_option maxHeartbeats 4000000 in
set_option maxRecDepth 100000 in
theorem w_X12_pass_L276 {l : Launch} {g : XG} {G : (XS) → Option (XS)}  {i3 : Int32} {a0 : Nat} (hk0 : kd a0 = 12) (kE : ∀ (S1 : XS), X φV l g 3 mX12_pass 300 [(3, .int i3), (0, .ref a0)] [] S1 (G S1)) : ∀ (n : Nat) (i4 : Int32) (S : XS), X φV l g 3 mX12_pass 276 [(4, .int i4), (3, .int i3), (0, .ref a0)] [] S ((f_X12_pass_L276 i3 a0 n i4 S).bind G) := by
  intro n
  induction n with
  | zero => intro i4 S; exact X_none
  | succ n ih =>
  · intro i4 S
    rw [f_X12_pass_L276]
    refine X_iload (n := 278) 0 (kX12_pass_1 64 rfl) rfl rfl ?_
    refine X_aload_n (n := 279) 2 (kX12_pass_1 65 rfl) rfl rfl rfl ?_
    refine X_getR (n := 282) xf_X12 hk0 (by decide) fl_X12_13 rfl (kX12_pass_1 66 rfl) rfl ?_
    refine X_iconst (n := 283) (v := 0) (kX12_pass_1 67 rfl) rfl (by decide) ?_
    refine X_iald' (n := 284) (kt_12_14 hk0) (kX12_pass_1 68 rfl) rfl (by rw [lt_12_14 hk0]; decide) ?_
    refine X_itebind ?_
    refine X_ic_ge (n := 287) (tgt := 300) (kX12_pass_1 69 rfl) rfl rfl (fun h30 => ?_) (fun h30 => ?_)
    · exact X_L [1, 2] rfl (kE S)
    · refine X_aload_n (n := 288) 2 (kX12_pass_1 70 rfl) rfl rfl rfl ?_
      refine X_iload_n (n := 289) 1 (kX12_pass_1 71 rfl) rfl rfl rfl ?_
      refine X_iload (n := 291) 0 (kX12_pass_1 72 rfl) rfl rfl ?_
      refine X_assoc ?_
      refine X_callVV (n := 294) (As := [.int i3, .int i4]) (st := []) (kX12_pass_1 73 rfl) rfl (w_X12_mixBox hk0) (by decide) ml_X12_303 mf_X12_mixBox rfl hk0 xf_X12 rfl (Nat.le_of_ble_eq_true rfl) (fun S31 hq => ?_)
      try dsimp only
      refine X_iinc (n := 297) 0 (v := (i4 + 1)) (L1 := [(4, .int (i4 + 1)), (3, .int i3), (0, .ref a0)]) (kX12_pass_1 74 rfl) rfl rfl rfl (Nat.le_of_ble_eq_true rfl) rfl ?_
      refine X_goto (tgt := 276) (kX12_pass_1 75 rfl) rfl ?_
      exact X_L [0, 1, 2] rfl (ih (i4 + 1) S31)
set_option maxHeartbeats 4000000 in
set_option maxRecDepth 100000 in
theorem w_X12_pass_L268 {l : Launch} {g : XG} {G : (XS) → Option (XS)}  {a0 : Nat} (hk0 : kd a0 = 12) (kE : ∀ (S1 : XS), X φV l g 3 mX12_pass 306 [] [] S1 (G S1)) : ∀ (n : Nat) (i3 : Int32) (S : XS), X φV l g 3 mX12_pass 268 [(3, .int i3), (0, .ref a0)] [] S ((f_X12_pass_L268 a0 n i3 S).bind G) := by
  intro n
  induction n with
  | zero => intro i3 S; exact X_none
  | succ n ih =>
  · intro i3 S
    rw [f_X12_pass_L268]
    refine X_iload_n (n := 269) 0 (kX12_pass_1 59 rfl) rfl rfl rfl ?_
    refine X_iconst (n := 270) (v := 3) (kX12_pass_1 60 rfl) rfl (by decide) ?_
    refine X_itebind ?_
    refine X_ic_ge (n := 273) (tgt := 306) (kX12_pass_1 61 rfl) rfl rfl (fun h29 => ?_) (fun h29 => ?_)
    · exact X_L [] rfl (kE S)
    · refine X_iconst (n := 274) (v := 0) (kX12_pass_1 62 rfl) rfl (by decide) ?_
      refine X_istore (n := 276) (L1 := [(4, .int 0), (3, .int i3), (0, .ref a0)]) (kX12_pass_1 63 rfl) rfl (Nat.le_of_ble_eq_true rfl) rfl ?_
      refine X_assoc ?_
      refine X_L [0, 1, 2] rfl (w_X12_pass_L276 hk0 (fun S32 => ?_) 1000000 (0 : Int32) S)
      try dsimp only
      refine X_iinc (n := 303) 0 (v := (i3 + 1)) (L1 := [(3, .int (i3 + 1)), (0, .ref a0)]) (kX12_pass_1 76 rfl) rfl rfl rfl (Nat.le_of_ble_eq_true rfl) rfl ?_
      refine X_goto (tgt := 268) (kX12_pass_1 77 rfl) rfl ?_
      exact X_L [0, 1] rfl (ih (i3 + 1) S32)
set_option maxHeartbeats 4000000 in
set_option maxRecDepth 100000 in
theorem w_X12_pass {l : Launch} {g : XG}  {a0 : Nat} {b1 : Bool} {S : XS} (hk0 : kd a0 = 12) : Cl φV l g 3 mX12_pass [.ref a0, .int (bi b1)] S (f_X12_pass a0 b1 S) := by
  refine Cl.of (by decide +kernel) (Nat.le_of_ble_eq_true rfl) ?_
  unfold f_X12_pass
  show X _ _ _ _ _ 0 [(0, .ref a0), (1, .int (bi b1))] [] S _
  refine X_aload_n (n := 1) 0 (kX12_pass 0 rfl) rfl rfl rfl ?_
  refine X_getR (n := 4) xf_X12 hk0 (by decide) fl_X12_13 rfl (kX12_pass 1 rfl) rfl ?_
  refine X_sipush (n := 7) (v := 144) (kX12_pass 2 rfl) rfl (by decide) ?_
  refine X_dup2 (n := 8) (kX12_pass 3 rfl) rfl rfl rfl ?_
  refine X_iald' (n := 9) (kt_12_14 hk0) (kX12_pass 4 rfl) rfl (by rw [lt_12_14 hk0]; decide) ?_
  refine X_iconst (n := 10) (v := 1) (kX12_pass 5 rfl) rfl (by decide) ?_
  refine X_iadd (n := 11) (kX12_pass 6 rfl) rfl ?_
  refine X_iast' (n := 12) (kt_12_14 hk0) (kX12_pass 7 rfl) rfl (by rw [lt_12_14 hk0]; decide) ?_
  refine X_iconst (n := 13) (v := 0) (kX12_pass 8 rfl) rfl (by decide) ?_
  refine X_istore_n (n := 14) (L1 := [(2, .int 0), (0, .ref a0), (1, .int (bi b1))]) (kX12_pass 9 rfl) rfl rfl (Nat.le_of_ble_eq_true rfl) rfl ?_
  refine X_L [0, 1, 2] rfl (w_X12_pass_L14 hk0 (fun S7 => ?_) 1000000 (0 : Int32) (sI S (rf a0 14) 144 ((S.1 (rf a0 14) 144) + (1 : Int32))))
  try dsimp only
  refine X_iload_n (n := 88) 1 (kX12_pass 56 rfl) rfl rfl rfl ?_
  refine X_join 111 (fun q => match q with | (x8, S9) => [(0, .ref a0)]) (fun q => match q with | (x8, S9) => [.int x8]) (fun q => match q with | (x8, S9) => S9) (fun q => ?_) (fun kJ => ?_)
  · obtain ⟨x8, S9⟩ := q
    dsimp only
    refine X_istore_n (n := 112) (L1 := [(2, .int x8), (0, .ref a0)]) (kX12_pass 68 rfl) rfl rfl (Nat.le_of_ble_eq_true rfl) rfl ?_
    refine X_iconst (n := 113) (v := 0) (kX12_pass 69 rfl) rfl (by decide) ?_
    refine X_istore_n (n := 114) (L1 := [(3, .int 0), (2, .int x8), (0, .ref a0)]) (kX12_pass 70 rfl) rfl rfl (Nat.le_of_ble_eq_true rfl) rfl ?_
    refine X_L [0, 1, 2] rfl (w_X12_pass_L114 hk0 (fun S23 => ?_) 1000000 (0 : Int32) S9)
    try dsimp only
    refine X_iconst (n := 226) (v := 0) (kX12_pass_1 33 rfl) rfl (by decide) ?_
    refine X_istore_n (n := 227) (L1 := [(3, .int 0), (0, .ref a0)]) (kX12_pass_1 34 rfl) rfl rfl (Nat.le_of_ble_eq_true rfl) rfl ?_
    refine X_L [0, 1] rfl (w_X12_pass_L227 hk0 (fun S28 => ?_) 1000000 (0 : Int32) S23)
    try dsimp only
    refine X_iconst (n := 267) (v := 0) (kX12_pass_1 57 rfl) rfl (by decide) ?_
    refine X_istore_n (n := 268) (L1 := [(3, .int 0), (0, .ref a0)]) (kX12_pass_1 58 rfl) rfl rfl (Nat.le_of_ble_eq_true rfl) rfl ?_
    refine X_L [0, 1] rfl (w_X12_pass_L268 hk0 (fun S33 => ?_) 1000000 (0 : Int32) S28)
    try dsimp only
    exact X_vret rfl (kX12_pass_1 78 rfl)
  · refine X_itebind ?_
    refine X_bn (n := 91) (tgt := 106) (kX12_pass 57 rfl) rfl rfl (fun h34 => ?_) (fun h34 => ?_)
    · refine X_iconst (n := 107) (v := 2) (kX12_pass 65 rfl) rfl (by decide) ?_
      refine X_goto (tgt := 111) (kX12_pass 66 rfl) rfl ?_
      exact X_L [0] rfl (kJ ((2 : Int32), S7))
    · refine X_aload_n (n := 92) 0 (kX12_pass 58 rfl) rfl rfl rfl ?_
      refine X_aload_n (n := 93) 0 (kX12_pass 59 rfl) rfl rfl rfl ?_
      refine X_getR (n := 96) xf_X12 hk0 (by decide) fl_X12_13 rfl (kX12_pass 60 rfl) rfl ?_
      refine X_sipush (n := 99) (v := 144) (kX12_pass 61 rfl) rfl (by decide) ?_
      refine X_iald' (n := 100) (kt_12_14 hk0) (kX12_pass 62 rfl) rfl (by rw [lt_12_14 hk0]; decide) ?_
      refine X_assoc ?_
      refine X_callVB (n := 103) (As := [.int (S7.1 (rf a0 14) 144)]) (st := []) (kX12_pass 63 rfl) rfl (w_X12_isRain hk0) (by decide) ml_X12_293 mf_X12_isRain rfl hk0 xf_X12 rfl (Nat.le_of_ble_eq_true rfl) (fun r35 S36 hq => ?_)
      try dsimp only
      refine X_itebind ?_
      refine X_bz (n := 106) (tgt := 110) (kX12_pass 64 rfl) rfl rfl (fun h37 => ?_) (fun h37 => ?_)
      · refine X_iconst (n := 107) (v := 2) (kX12_pass 65 rfl) rfl (by decide) ?_
        refine X_goto (tgt := 111) (kX12_pass 66 rfl) rfl ?_
        exact X_L [0] rfl (kJ ((2 : Int32), S36))
      · refine X_iconst (n := 111) (v := 0) (kX12_pass 67 rfl) rfl (by decide) ?_
        exact X_L [0] rfl (kJ ((0 : Int32), S36))
