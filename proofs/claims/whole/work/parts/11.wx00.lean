def f_X1_draw  (a0 : Nat) (i1 : Int32) (S : XS) : Option (Int32 × XS) := (if i1 ≤ 0 then some ((0 : Int32), (sI S a0 4 (((S.1 a0 4) * (1103515245 : Int32)) + (12345 : Int32)))) else (if i1 = 0 then none else some ((rem32 (ushr32 ((sI S a0 4 (((S.1 a0 4) * (1103515245 : Int32)) + (12345 : Int32))).1 a0 4) (8 : Int32)) i1), (sI S a0 4 (((S.1 a0 4) * (1103515245 : Int32)) + (12345 : Int32))))))
set_option maxHeartbeats 4000000 in
set_option maxRecDepth 100000 in
theorem w_X1_draw {l : Launch} {g : XG}  {a0 : Nat} {i1 : Int32} {S : XS} (hk0 : kd a0 = 1) : Cl φI l g 1 mX1_draw [.ref a0, .int i1] S (f_X1_draw a0 i1 S) := by
  refine Cl.of (by decide +kernel) (Nat.le_of_ble_eq_true rfl) ?_
  unfold f_X1_draw
  show X _ _ _ _ _ 0 [(0, .ref a0), (1, .int i1)] [] S _
  refine X_aload_n (n := 1) 0 (kX1_draw 0 rfl) rfl rfl rfl ?_
  refine X_aload_n (n := 2) 0 (kX1_draw 1 rfl) rfl rfl rfl ?_
  refine X_getI (n := 5) xf_X1 hk0 (by decide) fl_X1_32 rfl (kX1_draw 2 rfl) rfl ?_
  refine X_ldc (n := 7) (kX1_draw 3 rfl) rfl cl_X1_62 ?_
  refine X_imul (n := 8) (kX1_draw 4 rfl) rfl ?_
  refine X_sipush (n := 11) (v := 12345) (kX1_draw 5 rfl) rfl (by decide) ?_
  refine X_iadd (n := 12) (kX1_draw 6 rfl) rfl ?_
  refine X_putI (n := 15) xf_X1 hk0 (by decide) fl_X1_32 rfl rfl (Or.inl rfl) (kX1_draw 7 rfl) rfl ?_
  refine X_iload_n (n := 16) 1 (kX1_draw 8 rfl) rfl rfl rfl ?_
  refine X_if_le (n := 19) (tgt := 31) (kX1_draw 9 rfl) rfl rfl (fun h1 => ?_) (fun h1 => ?_)
  · refine X_iconst (n := 32) (v := 0) (kX1_draw 17 rfl) rfl (by decide) ?_
    exact X_iret rfl (kX1_draw 18 rfl)
  · refine X_aload_n (n := 20) 0 (kX1_draw 10 rfl) rfl rfl rfl ?_
    refine X_getI (n := 23) xf_X1 hk0 (by decide) fl_X1_32 rfl (kX1_draw 11 rfl) rfl ?_
    refine X_bipush (n := 25) (v := 8) (kX1_draw 12 rfl) rfl (by decide) ?_
    refine X_iushr (n := 26) (kX1_draw 13 rfl) rfl ?_
    refine X_iload_n (n := 27) 1 (kX1_draw 14 rfl) rfl rfl rfl ?_
    refine X_irem (n := 28) (kX1_draw 15 rfl) rfl (fun h2 => ?_)
    refine X_goto (tgt := 32) (kX1_draw 16 rfl) rfl ?_
    exact X_iret rfl (kX1_draw 18 rfl)
def f_X2_clear  (a0 : Nat) (S : XS) : Option (XS) := some (filI (filI (filI (filI (filI (filI (filJ (filI S (rf a0 0) (0 : Int32)) (rf a0 1) 0) (rf a0 2) (0 : Int32)) (rf a0 3) (0 : Int32)) (rf a0 4) (0 : Int32)) (rf a0 5) (0 : Int32)) (rf a0 6) (0 : Int32)) (rf a0 7) (0 : Int32))
set_option maxHeartbeats 4000000 in
set_option maxRecDepth 100000 in
theorem w_X2_clear {l : Launch} {g : XG}  {a0 : Nat} {S : XS} (hk0 : kd a0 = 2) : Cl φV l g 2 mX2_clear [.ref a0] S (f_X2_clear a0 S) := by
  refine Cl.of (by decide +kernel) (Nat.le_of_ble_eq_true rfl) ?_
  unfold f_X2_clear
  show X _ _ _ _ _ 0 [(0, .ref a0)] [] S _
  refine X_aload_n (n := 1) 0 (kX2_clear 0 rfl) rfl rfl rfl ?_
  refine X_getR (n := 4) xf_X2 hk0 (by decide) fl_X2_13 rfl (kX2_clear 1 rfl) rfl ?_
  refine X_iconst (n := 5) (v := 0) (kX2_clear 2 rfl) rfl (by decide) ?_
  refine X_callS1V (n := 8) (As := [.ref (rf a0 0), .int (0 : Int32)]) (st := []) (kX2_clear 3 rfl) rfl (p_J7_fill_53178 (kt_2_0 hk0)) (by decide) ml_X2_40 mf_J7_fill_53178 rfl rfl (Nat.le_of_ble_eq_true rfl) ?_
  refine X_aload_n (n := 9) 0 (kX2_clear 4 rfl) rfl rfl rfl ?_
  refine X_getR (n := 12) xf_X2 hk0 (by decide) fl_X2_18 rfl (kX2_clear 5 rfl) rfl ?_
  refine X_lconst (n := 13) (v := 0) (kX2_clear 6 rfl) rfl (by decide) ?_
  refine X_callS1V (n := 16) (As := [.ref (rf a0 1), .long 0]) (st := []) (kX2_clear 7 rfl) rfl (p_J7_fill_d0a16 (kt_2_1 hk0)) (by decide) ml_X2_46 mf_J7_fill_d0a16 rfl rfl (Nat.le_of_ble_eq_true rfl) ?_
  refine X_aload_n (n := 17) 0 (kX2_clear 8 rfl) rfl rfl rfl ?_
  refine X_getR (n := 20) xf_X2 hk0 (by decide) fl_X2_22 rfl (kX2_clear 9 rfl) rfl ?_
  refine X_iconst (n := 21) (v := 0) (kX2_clear 10 rfl) rfl (by decide) ?_
  refine X_callS1V (n := 24) (As := [.ref (rf a0 2), .int (0 : Int32)]) (st := []) (kX2_clear 11 rfl) rfl (p_J7_fill_53178 (kt_2_2 hk0)) (by decide) ml_X2_40 mf_J7_fill_53178 rfl rfl (Nat.le_of_ble_eq_true rfl) ?_
  refine X_aload_n (n := 25) 0 (kX2_clear 12 rfl) rfl rfl rfl ?_
  refine X_getR (n := 28) xf_X2 hk0 (by decide) fl_X2_25 rfl (kX2_clear 13 rfl) rfl ?_
  refine X_iconst (n := 29) (v := 0) (kX2_clear 14 rfl) rfl (by decide) ?_
  refine X_callS1V (n := 32) (As := [.ref (rf a0 3), .int (0 : Int32)]) (st := []) (kX2_clear 15 rfl) rfl (p_J7_fill_53178 (kt_2_3 hk0)) (by decide) ml_X2_40 mf_J7_fill_53178 rfl rfl (Nat.le_of_ble_eq_true rfl) ?_
  refine X_aload_n (n := 33) 0 (kX2_clear 16 rfl) rfl rfl rfl ?_
  refine X_getR (n := 36) xf_X2 hk0 (by decide) fl_X2_28 rfl (kX2_clear 17 rfl) rfl ?_
  refine X_iconst (n := 37) (v := 0) (kX2_clear 18 rfl) rfl (by decide) ?_
  refine X_callS1V (n := 40) (As := [.ref (rf a0 4), .int (0 : Int32)]) (st := []) (kX2_clear 19 rfl) rfl (p_J7_fill_53178 (kt_2_4 hk0)) (by decide) ml_X2_40 mf_J7_fill_53178 rfl rfl (Nat.le_of_ble_eq_true rfl) ?_
  refine X_aload_n (n := 41) 0 (kX2_clear 20 rfl) rfl rfl rfl ?_
  refine X_getR (n := 44) xf_X2 hk0 (by decide) fl_X2_31 rfl (kX2_clear 21 rfl) rfl ?_
  refine X_iconst (n := 45) (v := 0) (kX2_clear 22 rfl) rfl (by decide) ?_
  refine X_callS1V (n := 48) (As := [.ref (rf a0 5), .int (0 : Int32)]) (st := []) (kX2_clear 23 rfl) rfl (p_J7_fill_53178 (kt_2_5 hk0)) (by decide) ml_X2_40 mf_J7_fill_53178 rfl rfl (Nat.le_of_ble_eq_true rfl) ?_
  refine X_aload_n (n := 49) 0 (kX2_clear 24 rfl) rfl rfl rfl ?_
  refine X_getR (n := 52) xf_X2 hk0 (by decide) fl_X2_34 rfl (kX2_clear 25 rfl) rfl ?_
  refine X_iconst (n := 53) (v := 0) (kX2_clear 26 rfl) rfl (by decide) ?_
  refine X_callS1V (n := 56) (As := [.ref (rf a0 6), .int (0 : Int32)]) (st := []) (kX2_clear 27 rfl) rfl (p_J7_fill_53178 (kt_2_6 hk0)) (by decide) ml_X2_40 mf_J7_fill_53178 rfl rfl (Nat.le_of_ble_eq_true rfl) ?_
  refine X_aload_n (n := 57) 0 (kX2_clear 28 rfl) rfl rfl rfl ?_
  refine X_getR (n := 60) xf_X2 hk0 (by decide) fl_X2_37 rfl (kX2_clear 29 rfl) rfl ?_
  refine X_iconst (n := 61) (v := 0) (kX2_clear 30 rfl) rfl (by decide) ?_
  refine X_callS1V (n := 64) (As := [.ref (rf a0 7), .int (0 : Int32)]) (st := []) (kX2_clear 31 rfl) rfl (p_J7_fill_53178 (kt_2_7 hk0)) (by decide) ml_X2_40 mf_J7_fill_53178 rfl rfl (Nat.le_of_ble_eq_true rfl) ?_
  exact X_vret rfl (kX2_clear 32 rfl)
def t_X2_clear (a0 : Nat) (S : XS) : XS := (filI (filI (filI (filI (filI (filI (filJ (filI S (rf a0 0) (0 : Int32)) (rf a0 1) 0) (rf a0 2) (0 : Int32)) (rf a0 3) (0 : Int32)) (rf a0 4) (0 : Int32)) (rf a0 5) (0 : Int32)) (rf a0 6) (0 : Int32)) (rf a0 7) (0 : Int32))
theorem ft_X2_clear (a0 : Nat) (S : XS) : f_X2_clear a0 S = some (t_X2_clear a0 S) := by
  unfold f_X2_clear t_X2_clear
  first | rfl | simp only [ite_u]
theorem p_X2_clear {l : Launch} {g : XG} {a0 : Nat} {S : XS} (hk0 : kd a0 = 2) : Cl φV l g 2 mX2_clear [.ref a0] S (some (t_X2_clear a0 S)) := ft_X2_clear a0 S ▸ w_X2_clear hk0
def f_X2_nameOf  (a0 : Nat) (i1 : Int32) (i2 : Int32) (S : XS) : Option (Int64 × XS) := (if ((i1 * (6 : Int32)) + i2) < 0 then some (0, S) else (if (18 : Int32) ≤ ((i1 * (6 : Int32)) + i2) then some (0, S) else (if ((i1 * (6 : Int32)) + i2) < 0 ∨ ln (rf a0 1) ≤ ((i1 * (6 : Int32)) + i2).toNatClampNeg then none else some ((S.2 (rf a0 1) ((i1 * (6 : Int32)) + i2).toNatClampNeg), S))))
set_option maxHeartbeats 4000000 in
set_option maxRecDepth 100000 in
theorem w_X2_nameOf {l : Launch} {g : XG}  {a0 : Nat} {i1 : Int32} {i2 : Int32} {S : XS} (hk0 : kd a0 = 2) : Cl φL l g 1 mX2_nameOf [.ref a0, .int i1, .int i2] S (f_X2_nameOf a0 i1 i2 S) := by
  refine Cl.of (by decide +kernel) (Nat.le_of_ble_eq_true rfl) ?_
  unfold f_X2_nameOf
  show X _ _ _ _ _ 0 [(0, .ref a0), (1, .int i1), (2, .int i2)] [] S _
  refine X_iload_n (n := 1) 1 (kX2_nameOf 0 rfl) rfl rfl rfl ?_
  refine X_bipush (n := 3) (v := 6) (kX2_nameOf 1 rfl) rfl (by decide) ?_
  refine X_imul (n := 4) (kX2_nameOf 2 rfl) rfl ?_
  refine X_iload_n (n := 5) 2 (kX2_nameOf 3 rfl) rfl rfl rfl ?_
  refine X_iadd (n := 6) (kX2_nameOf 4 rfl) rfl ?_
  refine X_istore_n (n := 7) (L1 := [(3, .int ((i1 * (6 : Int32)) + i2)), (0, .ref a0), (1, .int i1), (2, .int i2)]) (kX2_nameOf 5 rfl) rfl rfl (Nat.le_of_ble_eq_true rfl) rfl ?_
  refine X_iload_n (n := 8) 0 (kX2_nameOf 6 rfl) rfl rfl rfl ?_
  refine X_if_lt (n := 11) (tgt := 29) (kX2_nameOf 7 rfl) rfl rfl (fun h1 => ?_) (fun h1 => ?_)
  · refine X_lconst (n := 30) (v := 0) (kX2_nameOf 18 rfl) rfl (by decide) ?_
    exact X_lret rfl (kX2_nameOf 19 rfl)
  · refine X_iload_n (n := 12) 0 (kX2_nameOf 8 rfl) rfl rfl rfl ?_
    refine X_aload_n (n := 13) 1 (kX2_nameOf 9 rfl) rfl rfl rfl ?_
    refine X_getR (n := 16) xf_X2 hk0 (by decide) fl_X2_18 rfl (kX2_nameOf 10 rfl) rfl ?_
    refine X_alenJ (n := 17) (v := 18) (kt_2_1 hk0) (kX2_nameOf 11 rfl) rfl (by rw [lt_2_1 hk0]; rfl) ?_
    refine X_ic_ge (n := 20) (tgt := 29) (kX2_nameOf 12 rfl) rfl rfl (fun h2 => ?_) (fun h2 => ?_)
    · refine X_lconst (n := 30) (v := 0) (kX2_nameOf 18 rfl) rfl (by decide) ?_
      exact X_lret rfl (kX2_nameOf 19 rfl)
    · refine X_aload_n (n := 21) 1 (kX2_nameOf 13 rfl) rfl rfl rfl ?_
      refine X_getR (n := 24) xf_X2 hk0 (by decide) fl_X2_18 rfl (kX2_nameOf 14 rfl) rfl ?_
      refine X_iload_n (n := 25) 0 (kX2_nameOf 15 rfl) rfl rfl rfl ?_
      refine X_lald (n := 26) (kt_2_1 hk0) (kX2_nameOf 16 rfl) rfl (fun h3 => ?_)
      refine X_goto (tgt := 30) (kX2_nameOf 17 rfl) rfl ?_
      exact X_lret rfl (kX2_nameOf 19 rfl)
def f_X2_numberOf_L9  (i4 : Int32) (a0 : Nat) (j2 : Int64) : Nat → Int32 → XS → Option ((Int32 × XS) ⊕ (Unit))
  | 0, _, _ => none
  | n + 1, i5, S => (if (6 : Int32) ≤ i5 then some (.inr ()) else (if (i4 + i5) < 0 then f_X2_numberOf_L9 i4 a0 j2 n (i5 + 1) S else (if (18 : Int32) ≤ (i4 + i5) then f_X2_numberOf_L9 i4 a0 j2 n (i5 + 1) S else (if (i4 + i5) < 0 ∨ ln (rf a0 1) ≤ (i4 + i5).toNatClampNeg then none else (if (lg_cmp (S.2 (rf a0 1) (i4 + i5).toNatClampNeg) j2) = 0 then some (.inl (i5, S)) else f_X2_numberOf_L9 i4 a0 j2 n (i5 + 1) S)))))
def f_X2_numberOf  (a0 : Nat) (i1 : Int32) (j2 : Int64) (S : XS) : Option (Int32 × XS) := ((f_X2_numberOf_L9 (i1 * (6 : Int32)) a0 j2 1000000 (0 : Int32) S).bind (fun q => match q with | .inl r => some r | .inr _ => some ((-1 : Int32), S)))
set_option maxHeartbeats 4000000 in
set_option maxRecDepth 100000 in
theorem w_X2_numberOf_L9 {l : Launch} {g : XG} {G : ((Int32 × XS) ⊕ (Unit)) → Option (Int32 × XS)}  {i4 : Int32} {a0 : Nat} {j2 : Int64} (hk0 : kd a0 = 2) {S : XS} (kE : X φI l g 1 mX2_numberOf 61 [] [] S (G (.inr ()))) (kR : ∀ r, G (.inl r) = some r) : ∀ (n : Nat) (i5 : Int32), X φI l g 1 mX2_numberOf 9 [(5, .int i5), (4, .int i4), (0, .ref a0), (2, .long j2)] [] S ((f_X2_numberOf_L9 i4 a0 j2 n i5 S).bind G) := by
  intro n
  induction n with
  | zero => intro i5; exact X_none
  | succ n ih =>
  · intro i5
    rw [f_X2_numberOf_L9]
    refine X_iload (n := 11) 0 (kX2_numberOf 6 rfl) rfl rfl ?_
    refine X_bipush (n := 13) (v := 6) (kX2_numberOf 7 rfl) rfl (by decide) ?_
    refine X_itebind ?_
    refine X_ic_ge (n := 16) (tgt := 61) (kX2_numberOf 8 rfl) rfl rfl (fun h1 => ?_) (fun h1 => ?_)
    · exact X_L [] rfl kE
    · refine X_iload (n := 18) 1 (kX2_numberOf 9 rfl) rfl rfl ?_
      refine X_iload (n := 20) 0 (kX2_numberOf 10 rfl) rfl rfl ?_
      refine X_iadd (n := 21) (kX2_numberOf 11 rfl) rfl ?_
      refine X_itebind ?_
      refine X_if_lt (n := 24) (tgt := 55) (kX2_numberOf 12 rfl) rfl rfl (fun h2 => ?_) (fun h2 => ?_)
      · refine X_iinc (n := 58) 0 (v := (i5 + 1)) (L1 := [(5, .int (i5 + 1)), (4, .int i4), (0, .ref a0), (2, .long j2)]) (kX2_numberOf 31 rfl) rfl rfl rfl (Nat.le_of_ble_eq_true rfl) rfl ?_
        refine X_goto (tgt := 9) (kX2_numberOf 32 rfl) rfl ?_
        exact X_L [0, 1, 2, 3] rfl (ih (i5 + 1))
      · refine X_iload (n := 26) 1 (kX2_numberOf 13 rfl) rfl rfl ?_
        refine X_iload (n := 28) 0 (kX2_numberOf 14 rfl) rfl rfl ?_
        refine X_iadd (n := 29) (kX2_numberOf 15 rfl) rfl ?_
        refine X_aload_n (n := 30) 2 (kX2_numberOf 16 rfl) rfl rfl rfl ?_
        refine X_getR (n := 33) xf_X2 hk0 (by decide) fl_X2_18 rfl (kX2_numberOf 17 rfl) rfl ?_
        refine X_alenJ (n := 34) (v := 18) (kt_2_1 hk0) (kX2_numberOf 18 rfl) rfl (by rw [lt_2_1 hk0]; rfl) ?_
        refine X_itebind ?_
        refine X_ic_ge (n := 37) (tgt := 55) (kX2_numberOf 19 rfl) rfl rfl (fun h3 => ?_) (fun h3 => ?_)
        · refine X_iinc (n := 58) 0 (v := (i5 + 1)) (L1 := [(5, .int (i5 + 1)), (4, .int i4), (0, .ref a0), (2, .long j2)]) (kX2_numberOf 31 rfl) rfl rfl rfl (Nat.le_of_ble_eq_true rfl) rfl ?_
          refine X_goto (tgt := 9) (kX2_numberOf 32 rfl) rfl ?_
          exact X_L [0, 1, 2, 3] rfl (ih (i5 + 1))
        · refine X_aload_n (n := 38) 2 (kX2_numberOf 20 rfl) rfl rfl rfl ?_
          refine X_getR (n := 41) xf_X2 hk0 (by decide) fl_X2_18 rfl (kX2_numberOf 21 rfl) rfl ?_
          refine X_iload (n := 43) 1 (kX2_numberOf 22 rfl) rfl rfl ?_
          refine X_iload (n := 45) 0 (kX2_numberOf 23 rfl) rfl rfl ?_
          refine X_iadd (n := 46) (kX2_numberOf 24 rfl) rfl ?_
          refine X_itebind ?_
          refine X_lald (n := 47) (kt_2_1 hk0) (kX2_numberOf 25 rfl) rfl (fun h5 => ?_)
          refine X_lload_n (n := 48) 3 (kX2_numberOf 26 rfl) rfl rfl rfl ?_
          refine X_lcmp (n := 49) (kX2_numberOf 27 rfl) rfl ?_
          refine X_itebind ?_
          refine X_if_ne (n := 52) (tgt := 55) (kX2_numberOf 28 rfl) rfl rfl (fun h4 => ?_) (fun h4 => ?_)
          · refine X_iload (n := 54) 0 (kX2_numberOf 29 rfl) rfl rfl ?_
            exact X_req (kR _) (X_iret rfl (kX2_numberOf 30 rfl))
          · refine X_iinc (n := 58) 0 (v := (i5 + 1)) (L1 := [(5, .int (i5 + 1)), (4, .int i4), (0, .ref a0), (2, .long j2)]) (kX2_numberOf 31 rfl) rfl rfl rfl (Nat.le_of_ble_eq_true rfl) rfl ?_
            refine X_goto (tgt := 9) (kX2_numberOf 32 rfl) rfl ?_
            exact X_L [0, 1, 2, 3] rfl (ih (i5 + 1))
set_option maxHeartbeats 4000000 in
set_option maxRecDepth 100000 in
theorem w_X2_numberOf {l : Launch} {g : XG}  {a0 : Nat} {i1 : Int32} {j2 : Int64} {S : XS} (hk0 : kd a0 = 2) : Cl φI l g 1 mX2_numberOf [.ref a0, .int i1, .long j2] S (f_X2_numberOf a0 i1 j2 S) := by
  refine Cl.of (by decide +kernel) (Nat.le_of_ble_eq_true rfl) ?_
  unfold f_X2_numberOf
  show X _ _ _ _ _ 0 [(0, .ref a0), (1, .int i1), (2, .long j2)] [] S _
  refine X_iload_n (n := 1) 1 (kX2_numberOf 0 rfl) rfl rfl rfl ?_
  refine X_bipush (n := 3) (v := 6) (kX2_numberOf 1 rfl) rfl (by decide) ?_
  refine X_imul (n := 4) (kX2_numberOf 2 rfl) rfl ?_
  refine X_istore (n := 6) (L1 := [(4, .int (i1 * (6 : Int32))), (0, .ref a0), (1, .int i1), (2, .long j2)]) (kX2_numberOf 3 rfl) rfl (Nat.le_of_ble_eq_true rfl) rfl ?_
  refine X_iconst (n := 7) (v := 0) (kX2_numberOf 4 rfl) rfl (by decide) ?_
  refine X_istore (n := 9) (L1 := [(5, .int 0), (4, .int (i1 * (6 : Int32))), (0, .ref a0), (1, .int i1), (2, .long j2)]) (kX2_numberOf 5 rfl) rfl (Nat.le_of_ble_eq_true rfl) rfl ?_
  refine X_L [0, 1, 2, 4] rfl (w_X2_numberOf_L9 hk0 ?_ ?_ 1000000 (0 : Int32))
  · refine X_iconst (n := 62) (v := (-1)) (kX2_numberOf 33 rfl) rfl (by decide) ?_
    exact X_iret rfl (kX2_numberOf 34 rfl)
  · intro r
    rfl
def f_X8_isBlank  (i0 : Int32) (S : XS) : Option (Bool × XS) := (if i0 = (32 : Int32) then some (true, S) else (if i0 = (10 : Int32) then some (true, S) else some (false, S)))
set_option maxHeartbeats 4000000 in
set_option maxRecDepth 100000 in
theorem w_X8_isBlank {l : Launch} {g : XG}  {i0 : Int32} {S : XS}  : Cl φB l g 1 mX8_isBlank [.int i0] S (f_X8_isBlank i0 S) := by
  refine Cl.of (by decide +kernel) (Nat.le_of_ble_eq_true rfl) ?_
  unfold f_X8_isBlank
  show X _ _ _ _ _ 0 [(0, .int i0)] [] S _
  refine X_iload_n (n := 1) 0 (kX8_isBlank 0 rfl) rfl rfl rfl ?_
  refine X_bipush (n := 3) (v := 32) (kX8_isBlank 1 rfl) rfl (by decide) ?_
  refine X_ic_eq (n := 6) (tgt := 12) (kX8_isBlank 2 rfl) rfl rfl (fun h1 => ?_) (fun h1 => ?_)
  · refine X_iconst (n := 13) (v := 1) (kX8_isBlank 6 rfl) rfl (by decide) ?_
    refine X_goto (tgt := 17) (kX8_isBlank 7 rfl) rfl ?_
    exact X_zret (b := true) rfl (kX8_isBlank 9 rfl)
  · refine X_iload_n (n := 7) 0 (kX8_isBlank 3 rfl) rfl rfl rfl ?_
    refine X_bipush (n := 9) (v := 10) (kX8_isBlank 4 rfl) rfl (by decide) ?_
    refine X_ic_ne (n := 12) (tgt := 16) (kX8_isBlank 5 rfl) rfl rfl (fun h2 => ?_) (fun h2 => ?_)
    · refine X_iconst (n := 13) (v := 1) (kX8_isBlank 6 rfl) rfl (by decide) ?_
      refine X_goto (tgt := 17) (kX8_isBlank 7 rfl) rfl ?_
      exact X_zret (b := true) rfl (kX8_isBlank 9 rfl)
    · refine X_iconst (n := 17) (v := 0) (kX8_isBlank 8 rfl) rfl (by decide) ?_
      exact X_zret (b := false) rfl (kX8_isBlank 9 rfl)
def t_X8_isBlank (i0 : Int32) : Bool := (if i0 = (32 : Int32) then true else (if i0 = (10 : Int32) then true else false))
theorem ft_X8_isBlank (i0 : Int32) (S : XS) : f_X8_isBlank i0 S = some (t_X8_isBlank i0, S) := by
  unfold f_X8_isBlank t_X8_isBlank
  first | rfl | simp only [ite_p]
theorem p_X8_isBlank {l : Launch} {g : XG} {i0 : Int32} {S : XS}  : Cl φB l g 1 mX8_isBlank [.int i0] S (some (t_X8_isBlank i0, S)) := ft_X8_isBlank i0 S ▸ w_X8_isBlank 
def f_X8_isLetter  (i0 : Int32) (S : XS) : Option (Bool × XS) := (if i0 < (97 : Int32) then some (false, S) else (if (122 : Int32) < i0 then some (false, S) else some (true, S)))
set_option maxHeartbeats 4000000 in
set_option maxRecDepth 100000 in
theorem w_X8_isLetter {l : Launch} {g : XG}  {i0 : Int32} {S : XS}  : Cl φB l g 1 mX8_isLetter [.int i0] S (f_X8_isLetter i0 S) := by
  refine Cl.of (by decide +kernel) (Nat.le_of_ble_eq_true rfl) ?_
  unfold f_X8_isLetter
  show X _ _ _ _ _ 0 [(0, .int i0)] [] S _
  refine X_iload_n (n := 1) 0 (kX8_isLetter 0 rfl) rfl rfl rfl ?_
  refine X_bipush (n := 3) (v := 97) (kX8_isLetter 1 rfl) rfl (by decide) ?_
  refine X_ic_lt (n := 6) (tgt := 16) (kX8_isLetter 2 rfl) rfl rfl (fun h1 => ?_) (fun h1 => ?_)
  · refine X_iconst (n := 17) (v := 0) (kX8_isLetter 8 rfl) rfl (by decide) ?_
    exact X_zret (b := false) rfl (kX8_isLetter 9 rfl)
  · refine X_iload_n (n := 7) 0 (kX8_isLetter 3 rfl) rfl rfl rfl ?_
    refine X_bipush (n := 9) (v := 122) (kX8_isLetter 4 rfl) rfl (by decide) ?_
    refine X_ic_gt (n := 12) (tgt := 16) (kX8_isLetter 5 rfl) rfl rfl (fun h2 => ?_) (fun h2 => ?_)
    · refine X_iconst (n := 17) (v := 0) (kX8_isLetter 8 rfl) rfl (by decide) ?_
      exact X_zret (b := false) rfl (kX8_isLetter 9 rfl)
    · refine X_iconst (n := 13) (v := 1) (kX8_isLetter 6 rfl) rfl (by decide) ?_
      refine X_goto (tgt := 17) (kX8_isLetter 7 rfl) rfl ?_
      exact X_zret (b := true) rfl (kX8_isLetter 9 rfl)
def t_X8_isLetter (i0 : Int32) : Bool := (if i0 < (97 : Int32) then false else (if (122 : Int32) < i0 then false else true))
theorem ft_X8_isLetter (i0 : Int32) (S : XS) : f_X8_isLetter i0 S = some (t_X8_isLetter i0, S) := by
  unfold f_X8_isLetter t_X8_isLetter
  first | rfl | simp only [ite_p]
theorem p_X8_isLetter {l : Launch} {g : XG} {i0 : Int32} {S : XS}  : Cl φB l g 1 mX8_isLetter [.int i0] S (some (t_X8_isLetter i0, S)) := ft_X8_isLetter i0 S ▸ w_X8_isLetter 
def f_X8_isDigit  (i0 : Int32) (S : XS) : Option (Bool × XS) := (if i0 < (48 : Int32) then some (false, S) else (if (57 : Int32) < i0 then some (false, S) else some (true, S)))
set_option maxHeartbeats 4000000 in
set_option maxRecDepth 100000 in
theorem w_X8_isDigit {l : Launch} {g : XG}  {i0 : Int32} {S : XS}  : Cl φB l g 1 mX8_isDigit [.int i0] S (f_X8_isDigit i0 S) := by
  refine Cl.of (by decide +kernel) (Nat.le_of_ble_eq_true rfl) ?_
  unfold f_X8_isDigit
  show X _ _ _ _ _ 0 [(0, .int i0)] [] S _
  refine X_iload_n (n := 1) 0 (kX8_isDigit 0 rfl) rfl rfl rfl ?_
  refine X_bipush (n := 3) (v := 48) (kX8_isDigit 1 rfl) rfl (by decide) ?_
  refine X_ic_lt (n := 6) (tgt := 16) (kX8_isDigit 2 rfl) rfl rfl (fun h1 => ?_) (fun h1 => ?_)
  · refine X_iconst (n := 17) (v := 0) (kX8_isDigit 8 rfl) rfl (by decide) ?_
    exact X_zret (b := false) rfl (kX8_isDigit 9 rfl)
  · refine X_iload_n (n := 7) 0 (kX8_isDigit 3 rfl) rfl rfl rfl ?_
    refine X_bipush (n := 9) (v := 57) (kX8_isDigit 4 rfl) rfl (by decide) ?_
    refine X_ic_gt (n := 12) (tgt := 16) (kX8_isDigit 5 rfl) rfl rfl (fun h2 => ?_) (fun h2 => ?_)
    · refine X_iconst (n := 17) (v := 0) (kX8_isDigit 8 rfl) rfl (by decide) ?_
      exact X_zret (b := false) rfl (kX8_isDigit 9 rfl)
    · refine X_iconst (n := 13) (v := 1) (kX8_isDigit 6 rfl) rfl (by decide) ?_
      refine X_goto (tgt := 17) (kX8_isDigit 7 rfl) rfl ?_
      exact X_zret (b := true) rfl (kX8_isDigit 9 rfl)
def t_X8_isDigit (i0 : Int32) : Bool := (if i0 < (48 : Int32) then false else (if (57 : Int32) < i0 then false else true))
theorem ft_X8_isDigit (i0 : Int32) (S : XS) : f_X8_isDigit i0 S = some (t_X8_isDigit i0, S) := by
  unfold f_X8_isDigit t_X8_isDigit
  first | rfl | simp only [ite_p]
theorem p_X8_isDigit {l : Launch} {g : XG} {i0 : Int32} {S : XS}  : Cl φB l g 1 mX8_isDigit [.int i0] S (some (t_X8_isDigit i0, S)) := ft_X8_isDigit i0 S ▸ w_X8_isDigit 
def f_X8_kindOfWord_L2  (a0 : Nat) (j1 : Int64) : Nat → Int32 → XS → Option ((Int32 × XS) ⊕ (Unit))
  | 0, _, _ => none
  | n + 1, i3, S => (if (17 : Int32) ≤ i3 then some (.inr ()) else (if i3 < 0 ∨ ln (rf a0 4) ≤ i3.toNatClampNeg then none else (if (lg_cmp j1 (S.2 (rf a0 4) i3.toNatClampNeg)) = 0 then some (.inl (((128 : Int32) + i3), S)) else f_X8_kindOfWord_L2 a0 j1 n (i3 + 1) S)))
def f_X8_kindOfWord  (a0 : Nat) (j1 : Int64) (S : XS) : Option (Int32 × XS) := ((f_X8_kindOfWord_L2 a0 j1 1000000 (0 : Int32) S).bind (fun q => match q with | .inl r => some r | .inr _ => some ((2 : Int32), S)))
set_option maxHeartbeats 4000000 in
set_option maxRecDepth 100000 in
theorem w_X8_kindOfWord_L2 {l : Launch} {g : XG} {G : ((Int32 × XS) ⊕ (Unit)) → Option (Int32 × XS)}  {a0 : Nat} {j1 : Int64} (hk0 : kd a0 = 8) {S : XS} (kE : X φI l g 1 mX8_kindOfWord 34 [] [] S (G (.inr ()))) (kR : ∀ r, G (.inl r) = some r) : ∀ (n : Nat) (i3 : Int32), X φI l g 1 mX8_kindOfWord 2 [(3, .int i3), (0, .ref a0), (1, .long j1)] [] S ((f_X8_kindOfWord_L2 a0 j1 n i3 S).bind G) := by
  intro n
  induction n with
  | zero => intro i3; exact X_none
  | succ n ih =>
  · intro i3
    rw [f_X8_kindOfWord_L2]
    refine X_iload_n (n := 3) 0 (kX8_kindOfWord 2 rfl) rfl rfl rfl ?_
    refine X_aload_n (n := 4) 1 (kX8_kindOfWord 3 rfl) rfl rfl rfl ?_
    refine X_getR (n := 7) xf_X8 hk0 (by decide) fl_X8_23 rfl (kX8_kindOfWord 4 rfl) rfl ?_
    refine X_alenJ (n := 8) (v := 17) (kt_8_4 hk0) (kX8_kindOfWord 5 rfl) rfl (by rw [lt_8_4 hk0]; rfl) ?_
    refine X_itebind ?_
    refine X_ic_ge (n := 11) (tgt := 34) (kX8_kindOfWord 6 rfl) rfl rfl (fun h1 => ?_) (fun h1 => ?_)
    · exact X_L [] rfl kE
    · refine X_lload_n (n := 12) 2 (kX8_kindOfWord 7 rfl) rfl rfl rfl ?_
      refine X_aload_n (n := 13) 1 (kX8_kindOfWord 8 rfl) rfl rfl rfl ?_
      refine X_getR (n := 16) xf_X8 hk0 (by decide) fl_X8_23 rfl (kX8_kindOfWord 9 rfl) rfl ?_
      refine X_iload_n (n := 17) 0 (kX8_kindOfWord 10 rfl) rfl rfl rfl ?_
      refine X_itebind ?_
      refine X_lald (n := 18) (kt_8_4 hk0) (kX8_kindOfWord 11 rfl) rfl (fun h3 => ?_)
      refine X_lcmp (n := 19) (kX8_kindOfWord 12 rfl) rfl ?_
      refine X_itebind ?_
      refine X_if_ne (n := 22) (tgt := 28) (kX8_kindOfWord 13 rfl) rfl rfl (fun h2 => ?_) (fun h2 => ?_)
      · refine X_sipush (n := 25) (v := 128) (kX8_kindOfWord 14 rfl) rfl (by decide) ?_
        refine X_iload_n (n := 26) 0 (kX8_kindOfWord 15 rfl) rfl rfl rfl ?_
        refine X_iadd (n := 27) (kX8_kindOfWord 16 rfl) rfl ?_
        exact X_req (kR _) (X_iret rfl (kX8_kindOfWord 17 rfl))
      · refine X_iinc (n := 31) 0 (v := (i3 + 1)) (L1 := [(3, .int (i3 + 1)), (0, .ref a0), (1, .long j1)]) (kX8_kindOfWord 18 rfl) rfl rfl rfl (Nat.le_of_ble_eq_true rfl) rfl ?_
        refine X_goto (tgt := 2) (kX8_kindOfWord 19 rfl) rfl ?_
        exact X_L [0, 1, 2] rfl (ih (i3 + 1))
set_option maxHeartbeats 4000000 in
set_option maxRecDepth 100000 in
theorem w_X8_kindOfWord {l : Launch} {g : XG}  {a0 : Nat} {j1 : Int64} {S : XS} (hk0 : kd a0 = 8) : Cl φI l g 1 mX8_kindOfWord [.ref a0, .long j1] S (f_X8_kindOfWord a0 j1 S) := by
  refine Cl.of (by decide +kernel) (Nat.le_of_ble_eq_true rfl) ?_
  unfold f_X8_kindOfWord
  show X _ _ _ _ _ 0 [(0, .ref a0), (1, .long j1)] [] S _
  refine X_iconst (n := 1) (v := 0) (kX8_kindOfWord 0 rfl) rfl (by decide) ?_
  refine X_istore_n (n := 2) (L1 := [(3, .int 0), (0, .ref a0), (1, .long j1)]) (kX8_kindOfWord 1 rfl) rfl rfl (Nat.le_of_ble_eq_true rfl) rfl ?_
  refine X_L [0, 1, 2] rfl (w_X8_kindOfWord_L2 hk0 ?_ ?_ 1000000 (0 : Int32))
  · refine X_iconst (n := 35) (v := 2) (kX8_kindOfWord 20 rfl) rfl (by decide) ?_
    exact X_iret rfl (kX8_kindOfWord 21 rfl)
  · intro r
    rfl
