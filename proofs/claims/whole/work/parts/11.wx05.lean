def f_X8_addToken  (a0 : Nat) (i1 : Int32) (i2 : Int32) (j3 : Int64) (S : XS) : Option (XS) := (if ((pat (pat S (rf a0 5) (S.1 a0 8) i1) (rf a0 6) ((pat S (rf a0 5) (S.1 a0 8) i1).1 a0 8) i2).1 a0 8) < 0 then some (pat (pat S (rf a0 5) (S.1 a0 8) i1) (rf a0 6) ((pat S (rf a0 5) (S.1 a0 8) i1).1 a0 8) i2) else (if (941 : Int32) ≤ ((pat (pat S (rf a0 5) (S.1 a0 8) i1) (rf a0 6) ((pat S (rf a0 5) (S.1 a0 8) i1).1 a0 8) i2).1 a0 8) then some (pat (pat S (rf a0 5) (S.1 a0 8) i1) (rf a0 6) ((pat S (rf a0 5) (S.1 a0 8) i1).1 a0 8) i2) else (if ((pat (pat S (rf a0 5) (S.1 a0 8) i1) (rf a0 6) ((pat S (rf a0 5) (S.1 a0 8) i1).1 a0 8) i2).1 a0 8) < 0 ∨ ln (rf a0 7) ≤ ((pat (pat S (rf a0 5) (S.1 a0 8) i1) (rf a0 6) ((pat S (rf a0 5) (S.1 a0 8) i1).1 a0 8) i2).1 a0 8).toNatClampNeg then none else some (sI (sL (pat (pat S (rf a0 5) (S.1 a0 8) i1) (rf a0 6) ((pat S (rf a0 5) (S.1 a0 8) i1).1 a0 8) i2) (rf a0 7) (((pat (pat S (rf a0 5) (S.1 a0 8) i1) (rf a0 6) ((pat S (rf a0 5) (S.1 a0 8) i1).1 a0 8) i2).1 a0 8).toNatClampNeg) j3) a0 8 (((sL (pat (pat S (rf a0 5) (S.1 a0 8) i1) (rf a0 6) ((pat S (rf a0 5) (S.1 a0 8) i1).1 a0 8) i2) (rf a0 7) (((pat (pat S (rf a0 5) (S.1 a0 8) i1) (rf a0 6) ((pat S (rf a0 5) (S.1 a0 8) i1).1 a0 8) i2).1 a0 8).toNatClampNeg) j3).1 a0 8) + (1 : Int32))))))
set_option maxHeartbeats 4000000 in
set_option maxRecDepth 100000 in
theorem w_X8_addToken {l : Launch} {g : XG}  {a0 : Nat} {i1 : Int32} {i2 : Int32} {j3 : Int64} {S : XS} (hk0 : kd a0 = 8) : Cl φV l g 2 mX8_addToken [.ref a0, .int i1, .int i2, .long j3] S (f_X8_addToken a0 i1 i2 j3 S) := by
  refine Cl.of (by decide +kernel) (Nat.le_of_ble_eq_true rfl) ?_
  unfold f_X8_addToken
  show X _ _ _ _ _ 0 [(0, .ref a0), (1, .int i1), (2, .int i2), (3, .long j3)] [] S _
  refine X_aload_n (n := 1) 0 (kX8_addToken 0 rfl) rfl rfl rfl ?_
  refine X_getR (n := 4) xf_X8 hk0 (by decide) fl_X8_27 rfl (kX8_addToken 1 rfl) rfl ?_
  refine X_aload_n (n := 5) 0 (kX8_addToken 2 rfl) rfl rfl rfl ?_
  refine X_getI (n := 8) xf_X8 hk0 (by decide) fl_X8_59 rfl (kX8_addToken 3 rfl) rfl ?_
  refine X_iload_n (n := 9) 1 (kX8_addToken 4 rfl) rfl rfl rfl ?_
  refine X_callN1V (n := 12) (As := [.ref (rf a0 5), .int (S.1 a0 8), .int i1]) (st := []) (kX8_addToken 5 rfl) rfl (p_X11_put (kt_8_5 hk0)) (by decide) nl_X8_43 mf_X11_put rfl rfl (Nat.le_of_ble_eq_true rfl) ?_
  refine X_aload_n (n := 13) 0 (kX8_addToken 6 rfl) rfl rfl rfl ?_
  refine X_getR (n := 16) xf_X8 hk0 (by decide) fl_X8_30 rfl (kX8_addToken 7 rfl) rfl ?_
  refine X_aload_n (n := 17) 0 (kX8_addToken 8 rfl) rfl rfl rfl ?_
  refine X_getI (n := 20) xf_X8 hk0 (by decide) fl_X8_59 rfl (kX8_addToken 9 rfl) rfl ?_
  refine X_iload_n (n := 21) 2 (kX8_addToken 10 rfl) rfl rfl rfl ?_
  refine X_callN1V (n := 24) (As := [.ref (rf a0 6), .int ((pat S (rf a0 5) (S.1 a0 8) i1).1 a0 8), .int i2]) (st := []) (kX8_addToken 11 rfl) rfl (p_X11_put (kt_8_6 hk0)) (by decide) nl_X8_43 mf_X11_put rfl rfl (Nat.le_of_ble_eq_true rfl) ?_
  refine X_aload_n (n := 25) 0 (kX8_addToken 12 rfl) rfl rfl rfl ?_
  refine X_getI (n := 28) xf_X8 hk0 (by decide) fl_X8_59 rfl (kX8_addToken 13 rfl) rfl ?_
  refine X_if_lt (n := 31) (tgt := 63) (kX8_addToken 14 rfl) rfl rfl (fun h1 => ?_) (fun h1 => ?_)
  · exact X_vret rfl (kX8_addToken 33 rfl)
  · refine X_aload_n (n := 32) 0 (kX8_addToken 15 rfl) rfl rfl rfl ?_
    refine X_getI (n := 35) xf_X8 hk0 (by decide) fl_X8_59 rfl (kX8_addToken 16 rfl) rfl ?_
    refine X_aload_n (n := 36) 0 (kX8_addToken 17 rfl) rfl rfl rfl ?_
    refine X_getR (n := 39) xf_X8 hk0 (by decide) fl_X8_33 rfl (kX8_addToken 18 rfl) rfl ?_
    refine X_alenJ (n := 40) (v := 941) (kt_8_7 hk0) (kX8_addToken 19 rfl) rfl (by rw [lt_8_7 hk0]; rfl) ?_
    refine X_ic_ge (n := 43) (tgt := 63) (kX8_addToken 20 rfl) rfl rfl (fun h2 => ?_) (fun h2 => ?_)
    · exact X_vret rfl (kX8_addToken 33 rfl)
    · refine X_aload_n (n := 44) 0 (kX8_addToken 21 rfl) rfl rfl rfl ?_
      refine X_getR (n := 47) xf_X8 hk0 (by decide) fl_X8_33 rfl (kX8_addToken 22 rfl) rfl ?_
      refine X_aload_n (n := 48) 0 (kX8_addToken 23 rfl) rfl rfl rfl ?_
      refine X_getI (n := 51) xf_X8 hk0 (by decide) fl_X8_59 rfl (kX8_addToken 24 rfl) rfl ?_
      refine X_lload_n (n := 52) 3 (kX8_addToken 25 rfl) rfl rfl rfl ?_
      refine X_last (n := 53) (kt_8_7 hk0) (kX8_addToken 26 rfl) rfl (fun h3 => ?_)
      refine X_aload_n (n := 54) 0 (kX8_addToken 27 rfl) rfl rfl rfl ?_
      refine X_dup (n := 55) (kX8_addToken 28 rfl) rfl rfl ?_
      refine X_getI (n := 58) xf_X8 hk0 (by decide) fl_X8_59 rfl (kX8_addToken 29 rfl) rfl ?_
      refine X_iconst (n := 59) (v := 1) (kX8_addToken 30 rfl) rfl (by decide) ?_
      refine X_iadd (n := 60) (kX8_addToken 31 rfl) rfl ?_
      refine X_putI (n := 63) xf_X8 hk0 (by decide) fl_X8_59 rfl rfl (Or.inl rfl) (kX8_addToken 32 rfl) rfl ?_
      exact X_vret rfl (kX8_addToken 33 rfl)
def f_X8_fail  (a0 : Nat) (i1 : Int32) (S : XS) : Option (Bool × XS) := some (false, (sI (sI S a0 2 i1) a0 3 (gat (sI S a0 2 i1) (rf a0 6) ((sI S a0 2 i1).1 a0 9))))
set_option maxHeartbeats 4000000 in
set_option maxRecDepth 100000 in
theorem w_X8_fail {l : Launch} {g : XG}  {a0 : Nat} {i1 : Int32} {S : XS} (hk0 : kd a0 = 8) : Cl φB l g 2 mX8_fail [.ref a0, .int i1] S (f_X8_fail a0 i1 S) := by
  refine Cl.of (by decide +kernel) (Nat.le_of_ble_eq_true rfl) ?_
  unfold f_X8_fail
  show X _ _ _ _ _ 0 [(0, .ref a0), (1, .int i1)] [] S _
  refine X_aload_n (n := 1) 0 (kX8_fail 0 rfl) rfl rfl rfl ?_
  refine X_iload_n (n := 2) 1 (kX8_fail 1 rfl) rfl rfl rfl ?_
  refine X_putI (n := 5) xf_X8 hk0 (by decide) fl_X8_53 rfl rfl (Or.inl rfl) (kX8_fail 2 rfl) rfl ?_
  refine X_aload_n (n := 6) 0 (kX8_fail 3 rfl) rfl rfl rfl ?_
  refine X_aload_n (n := 7) 0 (kX8_fail 4 rfl) rfl rfl rfl ?_
  refine X_getR (n := 10) xf_X8 hk0 (by decide) fl_X8_30 rfl (kX8_fail 5 rfl) rfl ?_
  refine X_aload_n (n := 11) 0 (kX8_fail 6 rfl) rfl rfl rfl ?_
  refine X_getI (n := 14) xf_X8 hk0 (by decide) fl_X8_69 rfl (kX8_fail 7 rfl) rfl ?_
  refine X_callN1I (n := 17) (As := [.ref (rf a0 6), .int ((sI S a0 2 i1).1 a0 9)]) (st := [.ref a0]) (kX8_fail 8 rfl) rfl (p_X11_at (kt_8_6 hk0)) (by decide) nl_X8_65 mf_X11_at rfl rfl (Nat.le_of_ble_eq_true rfl) ?_
  refine X_putI (n := 20) xf_X8 hk0 (by decide) fl_X8_56 rfl rfl (Or.inl rfl) (kX8_fail 9 rfl) rfl ?_
  refine X_iconst (n := 21) (v := 0) (kX8_fail 10 rfl) rfl (by decide) ?_
  exact X_zret (b := false) rfl (kX8_fail 11 rfl)
def t_X8_fail (a0 : Nat) (i1 : Int32) (S : XS) : Bool × XS := (false, (sI (sI S a0 2 i1) a0 3 (gat (sI S a0 2 i1) (rf a0 6) ((sI S a0 2 i1).1 a0 9))))
theorem ft_X8_fail (a0 : Nat) (i1 : Int32) (S : XS) : f_X8_fail a0 i1 S = some (t_X8_fail a0 i1 S) := by
  unfold f_X8_fail t_X8_fail
  first | rfl | simp only [ite_u]
theorem p_X8_fail {l : Launch} {g : XG} {a0 : Nat} {i1 : Int32} {S : XS} (hk0 : kd a0 = 8) : Cl φB l g 2 mX8_fail [.ref a0, .int i1] S (some (t_X8_fail a0 i1 S)) := ft_X8_fail a0 i1 S ▸ w_X8_fail hk0
def f_X8_step  (a0 : Nat) (S : XS) : Option (XS) := some (sI (sI S a0 9 (if (940 : Int32) < ((S.1 a0 9) + (1 : Int32)) then (940 : Int32) else ((S.1 a0 9) + (1 : Int32)))) a0 10 (gat (sI S a0 9 (if (940 : Int32) < ((S.1 a0 9) + (1 : Int32)) then (940 : Int32) else ((S.1 a0 9) + (1 : Int32)))) (rf a0 5) ((sI S a0 9 (if (940 : Int32) < ((S.1 a0 9) + (1 : Int32)) then (940 : Int32) else ((S.1 a0 9) + (1 : Int32)))).1 a0 9)))
set_option maxHeartbeats 4000000 in
set_option maxRecDepth 100000 in
theorem w_X8_step {l : Launch} {g : XG}  {a0 : Nat} {S : XS} (hk0 : kd a0 = 8) : Cl φV l g 2 mX8_step [.ref a0] S (f_X8_step a0 S) := by
  refine Cl.of (by decide +kernel) (Nat.le_of_ble_eq_true rfl) ?_
  unfold f_X8_step
  show X _ _ _ _ _ 0 [(0, .ref a0)] [] S _
  refine X_aload_n (n := 1) 0 (kX8_step 0 rfl) rfl rfl rfl ?_
  refine X_aload_n (n := 2) 0 (kX8_step 1 rfl) rfl rfl rfl ?_
  refine X_getI (n := 5) xf_X8 hk0 (by decide) fl_X8_69 rfl (kX8_step 2 rfl) rfl ?_
  refine X_iconst (n := 6) (v := 1) (kX8_step 3 rfl) rfl (by decide) ?_
  refine X_iadd (n := 7) (kX8_step 4 rfl) rfl ?_
  refine X_sipush (n := 10) (v := 940) (kX8_step 5 rfl) rfl (by decide) ?_
  refine X_mmin (n := 13) (kX8_step 6 rfl) rfl (by decide) ml_X8_47 ms1_min ms2 ms3_min (Nat.le_of_ble_eq_true rfl) ?_
  refine X_putI (n := 16) xf_X8 hk0 (by decide) fl_X8_69 rfl rfl (Or.inl rfl) (kX8_step 7 rfl) rfl ?_
  refine X_aload_n (n := 17) 0 (kX8_step 8 rfl) rfl rfl rfl ?_
  refine X_aload_n (n := 18) 0 (kX8_step 9 rfl) rfl rfl rfl ?_
  refine X_getR (n := 21) xf_X8 hk0 (by decide) fl_X8_27 rfl (kX8_step 10 rfl) rfl ?_
  refine X_aload_n (n := 22) 0 (kX8_step 11 rfl) rfl rfl rfl ?_
  refine X_getI (n := 25) xf_X8 hk0 (by decide) fl_X8_69 rfl (kX8_step 12 rfl) rfl ?_
  refine X_callN1I (n := 28) (As := [.ref (rf a0 5), .int ((sI S a0 9 (if (940 : Int32) < ((S.1 a0 9) + (1 : Int32)) then (940 : Int32) else ((S.1 a0 9) + (1 : Int32)))).1 a0 9)]) (st := [.ref a0]) (kX8_step 13 rfl) rfl (p_X11_at (kt_8_5 hk0)) (by decide) nl_X8_65 mf_X11_at rfl rfl (Nat.le_of_ble_eq_true rfl) ?_
  refine X_putI (n := 31) xf_X8 hk0 (by decide) fl_X8_72 rfl rfl (Or.inl rfl) (kX8_step 14 rfl) rfl ?_
  exact X_vret rfl (kX8_step 15 rfl)
def t_X8_step (a0 : Nat) (S : XS) : XS := (sI (sI S a0 9 (if (940 : Int32) < ((S.1 a0 9) + (1 : Int32)) then (940 : Int32) else ((S.1 a0 9) + (1 : Int32)))) a0 10 (gat (sI S a0 9 (if (940 : Int32) < ((S.1 a0 9) + (1 : Int32)) then (940 : Int32) else ((S.1 a0 9) + (1 : Int32)))) (rf a0 5) ((sI S a0 9 (if (940 : Int32) < ((S.1 a0 9) + (1 : Int32)) then (940 : Int32) else ((S.1 a0 9) + (1 : Int32)))).1 a0 9)))
theorem ft_X8_step (a0 : Nat) (S : XS) : f_X8_step a0 S = some (t_X8_step a0 S) := by
  unfold f_X8_step t_X8_step
  first | rfl | simp only [ite_u]
theorem p_X8_step {l : Launch} {g : XG} {a0 : Nat} {S : XS} (hk0 : kd a0 = 8) : Cl φV l g 2 mX8_step [.ref a0] S (some (t_X8_step a0 S)) := ft_X8_step a0 S ▸ w_X8_step hk0
def f_X8_failAtTaken  (a0 : Nat) (i1 : Int32) (S : XS) : Option (Bool × XS) := some (false, (sI (sI S a0 2 i1) a0 3 (gat (sI S a0 2 i1) (rf a0 6) (((sI S a0 2 i1).1 a0 9) - (1 : Int32)))))
set_option maxHeartbeats 4000000 in
set_option maxRecDepth 100000 in
theorem w_X8_failAtTaken {l : Launch} {g : XG}  {a0 : Nat} {i1 : Int32} {S : XS} (hk0 : kd a0 = 8) : Cl φB l g 2 mX8_failAtTaken [.ref a0, .int i1] S (f_X8_failAtTaken a0 i1 S) := by
  refine Cl.of (by decide +kernel) (Nat.le_of_ble_eq_true rfl) ?_
  unfold f_X8_failAtTaken
  show X _ _ _ _ _ 0 [(0, .ref a0), (1, .int i1)] [] S _
  refine X_aload_n (n := 1) 0 (kX8_failAtTaken 0 rfl) rfl rfl rfl ?_
  refine X_iload_n (n := 2) 1 (kX8_failAtTaken 1 rfl) rfl rfl rfl ?_
  refine X_putI (n := 5) xf_X8 hk0 (by decide) fl_X8_53 rfl rfl (Or.inl rfl) (kX8_failAtTaken 2 rfl) rfl ?_
  refine X_aload_n (n := 6) 0 (kX8_failAtTaken 3 rfl) rfl rfl rfl ?_
  refine X_aload_n (n := 7) 0 (kX8_failAtTaken 4 rfl) rfl rfl rfl ?_
  refine X_getR (n := 10) xf_X8 hk0 (by decide) fl_X8_30 rfl (kX8_failAtTaken 5 rfl) rfl ?_
  refine X_aload_n (n := 11) 0 (kX8_failAtTaken 6 rfl) rfl rfl rfl ?_
  refine X_getI (n := 14) xf_X8 hk0 (by decide) fl_X8_69 rfl (kX8_failAtTaken 7 rfl) rfl ?_
  refine X_iconst (n := 15) (v := 1) (kX8_failAtTaken 8 rfl) rfl (by decide) ?_
  refine X_isub (n := 16) (kX8_failAtTaken 9 rfl) rfl ?_
  refine X_callN1I (n := 19) (As := [.ref (rf a0 6), .int (((sI S a0 2 i1).1 a0 9) - (1 : Int32))]) (st := [.ref a0]) (kX8_failAtTaken 10 rfl) rfl (p_X11_at (kt_8_6 hk0)) (by decide) nl_X8_65 mf_X11_at rfl rfl (Nat.le_of_ble_eq_true rfl) ?_
  refine X_putI (n := 22) xf_X8 hk0 (by decide) fl_X8_56 rfl rfl (Or.inl rfl) (kX8_failAtTaken 11 rfl) rfl ?_
  refine X_iconst (n := 23) (v := 0) (kX8_failAtTaken 12 rfl) rfl (by decide) ?_
  exact X_zret (b := false) rfl (kX8_failAtTaken 13 rfl)
def t_X8_failAtTaken (a0 : Nat) (i1 : Int32) (S : XS) : Bool × XS := (false, (sI (sI S a0 2 i1) a0 3 (gat (sI S a0 2 i1) (rf a0 6) (((sI S a0 2 i1).1 a0 9) - (1 : Int32)))))
theorem ft_X8_failAtTaken (a0 : Nat) (i1 : Int32) (S : XS) : f_X8_failAtTaken a0 i1 S = some (t_X8_failAtTaken a0 i1 S) := by
  unfold f_X8_failAtTaken t_X8_failAtTaken
  first | rfl | simp only [ite_u]
theorem p_X8_failAtTaken {l : Launch} {g : XG} {a0 : Nat} {i1 : Int32} {S : XS} (hk0 : kd a0 = 8) : Cl φB l g 2 mX8_failAtTaken [.ref a0, .int i1] S (some (t_X8_failAtTaken a0 i1 S)) := ft_X8_failAtTaken a0 i1 S ▸ w_X8_failAtTaken hk0
def f_X3_addLine  (a0 : Nat) (i1 : Int32) (S : XS) : Option (Bool × XS) := some (true, (pat S (rf (rf a0 1) 0) i1 ((gat S (rf (rf a0 1) 0) i1) + (1 : Int32))))
set_option maxHeartbeats 4000000 in
set_option maxRecDepth 100000 in
theorem w_X3_addLine {l : Launch} {g : XG}  {a0 : Nat} {i1 : Int32} {S : XS} (hk0 : kd a0 = 3) : Cl φB l g 2 mX3_addLine [.ref a0, .int i1] S (f_X3_addLine a0 i1 S) := by
  refine Cl.of (by decide +kernel) (Nat.le_of_ble_eq_true rfl) ?_
  unfold f_X3_addLine
  show X _ _ _ _ _ 0 [(0, .ref a0), (1, .int i1)] [] S _
  refine X_aload_n (n := 1) 0 (kX3_addLine 0 rfl) rfl rfl rfl ?_
  refine X_getR (n := 4) xf_X3 hk0 (by decide) fl_X3_12 rfl (kX3_addLine 1 rfl) rfl ?_
  refine X_getR (n := 7) xf_X2 (kt_3_1 hk0) (by decide) fl_X3_59 rfl (kX3_addLine 2 rfl) rfl ?_
  refine X_iload_n (n := 8) 1 (kX3_addLine 3 rfl) rfl rfl rfl ?_
  refine X_aload_n (n := 9) 0 (kX3_addLine 4 rfl) rfl rfl rfl ?_
  refine X_getR (n := 12) xf_X3 hk0 (by decide) fl_X3_12 rfl (kX3_addLine 5 rfl) rfl ?_
  refine X_getR (n := 15) xf_X2 (kt_3_1 hk0) (by decide) fl_X3_59 rfl (kX3_addLine 6 rfl) rfl ?_
  refine X_iload_n (n := 16) 1 (kX3_addLine 7 rfl) rfl rfl rfl ?_
  refine X_callN1I (n := 19) (As := [.ref (rf (rf a0 1) 0), .int i1]) (st := [.int i1, .ref (rf (rf a0 1) 0)]) (kX3_addLine 8 rfl) rfl (p_X11_at (kt_2_0 (kt_3_1 hk0))) (by decide) nl_X3_62 mf_X11_at rfl rfl (Nat.le_of_ble_eq_true rfl) ?_
  refine X_iconst (n := 20) (v := 1) (kX3_addLine 9 rfl) rfl (by decide) ?_
  refine X_iadd (n := 21) (kX3_addLine 10 rfl) rfl ?_
  refine X_callN1V (n := 24) (As := [.ref (rf (rf a0 1) 0), .int i1, .int ((gat S (rf (rf a0 1) 0) i1) + (1 : Int32))]) (st := []) (kX3_addLine 11 rfl) rfl (p_X11_put (kt_2_0 (kt_3_1 hk0))) (by decide) nl_X3_104 mf_X11_put rfl rfl (Nat.le_of_ble_eq_true rfl) ?_
  refine X_iconst (n := 25) (v := 1) (kX3_addLine 12 rfl) rfl (by decide) ?_
  exact X_zret (b := true) rfl (kX3_addLine 13 rfl)
def t_X3_addLine (a0 : Nat) (i1 : Int32) (S : XS) : Bool × XS := (true, (pat S (rf (rf a0 1) 0) i1 ((gat S (rf (rf a0 1) 0) i1) + (1 : Int32))))
theorem ft_X3_addLine (a0 : Nat) (i1 : Int32) (S : XS) : f_X3_addLine a0 i1 S = some (t_X3_addLine a0 i1 S) := by
  unfold f_X3_addLine t_X3_addLine
  first | rfl | simp only [ite_u]
theorem p_X3_addLine {l : Launch} {g : XG} {a0 : Nat} {i1 : Int32} {S : XS} (hk0 : kd a0 = 3) : Cl φB l g 2 mX3_addLine [.ref a0, .int i1] S (some (t_X3_addLine a0 i1 S)) := ft_X3_addLine a0 i1 S ▸ w_X3_addLine hk0
def f_X11_strongest_L7  (a0 : Nat) (i1 : Int32) : Nat → Int32 → Int32 → Int32 → XS → Option (Int32)
  | 0, _, _, _, _ => none
  | n + 1, i2, i3, i4, S => (if (6 : Int32) ≤ i4 then some i2 else (if (gat S a0 ((i1 * (6 : Int32)) + i4)) ≤ i3 then f_X11_strongest_L7 a0 i1 n i2 i3 (i4 + 1) S else f_X11_strongest_L7 a0 i1 n i4 (gat S a0 ((i1 * (6 : Int32)) + i4)) (i4 + 1) S))
def f_X11_strongest  (a0 : Nat) (i1 : Int32) (S : XS) : Option (Int32 × XS) := ((f_X11_strongest_L7 a0 i1 1000000 (-1 : Int32) (0 : Int32) (0 : Int32) S).bind (fun e3 => some (e3, S)))
set_option maxHeartbeats 4000000 in
set_option maxRecDepth 100000 in
theorem w_X11_strongest_L7 {l : Launch} {g : XG} {G : (Int32) → Option (Int32 × XS)}  {a0 : Nat} {i1 : Int32} (hk0 : kd a0 = 20) {S : XS} (kE : ∀ (e2 : Int32), X φI l g 2 mX11_strongest 45 [(2, .int e2)] [] S (G e2)) : ∀ (n : Nat) (i2 : Int32) (i3 : Int32) (i4 : Int32), X φI l g 2 mX11_strongest 7 [(4, .int i4), (3, .int i3), (2, .int i2), (0, .ref a0), (1, .int i1)] [] S ((f_X11_strongest_L7 a0 i1 n i2 i3 i4 S).bind G) := by
  intro n
  induction n with
  | zero => intro i2 i3 i4; exact X_none
  | succ n ih =>
  · intro i2 i3 i4
    rw [f_X11_strongest_L7]
    refine X_iload (n := 9) 0 (kX11_strongest 6 rfl) rfl rfl ?_
    refine X_bipush (n := 11) (v := 6) (kX11_strongest 7 rfl) rfl (by decide) ?_
    refine X_itebind ?_
    refine X_ic_ge (n := 14) (tgt := 45) (kX11_strongest 8 rfl) rfl rfl (fun h1 => ?_) (fun h1 => ?_)
    · exact X_L [2] rfl (kE i2)
    · refine X_aload_n (n := 15) 3 (kX11_strongest 9 rfl) rfl rfl rfl ?_
      refine X_iload_n (n := 16) 4 (kX11_strongest 10 rfl) rfl rfl rfl ?_
      refine X_bipush (n := 18) (v := 6) (kX11_strongest 11 rfl) rfl (by decide) ?_
      refine X_imul (n := 19) (kX11_strongest 12 rfl) rfl ?_
      refine X_iload (n := 21) 0 (kX11_strongest 13 rfl) rfl rfl ?_
      refine X_iadd (n := 22) (kX11_strongest 14 rfl) rfl ?_
      refine X_callS1I (n := 25) (As := [.ref a0, .int ((i1 * (6 : Int32)) + i4)]) (st := []) (kX11_strongest 15 rfl) rfl (p_X11_at hk0) (by decide) ml_X11_154 mf_X11_at rfl rfl (Nat.le_of_ble_eq_true rfl) ?_
      refine X_istore (n := 27) (L1 := [(5, .int (gat S a0 ((i1 * (6 : Int32)) + i4))), (4, .int i4), (3, .int i3), (2, .int i2), (0, .ref a0), (1, .int i1)]) (kX11_strongest 16 rfl) rfl (Nat.le_of_ble_eq_true rfl) rfl ?_
      refine X_iload (n := 29) 0 (kX11_strongest 17 rfl) rfl rfl ?_
      refine X_iload_n (n := 30) 2 (kX11_strongest 18 rfl) rfl rfl rfl ?_
      refine X_itebind ?_
      refine X_ic_le (n := 33) (tgt := 39) (kX11_strongest 19 rfl) rfl rfl (fun h2 => ?_) (fun h2 => ?_)
      · refine X_iinc (n := 42) 1 (v := (i4 + 1)) (L1 := [(4, .int (i4 + 1)), (5, .int (gat S a0 ((i1 * (6 : Int32)) + i4))), (3, .int i3), (2, .int i2), (0, .ref a0), (1, .int i1)]) (kX11_strongest 24 rfl) rfl rfl rfl (Nat.le_of_ble_eq_true rfl) rfl ?_
        refine X_goto (tgt := 7) (kX11_strongest 25 rfl) rfl ?_
        exact X_L [0, 2, 3, 4, 5] rfl (ih i2 i3 (i4 + 1))
      · refine X_iload (n := 35) 1 (kX11_strongest 20 rfl) rfl rfl ?_
        refine X_istore_n (n := 36) (L1 := [(2, .int i4), (5, .int (gat S a0 ((i1 * (6 : Int32)) + i4))), (4, .int i4), (3, .int i3), (0, .ref a0), (1, .int i1)]) (kX11_strongest 21 rfl) rfl rfl (Nat.le_of_ble_eq_true rfl) rfl ?_
        refine X_iload (n := 38) 1 (kX11_strongest 22 rfl) rfl rfl ?_
        refine X_istore_n (n := 39) (L1 := [(3, .int (gat S a0 ((i1 * (6 : Int32)) + i4))), (2, .int i4), (5, .int (gat S a0 ((i1 * (6 : Int32)) + i4))), (4, .int i4), (0, .ref a0), (1, .int i1)]) (kX11_strongest 23 rfl) rfl rfl (Nat.le_of_ble_eq_true rfl) rfl ?_
        refine X_iinc (n := 42) 3 (v := (i4 + 1)) (L1 := [(4, .int (i4 + 1)), (3, .int (gat S a0 ((i1 * (6 : Int32)) + i4))), (2, .int i4), (5, .int (gat S a0 ((i1 * (6 : Int32)) + i4))), (0, .ref a0), (1, .int i1)]) (kX11_strongest 24 rfl) rfl rfl rfl (Nat.le_of_ble_eq_true rfl) rfl ?_
        refine X_goto (tgt := 7) (kX11_strongest 25 rfl) rfl ?_
        exact X_L [0, 1, 2, 4, 5] rfl (ih i4 (gat S a0 ((i1 * (6 : Int32)) + i4)) (i4 + 1))
set_option maxHeartbeats 4000000 in
set_option maxRecDepth 100000 in
theorem w_X11_strongest {l : Launch} {g : XG}  {a0 : Nat} {i1 : Int32} {S : XS} (hk0 : kd a0 = 20) : Cl φI l g 2 mX11_strongest [.ref a0, .int i1] S (f_X11_strongest a0 i1 S) := by
  refine Cl.of (by decide +kernel) (Nat.le_of_ble_eq_true rfl) ?_
  unfold f_X11_strongest
  show X _ _ _ _ _ 0 [(0, .ref a0), (1, .int i1)] [] S _
  refine X_iconst (n := 1) (v := (-1)) (kX11_strongest 0 rfl) rfl (by decide) ?_
  refine X_istore_n (n := 2) (L1 := [(2, .int (-1)), (0, .ref a0), (1, .int i1)]) (kX11_strongest 1 rfl) rfl rfl (Nat.le_of_ble_eq_true rfl) rfl ?_
  refine X_iconst (n := 3) (v := 0) (kX11_strongest 2 rfl) rfl (by decide) ?_
  refine X_istore_n (n := 4) (L1 := [(3, .int 0), (2, .int (-1)), (0, .ref a0), (1, .int i1)]) (kX11_strongest 3 rfl) rfl rfl (Nat.le_of_ble_eq_true rfl) rfl ?_
  refine X_iconst (n := 5) (v := 0) (kX11_strongest 4 rfl) rfl (by decide) ?_
  refine X_istore (n := 7) (L1 := [(4, .int 0), (3, .int 0), (2, .int (-1)), (0, .ref a0), (1, .int i1)]) (kX11_strongest 5 rfl) rfl (Nat.le_of_ble_eq_true rfl) rfl ?_
  refine X_L [0, 1, 2, 3, 4] rfl (w_X11_strongest_L7 hk0 (fun e3 => ?_) 1000000 (-1 : Int32) (0 : Int32) (0 : Int32))
  try dsimp only
  refine X_iload_n (n := 46) 0 (kX11_strongest 26 rfl) rfl rfl rfl ?_
  exact X_iret rfl (kX11_strongest 27 rfl)
def f_X4_isDrowned  (a0 : Nat) (i1 : Int32) (i2 : Int32) (a3 : Nat) (i4 : Int32) (S : XS) : Option (Bool × XS) := (if i2 = (-1 : Int32) then some (true, S) else (if (gat S a3 ((i4 * (6 : Int32)) + i2)) < (gat S (rf a0 5) ((i1 * (6 : Int32)) + i2)) then some (false, S) else some (true, S)))
set_option maxHeartbeats 4000000 in
set_option maxRecDepth 100000 in
theorem w_X4_isDrowned {l : Launch} {g : XG}  {a0 : Nat} {i1 : Int32} {i2 : Int32} {a3 : Nat} {i4 : Int32} {S : XS} (hk0 : kd a0 = 10) (hk3 : kd a3 = 20) : Cl φB l g 2 mX4_isDrowned [.ref a0, .int i1, .int i2, .ref a3, .int i4] S (f_X4_isDrowned a0 i1 i2 a3 i4 S) := by
  refine Cl.of (by decide +kernel) (Nat.le_of_ble_eq_true rfl) ?_
  unfold f_X4_isDrowned
  show X _ _ _ _ _ 0 [(0, .ref a0), (1, .int i1), (2, .int i2), (3, .ref a3), (4, .int i4)] [] S _
  refine X_iload_n (n := 1) 2 (kX4_isDrowned 0 rfl) rfl rfl rfl ?_
  refine X_iconst (n := 2) (v := (-1)) (kX4_isDrowned 1 rfl) rfl (by decide) ?_
  refine X_ic_eq (n := 5) (tgt := 32) (kX4_isDrowned 2 rfl) rfl rfl (fun h1 => ?_) (fun h1 => ?_)
  · refine X_iconst (n := 33) (v := 1) (kX4_isDrowned 19 rfl) rfl (by decide) ?_
    refine X_goto (tgt := 37) (kX4_isDrowned 20 rfl) rfl ?_
    exact X_zret (b := true) rfl (kX4_isDrowned 22 rfl)
  · refine X_aload_n (n := 6) 3 (kX4_isDrowned 3 rfl) rfl rfl rfl ?_
    refine X_iload (n := 8) 4 (kX4_isDrowned 4 rfl) rfl rfl ?_
    refine X_bipush (n := 10) (v := 6) (kX4_isDrowned 5 rfl) rfl (by decide) ?_
    refine X_imul (n := 11) (kX4_isDrowned 6 rfl) rfl ?_
    refine X_iload_n (n := 12) 2 (kX4_isDrowned 7 rfl) rfl rfl rfl ?_
    refine X_iadd (n := 13) (kX4_isDrowned 8 rfl) rfl ?_
    refine X_callN1I (n := 16) (As := [.ref a3, .int ((i4 * (6 : Int32)) + i2)]) (st := []) (kX4_isDrowned 9 rfl) rfl (p_X11_at hk3) (by decide) nl_X4_53 mf_X11_at rfl rfl (Nat.le_of_ble_eq_true rfl) ?_
    refine X_aload_n (n := 17) 0 (kX4_isDrowned 10 rfl) rfl rfl rfl ?_
    refine X_getR (n := 20) xf_X10 hk0 (by decide) fl_X4_67 rfl (kX4_isDrowned 11 rfl) rfl ?_
    refine X_iload_n (n := 21) 1 (kX4_isDrowned 12 rfl) rfl rfl rfl ?_
    refine X_bipush (n := 23) (v := 6) (kX4_isDrowned 13 rfl) rfl (by decide) ?_
    refine X_imul (n := 24) (kX4_isDrowned 14 rfl) rfl ?_
    refine X_iload_n (n := 25) 2 (kX4_isDrowned 15 rfl) rfl rfl rfl ?_
    refine X_iadd (n := 26) (kX4_isDrowned 16 rfl) rfl ?_
    refine X_callN1I (n := 29) (As := [.ref (rf a0 5), .int ((i1 * (6 : Int32)) + i2)]) (st := [.int (gat S a3 ((i4 * (6 : Int32)) + i2))]) (kX4_isDrowned 17 rfl) rfl (p_X11_at (kt_10_5 hk0)) (by decide) nl_X4_53 mf_X11_at rfl rfl (Nat.le_of_ble_eq_true rfl) ?_
    refine X_ic_lt (n := 32) (tgt := 36) (kX4_isDrowned 18 rfl) rfl rfl (fun h2 => ?_) (fun h2 => ?_)
    · refine X_iconst (n := 37) (v := 0) (kX4_isDrowned 21 rfl) rfl (by decide) ?_
      exact X_zret (b := false) rfl (kX4_isDrowned 22 rfl)
    · refine X_iconst (n := 33) (v := 1) (kX4_isDrowned 19 rfl) rfl (by decide) ?_
      refine X_goto (tgt := 37) (kX4_isDrowned 20 rfl) rfl ?_
      exact X_zret (b := true) rfl (kX4_isDrowned 22 rfl)
def t_X4_isDrowned (a0 : Nat) (i1 : Int32) (i2 : Int32) (a3 : Nat) (i4 : Int32) (S : XS) : Bool := (if i2 = (-1 : Int32) then true else (if (gat S a3 ((i4 * (6 : Int32)) + i2)) < (gat S (rf a0 5) ((i1 * (6 : Int32)) + i2)) then false else true))
theorem ft_X4_isDrowned (a0 : Nat) (i1 : Int32) (i2 : Int32) (a3 : Nat) (i4 : Int32) (S : XS) : f_X4_isDrowned a0 i1 i2 a3 i4 S = some (t_X4_isDrowned a0 i1 i2 a3 i4 S, S) := by
  unfold f_X4_isDrowned t_X4_isDrowned
  first | rfl | simp only [ite_p]
theorem p_X4_isDrowned {l : Launch} {g : XG} {a0 : Nat} {i1 : Int32} {i2 : Int32} {a3 : Nat} {i4 : Int32} {S : XS} (hk0 : kd a0 = 10) (hk3 : kd a3 = 20) : Cl φB l g 2 mX4_isDrowned [.ref a0, .int i1, .int i2, .ref a3, .int i4] S (some (t_X4_isDrowned a0 i1 i2 a3 i4 S, S)) := ft_X4_isDrowned a0 i1 i2 a3 i4 S ▸ w_X4_isDrowned hk0 hk3
def f_X4_open_L3  (a0 : Nat) (i1 : Int32) (a2 : Nat) (i3 : Int32) (i4 : Int32) : Nat → Int32 → XS → Option (XS)
  | 0, _, _ => none
  | n + 1, i5, S => (if (6 : Int32) ≤ i5 then some S else f_X4_open_L3 a0 i1 a2 i3 i4 n (i5 + 1) (pat S a2 ((i4 * (6 : Int32)) + i5) (if ((gat S a2 ((i3 * (6 : Int32)) + i5)) / (2 : Int32)) < (gat S (rf a0 5) ((i1 * (6 : Int32)) + i5)) then (gat S (rf a0 5) ((i1 * (6 : Int32)) + i5)) else ((gat S a2 ((i3 * (6 : Int32)) + i5)) / (2 : Int32)))))
def f_X4_open  (a0 : Nat) (i1 : Int32) (a2 : Nat) (i3 : Int32) (i4 : Int32) (S : XS) : Option (XS) := ((f_X4_open_L3 a0 i1 a2 i3 i4 1000000 (0 : Int32) S).bind (fun S2 => some S2))
set_option maxHeartbeats 4000000 in
set_option maxRecDepth 100000 in
theorem w_X4_open_L3 {l : Launch} {g : XG} {G : (XS) → Option (XS)}  {a0 : Nat} {i1 : Int32} {a2 : Nat} {i3 : Int32} {i4 : Int32} (hk0 : kd a0 = 10) (hk2 : kd a2 = 20) (kE : ∀ (S1 : XS), X φV l g 2 mX4_open 62 [] [] S1 (G S1)) : ∀ (n : Nat) (i5 : Int32) (S : XS), X φV l g 2 mX4_open 3 [(5, .int i5), (0, .ref a0), (1, .int i1), (2, .ref a2), (3, .int i3), (4, .int i4)] [] S ((f_X4_open_L3 a0 i1 a2 i3 i4 n i5 S).bind G) := by
  intro n
  induction n with
  | zero => intro i5 S; exact X_none
  | succ n ih =>
  · intro i5 S
    rw [f_X4_open_L3]
    refine X_iload (n := 5) 0 (kX4_open 2 rfl) rfl rfl ?_
    refine X_bipush (n := 7) (v := 6) (kX4_open 3 rfl) rfl (by decide) ?_
    refine X_itebind ?_
    refine X_ic_ge (n := 10) (tgt := 62) (kX4_open 4 rfl) rfl rfl (fun h1 => ?_) (fun h1 => ?_)
    · exact X_L [] rfl (kE S)
    · refine X_aload_n (n := 11) 3 (kX4_open 5 rfl) rfl rfl rfl ?_
      refine X_iload_n (n := 12) 4 (kX4_open 6 rfl) rfl rfl rfl ?_
      refine X_bipush (n := 14) (v := 6) (kX4_open 7 rfl) rfl (by decide) ?_
      refine X_imul (n := 15) (kX4_open 8 rfl) rfl ?_
      refine X_iload (n := 17) 0 (kX4_open 9 rfl) rfl rfl ?_
      refine X_iadd (n := 18) (kX4_open 10 rfl) rfl ?_
      refine X_callN1I (n := 21) (As := [.ref a2, .int ((i3 * (6 : Int32)) + i5)]) (st := []) (kX4_open 11 rfl) rfl (p_X11_at hk2) (by decide) nl_X4_53 mf_X11_at rfl rfl (Nat.le_of_ble_eq_true rfl) ?_
      refine X_iconst (n := 22) (v := 2) (kX4_open 12 rfl) rfl (by decide) ?_
      refine X_idiv' (n := 23) (kX4_open 13 rfl) rfl (by decide) ?_
      refine X_istore (n := 25) (L1 := [(6, .int ((gat S a2 ((i3 * (6 : Int32)) + i5)) / (2 : Int32))), (5, .int i5), (0, .ref a0), (1, .int i1), (2, .ref a2), (3, .int i3), (4, .int i4)]) (kX4_open 14 rfl) rfl (Nat.le_of_ble_eq_true rfl) rfl ?_
      refine X_aload_n (n := 26) 4 (kX4_open 15 rfl) rfl rfl rfl ?_
      refine X_iload (n := 28) 6 (kX4_open 16 rfl) rfl rfl ?_
      refine X_bipush (n := 30) (v := 6) (kX4_open 17 rfl) rfl (by decide) ?_
      refine X_imul (n := 31) (kX4_open 18 rfl) rfl ?_
      refine X_iload (n := 33) 1 (kX4_open 19 rfl) rfl rfl ?_
      refine X_iadd (n := 34) (kX4_open 20 rfl) rfl ?_
      refine X_iload (n := 36) 0 (kX4_open 21 rfl) rfl rfl ?_
      refine X_aload_n (n := 37) 2 (kX4_open 22 rfl) rfl rfl rfl ?_
      refine X_getR (n := 40) xf_X10 hk0 (by decide) fl_X4_67 rfl (kX4_open 23 rfl) rfl ?_
      refine X_iload_n (n := 41) 3 (kX4_open 24 rfl) rfl rfl rfl ?_
      refine X_bipush (n := 43) (v := 6) (kX4_open 25 rfl) rfl (by decide) ?_
      refine X_imul (n := 44) (kX4_open 26 rfl) rfl ?_
      refine X_iload (n := 46) 1 (kX4_open 27 rfl) rfl rfl ?_
      refine X_iadd (n := 47) (kX4_open 28 rfl) rfl ?_
      refine X_callN1I (n := 50) (As := [.ref (rf a0 5), .int ((i1 * (6 : Int32)) + i5)]) (st := [.int ((gat S a2 ((i3 * (6 : Int32)) + i5)) / (2 : Int32)), .int ((i4 * (6 : Int32)) + i5), .ref a2]) (kX4_open 29 rfl) rfl (p_X11_at (kt_10_5 hk0)) (by decide) nl_X4_53 mf_X11_at rfl rfl (Nat.le_of_ble_eq_true rfl) ?_
      refine X_mmax (n := 53) (kX4_open 30 rfl) rfl (by decide) ml_X4_119 ms1_max ms2 ms3_max (Nat.le_of_ble_eq_true rfl) ?_
      refine X_callN1V (n := 56) (As := [.ref a2, .int ((i4 * (6 : Int32)) + i5), .int (if ((gat S a2 ((i3 * (6 : Int32)) + i5)) / (2 : Int32)) < (gat S (rf a0 5) ((i1 * (6 : Int32)) + i5)) then (gat S (rf a0 5) ((i1 * (6 : Int32)) + i5)) else ((gat S a2 ((i3 * (6 : Int32)) + i5)) / (2 : Int32)))]) (st := []) (kX4_open 31 rfl) rfl (p_X11_put hk2) (by decide) nl_X4_73 mf_X11_put rfl rfl (Nat.le_of_ble_eq_true rfl) ?_
      refine X_iinc (n := 59) 1 (v := (i5 + 1)) (L1 := [(5, .int (i5 + 1)), (6, .int ((gat S a2 ((i3 * (6 : Int32)) + i5)) / (2 : Int32))), (0, .ref a0), (1, .int i1), (2, .ref a2), (3, .int i3), (4, .int i4)]) (kX4_open 32 rfl) rfl rfl rfl (Nat.le_of_ble_eq_true rfl) rfl ?_
      refine X_goto (tgt := 3) (kX4_open 33 rfl) rfl ?_
      exact X_L [0, 2, 3, 4, 5, 6] rfl (ih (i5 + 1) (pat S a2 ((i4 * (6 : Int32)) + i5) (if ((gat S a2 ((i3 * (6 : Int32)) + i5)) / (2 : Int32)) < (gat S (rf a0 5) ((i1 * (6 : Int32)) + i5)) then (gat S (rf a0 5) ((i1 * (6 : Int32)) + i5)) else ((gat S a2 ((i3 * (6 : Int32)) + i5)) / (2 : Int32)))))
set_option maxHeartbeats 4000000 in
set_option maxRecDepth 100000 in
theorem w_X4_open {l : Launch} {g : XG}  {a0 : Nat} {i1 : Int32} {a2 : Nat} {i3 : Int32} {i4 : Int32} {S : XS} (hk0 : kd a0 = 10) (hk2 : kd a2 = 20) : Cl φV l g 2 mX4_open [.ref a0, .int i1, .ref a2, .int i3, .int i4] S (f_X4_open a0 i1 a2 i3 i4 S) := by
  refine Cl.of (by decide +kernel) (Nat.le_of_ble_eq_true rfl) ?_
  unfold f_X4_open
  show X _ _ _ _ _ 0 [(0, .ref a0), (1, .int i1), (2, .ref a2), (3, .int i3), (4, .int i4)] [] S _
  refine X_iconst (n := 1) (v := 0) (kX4_open 0 rfl) rfl (by decide) ?_
  refine X_istore (n := 3) (L1 := [(5, .int 0), (0, .ref a0), (1, .int i1), (2, .ref a2), (3, .int i3), (4, .int i4)]) (kX4_open 1 rfl) rfl (Nat.le_of_ble_eq_true rfl) rfl ?_
  refine X_L [0, 1, 2, 3, 4, 5] rfl (w_X4_open_L3 hk0 hk2 (fun S2 => ?_) 1000000 (0 : Int32) S)
  try dsimp only
  exact X_vret rfl (kX4_open 34 rfl)
