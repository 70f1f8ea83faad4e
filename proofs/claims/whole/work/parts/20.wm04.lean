def f_X12_clothAt  (a0 : Nat) (i1 : Int32) (S : XS) : Option (Int32 × XS) := some ((((194 : Int32) + ((10 : Int32) * i1)) + (4 : Int32)), S)
set_option maxHeartbeats 4000000 in
set_option maxRecDepth 100000 in
theorem w_X12_clothAt {l : Launch} {g : XG}  {a0 : Nat} {i1 : Int32} {S : XS} (hk0 : kd a0 = 12) : Cl φI l g 1 mX12_clothAt [.ref a0, .int i1] S (f_X12_clothAt a0 i1 S) := by
  refine Cl.of (by decide +kernel) (Nat.le_of_ble_eq_true rfl) ?_
  unfold f_X12_clothAt
  show X _ _ _ _ _ 0 [(0, .ref a0), (1, .int i1)] [] S _
  refine X_sipush (n := 3) (v := 194) (kX12_clothAt 0 rfl) rfl (by decide) ?_
  refine X_bipush (n := 5) (v := 10) (kX12_clothAt 1 rfl) rfl (by decide) ?_
  refine X_iload_n (n := 6) 1 (kX12_clothAt 2 rfl) rfl rfl rfl ?_
  refine X_imul (n := 7) (kX12_clothAt 3 rfl) rfl ?_
  refine X_iadd (n := 8) (kX12_clothAt 4 rfl) rfl ?_
  refine X_iconst (n := 9) (v := 4) (kX12_clothAt 5 rfl) rfl (by decide) ?_
  refine X_iadd (n := 10) (kX12_clothAt 6 rfl) rfl ?_
  exact X_iret rfl (kX12_clothAt 7 rfl)
def t_X12_clothAt (a0 : Nat) (i1 : Int32) : Int32 := (((194 : Int32) + ((10 : Int32) * i1)) + (4 : Int32))
theorem ft_X12_clothAt (a0 : Nat) (i1 : Int32) (S : XS) : f_X12_clothAt a0 i1 S = some (t_X12_clothAt a0 i1, S) := by
  unfold f_X12_clothAt t_X12_clothAt
  first | rfl | simp only [ite_p]
theorem p_X12_clothAt {l : Launch} {g : XG} {a0 : Nat} {i1 : Int32} {S : XS} (hk0 : kd a0 = 12) : Cl φI l g 1 mX12_clothAt [.ref a0, .int i1] S (some (t_X12_clothAt a0 i1, S)) := ft_X12_clothAt a0 i1 S ▸ w_X12_clothAt hk0
def f_X12_draw  (a0 : Nat) (i1 : Int32) (S : XS) : Option (Int32 × XS) := (if i1 = 0 then none else some ((rem32 (ushr32 ((sI S a0 47 (((S.1 a0 47) * (1103515245 : Int32)) + (12345 : Int32))).1 a0 47) (8 : Int32)) i1), (sI S a0 47 (((S.1 a0 47) * (1103515245 : Int32)) + (12345 : Int32)))))
set_option maxHeartbeats 4000000 in
set_option maxRecDepth 100000 in
theorem w_X12_draw {l : Launch} {g : XG}  {a0 : Nat} {i1 : Int32} {S : XS} (hk0 : kd a0 = 12) : Cl φI l g 1 mX12_draw [.ref a0, .int i1] S (f_X12_draw a0 i1 S) := by
  refine Cl.of (by decide +kernel) (Nat.le_of_ble_eq_true rfl) ?_
  unfold f_X12_draw
  show X _ _ _ _ _ 0 [(0, .ref a0), (1, .int i1)] [] S _
  refine X_aload_n (n := 1) 0 (kX12_draw 0 rfl) rfl rfl rfl ?_
  refine X_aload_n (n := 2) 0 (kX12_draw 1 rfl) rfl rfl rfl ?_
  refine X_getI (n := 5) xf_X12 hk0 (by decide) fl_X12_380 rfl (kX12_draw 2 rfl) rfl ?_
  refine X_ldcw (n := 8) (kX12_draw 3 rfl) rfl cl_X12_383 ?_
  refine X_imul (n := 9) (kX12_draw 4 rfl) rfl ?_
  refine X_sipush (n := 12) (v := 12345) (kX12_draw 5 rfl) rfl (by decide) ?_
  refine X_iadd (n := 13) (kX12_draw 6 rfl) rfl ?_
  refine X_putI (n := 16) xf_X12 hk0 (by decide) fl_X12_380 rfl rfl (Or.inl rfl) (kX12_draw 7 rfl) rfl ?_
  refine X_aload_n (n := 17) 0 (kX12_draw 8 rfl) rfl rfl rfl ?_
  refine X_getI (n := 20) xf_X12 hk0 (by decide) fl_X12_380 rfl (kX12_draw 9 rfl) rfl ?_
  refine X_bipush (n := 22) (v := 8) (kX12_draw 10 rfl) rfl (by decide) ?_
  refine X_iushr (n := 23) (kX12_draw 11 rfl) rfl ?_
  refine X_iload_n (n := 24) 1 (kX12_draw 12 rfl) rfl rfl rfl ?_
  refine X_irem (n := 25) (kX12_draw 13 rfl) rfl (fun h1 => ?_)
  exact X_iret rfl (kX12_draw 14 rfl)
def f_X12_canDraw  (a0 : Nat) (i1 : Int32) (S : XS) : Option (Bool × XS) := (if (S.1 (rf a0 14) 3) ≤ 0 then some (false, S) else (if (S.1 (rf a0 14) 1) ≤ 0 then some (false, S) else (if (999 : Int32) < ((S.1 (rf a0 14) 144) + i1) then some (false, S) else some (true, S))))
set_option maxHeartbeats 4000000 in
set_option maxRecDepth 100000 in
theorem w_X12_canDraw {l : Launch} {g : XG}  {a0 : Nat} {i1 : Int32} {S : XS} (hk0 : kd a0 = 12) : Cl φB l g 1 mX12_canDraw [.ref a0, .int i1] S (f_X12_canDraw a0 i1 S) := by
  refine Cl.of (by decide +kernel) (Nat.le_of_ble_eq_true rfl) ?_
  unfold f_X12_canDraw
  show X _ _ _ _ _ 0 [(0, .ref a0), (1, .int i1)] [] S _
  refine X_aload_n (n := 1) 0 (kX12_canDraw 0 rfl) rfl rfl rfl ?_
  refine X_getR (n := 4) xf_X12 hk0 (by decide) fl_X12_13 rfl (kX12_canDraw 1 rfl) rfl ?_
  refine X_iconst (n := 5) (v := 3) (kX12_canDraw 2 rfl) rfl (by decide) ?_
  refine X_iald' (n := 6) (kt_12_14 hk0) (kX12_canDraw 3 rfl) rfl (by rw [lt_12_14 hk0]; decide) ?_
  refine X_if_le (n := 9) (tgt := 38) (kX12_canDraw 4 rfl) rfl rfl (fun h1 => ?_) (fun h1 => ?_)
  · refine X_iconst (n := 39) (v := 0) (kX12_canDraw 20 rfl) rfl (by decide) ?_
    exact X_zret (b := false) rfl (kX12_canDraw 21 rfl)
  · refine X_aload_n (n := 10) 0 (kX12_canDraw 5 rfl) rfl rfl rfl ?_
    refine X_getR (n := 13) xf_X12 hk0 (by decide) fl_X12_13 rfl (kX12_canDraw 6 rfl) rfl ?_
    refine X_iconst (n := 14) (v := 1) (kX12_canDraw 7 rfl) rfl (by decide) ?_
    refine X_iald' (n := 15) (kt_12_14 hk0) (kX12_canDraw 8 rfl) rfl (by rw [lt_12_14 hk0]; decide) ?_
    refine X_if_le (n := 18) (tgt := 38) (kX12_canDraw 9 rfl) rfl rfl (fun h2 => ?_) (fun h2 => ?_)
    · refine X_iconst (n := 39) (v := 0) (kX12_canDraw 20 rfl) rfl (by decide) ?_
      exact X_zret (b := false) rfl (kX12_canDraw 21 rfl)
    · refine X_aload_n (n := 19) 0 (kX12_canDraw 10 rfl) rfl rfl rfl ?_
      refine X_getR (n := 22) xf_X12 hk0 (by decide) fl_X12_13 rfl (kX12_canDraw 11 rfl) rfl ?_
      refine X_sipush (n := 25) (v := 144) (kX12_canDraw 12 rfl) rfl (by decide) ?_
      refine X_iald' (n := 26) (kt_12_14 hk0) (kX12_canDraw 13 rfl) rfl (by rw [lt_12_14 hk0]; decide) ?_
      refine X_iload_n (n := 27) 1 (kX12_canDraw 14 rfl) rfl rfl rfl ?_
      refine X_iadd (n := 28) (kX12_canDraw 15 rfl) rfl ?_
      refine X_sipush (n := 31) (v := 999) (kX12_canDraw 16 rfl) rfl (by decide) ?_
      refine X_ic_gt (n := 34) (tgt := 38) (kX12_canDraw 17 rfl) rfl rfl (fun h3 => ?_) (fun h3 => ?_)
      · refine X_iconst (n := 39) (v := 0) (kX12_canDraw 20 rfl) rfl (by decide) ?_
        exact X_zret (b := false) rfl (kX12_canDraw 21 rfl)
      · refine X_iconst (n := 35) (v := 1) (kX12_canDraw 18 rfl) rfl (by decide) ?_
        refine X_goto (tgt := 39) (kX12_canDraw 19 rfl) rfl ?_
        exact X_zret (b := true) rfl (kX12_canDraw 21 rfl)
def t_X12_canDraw (a0 : Nat) (i1 : Int32) (S : XS) : Bool := (if (S.1 (rf a0 14) 3) ≤ 0 then false else (if (S.1 (rf a0 14) 1) ≤ 0 then false else (if (999 : Int32) < ((S.1 (rf a0 14) 144) + i1) then false else true)))
theorem ft_X12_canDraw (a0 : Nat) (i1 : Int32) (S : XS) : f_X12_canDraw a0 i1 S = some (t_X12_canDraw a0 i1 S, S) := by
  unfold f_X12_canDraw t_X12_canDraw
  first | rfl | simp only [ite_p]
theorem p_X12_canDraw {l : Launch} {g : XG} {a0 : Nat} {i1 : Int32} {S : XS} (hk0 : kd a0 = 12) : Cl φB l g 1 mX12_canDraw [.ref a0, .int i1] S (some (t_X12_canDraw a0 i1 S, S)) := ft_X12_canDraw a0 i1 S ▸ w_X12_canDraw hk0
def f_X12_put  (a0 : Nat) (i1 : Int32) (S : XS) : Option (XS) := (if (S.1 a0 54) < 0 ∨ ln (rf a0 52) ≤ (S.1 a0 54).toNatClampNeg then none else some (sI (sI S (rf a0 52) ((S.1 a0 54).toNatClampNeg) i1) a0 54 (((sI S (rf a0 52) ((S.1 a0 54).toNatClampNeg) i1).1 a0 54) + (1 : Int32))))
set_option maxHeartbeats 4000000 in
set_option maxRecDepth 100000 in
theorem w_X12_put {l : Launch} {g : XG}  {a0 : Nat} {i1 : Int32} {S : XS} (hk0 : kd a0 = 12) : Cl φV l g 1 mX12_put [.ref a0, .int i1] S (f_X12_put a0 i1 S) := by
  refine Cl.of (by decide +kernel) (Nat.le_of_ble_eq_true rfl) ?_
  unfold f_X12_put
  show X _ _ _ _ _ 0 [(0, .ref a0), (1, .int i1)] [] S _
  refine X_aload_n (n := 1) 0 (kX12_put 0 rfl) rfl rfl rfl ?_
  refine X_getR (n := 4) xf_X12 hk0 (by decide) fl_X12_91 rfl (kX12_put 1 rfl) rfl ?_
  refine X_aload_n (n := 5) 0 (kX12_put 2 rfl) rfl rfl rfl ?_
  refine X_getI (n := 8) xf_X12 hk0 (by decide) fl_X12_402 rfl (kX12_put 3 rfl) rfl ?_
  refine X_iload_n (n := 9) 1 (kX12_put 4 rfl) rfl rfl rfl ?_
  refine X_iast (n := 10) (kt_12_52 hk0) (kX12_put 5 rfl) rfl (fun h1 => ?_)
  refine X_aload_n (n := 11) 0 (kX12_put 6 rfl) rfl rfl rfl ?_
  refine X_dup (n := 12) (kX12_put 7 rfl) rfl rfl ?_
  refine X_getI (n := 15) xf_X12 hk0 (by decide) fl_X12_402 rfl (kX12_put 8 rfl) rfl ?_
  refine X_iconst (n := 16) (v := 1) (kX12_put 9 rfl) rfl (by decide) ?_
  refine X_iadd (n := 17) (kX12_put 10 rfl) rfl ?_
  refine X_putI (n := 20) xf_X12 hk0 (by decide) fl_X12_402 rfl rfl (Or.inl rfl) (kX12_put 11 rfl) rfl ?_
  exact X_vret rfl (kX12_put 12 rfl)
def f_X12_byteAt  (a0 : Nat) (i1 : Int32) (S : XS) : Option (Int32 × XS) := (if i1 < 0 then some ((-1 : Int32), (sI S a0 0 (0 : Int32))) else (if ((sI S a0 0 (0 : Int32)).1 a0 54) ≤ i1 then some ((-1 : Int32), (sI S a0 0 (0 : Int32))) else (if i1 < 0 ∨ ln (rf a0 52) ≤ i1.toNatClampNeg then none else some (((sI S a0 0 (0 : Int32)).1 (rf a0 52) i1.toNatClampNeg), (sI S a0 0 (0 : Int32))))))
set_option maxHeartbeats 4000000 in
set_option maxRecDepth 100000 in
theorem w_X12_byteAt {l : Launch} {g : XG}  {a0 : Nat} {i1 : Int32} {S : XS} (hk0 : kd a0 = 12) : Cl φI l g 1 mX12_byteAt [.ref a0, .int i1] S (f_X12_byteAt a0 i1 S) := by
  refine Cl.of (by decide +kernel) (Nat.le_of_ble_eq_true rfl) ?_
  unfold f_X12_byteAt
  show X _ _ _ _ _ 0 [(0, .ref a0), (1, .int i1)] [] S _
  refine X_aload_n (n := 1) 0 (kX12_byteAt 0 rfl) rfl rfl rfl ?_
  refine X_iconst (n := 2) (v := 0) (kX12_byteAt 1 rfl) rfl (by decide) ?_
  refine X_putI (n := 5) xf_X12 hk0 (by decide) fl_X12_100 rfl rfl (Or.inl rfl) (kX12_byteAt 2 rfl) rfl ?_
  refine X_iload_n (n := 6) 1 (kX12_byteAt 3 rfl) rfl rfl rfl ?_
  refine X_if_lt (n := 9) (tgt := 26) (kX12_byteAt 4 rfl) rfl rfl (fun h1 => ?_) (fun h1 => ?_)
  · refine X_iconst (n := 27) (v := (-1)) (kX12_byteAt 14 rfl) rfl (by decide) ?_
    exact X_iret rfl (kX12_byteAt 15 rfl)
  · refine X_iload_n (n := 10) 1 (kX12_byteAt 5 rfl) rfl rfl rfl ?_
    refine X_aload_n (n := 11) 0 (kX12_byteAt 6 rfl) rfl rfl rfl ?_
    refine X_getI (n := 14) xf_X12 hk0 (by decide) fl_X12_402 rfl (kX12_byteAt 7 rfl) rfl ?_
    refine X_ic_ge (n := 17) (tgt := 26) (kX12_byteAt 8 rfl) rfl rfl (fun h2 => ?_) (fun h2 => ?_)
    · refine X_iconst (n := 27) (v := (-1)) (kX12_byteAt 14 rfl) rfl (by decide) ?_
      exact X_iret rfl (kX12_byteAt 15 rfl)
    · refine X_aload_n (n := 18) 0 (kX12_byteAt 9 rfl) rfl rfl rfl ?_
      refine X_getR (n := 21) xf_X12 hk0 (by decide) fl_X12_91 rfl (kX12_byteAt 10 rfl) rfl ?_
      refine X_iload_n (n := 22) 1 (kX12_byteAt 11 rfl) rfl rfl rfl ?_
      refine X_iald (n := 23) (kt_12_52 hk0) (kX12_byteAt 12 rfl) rfl (fun h3 => ?_)
      refine X_goto (tgt := 27) (kX12_byteAt 13 rfl) rfl ?_
      exact X_iret rfl (kX12_byteAt 15 rfl)
def f_X12_saysOne  (a0 : Nat) (i1 : Int32) (i2 : Int32) (i3 : Int32) (i4 : Int32) (S : XS) : Option (Int32 × XS) := (if ((4 : Int32) * (S.1 a0 56)) < 0 ∨ ln (rf a0 55) ≤ ((4 : Int32) * (S.1 a0 56)).toNatClampNeg then none else (if (((4 : Int32) * (S.1 a0 56)) + (1 : Int32)) < 0 ∨ ln (rf a0 55) ≤ (((4 : Int32) * (S.1 a0 56)) + (1 : Int32)).toNatClampNeg then none else (if (((4 : Int32) * (S.1 a0 56)) + (2 : Int32)) < 0 ∨ ln (rf a0 55) ≤ (((4 : Int32) * (S.1 a0 56)) + (2 : Int32)).toNatClampNeg then none else (if (((4 : Int32) * (S.1 a0 56)) + (3 : Int32)) < 0 ∨ ln (rf a0 55) ≤ (((4 : Int32) * (S.1 a0 56)) + (3 : Int32)).toNatClampNeg then none else some ((((sI (sI (sI (sI (sI S (rf a0 55) (((4 : Int32) * (S.1 a0 56)).toNatClampNeg) i1) (rf a0 55) ((((4 : Int32) * (S.1 a0 56)) + (1 : Int32)).toNatClampNeg) i2) (rf a0 55) ((((4 : Int32) * (S.1 a0 56)) + (2 : Int32)).toNatClampNeg) i3) (rf a0 55) ((((4 : Int32) * (S.1 a0 56)) + (3 : Int32)).toNatClampNeg) i4) a0 56 (((sI (sI (sI (sI S (rf a0 55) (((4 : Int32) * (S.1 a0 56)).toNatClampNeg) i1) (rf a0 55) ((((4 : Int32) * (S.1 a0 56)) + (1 : Int32)).toNatClampNeg) i2) (rf a0 55) ((((4 : Int32) * (S.1 a0 56)) + (2 : Int32)).toNatClampNeg) i3) (rf a0 55) ((((4 : Int32) * (S.1 a0 56)) + (3 : Int32)).toNatClampNeg) i4).1 a0 56) + (1 : Int32))).1 a0 56) - (1 : Int32)), (sI (sI (sI (sI (sI S (rf a0 55) (((4 : Int32) * (S.1 a0 56)).toNatClampNeg) i1) (rf a0 55) ((((4 : Int32) * (S.1 a0 56)) + (1 : Int32)).toNatClampNeg) i2) (rf a0 55) ((((4 : Int32) * (S.1 a0 56)) + (2 : Int32)).toNatClampNeg) i3) (rf a0 55) ((((4 : Int32) * (S.1 a0 56)) + (3 : Int32)).toNatClampNeg) i4) a0 56 (((sI (sI (sI (sI S (rf a0 55) (((4 : Int32) * (S.1 a0 56)).toNatClampNeg) i1) (rf a0 55) ((((4 : Int32) * (S.1 a0 56)) + (1 : Int32)).toNatClampNeg) i2) (rf a0 55) ((((4 : Int32) * (S.1 a0 56)) + (2 : Int32)).toNatClampNeg) i3) (rf a0 55) ((((4 : Int32) * (S.1 a0 56)) + (3 : Int32)).toNatClampNeg) i4).1 a0 56) + (1 : Int32))))))))
set_option maxHeartbeats 4000000 in
set_option maxRecDepth 100000 in
theorem w_X12_saysOne {l : Launch} {g : XG}  {a0 : Nat} {i1 : Int32} {i2 : Int32} {i3 : Int32} {i4 : Int32} {S : XS} (hk0 : kd a0 = 12) : Cl φI l g 1 mX12_saysOne [.ref a0, .int i1, .int i2, .int i3, .int i4] S (f_X12_saysOne a0 i1 i2 i3 i4 S) := by
  refine Cl.of (by decide +kernel) (Nat.le_of_ble_eq_true rfl) ?_
  unfold f_X12_saysOne
  show X _ _ _ _ _ 0 [(0, .ref a0), (1, .int i1), (2, .int i2), (3, .int i3), (4, .int i4)] [] S _
  refine X_iconst (n := 1) (v := 4) (kX12_saysOne 0 rfl) rfl (by decide) ?_
  refine X_aload_n (n := 2) 0 (kX12_saysOne 1 rfl) rfl rfl rfl ?_
  refine X_getI (n := 5) xf_X12 hk0 (by decide) fl_X12_408 rfl (kX12_saysOne 2 rfl) rfl ?_
  refine X_imul (n := 6) (kX12_saysOne 3 rfl) rfl ?_
  refine X_istore (n := 8) (L1 := [(5, .int ((4 : Int32) * (S.1 a0 56))), (0, .ref a0), (1, .int i1), (2, .int i2), (3, .int i3), (4, .int i4)]) (kX12_saysOne 4 rfl) rfl (Nat.le_of_ble_eq_true rfl) rfl ?_
  refine X_aload_n (n := 9) 1 (kX12_saysOne 5 rfl) rfl rfl rfl ?_
  refine X_getR (n := 12) xf_X12 hk0 (by decide) fl_X12_97 rfl (kX12_saysOne 6 rfl) rfl ?_
  refine X_iload (n := 14) 0 (kX12_saysOne 7 rfl) rfl rfl ?_
  refine X_iload_n (n := 15) 2 (kX12_saysOne 8 rfl) rfl rfl rfl ?_
  refine X_iast (n := 16) (kt_12_55 hk0) (kX12_saysOne 9 rfl) rfl (fun h4 => ?_)
  refine X_aload_n (n := 17) 1 (kX12_saysOne 10 rfl) rfl rfl rfl ?_
  refine X_getR (n := 20) xf_X12 hk0 (by decide) fl_X12_97 rfl (kX12_saysOne 11 rfl) rfl ?_
  refine X_iload (n := 22) 0 (kX12_saysOne 12 rfl) rfl rfl ?_
  refine X_iconst (n := 23) (v := 1) (kX12_saysOne 13 rfl) rfl (by decide) ?_
  refine X_iadd (n := 24) (kX12_saysOne 14 rfl) rfl ?_
  refine X_iload_n (n := 25) 3 (kX12_saysOne 15 rfl) rfl rfl rfl ?_
  refine X_iast (n := 26) (kt_12_55 hk0) (kX12_saysOne 16 rfl) rfl (fun h3 => ?_)
  refine X_aload_n (n := 27) 1 (kX12_saysOne 17 rfl) rfl rfl rfl ?_
  refine X_getR (n := 30) xf_X12 hk0 (by decide) fl_X12_97 rfl (kX12_saysOne 18 rfl) rfl ?_
  refine X_iload (n := 32) 0 (kX12_saysOne 19 rfl) rfl rfl ?_
  refine X_iconst (n := 33) (v := 2) (kX12_saysOne 20 rfl) rfl (by decide) ?_
  refine X_iadd (n := 34) (kX12_saysOne 21 rfl) rfl ?_
  refine X_iload_n (n := 35) 4 (kX12_saysOne 22 rfl) rfl rfl rfl ?_
  refine X_iast (n := 36) (kt_12_55 hk0) (kX12_saysOne 23 rfl) rfl (fun h2 => ?_)
  refine X_aload_n (n := 37) 1 (kX12_saysOne 24 rfl) rfl rfl rfl ?_
  refine X_getR (n := 40) xf_X12 hk0 (by decide) fl_X12_97 rfl (kX12_saysOne 25 rfl) rfl ?_
  refine X_iload (n := 42) 0 (kX12_saysOne 26 rfl) rfl rfl ?_
  refine X_iconst (n := 43) (v := 3) (kX12_saysOne 27 rfl) rfl (by decide) ?_
  refine X_iadd (n := 44) (kX12_saysOne 28 rfl) rfl ?_
  refine X_iload (n := 46) 5 (kX12_saysOne 29 rfl) rfl rfl ?_
  refine X_iast (n := 47) (kt_12_55 hk0) (kX12_saysOne 30 rfl) rfl (fun h1 => ?_)
  refine X_aload_n (n := 48) 1 (kX12_saysOne 31 rfl) rfl rfl rfl ?_
  refine X_dup (n := 49) (kX12_saysOne 32 rfl) rfl rfl ?_
  refine X_getI (n := 52) xf_X12 hk0 (by decide) fl_X12_408 rfl (kX12_saysOne 33 rfl) rfl ?_
  refine X_iconst (n := 53) (v := 1) (kX12_saysOne 34 rfl) rfl (by decide) ?_
  refine X_iadd (n := 54) (kX12_saysOne 35 rfl) rfl ?_
  refine X_putI (n := 57) xf_X12 hk0 (by decide) fl_X12_408 rfl rfl (Or.inl rfl) (kX12_saysOne 36 rfl) rfl ?_
  refine X_aload_n (n := 58) 1 (kX12_saysOne 37 rfl) rfl rfl rfl ?_
  refine X_getI (n := 61) xf_X12 hk0 (by decide) fl_X12_408 rfl (kX12_saysOne 38 rfl) rfl ?_
  refine X_iconst (n := 62) (v := 1) (kX12_saysOne 39 rfl) rfl (by decide) ?_
  refine X_isub (n := 63) (kX12_saysOne 40 rfl) rfl ?_
  exact X_iret rfl (kX12_saysOne 41 rfl)
def f_X12_count  (a0 : Nat) (i1 : Int32) (S : XS) : Option (Int32 × XS) := (if i1 = 0 then some (((sI S a0 0 (0 : Int32)).1 (rf a0 14) 0), (sI S a0 0 (0 : Int32))) else (if i1 = 1 then some (((sI S a0 0 (0 : Int32)).1 (rf a0 14) 1), (sI S a0 0 (0 : Int32))) else (if i1 = 2 then some (((sI S a0 0 (0 : Int32)).1 (rf a0 14) 3), (sI S a0 0 (0 : Int32))) else (if i1 = 3 then some (((sI S a0 0 (0 : Int32)).1 (rf a0 14) 2), (sI S a0 0 (0 : Int32))) else (if i1 = 4 then some (((sI S a0 0 (0 : Int32)).1 (rf a0 14) 144), (sI S a0 0 (0 : Int32))) else (if i1 = 5 then some (((sI S a0 0 (0 : Int32)).1 (rf a0 14) 193), (sI S a0 0 (0 : Int32))) else (if i1 = 6 then some (((sI S a0 0 (0 : Int32)).1 a0 2), (sI S a0 0 (0 : Int32))) else some ((-1 : Int32), (sI S a0 0 (0 : Int32))))))))))
set_option maxHeartbeats 4000000 in
set_option maxRecDepth 100000 in
theorem w_X12_count {l : Launch} {g : XG}  {a0 : Nat} {i1 : Int32} {S : XS} (hk0 : kd a0 = 12) : Cl φI l g 1 mX12_count [.ref a0, .int i1] S (f_X12_count a0 i1 S) := by
  refine Cl.of (by decide +kernel) (Nat.le_of_ble_eq_true rfl) ?_
  unfold f_X12_count
  show X _ _ _ _ _ 0 [(0, .ref a0), (1, .int i1)] [] S _
  refine X_aload_n (n := 1) 0 (kX12_count 0 rfl) rfl rfl rfl ?_
  refine X_iconst (n := 2) (v := 0) (kX12_count 1 rfl) rfl (by decide) ?_
  refine X_putI (n := 5) xf_X12 hk0 (by decide) fl_X12_100 rfl rfl (Or.inl rfl) (kX12_count 2 rfl) rfl ?_
  refine X_iload_n (n := 6) 1 (kX12_count 3 rfl) rfl rfl rfl ?_
  refine X_ite (fun hc0 => ?_) (fun nc0 => ?_)
  · refine X_tabIn (tgt := 48) 0 (xI_of 0 hc0 (by decide)) (kX12_count 4 rfl) (by decide) (by decide) rfl rfl ?_
    refine X_aload_n (n := 49) 0 (kX12_count 5 rfl) rfl rfl rfl ?_
    refine X_getR (n := 52) xf_X12 hk0 (by decide) fl_X12_13 rfl (kX12_count 6 rfl) rfl ?_
    refine X_iconst (n := 53) (v := 0) (kX12_count 7 rfl) rfl (by decide) ?_
    refine X_iald' (n := 54) (kt_12_14 hk0) (kX12_count 8 rfl) rfl (by rw [lt_12_14 hk0]; decide) ?_
    exact X_iret rfl (kX12_count 9 rfl)
  · refine X_ite (fun hc1 => ?_) (fun nc1 => ?_)
    · refine X_tabIn (tgt := 55) 1 (xI_of 1 hc1 (by decide)) (kX12_count 4 rfl) (by decide) (by decide) rfl rfl ?_
      refine X_aload_n (n := 56) 0 (kX12_count 10 rfl) rfl rfl rfl ?_
      refine X_getR (n := 59) xf_X12 hk0 (by decide) fl_X12_13 rfl (kX12_count 11 rfl) rfl ?_
      refine X_iconst (n := 60) (v := 1) (kX12_count 12 rfl) rfl (by decide) ?_
      refine X_iald' (n := 61) (kt_12_14 hk0) (kX12_count 13 rfl) rfl (by rw [lt_12_14 hk0]; decide) ?_
      exact X_iret rfl (kX12_count 14 rfl)
    · refine X_ite (fun hc2 => ?_) (fun nc2 => ?_)
      · refine X_tabIn (tgt := 62) 2 (xI_of 2 hc2 (by decide)) (kX12_count 4 rfl) (by decide) (by decide) rfl rfl ?_
        refine X_aload_n (n := 63) 0 (kX12_count 15 rfl) rfl rfl rfl ?_
        refine X_getR (n := 66) xf_X12 hk0 (by decide) fl_X12_13 rfl (kX12_count 16 rfl) rfl ?_
        refine X_iconst (n := 67) (v := 3) (kX12_count 17 rfl) rfl (by decide) ?_
        refine X_iald' (n := 68) (kt_12_14 hk0) (kX12_count 18 rfl) rfl (by rw [lt_12_14 hk0]; decide) ?_
        exact X_iret rfl (kX12_count 19 rfl)
      · refine X_ite (fun hc3 => ?_) (fun nc3 => ?_)
        · refine X_tabIn (tgt := 69) 3 (xI_of 3 hc3 (by decide)) (kX12_count 4 rfl) (by decide) (by decide) rfl rfl ?_
          refine X_aload_n (n := 70) 0 (kX12_count 20 rfl) rfl rfl rfl ?_
          refine X_getR (n := 73) xf_X12 hk0 (by decide) fl_X12_13 rfl (kX12_count 21 rfl) rfl ?_
          refine X_iconst (n := 74) (v := 2) (kX12_count 22 rfl) rfl (by decide) ?_
          refine X_iald' (n := 75) (kt_12_14 hk0) (kX12_count 23 rfl) rfl (by rw [lt_12_14 hk0]; decide) ?_
          exact X_iret rfl (kX12_count 24 rfl)
        · refine X_ite (fun hc4 => ?_) (fun nc4 => ?_)
          · refine X_tabIn (tgt := 76) 4 (xI_of 4 hc4 (by decide)) (kX12_count 4 rfl) (by decide) (by decide) rfl rfl ?_
            refine X_aload_n (n := 77) 0 (kX12_count 25 rfl) rfl rfl rfl ?_
            refine X_getR (n := 80) xf_X12 hk0 (by decide) fl_X12_13 rfl (kX12_count 26 rfl) rfl ?_
            refine X_sipush (n := 83) (v := 144) (kX12_count 27 rfl) rfl (by decide) ?_
            refine X_iald' (n := 84) (kt_12_14 hk0) (kX12_count 28 rfl) rfl (by rw [lt_12_14 hk0]; decide) ?_
            exact X_iret rfl (kX12_count 29 rfl)
          · refine X_ite (fun hc5 => ?_) (fun nc5 => ?_)
            · refine X_tabIn (tgt := 85) 5 (xI_of 5 hc5 (by decide)) (kX12_count 4 rfl) (by decide) (by decide) rfl rfl ?_
              refine X_aload_n (n := 86) 0 (kX12_count 30 rfl) rfl rfl rfl ?_
              refine X_getR (n := 89) xf_X12 hk0 (by decide) fl_X12_13 rfl (kX12_count 31 rfl) rfl ?_
              refine X_sipush (n := 92) (v := 193) (kX12_count 32 rfl) rfl (by decide) ?_
              refine X_iald' (n := 93) (kt_12_14 hk0) (kX12_count 33 rfl) rfl (by rw [lt_12_14 hk0]; decide) ?_
              exact X_iret rfl (kX12_count 34 rfl)
            · refine X_ite (fun hc6 => ?_) (fun nc6 => ?_)
              · refine X_tabIn (tgt := 94) 6 (xI_of 6 hc6 (by decide)) (kX12_count 4 rfl) (by decide) (by decide) rfl rfl ?_
                refine X_aload_n (n := 95) 0 (kX12_count 35 rfl) rfl rfl rfl ?_
                refine X_getI (n := 98) xf_X12 hk0 (by decide) fl_X12_103 rfl (kX12_count 36 rfl) rfl ?_
                exact X_iret rfl (kX12_count 37 rfl)
              · have e0 := xI_ne (z := 0) 0 nc0 (by decide)
                have e1 := xI_ne (z := 1) 1 nc1 (by decide)
                have e2 := xI_ne (z := 2) 2 nc2 (by decide)
                have e3 := xI_ne (z := 3) 3 nc3 (by decide)
                have e4 := xI_ne (z := 4) 4 nc4 (by decide)
                have e5 := xI_ne (z := 5) 5 nc5 (by decide)
                have e6 := xI_ne (z := 6) 6 nc6 (by decide)
                refine X_tabOut (tgt := 99) (by omega) (kX12_count 4 rfl) rfl ?_
                refine X_iconst (n := 100) (v := (-1)) (kX12_count 38 rfl) rfl (by decide) ?_
                exact X_iret rfl (kX12_count 39 rfl)
def t_X12_count (a0 : Nat) (i1 : Int32) (S : XS) : Int32 × XS := (if i1 = 0 then (((sI S a0 0 (0 : Int32)).1 (rf a0 14) 0), (sI S a0 0 (0 : Int32))) else (if i1 = 1 then (((sI S a0 0 (0 : Int32)).1 (rf a0 14) 1), (sI S a0 0 (0 : Int32))) else (if i1 = 2 then (((sI S a0 0 (0 : Int32)).1 (rf a0 14) 3), (sI S a0 0 (0 : Int32))) else (if i1 = 3 then (((sI S a0 0 (0 : Int32)).1 (rf a0 14) 2), (sI S a0 0 (0 : Int32))) else (if i1 = 4 then (((sI S a0 0 (0 : Int32)).1 (rf a0 14) 144), (sI S a0 0 (0 : Int32))) else (if i1 = 5 then (((sI S a0 0 (0 : Int32)).1 (rf a0 14) 193), (sI S a0 0 (0 : Int32))) else (if i1 = 6 then (((sI S a0 0 (0 : Int32)).1 a0 2), (sI S a0 0 (0 : Int32))) else ((-1 : Int32), (sI S a0 0 (0 : Int32))))))))))
theorem ft_X12_count (a0 : Nat) (i1 : Int32) (S : XS) : f_X12_count a0 i1 S = some (t_X12_count a0 i1 S) := by
  unfold f_X12_count t_X12_count
  first | rfl | simp only [ite_u]
theorem p_X12_count {l : Launch} {g : XG} {a0 : Nat} {i1 : Int32} {S : XS} (hk0 : kd a0 = 12) : Cl φI l g 1 mX12_count [.ref a0, .int i1] S (some (t_X12_count a0 i1 S)) := ft_X12_count a0 i1 S ▸ w_X12_count hk0
def f_X12_feed  (a0 : Nat) (i1 : Int32) (i2 : Int32) (i3 : Int32) (i4 : Int32) (i5 : Int32) (S : XS) : Option (Int32 × XS) := (if (((sI S a0 0 (0 : Int32)).1 a0 2) + (20 : Int32)) ≤ (940 : Int32) then ((f_X12_come a0 i1 (sI S a0 0 (0 : Int32))).bind (fun S2 => ((f_X12_come a0 i2 S2).bind (fun S3 => ((f_X12_come a0 i3 S3).bind (fun S4 => ((f_X12_come a0 i4 S4).bind (fun S5 => ((f_X12_come a0 i5 S5).bind (fun S6 => some ((S6.1 a0 2), S6))))))))))) else some ((-1 : Int32), (sI S a0 0 (0 : Int32))))
set_option maxHeartbeats 4000000 in
set_option maxRecDepth 100000 in
theorem w_X12_feed {l : Launch} {g : XG}  {a0 : Nat} {i1 : Int32} {i2 : Int32} {i3 : Int32} {i4 : Int32} {i5 : Int32} {S : XS} (hk0 : kd a0 = 12) : Cl φI l g 2 mX12_feed [.ref a0, .int i1, .int i2, .int i3, .int i4, .int i5] S (f_X12_feed a0 i1 i2 i3 i4 i5 S) := by
  refine Cl.of (by decide +kernel) (Nat.le_of_ble_eq_true rfl) ?_
  unfold f_X12_feed
  show X _ _ _ _ _ 0 [(0, .ref a0), (1, .int i1), (2, .int i2), (3, .int i3), (4, .int i4), (5, .int i5)] [] S _
  refine X_aload_n (n := 1) 0 (kX12_feed 0 rfl) rfl rfl rfl ?_
  refine X_iconst (n := 2) (v := 0) (kX12_feed 1 rfl) rfl (by decide) ?_
  refine X_putI (n := 5) xf_X12 hk0 (by decide) fl_X12_100 rfl rfl (Or.inl rfl) (kX12_feed 2 rfl) rfl ?_
  refine X_aload_n (n := 6) 0 (kX12_feed 3 rfl) rfl rfl rfl ?_
  refine X_getI (n := 9) xf_X12 hk0 (by decide) fl_X12_103 rfl (kX12_feed 4 rfl) rfl ?_
  refine X_bipush (n := 11) (v := 20) (kX12_feed 5 rfl) rfl (by decide) ?_
  refine X_iadd (n := 12) (kX12_feed 6 rfl) rfl ?_
  refine X_sipush (n := 15) (v := 940) (kX12_feed 7 rfl) rfl (by decide) ?_
  refine X_ic_le (n := 18) (tgt := 20) (kX12_feed 8 rfl) rfl rfl (fun h1 => ?_) (fun h1 => ?_)
  · refine X_aload_n (n := 21) 0 (kX12_feed 11 rfl) rfl rfl rfl ?_
    refine X_iload_n (n := 22) 1 (kX12_feed 12 rfl) rfl rfl rfl ?_
    refine X_callVV (n := 25) (As := [.int i1]) (st := []) (kX12_feed 13 rfl) rfl (w_X12_come hk0) (by decide) ml_X12_106 mf_X12_come rfl hk0 xf_X12 rfl (Nat.le_of_ble_eq_true rfl) (fun S2 hq => ?_)
    try dsimp only
    refine X_aload_n (n := 26) 0 (kX12_feed 14 rfl) rfl rfl rfl ?_
    refine X_iload_n (n := 27) 2 (kX12_feed 15 rfl) rfl rfl rfl ?_
    refine X_callVV (n := 30) (As := [.int i2]) (st := []) (kX12_feed 16 rfl) rfl (w_X12_come hk0) (by decide) ml_X12_106 mf_X12_come rfl hk0 xf_X12 rfl (Nat.le_of_ble_eq_true rfl) (fun S3 hq => ?_)
    try dsimp only
    refine X_aload_n (n := 31) 0 (kX12_feed 17 rfl) rfl rfl rfl ?_
    refine X_iload_n (n := 32) 3 (kX12_feed 18 rfl) rfl rfl rfl ?_
    refine X_callVV (n := 35) (As := [.int i3]) (st := []) (kX12_feed 19 rfl) rfl (w_X12_come hk0) (by decide) ml_X12_106 mf_X12_come rfl hk0 xf_X12 rfl (Nat.le_of_ble_eq_true rfl) (fun S4 hq => ?_)
    try dsimp only
    refine X_aload_n (n := 36) 0 (kX12_feed 20 rfl) rfl rfl rfl ?_
    refine X_iload (n := 38) 4 (kX12_feed 21 rfl) rfl rfl ?_
    refine X_callVV (n := 41) (As := [.int i4]) (st := []) (kX12_feed 22 rfl) rfl (w_X12_come hk0) (by decide) ml_X12_106 mf_X12_come rfl hk0 xf_X12 rfl (Nat.le_of_ble_eq_true rfl) (fun S5 hq => ?_)
    try dsimp only
    refine X_aload_n (n := 42) 0 (kX12_feed 23 rfl) rfl rfl rfl ?_
    refine X_iload (n := 44) 5 (kX12_feed 24 rfl) rfl rfl ?_
    refine X_callVV (n := 47) (As := [.int i5]) (st := []) (kX12_feed 25 rfl) rfl (w_X12_come hk0) (by decide) ml_X12_106 mf_X12_come rfl hk0 xf_X12 rfl (Nat.le_of_ble_eq_true rfl) (fun S6 hq => ?_)
    try dsimp only
    refine X_aload_n (n := 48) 0 (kX12_feed 26 rfl) rfl rfl rfl ?_
    refine X_getI (n := 51) xf_X12 hk0 (by decide) fl_X12_103 rfl (kX12_feed 27 rfl) rfl ?_
    exact X_iret rfl (kX12_feed 28 rfl)
  · refine X_iconst (n := 19) (v := (-1)) (kX12_feed 9 rfl) rfl (by decide) ?_
    exact X_iret rfl (kX12_feed 10 rfl)
def f_X12_go_L0  (a0 : Nat) : Nat → XS → Option (XS)
  | 0, _ => none
  | n + 1, S => (if (S.1 a0 3) ≤ (S.1 a0 5) then some S else (if (S.1 a0 5) < 0 ∨ ln (rf a0 1) ≤ (S.1 a0 5).toNatClampNeg then none else (if (S.1 (rf a0 1) (S.1 a0 5).toNatClampNeg) = (32 : Int32) then f_X12_go_L0 a0 n (sI S a0 5 ((S.1 a0 5) + (1 : Int32))) else (if (S.1 a0 5) < 0 ∨ ln (rf a0 1) ≤ (S.1 a0 5).toNatClampNeg then none else (if (S.1 (rf a0 1) (S.1 a0 5).toNatClampNeg) = (10 : Int32) then f_X12_go_L0 a0 n (sI S a0 5 ((S.1 a0 5) + (1 : Int32))) else some S)))))
def f_X12_go_L215  (b2 : Bool) (a0 : Nat) : Nat → Int32 → XS → Option (Int32 × XS)
  | 0, _, _ => none
  | n + 1, i3, S => ((f_X12_tapeAt a0 (S.1 a0 5) S).bind (fun q => match q with | (r10, S11) => (if (t_X12_isLetter r10) = true then (if (S11.1 a0 5) < 0 ∨ ln (rf a0 1) ≤ (S11.1 a0 5).toNatClampNeg then none else ((if i3 = 0 then some false else (if (bi (t_X12_isLetter (S11.1 (rf a0 1) (S11.1 a0 5).toNatClampNeg))) = (bi b2) then some true else some false)).bind (fun x13 => ((if (7 : Int32) ≤ ((S11.1 a0 5) - (S11.1 a0 6)) then some S11 else some (sL S11 a0 12 (((27 * (S11.2 a0 12)) + (S11.1 (rf a0 1) (S11.1 a0 5).toNatClampNeg).toInt64) - 96))).bind (fun S14 => ((if (3 : Int32) ≤ ((S14.1 a0 5) - (S14.1 a0 6)) then some S14 else some (sI S14 a0 8 ((((10 : Int32) * (S14.1 a0 8)) + (S11.1 (rf a0 1) (S11.1 a0 5).toNatClampNeg)) - (48 : Int32)))).bind (fun S15 => f_X12_go_L215 b2 a0 n (bi x13) (sI S15 a0 5 ((S15.1 a0 5) + (1 : Int32)))))))))) else ((f_X12_tapeAt a0 (S11.1 a0 5) S11).bind (fun q => match q with | (r21, S22) => (if (t_X12_isDigit r21) = true then (if (S22.1 a0 5) < 0 ∨ ln (rf a0 1) ≤ (S22.1 a0 5).toNatClampNeg then none else ((if i3 = 0 then some false else (if (bi (t_X12_isLetter (S22.1 (rf a0 1) (S22.1 a0 5).toNatClampNeg))) = (bi b2) then some true else some false)).bind (fun x24 => ((if (7 : Int32) ≤ ((S22.1 a0 5) - (S22.1 a0 6)) then some S22 else some (sL S22 a0 12 (((27 * (S22.2 a0 12)) + (S22.1 (rf a0 1) (S22.1 a0 5).toNatClampNeg).toInt64) - 96))).bind (fun S25 => ((if (3 : Int32) ≤ ((S25.1 a0 5) - (S25.1 a0 6)) then some S25 else some (sI S25 a0 8 ((((10 : Int32) * (S25.1 a0 8)) + (S22.1 (rf a0 1) (S22.1 a0 5).toNatClampNeg)) - (48 : Int32)))).bind (fun S26 => f_X12_go_L215 b2 a0 n (bi x24) (sI S26 a0 5 ((S26.1 a0 5) + (1 : Int32)))))))))) else some (i3, S22)))))))
def f_X12_go  (a0 : Nat) (S : XS) : Option (XS) := ((f_X12_go_L0 a0 1000000 S).bind (fun S6 => (if ((sI S6 a0 6 (S6.1 a0 5)).1 a0 3) ≤ ((sI S6 a0 6 (S6.1 a0 5)).1 a0 4) then (if ((sI S6 a0 6 (S6.1 a0 5)).1 a0 5) < ((sI S6 a0 6 (S6.1 a0 5)).1 a0 3) then (if ((sI S6 a0 6 (S6.1 a0 5)).1 a0 5) < 0 ∨ ln (rf a0 1) ≤ ((sI S6 a0 6 (S6.1 a0 5)).1 a0 5).toNatClampNeg then none else (if (t_X12_isLetter ((sI S6 a0 6 (S6.1 a0 5)).1 (rf a0 1) ((sI S6 a0 6 (S6.1 a0 5)).1 a0 5).toNatClampNeg)) = true then ((f_X12_go_L215 (t_X12_isLetter ((sI S6 a0 6 (S6.1 a0 5)).1 (rf a0 1) ((sI S6 a0 6 (S6.1 a0 5)).1 a0 5).toNatClampNeg)) a0 1000000 (1 : Int32) (sI (sL (sI S6 a0 6 (S6.1 a0 5)) a0 12 0) a0 8 (0 : Int32))).bind (fun q => match q with | (e32, S33) => (if e32 = 0 then some (sI S33 a0 7 (1 : Int32)) else ((if (t_X12_isLetter ((sI S6 a0 6 (S6.1 a0 5)).1 (rf a0 1) ((sI S6 a0 6 (S6.1 a0 5)).1 a0 5).toNatClampNeg)) = true then some (7 : Int32) else some (3 : Int32)).bind (fun x35 => (if ((S33.1 a0 5) - (S33.1 a0 6)) ≤ x35 then (if (t_X12_isLetter ((sI S6 a0 6 (S6.1 a0 5)).1 (rf a0 1) ((sI S6 a0 6 (S6.1 a0 5)).1 a0 5).toNatClampNeg)) = true then some (sI S33 a0 7 (2 : Int32)) else some (sI S33 a0 7 (3 : Int32))) else some (sI S33 a0 7 (1 : Int32)))))))) else (if (t_X12_isDigit ((sI S6 a0 6 (S6.1 a0 5)).1 (rf a0 1) ((sI S6 a0 6 (S6.1 a0 5)).1 a0 5).toNatClampNeg)) = true then ((f_X12_go_L215 (t_X12_isLetter ((sI S6 a0 6 (S6.1 a0 5)).1 (rf a0 1) ((sI S6 a0 6 (S6.1 a0 5)).1 a0 5).toNatClampNeg)) a0 1000000 (1 : Int32) (sI (sL (sI S6 a0 6 (S6.1 a0 5)) a0 12 0) a0 8 (0 : Int32))).bind (fun q => match q with | (e40, S41) => (if e40 = 0 then some (sI S41 a0 7 (1 : Int32)) else ((if (t_X12_isLetter ((sI S6 a0 6 (S6.1 a0 5)).1 (rf a0 1) ((sI S6 a0 6 (S6.1 a0 5)).1 a0 5).toNatClampNeg)) = true then some (7 : Int32) else some (3 : Int32)).bind (fun x43 => (if ((S41.1 a0 5) - (S41.1 a0 6)) ≤ x43 then (if (t_X12_isLetter ((sI S6 a0 6 (S6.1 a0 5)).1 (rf a0 1) ((sI S6 a0 6 (S6.1 a0 5)).1 a0 5).toNatClampNeg)) = true then some (sI S41 a0 7 (2 : Int32)) else some (sI S41 a0 7 (3 : Int32))) else some (sI S41 a0 7 (1 : Int32)))))))) else ((if ((sI S6 a0 6 (S6.1 a0 5)).1 (rf a0 1) ((sI S6 a0 6 (S6.1 a0 5)).1 a0 5).toNatClampNeg) = (59 : Int32) then some (4 : Int32) else (if ((sI S6 a0 6 (S6.1 a0 5)).1 (rf a0 1) ((sI S6 a0 6 (S6.1 a0 5)).1 a0 5).toNatClampNeg) = (60 : Int32) then some (4 : Int32) else (if ((sI S6 a0 6 (S6.1 a0 5)).1 (rf a0 1) ((sI S6 a0 6 (S6.1 a0 5)).1 a0 5).toNatClampNeg) = (61 : Int32) then some (4 : Int32) else (if ((sI S6 a0 6 (S6.1 a0 5)).1 (rf a0 1) ((sI S6 a0 6 (S6.1 a0 5)).1 a0 5).toNatClampNeg) = (62 : Int32) then some (4 : Int32) else (if ((sI S6 a0 6 (S6.1 a0 5)).1 (rf a0 1) ((sI S6 a0 6 (S6.1 a0 5)).1 a0 5).toNatClampNeg) = (40 : Int32) then some (4 : Int32) else (if ((sI S6 a0 6 (S6.1 a0 5)).1 (rf a0 1) ((sI S6 a0 6 (S6.1 a0 5)).1 a0 5).toNatClampNeg) = (41 : Int32) then some (4 : Int32) else some (1 : Int32))))))).bind (fun x47 => some (sI (sI (sI (sI S6 a0 6 (S6.1 a0 5)) a0 7 x47) a0 9 ((sI S6 a0 6 (S6.1 a0 5)).1 (rf a0 1) ((sI S6 a0 6 (S6.1 a0 5)).1 a0 5).toNatClampNeg)) a0 5 (((sI (sI (sI S6 a0 6 (S6.1 a0 5)) a0 7 x47) a0 9 ((sI S6 a0 6 (S6.1 a0 5)).1 (rf a0 1) ((sI S6 a0 6 (S6.1 a0 5)).1 a0 5).toNatClampNeg)).1 a0 5) + (1 : Int32)))))))) else some (sI (sI S6 a0 6 (S6.1 a0 5)) a0 7 (0 : Int32))) else (if ((sI S6 a0 6 (S6.1 a0 5)).1 a0 6) < ((sI S6 a0 6 (S6.1 a0 5)).1 a0 4) then (if ((sI S6 a0 6 (S6.1 a0 5)).1 a0 5) < ((sI S6 a0 6 (S6.1 a0 5)).1 a0 3) then (if ((sI S6 a0 6 (S6.1 a0 5)).1 a0 5) < 0 ∨ ln (rf a0 1) ≤ ((sI S6 a0 6 (S6.1 a0 5)).1 a0 5).toNatClampNeg then none else (if (t_X12_isLetter ((sI S6 a0 6 (S6.1 a0 5)).1 (rf a0 1) ((sI S6 a0 6 (S6.1 a0 5)).1 a0 5).toNatClampNeg)) = true then ((f_X12_go_L215 (t_X12_isLetter ((sI S6 a0 6 (S6.1 a0 5)).1 (rf a0 1) ((sI S6 a0 6 (S6.1 a0 5)).1 a0 5).toNatClampNeg)) a0 1000000 (1 : Int32) (sI (sL (sI S6 a0 6 (S6.1 a0 5)) a0 12 0) a0 8 (0 : Int32))).bind (fun q => match q with | (e58, S59) => (if e58 = 0 then some (sI S59 a0 7 (1 : Int32)) else ((if (t_X12_isLetter ((sI S6 a0 6 (S6.1 a0 5)).1 (rf a0 1) ((sI S6 a0 6 (S6.1 a0 5)).1 a0 5).toNatClampNeg)) = true then some (7 : Int32) else some (3 : Int32)).bind (fun x61 => (if ((S59.1 a0 5) - (S59.1 a0 6)) ≤ x61 then (if (t_X12_isLetter ((sI S6 a0 6 (S6.1 a0 5)).1 (rf a0 1) ((sI S6 a0 6 (S6.1 a0 5)).1 a0 5).toNatClampNeg)) = true then some (sI S59 a0 7 (2 : Int32)) else some (sI S59 a0 7 (3 : Int32))) else some (sI S59 a0 7 (1 : Int32)))))))) else (if (t_X12_isDigit ((sI S6 a0 6 (S6.1 a0 5)).1 (rf a0 1) ((sI S6 a0 6 (S6.1 a0 5)).1 a0 5).toNatClampNeg)) = true then ((f_X12_go_L215 (t_X12_isLetter ((sI S6 a0 6 (S6.1 a0 5)).1 (rf a0 1) ((sI S6 a0 6 (S6.1 a0 5)).1 a0 5).toNatClampNeg)) a0 1000000 (1 : Int32) (sI (sL (sI S6 a0 6 (S6.1 a0 5)) a0 12 0) a0 8 (0 : Int32))).bind (fun q => match q with | (e66, S67) => (if e66 = 0 then some (sI S67 a0 7 (1 : Int32)) else ((if (t_X12_isLetter ((sI S6 a0 6 (S6.1 a0 5)).1 (rf a0 1) ((sI S6 a0 6 (S6.1 a0 5)).1 a0 5).toNatClampNeg)) = true then some (7 : Int32) else some (3 : Int32)).bind (fun x69 => (if ((S67.1 a0 5) - (S67.1 a0 6)) ≤ x69 then (if (t_X12_isLetter ((sI S6 a0 6 (S6.1 a0 5)).1 (rf a0 1) ((sI S6 a0 6 (S6.1 a0 5)).1 a0 5).toNatClampNeg)) = true then some (sI S67 a0 7 (2 : Int32)) else some (sI S67 a0 7 (3 : Int32))) else some (sI S67 a0 7 (1 : Int32)))))))) else ((if ((sI S6 a0 6 (S6.1 a0 5)).1 (rf a0 1) ((sI S6 a0 6 (S6.1 a0 5)).1 a0 5).toNatClampNeg) = (59 : Int32) then some (4 : Int32) else (if ((sI S6 a0 6 (S6.1 a0 5)).1 (rf a0 1) ((sI S6 a0 6 (S6.1 a0 5)).1 a0 5).toNatClampNeg) = (60 : Int32) then some (4 : Int32) else (if ((sI S6 a0 6 (S6.1 a0 5)).1 (rf a0 1) ((sI S6 a0 6 (S6.1 a0 5)).1 a0 5).toNatClampNeg) = (61 : Int32) then some (4 : Int32) else (if ((sI S6 a0 6 (S6.1 a0 5)).1 (rf a0 1) ((sI S6 a0 6 (S6.1 a0 5)).1 a0 5).toNatClampNeg) = (62 : Int32) then some (4 : Int32) else (if ((sI S6 a0 6 (S6.1 a0 5)).1 (rf a0 1) ((sI S6 a0 6 (S6.1 a0 5)).1 a0 5).toNatClampNeg) = (40 : Int32) then some (4 : Int32) else (if ((sI S6 a0 6 (S6.1 a0 5)).1 (rf a0 1) ((sI S6 a0 6 (S6.1 a0 5)).1 a0 5).toNatClampNeg) = (41 : Int32) then some (4 : Int32) else some (1 : Int32))))))).bind (fun x73 => some (sI (sI (sI (sI S6 a0 6 (S6.1 a0 5)) a0 7 x73) a0 9 ((sI S6 a0 6 (S6.1 a0 5)).1 (rf a0 1) ((sI S6 a0 6 (S6.1 a0 5)).1 a0 5).toNatClampNeg)) a0 5 (((sI (sI (sI S6 a0 6 (S6.1 a0 5)) a0 7 x73) a0 9 ((sI S6 a0 6 (S6.1 a0 5)).1 (rf a0 1) ((sI S6 a0 6 (S6.1 a0 5)).1 a0 5).toNatClampNeg)).1 a0 5) + (1 : Int32)))))))) else some (sI (sI S6 a0 6 (S6.1 a0 5)) a0 7 (0 : Int32))) else some (sI (sI (sI S6 a0 6 (S6.1 a0 5)) a0 6 ((sI S6 a0 6 (S6.1 a0 5)).1 a0 4)) a0 7 (1 : Int32))))))
set_option maxHeartbeats 4000000 in
set_option maxRecDepth 100000 in
theorem w_X12_go_L0 {l : Launch} {g : XG} {G : (XS) → Option (XS)}  {a0 : Nat} (hk0 : kd a0 = 12) (kE : ∀ (S1 : XS), X φV l g 2 mX12_go 52 [(0, .ref a0)] [] S1 (G S1)) : ∀ (n : Nat)  (S : XS), X φV l g 2 mX12_go 0 [(0, .ref a0)] [] S ((f_X12_go_L0 a0 n  S).bind G) := by
  intro n
  induction n with
  | zero => intro  S; exact X_none
  | succ n ih =>
  · intro  S
    rw [f_X12_go_L0]
    refine X_aload_n (n := 1) 0 (kX12_go 0 rfl) rfl rfl rfl ?_
    refine X_getI (n := 4) xf_X12 hk0 (by decide) fl_X12_113 rfl (kX12_go 1 rfl) rfl ?_
    refine X_aload_n (n := 5) 0 (kX12_go 2 rfl) rfl rfl rfl ?_
    refine X_getI (n := 8) xf_X12 hk0 (by decide) fl_X12_110 rfl (kX12_go 3 rfl) rfl ?_
    refine X_itebind ?_
    refine X_ic_ge (n := 11) (tgt := 52) (kX12_go 4 rfl) rfl rfl (fun h1 => ?_) (fun h1 => ?_)
    · exact X_L [0] rfl (kE S)
    · refine X_aload_n (n := 12) 0 (kX12_go 5 rfl) rfl rfl rfl ?_
      refine X_getR (n := 15) xf_X12 hk0 (by decide) fl_X12_7 rfl (kX12_go 6 rfl) rfl ?_
      refine X_aload_n (n := 16) 0 (kX12_go 7 rfl) rfl rfl rfl ?_
      refine X_getI (n := 19) xf_X12 hk0 (by decide) fl_X12_113 rfl (kX12_go 8 rfl) rfl ?_
      refine X_itebind ?_
      refine X_iald (n := 20) (kt_12_1 hk0) (kX12_go 9 rfl) rfl (fun h5 => ?_)
      refine X_bipush (n := 22) (v := 32) (kX12_go 10 rfl) rfl (by decide) ?_
      refine X_itebind ?_
      refine X_ic_eq (n := 25) (tgt := 39) (kX12_go 11 rfl) rfl rfl (fun h2 => ?_) (fun h2 => ?_)
      · refine X_aload_n (n := 40) 0 (kX12_go 19 rfl) rfl rfl rfl ?_
        refine X_dup (n := 41) (kX12_go 20 rfl) rfl rfl ?_
        refine X_getI (n := 44) xf_X12 hk0 (by decide) fl_X12_113 rfl (kX12_go 21 rfl) rfl ?_
        refine X_iconst (n := 45) (v := 1) (kX12_go 22 rfl) rfl (by decide) ?_
        refine X_iadd (n := 46) (kX12_go 23 rfl) rfl ?_
        refine X_putI (n := 49) xf_X12 hk0 (by decide) fl_X12_113 rfl rfl (Or.inl rfl) (kX12_go 24 rfl) rfl ?_
        refine X_goto (tgt := 0) (kX12_go 25 rfl) rfl ?_
        exact X_L [0] rfl (ih (sI S a0 5 ((S.1 a0 5) + (1 : Int32))))
      · refine X_aload_n (n := 26) 0 (kX12_go 12 rfl) rfl rfl rfl ?_
        refine X_getR (n := 29) xf_X12 hk0 (by decide) fl_X12_7 rfl (kX12_go 13 rfl) rfl ?_
        refine X_aload_n (n := 30) 0 (kX12_go 14 rfl) rfl rfl rfl ?_
        refine X_getI (n := 33) xf_X12 hk0 (by decide) fl_X12_113 rfl (kX12_go 15 rfl) rfl ?_
        refine X_itebind ?_
        refine X_iald (n := 34) (kt_12_1 hk0) (kX12_go 16 rfl) rfl (fun h4 => ?_)
        refine X_bipush (n := 36) (v := 10) (kX12_go 17 rfl) rfl (by decide) ?_
        refine X_itebind ?_
        refine X_ic_ne (n := 39) (tgt := 52) (kX12_go 18 rfl) rfl rfl (fun h3 => ?_) (fun h3 => ?_)
        · refine X_aload_n (n := 40) 0 (kX12_go 19 rfl) rfl rfl rfl ?_
          refine X_dup (n := 41) (kX12_go 20 rfl) rfl rfl ?_
          refine X_getI (n := 44) xf_X12 hk0 (by decide) fl_X12_113 rfl (kX12_go 21 rfl) rfl ?_
          refine X_iconst (n := 45) (v := 1) (kX12_go 22 rfl) rfl (by decide) ?_
          refine X_iadd (n := 46) (kX12_go 23 rfl) rfl ?_
          refine X_putI (n := 49) xf_X12 hk0 (by decide) fl_X12_113 rfl rfl (Or.inl rfl) (kX12_go 24 rfl) rfl ?_
          refine X_goto (tgt := 0) (kX12_go 25 rfl) rfl ?_
          exact X_L [0] rfl (ih (sI S a0 5 ((S.1 a0 5) + (1 : Int32))))
        · exact X_L [0] rfl (kE S)
set_option maxHeartbeats 4000000 in
set_option maxRecDepth 100000 in
theorem w_X12_go_L215 {l : Launch} {g : XG} {G : (Int32 × XS) → Option (XS)}  {b2 : Bool} {a0 : Nat} (hk0 : kd a0 = 12) (kE : ∀ (e3 : Int32) (S1 : XS), X φV l g 2 mX12_go 350 [(3, .int e3), (2, .int (bi b2)), (0, .ref a0)] [] S1 (G (e3, S1))) : ∀ (n : Nat) (i3 : Int32) (S : XS), X φV l g 2 mX12_go 215 [(3, .int i3), (2, .int (bi b2)), (0, .ref a0)] [] S ((f_X12_go_L215 b2 a0 n i3 S).bind G) := by
  intro n
  induction n with
  | zero => intro i3 S; exact X_none
  | succ n ih =>
  · intro i3 S
    rw [f_X12_go_L215]
    refine X_aload_n (n := 216) 2 (kX12_go_1 13 rfl) rfl rfl rfl ?_
    refine X_aload_n (n := 217) 2 (kX12_go_1 14 rfl) rfl rfl rfl ?_
    refine X_getI (n := 220) xf_X12 hk0 (by decide) fl_X12_113 rfl (kX12_go_1 15 rfl) rfl ?_
    refine X_assoc ?_
    refine X_callVI (n := 223) (As := [.int (S.1 a0 5)]) (st := []) (kX12_go_1 16 rfl) rfl (w_X12_tapeAt hk0) (by decide) ml_X12_142 mf_X12_tapeAt rfl hk0 xf_X12 rfl (Nat.le_of_ble_eq_true rfl) (fun r10 S11 hq => ?_)
    try dsimp only
    refine X_callS1B (n := 226) (As := [.int r10]) (st := []) (kX12_go_1 17 rfl) rfl p_X12_isLetter (by decide) ml_X12_125 mf_X12_isLetter rfl rfl (Nat.le_of_ble_eq_true rfl) ?_
    refine X_itebind ?_
    refine X_bn (n := 229) (tgt := 243) (kX12_go_1 18 rfl) rfl rfl (fun h12 => ?_) (fun h12 => ?_)
    · refine X_aload_n (n := 244) 2 (kX12_go_1 25 rfl) rfl rfl rfl ?_
      refine X_getR (n := 247) xf_X12 hk0 (by decide) fl_X12_7 rfl (kX12_go_1 26 rfl) rfl ?_
      refine X_aload_n (n := 248) 2 (kX12_go_1 27 rfl) rfl rfl rfl ?_
      refine X_getI (n := 251) xf_X12 hk0 (by decide) fl_X12_113 rfl (kX12_go_1 28 rfl) rfl ?_
      refine X_itebind ?_
      refine X_iald (n := 252) (kt_12_1 hk0) (kX12_go_1 29 rfl) rfl (fun h20 => ?_)
      refine X_istore (n := 254) (L1 := [(4, .int (S11.1 (rf a0 1) (S11.1 a0 5).toNatClampNeg)), (3, .int i3), (2, .int (bi b2)), (0, .ref a0)]) (kX12_go_1 30 rfl) rfl (Nat.le_of_ble_eq_true rfl) rfl ?_
      refine X_iload_n (n := 255) 1 (kX12_go_1 31 rfl) rfl rfl rfl ?_
      refine X_assoc ?_
      refine X_join 272 (fun x13 => [(4, .int (S11.1 (rf a0 1) (S11.1 a0 5).toNatClampNeg)), (2, .int (bi b2)), (0, .ref a0)]) (fun x13 => [.int (bi x13)]) (fun x13 => S11) (fun x13 => ?_) (fun kJ => ?_)
      · try dsimp only
        refine X_istore_n (n := 273) (L1 := [(3, .int (bi x13)), (4, .int (S11.1 (rf a0 1) (S11.1 a0 5).toNatClampNeg)), (2, .int (bi b2)), (0, .ref a0)]) (kX12_go_1 40 rfl) rfl rfl (Nat.le_of_ble_eq_true rfl) rfl ?_
        refine X_aload_n (n := 274) 3 (kX12_go_1 41 rfl) rfl rfl rfl ?_
        refine X_getI (n := 277) xf_X12 hk0 (by decide) fl_X12_113 rfl (kX12_go_1 42 rfl) rfl ?_
        refine X_aload_n (n := 278) 3 (kX12_go_1 43 rfl) rfl rfl rfl ?_
        refine X_getI (n := 281) xf_X12 hk0 (by decide) fl_X12_116 rfl (kX12_go_1 44 rfl) rfl ?_
        refine X_isub (n := 282) (kX12_go_1 45 rfl) rfl ?_
        refine X_bipush (n := 284) (v := 7) (kX12_go_1 46 rfl) rfl (by decide) ?_
        refine X_assoc ?_
        refine X_join 307 (fun S14 => [(3, .int (bi x13)), (4, .int (S11.1 (rf a0 1) (S11.1 a0 5).toNatClampNeg)), (2, .int (bi b2)), (0, .ref a0)]) (fun S14 => []) (fun S14 => S14) (fun S14 => ?_) (fun kJ => ?_)
        · try dsimp only
          refine X_aload_n (n := 308) 3 (kX12_go_1 59 rfl) rfl rfl rfl ?_
          refine X_getI (n := 311) xf_X12 hk0 (by decide) fl_X12_113 rfl (kX12_go_1 60 rfl) rfl ?_
          refine X_aload_n (n := 312) 3 (kX12_go_1 61 rfl) rfl rfl rfl ?_
          refine X_getI (n := 315) xf_X12 hk0 (by decide) fl_X12_116 rfl (kX12_go_1 62 rfl) rfl ?_
          refine X_isub (n := 316) (kX12_go_1 63 rfl) rfl ?_
          refine X_iconst (n := 317) (v := 3) (kX12_go_1 64 rfl) rfl (by decide) ?_
          refine X_assoc ?_
          refine X_join 337 (fun S15 => [(3, .int (bi x13)), (2, .int (bi b2)), (0, .ref a0)]) (fun S15 => []) (fun S15 => S15) (fun S15 => ?_) (fun kJ => ?_)
          · try dsimp only
            refine X_aload_n (n := 338) 2 (kX12_go_1 76 rfl) rfl rfl rfl ?_
            refine X_dup (n := 339) (kX12_go_1 77 rfl) rfl rfl ?_
            refine X_getI (n := 342) xf_X12 hk0 (by decide) fl_X12_113 rfl (kX12_go_1 78 rfl) rfl ?_
            refine X_iconst (n := 343) (v := 1) (kX12_go_1 79 rfl) rfl (by decide) ?_
            refine X_iadd (n := 344) (kX12_go_1 80 rfl) rfl ?_
            refine X_putI (n := 347) xf_X12 hk0 (by decide) fl_X12_113 rfl rfl (Or.inl rfl) (kX12_go_1 81 rfl) rfl ?_
            refine X_goto (tgt := 215) (kX12_go_1 82 rfl) rfl ?_
            exact X_L [0, 1, 2] rfl (ih (bi x13) (sI S15 a0 5 ((S15.1 a0 5) + (1 : Int32))))
          · refine X_itebind ?_
            refine X_ic_ge (n := 320) (tgt := 337) (kX12_go_1 65 rfl) rfl rfl (fun h16 => ?_) (fun h16 => ?_)
            · exact X_L [0, 2, 3] rfl (kJ S14)
            · refine X_aload_n (n := 321) 3 (kX12_go_1 66 rfl) rfl rfl rfl ?_
              refine X_bipush (n := 323) (v := 10) (kX12_go_1 67 rfl) rfl (by decide) ?_
              refine X_aload_n (n := 324) 3 (kX12_go_1 68 rfl) rfl rfl rfl ?_
              refine X_getI (n := 327) xf_X12 hk0 (by decide) fl_X12_139 rfl (kX12_go_1 69 rfl) rfl ?_
              refine X_imul (n := 328) (kX12_go_1 70 rfl) rfl ?_
              refine X_iload (n := 330) 1 (kX12_go_1 71 rfl) rfl rfl ?_
              refine X_iadd (n := 331) (kX12_go_1 72 rfl) rfl ?_
              refine X_bipush (n := 333) (v := 48) (kX12_go_1 73 rfl) rfl (by decide) ?_
              refine X_isub (n := 334) (kX12_go_1 74 rfl) rfl ?_
              refine X_putI (n := 337) xf_X12 hk0 (by decide) fl_X12_139 rfl rfl (Or.inl rfl) (kX12_go_1 75 rfl) rfl ?_
              exact X_L [0, 2, 3] rfl (kJ (sI S14 a0 8 ((((10 : Int32) * (S14.1 a0 8)) + (S11.1 (rf a0 1) (S11.1 a0 5).toNatClampNeg)) - (48 : Int32))))
        · refine X_itebind ?_
          refine X_ic_ge (n := 287) (tgt := 307) (kX12_go_1 47 rfl) rfl rfl (fun h17 => ?_) (fun h17 => ?_)
          · exact X_L [0, 1, 2, 3] rfl (kJ S11)
          · refine X_aload_n (n := 288) 3 (kX12_go_1 48 rfl) rfl rfl rfl ?_
            refine X_ldc2 (n := 291) (kX12_go_1 49 rfl) rfl cl_X12_146 ?_
            refine X_aload_n (n := 292) 3 (kX12_go_1 50 rfl) rfl rfl rfl ?_
            refine X_getJ (n := 295) xf_X12 hk0 (by decide) fl_X12_135 rfl (kX12_go_1 51 rfl) rfl ?_
            refine X_lmul (n := 296) (kX12_go_1 52 rfl) rfl ?_
            refine X_iload (n := 298) 1 (kX12_go_1 53 rfl) rfl rfl ?_
            refine X_i2l (n := 299) (kX12_go_1 54 rfl) rfl ?_
            refine X_ladd (n := 300) (kX12_go_1 55 rfl) rfl ?_
            refine X_ldc2 (n := 303) (kX12_go_1 56 rfl) rfl cl_X12_148 ?_
            refine X_lsub (n := 304) (kX12_go_1 57 rfl) rfl ?_
            refine X_putJ (n := 307) xf_X12 hk0 (by decide) fl_X12_135 rfl rfl (kX12_go_1 58 rfl) rfl ?_
            exact X_L [0, 1, 2, 3] rfl (kJ (sL S11 a0 12 (((27 * (S11.2 a0 12)) + (S11.1 (rf a0 1) (S11.1 a0 5).toNatClampNeg).toInt64) - 96)))
      · refine X_itebind ?_
        refine X_if_eq (n := 258) (tgt := 271) (kX12_go_1 32 rfl) rfl rfl (fun h18 => ?_) (fun h18 => ?_)
        · refine X_iconst (n := 272) (v := 0) (kX12_go_1 39 rfl) rfl (by decide) ?_
          exact X_L [0, 2, 3] rfl (kJ false)
        · refine X_iload (n := 260) 0 (kX12_go_1 33 rfl) rfl rfl ?_
          refine X_callS1B (n := 263) (As := [.int (S11.1 (rf a0 1) (S11.1 a0 5).toNatClampNeg)]) (st := []) (kX12_go_1 34 rfl) rfl p_X12_isLetter (by decide) ml_X12_125 mf_X12_isLetter rfl rfl (Nat.le_of_ble_eq_true rfl) ?_
          refine X_iload_n (n := 264) 2 (kX12_go_1 35 rfl) rfl rfl rfl ?_
          refine X_itebind ?_
          refine X_ic_ne (n := 267) (tgt := 271) (kX12_go_1 36 rfl) rfl rfl (fun h19 => ?_) (fun h19 => ?_)
          · refine X_iconst (n := 268) (v := 1) (kX12_go_1 37 rfl) rfl (by decide) ?_
            refine X_goto (tgt := 272) (kX12_go_1 38 rfl) rfl ?_
            exact X_L [0, 2, 3] rfl (kJ true)
          · refine X_iconst (n := 272) (v := 0) (kX12_go_1 39 rfl) rfl (by decide) ?_
            exact X_L [0, 2, 3] rfl (kJ false)
    · refine X_aload_n (n := 230) 2 (kX12_go_1 19 rfl) rfl rfl rfl ?_
      refine X_aload_n (n := 231) 2 (kX12_go_1 20 rfl) rfl rfl rfl ?_
      refine X_getI (n := 234) xf_X12 hk0 (by decide) fl_X12_113 rfl (kX12_go_1 21 rfl) rfl ?_
      refine X_assoc ?_
      refine X_callVI (n := 237) (As := [.int (S11.1 a0 5)]) (st := []) (kX12_go_1 22 rfl) rfl (w_X12_tapeAt hk0) (by decide) ml_X12_142 mf_X12_tapeAt rfl hk0 xf_X12 rfl (Nat.le_of_ble_eq_true rfl) (fun r21 S22 hq => ?_)
      try dsimp only
      refine X_callS1B (n := 240) (As := [.int r21]) (st := []) (kX12_go_1 23 rfl) rfl p_X12_isDigit (by decide) ml_X12_129 mf_X12_isDigit rfl rfl (Nat.le_of_ble_eq_true rfl) ?_
      refine X_itebind ?_
      refine X_bz (n := 243) (tgt := 350) (kX12_go_1 24 rfl) rfl rfl (fun h23 => ?_) (fun h23 => ?_)
      · refine X_aload_n (n := 244) 2 (kX12_go_1 25 rfl) rfl rfl rfl ?_
        refine X_getR (n := 247) xf_X12 hk0 (by decide) fl_X12_7 rfl (kX12_go_1 26 rfl) rfl ?_
        refine X_aload_n (n := 248) 2 (kX12_go_1 27 rfl) rfl rfl rfl ?_
        refine X_getI (n := 251) xf_X12 hk0 (by decide) fl_X12_113 rfl (kX12_go_1 28 rfl) rfl ?_
        refine X_itebind ?_
        refine X_iald (n := 252) (kt_12_1 hk0) (kX12_go_1 29 rfl) rfl (fun h31 => ?_)
        refine X_istore (n := 254) (L1 := [(4, .int (S22.1 (rf a0 1) (S22.1 a0 5).toNatClampNeg)), (3, .int i3), (2, .int (bi b2)), (0, .ref a0)]) (kX12_go_1 30 rfl) rfl (Nat.le_of_ble_eq_true rfl) rfl ?_
        refine X_iload_n (n := 255) 1 (kX12_go_1 31 rfl) rfl rfl rfl ?_
        refine X_assoc ?_
        refine X_join 272 (fun x24 => [(4, .int (S22.1 (rf a0 1) (S22.1 a0 5).toNatClampNeg)), (2, .int (bi b2)), (0, .ref a0)]) (fun x24 => [.int (bi x24)]) (fun x24 => S22) (fun x24 => ?_) (fun kJ => ?_)
        · try dsimp only
          refine X_istore_n (n := 273) (L1 := [(3, .int (bi x24)), (4, .int (S22.1 (rf a0 1) (S22.1 a0 5).toNatClampNeg)), (2, .int (bi b2)), (0, .ref a0)]) (kX12_go_1 40 rfl) rfl rfl (Nat.le_of_ble_eq_true rfl) rfl ?_
          refine X_aload_n (n := 274) 3 (kX12_go_1 41 rfl) rfl rfl rfl ?_
          refine X_getI (n := 277) xf_X12 hk0 (by decide) fl_X12_113 rfl (kX12_go_1 42 rfl) rfl ?_
          refine X_aload_n (n := 278) 3 (kX12_go_1 43 rfl) rfl rfl rfl ?_
          refine X_getI (n := 281) xf_X12 hk0 (by decide) fl_X12_116 rfl (kX12_go_1 44 rfl) rfl ?_
          refine X_isub (n := 282) (kX12_go_1 45 rfl) rfl ?_
          refine X_bipush (n := 284) (v := 7) (kX12_go_1 46 rfl) rfl (by decide) ?_
          refine X_assoc ?_
          refine X_join 307 (fun S25 => [(3, .int (bi x24)), (4, .int (S22.1 (rf a0 1) (S22.1 a0 5).toNatClampNeg)), (2, .int (bi b2)), (0, .ref a0)]) (fun S25 => []) (fun S25 => S25) (fun S25 => ?_) (fun kJ => ?_)
          · try dsimp only
            refine X_aload_n (n := 308) 3 (kX12_go_1 59 rfl) rfl rfl rfl ?_
            refine X_getI (n := 311) xf_X12 hk0 (by decide) fl_X12_113 rfl (kX12_go_1 60 rfl) rfl ?_
            refine X_aload_n (n := 312) 3 (kX12_go_1 61 rfl) rfl rfl rfl ?_
            refine X_getI (n := 315) xf_X12 hk0 (by decide) fl_X12_116 rfl (kX12_go_1 62 rfl) rfl ?_
            refine X_isub (n := 316) (kX12_go_1 63 rfl) rfl ?_
            refine X_iconst (n := 317) (v := 3) (kX12_go_1 64 rfl) rfl (by decide) ?_
            refine X_assoc ?_
            refine X_join 337 (fun S26 => [(3, .int (bi x24)), (2, .int (bi b2)), (0, .ref a0)]) (fun S26 => []) (fun S26 => S26) (fun S26 => ?_) (fun kJ => ?_)
            · try dsimp only
              refine X_aload_n (n := 338) 2 (kX12_go_1 76 rfl) rfl rfl rfl ?_
              refine X_dup (n := 339) (kX12_go_1 77 rfl) rfl rfl ?_
              refine X_getI (n := 342) xf_X12 hk0 (by decide) fl_X12_113 rfl (kX12_go_1 78 rfl) rfl ?_
              refine X_iconst (n := 343) (v := 1) (kX12_go_1 79 rfl) rfl (by decide) ?_
              refine X_iadd (n := 344) (kX12_go_1 80 rfl) rfl ?_
              refine X_putI (n := 347) xf_X12 hk0 (by decide) fl_X12_113 rfl rfl (Or.inl rfl) (kX12_go_1 81 rfl) rfl ?_
              refine X_goto (tgt := 215) (kX12_go_1 82 rfl) rfl ?_
              exact X_L [0, 1, 2] rfl (ih (bi x24) (sI S26 a0 5 ((S26.1 a0 5) + (1 : Int32))))
            · refine X_itebind ?_
              refine X_ic_ge (n := 320) (tgt := 337) (kX12_go_1 65 rfl) rfl rfl (fun h27 => ?_) (fun h27 => ?_)
              · exact X_L [0, 2, 3] rfl (kJ S25)
              · refine X_aload_n (n := 321) 3 (kX12_go_1 66 rfl) rfl rfl rfl ?_
                refine X_bipush (n := 323) (v := 10) (kX12_go_1 67 rfl) rfl (by decide) ?_
                refine X_aload_n (n := 324) 3 (kX12_go_1 68 rfl) rfl rfl rfl ?_
                refine X_getI (n := 327) xf_X12 hk0 (by decide) fl_X12_139 rfl (kX12_go_1 69 rfl) rfl ?_
                refine X_imul (n := 328) (kX12_go_1 70 rfl) rfl ?_
                refine X_iload (n := 330) 1 (kX12_go_1 71 rfl) rfl rfl ?_
                refine X_iadd (n := 331) (kX12_go_1 72 rfl) rfl ?_
                refine X_bipush (n := 333) (v := 48) (kX12_go_1 73 rfl) rfl (by decide) ?_
                refine X_isub (n := 334) (kX12_go_1 74 rfl) rfl ?_
                refine X_putI (n := 337) xf_X12 hk0 (by decide) fl_X12_139 rfl rfl (Or.inl rfl) (kX12_go_1 75 rfl) rfl ?_
                exact X_L [0, 2, 3] rfl (kJ (sI S25 a0 8 ((((10 : Int32) * (S25.1 a0 8)) + (S22.1 (rf a0 1) (S22.1 a0 5).toNatClampNeg)) - (48 : Int32))))
          · refine X_itebind ?_
            refine X_ic_ge (n := 287) (tgt := 307) (kX12_go_1 47 rfl) rfl rfl (fun h28 => ?_) (fun h28 => ?_)
            · exact X_L [0, 1, 2, 3] rfl (kJ S22)
            · refine X_aload_n (n := 288) 3 (kX12_go_1 48 rfl) rfl rfl rfl ?_
              refine X_ldc2 (n := 291) (kX12_go_1 49 rfl) rfl cl_X12_146 ?_
              refine X_aload_n (n := 292) 3 (kX12_go_1 50 rfl) rfl rfl rfl ?_
              refine X_getJ (n := 295) xf_X12 hk0 (by decide) fl_X12_135 rfl (kX12_go_1 51 rfl) rfl ?_
              refine X_lmul (n := 296) (kX12_go_1 52 rfl) rfl ?_
              refine X_iload (n := 298) 1 (kX12_go_1 53 rfl) rfl rfl ?_
              refine X_i2l (n := 299) (kX12_go_1 54 rfl) rfl ?_
              refine X_ladd (n := 300) (kX12_go_1 55 rfl) rfl ?_
              refine X_ldc2 (n := 303) (kX12_go_1 56 rfl) rfl cl_X12_148 ?_
              refine X_lsub (n := 304) (kX12_go_1 57 rfl) rfl ?_
              refine X_putJ (n := 307) xf_X12 hk0 (by decide) fl_X12_135 rfl rfl (kX12_go_1 58 rfl) rfl ?_
              exact X_L [0, 1, 2, 3] rfl (kJ (sL S22 a0 12 (((27 * (S22.2 a0 12)) + (S22.1 (rf a0 1) (S22.1 a0 5).toNatClampNeg).toInt64) - 96)))
        · refine X_itebind ?_
          refine X_if_eq (n := 258) (tgt := 271) (kX12_go_1 32 rfl) rfl rfl (fun h29 => ?_) (fun h29 => ?_)
          · refine X_iconst (n := 272) (v := 0) (kX12_go_1 39 rfl) rfl (by decide) ?_
            exact X_L [0, 2, 3] rfl (kJ false)
          · refine X_iload (n := 260) 0 (kX12_go_1 33 rfl) rfl rfl ?_
            refine X_callS1B (n := 263) (As := [.int (S22.1 (rf a0 1) (S22.1 a0 5).toNatClampNeg)]) (st := []) (kX12_go_1 34 rfl) rfl p_X12_isLetter (by decide) ml_X12_125 mf_X12_isLetter rfl rfl (Nat.le_of_ble_eq_true rfl) ?_
            refine X_iload_n (n := 264) 2 (kX12_go_1 35 rfl) rfl rfl rfl ?_
            refine X_itebind ?_
            refine X_ic_ne (n := 267) (tgt := 271) (kX12_go_1 36 rfl) rfl rfl (fun h30 => ?_) (fun h30 => ?_)
            · refine X_iconst (n := 268) (v := 1) (kX12_go_1 37 rfl) rfl (by decide) ?_
              refine X_goto (tgt := 272) (kX12_go_1 38 rfl) rfl ?_
              exact X_L [0, 2, 3] rfl (kJ true)
            · refine X_iconst (n := 272) (v := 0) (kX12_go_1 39 rfl) rfl (by decide) ?_
              exact X_L [0, 2, 3] rfl (kJ false)
      · exact X_L [0, 1, 2] rfl (kE i3 S22)
set_option maxHeartbeats 4000000 in
set_option maxRecDepth 100000 in
theorem w_X12_go {l : Launch} {g : XG}  {a0 : Nat} {S : XS} (hk0 : kd a0 = 12) : Cl φV l g 2 mX12_go [.ref a0] S (f_X12_go a0 S) := by
  refine Cl.of (by decide +kernel) (Nat.le_of_ble_eq_true rfl) ?_
  unfold f_X12_go
  show X _ _ _ _ _ 0 [(0, .ref a0)] [] S _
  refine X_L [0] rfl (w_X12_go_L0 hk0 (fun S6 => ?_) 1000000  S)
  try dsimp only
  refine X_aload_n (n := 53) 0 (kX12_go 26 rfl) rfl rfl rfl ?_
  refine X_aload_n (n := 54) 0 (kX12_go 27 rfl) rfl rfl rfl ?_
  refine X_getI (n := 57) xf_X12 hk0 (by decide) fl_X12_113 rfl (kX12_go 28 rfl) rfl ?_
  refine X_putI (n := 60) xf_X12 hk0 (by decide) fl_X12_116 rfl rfl (Or.inl rfl) (kX12_go 29 rfl) rfl ?_
  refine X_aload_n (n := 61) 0 (kX12_go 30 rfl) rfl rfl rfl ?_
  refine X_getI (n := 64) xf_X12 hk0 (by decide) fl_X12_110 rfl (kX12_go 31 rfl) rfl ?_
  refine X_aload_n (n := 65) 0 (kX12_go 32 rfl) rfl rfl rfl ?_
  refine X_getI (n := 68) xf_X12 hk0 (by decide) fl_X12_119 rfl (kX12_go 33 rfl) rfl ?_
  refine X_ic_le (n := 71) (tgt := 96) (kX12_go 34 rfl) rfl rfl (fun h7 => ?_) (fun h7 => ?_)
  · refine X_aload_n (n := 97) 0 (kX12_go 48 rfl) rfl rfl rfl ?_
    refine X_getI (n := 100) xf_X12 hk0 (by decide) fl_X12_113 rfl (kX12_go 49 rfl) rfl ?_
    refine X_aload_n (n := 101) 0 (kX12_go 50 rfl) rfl rfl rfl ?_
    refine X_getI (n := 104) xf_X12 hk0 (by decide) fl_X12_110 rfl (kX12_go 51 rfl) rfl ?_
    refine X_ic_lt (n := 107) (tgt := 113) (kX12_go 52 rfl) rfl rfl (fun h8 => ?_) (fun h8 => ?_)
    · refine X_aload_n (n := 114) 0 (kX12_go 57 rfl) rfl rfl rfl ?_
      refine X_getR (n := 117) xf_X12 hk0 (by decide) fl_X12_7 rfl (kX12_go 58 rfl) rfl ?_
      refine X_aload_n (n := 118) 0 (kX12_go 59 rfl) rfl rfl rfl ?_
      refine X_getI (n := 121) xf_X12 hk0 (by decide) fl_X12_113 rfl (kX12_go 60 rfl) rfl ?_
      refine X_iald (n := 122) (kt_12_1 hk0) (kX12_go 61 rfl) rfl (fun h54 => ?_)
      refine X_istore_n (n := 123) (L1 := [(1, .int ((sI S6 a0 6 (S6.1 a0 5)).1 (rf a0 1) ((sI S6 a0 6 (S6.1 a0 5)).1 a0 5).toNatClampNeg)), (0, .ref a0)]) (kX12_go 62 rfl) rfl rfl (Nat.le_of_ble_eq_true rfl) rfl ?_
      refine X_iload_n (n := 124) 0 (kX12_go 63 rfl) rfl rfl rfl ?_
      refine X_callS1B (n := 127) (As := [.int ((sI S6 a0 6 (S6.1 a0 5)).1 (rf a0 1) ((sI S6 a0 6 (S6.1 a0 5)).1 a0 5).toNatClampNeg)]) (st := []) (kX12_go 64 rfl) rfl p_X12_isLetter (by decide) ml_X12_125 mf_X12_isLetter rfl rfl (Nat.le_of_ble_eq_true rfl) ?_
      refine X_bn (n := 130) (tgt := 198) (kX12_go 65 rfl) rfl rfl (fun h9 => ?_) (fun h9 => ?_)
      · refine X_iload_n (n := 199) 0 (kX12_go_1 2 rfl) rfl rfl rfl ?_
        refine X_callS1B (n := 202) (As := [.int ((sI S6 a0 6 (S6.1 a0 5)).1 (rf a0 1) ((sI S6 a0 6 (S6.1 a0 5)).1 a0 5).toNatClampNeg)]) (st := []) (kX12_go_1 3 rfl) rfl p_X12_isLetter (by decide) ml_X12_125 mf_X12_isLetter rfl rfl (Nat.le_of_ble_eq_true rfl) ?_
        refine X_istore_n (n := 203) (L1 := [(2, .int (bi (t_X12_isLetter ((sI S6 a0 6 (S6.1 a0 5)).1 (rf a0 1) ((sI S6 a0 6 (S6.1 a0 5)).1 a0 5).toNatClampNeg)))), (1, .int ((sI S6 a0 6 (S6.1 a0 5)).1 (rf a0 1) ((sI S6 a0 6 (S6.1 a0 5)).1 a0 5).toNatClampNeg)), (0, .ref a0)]) (kX12_go_1 4 rfl) rfl rfl (Nat.le_of_ble_eq_true rfl) rfl ?_
        refine X_iconst (n := 204) (v := 1) (kX12_go_1 5 rfl) rfl (by decide) ?_
        refine X_istore_n (n := 205) (L1 := [(3, .int 1), (2, .int (bi (t_X12_isLetter ((sI S6 a0 6 (S6.1 a0 5)).1 (rf a0 1) ((sI S6 a0 6 (S6.1 a0 5)).1 a0 5).toNatClampNeg)))), (1, .int ((sI S6 a0 6 (S6.1 a0 5)).1 (rf a0 1) ((sI S6 a0 6 (S6.1 a0 5)).1 a0 5).toNatClampNeg)), (0, .ref a0)]) (kX12_go_1 6 rfl) rfl rfl (Nat.le_of_ble_eq_true rfl) rfl ?_
        refine X_aload_n (n := 206) 3 (kX12_go_1 7 rfl) rfl rfl rfl ?_
        refine X_lconst (n := 207) (v := 0) (kX12_go_1 8 rfl) rfl (by decide) ?_
        refine X_putJ (n := 210) xf_X12 hk0 (by decide) fl_X12_135 rfl rfl (kX12_go_1 9 rfl) rfl ?_
        refine X_aload_n (n := 211) 3 (kX12_go_1 10 rfl) rfl rfl rfl ?_
        refine X_iconst (n := 212) (v := 0) (kX12_go_1 11 rfl) rfl (by decide) ?_
        refine X_putI (n := 215) xf_X12 hk0 (by decide) fl_X12_139 rfl rfl (Or.inl rfl) (kX12_go_1 12 rfl) rfl ?_
        refine X_L [0, 1, 3] rfl (w_X12_go_L215 hk0 (fun e32 S33 => ?_) 1000000 (1 : Int32) (sI (sL (sI S6 a0 6 (S6.1 a0 5)) a0 12 0) a0 8 (0 : Int32)))
        try dsimp only
        refine X_aload_n (n := 351) 2 (kX12_go_1 83 rfl) rfl rfl rfl ?_
        refine X_iload_n (n := 352) 0 (kX12_go_1 84 rfl) rfl rfl rfl ?_
        refine X_if_eq (n := 355) (tgt := 377) (kX12_go_1 85 rfl) rfl rfl (fun h34 => ?_) (fun h34 => ?_)
        · refine X_iconst (n := 378) (v := 1) (kX12_go_1 97 rfl) rfl (by decide) ?_
          refine X_goto (tgt := 390) (kX12_go_1 98 rfl) rfl ?_
          refine X_putI (n := 393) xf_X12 hk0 (by decide) fl_X12_122 rfl rfl (Or.inl rfl) (kX12_go_2 4 rfl) rfl ?_
          exact X_vret rfl (kX12_go_2 5 rfl)
        · refine X_aload_n (n := 356) 2 (kX12_go_1 86 rfl) rfl rfl rfl ?_
          refine X_getI (n := 359) xf_X12 hk0 (by decide) fl_X12_113 rfl (kX12_go_1 87 rfl) rfl ?_
          refine X_aload_n (n := 360) 2 (kX12_go_1 88 rfl) rfl rfl rfl ?_
          refine X_getI (n := 363) xf_X12 hk0 (by decide) fl_X12_116 rfl (kX12_go_1 89 rfl) rfl ?_
          refine X_isub (n := 364) (kX12_go_1 90 rfl) rfl ?_
          refine X_iload_n (n := 365) 1 (kX12_go_1 91 rfl) rfl rfl rfl ?_
          refine X_join 374 (fun x35 => [(2, .int (bi (t_X12_isLetter ((sI S6 a0 6 (S6.1 a0 5)).1 (rf a0 1) ((sI S6 a0 6 (S6.1 a0 5)).1 a0 5).toNatClampNeg))))]) (fun x35 => [.int x35, .int ((S33.1 a0 5) - (S33.1 a0 6)), .ref a0]) (fun x35 => S33) (fun x35 => ?_) (fun kJ => ?_)
          · try dsimp only
            refine X_ic_le (n := 377) (tgt := 381) (kX12_go_1 96 rfl) rfl rfl (fun h36 => ?_) (fun h36 => ?_)
            · refine X_iload_n (n := 382) 0 (kX12_go_1 99 rfl) rfl rfl rfl ?_
              refine X_bz (n := 385) (tgt := 389) (kX12_go_2 0 rfl) rfl rfl (fun h37 => ?_) (fun h37 => ?_)
              · refine X_iconst (n := 386) (v := 2) (kX12_go_2 1 rfl) rfl (by decide) ?_
                refine X_goto (tgt := 390) (kX12_go_2 2 rfl) rfl ?_
                refine X_putI (n := 393) xf_X12 hk0 (by decide) fl_X12_122 rfl rfl (Or.inl rfl) (kX12_go_2 4 rfl) rfl ?_
                exact X_vret rfl (kX12_go_2 5 rfl)
              · refine X_iconst (n := 390) (v := 3) (kX12_go_2 3 rfl) rfl (by decide) ?_
                refine X_putI (n := 393) xf_X12 hk0 (by decide) fl_X12_122 rfl rfl (Or.inl rfl) (kX12_go_2 4 rfl) rfl ?_
                exact X_vret rfl (kX12_go_2 5 rfl)
            · refine X_iconst (n := 378) (v := 1) (kX12_go_1 97 rfl) rfl (by decide) ?_
              refine X_goto (tgt := 390) (kX12_go_1 98 rfl) rfl ?_
              refine X_putI (n := 393) xf_X12 hk0 (by decide) fl_X12_122 rfl rfl (Or.inl rfl) (kX12_go_2 4 rfl) rfl ?_
              exact X_vret rfl (kX12_go_2 5 rfl)
          · refine X_itebind ?_
            refine X_bz (n := 368) (tgt := 373) (kX12_go_1 92 rfl) rfl rfl (fun h38 => ?_) (fun h38 => ?_)
            · refine X_bipush (n := 370) (v := 7) (kX12_go_1 93 rfl) rfl (by decide) ?_
              refine X_goto (tgt := 374) (kX12_go_1 94 rfl) rfl ?_
              exact X_L [1] rfl (kJ (7 : Int32))
            · refine X_iconst (n := 374) (v := 3) (kX12_go_1 95 rfl) rfl (by decide) ?_
              exact X_L [1] rfl (kJ (3 : Int32))
      · refine X_iload_n (n := 131) 0 (kX12_go 66 rfl) rfl rfl rfl ?_
        refine X_callS1B (n := 134) (As := [.int ((sI S6 a0 6 (S6.1 a0 5)).1 (rf a0 1) ((sI S6 a0 6 (S6.1 a0 5)).1 a0 5).toNatClampNeg)]) (st := []) (kX12_go 67 rfl) rfl p_X12_isDigit (by decide) ml_X12_129 mf_X12_isDigit rfl rfl (Nat.le_of_ble_eq_true rfl) ?_
        refine X_bn (n := 137) (tgt := 198) (kX12_go 68 rfl) rfl rfl (fun h39 => ?_) (fun h39 => ?_)
        · refine X_iload_n (n := 199) 0 (kX12_go_1 2 rfl) rfl rfl rfl ?_
          refine X_callS1B (n := 202) (As := [.int ((sI S6 a0 6 (S6.1 a0 5)).1 (rf a0 1) ((sI S6 a0 6 (S6.1 a0 5)).1 a0 5).toNatClampNeg)]) (st := []) (kX12_go_1 3 rfl) rfl p_X12_isLetter (by decide) ml_X12_125 mf_X12_isLetter rfl rfl (Nat.le_of_ble_eq_true rfl) ?_
          refine X_istore_n (n := 203) (L1 := [(2, .int (bi (t_X12_isLetter ((sI S6 a0 6 (S6.1 a0 5)).1 (rf a0 1) ((sI S6 a0 6 (S6.1 a0 5)).1 a0 5).toNatClampNeg)))), (1, .int ((sI S6 a0 6 (S6.1 a0 5)).1 (rf a0 1) ((sI S6 a0 6 (S6.1 a0 5)).1 a0 5).toNatClampNeg)), (0, .ref a0)]) (kX12_go_1 4 rfl) rfl rfl (Nat.le_of_ble_eq_true rfl) rfl ?_
          refine X_iconst (n := 204) (v := 1) (kX12_go_1 5 rfl) rfl (by decide) ?_
          refine X_istore_n (n := 205) (L1 := [(3, .int 1), (2, .int (bi (t_X12_isLetter ((sI S6 a0 6 (S6.1 a0 5)).1 (rf a0 1) ((sI S6 a0 6 (S6.1 a0 5)).1 a0 5).toNatClampNeg)))), (1, .int ((sI S6 a0 6 (S6.1 a0 5)).1 (rf a0 1) ((sI S6 a0 6 (S6.1 a0 5)).1 a0 5).toNatClampNeg)), (0, .ref a0)]) (kX12_go_1 6 rfl) rfl rfl (Nat.le_of_ble_eq_true rfl) rfl ?_
          refine X_aload_n (n := 206) 3 (kX12_go_1 7 rfl) rfl rfl rfl ?_
          refine X_lconst (n := 207) (v := 0) (kX12_go_1 8 rfl) rfl (by decide) ?_
          refine X_putJ (n := 210) xf_X12 hk0 (by decide) fl_X12_135 rfl rfl (kX12_go_1 9 rfl) rfl ?_
          refine X_aload_n (n := 211) 3 (kX12_go_1 10 rfl) rfl rfl rfl ?_
          refine X_iconst (n := 212) (v := 0) (kX12_go_1 11 rfl) rfl (by decide) ?_
          refine X_putI (n := 215) xf_X12 hk0 (by decide) fl_X12_139 rfl rfl (Or.inl rfl) (kX12_go_1 12 rfl) rfl ?_
          refine X_L [0, 1, 3] rfl (w_X12_go_L215 hk0 (fun e40 S41 => ?_) 1000000 (1 : Int32) (sI (sL (sI S6 a0 6 (S6.1 a0 5)) a0 12 0) a0 8 (0 : Int32)))
          try dsimp only
          refine X_aload_n (n := 351) 2 (kX12_go_1 83 rfl) rfl rfl rfl ?_
          refine X_iload_n (n := 352) 0 (kX12_go_1 84 rfl) rfl rfl rfl ?_
          refine X_if_eq (n := 355) (tgt := 377) (kX12_go_1 85 rfl) rfl rfl (fun h42 => ?_) (fun h42 => ?_)
          · refine X_iconst (n := 378) (v := 1) (kX12_go_1 97 rfl) rfl (by decide) ?_
            refine X_goto (tgt := 390) (kX12_go_1 98 rfl) rfl ?_
            refine X_putI (n := 393) xf_X12 hk0 (by decide) fl_X12_122 rfl rfl (Or.inl rfl) (kX12_go_2 4 rfl) rfl ?_
            exact X_vret rfl (kX12_go_2 5 rfl)
          · refine X_aload_n (n := 356) 2 (kX12_go_1 86 rfl) rfl rfl rfl ?_
            refine X_getI (n := 359) xf_X12 hk0 (by decide) fl_X12_113 rfl (kX12_go_1 87 rfl) rfl ?_
            refine X_aload_n (n := 360) 2 (kX12_go_1 88 rfl) rfl rfl rfl ?_
            refine X_getI (n := 363) xf_X12 hk0 (by decide) fl_X12_116 rfl (kX12_go_1 89 rfl) rfl ?_
            refine X_isub (n := 364) (kX12_go_1 90 rfl) rfl ?_
            refine X_iload_n (n := 365) 1 (kX12_go_1 91 rfl) rfl rfl rfl ?_
            refine X_join 374 (fun x43 => [(2, .int (bi (t_X12_isLetter ((sI S6 a0 6 (S6.1 a0 5)).1 (rf a0 1) ((sI S6 a0 6 (S6.1 a0 5)).1 a0 5).toNatClampNeg))))]) (fun x43 => [.int x43, .int ((S41.1 a0 5) - (S41.1 a0 6)), .ref a0]) (fun x43 => S41) (fun x43 => ?_) (fun kJ => ?_)
            · try dsimp only
              refine X_ic_le (n := 377) (tgt := 381) (kX12_go_1 96 rfl) rfl rfl (fun h44 => ?_) (fun h44 => ?_)
              · refine X_iload_n (n := 382) 0 (kX12_go_1 99 rfl) rfl rfl rfl ?_
                refine X_bz (n := 385) (tgt := 389) (kX12_go_2 0 rfl) rfl rfl (fun h45 => ?_) (fun h45 => ?_)
                · refine X_iconst (n := 386) (v := 2) (kX12_go_2 1 rfl) rfl (by decide) ?_
                  refine X_goto (tgt := 390) (kX12_go_2 2 rfl) rfl ?_
                  refine X_putI (n := 393) xf_X12 hk0 (by decide) fl_X12_122 rfl rfl (Or.inl rfl) (kX12_go_2 4 rfl) rfl ?_
                  exact X_vret rfl (kX12_go_2 5 rfl)
                · refine X_iconst (n := 390) (v := 3) (kX12_go_2 3 rfl) rfl (by decide) ?_
                  refine X_putI (n := 393) xf_X12 hk0 (by decide) fl_X12_122 rfl rfl (Or.inl rfl) (kX12_go_2 4 rfl) rfl ?_
                  exact X_vret rfl (kX12_go_2 5 rfl)
              · refine X_iconst (n := 378) (v := 1) (kX12_go_1 97 rfl) rfl (by decide) ?_
                refine X_goto (tgt := 390) (kX12_go_1 98 rfl) rfl ?_
                refine X_putI (n := 393) xf_X12 hk0 (by decide) fl_X12_122 rfl rfl (Or.inl rfl) (kX12_go_2 4 rfl) rfl ?_
                exact X_vret rfl (kX12_go_2 5 rfl)
            · refine X_itebind ?_
              refine X_bz (n := 368) (tgt := 373) (kX12_go_1 92 rfl) rfl rfl (fun h46 => ?_) (fun h46 => ?_)
              · refine X_bipush (n := 370) (v := 7) (kX12_go_1 93 rfl) rfl (by decide) ?_
                refine X_goto (tgt := 374) (kX12_go_1 94 rfl) rfl ?_
                exact X_L [1] rfl (kJ (7 : Int32))
              · refine X_iconst (n := 374) (v := 3) (kX12_go_1 95 rfl) rfl (by decide) ?_
                exact X_L [1] rfl (kJ (3 : Int32))
        · refine X_aload_n (n := 138) 1 (kX12_go 69 rfl) rfl rfl rfl ?_
          refine X_iload_n (n := 139) 0 (kX12_go 70 rfl) rfl rfl rfl ?_
          refine X_bipush (n := 141) (v := 59) (kX12_go 71 rfl) rfl (by decide) ?_
          refine X_join 179 (fun x47 => [(1, .int ((sI S6 a0 6 (S6.1 a0 5)).1 (rf a0 1) ((sI S6 a0 6 (S6.1 a0 5)).1 a0 5).toNatClampNeg)), (0, .ref a0)]) (fun x47 => [.int x47, .ref a0]) (fun x47 => (sI S6 a0 6 (S6.1 a0 5))) (fun x47 => ?_) (fun kJ => ?_)
          · try dsimp only
            refine X_putI (n := 182) xf_X12 hk0 (by decide) fl_X12_122 rfl rfl (Or.inl rfl) (kX12_go 91 rfl) rfl ?_
            refine X_aload_n (n := 183) 1 (kX12_go 92 rfl) rfl rfl rfl ?_
            refine X_iload_n (n := 184) 0 (kX12_go 93 rfl) rfl rfl rfl ?_
            refine X_putI (n := 187) xf_X12 hk0 (by decide) fl_X12_132 rfl rfl (Or.inl rfl) (kX12_go 94 rfl) rfl ?_
            refine X_aload_n (n := 188) 1 (kX12_go 95 rfl) rfl rfl rfl ?_
            refine X_dup (n := 189) (kX12_go 96 rfl) rfl rfl ?_
            refine X_getI (n := 192) xf_X12 hk0 (by decide) fl_X12_113 rfl (kX12_go 97 rfl) rfl ?_
            refine X_iconst (n := 193) (v := 1) (kX12_go 98 rfl) rfl (by decide) ?_
            refine X_iadd (n := 194) (kX12_go 99 rfl) rfl ?_
            refine X_putI (n := 197) xf_X12 hk0 (by decide) fl_X12_113 rfl rfl (Or.inl rfl) (kX12_go_1 0 rfl) rfl ?_
            exact X_vret rfl (kX12_go_1 1 rfl)
          · refine X_itebind ?_
            refine X_ic_eq (n := 144) (tgt := 174) (kX12_go 72 rfl) rfl rfl (fun h48 => ?_) (fun h48 => ?_)
            · refine X_iconst (n := 175) (v := 4) (kX12_go 88 rfl) rfl (by decide) ?_
              refine X_goto (tgt := 179) (kX12_go 89 rfl) rfl ?_
              exact X_L [0, 1] rfl (kJ (4 : Int32))
            · refine X_iload_n (n := 145) 0 (kX12_go 73 rfl) rfl rfl rfl ?_
              refine X_bipush (n := 147) (v := 60) (kX12_go 74 rfl) rfl (by decide) ?_
              refine X_itebind ?_
              refine X_ic_eq (n := 150) (tgt := 174) (kX12_go 75 rfl) rfl rfl (fun h49 => ?_) (fun h49 => ?_)
              · refine X_iconst (n := 175) (v := 4) (kX12_go 88 rfl) rfl (by decide) ?_
                refine X_goto (tgt := 179) (kX12_go 89 rfl) rfl ?_
                exact X_L [0, 1] rfl (kJ (4 : Int32))
              · refine X_iload_n (n := 151) 0 (kX12_go 76 rfl) rfl rfl rfl ?_
                refine X_bipush (n := 153) (v := 61) (kX12_go 77 rfl) rfl (by decide) ?_
                refine X_itebind ?_
                refine X_ic_eq (n := 156) (tgt := 174) (kX12_go 78 rfl) rfl rfl (fun h50 => ?_) (fun h50 => ?_)
                · refine X_iconst (n := 175) (v := 4) (kX12_go 88 rfl) rfl (by decide) ?_
                  refine X_goto (tgt := 179) (kX12_go 89 rfl) rfl ?_
                  exact X_L [0, 1] rfl (kJ (4 : Int32))
                · refine X_iload_n (n := 157) 0 (kX12_go 79 rfl) rfl rfl rfl ?_
                  refine X_bipush (n := 159) (v := 62) (kX12_go 80 rfl) rfl (by decide) ?_
                  refine X_itebind ?_
                  refine X_ic_eq (n := 162) (tgt := 174) (kX12_go 81 rfl) rfl rfl (fun h51 => ?_) (fun h51 => ?_)
                  · refine X_iconst (n := 175) (v := 4) (kX12_go 88 rfl) rfl (by decide) ?_
                    refine X_goto (tgt := 179) (kX12_go 89 rfl) rfl ?_
                    exact X_L [0, 1] rfl (kJ (4 : Int32))
                  · refine X_iload_n (n := 163) 0 (kX12_go 82 rfl) rfl rfl rfl ?_
                    refine X_bipush (n := 165) (v := 40) (kX12_go 83 rfl) rfl (by decide) ?_
                    refine X_itebind ?_
                    refine X_ic_eq (n := 168) (tgt := 174) (kX12_go 84 rfl) rfl rfl (fun h52 => ?_) (fun h52 => ?_)
                    · refine X_iconst (n := 175) (v := 4) (kX12_go 88 rfl) rfl (by decide) ?_
                      refine X_goto (tgt := 179) (kX12_go 89 rfl) rfl ?_
                      exact X_L [0, 1] rfl (kJ (4 : Int32))
                    · refine X_iload_n (n := 169) 0 (kX12_go 85 rfl) rfl rfl rfl ?_
                      refine X_bipush (n := 171) (v := 41) (kX12_go 86 rfl) rfl (by decide) ?_
                      refine X_itebind ?_
                      refine X_ic_ne (n := 174) (tgt := 178) (kX12_go 87 rfl) rfl rfl (fun h53 => ?_) (fun h53 => ?_)
                      · refine X_iconst (n := 175) (v := 4) (kX12_go 88 rfl) rfl (by decide) ?_
                        refine X_goto (tgt := 179) (kX12_go 89 rfl) rfl ?_
                        exact X_L [0, 1] rfl (kJ (4 : Int32))
                      · refine X_iconst (n := 179) (v := 1) (kX12_go 90 rfl) rfl (by decide) ?_
                        exact X_L [0, 1] rfl (kJ (1 : Int32))
    · refine X_aload_n (n := 108) 0 (kX12_go 53 rfl) rfl rfl rfl ?_
      refine X_iconst (n := 109) (v := 0) (kX12_go 54 rfl) rfl (by decide) ?_
      refine X_putI (n := 112) xf_X12 hk0 (by decide) fl_X12_122 rfl rfl (Or.inl rfl) (kX12_go 55 rfl) rfl ?_
      exact X_vret rfl (kX12_go 56 rfl)
  · refine X_aload_n (n := 72) 0 (kX12_go 35 rfl) rfl rfl rfl ?_
    refine X_getI (n := 75) xf_X12 hk0 (by decide) fl_X12_116 rfl (kX12_go 36 rfl) rfl ?_
    refine X_aload_n (n := 76) 0 (kX12_go 37 rfl) rfl rfl rfl ?_
    refine X_getI (n := 79) xf_X12 hk0 (by decide) fl_X12_119 rfl (kX12_go 38 rfl) rfl ?_
    refine X_ic_lt (n := 82) (tgt := 96) (kX12_go 39 rfl) rfl rfl (fun h55 => ?_) (fun h55 => ?_)
    · refine X_aload_n (n := 97) 0 (kX12_go 48 rfl) rfl rfl rfl ?_
      refine X_getI (n := 100) xf_X12 hk0 (by decide) fl_X12_113 rfl (kX12_go 49 rfl) rfl ?_
      refine X_aload_n (n := 101) 0 (kX12_go 50 rfl) rfl rfl rfl ?_
      refine X_getI (n := 104) xf_X12 hk0 (by decide) fl_X12_110 rfl (kX12_go 51 rfl) rfl ?_
      refine X_ic_lt (n := 107) (tgt := 113) (kX12_go 52 rfl) rfl rfl (fun h56 => ?_) (fun h56 => ?_)
      · refine X_aload_n (n := 114) 0 (kX12_go 57 rfl) rfl rfl rfl ?_
        refine X_getR (n := 117) xf_X12 hk0 (by decide) fl_X12_7 rfl (kX12_go 58 rfl) rfl ?_
        refine X_aload_n (n := 118) 0 (kX12_go 59 rfl) rfl rfl rfl ?_
        refine X_getI (n := 121) xf_X12 hk0 (by decide) fl_X12_113 rfl (kX12_go 60 rfl) rfl ?_
        refine X_iald (n := 122) (kt_12_1 hk0) (kX12_go 61 rfl) rfl (fun h80 => ?_)
        refine X_istore_n (n := 123) (L1 := [(1, .int ((sI S6 a0 6 (S6.1 a0 5)).1 (rf a0 1) ((sI S6 a0 6 (S6.1 a0 5)).1 a0 5).toNatClampNeg)), (0, .ref a0)]) (kX12_go 62 rfl) rfl rfl (Nat.le_of_ble_eq_true rfl) rfl ?_
        refine X_iload_n (n := 124) 0 (kX12_go 63 rfl) rfl rfl rfl ?_
        refine X_callS1B (n := 127) (As := [.int ((sI S6 a0 6 (S6.1 a0 5)).1 (rf a0 1) ((sI S6 a0 6 (S6.1 a0 5)).1 a0 5).toNatClampNeg)]) (st := []) (kX12_go 64 rfl) rfl p_X12_isLetter (by decide) ml_X12_125 mf_X12_isLetter rfl rfl (Nat.le_of_ble_eq_true rfl) ?_
        refine X_bn (n := 130) (tgt := 198) (kX12_go 65 rfl) rfl rfl (fun h57 => ?_) (fun h57 => ?_)
        · refine X_iload_n (n := 199) 0 (kX12_go_1 2 rfl) rfl rfl rfl ?_
          refine X_callS1B (n := 202) (As := [.int ((sI S6 a0 6 (S6.1 a0 5)).1 (rf a0 1) ((sI S6 a0 6 (S6.1 a0 5)).1 a0 5).toNatClampNeg)]) (st := []) (kX12_go_1 3 rfl) rfl p_X12_isLetter (by decide) ml_X12_125 mf_X12_isLetter rfl rfl (Nat.le_of_ble_eq_true rfl) ?_
          refine X_istore_n (n := 203) (L1 := [(2, .int (bi (t_X12_isLetter ((sI S6 a0 6 (S6.1 a0 5)).1 (rf a0 1) ((sI S6 a0 6 (S6.1 a0 5)).1 a0 5).toNatClampNeg)))), (1, .int ((sI S6 a0 6 (S6.1 a0 5)).1 (rf a0 1) ((sI S6 a0 6 (S6.1 a0 5)).1 a0 5).toNatClampNeg)), (0, .ref a0)]) (kX12_go_1 4 rfl) rfl rfl (Nat.le_of_ble_eq_true rfl) rfl ?_
          refine X_iconst (n := 204) (v := 1) (kX12_go_1 5 rfl) rfl (by decide) ?_
          refine X_istore_n (n := 205) (L1 := [(3, .int 1), (2, .int (bi (t_X12_isLetter ((sI S6 a0 6 (S6.1 a0 5)).1 (rf a0 1) ((sI S6 a0 6 (S6.1 a0 5)).1 a0 5).toNatClampNeg)))), (1, .int ((sI S6 a0 6 (S6.1 a0 5)).1 (rf a0 1) ((sI S6 a0 6 (S6.1 a0 5)).1 a0 5).toNatClampNeg)), (0, .ref a0)]) (kX12_go_1 6 rfl) rfl rfl (Nat.le_of_ble_eq_true rfl) rfl ?_
          refine X_aload_n (n := 206) 3 (kX12_go_1 7 rfl) rfl rfl rfl ?_
          refine X_lconst (n := 207) (v := 0) (kX12_go_1 8 rfl) rfl (by decide) ?_
          refine X_putJ (n := 210) xf_X12 hk0 (by decide) fl_X12_135 rfl rfl (kX12_go_1 9 rfl) rfl ?_
          refine X_aload_n (n := 211) 3 (kX12_go_1 10 rfl) rfl rfl rfl ?_
          refine X_iconst (n := 212) (v := 0) (kX12_go_1 11 rfl) rfl (by decide) ?_
          refine X_putI (n := 215) xf_X12 hk0 (by decide) fl_X12_139 rfl rfl (Or.inl rfl) (kX12_go_1 12 rfl) rfl ?_
          refine X_L [0, 1, 3] rfl (w_X12_go_L215 hk0 (fun e58 S59 => ?_) 1000000 (1 : Int32) (sI (sL (sI S6 a0 6 (S6.1 a0 5)) a0 12 0) a0 8 (0 : Int32)))
          try dsimp only
          refine X_aload_n (n := 351) 2 (kX12_go_1 83 rfl) rfl rfl rfl ?_
          refine X_iload_n (n := 352) 0 (kX12_go_1 84 rfl) rfl rfl rfl ?_
          refine X_if_eq (n := 355) (tgt := 377) (kX12_go_1 85 rfl) rfl rfl (fun h60 => ?_) (fun h60 => ?_)
          · refine X_iconst (n := 378) (v := 1) (kX12_go_1 97 rfl) rfl (by decide) ?_
            refine X_goto (tgt := 390) (kX12_go_1 98 rfl) rfl ?_
            refine X_putI (n := 393) xf_X12 hk0 (by decide) fl_X12_122 rfl rfl (Or.inl rfl) (kX12_go_2 4 rfl) rfl ?_
            exact X_vret rfl (kX12_go_2 5 rfl)
          · refine X_aload_n (n := 356) 2 (kX12_go_1 86 rfl) rfl rfl rfl ?_
            refine X_getI (n := 359) xf_X12 hk0 (by decide) fl_X12_113 rfl (kX12_go_1 87 rfl) rfl ?_
            refine X_aload_n (n := 360) 2 (kX12_go_1 88 rfl) rfl rfl rfl ?_
            refine X_getI (n := 363) xf_X12 hk0 (by decide) fl_X12_116 rfl (kX12_go_1 89 rfl) rfl ?_
            refine X_isub (n := 364) (kX12_go_1 90 rfl) rfl ?_
            refine X_iload_n (n := 365) 1 (kX12_go_1 91 rfl) rfl rfl rfl ?_
            refine X_join 374 (fun x61 => [(2, .int (bi (t_X12_isLetter ((sI S6 a0 6 (S6.1 a0 5)).1 (rf a0 1) ((sI S6 a0 6 (S6.1 a0 5)).1 a0 5).toNatClampNeg))))]) (fun x61 => [.int x61, .int ((S59.1 a0 5) - (S59.1 a0 6)), .ref a0]) (fun x61 => S59) (fun x61 => ?_) (fun kJ => ?_)
            · try dsimp only
              refine X_ic_le (n := 377) (tgt := 381) (kX12_go_1 96 rfl) rfl rfl (fun h62 => ?_) (fun h62 => ?_)
              · refine X_iload_n (n := 382) 0 (kX12_go_1 99 rfl) rfl rfl rfl ?_
                refine X_bz (n := 385) (tgt := 389) (kX12_go_2 0 rfl) rfl rfl (fun h63 => ?_) (fun h63 => ?_)
                · refine X_iconst (n := 386) (v := 2) (kX12_go_2 1 rfl) rfl (by decide) ?_
                  refine X_goto (tgt := 390) (kX12_go_2 2 rfl) rfl ?_
                  refine X_putI (n := 393) xf_X12 hk0 (by decide) fl_X12_122 rfl rfl (Or.inl rfl) (kX12_go_2 4 rfl) rfl ?_
                  exact X_vret rfl (kX12_go_2 5 rfl)
                · refine X_iconst (n := 390) (v := 3) (kX12_go_2 3 rfl) rfl (by decide) ?_
                  refine X_putI (n := 393) xf_X12 hk0 (by decide) fl_X12_122 rfl rfl (Or.inl rfl) (kX12_go_2 4 rfl) rfl ?_
                  exact X_vret rfl (kX12_go_2 5 rfl)
              · refine X_iconst (n := 378) (v := 1) (kX12_go_1 97 rfl) rfl (by decide) ?_
                refine X_goto (tgt := 390) (kX12_go_1 98 rfl) rfl ?_
                refine X_putI (n := 393) xf_X12 hk0 (by decide) fl_X12_122 rfl rfl (Or.inl rfl) (kX12_go_2 4 rfl) rfl ?_
                exact X_vret rfl (kX12_go_2 5 rfl)
            · refine X_itebind ?_
              refine X_bz (n := 368) (tgt := 373) (kX12_go_1 92 rfl) rfl rfl (fun h64 => ?_) (fun h64 => ?_)
              · refine X_bipush (n := 370) (v := 7) (kX12_go_1 93 rfl) rfl (by decide) ?_
                refine X_goto (tgt := 374) (kX12_go_1 94 rfl) rfl ?_
                exact X_L [1] rfl (kJ (7 : Int32))
              · refine X_iconst (n := 374) (v := 3) (kX12_go_1 95 rfl) rfl (by decide) ?_
                exact X_L [1] rfl (kJ (3 : Int32))
        · refine X_iload_n (n := 131) 0 (kX12_go 66 rfl) rfl rfl rfl ?_
          refine X_callS1B (n := 134) (As := [.int ((sI S6 a0 6 (S6.1 a0 5)).1 (rf a0 1) ((sI S6 a0 6 (S6.1 a0 5)).1 a0 5).toNatClampNeg)]) (st := []) (kX12_go 67 rfl) rfl p_X12_isDigit (by decide) ml_X12_129 mf_X12_isDigit rfl rfl (Nat.le_of_ble_eq_true rfl) ?_
          refine X_bn (n := 137) (tgt := 198) (kX12_go 68 rfl) rfl rfl (fun h65 => ?_) (fun h65 => ?_)
          · refine X_iload_n (n := 199) 0 (kX12_go_1 2 rfl) rfl rfl rfl ?_
            refine X_callS1B (n := 202) (As := [.int ((sI S6 a0 6 (S6.1 a0 5)).1 (rf a0 1) ((sI S6 a0 6 (S6.1 a0 5)).1 a0 5).toNatClampNeg)]) (st := []) (kX12_go_1 3 rfl) rfl p_X12_isLetter (by decide) ml_X12_125 mf_X12_isLetter rfl rfl (Nat.le_of_ble_eq_true rfl) ?_
            refine X_istore_n (n := 203) (L1 := [(2, .int (bi (t_X12_isLetter ((sI S6 a0 6 (S6.1 a0 5)).1 (rf a0 1) ((sI S6 a0 6 (S6.1 a0 5)).1 a0 5).toNatClampNeg)))), (1, .int ((sI S6 a0 6 (S6.1 a0 5)).1 (rf a0 1) ((sI S6 a0 6 (S6.1 a0 5)).1 a0 5).toNatClampNeg)), (0, .ref a0)]) (kX12_go_1 4 rfl) rfl rfl (Nat.le_of_ble_eq_true rfl) rfl ?_
            refine X_iconst (n := 204) (v := 1) (kX12_go_1 5 rfl) rfl (by decide) ?_
            refine X_istore_n (n := 205) (L1 := [(3, .int 1), (2, .int (bi (t_X12_isLetter ((sI S6 a0 6 (S6.1 a0 5)).1 (rf a0 1) ((sI S6 a0 6 (S6.1 a0 5)).1 a0 5).toNatClampNeg)))), (1, .int ((sI S6 a0 6 (S6.1 a0 5)).1 (rf a0 1) ((sI S6 a0 6 (S6.1 a0 5)).1 a0 5).toNatClampNeg)), (0, .ref a0)]) (kX12_go_1 6 rfl) rfl rfl (Nat.le_of_ble_eq_true rfl) rfl ?_
            refine X_aload_n (n := 206) 3 (kX12_go_1 7 rfl) rfl rfl rfl ?_
            refine X_lconst (n := 207) (v := 0) (kX12_go_1 8 rfl) rfl (by decide) ?_
            refine X_putJ (n := 210) xf_X12 hk0 (by decide) fl_X12_135 rfl rfl (kX12_go_1 9 rfl) rfl ?_
            refine X_aload_n (n := 211) 3 (kX12_go_1 10 rfl) rfl rfl rfl ?_
            refine X_iconst (n := 212) (v := 0) (kX12_go_1 11 rfl) rfl (by decide) ?_
            refine X_putI (n := 215) xf_X12 hk0 (by decide) fl_X12_139 rfl rfl (Or.inl rfl) (kX12_go_1 12 rfl) rfl ?_
            refine X_L [0, 1, 3] rfl (w_X12_go_L215 hk0 (fun e66 S67 => ?_) 1000000 (1 : Int32) (sI (sL (sI S6 a0 6 (S6.1 a0 5)) a0 12 0) a0 8 (0 : Int32)))
            try dsimp only
            refine X_aload_n (n := 351) 2 (kX12_go_1 83 rfl) rfl rfl rfl ?_
            refine X_iload_n (n := 352) 0 (kX12_go_1 84 rfl) rfl rfl rfl ?_
            refine X_if_eq (n := 355) (tgt := 377) (kX12_go_1 85 rfl) rfl rfl (fun h68 => ?_) (fun h68 => ?_)
            · refine X_iconst (n := 378) (v := 1) (kX12_go_1 97 rfl) rfl (by decide) ?_
              refine X_goto (tgt := 390) (kX12_go_1 98 rfl) rfl ?_
              refine X_putI (n := 393) xf_X12 hk0 (by decide) fl_X12_122 rfl rfl (Or.inl rfl) (kX12_go_2 4 rfl) rfl ?_
              exact X_vret rfl (kX12_go_2 5 rfl)
            · refine X_aload_n (n := 356) 2 (kX12_go_1 86 rfl) rfl rfl rfl ?_
              refine X_getI (n := 359) xf_X12 hk0 (by decide) fl_X12_113 rfl (kX12_go_1 87 rfl) rfl ?_
              refine X_aload_n (n := 360) 2 (kX12_go_1 88 rfl) rfl rfl rfl ?_
              refine X_getI (n := 363) xf_X12 hk0 (by decide) fl_X12_116 rfl (kX12_go_1 89 rfl) rfl ?_
              refine X_isub (n := 364) (kX12_go_1 90 rfl) rfl ?_
              refine X_iload_n (n := 365) 1 (kX12_go_1 91 rfl) rfl rfl rfl ?_
              refine X_join 374 (fun x69 => [(2, .int (bi (t_X12_isLetter ((sI S6 a0 6 (S6.1 a0 5)).1 (rf a0 1) ((sI S6 a0 6 (S6.1 a0 5)).1 a0 5).toNatClampNeg))))]) (fun x69 => [.int x69, .int ((S67.1 a0 5) - (S67.1 a0 6)), .ref a0]) (fun x69 => S67) (fun x69 => ?_) (fun kJ => ?_)
              · try dsimp only
                refine X_ic_le (n := 377) (tgt := 381) (kX12_go_1 96 rfl) rfl rfl (fun h70 => ?_) (fun h70 => ?_)
                · refine X_iload_n (n := 382) 0 (kX12_go_1 99 rfl) rfl rfl rfl ?_
                  refine X_bz (n := 385) (tgt := 389) (kX12_go_2 0 rfl) rfl rfl (fun h71 => ?_) (fun h71 => ?_)
                  · refine X_iconst (n := 386) (v := 2) (kX12_go_2 1 rfl) rfl (by decide) ?_
                    refine X_goto (tgt := 390) (kX12_go_2 2 rfl) rfl ?_
                    refine X_putI (n := 393) xf_X12 hk0 (by decide) fl_X12_122 rfl rfl (Or.inl rfl) (kX12_go_2 4 rfl) rfl ?_
                    exact X_vret rfl (kX12_go_2 5 rfl)
                  · refine X_iconst (n := 390) (v := 3) (kX12_go_2 3 rfl) rfl (by decide) ?_
                    refine X_putI (n := 393) xf_X12 hk0 (by decide) fl_X12_122 rfl rfl (Or.inl rfl) (kX12_go_2 4 rfl) rfl ?_
                    exact X_vret rfl (kX12_go_2 5 rfl)
                · refine X_iconst (n := 378) (v := 1) (kX12_go_1 97 rfl) rfl (by decide) ?_
                  refine X_goto (tgt := 390) (kX12_go_1 98 rfl) rfl ?_
                  refine X_putI (n := 393) xf_X12 hk0 (by decide) fl_X12_122 rfl rfl (Or.inl rfl) (kX12_go_2 4 rfl) rfl ?_
                  exact X_vret rfl (kX12_go_2 5 rfl)
              · refine X_itebind ?_
                refine X_bz (n := 368) (tgt := 373) (kX12_go_1 92 rfl) rfl rfl (fun h72 => ?_) (fun h72 => ?_)
                · refine X_bipush (n := 370) (v := 7) (kX12_go_1 93 rfl) rfl (by decide) ?_
                  refine X_goto (tgt := 374) (kX12_go_1 94 rfl) rfl ?_
                  exact X_L [1] rfl (kJ (7 : Int32))
                · refine X_iconst (n := 374) (v := 3) (kX12_go_1 95 rfl) rfl (by decide) ?_
                  exact X_L [1] rfl (kJ (3 : Int32))
          · refine X_aload_n (n := 138) 1 (kX12_go 69 rfl) rfl rfl rfl ?_
            refine X_iload_n (n := 139) 0 (kX12_go 70 rfl) rfl rfl rfl ?_
            refine X_bipush (n := 141) (v := 59) (kX12_go 71 rfl) rfl (by decide) ?_
            refine X_join 179 (fun x73 => [(1, .int ((sI S6 a0 6 (S6.1 a0 5)).1 (rf a0 1) ((sI S6 a0 6 (S6.1 a0 5)).1 a0 5).toNatClampNeg)), (0, .ref a0)]) (fun x73 => [.int x73, .ref a0]) (fun x73 => (sI S6 a0 6 (S6.1 a0 5))) (fun x73 => ?_) (fun kJ => ?_)
            · try dsimp only
              refine X_putI (n := 182) xf_X12 hk0 (by decide) fl_X12_122 rfl rfl (Or.inl rfl) (kX12_go 91 rfl) rfl ?_
              refine X_aload_n (n := 183) 1 (kX12_go 92 rfl) rfl rfl rfl ?_
              refine X_iload_n (n := 184) 0 (kX12_go 93 rfl) rfl rfl rfl ?_
              refine X_putI (n := 187) xf_X12 hk0 (by decide) fl_X12_132 rfl rfl (Or.inl rfl) (kX12_go 94 rfl) rfl ?_
              refine X_aload_n (n := 188) 1 (kX12_go 95 rfl) rfl rfl rfl ?_
              refine X_dup (n := 189) (kX12_go 96 rfl) rfl rfl ?_
              refine X_getI (n := 192) xf_X12 hk0 (by decide) fl_X12_113 rfl (kX12_go 97 rfl) rfl ?_
              refine X_iconst (n := 193) (v := 1) (kX12_go 98 rfl) rfl (by decide) ?_
              refine X_iadd (n := 194) (kX12_go 99 rfl) rfl ?_
              refine X_putI (n := 197) xf_X12 hk0 (by decide) fl_X12_113 rfl rfl (Or.inl rfl) (kX12_go_1 0 rfl) rfl ?_
              exact X_vret rfl (kX12_go_1 1 rfl)
            · refine X_itebind ?_
              refine X_ic_eq (n := 144) (tgt := 174) (kX12_go 72 rfl) rfl rfl (fun h74 => ?_) (fun h74 => ?_)
              · refine X_iconst (n := 175) (v := 4) (kX12_go 88 rfl) rfl (by decide) ?_
                refine X_goto (tgt := 179) (kX12_go 89 rfl) rfl ?_
                exact X_L [0, 1] rfl (kJ (4 : Int32))
              · refine X_iload_n (n := 145) 0 (kX12_go 73 rfl) rfl rfl rfl ?_
                refine X_bipush (n := 147) (v := 60) (kX12_go 74 rfl) rfl (by decide) ?_
                refine X_itebind ?_
                refine X_ic_eq (n := 150) (tgt := 174) (kX12_go 75 rfl) rfl rfl (fun h75 => ?_) (fun h75 => ?_)
                · refine X_iconst (n := 175) (v := 4) (kX12_go 88 rfl) rfl (by decide) ?_
                  refine X_goto (tgt := 179) (kX12_go 89 rfl) rfl ?_
                  exact X_L [0, 1] rfl (kJ (4 : Int32))
                · refine X_iload_n (n := 151) 0 (kX12_go 76 rfl) rfl rfl rfl ?_
                  refine X_bipush (n := 153) (v := 61) (kX12_go 77 rfl) rfl (by decide) ?_
                  refine X_itebind ?_
                  refine X_ic_eq (n := 156) (tgt := 174) (kX12_go 78 rfl) rfl rfl (fun h76 => ?_) (fun h76 => ?_)
                  · refine X_iconst (n := 175) (v := 4) (kX12_go 88 rfl) rfl (by decide) ?_
                    refine X_goto (tgt := 179) (kX12_go 89 rfl) rfl ?_
                    exact X_L [0, 1] rfl (kJ (4 : Int32))
                  · refine X_iload_n (n := 157) 0 (kX12_go 79 rfl) rfl rfl rfl ?_
                    refine X_bipush (n := 159) (v := 62) (kX12_go 80 rfl) rfl (by decide) ?_
                    refine X_itebind ?_
                    refine X_ic_eq (n := 162) (tgt := 174) (kX12_go 81 rfl) rfl rfl (fun h77 => ?_) (fun h77 => ?_)
                    · refine X_iconst (n := 175) (v := 4) (kX12_go 88 rfl) rfl (by decide) ?_
                      refine X_goto (tgt := 179) (kX12_go 89 rfl) rfl ?_
                      exact X_L [0, 1] rfl (kJ (4 : Int32))
                    · refine X_iload_n (n := 163) 0 (kX12_go 82 rfl) rfl rfl rfl ?_
                      refine X_bipush (n := 165) (v := 40) (kX12_go 83 rfl) rfl (by decide) ?_
                      refine X_itebind ?_
                      refine X_ic_eq (n := 168) (tgt := 174) (kX12_go 84 rfl) rfl rfl (fun h78 => ?_) (fun h78 => ?_)
                      · refine X_iconst (n := 175) (v := 4) (kX12_go 88 rfl) rfl (by decide) ?_
                        refine X_goto (tgt := 179) (kX12_go 89 rfl) rfl ?_
                        exact X_L [0, 1] rfl (kJ (4 : Int32))
                      · refine X_iload_n (n := 169) 0 (kX12_go 85 rfl) rfl rfl rfl ?_
                        refine X_bipush (n := 171) (v := 41) (kX12_go 86 rfl) rfl (by decide) ?_
                        refine X_itebind ?_
                        refine X_ic_ne (n := 174) (tgt := 178) (kX12_go 87 rfl) rfl rfl (fun h79 => ?_) (fun h79 => ?_)
                        · refine X_iconst (n := 175) (v := 4) (kX12_go 88 rfl) rfl (by decide) ?_
                          refine X_goto (tgt := 179) (kX12_go 89 rfl) rfl ?_
                          exact X_L [0, 1] rfl (kJ (4 : Int32))
                        · refine X_iconst (n := 179) (v := 1) (kX12_go 90 rfl) rfl (by decide) ?_
                          exact X_L [0, 1] rfl (kJ (1 : Int32))
      · refine X_aload_n (n := 108) 0 (kX12_go 53 rfl) rfl rfl rfl ?_
        refine X_iconst (n := 109) (v := 0) (kX12_go 54 rfl) rfl (by decide) ?_
        refine X_putI (n := 112) xf_X12 hk0 (by decide) fl_X12_122 rfl rfl (Or.inl rfl) (kX12_go 55 rfl) rfl ?_
        exact X_vret rfl (kX12_go 56 rfl)
    · refine X_aload_n (n := 83) 0 (kX12_go 40 rfl) rfl rfl rfl ?_
      refine X_aload_n (n := 84) 0 (kX12_go 41 rfl) rfl rfl rfl ?_
      refine X_getI (n := 87) xf_X12 hk0 (by decide) fl_X12_119 rfl (kX12_go 42 rfl) rfl ?_
      refine X_putI (n := 90) xf_X12 hk0 (by decide) fl_X12_116 rfl rfl (Or.inl rfl) (kX12_go 43 rfl) rfl ?_
      refine X_aload_n (n := 91) 0 (kX12_go 44 rfl) rfl rfl rfl ?_
      refine X_iconst (n := 92) (v := 1) (kX12_go 45 rfl) rfl (by decide) ?_
      refine X_putI (n := 95) xf_X12 hk0 (by decide) fl_X12_122 rfl rfl (Or.inl rfl) (kX12_go 46 rfl) rfl ?_
      exact X_vret rfl (kX12_go 47 rfl)
def f_X12_wordOf  (i0 : Int32) (S : XS) : Option (Int64 × XS) := (if i0 = 0 then ((f_X12_spelt (115 : Int32) (99 : Int32) (101 : Int32) (110 : Int32) (116 : Int32) (0 : Int32) S).bind (fun q => match q with | (r3, S4) => some (r3, S4))) else (if i0 = 1 then ((f_X12_spelt (112 : Int32) (108 : Int32) (97 : Int32) (99 : Int32) (101 : Int32) (0 : Int32) S).bind (fun q => match q with | (r5, S6) => some (r5, S6))) else (if i0 = 2 then ((f_X12_spelt (115 : Int32) (109 : Int32) (111 : Int32) (107 : Int32) (101 : Int32) (0 : Int32) S).bind (fun q => match q with | (r7, S8) => some (r7, S8))) else (if i0 = 3 then ((f_X12_spelt (119 : Int32) (105 : Int32) (116 : Int32) (110 : Int32) (101 : Int32) (115 : Int32) S).bind (fun q => match q with | (r9, S10) => some ((((27 * r9) + 115) - 96), S10))) else (if i0 = 4 then ((f_X12_spelt (119 : Int32) (101 : Int32) (110 : Int32) (116 : Int32) (0 : Int32) (0 : Int32) S).bind (fun q => match q with | (r11, S12) => some (r11, S12))) else (if i0 = 5 then ((f_X12_spelt (114 : Int32) (97 : Int32) (105 : Int32) (110 : Int32) (0 : Int32) (0 : Int32) S).bind (fun q => match q with | (r13, S14) => some (r13, S14))) else (if i0 = 6 then ((f_X12_spelt (119 : Int32) (101 : Int32) (97 : Int32) (114 : Int32) (115 : Int32) (0 : Int32) S).bind (fun q => match q with | (r15, S16) => some (r15, S16))) else (if i0 = 7 then ((f_X12_spelt (111 : Int32) (114 : Int32) (0 : Int32) (0 : Int32) (0 : Int32) (0 : Int32) S).bind (fun q => match q with | (r17, S18) => some (r17, S18))) else (if i0 = 8 then ((f_X12_spelt (97 : Int32) (110 : Int32) (100 : Int32) (0 : Int32) (0 : Int32) (0 : Int32) S).bind (fun q => match q with | (r19, S20) => some (r19, S20))) else (if i0 = 9 then ((f_X12_spelt (110 : Int32) (111 : Int32) (116 : Int32) (0 : Int32) (0 : Int32) (0 : Int32) S).bind (fun q => match q with | (r21, S22) => some (r21, S22))) else (if i0 = 10 then ((f_X12_spelt (99 : Int32) (108 : Int32) (101 : Int32) (97 : Int32) (110 : Int32) (0 : Int32) S).bind (fun q => match q with | (r23, S24) => some (r23, S24))) else (if i0 = 11 then ((f_X12_spelt (111 : Int32) (119 : Int32) (110 : Int32) (0 : Int32) (0 : Int32) (0 : Int32) S).bind (fun q => match q with | (r25, S26) => some (r25, S26))) else (if i0 = 12 then ((f_X12_spelt (97 : Int32) (116 : Int32) (0 : Int32) (0 : Int32) (0 : Int32) (0 : Int32) S).bind (fun q => match q with | (r27, S28) => some (r27, S28))) else (if i0 = 13 then ((f_X12_spelt (115 : Int32) (109 : Int32) (101 : Int32) (108 : Int32) (108 : Int32) (115 : Int32) S).bind (fun q => match q with | (r29, S30) => some (r29, S30))) else (if i0 = 14 then ((f_X12_spelt (115 : Int32) (117 : Int32) (109 : Int32) (0 : Int32) (0 : Int32) (0 : Int32) S).bind (fun q => match q with | (r31, S32) => some (r31, S32))) else (if i0 = 15 then ((f_X12_spelt (109 : Int32) (111 : Int32) (115 : Int32) (116 : Int32) (0 : Int32) (0 : Int32) S).bind (fun q => match q with | (r33, S34) => some (r33, S34))) else ((f_X12_spelt (107 : Int32) (101 : Int32) (101 : Int32) (112 : Int32) (0 : Int32) (0 : Int32) S).bind (fun q => match q with | (r1, S2) => some (r1, S2)))))))))))))))))))
set_option maxHeartbeats 4000000 in
set_option maxRecDepth 100000 in
theorem w_X12_wordOf {l : Launch} {g : XG}  {i0 : Int32} {S : XS}  : Cl φL l g 2 mX12_wordOf [.int i0] S (f_X12_wordOf i0 S) := by
  refine Cl.of (by decide +kernel) (Nat.le_of_ble_eq_true rfl) ?_
  unfold f_X12_wordOf
  show X _ _ _ _ _ 0 [(0, .int i0)] [] S _
  refine X_iload_n (n := 1) 0 (kX12_wordOf 0 rfl) rfl rfl rfl ?_
  refine X_ite (fun hc0 => ?_) (fun nc0 => ?_)
  · refine X_tabIn (tgt := 80) 0 (xI_of 0 hc0 (by decide)) (kX12_wordOf 1 rfl) (by decide) (by decide) rfl rfl ?_
    refine X_bipush (n := 82) (v := 115) (kX12_wordOf 2 rfl) rfl (by decide) ?_
    refine X_bipush (n := 84) (v := 99) (kX12_wordOf 3 rfl) rfl (by decide) ?_
    refine X_bipush (n := 86) (v := 101) (kX12_wordOf 4 rfl) rfl (by decide) ?_
    refine X_bipush (n := 88) (v := 110) (kX12_wordOf 5 rfl) rfl (by decide) ?_
    refine X_bipush (n := 90) (v := 116) (kX12_wordOf 6 rfl) rfl (by decide) ?_
    refine X_iconst (n := 91) (v := 0) (kX12_wordOf 7 rfl) rfl (by decide) ?_
    refine X_callSJ (n := 94) (As := [.int (115 : Int32), .int (99 : Int32), .int (101 : Int32), .int (110 : Int32), .int (116 : Int32), .int (0 : Int32)]) (st := []) (kX12_wordOf 8 rfl) rfl w_X12_spelt (by decide) ml_X12_150 mf_X12_spelt rfl rfl (Nat.le_of_ble_eq_true rfl) (fun r3 S4 hq => ?_)
    try dsimp only
    exact X_lret rfl (kX12_wordOf 9 rfl)
  · refine X_ite (fun hc1 => ?_) (fun nc1 => ?_)
    · refine X_tabIn (tgt := 95) 1 (xI_of 1 hc1 (by decide)) (kX12_wordOf 1 rfl) (by decide) (by decide) rfl rfl ?_
      refine X_bipush (n := 97) (v := 112) (kX12_wordOf 10 rfl) rfl (by decide) ?_
      refine X_bipush (n := 99) (v := 108) (kX12_wordOf 11 rfl) rfl (by decide) ?_
      refine X_bipush (n := 101) (v := 97) (kX12_wordOf 12 rfl) rfl (by decide) ?_
      refine X_bipush (n := 103) (v := 99) (kX12_wordOf 13 rfl) rfl (by decide) ?_
      refine X_bipush (n := 105) (v := 101) (kX12_wordOf 14 rfl) rfl (by decide) ?_
      refine X_iconst (n := 106) (v := 0) (kX12_wordOf 15 rfl) rfl (by decide) ?_
      refine X_callSJ (n := 109) (As := [.int (112 : Int32), .int (108 : Int32), .int (97 : Int32), .int (99 : Int32), .int (101 : Int32), .int (0 : Int32)]) (st := []) (kX12_wordOf 16 rfl) rfl w_X12_spelt (by decide) ml_X12_150 mf_X12_spelt rfl rfl (Nat.le_of_ble_eq_true rfl) (fun r5 S6 hq => ?_)
      try dsimp only
      exact X_lret rfl (kX12_wordOf 17 rfl)
    · refine X_ite (fun hc2 => ?_) (fun nc2 => ?_)
      · refine X_tabIn (tgt := 110) 2 (xI_of 2 hc2 (by decide)) (kX12_wordOf 1 rfl) (by decide) (by decide) rfl rfl ?_
        refine X_bipush (n := 112) (v := 115) (kX12_wordOf 18 rfl) rfl (by decide) ?_
        refine X_bipush (n := 114) (v := 109) (kX12_wordOf 19 rfl) rfl (by decide) ?_
        refine X_bipush (n := 116) (v := 111) (kX12_wordOf 20 rfl) rfl (by decide) ?_
        refine X_bipush (n := 118) (v := 107) (kX12_wordOf 21 rfl) rfl (by decide) ?_
        refine X_bipush (n := 120) (v := 101) (kX12_wordOf 22 rfl) rfl (by decide) ?_
        refine X_iconst (n := 121) (v := 0) (kX12_wordOf 23 rfl) rfl (by decide) ?_
        refine X_callSJ (n := 124) (As := [.int (115 : Int32), .int (109 : Int32), .int (111 : Int32), .int (107 : Int32), .int (101 : Int32), .int (0 : Int32)]) (st := []) (kX12_wordOf 24 rfl) rfl w_X12_spelt (by decide) ml_X12_150 mf_X12_spelt rfl rfl (Nat.le_of_ble_eq_true rfl) (fun r7 S8 hq => ?_)
        try dsimp only
        exact X_lret rfl (kX12_wordOf 25 rfl)
      · refine X_ite (fun hc3 => ?_) (fun nc3 => ?_)
        · refine X_tabIn (tgt := 125) 3 (xI_of 3 hc3 (by decide)) (kX12_wordOf 1 rfl) (by decide) (by decide) rfl rfl ?_
          refine X_ldc2 (n := 128) (kX12_wordOf 26 rfl) rfl cl_X12_146 ?_
          refine X_bipush (n := 130) (v := 119) (kX12_wordOf 27 rfl) rfl (by decide) ?_
          refine X_bipush (n := 132) (v := 105) (kX12_wordOf 28 rfl) rfl (by decide) ?_
          refine X_bipush (n := 134) (v := 116) (kX12_wordOf 29 rfl) rfl (by decide) ?_
          refine X_bipush (n := 136) (v := 110) (kX12_wordOf 30 rfl) rfl (by decide) ?_
          refine X_bipush (n := 138) (v := 101) (kX12_wordOf 31 rfl) rfl (by decide) ?_
          refine X_bipush (n := 140) (v := 115) (kX12_wordOf 32 rfl) rfl (by decide) ?_
          refine X_callSJ (n := 143) (As := [.int (119 : Int32), .int (105 : Int32), .int (116 : Int32), .int (110 : Int32), .int (101 : Int32), .int (115 : Int32)]) (st := [.long 27]) (kX12_wordOf 33 rfl) rfl w_X12_spelt (by decide) ml_X12_150 mf_X12_spelt rfl rfl (Nat.le_of_ble_eq_true rfl) (fun r9 S10 hq => ?_)
          try dsimp only
          refine X_lmul (n := 144) (kX12_wordOf 34 rfl) rfl ?_
          refine X_ldc2 (n := 147) (kX12_wordOf 35 rfl) rfl cl_X12_154 ?_
          refine X_ladd (n := 148) (kX12_wordOf 36 rfl) rfl ?_
          refine X_ldc2 (n := 151) (kX12_wordOf 37 rfl) rfl cl_X12_148 ?_
          refine X_lsub (n := 152) (kX12_wordOf 38 rfl) rfl ?_
          exact X_lret rfl (kX12_wordOf 39 rfl)
        · refine X_ite (fun hc4 => ?_) (fun nc4 => ?_)
          · refine X_tabIn (tgt := 153) 4 (xI_of 4 hc4 (by decide)) (kX12_wordOf 1 rfl) (by decide) (by decide) rfl rfl ?_
            refine X_bipush (n := 155) (v := 119) (kX12_wordOf 40 rfl) rfl (by decide) ?_
            refine X_bipush (n := 157) (v := 101) (kX12_wordOf 41 rfl) rfl (by decide) ?_
            refine X_bipush (n := 159) (v := 110) (kX12_wordOf 42 rfl) rfl (by decide) ?_
            refine X_bipush (n := 161) (v := 116) (kX12_wordOf 43 rfl) rfl (by decide) ?_
            refine X_iconst (n := 162) (v := 0) (kX12_wordOf 44 rfl) rfl (by decide) ?_
            refine X_iconst (n := 163) (v := 0) (kX12_wordOf 45 rfl) rfl (by decide) ?_
            refine X_callSJ (n := 166) (As := [.int (119 : Int32), .int (101 : Int32), .int (110 : Int32), .int (116 : Int32), .int (0 : Int32), .int (0 : Int32)]) (st := []) (kX12_wordOf 46 rfl) rfl w_X12_spelt (by decide) ml_X12_150 mf_X12_spelt rfl rfl (Nat.le_of_ble_eq_true rfl) (fun r11 S12 hq => ?_)
            try dsimp only
            exact X_lret rfl (kX12_wordOf 47 rfl)
          · refine X_ite (fun hc5 => ?_) (fun nc5 => ?_)
            · refine X_tabIn (tgt := 167) 5 (xI_of 5 hc5 (by decide)) (kX12_wordOf 1 rfl) (by decide) (by decide) rfl rfl ?_
              refine X_bipush (n := 169) (v := 114) (kX12_wordOf 48 rfl) rfl (by decide) ?_
              refine X_bipush (n := 171) (v := 97) (kX12_wordOf 49 rfl) rfl (by decide) ?_
              refine X_bipush (n := 173) (v := 105) (kX12_wordOf 50 rfl) rfl (by decide) ?_
              refine X_bipush (n := 175) (v := 110) (kX12_wordOf 51 rfl) rfl (by decide) ?_
              refine X_iconst (n := 176) (v := 0) (kX12_wordOf 52 rfl) rfl (by decide) ?_
              refine X_iconst (n := 177) (v := 0) (kX12_wordOf 53 rfl) rfl (by decide) ?_
              refine X_callSJ (n := 180) (As := [.int (114 : Int32), .int (97 : Int32), .int (105 : Int32), .int (110 : Int32), .int (0 : Int32), .int (0 : Int32)]) (st := []) (kX12_wordOf 54 rfl) rfl w_X12_spelt (by decide) ml_X12_150 mf_X12_spelt rfl rfl (Nat.le_of_ble_eq_true rfl) (fun r13 S14 hq => ?_)
              try dsimp only
              exact X_lret rfl (kX12_wordOf 55 rfl)
            · refine X_ite (fun hc6 => ?_) (fun nc6 => ?_)
              · refine X_tabIn (tgt := 181) 6 (xI_of 6 hc6 (by decide)) (kX12_wordOf 1 rfl) (by decide) (by decide) rfl rfl ?_
                refine X_bipush (n := 183) (v := 119) (kX12_wordOf 56 rfl) rfl (by decide) ?_
                refine X_bipush (n := 185) (v := 101) (kX12_wordOf 57 rfl) rfl (by decide) ?_
                refine X_bipush (n := 187) (v := 97) (kX12_wordOf 58 rfl) rfl (by decide) ?_
                refine X_bipush (n := 189) (v := 114) (kX12_wordOf 59 rfl) rfl (by decide) ?_
                refine X_bipush (n := 191) (v := 115) (kX12_wordOf 60 rfl) rfl (by decide) ?_
                refine X_iconst (n := 192) (v := 0) (kX12_wordOf 61 rfl) rfl (by decide) ?_
                refine X_callSJ (n := 195) (As := [.int (119 : Int32), .int (101 : Int32), .int (97 : Int32), .int (114 : Int32), .int (115 : Int32), .int (0 : Int32)]) (st := []) (kX12_wordOf 62 rfl) rfl w_X12_spelt (by decide) ml_X12_150 mf_X12_spelt rfl rfl (Nat.le_of_ble_eq_true rfl) (fun r15 S16 hq => ?_)
                try dsimp only
                exact X_lret rfl (kX12_wordOf 63 rfl)
              · refine X_ite (fun hc7 => ?_) (fun nc7 => ?_)
                · refine X_tabIn (tgt := 196) 7 (xI_of 7 hc7 (by decide)) (kX12_wordOf 1 rfl) (by decide) (by decide) rfl rfl ?_
                  refine X_bipush (n := 198) (v := 111) (kX12_wordOf 64 rfl) rfl (by decide) ?_
                  refine X_bipush (n := 200) (v := 114) (kX12_wordOf 65 rfl) rfl (by decide) ?_
                  refine X_iconst (n := 201) (v := 0) (kX12_wordOf 66 rfl) rfl (by decide) ?_
                  refine X_iconst (n := 202) (v := 0) (kX12_wordOf 67 rfl) rfl (by decide) ?_
                  refine X_iconst (n := 203) (v := 0) (kX12_wordOf 68 rfl) rfl (by decide) ?_
                  refine X_iconst (n := 204) (v := 0) (kX12_wordOf 69 rfl) rfl (by decide) ?_
                  refine X_callSJ (n := 207) (As := [.int (111 : Int32), .int (114 : Int32), .int (0 : Int32), .int (0 : Int32), .int (0 : Int32), .int (0 : Int32)]) (st := []) (kX12_wordOf 70 rfl) rfl w_X12_spelt (by decide) ml_X12_150 mf_X12_spelt rfl rfl (Nat.le_of_ble_eq_true rfl) (fun r17 S18 hq => ?_)
                  try dsimp only
                  exact X_lret rfl (kX12_wordOf 71 rfl)
                · refine X_ite (fun hc8 => ?_) (fun nc8 => ?_)
                  · refine X_tabIn (tgt := 208) 8 (xI_of 8 hc8 (by decide)) (kX12_wordOf 1 rfl) (by decide) (by decide) rfl rfl ?_
                    refine X_bipush (n := 210) (v := 97) (kX12_wordOf 72 rfl) rfl (by decide) ?_
                    refine X_bipush (n := 212) (v := 110) (kX12_wordOf 73 rfl) rfl (by decide) ?_
                    refine X_bipush (n := 214) (v := 100) (kX12_wordOf 74 rfl) rfl (by decide) ?_
                    refine X_iconst (n := 215) (v := 0) (kX12_wordOf 75 rfl) rfl (by decide) ?_
                    refine X_iconst (n := 216) (v := 0) (kX12_wordOf 76 rfl) rfl (by decide) ?_
                    refine X_iconst (n := 217) (v := 0) (kX12_wordOf 77 rfl) rfl (by decide) ?_
                    refine X_callSJ (n := 220) (As := [.int (97 : Int32), .int (110 : Int32), .int (100 : Int32), .int (0 : Int32), .int (0 : Int32), .int (0 : Int32)]) (st := []) (kX12_wordOf 78 rfl) rfl w_X12_spelt (by decide) ml_X12_150 mf_X12_spelt rfl rfl (Nat.le_of_ble_eq_true rfl) (fun r19 S20 hq => ?_)
                    try dsimp only
                    exact X_lret rfl (kX12_wordOf 79 rfl)
                  · refine X_ite (fun hc9 => ?_) (fun nc9 => ?_)
                    · refine X_tabIn (tgt := 221) 9 (xI_of 9 hc9 (by decide)) (kX12_wordOf 1 rfl) (by decide) (by decide) rfl rfl ?_
                      refine X_bipush (n := 223) (v := 110) (kX12_wordOf 80 rfl) rfl (by decide) ?_
                      refine X_bipush (n := 225) (v := 111) (kX12_wordOf 81 rfl) rfl (by decide) ?_
                      refine X_bipush (n := 227) (v := 116) (kX12_wordOf 82 rfl) rfl (by decide) ?_
                      refine X_iconst (n := 228) (v := 0) (kX12_wordOf 83 rfl) rfl (by decide) ?_
                      refine X_iconst (n := 229) (v := 0) (kX12_wordOf 84 rfl) rfl (by decide) ?_
                      refine X_iconst (n := 230) (v := 0) (kX12_wordOf 85 rfl) rfl (by decide) ?_
                      refine X_callSJ (n := 233) (As := [.int (110 : Int32), .int (111 : Int32), .int (116 : Int32), .int (0 : Int32), .int (0 : Int32), .int (0 : Int32)]) (st := []) (kX12_wordOf 86 rfl) rfl w_X12_spelt (by decide) ml_X12_150 mf_X12_spelt rfl rfl (Nat.le_of_ble_eq_true rfl) (fun r21 S22 hq => ?_)
                      try dsimp only
                      exact X_lret rfl (kX12_wordOf 87 rfl)
                    · refine X_ite (fun hc10 => ?_) (fun nc10 => ?_)
                      · refine X_tabIn (tgt := 234) 10 (xI_of 10 hc10 (by decide)) (kX12_wordOf 1 rfl) (by decide) (by decide) rfl rfl ?_
                        refine X_bipush (n := 236) (v := 99) (kX12_wordOf 88 rfl) rfl (by decide) ?_
                        refine X_bipush (n := 238) (v := 108) (kX12_wordOf 89 rfl) rfl (by decide) ?_
                        refine X_bipush (n := 240) (v := 101) (kX12_wordOf 90 rfl) rfl (by decide) ?_
                        refine X_bipush (n := 242) (v := 97) (kX12_wordOf 91 rfl) rfl (by decide) ?_
                        refine X_bipush (n := 244) (v := 110) (kX12_wordOf 92 rfl) rfl (by decide) ?_
                        refine X_iconst (n := 245) (v := 0) (kX12_wordOf 93 rfl) rfl (by decide) ?_
                        refine X_callSJ (n := 248) (As := [.int (99 : Int32), .int (108 : Int32), .int (101 : Int32), .int (97 : Int32), .int (110 : Int32), .int (0 : Int32)]) (st := []) (kX12_wordOf 94 rfl) rfl w_X12_spelt (by decide) ml_X12_150 mf_X12_spelt rfl rfl (Nat.le_of_ble_eq_true rfl) (fun r23 S24 hq => ?_)
                        try dsimp only
                        exact X_lret rfl (kX12_wordOf 95 rfl)
                      · refine X_ite (fun hc11 => ?_) (fun nc11 => ?_)
                        · refine X_tabIn (tgt := 249) 11 (xI_of 11 hc11 (by decide)) (kX12_wordOf 1 rfl) (by decide) (by decide) rfl rfl ?_
                          refine X_bipush (n := 251) (v := 111) (kX12_wordOf 96 rfl) rfl (by decide) ?_
                          refine X_bipush (n := 253) (v := 119) (kX12_wordOf 97 rfl) rfl (by decide) ?_
                          refine X_bipush (n := 255) (v := 110) (kX12_wordOf 98 rfl) rfl (by decide) ?_
                          refine X_iconst (n := 256) (v := 0) (kX12_wordOf 99 rfl) rfl (by decide) ?_
                          refine X_iconst (n := 257) (v := 0) (kX12_wordOf_1 0 rfl) rfl (by decide) ?_
                          refine X_iconst (n := 258) (v := 0) (kX12_wordOf_1 1 rfl) rfl (by decide) ?_
                          refine X_callSJ (n := 261) (As := [.int (111 : Int32), .int (119 : Int32), .int (110 : Int32), .int (0 : Int32), .int (0 : Int32), .int (0 : Int32)]) (st := []) (kX12_wordOf_1 2 rfl) rfl w_X12_spelt (by decide) ml_X12_150 mf_X12_spelt rfl rfl (Nat.le_of_ble_eq_true rfl) (fun r25 S26 hq => ?_)
                          try dsimp only
                          exact X_lret rfl (kX12_wordOf_1 3 rfl)
                        · refine X_ite (fun hc12 => ?_) (fun nc12 => ?_)
                          · refine X_tabIn (tgt := 262) 12 (xI_of 12 hc12 (by decide)) (kX12_wordOf 1 rfl) (by decide) (by decide) rfl rfl ?_
                            refine X_bipush (n := 264) (v := 97) (kX12_wordOf_1 4 rfl) rfl (by decide) ?_
                            refine X_bipush (n := 266) (v := 116) (kX12_wordOf_1 5 rfl) rfl (by decide) ?_
                            refine X_iconst (n := 267) (v := 0) (kX12_wordOf_1 6 rfl) rfl (by decide) ?_
                            refine X_iconst (n := 268) (v := 0) (kX12_wordOf_1 7 rfl) rfl (by decide) ?_
                            refine X_iconst (n := 269) (v := 0) (kX12_wordOf_1 8 rfl) rfl (by decide) ?_
                            refine X_iconst (n := 270) (v := 0) (kX12_wordOf_1 9 rfl) rfl (by decide) ?_
                            refine X_callSJ (n := 273) (As := [.int (97 : Int32), .int (116 : Int32), .int (0 : Int32), .int (0 : Int32), .int (0 : Int32), .int (0 : Int32)]) (st := []) (kX12_wordOf_1 10 rfl) rfl w_X12_spelt (by decide) ml_X12_150 mf_X12_spelt rfl rfl (Nat.le_of_ble_eq_true rfl) (fun r27 S28 hq => ?_)
                            try dsimp only
                            exact X_lret rfl (kX12_wordOf_1 11 rfl)
                          · refine X_ite (fun hc13 => ?_) (fun nc13 => ?_)
                            · refine X_tabIn (tgt := 274) 13 (xI_of 13 hc13 (by decide)) (kX12_wordOf 1 rfl) (by decide) (by decide) rfl rfl ?_
                              refine X_bipush (n := 276) (v := 115) (kX12_wordOf_1 12 rfl) rfl (by decide) ?_
                              refine X_bipush (n := 278) (v := 109) (kX12_wordOf_1 13 rfl) rfl (by decide) ?_
                              refine X_bipush (n := 280) (v := 101) (kX12_wordOf_1 14 rfl) rfl (by decide) ?_
                              refine X_bipush (n := 282) (v := 108) (kX12_wordOf_1 15 rfl) rfl (by decide) ?_
                              refine X_bipush (n := 284) (v := 108) (kX12_wordOf_1 16 rfl) rfl (by decide) ?_
                              refine X_bipush (n := 286) (v := 115) (kX12_wordOf_1 17 rfl) rfl (by decide) ?_
                              refine X_callSJ (n := 289) (As := [.int (115 : Int32), .int (109 : Int32), .int (101 : Int32), .int (108 : Int32), .int (108 : Int32), .int (115 : Int32)]) (st := []) (kX12_wordOf_1 18 rfl) rfl w_X12_spelt (by decide) ml_X12_150 mf_X12_spelt rfl rfl (Nat.le_of_ble_eq_true rfl) (fun r29 S30 hq => ?_)
                              try dsimp only
                              exact X_lret rfl (kX12_wordOf_1 19 rfl)
                            · refine X_ite (fun hc14 => ?_) (fun nc14 => ?_)
                              · refine X_tabIn (tgt := 290) 14 (xI_of 14 hc14 (by decide)) (kX12_wordOf 1 rfl) (by decide) (by decide) rfl rfl ?_
                                refine X_bipush (n := 292) (v := 115) (kX12_wordOf_1 20 rfl) rfl (by decide) ?_
                                refine X_bipush (n := 294) (v := 117) (kX12_wordOf_1 21 rfl) rfl (by decide) ?_
                                refine X_bipush (n := 296) (v := 109) (kX12_wordOf_1 22 rfl) rfl (by decide) ?_
                                refine X_iconst (n := 297) (v := 0) (kX12_wordOf_1 23 rfl) rfl (by decide) ?_
                                refine X_iconst (n := 298) (v := 0) (kX12_wordOf_1 24 rfl) rfl (by decide) ?_
                                refine X_iconst (n := 299) (v := 0) (kX12_wordOf_1 25 rfl) rfl (by decide) ?_
                                refine X_callSJ (n := 302) (As := [.int (115 : Int32), .int (117 : Int32), .int (109 : Int32), .int (0 : Int32), .int (0 : Int32), .int (0 : Int32)]) (st := []) (kX12_wordOf_1 26 rfl) rfl w_X12_spelt (by decide) ml_X12_150 mf_X12_spelt rfl rfl (Nat.le_of_ble_eq_true rfl) (fun r31 S32 hq => ?_)
                                try dsimp only
                                exact X_lret rfl (kX12_wordOf_1 27 rfl)
                              · refine X_ite (fun hc15 => ?_) (fun nc15 => ?_)
                                · refine X_tabIn (tgt := 303) 15 (xI_of 15 hc15 (by decide)) (kX12_wordOf 1 rfl) (by decide) (by decide) rfl rfl ?_
                                  refine X_bipush (n := 305) (v := 109) (kX12_wordOf_1 28 rfl) rfl (by decide) ?_
                                  refine X_bipush (n := 307) (v := 111) (kX12_wordOf_1 29 rfl) rfl (by decide) ?_
                                  refine X_bipush (n := 309) (v := 115) (kX12_wordOf_1 30 rfl) rfl (by decide) ?_
                                  refine X_bipush (n := 311) (v := 116) (kX12_wordOf_1 31 rfl) rfl (by decide) ?_
                                  refine X_iconst (n := 312) (v := 0) (kX12_wordOf_1 32 rfl) rfl (by decide) ?_
                                  refine X_iconst (n := 313) (v := 0) (kX12_wordOf_1 33 rfl) rfl (by decide) ?_
                                  refine X_callSJ (n := 316) (As := [.int (109 : Int32), .int (111 : Int32), .int (115 : Int32), .int (116 : Int32), .int (0 : Int32), .int (0 : Int32)]) (st := []) (kX12_wordOf_1 34 rfl) rfl w_X12_spelt (by decide) ml_X12_150 mf_X12_spelt rfl rfl (Nat.le_of_ble_eq_true rfl) (fun r33 S34 hq => ?_)
                                  try dsimp only
                                  exact X_lret rfl (kX12_wordOf_1 35 rfl)
                                · have e0 := xI_ne (z := 0) 0 nc0 (by decide)
                                  have e1 := xI_ne (z := 1) 1 nc1 (by decide)
                                  have e2 := xI_ne (z := 2) 2 nc2 (by decide)
                                  have e3 := xI_ne (z := 3) 3 nc3 (by decide)
                                  have e4 := xI_ne (z := 4) 4 nc4 (by decide)
                                  have e5 := xI_ne (z := 5) 5 nc5 (by decide)
                                  have e6 := xI_ne (z := 6) 6 nc6 (by decide)
                                  have e7 := xI_ne (z := 7) 7 nc7 (by decide)
                                  have e8 := xI_ne (z := 8) 8 nc8 (by decide)
                                  have e9 := xI_ne (z := 9) 9 nc9 (by decide)
                                  have e10 := xI_ne (z := 10) 10 nc10 (by decide)
                                  have e11 := xI_ne (z := 11) 11 nc11 (by decide)
                                  have e12 := xI_ne (z := 12) 12 nc12 (by decide)
                                  have e13 := xI_ne (z := 13) 13 nc13 (by decide)
                                  have e14 := xI_ne (z := 14) 14 nc14 (by decide)
                                  have e15 := xI_ne (z := 15) 15 nc15 (by decide)
                                  refine X_tabOut (tgt := 317) (by omega) (kX12_wordOf 1 rfl) rfl ?_
                                  refine X_bipush (n := 319) (v := 107) (kX12_wordOf_1 36 rfl) rfl (by decide) ?_
                                  refine X_bipush (n := 321) (v := 101) (kX12_wordOf_1 37 rfl) rfl (by decide) ?_
                                  refine X_bipush (n := 323) (v := 101) (kX12_wordOf_1 38 rfl) rfl (by decide) ?_
                                  refine X_bipush (n := 325) (v := 112) (kX12_wordOf_1 39 rfl) rfl (by decide) ?_
                                  refine X_iconst (n := 326) (v := 0) (kX12_wordOf_1 40 rfl) rfl (by decide) ?_
                                  refine X_iconst (n := 327) (v := 0) (kX12_wordOf_1 41 rfl) rfl (by decide) ?_
                                  refine X_callSJ (n := 330) (As := [.int (107 : Int32), .int (101 : Int32), .int (101 : Int32), .int (112 : Int32), .int (0 : Int32), .int (0 : Int32)]) (st := []) (kX12_wordOf_1 42 rfl) rfl w_X12_spelt (by decide) ml_X12_150 mf_X12_spelt rfl rfl (Nat.le_of_ble_eq_true rfl) (fun r1 S2 hq => ?_)
                                  try dsimp only
                                  exact X_lret rfl (kX12_wordOf_1 43 rfl)
