def f_X12_thrown  (a0 : Nat) (S : XS) : Option (Int32 × XS) := some ((S.1 a0 0), S)
set_option maxHeartbeats 4000000 in
set_option maxRecDepth 100000 in
theorem w_X12_thrown {l : Launch} {g : XG}  {a0 : Nat} {S : XS} (hk0 : kd a0 = 12) : Cl φI l g 1 mX12_thrown [.ref a0] S (f_X12_thrown a0 S) := by
  refine Cl.of (by decide +kernel) (Nat.le_of_ble_eq_true rfl) ?_
  unfold f_X12_thrown
  show X _ _ _ _ _ 0 [(0, .ref a0)] [] S _
  refine X_aload_n (n := 1) 0 (kX12_thrown 0 rfl) rfl rfl rfl ?_
  refine X_getI (n := 4) xf_X12 hk0 (by decide) fl_X12_100 rfl (kX12_thrown 1 rfl) rfl ?_
  exact X_iret rfl (kX12_thrown 2 rfl)
def t_X12_thrown (a0 : Nat) (S : XS) : Int32 := (S.1 a0 0)
theorem ft_X12_thrown (a0 : Nat) (S : XS) : f_X12_thrown a0 S = some (t_X12_thrown a0 S, S) := by
  unfold f_X12_thrown t_X12_thrown
  first | rfl | simp only [ite_p]
theorem p_X12_thrown {l : Launch} {g : XG} {a0 : Nat} {S : XS} (hk0 : kd a0 = 12) : Cl φI l g 1 mX12_thrown [.ref a0] S (some (t_X12_thrown a0 S, S)) := ft_X12_thrown a0 S ▸ w_X12_thrown hk0
def f_X12_refuse  (a0 : Nat) (S : XS) : Option (Int32 × XS) := some ((0 : Int32), (sI S a0 0 (1 : Int32)))
set_option maxHeartbeats 4000000 in
set_option maxRecDepth 100000 in
theorem w_X12_refuse {l : Launch} {g : XG}  {a0 : Nat} {S : XS} (hk0 : kd a0 = 12) : Cl φI l g 1 mX12_refuse [.ref a0] S (f_X12_refuse a0 S) := by
  refine Cl.of (by decide +kernel) (Nat.le_of_ble_eq_true rfl) ?_
  unfold f_X12_refuse
  show X _ _ _ _ _ 0 [(0, .ref a0)] [] S _
  refine X_aload_n (n := 1) 0 (kX12_refuse 0 rfl) rfl rfl rfl ?_
  refine X_iconst (n := 2) (v := 1) (kX12_refuse 1 rfl) rfl (by decide) ?_
  refine X_putI (n := 5) xf_X12 hk0 (by decide) fl_X12_100 rfl rfl (Or.inl rfl) (kX12_refuse 2 rfl) rfl ?_
  refine X_iconst (n := 6) (v := 0) (kX12_refuse 3 rfl) rfl (by decide) ?_
  exact X_iret rfl (kX12_refuse 4 rfl)
def t_X12_refuse (a0 : Nat) (S : XS) : Int32 × XS := ((0 : Int32), (sI S a0 0 (1 : Int32)))
theorem ft_X12_refuse (a0 : Nat) (S : XS) : f_X12_refuse a0 S = some (t_X12_refuse a0 S) := by
  unfold f_X12_refuse t_X12_refuse
  first | rfl | simp only [ite_u]
theorem p_X12_refuse {l : Launch} {g : XG} {a0 : Nat} {S : XS} (hk0 : kd a0 = 12) : Cl φI l g 1 mX12_refuse [.ref a0] S (some (t_X12_refuse a0 S)) := ft_X12_refuse a0 S ▸ w_X12_refuse hk0
def f_X12_come_L3  (a0 : Nat) (i1 : Int32) : Nat → Int32 → XS → Option (XS)
  | 0, _, _ => none
  | n + 1, i2, S => (if i2 < 0 then some S else (if (S.1 a0 2) < 0 ∨ ln (rf a0 1) ≤ (S.1 a0 2).toNatClampNeg then none else f_X12_come_L3 a0 i1 n (i2 + (-8)) (sI (sI S (rf a0 1) ((S.1 a0 2).toNatClampNeg) ((ushr32 i1 i2) &&& (255 : Int32))) a0 2 (((sI S (rf a0 1) ((S.1 a0 2).toNatClampNeg) ((ushr32 i1 i2) &&& (255 : Int32))).1 a0 2) + (1 : Int32)))))
def f_X12_come  (a0 : Nat) (i1 : Int32) (S : XS) : Option (XS) := ((f_X12_come_L3 a0 i1 1000000 (24 : Int32) S).bind (fun S3 => some S3))
set_option maxHeartbeats 4000000 in
set_option maxRecDepth 100000 in
theorem w_X12_come_L3 {l : Launch} {g : XG} {G : (XS) → Option (XS)}  {a0 : Nat} {i1 : Int32} (hk0 : kd a0 = 12) (kE : ∀ (S1 : XS), X φV l g 1 mX12_come 39 [] [] S1 (G S1)) : ∀ (n : Nat) (i2 : Int32) (S : XS), X φV l g 1 mX12_come 3 [(2, .int i2), (0, .ref a0), (1, .int i1)] [] S ((f_X12_come_L3 a0 i1 n i2 S).bind G) := by
  intro n
  induction n with
  | zero => intro i2 S; exact X_none
  | succ n ih =>
  · intro i2 S
    rw [f_X12_come_L3]
    refine X_iload_n (n := 4) 0 (kX12_come 2 rfl) rfl rfl rfl ?_
    refine X_itebind ?_
    refine X_if_lt (n := 7) (tgt := 39) (kX12_come 3 rfl) rfl rfl (fun h1 => ?_) (fun h1 => ?_)
    · exact X_L [] rfl (kE S)
    · refine X_aload_n (n := 8) 1 (kX12_come 4 rfl) rfl rfl rfl ?_
      refine X_getR (n := 11) xf_X12 hk0 (by decide) fl_X12_7 rfl (kX12_come 5 rfl) rfl ?_
      refine X_aload_n (n := 12) 1 (kX12_come 6 rfl) rfl rfl rfl ?_
      refine X_getI (n := 15) xf_X12 hk0 (by decide) fl_X12_103 rfl (kX12_come 7 rfl) rfl ?_
      refine X_iload_n (n := 16) 2 (kX12_come 8 rfl) rfl rfl rfl ?_
      refine X_iload_n (n := 17) 0 (kX12_come 9 rfl) rfl rfl rfl ?_
      refine X_iushr (n := 18) (kX12_come 10 rfl) rfl ?_
      refine X_sipush (n := 21) (v := 255) (kX12_come 11 rfl) rfl (by decide) ?_
      refine X_iand (n := 22) (kX12_come 12 rfl) rfl ?_
      refine X_itebind ?_
      refine X_iast (n := 23) (kt_12_1 hk0) (kX12_come 13 rfl) rfl (fun h2 => ?_)
      refine X_aload_n (n := 24) 1 (kX12_come 14 rfl) rfl rfl rfl ?_
      refine X_dup (n := 25) (kX12_come 15 rfl) rfl rfl ?_
      refine X_getI (n := 28) xf_X12 hk0 (by decide) fl_X12_103 rfl (kX12_come 16 rfl) rfl ?_
      refine X_iconst (n := 29) (v := 1) (kX12_come 17 rfl) rfl (by decide) ?_
      refine X_iadd (n := 30) (kX12_come 18 rfl) rfl ?_
      refine X_putI (n := 33) xf_X12 hk0 (by decide) fl_X12_103 rfl rfl (Or.inl rfl) (kX12_come 19 rfl) rfl ?_
      refine X_iinc (n := 36) 0 (v := (i2 + (-8))) (L1 := [(2, .int (i2 + (-8))), (0, .ref a0), (1, .int i1)]) (kX12_come 20 rfl) rfl rfl rfl (Nat.le_of_ble_eq_true rfl) rfl ?_
      refine X_goto (tgt := 3) (kX12_come 21 rfl) rfl ?_
      exact X_L [0, 1, 2] rfl (ih (i2 + (-8)) (sI (sI S (rf a0 1) ((S.1 a0 2).toNatClampNeg) ((ushr32 i1 i2) &&& (255 : Int32))) a0 2 (((sI S (rf a0 1) ((S.1 a0 2).toNatClampNeg) ((ushr32 i1 i2) &&& (255 : Int32))).1 a0 2) + (1 : Int32))))
set_option maxHeartbeats 4000000 in
set_option maxRecDepth 100000 in
theorem w_X12_come {l : Launch} {g : XG}  {a0 : Nat} {i1 : Int32} {S : XS} (hk0 : kd a0 = 12) : Cl φV l g 1 mX12_come [.ref a0, .int i1] S (f_X12_come a0 i1 S) := by
  refine Cl.of (by decide +kernel) (Nat.le_of_ble_eq_true rfl) ?_
  unfold f_X12_come
  show X _ _ _ _ _ 0 [(0, .ref a0), (1, .int i1)] [] S _
  refine X_bipush (n := 2) (v := 24) (kX12_come 0 rfl) rfl (by decide) ?_
  refine X_istore_n (n := 3) (L1 := [(2, .int 24), (0, .ref a0), (1, .int i1)]) (kX12_come 1 rfl) rfl rfl (Nat.le_of_ble_eq_true rfl) rfl ?_
  refine X_L [0, 1, 2] rfl (w_X12_come_L3 hk0 (fun S3 => ?_) 1000000 (24 : Int32) S)
  try dsimp only
  exact X_vret rfl (kX12_come 22 rfl)
def f_X12_end  (a0 : Nat) (i1 : Int32) (S : XS) : Option (Bool × XS) := (if i1 < 0 then some (false, (sI S a0 0 (0 : Int32))) else (if i1 ≤ ((sI S a0 0 (0 : Int32)).1 a0 2) then some (true, (sI (sI S a0 0 (0 : Int32)) a0 2 i1)) else some (false, (sI S a0 0 (0 : Int32)))))
set_option maxHeartbeats 4000000 in
set_option maxRecDepth 100000 in
theorem w_X12_end {l : Launch} {g : XG}  {a0 : Nat} {i1 : Int32} {S : XS} (hk0 : kd a0 = 12) : Cl φB l g 1 mX12_end [.ref a0, .int i1] S (f_X12_end a0 i1 S) := by
  refine Cl.of (by decide +kernel) (Nat.le_of_ble_eq_true rfl) ?_
  unfold f_X12_end
  show X _ _ _ _ _ 0 [(0, .ref a0), (1, .int i1)] [] S _
  refine X_aload_n (n := 1) 0 (kX12_end 0 rfl) rfl rfl rfl ?_
  refine X_iconst (n := 2) (v := 0) (kX12_end 1 rfl) rfl (by decide) ?_
  refine X_putI (n := 5) xf_X12 hk0 (by decide) fl_X12_100 rfl rfl (Or.inl rfl) (kX12_end 2 rfl) rfl ?_
  refine X_iload_n (n := 6) 1 (kX12_end 3 rfl) rfl rfl rfl ?_
  refine X_if_lt (n := 9) (tgt := 17) (kX12_end 4 rfl) rfl rfl (fun h1 => ?_) (fun h1 => ?_)
  · refine X_iconst (n := 18) (v := 0) (kX12_end 9 rfl) rfl (by decide) ?_
    exact X_zret (b := false) rfl (kX12_end 10 rfl)
  · refine X_iload_n (n := 10) 1 (kX12_end 5 rfl) rfl rfl rfl ?_
    refine X_aload_n (n := 11) 0 (kX12_end 6 rfl) rfl rfl rfl ?_
    refine X_getI (n := 14) xf_X12 hk0 (by decide) fl_X12_103 rfl (kX12_end 7 rfl) rfl ?_
    refine X_ic_le (n := 17) (tgt := 19) (kX12_end 8 rfl) rfl rfl (fun h2 => ?_) (fun h2 => ?_)
    · refine X_aload_n (n := 20) 0 (kX12_end 11 rfl) rfl rfl rfl ?_
      refine X_iload_n (n := 21) 1 (kX12_end 12 rfl) rfl rfl rfl ?_
      refine X_putI (n := 24) xf_X12 hk0 (by decide) fl_X12_103 rfl rfl (Or.inl rfl) (kX12_end 13 rfl) rfl ?_
      refine X_iconst (n := 25) (v := 1) (kX12_end 14 rfl) rfl (by decide) ?_
      exact X_zret (b := true) rfl (kX12_end 15 rfl)
    · refine X_iconst (n := 18) (v := 0) (kX12_end 9 rfl) rfl (by decide) ?_
      exact X_zret (b := false) rfl (kX12_end 10 rfl)
def t_X12_end (a0 : Nat) (i1 : Int32) (S : XS) : Bool × XS := (if i1 < 0 then (false, (sI S a0 0 (0 : Int32))) else (if i1 ≤ ((sI S a0 0 (0 : Int32)).1 a0 2) then (true, (sI (sI S a0 0 (0 : Int32)) a0 2 i1)) else (false, (sI S a0 0 (0 : Int32)))))
theorem ft_X12_end (a0 : Nat) (i1 : Int32) (S : XS) : f_X12_end a0 i1 S = some (t_X12_end a0 i1 S) := by
  unfold f_X12_end t_X12_end
  first | rfl | simp only [ite_u]
theorem p_X12_end {l : Launch} {g : XG} {a0 : Nat} {i1 : Int32} {S : XS} (hk0 : kd a0 = 12) : Cl φB l g 1 mX12_end [.ref a0, .int i1] S (some (t_X12_end a0 i1 S)) := ft_X12_end a0 i1 S ▸ w_X12_end hk0
def f_X12_take  (a0 : Nat) (S : XS) : Option (Int32 × XS) := some ((S.1 a0 2), (sI S a0 2 (0 : Int32)))
set_option maxHeartbeats 4000000 in
set_option maxRecDepth 100000 in
theorem w_X12_take {l : Launch} {g : XG}  {a0 : Nat} {S : XS} (hk0 : kd a0 = 12) : Cl φI l g 1 mX12_take [.ref a0] S (f_X12_take a0 S) := by
  refine Cl.of (by decide +kernel) (Nat.le_of_ble_eq_true rfl) ?_
  unfold f_X12_take
  show X _ _ _ _ _ 0 [(0, .ref a0)] [] S _
  refine X_aload_n (n := 1) 0 (kX12_take 0 rfl) rfl rfl rfl ?_
  refine X_getI (n := 4) xf_X12 hk0 (by decide) fl_X12_103 rfl (kX12_take 1 rfl) rfl ?_
  refine X_istore_n (n := 5) (L1 := [(1, .int (S.1 a0 2)), (0, .ref a0)]) (kX12_take 2 rfl) rfl rfl (Nat.le_of_ble_eq_true rfl) rfl ?_
  refine X_aload_n (n := 6) 1 (kX12_take 3 rfl) rfl rfl rfl ?_
  refine X_iconst (n := 7) (v := 0) (kX12_take 4 rfl) rfl (by decide) ?_
  refine X_putI (n := 10) xf_X12 hk0 (by decide) fl_X12_103 rfl rfl (Or.inl rfl) (kX12_take 5 rfl) rfl ?_
  refine X_iload_n (n := 11) 0 (kX12_take 6 rfl) rfl rfl rfl ?_
  exact X_iret rfl (kX12_take 7 rfl)
def t_X12_take (a0 : Nat) (S : XS) : Int32 × XS := ((S.1 a0 2), (sI S a0 2 (0 : Int32)))
theorem ft_X12_take (a0 : Nat) (S : XS) : f_X12_take a0 S = some (t_X12_take a0 S) := by
  unfold f_X12_take t_X12_take
  first | rfl | simp only [ite_u]
theorem p_X12_take {l : Launch} {g : XG} {a0 : Nat} {S : XS} (hk0 : kd a0 = 12) : Cl φI l g 1 mX12_take [.ref a0] S (some (t_X12_take a0 S)) := ft_X12_take a0 S ▸ w_X12_take hk0
def f_X12_isIn  (i0 : Int32) (i1 : Int32) (i2 : Int32) (S : XS) : Option (Bool × XS) := (if i0 < i1 then some (false, S) else (if i2 < i0 then some (false, S) else some (true, S)))
set_option maxHeartbeats 4000000 in
set_option maxRecDepth 100000 in
theorem w_X12_isIn {l : Launch} {g : XG}  {i0 : Int32} {i1 : Int32} {i2 : Int32} {S : XS}  : Cl φB l g 1 mX12_isIn [.int i0, .int i1, .int i2] S (f_X12_isIn i0 i1 i2 S) := by
  refine Cl.of (by decide +kernel) (Nat.le_of_ble_eq_true rfl) ?_
  unfold f_X12_isIn
  show X _ _ _ _ _ 0 [(0, .int i0), (1, .int i1), (2, .int i2)] [] S _
  refine X_iload_n (n := 1) 0 (kX12_isIn 0 rfl) rfl rfl rfl ?_
  refine X_iload_n (n := 2) 1 (kX12_isIn 1 rfl) rfl rfl rfl ?_
  refine X_ic_lt (n := 5) (tgt := 14) (kX12_isIn 2 rfl) rfl rfl (fun h1 => ?_) (fun h1 => ?_)
  · refine X_iconst (n := 15) (v := 0) (kX12_isIn 8 rfl) rfl (by decide) ?_
    exact X_zret (b := false) rfl (kX12_isIn 9 rfl)
  · refine X_iload_n (n := 6) 0 (kX12_isIn 3 rfl) rfl rfl rfl ?_
    refine X_iload_n (n := 7) 2 (kX12_isIn 4 rfl) rfl rfl rfl ?_
    refine X_ic_gt (n := 10) (tgt := 14) (kX12_isIn 5 rfl) rfl rfl (fun h2 => ?_) (fun h2 => ?_)
    · refine X_iconst (n := 15) (v := 0) (kX12_isIn 8 rfl) rfl (by decide) ?_
      exact X_zret (b := false) rfl (kX12_isIn 9 rfl)
    · refine X_iconst (n := 11) (v := 1) (kX12_isIn 6 rfl) rfl (by decide) ?_
      refine X_goto (tgt := 15) (kX12_isIn 7 rfl) rfl ?_
      exact X_zret (b := true) rfl (kX12_isIn 9 rfl)
def t_X12_isIn (i0 : Int32) (i1 : Int32) (i2 : Int32) : Bool := (if i0 < i1 then false else (if i2 < i0 then false else true))
theorem ft_X12_isIn (i0 : Int32) (i1 : Int32) (i2 : Int32) (S : XS) : f_X12_isIn i0 i1 i2 S = some (t_X12_isIn i0 i1 i2, S) := by
  unfold f_X12_isIn t_X12_isIn
  first | rfl | simp only [ite_p]
theorem p_X12_isIn {l : Launch} {g : XG} {i0 : Int32} {i1 : Int32} {i2 : Int32} {S : XS}  : Cl φB l g 1 mX12_isIn [.int i0, .int i1, .int i2] S (some (t_X12_isIn i0 i1 i2, S)) := ft_X12_isIn i0 i1 i2 S ▸ w_X12_isIn 
def f_X12_has  (i0 : Int32) (i1 : Int32) (S : XS) : Option (Bool × XS) := (if ((shr32 i0 i1) &&& (1 : Int32)) = (1 : Int32) then some (true, S) else some (false, S))
set_option maxHeartbeats 4000000 in
set_option maxRecDepth 100000 in
theorem w_X12_has {l : Launch} {g : XG}  {i0 : Int32} {i1 : Int32} {S : XS}  : Cl φB l g 1 mX12_has [.int i0, .int i1] S (f_X12_has i0 i1 S) := by
  refine Cl.of (by decide +kernel) (Nat.le_of_ble_eq_true rfl) ?_
  unfold f_X12_has
  show X _ _ _ _ _ 0 [(0, .int i0), (1, .int i1)] [] S _
  refine X_iload_n (n := 1) 0 (kX12_has 0 rfl) rfl rfl rfl ?_
  refine X_iload_n (n := 2) 1 (kX12_has 1 rfl) rfl rfl rfl ?_
  refine X_ishr (n := 3) (kX12_has 2 rfl) rfl ?_
  refine X_iconst (n := 4) (v := 1) (kX12_has 3 rfl) rfl (by decide) ?_
  refine X_iand (n := 5) (kX12_has 4 rfl) rfl ?_
  refine X_iconst (n := 6) (v := 1) (kX12_has 5 rfl) rfl (by decide) ?_
  refine X_ic_ne (n := 9) (tgt := 13) (kX12_has 6 rfl) rfl rfl (fun h1 => ?_) (fun h1 => ?_)
  · refine X_iconst (n := 10) (v := 1) (kX12_has 7 rfl) rfl (by decide) ?_
    refine X_goto (tgt := 14) (kX12_has 8 rfl) rfl ?_
    exact X_zret (b := true) rfl (kX12_has 10 rfl)
  · refine X_iconst (n := 14) (v := 0) (kX12_has 9 rfl) rfl (by decide) ?_
    exact X_zret (b := false) rfl (kX12_has 10 rfl)
def t_X12_has (i0 : Int32) (i1 : Int32) : Bool := (if ((shr32 i0 i1) &&& (1 : Int32)) = (1 : Int32) then true else false)
theorem ft_X12_has (i0 : Int32) (i1 : Int32) (S : XS) : f_X12_has i0 i1 S = some (t_X12_has i0 i1, S) := by
  unfold f_X12_has t_X12_has
  first | rfl | simp only [ite_p]
theorem p_X12_has {l : Launch} {g : XG} {i0 : Int32} {i1 : Int32} {S : XS}  : Cl φB l g 1 mX12_has [.int i0, .int i1] S (some (t_X12_has i0 i1, S)) := ft_X12_has i0 i1 S ▸ w_X12_has 
def f_X12_least  (i0 : Int32) (i1 : Int32) (S : XS) : Option (Int32 × XS) := (if i1 ≤ i0 then some (i1, S) else some (i0, S))
set_option maxHeartbeats 4000000 in
set_option maxRecDepth 100000 in
theorem w_X12_least {l : Launch} {g : XG}  {i0 : Int32} {i1 : Int32} {S : XS}  : Cl φI l g 1 mX12_least [.int i0, .int i1] S (f_X12_least i0 i1 S) := by
  refine Cl.of (by decide +kernel) (Nat.le_of_ble_eq_true rfl) ?_
  unfold f_X12_least
  show X _ _ _ _ _ 0 [(0, .int i0), (1, .int i1)] [] S _
  refine X_iload_n (n := 1) 0 (kX12_least 0 rfl) rfl rfl rfl ?_
  refine X_iload_n (n := 2) 1 (kX12_least 1 rfl) rfl rfl rfl ?_
  refine X_ic_ge (n := 5) (tgt := 9) (kX12_least 2 rfl) rfl rfl (fun h1 => ?_) (fun h1 => ?_)
  · refine X_iload_n (n := 10) 1 (kX12_least 5 rfl) rfl rfl rfl ?_
    exact X_iret rfl (kX12_least 6 rfl)
  · refine X_iload_n (n := 6) 0 (kX12_least 3 rfl) rfl rfl rfl ?_
    refine X_goto (tgt := 10) (kX12_least 4 rfl) rfl ?_
    exact X_iret rfl (kX12_least 6 rfl)
def t_X12_least (i0 : Int32) (i1 : Int32) : Int32 := (if i1 ≤ i0 then i1 else i0)
theorem ft_X12_least (i0 : Int32) (i1 : Int32) (S : XS) : f_X12_least i0 i1 S = some (t_X12_least i0 i1, S) := by
  unfold f_X12_least t_X12_least
  first | rfl | simp only [ite_p]
theorem p_X12_least {l : Launch} {g : XG} {i0 : Int32} {i1 : Int32} {S : XS}  : Cl φI l g 1 mX12_least [.int i0, .int i1] S (some (t_X12_least i0 i1, S)) := ft_X12_least i0 i1 S ▸ w_X12_least 
def f_X12_size  (i0 : Int32) (S : XS) : Option (Int32 × XS) := (if 0 ≤ i0 then some (i0, S) else some ((0 - i0), S))
set_option maxHeartbeats 4000000 in
set_option maxRecDepth 100000 in
theorem w_X12_size {l : Launch} {g : XG}  {i0 : Int32} {S : XS}  : Cl φI l g 1 mX12_size [.int i0] S (f_X12_size i0 S) := by
  refine Cl.of (by decide +kernel) (Nat.le_of_ble_eq_true rfl) ?_
  unfold f_X12_size
  show X _ _ _ _ _ 0 [(0, .int i0)] [] S _
  refine X_iload_n (n := 1) 0 (kX12_size 0 rfl) rfl rfl rfl ?_
  refine X_if_ge (n := 4) (tgt := 9) (kX12_size 1 rfl) rfl rfl (fun h1 => ?_) (fun h1 => ?_)
  · refine X_iload_n (n := 10) 0 (kX12_size 5 rfl) rfl rfl rfl ?_
    exact X_iret rfl (kX12_size 6 rfl)
  · refine X_iload_n (n := 5) 0 (kX12_size 2 rfl) rfl rfl rfl ?_
    refine X_ineg (n := 6) (kX12_size 3 rfl) rfl ?_
    refine X_goto (tgt := 10) (kX12_size 4 rfl) rfl ?_
    exact X_iret rfl (kX12_size 6 rfl)
def t_X12_size (i0 : Int32) : Int32 := (if 0 ≤ i0 then i0 else (0 - i0))
theorem ft_X12_size (i0 : Int32) (S : XS) : f_X12_size i0 S = some (t_X12_size i0, S) := by
  unfold f_X12_size t_X12_size
  first | rfl | simp only [ite_p]
theorem p_X12_size {l : Launch} {g : XG} {i0 : Int32} {S : XS}  : Cl φI l g 1 mX12_size [.int i0] S (some (t_X12_size i0, S)) := ft_X12_size i0 S ▸ w_X12_size 
def f_X12_tapeAt  (a0 : Nat) (i1 : Int32) (S : XS) : Option (Int32 × XS) := (if (S.1 a0 3) ≤ i1 then some ((0 : Int32), S) else (if i1 < 0 ∨ ln (rf a0 1) ≤ i1.toNatClampNeg then none else some ((S.1 (rf a0 1) i1.toNatClampNeg), S)))
set_option maxHeartbeats 4000000 in
set_option maxRecDepth 100000 in
theorem w_X12_tapeAt {l : Launch} {g : XG}  {a0 : Nat} {i1 : Int32} {S : XS} (hk0 : kd a0 = 12) : Cl φI l g 1 mX12_tapeAt [.ref a0, .int i1] S (f_X12_tapeAt a0 i1 S) := by
  refine Cl.of (by decide +kernel) (Nat.le_of_ble_eq_true rfl) ?_
  unfold f_X12_tapeAt
  show X _ _ _ _ _ 0 [(0, .ref a0), (1, .int i1)] [] S _
  refine X_iload_n (n := 1) 1 (kX12_tapeAt 0 rfl) rfl rfl rfl ?_
  refine X_aload_n (n := 2) 0 (kX12_tapeAt 1 rfl) rfl rfl rfl ?_
  refine X_getI (n := 5) xf_X12 hk0 (by decide) fl_X12_110 rfl (kX12_tapeAt 2 rfl) rfl ?_
  refine X_ic_ge (n := 8) (tgt := 17) (kX12_tapeAt 3 rfl) rfl rfl (fun h1 => ?_) (fun h1 => ?_)
  · refine X_iconst (n := 18) (v := 0) (kX12_tapeAt 9 rfl) rfl (by decide) ?_
    exact X_iret rfl (kX12_tapeAt 10 rfl)
  · refine X_aload_n (n := 9) 0 (kX12_tapeAt 4 rfl) rfl rfl rfl ?_
    refine X_getR (n := 12) xf_X12 hk0 (by decide) fl_X12_7 rfl (kX12_tapeAt 5 rfl) rfl ?_
    refine X_iload_n (n := 13) 1 (kX12_tapeAt 6 rfl) rfl rfl rfl ?_
    refine X_iald (n := 14) (kt_12_1 hk0) (kX12_tapeAt 7 rfl) rfl (fun h2 => ?_)
    refine X_goto (tgt := 18) (kX12_tapeAt 8 rfl) rfl ?_
    exact X_iret rfl (kX12_tapeAt 10 rfl)
