def f_X12_first  (a0 : Nat) (i1 : Int32) (S : XS) : Option (Int32 × XS) := (if (t_X12_isIn i1 (1 : Int32) ((sI S a0 0 (0 : Int32)).1 a0 41)) = true then (if (i1 - (1 : Int32)) < 0 ∨ ln (rf a0 36) ≤ (i1 - (1 : Int32)).toNatClampNeg then none else some (((sI S a0 0 (0 : Int32)).1 (rf a0 36) (i1 - (1 : Int32)).toNatClampNeg), (sI S a0 0 (0 : Int32)))) else some ((-1 : Int32), (sI S a0 0 (0 : Int32))))
set_option maxHeartbeats 4000000 in
set_option maxRecDepth 100000 in
theorem w_X12_first {l : Launch} {g : XG}  {a0 : Nat} {i1 : Int32} {S : XS} (hk0 : kd a0 = 12) : Cl φI l g 2 mX12_first [.ref a0, .int i1] S (f_X12_first a0 i1 S) := by
  refine Cl.of (by decide +kernel) (Nat.le_of_ble_eq_true rfl) ?_
  unfold f_X12_first
  show X _ _ _ _ _ 0 [(0, .ref a0), (1, .int i1)] [] S _
  refine X_aload_n (n := 1) 0 (kX12_first 0 rfl) rfl rfl rfl ?_
  refine X_iconst (n := 2) (v := 0) (kX12_first 1 rfl) rfl (by decide) ?_
  refine X_putI (n := 5) xf_X12 hk0 (by decide) fl_X12_100 rfl rfl (Or.inl rfl) (kX12_first 2 rfl) rfl ?_
  refine X_iload_n (n := 6) 1 (kX12_first 3 rfl) rfl rfl rfl ?_
  refine X_iconst (n := 7) (v := 1) (kX12_first 4 rfl) rfl (by decide) ?_
  refine X_aload_n (n := 8) 0 (kX12_first 5 rfl) rfl rfl rfl ?_
  refine X_getI (n := 11) xf_X12 hk0 (by decide) fl_X12_348 rfl (kX12_first 6 rfl) rfl ?_
  refine X_callS1B (n := 14) (As := [.int i1, .int (1 : Int32), .int ((sI S a0 0 (0 : Int32)).1 a0 41)]) (st := []) (kX12_first 7 rfl) rfl p_X12_isIn (by decide) ml_X12_169 mf_X12_isIn rfl rfl (Nat.le_of_ble_eq_true rfl) ?_
  refine X_bz (n := 17) (tgt := 28) (kX12_first 8 rfl) rfl rfl (fun h1 => ?_) (fun h1 => ?_)
  · refine X_aload_n (n := 18) 0 (kX12_first 9 rfl) rfl rfl rfl ?_
    refine X_getR (n := 21) xf_X12 hk0 (by decide) fl_X12_69 rfl (kX12_first 10 rfl) rfl ?_
    refine X_iload_n (n := 22) 1 (kX12_first 11 rfl) rfl rfl rfl ?_
    refine X_iconst (n := 23) (v := 1) (kX12_first 12 rfl) rfl (by decide) ?_
    refine X_isub (n := 24) (kX12_first 13 rfl) rfl ?_
    refine X_iald (n := 25) (kt_12_36 hk0) (kX12_first 14 rfl) rfl (fun h2 => ?_)
    refine X_goto (tgt := 29) (kX12_first 15 rfl) rfl ?_
    exact X_iret rfl (kX12_first 17 rfl)
  · refine X_iconst (n := 29) (v := (-1)) (kX12_first 16 rfl) rfl (by decide) ?_
    exact X_iret rfl (kX12_first 17 rfl)
def f_X12_areSo_L14  (i1 : Int32) (a0 : Nat) : Nat → Int32 → XS → Option ((Bool × XS) ⊕ (XS))
  | 0, _, _ => none
  | n + 1, i2, S => (if (S.1 (rf a0 14) 0) ≤ i2 then some (.inr S) else ((f_X12_onCoat a0 i1 i2 S).bind (fun q => match q with | (r3, S4) => (if (((S4.1 (rf a0 14) 0) * i1) + i2) < 0 ∨ ln (rf a0 42) ≤ (((S4.1 (rf a0 14) 0) * i1) + i2).toNatClampNeg then none else (if r3 = (S4.1 (rf a0 42) (((S4.1 (rf a0 14) 0) * i1) + i2).toNatClampNeg) then f_X12_areSo_L14 i1 a0 n (i2 + 1) S4 else some (.inl (false, S4)))))))
def f_X12_areSo_L2  (a0 : Nat) : Nat → Int32 → XS → Option ((Bool × XS) ⊕ (XS))
  | 0, _, _ => none
  | n + 1, i1, S => (if (S.1 (rf a0 14) 3) ≤ i1 then some (.inr S) else ((f_X12_areSo_L14 i1 a0 1000000 (0 : Int32) S).bind (fun q => match q with | .inl r => some (.inl r) | .inr S7 => f_X12_areSo_L2 a0 n (i1 + 1) S7)))
def f_X12_areSo  (a0 : Nat) (S : XS) : Option (Bool × XS) := ((f_X12_areSo_L2 a0 1000000 (0 : Int32) S).bind (fun q => match q with | .inl r => some r | .inr S8 => some (true, S8)))
set_option maxHeartbeats 4000000 in
set_option maxRecDepth 100000 in
theorem w_X12_areSo_L14 {l : Launch} {g : XG} {G : ((Bool × XS) ⊕ (XS)) → Option (Bool × XS)}  {i1 : Int32} {a0 : Nat} (hk0 : kd a0 = 12) (kE : ∀ (S1 : XS), X φB l g 2 mX12_areSo 56 [(1, .int i1), (0, .ref a0)] [] S1 (G (.inr S1))) (kR : ∀ r, G (.inl r) = some r) : ∀ (n : Nat) (i2 : Int32) (S : XS), X φB l g 2 mX12_areSo 14 [(2, .int i2), (1, .int i1), (0, .ref a0)] [] S ((f_X12_areSo_L14 i1 a0 n i2 S).bind G) := by
  intro n
  induction n with
  | zero => intro i2 S; exact X_none
  | succ n ih =>
  · intro i2 S
    rw [f_X12_areSo_L14]
    refine X_iload_n (n := 15) 0 (kX12_areSo 10 rfl) rfl rfl rfl ?_
    refine X_aload_n (n := 16) 2 (kX12_areSo 11 rfl) rfl rfl rfl ?_
    refine X_getR (n := 19) xf_X12 hk0 (by decide) fl_X12_13 rfl (kX12_areSo 12 rfl) rfl ?_
    refine X_iconst (n := 20) (v := 0) (kX12_areSo 13 rfl) rfl (by decide) ?_
    refine X_iald' (n := 21) (kt_12_14 hk0) (kX12_areSo 14 rfl) rfl (by rw [lt_12_14 hk0]; decide) ?_
    refine X_itebind ?_
    refine X_ic_ge (n := 24) (tgt := 56) (kX12_areSo 15 rfl) rfl rfl (fun h2 => ?_) (fun h2 => ?_)
    · exact X_L [1, 2] rfl (kE S)
    · refine X_aload_n (n := 25) 2 (kX12_areSo 16 rfl) rfl rfl rfl ?_
      refine X_iload_n (n := 26) 1 (kX12_areSo 17 rfl) rfl rfl rfl ?_
      refine X_iload_n (n := 27) 0 (kX12_areSo 18 rfl) rfl rfl rfl ?_
      refine X_assoc ?_
      refine X_callVI (n := 30) (As := [.int i1, .int i2]) (st := []) (kX12_areSo 19 rfl) rfl (w_X12_onCoat hk0) (by decide) ml_X12_275 mf_X12_onCoat rfl hk0 xf_X12 rfl (Nat.le_of_ble_eq_true rfl) (fun r3 S4 hq => ?_)
      try dsimp only
      refine X_aload_n (n := 31) 2 (kX12_areSo 20 rfl) rfl rfl rfl ?_
      refine X_getR (n := 34) xf_X12 hk0 (by decide) fl_X12_82 rfl (kX12_areSo 21 rfl) rfl ?_
      refine X_aload_n (n := 35) 2 (kX12_areSo 22 rfl) rfl rfl rfl ?_
      refine X_getR (n := 38) xf_X12 hk0 (by decide) fl_X12_13 rfl (kX12_areSo 23 rfl) rfl ?_
      refine X_iconst (n := 39) (v := 0) (kX12_areSo 24 rfl) rfl (by decide) ?_
      refine X_iald' (n := 40) (kt_12_14 hk0) (kX12_areSo 25 rfl) rfl (by rw [lt_12_14 hk0]; decide) ?_
      refine X_iload_n (n := 41) 1 (kX12_areSo 26 rfl) rfl rfl rfl ?_
      refine X_imul (n := 42) (kX12_areSo 27 rfl) rfl ?_
      refine X_iload_n (n := 43) 0 (kX12_areSo 28 rfl) rfl rfl rfl ?_
      refine X_iadd (n := 44) (kX12_areSo 29 rfl) rfl ?_
      refine X_itebind ?_
      refine X_iald (n := 45) (kt_12_42 hk0) (kX12_areSo 30 rfl) rfl (fun h6 => ?_)
      refine X_itebind ?_
      refine X_ic_eq (n := 48) (tgt := 50) (kX12_areSo 31 rfl) rfl rfl (fun h5 => ?_) (fun h5 => ?_)
      · refine X_iinc (n := 53) 0 (v := (i2 + 1)) (L1 := [(2, .int (i2 + 1)), (1, .int i1), (0, .ref a0)]) (kX12_areSo 34 rfl) rfl rfl rfl (Nat.le_of_ble_eq_true rfl) rfl ?_
        refine X_goto (tgt := 14) (kX12_areSo 35 rfl) rfl ?_
        exact X_L [0, 1, 2] rfl (ih (i2 + 1) S4)
      · refine X_iconst (n := 49) (v := 0) (kX12_areSo 32 rfl) rfl (by decide) ?_
        exact X_req (kR _) (X_zret (b := false) rfl (kX12_areSo 33 rfl))
set_option maxHeartbeats 4000000 in
set_option maxRecDepth 100000 in
theorem w_X12_areSo_L2 {l : Launch} {g : XG} {G : ((Bool × XS) ⊕ (XS)) → Option (Bool × XS)}  {a0 : Nat} (hk0 : kd a0 = 12) (kE : ∀ (S1 : XS), X φB l g 2 mX12_areSo 62 [] [] S1 (G (.inr S1))) (kR : ∀ r, G (.inl r) = some r) : ∀ (n : Nat) (i1 : Int32) (S : XS), X φB l g 2 mX12_areSo 2 [(1, .int i1), (0, .ref a0)] [] S ((f_X12_areSo_L2 a0 n i1 S).bind G) := by
  intro n
  induction n with
  | zero => intro i1 S; exact X_none
  | succ n ih =>
  · intro i1 S
    rw [f_X12_areSo_L2]
    refine X_iload_n (n := 3) 0 (kX12_areSo 2 rfl) rfl rfl rfl ?_
    refine X_aload_n (n := 4) 1 (kX12_areSo 3 rfl) rfl rfl rfl ?_
    refine X_getR (n := 7) xf_X12 hk0 (by decide) fl_X12_13 rfl (kX12_areSo 4 rfl) rfl ?_
    refine X_iconst (n := 8) (v := 3) (kX12_areSo 5 rfl) rfl (by decide) ?_
    refine X_iald' (n := 9) (kt_12_14 hk0) (kX12_areSo 6 rfl) rfl (by rw [lt_12_14 hk0]; decide) ?_
    refine X_itebind ?_
    refine X_ic_ge (n := 12) (tgt := 62) (kX12_areSo 7 rfl) rfl rfl (fun h1 => ?_) (fun h1 => ?_)
    · exact X_L [] rfl (kE S)
    · refine X_iconst (n := 13) (v := 0) (kX12_areSo 8 rfl) rfl (by decide) ?_
      refine X_istore_n (n := 14) (L1 := [(2, .int 0), (1, .int i1), (0, .ref a0)]) (kX12_areSo 9 rfl) rfl rfl (Nat.le_of_ble_eq_true rfl) rfl ?_
      refine X_assoc ?_
      refine X_L [0, 1, 2] rfl (w_X12_areSo_L14 hk0 (fun S7 => ?_) ?_ 1000000 (0 : Int32) S)
      · refine X_iinc (n := 59) 0 (v := (i1 + 1)) (L1 := [(1, .int (i1 + 1)), (0, .ref a0)]) (kX12_areSo 36 rfl) rfl rfl rfl (Nat.le_of_ble_eq_true rfl) rfl ?_
        refine X_goto (tgt := 2) (kX12_areSo 37 rfl) rfl ?_
        exact X_L [0, 1] rfl (ih (i1 + 1) S7)
      · intro r
        exact kR r
set_option maxHeartbeats 4000000 in
set_option maxRecDepth 100000 in
theorem w_X12_areSo {l : Launch} {g : XG}  {a0 : Nat} {S : XS} (hk0 : kd a0 = 12) : Cl φB l g 2 mX12_areSo [.ref a0] S (f_X12_areSo a0 S) := by
  refine Cl.of (by decide +kernel) (Nat.le_of_ble_eq_true rfl) ?_
  unfold f_X12_areSo
  show X _ _ _ _ _ 0 [(0, .ref a0)] [] S _
  refine X_iconst (n := 1) (v := 0) (kX12_areSo 0 rfl) rfl (by decide) ?_
  refine X_istore_n (n := 2) (L1 := [(1, .int 0), (0, .ref a0)]) (kX12_areSo 1 rfl) rfl rfl (Nat.le_of_ble_eq_true rfl) rfl ?_
  refine X_L [0, 1] rfl (w_X12_areSo_L2 hk0 (fun S8 => ?_) ?_ 1000000 (0 : Int32) S)
  · refine X_iconst (n := 63) (v := 1) (kX12_areSo 38 rfl) rfl (by decide) ?_
    exact X_zret (b := true) rfl (kX12_areSo 39 rfl)
  · intro r
    rfl
def f_X12_apart_L5  (a0 : Nat) (i1 : Int32) (i2 : Int32) : Nat → Int32 → Int32 → XS → Option (Int32)
  | 0, _, _, _ => none
  | n + 1, i3, i4, S => (if (6 : Int32) ≤ i4 then some i3 else (if (i1 + i4) < 0 ∨ ln (rf a0 14) ≤ (i1 + i4).toNatClampNeg then none else (if (i2 + i4) < 0 ∨ ln (rf a0 14) ≤ (i2 + i4).toNatClampNeg then none else f_X12_apart_L5 a0 i1 i2 n (i3 + (t_X12_size ((S.1 (rf a0 14) (i1 + i4).toNatClampNeg) - (S.1 (rf a0 14) (i2 + i4).toNatClampNeg)))) (i4 + 1) S)))
def f_X12_apart  (a0 : Nat) (i1 : Int32) (i2 : Int32) (S : XS) : Option (Int32 × XS) := ((f_X12_apart_L5 a0 i1 i2 1000000 (0 : Int32) (0 : Int32) S).bind (fun e4 => some (e4, S)))
set_option maxHeartbeats 4000000 in
set_option maxRecDepth 100000 in
theorem w_X12_apart_L5 {l : Launch} {g : XG} {G : (Int32) → Option (Int32 × XS)}  {a0 : Nat} {i1 : Int32} {i2 : Int32} (hk0 : kd a0 = 12) {S : XS} (kE : ∀ (e3 : Int32), X φI l g 2 mX12_apart 43 [(3, .int e3)] [] S (G e3)) : ∀ (n : Nat) (i3 : Int32) (i4 : Int32), X φI l g 2 mX12_apart 5 [(4, .int i4), (3, .int i3), (0, .ref a0), (1, .int i1), (2, .int i2)] [] S ((f_X12_apart_L5 a0 i1 i2 n i3 i4 S).bind G) := by
  intro n
  induction n with
  | zero => intro i3 i4; exact X_none
  | succ n ih =>
  · intro i3 i4
    rw [f_X12_apart_L5]
    refine X_iload (n := 7) 0 (kX12_apart 4 rfl) rfl rfl ?_
    refine X_bipush (n := 9) (v := 6) (kX12_apart 5 rfl) rfl (by decide) ?_
    refine X_itebind ?_
    refine X_ic_ge (n := 12) (tgt := 43) (kX12_apart 6 rfl) rfl rfl (fun h1 => ?_) (fun h1 => ?_)
    · exact X_L [1] rfl (kE i3)
    · refine X_iload_n (n := 13) 1 (kX12_apart 7 rfl) rfl rfl rfl ?_
      refine X_aload_n (n := 14) 2 (kX12_apart 8 rfl) rfl rfl rfl ?_
      refine X_getR (n := 17) xf_X12 hk0 (by decide) fl_X12_13 rfl (kX12_apart 9 rfl) rfl ?_
      refine X_iload_n (n := 18) 3 (kX12_apart 10 rfl) rfl rfl rfl ?_
      refine X_iload (n := 20) 0 (kX12_apart 11 rfl) rfl rfl ?_
      refine X_iadd (n := 21) (kX12_apart 12 rfl) rfl ?_
      refine X_itebind ?_
      refine X_iald (n := 22) (kt_12_14 hk0) (kX12_apart 13 rfl) rfl (fun h3 => ?_)
      refine X_aload_n (n := 23) 2 (kX12_apart 14 rfl) rfl rfl rfl ?_
      refine X_getR (n := 26) xf_X12 hk0 (by decide) fl_X12_13 rfl (kX12_apart 15 rfl) rfl ?_
      refine X_iload_n (n := 27) 4 (kX12_apart 16 rfl) rfl rfl rfl ?_
      refine X_iload (n := 29) 0 (kX12_apart 17 rfl) rfl rfl ?_
      refine X_iadd (n := 30) (kX12_apart 18 rfl) rfl ?_
      refine X_itebind ?_
      refine X_iald (n := 31) (kt_12_14 hk0) (kX12_apart 19 rfl) rfl (fun h2 => ?_)
      refine X_isub (n := 32) (kX12_apart 20 rfl) rfl ?_
      refine X_callS1I (n := 35) (As := [.int ((S.1 (rf a0 14) (i1 + i4).toNatClampNeg) - (S.1 (rf a0 14) (i2 + i4).toNatClampNeg))]) (st := [.int i3]) (kX12_apart 21 rfl) rfl p_X12_size (by decide) ml_X12_363 mf_X12_size rfl rfl (Nat.le_of_ble_eq_true rfl) ?_
      refine X_iadd (n := 36) (kX12_apart 22 rfl) rfl ?_
      refine X_istore_n (n := 37) (L1 := [(3, .int (i3 + (t_X12_size ((S.1 (rf a0 14) (i1 + i4).toNatClampNeg) - (S.1 (rf a0 14) (i2 + i4).toNatClampNeg))))), (4, .int i4), (0, .ref a0), (1, .int i1), (2, .int i2)]) (kX12_apart 23 rfl) rfl rfl (Nat.le_of_ble_eq_true rfl) rfl ?_
      refine X_iinc (n := 40) 1 (v := (i4 + 1)) (L1 := [(4, .int (i4 + 1)), (3, .int (i3 + (t_X12_size ((S.1 (rf a0 14) (i1 + i4).toNatClampNeg) - (S.1 (rf a0 14) (i2 + i4).toNatClampNeg))))), (0, .ref a0), (1, .int i1), (2, .int i2)]) (kX12_apart 24 rfl) rfl rfl rfl (Nat.le_of_ble_eq_true rfl) rfl ?_
      refine X_goto (tgt := 5) (kX12_apart 25 rfl) rfl ?_
      exact X_L [0, 1, 2, 3, 4] rfl (ih (i3 + (t_X12_size ((S.1 (rf a0 14) (i1 + i4).toNatClampNeg) - (S.1 (rf a0 14) (i2 + i4).toNatClampNeg)))) (i4 + 1))
set_option maxHeartbeats 4000000 in
set_option maxRecDepth 100000 in
theorem w_X12_apart {l : Launch} {g : XG}  {a0 : Nat} {i1 : Int32} {i2 : Int32} {S : XS} (hk0 : kd a0 = 12) : Cl φI l g 2 mX12_apart [.ref a0, .int i1, .int i2] S (f_X12_apart a0 i1 i2 S) := by
  refine Cl.of (by decide +kernel) (Nat.le_of_ble_eq_true rfl) ?_
  unfold f_X12_apart
  show X _ _ _ _ _ 0 [(0, .ref a0), (1, .int i1), (2, .int i2)] [] S _
  refine X_iconst (n := 1) (v := 0) (kX12_apart 0 rfl) rfl (by decide) ?_
  refine X_istore_n (n := 2) (L1 := [(3, .int 0), (0, .ref a0), (1, .int i1), (2, .int i2)]) (kX12_apart 1 rfl) rfl rfl (Nat.le_of_ble_eq_true rfl) rfl ?_
  refine X_iconst (n := 3) (v := 0) (kX12_apart 2 rfl) rfl (by decide) ?_
  refine X_istore (n := 5) (L1 := [(4, .int 0), (3, .int 0), (0, .ref a0), (1, .int i1), (2, .int i2)]) (kX12_apart 3 rfl) rfl (Nat.le_of_ble_eq_true rfl) rfl ?_
  refine X_L [0, 1, 2, 3, 4] rfl (w_X12_apart_L5 hk0 (fun e4 => ?_) 1000000 (0 : Int32) (0 : Int32))
  try dsimp only
  refine X_iload_n (n := 44) 0 (kX12_apart 26 rfl) rfl rfl rfl ?_
  exact X_iret rfl (kX12_apart 27 rfl)
def f_X12_kitchen_L39  (i4 : Int32) (i3 : Int32) (i2 : Int32) (a0 : Nat) (i1 : Int32) : Nat → Int32 → Int32 → XS → Option (Int32 × XS)
  | 0, _, _, _ => none
  | n + 1, i5, i6, S => (if (S.1 (rf a0 14) 0) ≤ i6 then some (i5, S) else ((f_X12_worn a0 i1 S).bind (fun q => match q with | (r4, S5) => (if (r4 + i6) < 0 ∨ ln (rf a0 14) ≤ (r4 + i6).toNatClampNeg then none else ((f_X12_airOf a0 i4 i6 S5).bind (fun q => match q with | (r6, S7) => ((f_X12_worn a0 i1 S7).bind (fun q => match q with | (r8, S9) => (if (r8 + i6) < 0 ∨ ln (rf a0 14) ≤ (r8 + i6).toNatClampNeg then none else f_X12_kitchen_L39 i4 i3 i2 a0 i1 n (i5 + ((t_X12_least (99 : Int32) ((S5.1 (rf a0 14) (r4 + i6).toNatClampNeg) + r6)) - (S9.1 (rf a0 14) (r8 + i6).toNatClampNeg))) (i6 + 1) S9)))))))))
def f_X12_kitchen_L22  (a0 : Nat) (i1 : Int32) : Nat → Int32 → Int32 → Int32 → XS → Option (Int32 × XS)
  | 0, _, _, _, _ => none
  | n + 1, i2, i3, i4, S => (if (S.1 (rf a0 14) 1) ≤ i4 then some (i2, S) else ((f_X12_kitchen_L39 i4 i3 i2 a0 i1 1000000 (0 : Int32) (0 : Int32) S).bind (fun q => match q with | (e12, S13) => (if i3 < e12 then f_X12_kitchen_L22 a0 i1 n i4 e12 (i4 + 1) S13 else f_X12_kitchen_L22 a0 i1 n i2 i3 (i4 + 1) S13))))
def f_X12_kitchen  (a0 : Nat) (i1 : Int32) (S : XS) : Option (Int32 × XS) := (if (t_X12_isWitness a0 i1 (sI S a0 0 (0 : Int32))) = true then ((f_X12_kitchen_L22 a0 i1 1000000 (-1 : Int32) (-1 : Int32) (0 : Int32) (sI S a0 0 (0 : Int32))).bind (fun q => match q with | (e15, S16) => some (e15, S16))) else some ((-1 : Int32), (sI S a0 0 (0 : Int32))))
set_option maxHeartbeats 4000000 in
set_option maxRecDepth 100000 in
theorem w_X12_kitchen_L39 {l : Launch} {g : XG} {G : (Int32 × XS) → Option (Int32 × XS)}  {i4 : Int32} {i3 : Int32} {i2 : Int32} {a0 : Nat} {i1 : Int32} (hk0 : kd a0 = 12) (kE : ∀ (e5 : Int32) (S1 : XS), X φI l g 2 mX12_kitchen 102 [(5, .int e5), (4, .int i4), (3, .int i3), (2, .int i2), (0, .ref a0), (1, .int i1)] [] S1 (G (e5, S1))) : ∀ (n : Nat) (i5 : Int32) (i6 : Int32) (S : XS), X φI l g 2 mX12_kitchen 39 [(6, .int i6), (5, .int i5), (4, .int i4), (3, .int i3), (2, .int i2), (0, .ref a0), (1, .int i1)] [] S ((f_X12_kitchen_L39 i4 i3 i2 a0 i1 n i5 i6 S).bind G) := by
  intro n
  induction n with
  | zero => intro i5 i6 S; exact X_none
  | succ n ih =>
  · intro i5 i6 S
    rw [f_X12_kitchen_L39]
    refine X_iload (n := 41) 0 (kX12_kitchen 25 rfl) rfl rfl ?_
    refine X_aload_n (n := 42) 5 (kX12_kitchen 26 rfl) rfl rfl rfl ?_
    refine X_getR (n := 45) xf_X12 hk0 (by decide) fl_X12_13 rfl (kX12_kitchen 27 rfl) rfl ?_
    refine X_iconst (n := 46) (v := 0) (kX12_kitchen 28 rfl) rfl (by decide) ?_
    refine X_iald' (n := 47) (kt_12_14 hk0) (kX12_kitchen 29 rfl) rfl (by rw [lt_12_14 hk0]; decide) ?_
    refine X_itebind ?_
    refine X_ic_ge (n := 50) (tgt := 102) (kX12_kitchen 30 rfl) rfl rfl (fun h3 => ?_) (fun h3 => ?_)
    · exact X_L [1, 2, 3, 4, 5, 6] rfl (kE i5 S)
    · refine X_iload (n := 52) 1 (kX12_kitchen 31 rfl) rfl rfl ?_
      refine X_bipush (n := 54) (v := 99) (kX12_kitchen 32 rfl) rfl (by decide) ?_
      refine X_aload_n (n := 55) 5 (kX12_kitchen 33 rfl) rfl rfl rfl ?_
      refine X_getR (n := 58) xf_X12 hk0 (by decide) fl_X12_13 rfl (kX12_kitchen 34 rfl) rfl ?_
      refine X_aload_n (n := 59) 5 (kX12_kitchen 35 rfl) rfl rfl rfl ?_
      refine X_iload_n (n := 60) 6 (kX12_kitchen 36 rfl) rfl rfl rfl ?_
      refine X_assoc ?_
      refine X_callVI (n := 63) (As := [.int i1]) (st := [.ref (rf a0 14), .int 99, .int i5]) (kX12_kitchen 37 rfl) rfl (w_X12_worn hk0) (by decide) ml_X12_266 mf_X12_worn rfl hk0 xf_X12 rfl (Nat.le_of_ble_eq_true rfl) (fun r4 S5 hq => ?_)
      try dsimp only
      refine X_iload (n := 65) 0 (kX12_kitchen 38 rfl) rfl rfl ?_
      refine X_iadd (n := 66) (kX12_kitchen 39 rfl) rfl ?_
      refine X_itebind ?_
      refine X_iald (n := 67) (kt_12_14 hk0) (kX12_kitchen 40 rfl) rfl (fun h11 => ?_)
      refine X_aload_n (n := 68) 5 (kX12_kitchen 41 rfl) rfl rfl rfl ?_
      refine X_iload (n := 70) 2 (kX12_kitchen 42 rfl) rfl rfl ?_
      refine X_iload (n := 72) 0 (kX12_kitchen 43 rfl) rfl rfl ?_
      refine X_assoc ?_
      refine X_callVI (n := 75) (As := [.int i4, .int i6]) (st := [.int (S5.1 (rf a0 14) (r4 + i6).toNatClampNeg), .int 99, .int i5]) (kX12_kitchen 44 rfl) rfl (w_X12_airOf hk0) (by decide) ml_X12_259 mf_X12_airOf rfl hk0 xf_X12 rfl (Nat.le_of_ble_eq_true rfl) (fun r6 S7 hq => ?_)
      try dsimp only
      refine X_iadd (n := 76) (kX12_kitchen 45 rfl) rfl ?_
      refine X_callS1I (n := 79) (As := [.int (99 : Int32), .int ((S5.1 (rf a0 14) (r4 + i6).toNatClampNeg) + r6)]) (st := [.int i5]) (kX12_kitchen 46 rfl) rfl p_X12_least (by decide) ml_X12_300 mf_X12_least rfl rfl (Nat.le_of_ble_eq_true rfl) ?_
      refine X_aload_n (n := 80) 5 (kX12_kitchen 47 rfl) rfl rfl rfl ?_
      refine X_getR (n := 83) xf_X12 hk0 (by decide) fl_X12_13 rfl (kX12_kitchen 48 rfl) rfl ?_
      refine X_aload_n (n := 84) 5 (kX12_kitchen 49 rfl) rfl rfl rfl ?_
      refine X_iload_n (n := 85) 6 (kX12_kitchen 50 rfl) rfl rfl rfl ?_
      refine X_assoc ?_
      refine X_callVI (n := 88) (As := [.int i1]) (st := [.ref (rf a0 14), .int (t_X12_least (99 : Int32) ((S5.1 (rf a0 14) (r4 + i6).toNatClampNeg) + r6)), .int i5]) (kX12_kitchen 51 rfl) rfl (w_X12_worn hk0) (by decide) ml_X12_266 mf_X12_worn rfl hk0 xf_X12 rfl (Nat.le_of_ble_eq_true rfl) (fun r8 S9 hq => ?_)
      try dsimp only
      refine X_iload (n := 90) 0 (kX12_kitchen 52 rfl) rfl rfl ?_
      refine X_iadd (n := 91) (kX12_kitchen 53 rfl) rfl ?_
      refine X_itebind ?_
      refine X_iald (n := 92) (kt_12_14 hk0) (kX12_kitchen 54 rfl) rfl (fun h10 => ?_)
      refine X_isub (n := 93) (kX12_kitchen 55 rfl) rfl ?_
      refine X_iadd (n := 94) (kX12_kitchen 56 rfl) rfl ?_
      refine X_istore (n := 96) (L1 := [(5, .int (i5 + ((t_X12_least (99 : Int32) ((S5.1 (rf a0 14) (r4 + i6).toNatClampNeg) + r6)) - (S9.1 (rf a0 14) (r8 + i6).toNatClampNeg)))), (6, .int i6), (4, .int i4), (3, .int i3), (2, .int i2), (0, .ref a0), (1, .int i1)]) (kX12_kitchen 57 rfl) rfl (Nat.le_of_ble_eq_true rfl) rfl ?_
      refine X_iinc (n := 99) 1 (v := (i6 + 1)) (L1 := [(6, .int (i6 + 1)), (5, .int (i5 + ((t_X12_least (99 : Int32) ((S5.1 (rf a0 14) (r4 + i6).toNatClampNeg) + r6)) - (S9.1 (rf a0 14) (r8 + i6).toNatClampNeg)))), (4, .int i4), (3, .int i3), (2, .int i2), (0, .ref a0), (1, .int i1)]) (kX12_kitchen 58 rfl) rfl rfl rfl (Nat.le_of_ble_eq_true rfl) rfl ?_
      refine X_goto (tgt := 39) (kX12_kitchen 59 rfl) rfl ?_
      exact X_L [0, 1, 2, 3, 4, 5, 6] rfl (ih (i5 + ((t_X12_least (99 : Int32) ((S5.1 (rf a0 14) (r4 + i6).toNatClampNeg) + r6)) - (S9.1 (rf a0 14) (r8 + i6).toNatClampNeg))) (i6 + 1) S9)
set_option maxHeartbeats 4000000 in
set_option maxRecDepth 100000 in
theorem w_X12_kitchen_L22 {l : Launch} {g : XG} {G : (Int32 × XS) → Option (Int32 × XS)}  {a0 : Nat} {i1 : Int32} (hk0 : kd a0 = 12) (kE : ∀ (e2 : Int32) (S1 : XS), X φI l g 2 mX12_kitchen 123 [(2, .int e2)] [] S1 (G (e2, S1))) : ∀ (n : Nat) (i2 : Int32) (i3 : Int32) (i4 : Int32) (S : XS), X φI l g 2 mX12_kitchen 22 [(4, .int i4), (3, .int i3), (2, .int i2), (0, .ref a0), (1, .int i1)] [] S ((f_X12_kitchen_L22 a0 i1 n i2 i3 i4 S).bind G) := by
  intro n
  induction n with
  | zero => intro i2 i3 i4 S; exact X_none
  | succ n ih =>
  · intro i2 i3 i4 S
    rw [f_X12_kitchen_L22]
    refine X_iload (n := 24) 0 (kX12_kitchen 15 rfl) rfl rfl ?_
    refine X_aload_n (n := 25) 3 (kX12_kitchen 16 rfl) rfl rfl rfl ?_
    refine X_getR (n := 28) xf_X12 hk0 (by decide) fl_X12_13 rfl (kX12_kitchen 17 rfl) rfl ?_
    refine X_iconst (n := 29) (v := 1) (kX12_kitchen 18 rfl) rfl (by decide) ?_
    refine X_iald' (n := 30) (kt_12_14 hk0) (kX12_kitchen 19 rfl) rfl (by rw [lt_12_14 hk0]; decide) ?_
    refine X_itebind ?_
    refine X_ic_ge (n := 33) (tgt := 123) (kX12_kitchen 20 rfl) rfl rfl (fun h2 => ?_) (fun h2 => ?_)
    · exact X_L [2] rfl (kE i2 S)
    · refine X_iconst (n := 34) (v := 0) (kX12_kitchen 21 rfl) rfl (by decide) ?_
      refine X_istore (n := 36) (L1 := [(5, .int 0), (4, .int i4), (3, .int i3), (2, .int i2), (0, .ref a0), (1, .int i1)]) (kX12_kitchen 22 rfl) rfl (Nat.le_of_ble_eq_true rfl) rfl ?_
      refine X_iconst (n := 37) (v := 0) (kX12_kitchen 23 rfl) rfl (by decide) ?_
      refine X_istore (n := 39) (L1 := [(6, .int 0), (5, .int 0), (4, .int i4), (3, .int i3), (2, .int i2), (0, .ref a0), (1, .int i1)]) (kX12_kitchen 24 rfl) rfl (Nat.le_of_ble_eq_true rfl) rfl ?_
      refine X_assoc ?_
      refine X_L [0, 1, 2, 3, 4, 5, 6] rfl (w_X12_kitchen_L39 hk0 (fun e12 S13 => ?_) 1000000 (0 : Int32) (0 : Int32) S)
      try dsimp only
      refine X_iload (n := 104) 0 (kX12_kitchen 60 rfl) rfl rfl ?_
      refine X_iload_n (n := 105) 2 (kX12_kitchen 61 rfl) rfl rfl rfl ?_
      refine X_itebind ?_
      refine X_ic_gt (n := 108) (tgt := 111) (kX12_kitchen 62 rfl) rfl rfl (fun h14 => ?_) (fun h14 => ?_)
      · refine X_iload (n := 113) 1 (kX12_kitchen 64 rfl) rfl rfl ?_
        refine X_istore_n (n := 114) (L1 := [(2, .int i4), (5, .int e12), (4, .int i4), (3, .int i3), (0, .ref a0), (1, .int i1)]) (kX12_kitchen 65 rfl) rfl rfl (Nat.le_of_ble_eq_true rfl) rfl ?_
        refine X_iload (n := 116) 1 (kX12_kitchen 66 rfl) rfl rfl ?_
        refine X_istore_n (n := 117) (L1 := [(3, .int e12), (2, .int i4), (5, .int e12), (4, .int i4), (0, .ref a0), (1, .int i1)]) (kX12_kitchen 67 rfl) rfl rfl (Nat.le_of_ble_eq_true rfl) rfl ?_
        refine X_iinc (n := 120) 3 (v := (i4 + 1)) (L1 := [(4, .int (i4 + 1)), (3, .int e12), (2, .int i4), (5, .int e12), (0, .ref a0), (1, .int i1)]) (kX12_kitchen 68 rfl) rfl rfl rfl (Nat.le_of_ble_eq_true rfl) rfl ?_
        refine X_goto (tgt := 22) (kX12_kitchen 69 rfl) rfl ?_
        exact X_L [0, 1, 2, 4, 5] rfl (ih i4 e12 (i4 + 1) S13)
      · refine X_goto (tgt := 117) (kX12_kitchen 63 rfl) rfl ?_
        refine X_iinc (n := 120) 1 (v := (i4 + 1)) (L1 := [(4, .int (i4 + 1)), (5, .int e12), (3, .int i3), (2, .int i2), (0, .ref a0), (1, .int i1)]) (kX12_kitchen 68 rfl) rfl rfl rfl (Nat.le_of_ble_eq_true rfl) rfl ?_
        refine X_goto (tgt := 22) (kX12_kitchen 69 rfl) rfl ?_
        exact X_L [0, 2, 3, 4, 5] rfl (ih i2 i3 (i4 + 1) S13)
set_option maxHeartbeats 4000000 in
set_option maxRecDepth 100000 in
theorem w_X12_kitchen {l : Launch} {g : XG}  {a0 : Nat} {i1 : Int32} {S : XS} (hk0 : kd a0 = 12) : Cl φI l g 2 mX12_kitchen [.ref a0, .int i1] S (f_X12_kitchen a0 i1 S) := by
  refine Cl.of (by decide +kernel) (Nat.le_of_ble_eq_true rfl) ?_
  unfold f_X12_kitchen
  show X _ _ _ _ _ 0 [(0, .ref a0), (1, .int i1)] [] S _
  refine X_aload_n (n := 1) 0 (kX12_kitchen 0 rfl) rfl rfl rfl ?_
  refine X_iconst (n := 2) (v := 0) (kX12_kitchen 1 rfl) rfl (by decide) ?_
  refine X_putI (n := 5) xf_X12 hk0 (by decide) fl_X12_100 rfl rfl (Or.inl rfl) (kX12_kitchen 2 rfl) rfl ?_
  refine X_aload_n (n := 6) 0 (kX12_kitchen 3 rfl) rfl rfl rfl ?_
  refine X_iload_n (n := 7) 1 (kX12_kitchen 4 rfl) rfl rfl rfl ?_
  refine X_callV1B (n := 10) (As := [.int i1]) (st := []) (kX12_kitchen 5 rfl) rfl (p_X12_isWitness hk0) (by decide) ml_X12_263 mf_X12_isWitness rfl hk0 xf_X12 rfl (Nat.le_of_ble_eq_true rfl) ?_
  refine X_bn (n := 13) (tgt := 15) (kX12_kitchen 6 rfl) rfl rfl (fun h1 => ?_) (fun h1 => ?_)
  · refine X_iconst (n := 16) (v := (-1)) (kX12_kitchen 9 rfl) rfl (by decide) ?_
    refine X_istore_n (n := 17) (L1 := [(2, .int (-1)), (0, .ref a0), (1, .int i1)]) (kX12_kitchen 10 rfl) rfl rfl (Nat.le_of_ble_eq_true rfl) rfl ?_
    refine X_iconst (n := 18) (v := (-1)) (kX12_kitchen 11 rfl) rfl (by decide) ?_
    refine X_istore_n (n := 19) (L1 := [(3, .int (-1)), (2, .int (-1)), (0, .ref a0), (1, .int i1)]) (kX12_kitchen 12 rfl) rfl rfl (Nat.le_of_ble_eq_true rfl) rfl ?_
    refine X_iconst (n := 20) (v := 0) (kX12_kitchen 13 rfl) rfl (by decide) ?_
    refine X_istore (n := 22) (L1 := [(4, .int 0), (3, .int (-1)), (2, .int (-1)), (0, .ref a0), (1, .int i1)]) (kX12_kitchen 14 rfl) rfl (Nat.le_of_ble_eq_true rfl) rfl ?_
    refine X_L [0, 1, 2, 3, 4] rfl (w_X12_kitchen_L22 hk0 (fun e15 S16 => ?_) 1000000 (-1 : Int32) (-1 : Int32) (0 : Int32) (sI S a0 0 (0 : Int32)))
    try dsimp only
    refine X_iload_n (n := 124) 0 (kX12_kitchen 70 rfl) rfl rfl rfl ?_
    exact X_iret rfl (kX12_kitchen 71 rfl)
  · refine X_iconst (n := 14) (v := (-1)) (kX12_kitchen 7 rfl) rfl (by decide) ?_
    exact X_iret rfl (kX12_kitchen 8 rfl)
def f_X12_thread_L39  (i4 : Int32) (i3 : Int32) (i2 : Int32) (a0 : Nat) (i1 : Int32) : Nat → Int32 → Int32 → XS → Option (Int32 × XS)
  | 0, _, _, _ => none
  | n + 1, i5, i6, S => (if (S.1 (rf a0 14) 0) ≤ i6 then some (i5, S) else ((f_X12_airOf a0 i4 i6 S).bind (fun q => match q with | (r4, S5) => ((f_X12_onCloth a0 i1 i6 S5).bind (fun q => match q with | (r6, S7) => f_X12_thread_L39 i4 i3 i2 a0 i1 n (i5 + (t_X12_size (r4 - r6))) (i6 + 1) S7)))))
def f_X12_thread_L22  (a0 : Nat) (i1 : Int32) : Nat → Int32 → Int32 → Int32 → XS → Option (Int32 × XS)
  | 0, _, _, _, _ => none
  | n + 1, i2, i3, i4, S => (if (S.1 (rf a0 14) 1) ≤ i4 then some (i2, S) else ((f_X12_thread_L39 i4 i3 i2 a0 i1 1000000 (0 : Int32) (0 : Int32) S).bind (fun q => match q with | (e8, S9) => (if i2 = (-1 : Int32) then f_X12_thread_L22 a0 i1 n i4 e8 (i4 + 1) S9 else (if e8 < i3 then f_X12_thread_L22 a0 i1 n i4 e8 (i4 + 1) S9 else f_X12_thread_L22 a0 i1 n i2 i3 (i4 + 1) S9)))))
def f_X12_thread  (a0 : Nat) (i1 : Int32) (S : XS) : Option (Int32 × XS) := (if (t_X12_isCloth a0 i1 (sI S a0 0 (0 : Int32))) = true then ((f_X12_thread_L22 a0 i1 1000000 (-1 : Int32) (0 : Int32) (0 : Int32) (sI S a0 0 (0 : Int32))).bind (fun q => match q with | (e12, S13) => some (e12, S13))) else some ((-1 : Int32), (sI S a0 0 (0 : Int32))))
set_option maxHeartbeats 4000000 in
set_option maxRecDepth 100000 in
theorem w_X12_thread_L39 {l : Launch} {g : XG} {G : (Int32 × XS) → Option (Int32 × XS)}  {i4 : Int32} {i3 : Int32} {i2 : Int32} {a0 : Nat} {i1 : Int32} (hk0 : kd a0 = 12) (kE : ∀ (e5 : Int32) (S1 : XS), X φI l g 2 mX12_thread 80 [(5, .int e5), (4, .int i4), (3, .int i3), (2, .int i2), (0, .ref a0), (1, .int i1)] [] S1 (G (e5, S1))) : ∀ (n : Nat) (i5 : Int32) (i6 : Int32) (S : XS), X φI l g 2 mX12_thread 39 [(6, .int i6), (5, .int i5), (4, .int i4), (3, .int i3), (2, .int i2), (0, .ref a0), (1, .int i1)] [] S ((f_X12_thread_L39 i4 i3 i2 a0 i1 n i5 i6 S).bind G) := by
  intro n
  induction n with
  | zero => intro i5 i6 S; exact X_none
  | succ n ih =>
  · intro i5 i6 S
    rw [f_X12_thread_L39]
    refine X_iload (n := 41) 0 (kX12_thread 25 rfl) rfl rfl ?_
    refine X_aload_n (n := 42) 5 (kX12_thread 26 rfl) rfl rfl rfl ?_
    refine X_getR (n := 45) xf_X12 hk0 (by decide) fl_X12_13 rfl (kX12_thread 27 rfl) rfl ?_
    refine X_iconst (n := 46) (v := 0) (kX12_thread 28 rfl) rfl (by decide) ?_
    refine X_iald' (n := 47) (kt_12_14 hk0) (kX12_thread 29 rfl) rfl (by rw [lt_12_14 hk0]; decide) ?_
    refine X_itebind ?_
    refine X_ic_ge (n := 50) (tgt := 80) (kX12_thread 30 rfl) rfl rfl (fun h3 => ?_) (fun h3 => ?_)
    · exact X_L [1, 2, 3, 4, 5, 6] rfl (kE i5 S)
    · refine X_iload (n := 52) 1 (kX12_thread 31 rfl) rfl rfl ?_
      refine X_aload_n (n := 53) 5 (kX12_thread 32 rfl) rfl rfl rfl ?_
      refine X_iload (n := 55) 2 (kX12_thread 33 rfl) rfl rfl ?_
      refine X_iload (n := 57) 0 (kX12_thread 34 rfl) rfl rfl ?_
      refine X_assoc ?_
      refine X_callVI (n := 60) (As := [.int i4, .int i6]) (st := [.int i5]) (kX12_thread 35 rfl) rfl (w_X12_airOf hk0) (by decide) ml_X12_259 mf_X12_airOf rfl hk0 xf_X12 rfl (Nat.le_of_ble_eq_true rfl) (fun r4 S5 hq => ?_)
      try dsimp only
      refine X_aload_n (n := 61) 5 (kX12_thread 36 rfl) rfl rfl rfl ?_
      refine X_iload_n (n := 62) 6 (kX12_thread 37 rfl) rfl rfl rfl ?_
      refine X_iload (n := 64) 0 (kX12_thread 38 rfl) rfl rfl ?_
      refine X_assoc ?_
      refine X_callVI (n := 67) (As := [.int i1, .int i6]) (st := [.int r4, .int i5]) (kX12_thread 39 rfl) rfl (w_X12_onCloth hk0) (by decide) ml_X12_281 mf_X12_onCloth rfl hk0 xf_X12 rfl (Nat.le_of_ble_eq_true rfl) (fun r6 S7 hq => ?_)
      try dsimp only
      refine X_isub (n := 68) (kX12_thread 40 rfl) rfl ?_
      refine X_callS1I (n := 71) (As := [.int (r4 - r6)]) (st := [.int i5]) (kX12_thread 41 rfl) rfl p_X12_size (by decide) ml_X12_363 mf_X12_size rfl rfl (Nat.le_of_ble_eq_true rfl) ?_
      refine X_iadd (n := 72) (kX12_thread 42 rfl) rfl ?_
      refine X_istore (n := 74) (L1 := [(5, .int (i5 + (t_X12_size (r4 - r6)))), (6, .int i6), (4, .int i4), (3, .int i3), (2, .int i2), (0, .ref a0), (1, .int i1)]) (kX12_thread 43 rfl) rfl (Nat.le_of_ble_eq_true rfl) rfl ?_
      refine X_iinc (n := 77) 1 (v := (i6 + 1)) (L1 := [(6, .int (i6 + 1)), (5, .int (i5 + (t_X12_size (r4 - r6)))), (4, .int i4), (3, .int i3), (2, .int i2), (0, .ref a0), (1, .int i1)]) (kX12_thread 44 rfl) rfl rfl rfl (Nat.le_of_ble_eq_true rfl) rfl ?_
      refine X_goto (tgt := 39) (kX12_thread 45 rfl) rfl ?_
      exact X_L [0, 1, 2, 3, 4, 5, 6] rfl (ih (i5 + (t_X12_size (r4 - r6))) (i6 + 1) S7)
set_option maxHeartbeats 4000000 in
set_option maxRecDepth 100000 in
theorem w_X12_thread_L22 {l : Launch} {g : XG} {G : (Int32 × XS) → Option (Int32 × XS)}  {a0 : Nat} {i1 : Int32} (hk0 : kd a0 = 12) (kE : ∀ (e2 : Int32) (S1 : XS), X φI l g 2 mX12_thread 106 [(2, .int e2)] [] S1 (G (e2, S1))) : ∀ (n : Nat) (i2 : Int32) (i3 : Int32) (i4 : Int32) (S : XS), X φI l g 2 mX12_thread 22 [(4, .int i4), (3, .int i3), (2, .int i2), (0, .ref a0), (1, .int i1)] [] S ((f_X12_thread_L22 a0 i1 n i2 i3 i4 S).bind G) := by
  intro n
  induction n with
  | zero => intro i2 i3 i4 S; exact X_none
  | succ n ih =>
  · intro i2 i3 i4 S
    rw [f_X12_thread_L22]
    refine X_iload (n := 24) 0 (kX12_thread 15 rfl) rfl rfl ?_
    refine X_aload_n (n := 25) 3 (kX12_thread 16 rfl) rfl rfl rfl ?_
    refine X_getR (n := 28) xf_X12 hk0 (by decide) fl_X12_13 rfl (kX12_thread 17 rfl) rfl ?_
    refine X_iconst (n := 29) (v := 1) (kX12_thread 18 rfl) rfl (by decide) ?_
    refine X_iald' (n := 30) (kt_12_14 hk0) (kX12_thread 19 rfl) rfl (by rw [lt_12_14 hk0]; decide) ?_
    refine X_itebind ?_
    refine X_ic_ge (n := 33) (tgt := 106) (kX12_thread 20 rfl) rfl rfl (fun h2 => ?_) (fun h2 => ?_)
    · exact X_L [2] rfl (kE i2 S)
    · refine X_iconst (n := 34) (v := 0) (kX12_thread 21 rfl) rfl (by decide) ?_
      refine X_istore (n := 36) (L1 := [(5, .int 0), (4, .int i4), (3, .int i3), (2, .int i2), (0, .ref a0), (1, .int i1)]) (kX12_thread 22 rfl) rfl (Nat.le_of_ble_eq_true rfl) rfl ?_
      refine X_iconst (n := 37) (v := 0) (kX12_thread 23 rfl) rfl (by decide) ?_
      refine X_istore (n := 39) (L1 := [(6, .int 0), (5, .int 0), (4, .int i4), (3, .int i3), (2, .int i2), (0, .ref a0), (1, .int i1)]) (kX12_thread 24 rfl) rfl (Nat.le_of_ble_eq_true rfl) rfl ?_
      refine X_assoc ?_
      refine X_L [0, 1, 2, 3, 4, 5, 6] rfl (w_X12_thread_L39 hk0 (fun e8 S9 => ?_) 1000000 (0 : Int32) (0 : Int32) S)
      try dsimp only
      refine X_iload_n (n := 81) 3 (kX12_thread 46 rfl) rfl rfl rfl ?_
      refine X_iconst (n := 82) (v := (-1)) (kX12_thread 47 rfl) rfl (by decide) ?_
      refine X_itebind ?_
      refine X_ic_eq (n := 85) (tgt := 94) (kX12_thread 48 rfl) rfl rfl (fun h10 => ?_) (fun h10 => ?_)
      · refine X_iload (n := 96) 1 (kX12_thread 53 rfl) rfl rfl ?_
        refine X_istore_n (n := 97) (L1 := [(2, .int i4), (5, .int e8), (4, .int i4), (3, .int i3), (0, .ref a0), (1, .int i1)]) (kX12_thread 54 rfl) rfl rfl (Nat.le_of_ble_eq_true rfl) rfl ?_
        refine X_iload (n := 99) 1 (kX12_thread 55 rfl) rfl rfl ?_
        refine X_istore_n (n := 100) (L1 := [(3, .int e8), (2, .int i4), (5, .int e8), (4, .int i4), (0, .ref a0), (1, .int i1)]) (kX12_thread 56 rfl) rfl rfl (Nat.le_of_ble_eq_true rfl) rfl ?_
        refine X_iinc (n := 103) 3 (v := (i4 + 1)) (L1 := [(4, .int (i4 + 1)), (3, .int e8), (2, .int i4), (5, .int e8), (0, .ref a0), (1, .int i1)]) (kX12_thread 57 rfl) rfl rfl rfl (Nat.le_of_ble_eq_true rfl) rfl ?_
        refine X_goto (tgt := 22) (kX12_thread 58 rfl) rfl ?_
        exact X_L [0, 1, 2, 4, 5] rfl (ih i4 e8 (i4 + 1) S9)
      · refine X_iload (n := 87) 0 (kX12_thread 49 rfl) rfl rfl ?_
        refine X_iload_n (n := 88) 2 (kX12_thread 50 rfl) rfl rfl rfl ?_
        refine X_itebind ?_
        refine X_ic_lt (n := 91) (tgt := 94) (kX12_thread 51 rfl) rfl rfl (fun h11 => ?_) (fun h11 => ?_)
        · refine X_iload (n := 96) 1 (kX12_thread 53 rfl) rfl rfl ?_
          refine X_istore_n (n := 97) (L1 := [(2, .int i4), (5, .int e8), (4, .int i4), (3, .int i3), (0, .ref a0), (1, .int i1)]) (kX12_thread 54 rfl) rfl rfl (Nat.le_of_ble_eq_true rfl) rfl ?_
          refine X_iload (n := 99) 1 (kX12_thread 55 rfl) rfl rfl ?_
          refine X_istore_n (n := 100) (L1 := [(3, .int e8), (2, .int i4), (5, .int e8), (4, .int i4), (0, .ref a0), (1, .int i1)]) (kX12_thread 56 rfl) rfl rfl (Nat.le_of_ble_eq_true rfl) rfl ?_
          refine X_iinc (n := 103) 3 (v := (i4 + 1)) (L1 := [(4, .int (i4 + 1)), (3, .int e8), (2, .int i4), (5, .int e8), (0, .ref a0), (1, .int i1)]) (kX12_thread 57 rfl) rfl rfl rfl (Nat.le_of_ble_eq_true rfl) rfl ?_
          refine X_goto (tgt := 22) (kX12_thread 58 rfl) rfl ?_
          exact X_L [0, 1, 2, 4, 5] rfl (ih i4 e8 (i4 + 1) S9)
        · refine X_goto (tgt := 100) (kX12_thread 52 rfl) rfl ?_
          refine X_iinc (n := 103) 1 (v := (i4 + 1)) (L1 := [(4, .int (i4 + 1)), (5, .int e8), (3, .int i3), (2, .int i2), (0, .ref a0), (1, .int i1)]) (kX12_thread 57 rfl) rfl rfl rfl (Nat.le_of_ble_eq_true rfl) rfl ?_
          refine X_goto (tgt := 22) (kX12_thread 58 rfl) rfl ?_
          exact X_L [0, 2, 3, 4, 5] rfl (ih i2 i3 (i4 + 1) S9)
set_option maxHeartbeats 4000000 in
set_option maxRecDepth 100000 in
theorem w_X12_thread {l : Launch} {g : XG}  {a0 : Nat} {i1 : Int32} {S : XS} (hk0 : kd a0 = 12) : Cl φI l g 2 mX12_thread [.ref a0, .int i1] S (f_X12_thread a0 i1 S) := by
  refine Cl.of (by decide +kernel) (Nat.le_of_ble_eq_true rfl) ?_
  unfold f_X12_thread
  show X _ _ _ _ _ 0 [(0, .ref a0), (1, .int i1)] [] S _
  refine X_aload_n (n := 1) 0 (kX12_thread 0 rfl) rfl rfl rfl ?_
  refine X_iconst (n := 2) (v := 0) (kX12_thread 1 rfl) rfl (by decide) ?_
  refine X_putI (n := 5) xf_X12 hk0 (by decide) fl_X12_100 rfl rfl (Or.inl rfl) (kX12_thread 2 rfl) rfl ?_
  refine X_aload_n (n := 6) 0 (kX12_thread 3 rfl) rfl rfl rfl ?_
  refine X_iload_n (n := 7) 1 (kX12_thread 4 rfl) rfl rfl rfl ?_
  refine X_callV1B (n := 10) (As := [.int i1]) (st := []) (kX12_thread 5 rfl) rfl (p_X12_isCloth hk0) (by decide) ml_X12_278 mf_X12_isCloth rfl hk0 xf_X12 rfl (Nat.le_of_ble_eq_true rfl) ?_
  refine X_bn (n := 13) (tgt := 15) (kX12_thread 6 rfl) rfl rfl (fun h1 => ?_) (fun h1 => ?_)
  · refine X_iconst (n := 16) (v := (-1)) (kX12_thread 9 rfl) rfl (by decide) ?_
    refine X_istore_n (n := 17) (L1 := [(2, .int (-1)), (0, .ref a0), (1, .int i1)]) (kX12_thread 10 rfl) rfl rfl (Nat.le_of_ble_eq_true rfl) rfl ?_
    refine X_iconst (n := 18) (v := 0) (kX12_thread 11 rfl) rfl (by decide) ?_
    refine X_istore_n (n := 19) (L1 := [(3, .int 0), (2, .int (-1)), (0, .ref a0), (1, .int i1)]) (kX12_thread 12 rfl) rfl rfl (Nat.le_of_ble_eq_true rfl) rfl ?_
    refine X_iconst (n := 20) (v := 0) (kX12_thread 13 rfl) rfl (by decide) ?_
    refine X_istore (n := 22) (L1 := [(4, .int 0), (3, .int 0), (2, .int (-1)), (0, .ref a0), (1, .int i1)]) (kX12_thread 14 rfl) rfl (Nat.le_of_ble_eq_true rfl) rfl ?_
    refine X_L [0, 1, 2, 3, 4] rfl (w_X12_thread_L22 hk0 (fun e12 S13 => ?_) 1000000 (-1 : Int32) (0 : Int32) (0 : Int32) (sI S a0 0 (0 : Int32)))
    try dsimp only
    refine X_iload_n (n := 107) 0 (kX12_thread 59 rfl) rfl rfl rfl ?_
    exact X_iret rfl (kX12_thread 60 rfl)
  · refine X_iconst (n := 14) (v := (-1)) (kX12_thread 7 rfl) rfl (by decide) ?_
    exact X_iret rfl (kX12_thread 8 rfl)
def f_X12_source_L22  (a0 : Nat) (i1 : Int32) : Nat → Int32 → Int32 → Int32 → XS → Option (Int32 × XS)
  | 0, _, _, _, _ => none
  | n + 1, i2, i3, i4, S => (if (S.1 (rf a0 14) 1) ≤ i4 then some (i2, S) else ((f_X12_airOf a0 i4 i1 S).bind (fun q => match q with | (r3, S4) => (if i3 < r3 then ((f_X12_airOf a0 i4 i1 S4).bind (fun q => match q with | (r6, S7) => f_X12_source_L22 a0 i1 n i4 r6 (i4 + 1) S7)) else f_X12_source_L22 a0 i1 n i2 i3 (i4 + 1) S4))))
def f_X12_source  (a0 : Nat) (i1 : Int32) (S : XS) : Option (Int32 × XS) := (if (t_X12_isScent a0 i1 (sI S a0 0 (0 : Int32))) = true then ((f_X12_source_L22 a0 i1 1000000 (-1 : Int32) (0 : Int32) (0 : Int32) (sI S a0 0 (0 : Int32))).bind (fun q => match q with | (e8, S9) => some (e8, S9))) else some ((-1 : Int32), (sI S a0 0 (0 : Int32))))
set_option maxHeartbeats 4000000 in
set_option maxRecDepth 100000 in
theorem w_X12_source_L22 {l : Launch} {g : XG} {G : (Int32 × XS) → Option (Int32 × XS)}  {a0 : Nat} {i1 : Int32} (hk0 : kd a0 = 12) (kE : ∀ (e2 : Int32) (S1 : XS), X φI l g 2 mX12_source 64 [(2, .int e2)] [] S1 (G (e2, S1))) : ∀ (n : Nat) (i2 : Int32) (i3 : Int32) (i4 : Int32) (S : XS), X φI l g 2 mX12_source 22 [(4, .int i4), (3, .int i3), (2, .int i2), (0, .ref a0), (1, .int i1)] [] S ((f_X12_source_L22 a0 i1 n i2 i3 i4 S).bind G) := by
  intro n
  induction n with
  | zero => intro i2 i3 i4 S; exact X_none
  | succ n ih =>
  · intro i2 i3 i4 S
    rw [f_X12_source_L22]
    refine X_iload (n := 24) 0 (kX12_source 15 rfl) rfl rfl ?_
    refine X_aload_n (n := 25) 3 (kX12_source 16 rfl) rfl rfl rfl ?_
    refine X_getR (n := 28) xf_X12 hk0 (by decide) fl_X12_13 rfl (kX12_source 17 rfl) rfl ?_
    refine X_iconst (n := 29) (v := 1) (kX12_source 18 rfl) rfl (by decide) ?_
    refine X_iald' (n := 30) (kt_12_14 hk0) (kX12_source 19 rfl) rfl (by rw [lt_12_14 hk0]; decide) ?_
    refine X_itebind ?_
    refine X_ic_ge (n := 33) (tgt := 64) (kX12_source 20 rfl) rfl rfl (fun h2 => ?_) (fun h2 => ?_)
    · exact X_L [2] rfl (kE i2 S)
    · refine X_aload_n (n := 34) 3 (kX12_source 21 rfl) rfl rfl rfl ?_
      refine X_iload (n := 36) 0 (kX12_source 22 rfl) rfl rfl ?_
      refine X_iload_n (n := 37) 4 (kX12_source 23 rfl) rfl rfl rfl ?_
      refine X_assoc ?_
      refine X_callVI (n := 40) (As := [.int i4, .int i1]) (st := []) (kX12_source 24 rfl) rfl (w_X12_airOf hk0) (by decide) ml_X12_259 mf_X12_airOf rfl hk0 xf_X12 rfl (Nat.le_of_ble_eq_true rfl) (fun r3 S4 hq => ?_)
      try dsimp only
      refine X_iload_n (n := 41) 1 (kX12_source 25 rfl) rfl rfl rfl ?_
      refine X_itebind ?_
      refine X_ic_gt (n := 44) (tgt := 47) (kX12_source 26 rfl) rfl rfl (fun h5 => ?_) (fun h5 => ?_)
      · refine X_iload (n := 49) 0 (kX12_source 28 rfl) rfl rfl ?_
        refine X_istore_n (n := 50) (L1 := [(2, .int i4), (4, .int i4), (3, .int i3), (0, .ref a0), (1, .int i1)]) (kX12_source 29 rfl) rfl rfl (Nat.le_of_ble_eq_true rfl) rfl ?_
        refine X_aload_n (n := 51) 3 (kX12_source 30 rfl) rfl rfl rfl ?_
        refine X_iload (n := 53) 1 (kX12_source 31 rfl) rfl rfl ?_
        refine X_iload_n (n := 54) 4 (kX12_source 32 rfl) rfl rfl rfl ?_
        refine X_assoc ?_
        refine X_callVI (n := 57) (As := [.int i4, .int i1]) (st := []) (kX12_source 33 rfl) rfl (w_X12_airOf hk0) (by decide) ml_X12_259 mf_X12_airOf rfl hk0 xf_X12 rfl (Nat.le_of_ble_eq_true rfl) (fun r6 S7 hq => ?_)
        try dsimp only
        refine X_istore_n (n := 58) (L1 := [(3, .int r6), (2, .int i4), (4, .int i4), (0, .ref a0), (1, .int i1)]) (kX12_source 34 rfl) rfl rfl (Nat.le_of_ble_eq_true rfl) rfl ?_
        refine X_iinc (n := 61) 2 (v := (i4 + 1)) (L1 := [(4, .int (i4 + 1)), (3, .int r6), (2, .int i4), (0, .ref a0), (1, .int i1)]) (kX12_source 35 rfl) rfl rfl rfl (Nat.le_of_ble_eq_true rfl) rfl ?_
        refine X_goto (tgt := 22) (kX12_source 36 rfl) rfl ?_
        exact X_L [0, 1, 2, 3, 4] rfl (ih i4 r6 (i4 + 1) S7)
      · refine X_goto (tgt := 58) (kX12_source 27 rfl) rfl ?_
        refine X_iinc (n := 61) 0 (v := (i4 + 1)) (L1 := [(4, .int (i4 + 1)), (3, .int i3), (2, .int i2), (0, .ref a0), (1, .int i1)]) (kX12_source 35 rfl) rfl rfl rfl (Nat.le_of_ble_eq_true rfl) rfl ?_
        refine X_goto (tgt := 22) (kX12_source 36 rfl) rfl ?_
        exact X_L [0, 1, 2, 3, 4] rfl (ih i2 i3 (i4 + 1) S4)
set_option maxHeartbeats 4000000 in
set_option maxRecDepth 100000 in
theorem w_X12_source {l : Launch} {g : XG}  {a0 : Nat} {i1 : Int32} {S : XS} (hk0 : kd a0 = 12) : Cl φI l g 2 mX12_source [.ref a0, .int i1] S (f_X12_source a0 i1 S) := by
  refine Cl.of (by decide +kernel) (Nat.le_of_ble_eq_true rfl) ?_
  unfold f_X12_source
  show X _ _ _ _ _ 0 [(0, .ref a0), (1, .int i1)] [] S _
  refine X_aload_n (n := 1) 0 (kX12_source 0 rfl) rfl rfl rfl ?_
  refine X_iconst (n := 2) (v := 0) (kX12_source 1 rfl) rfl (by decide) ?_
  refine X_putI (n := 5) xf_X12 hk0 (by decide) fl_X12_100 rfl rfl (Or.inl rfl) (kX12_source 2 rfl) rfl ?_
  refine X_aload_n (n := 6) 0 (kX12_source 3 rfl) rfl rfl rfl ?_
  refine X_iload_n (n := 7) 1 (kX12_source 4 rfl) rfl rfl rfl ?_
  refine X_callV1B (n := 10) (As := [.int i1]) (st := []) (kX12_source 5 rfl) rfl (p_X12_isScent hk0) (by decide) ml_X12_253 mf_X12_isScent rfl hk0 xf_X12 rfl (Nat.le_of_ble_eq_true rfl) ?_
  refine X_bn (n := 13) (tgt := 15) (kX12_source 6 rfl) rfl rfl (fun h1 => ?_) (fun h1 => ?_)
  · refine X_iconst (n := 16) (v := (-1)) (kX12_source 9 rfl) rfl (by decide) ?_
    refine X_istore_n (n := 17) (L1 := [(2, .int (-1)), (0, .ref a0), (1, .int i1)]) (kX12_source 10 rfl) rfl rfl (Nat.le_of_ble_eq_true rfl) rfl ?_
    refine X_iconst (n := 18) (v := 0) (kX12_source 11 rfl) rfl (by decide) ?_
    refine X_istore_n (n := 19) (L1 := [(3, .int 0), (2, .int (-1)), (0, .ref a0), (1, .int i1)]) (kX12_source 12 rfl) rfl rfl (Nat.le_of_ble_eq_true rfl) rfl ?_
    refine X_iconst (n := 20) (v := 0) (kX12_source 13 rfl) rfl (by decide) ?_
    refine X_istore (n := 22) (L1 := [(4, .int 0), (3, .int 0), (2, .int (-1)), (0, .ref a0), (1, .int i1)]) (kX12_source 14 rfl) rfl (Nat.le_of_ble_eq_true rfl) rfl ?_
    refine X_L [0, 1, 2, 3, 4] rfl (w_X12_source_L22 hk0 (fun e8 S9 => ?_) 1000000 (-1 : Int32) (0 : Int32) (0 : Int32) (sI S a0 0 (0 : Int32)))
    try dsimp only
    refine X_iload_n (n := 65) 0 (kX12_source 37 rfl) rfl rfl rfl ?_
    exact X_iret rfl (kX12_source 38 rfl)
  · refine X_iconst (n := 14) (v := (-1)) (kX12_source 7 rfl) rfl (by decide) ?_
    exact X_iret rfl (kX12_source 8 rfl)
def f_X12_strangers_L38  (i1 : Int32) (i3 : Int32) (a0 : Nat) : Nat → Int32 → Int32 → XS → Option (Int32)
  | 0, _, _, _ => none
  | n + 1, i2, i4, S => (if (t_X12_has i2 i4) = true then some i2 else (if ((151 : Int32) + i4) < 0 ∨ ln (rf a0 14) ≤ ((151 : Int32) + i4).toNatClampNeg then none else f_X12_strangers_L38 i1 i3 a0 n (i2 ||| (shl32 (1 : Int32) i4)) (S.1 (rf a0 14) ((151 : Int32) + i4).toNatClampNeg) S))
def f_X12_strangers_L11  (a0 : Nat) : Nat → Int32 → Int32 → Int32 → XS → Option (Int32)
  | 0, _, _, _, _ => none
  | n + 1, i1, i2, i3, S => (if (S.1 (rf a0 14) 3) ≤ i3 then some i1 else (if (t_X12_has i2 i3) = true then f_X12_strangers_L11 a0 n i1 i2 (i3 + 1) S else ((f_X12_strangers_L38 (i1 + 1) i3 a0 1000000 i2 i3 S).bind (fun e5 => f_X12_strangers_L11 a0 n (i1 + 1) e5 (i3 + 1) S))))
def f_X12_strangers  (a0 : Nat) (S : XS) : Option (Int32 × XS) := ((f_X12_strangers_L11 a0 1000000 (0 : Int32) (0 : Int32) (0 : Int32) (sI S a0 0 (0 : Int32))).bind (fun e6 => some ((((sI S a0 0 (0 : Int32)).1 (rf a0 14) 3) - e6), (sI S a0 0 (0 : Int32)))))
set_option maxHeartbeats 4000000 in
set_option maxRecDepth 100000 in
theorem w_X12_strangers_L38 {l : Launch} {g : XG} {G : (Int32) → Option (Int32 × XS)}  {i1 : Int32} {i3 : Int32} {a0 : Nat} (hk0 : kd a0 = 12) {S : XS} (kE : ∀ (e2 : Int32), X φI l g 2 mX12_strangers 70 [(1, .int i1), (3, .int i3), (2, .int e2), (0, .ref a0)] [] S (G e2)) : ∀ (n : Nat) (i2 : Int32) (i4 : Int32), X φI l g 2 mX12_strangers 38 [(4, .int i4), (1, .int i1), (3, .int i3), (2, .int i2), (0, .ref a0)] [] S ((f_X12_strangers_L38 i1 i3 a0 n i2 i4 S).bind G) := by
  intro n
  induction n with
  | zero => intro i2 i4; exact X_none
  | succ n ih =>
  · intro i2 i4
    rw [f_X12_strangers_L38]
    refine X_iload_n (n := 39) 3 (kX12_strangers 23 rfl) rfl rfl rfl ?_
    refine X_iload (n := 41) 0 (kX12_strangers 24 rfl) rfl rfl ?_
    refine X_callS1B (n := 44) (As := [.int i2, .int i4]) (st := []) (kX12_strangers 25 rfl) rfl p_X12_has (by decide) ml_X12_208 mf_X12_has rfl rfl (Nat.le_of_ble_eq_true rfl) ?_
    refine X_itebind ?_
    refine X_bn (n := 47) (tgt := 70) (kX12_strangers 26 rfl) rfl rfl (fun h3 => ?_) (fun h3 => ?_)
    · exact X_L [1, 2, 3, 4] rfl (kE i2)
    · refine X_iload_n (n := 48) 3 (kX12_strangers 27 rfl) rfl rfl rfl ?_
      refine X_iconst (n := 49) (v := 1) (kX12_strangers 28 rfl) rfl (by decide) ?_
      refine X_iload (n := 51) 0 (kX12_strangers 29 rfl) rfl rfl ?_
      refine X_ishl (n := 52) (kX12_strangers 30 rfl) rfl ?_
      refine X_ior (n := 53) (kX12_strangers 31 rfl) rfl ?_
      refine X_istore_n (n := 54) (L1 := [(2, .int (i2 ||| (shl32 (1 : Int32) i4))), (4, .int i4), (1, .int i1), (3, .int i3), (0, .ref a0)]) (kX12_strangers 32 rfl) rfl rfl (Nat.le_of_ble_eq_true rfl) rfl ?_
      refine X_aload_n (n := 55) 4 (kX12_strangers 33 rfl) rfl rfl rfl ?_
      refine X_getR (n := 58) xf_X12 hk0 (by decide) fl_X12_13 rfl (kX12_strangers 34 rfl) rfl ?_
      refine X_sipush (n := 61) (v := 151) (kX12_strangers 35 rfl) rfl (by decide) ?_
      refine X_iload (n := 63) 1 (kX12_strangers 36 rfl) rfl rfl ?_
      refine X_iadd (n := 64) (kX12_strangers 37 rfl) rfl ?_
      refine X_itebind ?_
      refine X_iald (n := 65) (kt_12_14 hk0) (kX12_strangers 38 rfl) rfl (fun h4 => ?_)
      refine X_istore (n := 67) (L1 := [(4, .int (S.1 (rf a0 14) ((151 : Int32) + i4).toNatClampNeg)), (2, .int (i2 ||| (shl32 (1 : Int32) i4))), (1, .int i1), (3, .int i3), (0, .ref a0)]) (kX12_strangers 39 rfl) rfl (Nat.le_of_ble_eq_true rfl) rfl ?_
      refine X_goto (tgt := 38) (kX12_strangers 40 rfl) rfl ?_
      exact X_L [0, 2, 3, 1, 4] rfl (ih (i2 ||| (shl32 (1 : Int32) i4)) (S.1 (rf a0 14) ((151 : Int32) + i4).toNatClampNeg))
set_option maxHeartbeats 4000000 in
set_option maxRecDepth 100000 in
theorem w_X12_strangers_L11 {l : Launch} {g : XG} {G : (Int32) → Option (Int32 × XS)}  {a0 : Nat} (hk0 : kd a0 = 12) {S : XS} (kE : ∀ (e1 : Int32), X φI l g 2 mX12_strangers 76 [(1, .int e1), (0, .ref a0)] [] S (G e1)) : ∀ (n : Nat) (i1 : Int32) (i2 : Int32) (i3 : Int32), X φI l g 2 mX12_strangers 11 [(3, .int i3), (2, .int i2), (1, .int i1), (0, .ref a0)] [] S ((f_X12_strangers_L11 a0 n i1 i2 i3 S).bind G) := by
  intro n
  induction n with
  | zero => intro i1 i2 i3; exact X_none
  | succ n ih =>
  · intro i1 i2 i3
    rw [f_X12_strangers_L11]
    refine X_iload_n (n := 12) 0 (kX12_strangers 9 rfl) rfl rfl rfl ?_
    refine X_aload_n (n := 13) 3 (kX12_strangers 10 rfl) rfl rfl rfl ?_
    refine X_getR (n := 16) xf_X12 hk0 (by decide) fl_X12_13 rfl (kX12_strangers 11 rfl) rfl ?_
    refine X_iconst (n := 17) (v := 3) (kX12_strangers 12 rfl) rfl (by decide) ?_
    refine X_iald' (n := 18) (kt_12_14 hk0) (kX12_strangers 13 rfl) rfl (by rw [lt_12_14 hk0]; decide) ?_
    refine X_itebind ?_
    refine X_ic_ge (n := 21) (tgt := 76) (kX12_strangers 14 rfl) rfl rfl (fun h1 => ?_) (fun h1 => ?_)
    · exact X_L [2, 3] rfl (kE i1)
    · refine X_iload_n (n := 22) 1 (kX12_strangers 15 rfl) rfl rfl rfl ?_
      refine X_iload_n (n := 23) 0 (kX12_strangers 16 rfl) rfl rfl rfl ?_
      refine X_callS1B (n := 26) (As := [.int i2, .int i3]) (st := []) (kX12_strangers 17 rfl) rfl p_X12_has (by decide) ml_X12_208 mf_X12_has rfl rfl (Nat.le_of_ble_eq_true rfl) ?_
      refine X_itebind ?_
      refine X_bz (n := 29) (tgt := 32) (kX12_strangers 18 rfl) rfl rfl (fun h2 => ?_) (fun h2 => ?_)
      · refine X_goto (tgt := 70) (kX12_strangers 19 rfl) rfl ?_
        refine X_iinc (n := 73) 0 (v := (i3 + 1)) (L1 := [(3, .int (i3 + 1)), (2, .int i2), (1, .int i1), (0, .ref a0)]) (kX12_strangers 41 rfl) rfl rfl rfl (Nat.le_of_ble_eq_true rfl) rfl ?_
        refine X_goto (tgt := 11) (kX12_strangers 42 rfl) rfl ?_
        exact X_L [0, 1, 2, 3] rfl (ih i1 i2 (i3 + 1))
      · refine X_iinc (n := 35) 2 (v := (i1 + 1)) (L1 := [(1, .int (i1 + 1)), (3, .int i3), (2, .int i2), (0, .ref a0)]) (kX12_strangers 20 rfl) rfl rfl rfl (Nat.le_of_ble_eq_true rfl) rfl ?_
        refine X_iload_n (n := 36) 1 (kX12_strangers 21 rfl) rfl rfl rfl ?_
        refine X_istore (n := 38) (L1 := [(4, .int i3), (1, .int (i1 + 1)), (3, .int i3), (2, .int i2), (0, .ref a0)]) (kX12_strangers 22 rfl) rfl (Nat.le_of_ble_eq_true rfl) rfl ?_
        refine X_assoc ?_
        refine X_L [0, 1, 2, 3, 4] rfl (w_X12_strangers_L38 hk0 (fun e5 => ?_) 1000000 i2 i3)
        try dsimp only
        refine X_iinc (n := 73) 1 (v := (i3 + 1)) (L1 := [(3, .int (i3 + 1)), (1, .int (i1 + 1)), (2, .int e5), (0, .ref a0)]) (kX12_strangers 41 rfl) rfl rfl rfl (Nat.le_of_ble_eq_true rfl) rfl ?_
        refine X_goto (tgt := 11) (kX12_strangers 42 rfl) rfl ?_
        exact X_L [0, 2, 1, 3] rfl (ih (i1 + 1) e5 (i3 + 1))
set_option maxHeartbeats 4000000 in
set_option maxRecDepth 100000 in
theorem w_X12_strangers {l : Launch} {g : XG}  {a0 : Nat} {S : XS} (hk0 : kd a0 = 12) : Cl φI l g 2 mX12_strangers [.ref a0] S (f_X12_strangers a0 S) := by
  refine Cl.of (by decide +kernel) (Nat.le_of_ble_eq_true rfl) ?_
  unfold f_X12_strangers
  show X _ _ _ _ _ 0 [(0, .ref a0)] [] S _
  refine X_aload_n (n := 1) 0 (kX12_strangers 0 rfl) rfl rfl rfl ?_
  refine X_iconst (n := 2) (v := 0) (kX12_strangers 1 rfl) rfl (by decide) ?_
  refine X_putI (n := 5) xf_X12 hk0 (by decide) fl_X12_100 rfl rfl (Or.inl rfl) (kX12_strangers 2 rfl) rfl ?_
  refine X_iconst (n := 6) (v := 0) (kX12_strangers 3 rfl) rfl (by decide) ?_
  refine X_istore_n (n := 7) (L1 := [(1, .int 0), (0, .ref a0)]) (kX12_strangers 4 rfl) rfl rfl (Nat.le_of_ble_eq_true rfl) rfl ?_
  refine X_iconst (n := 8) (v := 0) (kX12_strangers 5 rfl) rfl (by decide) ?_
  refine X_istore_n (n := 9) (L1 := [(2, .int 0), (1, .int 0), (0, .ref a0)]) (kX12_strangers 6 rfl) rfl rfl (Nat.le_of_ble_eq_true rfl) rfl ?_
  refine X_iconst (n := 10) (v := 0) (kX12_strangers 7 rfl) rfl (by decide) ?_
  refine X_istore_n (n := 11) (L1 := [(3, .int 0), (2, .int 0), (1, .int 0), (0, .ref a0)]) (kX12_strangers 8 rfl) rfl rfl (Nat.le_of_ble_eq_true rfl) rfl ?_
  refine X_L [0, 1, 2, 3] rfl (w_X12_strangers_L11 hk0 (fun e6 => ?_) 1000000 (0 : Int32) (0 : Int32) (0 : Int32))
  try dsimp only
  refine X_aload_n (n := 77) 1 (kX12_strangers 43 rfl) rfl rfl rfl ?_
  refine X_getR (n := 80) xf_X12 hk0 (by decide) fl_X12_13 rfl (kX12_strangers 44 rfl) rfl ?_
  refine X_iconst (n := 81) (v := 3) (kX12_strangers 45 rfl) rfl (by decide) ?_
  refine X_iald' (n := 82) (kt_12_14 hk0) (kX12_strangers 46 rfl) rfl (by rw [lt_12_14 hk0]; decide) ?_
  refine X_iload_n (n := 83) 0 (kX12_strangers 47 rfl) rfl rfl rfl ?_
  refine X_isub (n := 84) (kX12_strangers 48 rfl) rfl ?_
  exact X_iret rfl (kX12_strangers 49 rfl)
def f_X12_clean_L19  (a0 : Nat) (i1 : Int32) : Nat → Int32 → Int32 → XS → Option ((Int32 × XS) ⊕ (Int32 × XS))
  | 0, _, _, _ => none
  | n + 1, i2, i3, S => (if (S.1 (rf a0 14) 0) ≤ i3 then some (.inr (i2, S)) else ((f_X12_onCloth a0 i1 i3 S).bind (fun q => match q with | (r3, S4) => (if r3 = 0 then f_X12_clean_L19 a0 i1 n i2 (i3 + 1) S4 else (if ((6 : Int32) + i3) < 0 ∨ ln (rf a0 14) ≤ ((6 : Int32) + i3).toNatClampNeg then none else (if (S4.1 (rf a0 14) ((6 : Int32) + i3).toNatClampNeg) = 0 then some (.inl ((-1 : Int32), S4)) else (if ((6 : Int32) + i3) < 0 ∨ ln (rf a0 14) ≤ ((6 : Int32) + i3).toNatClampNeg then none else (if ((6 : Int32) + i3) < 0 ∨ ln (rf a0 14) ≤ ((6 : Int32) + i3).toNatClampNeg then none else (if (S4.1 (rf a0 14) ((6 : Int32) + i3).toNatClampNeg) = 0 then none else ((f_X12_ofCloth a0 i1 (3 : Int32) S4).bind (fun q => match q with | (r7, S8) => (if r7 = 0 then none else (if ((r7 - (rem32 (S8.1 (rf a0 14) 144) r7)) + (r7 * ((((r3 + (S4.1 (rf a0 14) ((6 : Int32) + i3).toNatClampNeg)) - (1 : Int32)) / (S4.1 (rf a0 14) ((6 : Int32) + i3).toNatClampNeg)) - (1 : Int32)))) ≤ i2 then f_X12_clean_L19 a0 i1 n i2 (i3 + 1) S8 else f_X12_clean_L19 a0 i1 n ((r7 - (rem32 (S8.1 (rf a0 14) 144) r7)) + (r7 * ((((r3 + (S4.1 (rf a0 14) ((6 : Int32) + i3).toNatClampNeg)) - (1 : Int32)) / (S4.1 (rf a0 14) ((6 : Int32) + i3).toNatClampNeg)) - (1 : Int32)))) (i3 + 1) S8)))))))))))))
def f_X12_clean  (a0 : Nat) (i1 : Int32) (S : XS) : Option (Int32 × XS) := (if (t_X12_isCloth a0 i1 (sI S a0 0 (0 : Int32))) = true then ((f_X12_clean_L19 a0 i1 1000000 (0 : Int32) (0 : Int32) (sI S a0 0 (0 : Int32))).bind (fun q => match q with | .inl r => some r | .inr (e15, S16) => some (e15, S16))) else some ((-1 : Int32), (sI S a0 0 (0 : Int32))))
set_option maxHeartbeats 4000000 in
set_option maxRecDepth 100000 in
theorem w_X12_clean_L19 {l : Launch} {g : XG} {G : ((Int32 × XS) ⊕ (Int32 × XS)) → Option (Int32 × XS)}  {a0 : Nat} {i1 : Int32} (hk0 : kd a0 = 12) (kE : ∀ (e2 : Int32) (S1 : XS), X φI l g 2 mX12_clean 132 [(2, .int e2)] [] S1 (G (.inr (e2, S1)))) (kR : ∀ r, G (.inl r) = some r) : ∀ (n : Nat) (i2 : Int32) (i3 : Int32) (S : XS), X φI l g 2 mX12_clean 19 [(3, .int i3), (2, .int i2), (0, .ref a0), (1, .int i1)] [] S ((f_X12_clean_L19 a0 i1 n i2 i3 S).bind G) := by
  intro n
  induction n with
  | zero => intro i2 i3 S; exact X_none
  | succ n ih =>
  · intro i2 i3 S
    rw [f_X12_clean_L19]
    refine X_iload_n (n := 20) 0 (kX12_clean 13 rfl) rfl rfl rfl ?_
    refine X_aload_n (n := 21) 2 (kX12_clean 14 rfl) rfl rfl rfl ?_
    refine X_getR (n := 24) xf_X12 hk0 (by decide) fl_X12_13 rfl (kX12_clean 15 rfl) rfl ?_
    refine X_iconst (n := 25) (v := 0) (kX12_clean 16 rfl) rfl (by decide) ?_
    refine X_iald' (n := 26) (kt_12_14 hk0) (kX12_clean 17 rfl) rfl (by rw [lt_12_14 hk0]; decide) ?_
    refine X_itebind ?_
    refine X_ic_ge (n := 29) (tgt := 132) (kX12_clean 18 rfl) rfl rfl (fun h2 => ?_) (fun h2 => ?_)
    · exact X_L [1] rfl (kE i2 S)
    · refine X_aload_n (n := 30) 2 (kX12_clean 19 rfl) rfl rfl rfl ?_
      refine X_iload_n (n := 31) 3 (kX12_clean 20 rfl) rfl rfl rfl ?_
      refine X_iload_n (n := 32) 0 (kX12_clean 21 rfl) rfl rfl rfl ?_
      refine X_assoc ?_
      refine X_callVI (n := 35) (As := [.int i1, .int i3]) (st := []) (kX12_clean 22 rfl) rfl (w_X12_onCloth hk0) (by decide) ml_X12_281 mf_X12_onCloth rfl hk0 xf_X12 rfl (Nat.le_of_ble_eq_true rfl) (fun r3 S4 hq => ?_)
      try dsimp only
      refine X_istore (n := 37) (L1 := [(4, .int r3), (3, .int i3), (2, .int i2), (0, .ref a0), (1, .int i1)]) (kX12_clean 23 rfl) rfl (Nat.le_of_ble_eq_true rfl) rfl ?_
      refine X_iload (n := 39) 0 (kX12_clean 24 rfl) rfl rfl ?_
      refine X_itebind ?_
      refine X_if_ne (n := 42) (tgt := 45) (kX12_clean 25 rfl) rfl rfl (fun h5 => ?_) (fun h5 => ?_)
      · refine X_goto (tgt := 126) (kX12_clean 26 rfl) rfl ?_
        refine X_iinc (n := 129) 1 (v := (i3 + 1)) (L1 := [(3, .int (i3 + 1)), (4, .int r3), (2, .int i2), (0, .ref a0), (1, .int i1)]) (kX12_clean 79 rfl) rfl rfl rfl (Nat.le_of_ble_eq_true rfl) rfl ?_
        refine X_goto (tgt := 19) (kX12_clean 80 rfl) rfl ?_
        exact X_L [0, 2, 3, 4] rfl (ih i2 (i3 + 1) S4)
      · refine X_aload_n (n := 46) 3 (kX12_clean 27 rfl) rfl rfl rfl ?_
        refine X_getR (n := 49) xf_X12 hk0 (by decide) fl_X12_13 rfl (kX12_clean 28 rfl) rfl ?_
        refine X_bipush (n := 51) (v := 6) (kX12_clean 29 rfl) rfl (by decide) ?_
        refine X_iload_n (n := 52) 1 (kX12_clean 30 rfl) rfl rfl rfl ?_
        refine X_iadd (n := 53) (kX12_clean 31 rfl) rfl ?_
        refine X_itebind ?_
        refine X_iald (n := 54) (kt_12_14 hk0) (kX12_clean 32 rfl) rfl (fun h14 => ?_)
        refine X_itebind ?_
        refine X_if_ne (n := 57) (tgt := 59) (kX12_clean 33 rfl) rfl rfl (fun h6 => ?_) (fun h6 => ?_)
        · refine X_iconst (n := 58) (v := (-1)) (kX12_clean 34 rfl) rfl (by decide) ?_
          exact X_req (kR _) (X_iret rfl (kX12_clean 35 rfl))
        · refine X_iload (n := 61) 0 (kX12_clean 36 rfl) rfl rfl ?_
          refine X_aload_n (n := 62) 3 (kX12_clean 37 rfl) rfl rfl rfl ?_
          refine X_getR (n := 65) xf_X12 hk0 (by decide) fl_X12_13 rfl (kX12_clean 38 rfl) rfl ?_
          refine X_bipush (n := 67) (v := 6) (kX12_clean 39 rfl) rfl (by decide) ?_
          refine X_iload_n (n := 68) 1 (kX12_clean 40 rfl) rfl rfl rfl ?_
          refine X_iadd (n := 69) (kX12_clean 41 rfl) rfl ?_
          refine X_itebind ?_
          refine X_iald (n := 70) (kt_12_14 hk0) (kX12_clean 42 rfl) rfl (fun h13 => ?_)
          refine X_iadd (n := 71) (kX12_clean 43 rfl) rfl ?_
          refine X_iconst (n := 72) (v := 1) (kX12_clean 44 rfl) rfl (by decide) ?_
          refine X_isub (n := 73) (kX12_clean 45 rfl) rfl ?_
          refine X_aload_n (n := 74) 3 (kX12_clean 46 rfl) rfl rfl rfl ?_
          refine X_getR (n := 77) xf_X12 hk0 (by decide) fl_X12_13 rfl (kX12_clean 47 rfl) rfl ?_
          refine X_bipush (n := 79) (v := 6) (kX12_clean 48 rfl) rfl (by decide) ?_
          refine X_iload_n (n := 80) 1 (kX12_clean 49 rfl) rfl rfl rfl ?_
          refine X_iadd (n := 81) (kX12_clean 50 rfl) rfl ?_
          refine X_itebind ?_
          refine X_iald (n := 82) (kt_12_14 hk0) (kX12_clean 51 rfl) rfl (fun h12 => ?_)
          refine X_itebind ?_
          refine X_idiv (n := 83) (kX12_clean 52 rfl) rfl (fun h11 => ?_)
          refine X_istore (n := 85) (L1 := [(5, .int (((r3 + (S4.1 (rf a0 14) ((6 : Int32) + i3).toNatClampNeg)) - (1 : Int32)) / (S4.1 (rf a0 14) ((6 : Int32) + i3).toNatClampNeg))), (4, .int r3), (3, .int i3), (2, .int i2), (0, .ref a0), (1, .int i1)]) (kX12_clean 53 rfl) rfl (Nat.le_of_ble_eq_true rfl) rfl ?_
          refine X_aload_n (n := 86) 4 (kX12_clean 54 rfl) rfl rfl rfl ?_
          refine X_iload_n (n := 87) 5 (kX12_clean 55 rfl) rfl rfl rfl ?_
          refine X_iconst (n := 88) (v := 3) (kX12_clean 56 rfl) rfl (by decide) ?_
          refine X_assoc ?_
          refine X_callVI (n := 91) (As := [.int i1, .int (3 : Int32)]) (st := []) (kX12_clean 57 rfl) rfl (w_X12_ofCloth hk0) (by decide) ml_X12_284 mf_X12_ofCloth rfl hk0 xf_X12 rfl (Nat.le_of_ble_eq_true rfl) (fun r7 S8 hq => ?_)
          try dsimp only
          refine X_istore (n := 93) (L1 := [(6, .int r7), (5, .int (((r3 + (S4.1 (rf a0 14) ((6 : Int32) + i3).toNatClampNeg)) - (1 : Int32)) / (S4.1 (rf a0 14) ((6 : Int32) + i3).toNatClampNeg))), (4, .int r3), (3, .int i3), (2, .int i2), (0, .ref a0), (1, .int i1)]) (kX12_clean 58 rfl) rfl (Nat.le_of_ble_eq_true rfl) rfl ?_
          refine X_iload (n := 95) 0 (kX12_clean 59 rfl) rfl rfl ?_
          refine X_aload_n (n := 96) 5 (kX12_clean 60 rfl) rfl rfl rfl ?_
          refine X_getR (n := 99) xf_X12 hk0 (by decide) fl_X12_13 rfl (kX12_clean 61 rfl) rfl ?_
          refine X_sipush (n := 102) (v := 144) (kX12_clean 62 rfl) rfl (by decide) ?_
          refine X_iald' (n := 103) (kt_12_14 hk0) (kX12_clean 63 rfl) rfl (by rw [lt_12_14 hk0]; decide) ?_
          refine X_iload (n := 105) 0 (kX12_clean 64 rfl) rfl rfl ?_
          refine X_itebind ?_
          refine X_irem (n := 106) (kX12_clean 65 rfl) rfl (fun h10 => ?_)
          refine X_isub (n := 107) (kX12_clean 66 rfl) rfl ?_
          refine X_iload (n := 109) 0 (kX12_clean 67 rfl) rfl rfl ?_
          refine X_iload (n := 111) 1 (kX12_clean 68 rfl) rfl rfl ?_
          refine X_iconst (n := 112) (v := 1) (kX12_clean 69 rfl) rfl (by decide) ?_
          refine X_isub (n := 113) (kX12_clean 70 rfl) rfl ?_
          refine X_imul (n := 114) (kX12_clean 71 rfl) rfl ?_
          refine X_iadd (n := 115) (kX12_clean 72 rfl) rfl ?_
          refine X_istore (n := 117) (L1 := [(7, .int ((r7 - (rem32 (S8.1 (rf a0 14) 144) r7)) + (r7 * ((((r3 + (S4.1 (rf a0 14) ((6 : Int32) + i3).toNatClampNeg)) - (1 : Int32)) / (S4.1 (rf a0 14) ((6 : Int32) + i3).toNatClampNeg)) - (1 : Int32))))), (6, .int r7), (5, .int (((r3 + (S4.1 (rf a0 14) ((6 : Int32) + i3).toNatClampNeg)) - (1 : Int32)) / (S4.1 (rf a0 14) ((6 : Int32) + i3).toNatClampNeg))), (4, .int r3), (3, .int i3), (2, .int i2), (0, .ref a0), (1, .int i1)]) (kX12_clean 73 rfl) rfl (Nat.le_of_ble_eq_true rfl) rfl ?_
          refine X_iload (n := 119) 0 (kX12_clean 74 rfl) rfl rfl ?_
          refine X_iload_n (n := 120) 5 (kX12_clean 75 rfl) rfl rfl rfl ?_
          refine X_itebind ?_
          refine X_ic_le (n := 123) (tgt := 126) (kX12_clean 76 rfl) rfl rfl (fun h9 => ?_) (fun h9 => ?_)
          · refine X_iinc (n := 129) 4 (v := (i3 + 1)) (L1 := [(3, .int (i3 + 1)), (7, .int ((r7 - (rem32 (S8.1 (rf a0 14) 144) r7)) + (r7 * ((((r3 + (S4.1 (rf a0 14) ((6 : Int32) + i3).toNatClampNeg)) - (1 : Int32)) / (S4.1 (rf a0 14) ((6 : Int32) + i3).toNatClampNeg)) - (1 : Int32))))), (6, .int r7), (5, .int (((r3 + (S4.1 (rf a0 14) ((6 : Int32) + i3).toNatClampNeg)) - (1 : Int32)) / (S4.1 (rf a0 14) ((6 : Int32) + i3).toNatClampNeg))), (4, .int r3), (2, .int i2), (0, .ref a0), (1, .int i1)]) (kX12_clean 79 rfl) rfl rfl rfl (Nat.le_of_ble_eq_true rfl) rfl ?_
            refine X_goto (tgt := 19) (kX12_clean 80 rfl) rfl ?_
            exact X_L [0, 5, 6, 7] rfl (ih i2 (i3 + 1) S8)
          · refine X_iload (n := 125) 0 (kX12_clean 77 rfl) rfl rfl ?_
            refine X_istore_n (n := 126) (L1 := [(2, .int ((r7 - (rem32 (S8.1 (rf a0 14) 144) r7)) + (r7 * ((((r3 + (S4.1 (rf a0 14) ((6 : Int32) + i3).toNatClampNeg)) - (1 : Int32)) / (S4.1 (rf a0 14) ((6 : Int32) + i3).toNatClampNeg)) - (1 : Int32))))), (7, .int ((r7 - (rem32 (S8.1 (rf a0 14) 144) r7)) + (r7 * ((((r3 + (S4.1 (rf a0 14) ((6 : Int32) + i3).toNatClampNeg)) - (1 : Int32)) / (S4.1 (rf a0 14) ((6 : Int32) + i3).toNatClampNeg)) - (1 : Int32))))), (6, .int r7), (5, .int (((r3 + (S4.1 (rf a0 14) ((6 : Int32) + i3).toNatClampNeg)) - (1 : Int32)) / (S4.1 (rf a0 14) ((6 : Int32) + i3).toNatClampNeg))), (4, .int r3), (3, .int i3), (0, .ref a0), (1, .int i1)]) (kX12_clean 78 rfl) rfl rfl (Nat.le_of_ble_eq_true rfl) rfl ?_
            refine X_iinc (n := 129) 5 (v := (i3 + 1)) (L1 := [(3, .int (i3 + 1)), (2, .int ((r7 - (rem32 (S8.1 (rf a0 14) 144) r7)) + (r7 * ((((r3 + (S4.1 (rf a0 14) ((6 : Int32) + i3).toNatClampNeg)) - (1 : Int32)) / (S4.1 (rf a0 14) ((6 : Int32) + i3).toNatClampNeg)) - (1 : Int32))))), (7, .int ((r7 - (rem32 (S8.1 (rf a0 14) 144) r7)) + (r7 * ((((r3 + (S4.1 (rf a0 14) ((6 : Int32) + i3).toNatClampNeg)) - (1 : Int32)) / (S4.1 (rf a0 14) ((6 : Int32) + i3).toNatClampNeg)) - (1 : Int32))))), (6, .int r7), (5, .int (((r3 + (S4.1 (rf a0 14) ((6 : Int32) + i3).toNatClampNeg)) - (1 : Int32)) / (S4.1 (rf a0 14) ((6 : Int32) + i3).toNatClampNeg))), (4, .int r3), (0, .ref a0), (1, .int i1)]) (kX12_clean 79 rfl) rfl rfl rfl (Nat.le_of_ble_eq_true rfl) rfl ?_
            refine X_goto (tgt := 19) (kX12_clean 80 rfl) rfl ?_
            exact X_L [0, 1, 6, 7] rfl (ih ((r7 - (rem32 (S8.1 (rf a0 14) 144) r7)) + (r7 * ((((r3 + (S4.1 (rf a0 14) ((6 : Int32) + i3).toNatClampNeg)) - (1 : Int32)) / (S4.1 (rf a0 14) ((6 : Int32) + i3).toNatClampNeg)) - (1 : Int32)))) (i3 + 1) S8)
set_option maxHeartbeats 4000000 in
set_option maxRecDepth 100000 in
theorem w_X12_clean {l : Launch} {g : XG}  {a0 : Nat} {i1 : Int32} {S : XS} (hk0 : kd a0 = 12) : Cl φI l g 2 mX12_clean [.ref a0, .int i1] S (f_X12_clean a0 i1 S) := by
  refine Cl.of (by decide +kernel) (Nat.le_of_ble_eq_true rfl) ?_
  unfold f_X12_clean
  show X _ _ _ _ _ 0 [(0, .ref a0), (1, .int i1)] [] S _
  refine X_aload_n (n := 1) 0 (kX12_clean 0 rfl) rfl rfl rfl ?_
  refine X_iconst (n := 2) (v := 0) (kX12_clean 1 rfl) rfl (by decide) ?_
  refine X_putI (n := 5) xf_X12 hk0 (by decide) fl_X12_100 rfl rfl (Or.inl rfl) (kX12_clean 2 rfl) rfl ?_
  refine X_aload_n (n := 6) 0 (kX12_clean 3 rfl) rfl rfl rfl ?_
  refine X_iload_n (n := 7) 1 (kX12_clean 4 rfl) rfl rfl rfl ?_
  refine X_callV1B (n := 10) (As := [.int i1]) (st := []) (kX12_clean 5 rfl) rfl (p_X12_isCloth hk0) (by decide) ml_X12_278 mf_X12_isCloth rfl hk0 xf_X12 rfl (Nat.le_of_ble_eq_true rfl) ?_
  refine X_bn (n := 13) (tgt := 15) (kX12_clean 6 rfl) rfl rfl (fun h1 => ?_) (fun h1 => ?_)
  · refine X_iconst (n := 16) (v := 0) (kX12_clean 9 rfl) rfl (by decide) ?_
    refine X_istore_n (n := 17) (L1 := [(2, .int 0), (0, .ref a0), (1, .int i1)]) (kX12_clean 10 rfl) rfl rfl (Nat.le_of_ble_eq_true rfl) rfl ?_
    refine X_iconst (n := 18) (v := 0) (kX12_clean 11 rfl) rfl (by decide) ?_
    refine X_istore_n (n := 19) (L1 := [(3, .int 0), (2, .int 0), (0, .ref a0), (1, .int i1)]) (kX12_clean 12 rfl) rfl rfl (Nat.le_of_ble_eq_true rfl) rfl ?_
    refine X_L [0, 1, 2, 3] rfl (w_X12_clean_L19 hk0 (fun e15 S16 => ?_) ?_ 1000000 (0 : Int32) (0 : Int32) (sI S a0 0 (0 : Int32)))
    · refine X_iload_n (n := 133) 0 (kX12_clean 81 rfl) rfl rfl rfl ?_
      exact X_iret rfl (kX12_clean 82 rfl)
    · intro r
      rfl
  · refine X_iconst (n := 14) (v := (-1)) (kX12_clean 7 rfl) rfl (by decide) ?_
    exact X_iret rfl (kX12_clean 8 rfl)
def f_X12_weather  (a0 : Nat) (i1 : Int32) (S : XS) : Option (Int32 × XS) := (if (t_X12_isIn i1 (0 : Int32) (2 : Int32)) = true then (if i1 < 0 ∨ ln (rf a0 51) ≤ i1.toNatClampNeg then none else some (((sI S a0 0 (0 : Int32)).1 (rf a0 51) i1.toNatClampNeg), (sI S a0 0 (0 : Int32)))) else some ((-1 : Int32), (sI S a0 0 (0 : Int32))))
set_option maxHeartbeats 4000000 in
set_option maxRecDepth 100000 in
theorem w_X12_weather {l : Launch} {g : XG}  {a0 : Nat} {i1 : Int32} {S : XS} (hk0 : kd a0 = 12) : Cl φI l g 2 mX12_weather [.ref a0, .int i1] S (f_X12_weather a0 i1 S) := by
  refine Cl.of (by decide +kernel) (Nat.le_of_ble_eq_true rfl) ?_
  unfold f_X12_weather
  show X _ _ _ _ _ 0 [(0, .ref a0), (1, .int i1)] [] S _
  refine X_aload_n (n := 1) 0 (kX12_weather 0 rfl) rfl rfl rfl ?_
  refine X_iconst (n := 2) (v := 0) (kX12_weather 1 rfl) rfl (by decide) ?_
  refine X_putI (n := 5) xf_X12 hk0 (by decide) fl_X12_100 rfl rfl (Or.inl rfl) (kX12_weather 2 rfl) rfl ?_
  refine X_iload_n (n := 6) 1 (kX12_weather 3 rfl) rfl rfl rfl ?_
  refine X_iconst (n := 7) (v := 0) (kX12_weather 4 rfl) rfl (by decide) ?_
  refine X_iconst (n := 8) (v := 2) (kX12_weather 5 rfl) rfl (by decide) ?_
  refine X_callS1B (n := 11) (As := [.int i1, .int (0 : Int32), .int (2 : Int32)]) (st := []) (kX12_weather 6 rfl) rfl p_X12_isIn (by decide) ml_X12_169 mf_X12_isIn rfl rfl (Nat.le_of_ble_eq_true rfl) ?_
  refine X_bz (n := 14) (tgt := 23) (kX12_weather 7 rfl) rfl rfl (fun h1 => ?_) (fun h1 => ?_)
  · refine X_aload_n (n := 15) 0 (kX12_weather 8 rfl) rfl rfl rfl ?_
    refine X_getR (n := 18) xf_X12 hk0 (by decide) fl_X12_88 rfl (kX12_weather 9 rfl) rfl ?_
    refine X_iload_n (n := 19) 1 (kX12_weather 10 rfl) rfl rfl rfl ?_
    refine X_iald (n := 20) (kt_12_51 hk0) (kX12_weather 11 rfl) rfl (fun h2 => ?_)
    refine X_goto (tgt := 24) (kX12_weather 12 rfl) rfl ?_
    exact X_iret rfl (kX12_weather 14 rfl)
  · refine X_iconst (n := 24) (v := (-1)) (kX12_weather 13 rfl) rfl (by decide) ?_
    exact X_iret rfl (kX12_weather 14 rfl)
def f_X12_write_L57  (i3 : Int32) (i2 : Int32) (a0 : Nat) (i1 : Int32) : Nat → Int32 → Int64 → XS → Option (Int32 × XS)
  | 0, _, _, _ => none
  | n + 1, i4, j5, S => (if (lg_cmp j5 0) ≤ 0 then some (i4, S) else (if i4 < 0 ∨ ln (rf a0 53) ≤ i4.toNatClampNeg then none else f_X12_write_L57 i3 i2 a0 i1 n (i4 + 1) (j5 / 27) (sI S (rf a0 53) i4.toNatClampNeg ((rem64 j5 27).toInt32 + (96 : Int32)))))
def f_X12_write_L101  (i3 : Int32) (i2 : Int32) (a0 : Nat) (i1 : Int32) : Nat → Int32 → XS → Option (XS)
  | 0, _, _ => none
  | n + 1, i5, S => (if i5 < 0 then some S else (if i5 < 0 ∨ ln (rf a0 53) ≤ i5.toNatClampNeg then none else ((f_X12_put a0 (S.1 (rf a0 53) i5.toNatClampNeg) S).bind (fun S11 => f_X12_write_L101 i3 i2 a0 i1 n (i5 + (-1)) S11))))
def f_X12_write_L22  (a0 : Nat) (i1 : Int32) : Nat → Int32 → XS → Option (XS)
  | 0, _, _ => none
  | n + 1, i2, S => (if (S.1 (rf a0 14) 0) ≤ i2 then some S else ((f_X12_onCoat a0 i1 i2 S).bind (fun q => match q with | (r3, S4) => (if r3 = 0 then f_X12_write_L22 a0 i1 n (i2 + 1) S4 else (if i2 < 0 ∨ ln (rf a0 19) ≤ i2.toNatClampNeg then none else ((f_X12_write_L57 r3 i2 a0 i1 1000000 (0 : Int32) (S4.2 (rf a0 19) i2.toNatClampNeg) S4).bind (fun q => match q with | (e8, S9) => ((f_X12_write_L101 r3 i2 a0 i1 1000000 (e8 - (1 : Int32)) S9).bind (fun S13 => ((f_X12_put a0 (32 : Int32) S13).bind (fun S14 => ((if r3 ≤ (9 : Int32) then some S14 else ((f_X12_put a0 ((48 : Int32) + (r3 / (10 : Int32))) S14).bind (fun S19 => some S19))).bind (fun S15 => ((f_X12_put a0 ((48 : Int32) + (rem32 r3 (10 : Int32))) S15).bind (fun S16 => ((f_X12_put a0 (59 : Int32) S16).bind (fun S17 => f_X12_write_L22 a0 i1 n (i2 + 1) S17)))))))))))))))))
def f_X12_write  (a0 : Nat) (i1 : Int32) (S : XS) : Option (Int32 × XS) := (if (t_X12_isWitness a0 i1 (sI S a0 0 (0 : Int32))) = true then ((f_X12_write_L22 a0 i1 1000000 (0 : Int32) (sI (sI S a0 0 (0 : Int32)) a0 54 (0 : Int32))).bind (fun S21 => some ((S21.1 a0 54), S21))) else some ((-1 : Int32), (sI S a0 0 (0 : Int32))))
set_option maxHeartbeats 4000000 in
set_option maxRecDepth 100000 in
theorem w_X12_write_L57 {l : Launch} {g : XG} {G : (Int32 × XS) → Option (Int32 × XS)}  {i3 : Int32} {i2 : Int32} {a0 : Nat} {i1 : Int32} (hk0 : kd a0 = 12) (kE : ∀ (e4 : Int32) (S1 : XS), X φI l g 2 mX12_write 95 [(4, .int e4), (3, .int i3), (2, .int i2), (0, .ref a0), (1, .int i1)] [] S1 (G (e4, S1))) : ∀ (n : Nat) (i4 : Int32) (j5 : Int64) (S : XS), X φI l g 2 mX12_write 57 [(5, .long j5), (4, .int i4), (3, .int i3), (2, .int i2), (0, .ref a0), (1, .int i1)] [] S ((f_X12_write_L57 i3 i2 a0 i1 n i4 j5 S).bind G) := by
  intro n
  induction n with
  | zero => intro i4 j5 S; exact X_none
  | succ n ih =>
  · intro i4 j5 S
    rw [f_X12_write_L57]
    refine X_lload (n := 59) 0 (kX12_write 35 rfl) rfl rfl ?_
    refine X_lconst (n := 60) (v := 0) (kX12_write 36 rfl) rfl (by decide) ?_
    refine X_lcmp (n := 61) (kX12_write 37 rfl) rfl ?_
    refine X_itebind ?_
    refine X_if_le (n := 64) (tgt := 95) (kX12_write 38 rfl) rfl rfl (fun h6 => ?_) (fun h6 => ?_)
    · exact X_L [1, 2, 3, 4, 5] rfl (kE i4 S)
    · refine X_aload_n (n := 65) 4 (kX12_write 39 rfl) rfl rfl rfl ?_
      refine X_getR (n := 68) xf_X12 hk0 (by decide) fl_X12_94 rfl (kX12_write 40 rfl) rfl ?_
      refine X_iload (n := 70) 1 (kX12_write 41 rfl) rfl rfl ?_
      refine X_lload (n := 72) 0 (kX12_write 42 rfl) rfl rfl ?_
      refine X_ldc2 (n := 75) (kX12_write 43 rfl) rfl cl_X12_146 ?_
      refine X_lrem' (n := 76) (kX12_write 44 rfl) rfl (by decide) ?_
      refine X_l2i (n := 77) (kX12_write 45 rfl) rfl ?_
      refine X_bipush (n := 79) (v := 96) (kX12_write 46 rfl) rfl (by decide) ?_
      refine X_iadd (n := 80) (kX12_write 47 rfl) rfl ?_
      refine X_itebind ?_
      refine X_iast (n := 81) (kt_12_53 hk0) (kX12_write 48 rfl) rfl (fun h7 => ?_)
      refine X_iinc (n := 84) 1 (v := (i4 + 1)) (L1 := [(4, .int (i4 + 1)), (5, .long j5), (3, .int i3), (2, .int i2), (0, .ref a0), (1, .int i1)]) (kX12_write 49 rfl) rfl rfl rfl (Nat.le_of_ble_eq_true rfl) rfl ?_
      refine X_lload (n := 86) 1 (kX12_write 50 rfl) rfl rfl ?_
      refine X_ldc2 (n := 89) (kX12_write 51 rfl) rfl cl_X12_146 ?_
      refine X_ldiv' (n := 90) (kX12_write 52 rfl) rfl (by decide) ?_
      refine X_lstore (n := 92) (L1 := [(5, .long (j5 / 27)), (4, .int (i4 + 1)), (3, .int i3), (2, .int i2), (0, .ref a0), (1, .int i1)]) (kX12_write 53 rfl) rfl (Nat.le_of_ble_eq_true rfl) rfl ?_
      refine X_goto (tgt := 57) (kX12_write 54 rfl) rfl ?_
      exact X_L [0, 1, 2, 3, 4, 5] rfl (ih (i4 + 1) (j5 / 27) (sI S (rf a0 53) i4.toNatClampNeg ((rem64 j5 27).toInt32 + (96 : Int32))))
set_option maxHeartbeats 4000000 in
set_option maxRecDepth 100000 in
theorem w_X12_write_L101 {l : Launch} {g : XG} {G : (XS) → Option (Int32 × XS)}  {i3 : Int32} {i2 : Int32} {a0 : Nat} {i1 : Int32} (hk0 : kd a0 = 12) (kE : ∀ (S1 : XS), X φI l g 2 mX12_write 123 [(3, .int i3), (2, .int i2), (0, .ref a0), (1, .int i1)] [] S1 (G S1)) : ∀ (n : Nat) (i5 : Int32) (S : XS), X φI l g 2 mX12_write 101 [(5, .int i5), (3, .int i3), (2, .int i2), (0, .ref a0), (1, .int i1)] [] S ((f_X12_write_L101 i3 i2 a0 i1 n i5 S).bind G) := by
  intro n
  induction n with
  | zero => intro i5 S; exact X_none
  | succ n ih =>
  · intro i5 S
    rw [f_X12_write_L101]
    refine X_iload (n := 103) 0 (kX12_write 59 rfl) rfl rfl ?_
    refine X_itebind ?_
    refine X_if_lt (n := 106) (tgt := 123) (kX12_write 60 rfl) rfl rfl (fun h10 => ?_) (fun h10 => ?_)
    · exact X_L [1, 2, 3, 4] rfl (kE S)
    · refine X_aload_n (n := 107) 3 (kX12_write 61 rfl) rfl rfl rfl ?_
      refine X_aload_n (n := 108) 3 (kX12_write 62 rfl) rfl rfl rfl ?_
      refine X_getR (n := 111) xf_X12 hk0 (by decide) fl_X12_94 rfl (kX12_write 63 rfl) rfl ?_
      refine X_iload (n := 113) 0 (kX12_write 64 rfl) rfl rfl ?_
      refine X_itebind ?_
      refine X_iald (n := 114) (kt_12_53 hk0) (kX12_write 65 rfl) rfl (fun h12 => ?_)
      refine X_assoc ?_
      refine X_callVV (n := 117) (As := [.int (S.1 (rf a0 53) i5.toNatClampNeg)]) (st := []) (kX12_write 66 rfl) rfl (w_X12_put hk0) (by decide) ml_X12_405 mf_X12_put rfl hk0 xf_X12 rfl (Nat.le_of_ble_eq_true rfl) (fun S11 hq => ?_)
      try dsimp only
      refine X_iinc (n := 120) 0 (v := (i5 + (-1))) (L1 := [(5, .int (i5 + (-1))), (3, .int i3), (2, .int i2), (0, .ref a0), (1, .int i1)]) (kX12_write 67 rfl) rfl rfl rfl (Nat.le_of_ble_eq_true rfl) rfl ?_
      refine X_goto (tgt := 101) (kX12_write 68 rfl) rfl ?_
      exact X_L [0, 1, 2, 3, 4] rfl (ih (i5 + (-1)) S11)
set_option maxHeartbeats 4000000 in
set_option maxRecDepth 100000 in
theorem w_X12_write_L22 {l : Launch} {g : XG} {G : (XS) → Option (Int32 × XS)}  {a0 : Nat} {i1 : Int32} (hk0 : kd a0 = 12) (kE : ∀ (S1 : XS), X φI l g 2 mX12_write 169 [(0, .ref a0)] [] S1 (G S1)) : ∀ (n : Nat) (i2 : Int32) (S : XS), X φI l g 2 mX12_write 22 [(2, .int i2), (0, .ref a0), (1, .int i1)] [] S ((f_X12_write_L22 a0 i1 n i2 S).bind G) := by
  intro n
  induction n with
  | zero => intro i2 S; exact X_none
  | succ n ih =>
  · intro i2 S
    rw [f_X12_write_L22]
    refine X_iload_n (n := 23) 0 (kX12_write 14 rfl) rfl rfl rfl ?_
    refine X_aload_n (n := 24) 1 (kX12_write 15 rfl) rfl rfl rfl ?_
    refine X_getR (n := 27) xf_X12 hk0 (by decide) fl_X12_13 rfl (kX12_write 16 rfl) rfl ?_
    refine X_iconst (n := 28) (v := 0) (kX12_write 17 rfl) rfl (by decide) ?_
    refine X_iald' (n := 29) (kt_12_14 hk0) (kX12_write 18 rfl) rfl (by rw [lt_12_14 hk0]; decide) ?_
    refine X_itebind ?_
    refine X_ic_ge (n := 32) (tgt := 169) (kX12_write 19 rfl) rfl rfl (fun h2 => ?_) (fun h2 => ?_)
    · exact X_L [1] rfl (kE S)
    · refine X_aload_n (n := 33) 1 (kX12_write 20 rfl) rfl rfl rfl ?_
      refine X_iload_n (n := 34) 2 (kX12_write 21 rfl) rfl rfl rfl ?_
      refine X_iload_n (n := 35) 0 (kX12_write 22 rfl) rfl rfl rfl ?_
      refine X_assoc ?_
      refine X_callVI (n := 38) (As := [.int i1, .int i2]) (st := []) (kX12_write 23 rfl) rfl (w_X12_onCoat hk0) (by decide) ml_X12_275 mf_X12_onCoat rfl hk0 xf_X12 rfl (Nat.le_of_ble_eq_true rfl) (fun r3 S4 hq => ?_)
      try dsimp only
      refine X_istore_n (n := 39) (L1 := [(3, .int r3), (2, .int i2), (0, .ref a0), (1, .int i1)]) (kX12_write 24 rfl) rfl rfl (Nat.le_of_ble_eq_true rfl) rfl ?_
      refine X_iload_n (n := 40) 0 (kX12_write 25 rfl) rfl rfl rfl ?_
      refine X_itebind ?_
      refine X_if_ne (n := 43) (tgt := 46) (kX12_write 26 rfl) rfl rfl (fun h5 => ?_) (fun h5 => ?_)
      · refine X_goto (tgt := 163) (kX12_write 27 rfl) rfl ?_
        refine X_iinc (n := 166) 1 (v := (i2 + 1)) (L1 := [(2, .int (i2 + 1)), (3, .int r3), (0, .ref a0), (1, .int i1)]) (kX12_write 92 rfl) rfl rfl rfl (Nat.le_of_ble_eq_true rfl) rfl ?_
        refine X_goto (tgt := 22) (kX12_write 93 rfl) rfl ?_
        exact X_L [0, 2, 3] rfl (ih (i2 + 1) S4)
      · refine X_iconst (n := 47) (v := 0) (kX12_write 28 rfl) rfl (by decide) ?_
        refine X_istore (n := 49) (L1 := [(4, .int 0), (3, .int r3), (2, .int i2), (0, .ref a0), (1, .int i1)]) (kX12_write 29 rfl) rfl (Nat.le_of_ble_eq_true rfl) rfl ?_
        refine X_aload_n (n := 50) 3 (kX12_write 30 rfl) rfl rfl rfl ?_
        refine X_getR (n := 53) xf_X12 hk0 (by decide) fl_X12_28 rfl (kX12_write 31 rfl) rfl ?_
        refine X_iload_n (n := 54) 2 (kX12_write 32 rfl) rfl rfl rfl ?_
        refine X_itebind ?_
        refine X_lald (n := 55) (kt_12_19 hk0) (kX12_write 33 rfl) rfl (fun h20 => ?_)
        refine X_lstore (n := 57) (L1 := [(5, .long (S4.2 (rf a0 19) i2.toNatClampNeg)), (4, .int 0), (3, .int r3), (2, .int i2), (0, .ref a0), (1, .int i1)]) (kX12_write 34 rfl) rfl (Nat.le_of_ble_eq_true rfl) rfl ?_
        refine X_assoc ?_
        refine X_L [0, 1, 2, 3, 4, 5] rfl (w_X12_write_L57 hk0 (fun e8 S9 => ?_) 1000000 (0 : Int32) (S4.2 (rf a0 19) i2.toNatClampNeg) S4)
        try dsimp only
        refine X_iload (n := 97) 0 (kX12_write 55 rfl) rfl rfl ?_
        refine X_iconst (n := 98) (v := 1) (kX12_write 56 rfl) rfl (by decide) ?_
        refine X_isub (n := 99) (kX12_write 57 rfl) rfl ?_
        refine X_istore (n := 101) (L1 := [(5, .int (e8 - (1 : Int32))), (4, .int e8), (3, .int r3), (2, .int i2), (0, .ref a0), (1, .int i1)]) (kX12_write 58 rfl) rfl (Nat.le_of_ble_eq_true rfl) rfl ?_
        refine X_assoc ?_
        refine X_L [0, 2, 3, 4, 5] rfl (w_X12_write_L101 hk0 (fun S13 => ?_) 1000000 (e8 - (1 : Int32)) S9)
        try dsimp only
        refine X_aload_n (n := 124) 2 (kX12_write 69 rfl) rfl rfl rfl ?_
        refine X_bipush (n := 126) (v := 32) (kX12_write 70 rfl) rfl (by decide) ?_
        refine X_assoc ?_
        refine X_callVV (n := 129) (As := [.int (32 : Int32)]) (st := []) (kX12_write 71 rfl) rfl (w_X12_put hk0) (by decide) ml_X12_405 mf_X12_put rfl hk0 xf_X12 rfl (Nat.le_of_ble_eq_true rfl) (fun S14 hq => ?_)
        try dsimp only
        refine X_iload_n (n := 130) 0 (kX12_write 72 rfl) rfl rfl rfl ?_
        refine X_bipush (n := 132) (v := 9) (kX12_write 73 rfl) rfl (by decide) ?_
        refine X_assoc ?_
        refine X_join 146 (fun S15 => [(3, .int r3), (2, .int i2), (0, .ref a0), (1, .int i1)]) (fun S15 => []) (fun S15 => S15) (fun S15 => ?_) (fun kJ => ?_)
        · try dsimp only
          refine X_aload_n (n := 147) 2 (kX12_write 82 rfl) rfl rfl rfl ?_
          refine X_bipush (n := 149) (v := 48) (kX12_write 83 rfl) rfl (by decide) ?_
          refine X_iload_n (n := 150) 0 (kX12_write 84 rfl) rfl rfl rfl ?_
          refine X_bipush (n := 152) (v := 10) (kX12_write 85 rfl) rfl (by decide) ?_
          refine X_irem' (n := 153) (kX12_write 86 rfl) rfl (by decide) ?_
          refine X_iadd (n := 154) (kX12_write 87 rfl) rfl ?_
          refine X_assoc ?_
          refine X_callVV (n := 157) (As := [.int ((48 : Int32) + (rem32 r3 (10 : Int32)))]) (st := []) (kX12_write 88 rfl) rfl (w_X12_put hk0) (by decide) ml_X12_405 mf_X12_put rfl hk0 xf_X12 rfl (Nat.le_of_ble_eq_true rfl) (fun S16 hq => ?_)
          try dsimp only
          refine X_aload_n (n := 158) 2 (kX12_write 89 rfl) rfl rfl rfl ?_
          refine X_bipush (n := 160) (v := 59) (kX12_write 90 rfl) rfl (by decide) ?_
          refine X_assoc ?_
          refine X_callVV (n := 163) (As := [.int (59 : Int32)]) (st := []) (kX12_write 91 rfl) rfl (w_X12_put hk0) (by decide) ml_X12_405 mf_X12_put rfl hk0 xf_X12 rfl (Nat.le_of_ble_eq_true rfl) (fun S17 hq => ?_)
          try dsimp only
          refine X_iinc (n := 166) 1 (v := (i2 + 1)) (L1 := [(2, .int (i2 + 1)), (3, .int r3), (0, .ref a0), (1, .int i1)]) (kX12_write 92 rfl) rfl rfl rfl (Nat.le_of_ble_eq_true rfl) rfl ?_
          refine X_goto (tgt := 22) (kX12_write 93 rfl) rfl ?_
          exact X_L [0, 2, 3] rfl (ih (i2 + 1) S17)
        · refine X_itebind ?_
          refine X_ic_le (n := 135) (tgt := 146) (kX12_write 74 rfl) rfl rfl (fun h18 => ?_) (fun h18 => ?_)
          · exact X_L [0, 1, 2, 3] rfl (kJ S14)
          · refine X_aload_n (n := 136) 2 (kX12_write 75 rfl) rfl rfl rfl ?_
            refine X_bipush (n := 138) (v := 48) (kX12_write 76 rfl) rfl (by decide) ?_
            refine X_iload_n (n := 139) 0 (kX12_write 77 rfl) rfl rfl rfl ?_
            refine X_bipush (n := 141) (v := 10) (kX12_write 78 rfl) rfl (by decide) ?_
            refine X_idiv' (n := 142) (kX12_write 79 rfl) rfl (by decide) ?_
            refine X_iadd (n := 143) (kX12_write 80 rfl) rfl ?_
            refine X_assoc ?_
            refine X_callVV (n := 146) (As := [.int ((48 : Int32) + (r3 / (10 : Int32)))]) (st := []) (kX12_write 81 rfl) rfl (w_X12_put hk0) (by decide) ml_X12_405 mf_X12_put rfl hk0 xf_X12 rfl (Nat.le_of_ble_eq_true rfl) (fun S19 hq => ?_)
            try dsimp only
            exact X_L [0, 1, 2, 3] rfl (kJ S19)
set_option maxHeartbeats 4000000 in
set_option maxRecDepth 100000 in
theorem w_X12_write {l : Launch} {g : XG}  {a0 : Nat} {i1 : Int32} {S : XS} (hk0 : kd a0 = 12) : Cl φI l g 2 mX12_write [.ref a0, .int i1] S (f_X12_write a0 i1 S) := by
  refine Cl.of (by decide +kernel) (Nat.le_of_ble_eq_true rfl) ?_
  unfold f_X12_write
  show X _ _ _ _ _ 0 [(0, .ref a0), (1, .int i1)] [] S _
  refine X_aload_n (n := 1) 0 (kX12_write 0 rfl) rfl rfl rfl ?_
  refine X_iconst (n := 2) (v := 0) (kX12_write 1 rfl) rfl (by decide) ?_
  refine X_putI (n := 5) xf_X12 hk0 (by decide) fl_X12_100 rfl rfl (Or.inl rfl) (kX12_write 2 rfl) rfl ?_
  refine X_aload_n (n := 6) 0 (kX12_write 3 rfl) rfl rfl rfl ?_
  refine X_iload_n (n := 7) 1 (kX12_write 4 rfl) rfl rfl rfl ?_
  refine X_callV1B (n := 10) (As := [.int i1]) (st := []) (kX12_write 5 rfl) rfl (p_X12_isWitness hk0) (by decide) ml_X12_263 mf_X12_isWitness rfl hk0 xf_X12 rfl (Nat.le_of_ble_eq_true rfl) ?_
  refine X_bn (n := 13) (tgt := 15) (kX12_write 6 rfl) rfl rfl (fun h1 => ?_) (fun h1 => ?_)
  · refine X_aload_n (n := 16) 0 (kX12_write 9 rfl) rfl rfl rfl ?_
    refine X_iconst (n := 17) (v := 0) (kX12_write 10 rfl) rfl (by decide) ?_
    refine X_putI (n := 20) xf_X12 hk0 (by decide) fl_X12_402 rfl rfl (Or.inl rfl) (kX12_write 11 rfl) rfl ?_
    refine X_iconst (n := 21) (v := 0) (kX12_write 12 rfl) rfl (by decide) ?_
    refine X_istore_n (n := 22) (L1 := [(2, .int 0), (0, .ref a0), (1, .int i1)]) (kX12_write 13 rfl) rfl rfl (Nat.le_of_ble_eq_true rfl) rfl ?_
    refine X_L [0, 1, 2] rfl (w_X12_write_L22 hk0 (fun S21 => ?_) 1000000 (0 : Int32) (sI (sI S a0 0 (0 : Int32)) a0 54 (0 : Int32)))
    try dsimp only
    refine X_aload_n (n := 170) 0 (kX12_write 94 rfl) rfl rfl rfl ?_
    refine X_getI (n := 173) xf_X12 hk0 (by decide) fl_X12_402 rfl (kX12_write 95 rfl) rfl ?_
    exact X_iret rfl (kX12_write 96 rfl)
  · refine X_iconst (n := 14) (v := (-1)) (kX12_write 7 rfl) rfl (by decide) ?_
    exact X_iret rfl (kX12_write 8 rfl)
