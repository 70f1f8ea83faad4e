def f_X12_isRain_L2  (a0 : Nat) (i1 : Int32) : Nat → Int32 → XS → Option ((Bool × XS) ⊕ (Unit))
  | 0, _, _ => none
  | n + 1, i2, S => (if (S.1 (rf a0 14) 5) ≤ i2 then some (.inr ()) else (if ((138 : Int32) + i2) < 0 ∨ ln (rf a0 14) ≤ ((138 : Int32) + i2).toNatClampNeg then none else (if (S.1 (rf a0 14) ((138 : Int32) + i2).toNatClampNeg) = i1 then some (.inl (true, S)) else f_X12_isRain_L2 a0 i1 n (i2 + 1) S)))
def f_X12_isRain  (a0 : Nat) (i1 : Int32) (S : XS) : Option (Bool × XS) := ((f_X12_isRain_L2 a0 i1 1000000 (0 : Int32) S).bind (fun q => match q with | .inl r => some r | .inr _ => some (false, S)))
set_option maxHeartbeats 4000000 in
set_option maxRecDepth 100000 in
theorem w_X12_isRain_L2 {l : Launch} {g : XG} {G : ((Bool × XS) ⊕ (Unit)) → Option (Bool × XS)}  {a0 : Nat} {i1 : Int32} (hk0 : kd a0 = 12) {S : XS} (kE : X φB l g 1 mX12_isRain 34 [] [] S (G (.inr ()))) (kR : ∀ r, G (.inl r) = some r) : ∀ (n : Nat) (i2 : Int32), X φB l g 1 mX12_isRain 2 [(2, .int i2), (0, .ref a0), (1, .int i1)] [] S ((f_X12_isRain_L2 a0 i1 n i2 S).bind G) := by
  intro n
  induction n with
  | zero => intro i2; exact X_none
  | succ n ih =>
  · intro i2
    rw [f_X12_isRain_L2]
    refine X_iload_n (n := 3) 0 (kX12_isRain 2 rfl) rfl rfl rfl ?_
    refine X_aload_n (n := 4) 1 (kX12_isRain 3 rfl) rfl rfl rfl ?_
    refine X_getR (n := 7) xf_X12 hk0 (by decide) fl_X12_13 rfl (kX12_isRain 4 rfl) rfl ?_
    refine X_iconst (n := 8) (v := 5) (kX12_isRain 5 rfl) rfl (by decide) ?_
    refine X_iald' (n := 9) (kt_12_14 hk0) (kX12_isRain 6 rfl) rfl (by rw [lt_12_14 hk0]; decide) ?_
    refine X_itebind ?_
    refine X_ic_ge (n := 12) (tgt := 34) (kX12_isRain 7 rfl) rfl rfl (fun h1 => ?_) (fun h1 => ?_)
    · exact X_L [] rfl kE
    · refine X_aload_n (n := 13) 1 (kX12_isRain 8 rfl) rfl rfl rfl ?_
      refine X_getR (n := 16) xf_X12 hk0 (by decide) fl_X12_13 rfl (kX12_isRain 9 rfl) rfl ?_
      refine X_sipush (n := 19) (v := 138) (kX12_isRain 10 rfl) rfl (by decide) ?_
      refine X_iload_n (n := 20) 0 (kX12_isRain 11 rfl) rfl rfl rfl ?_
      refine X_iadd (n := 21) (kX12_isRain 12 rfl) rfl ?_
      refine X_itebind ?_
      refine X_iald (n := 22) (kt_12_14 hk0) (kX12_isRain 13 rfl) rfl (fun h3 => ?_)
      refine X_iload_n (n := 23) 2 (kX12_isRain 14 rfl) rfl rfl rfl ?_
      refine X_itebind ?_
      refine X_ic_ne (n := 26) (tgt := 28) (kX12_isRain 15 rfl) rfl rfl (fun h2 => ?_) (fun h2 => ?_)
      · refine X_iconst (n := 27) (v := 1) (kX12_isRain 16 rfl) rfl (by decide) ?_
        exact X_req (kR _) (X_zret (b := true) rfl (kX12_isRain 17 rfl))
      · refine X_iinc (n := 31) 0 (v := (i2 + 1)) (L1 := [(2, .int (i2 + 1)), (0, .ref a0), (1, .int i1)]) (kX12_isRain 18 rfl) rfl rfl rfl (Nat.le_of_ble_eq_true rfl) rfl ?_
        refine X_goto (tgt := 2) (kX12_isRain 19 rfl) rfl ?_
        exact X_L [0, 1, 2] rfl (ih (i2 + 1))
set_option maxHeartbeats 4000000 in
set_option maxRecDepth 100000 in
theorem w_X12_isRain {l : Launch} {g : XG}  {a0 : Nat} {i1 : Int32} {S : XS} (hk0 : kd a0 = 12) : Cl φB l g 1 mX12_isRain [.ref a0, .int i1] S (f_X12_isRain a0 i1 S) := by
  refine Cl.of (by decide +kernel) (Nat.le_of_ble_eq_true rfl) ?_
  unfold f_X12_isRain
  show X _ _ _ _ _ 0 [(0, .ref a0), (1, .int i1)] [] S _
  refine X_iconst (n := 1) (v := 0) (kX12_isRain 0 rfl) rfl (by decide) ?_
  refine X_istore_n (n := 2) (L1 := [(2, .int 0), (0, .ref a0), (1, .int i1)]) (kX12_isRain 1 rfl) rfl rfl (Nat.le_of_ble_eq_true rfl) rfl ?_
  refine X_L [0, 1, 2] rfl (w_X12_isRain_L2 hk0 ?_ ?_ 1000000 (0 : Int32))
  · refine X_iconst (n := 35) (v := 0) (kX12_isRain 20 rfl) rfl (by decide) ?_
    exact X_zret (b := false) rfl (kX12_isRain 21 rfl)
  · intro r
    rfl
def f_X12_less  (i0 : Int32) (i1 : Int32) (S : XS) : Option (Int32 × XS) := (if i1 ≤ i0 then some ((i0 - i1), S) else some ((0 : Int32), S))
set_option maxHeartbeats 4000000 in
set_option maxRecDepth 100000 in
theorem w_X12_less {l : Launch} {g : XG}  {i0 : Int32} {i1 : Int32} {S : XS}  : Cl φI l g 1 mX12_less [.int i0, .int i1] S (f_X12_less i0 i1 S) := by
  refine Cl.of (by decide +kernel) (Nat.le_of_ble_eq_true rfl) ?_
  unfold f_X12_less
  show X _ _ _ _ _ 0 [(0, .int i0), (1, .int i1)] [] S _
  refine X_iload_n (n := 1) 0 (kX12_less 0 rfl) rfl rfl rfl ?_
  refine X_iload_n (n := 2) 1 (kX12_less 1 rfl) rfl rfl rfl ?_
  refine X_ic_ge (n := 5) (tgt := 9) (kX12_less 2 rfl) rfl rfl (fun h1 => ?_) (fun h1 => ?_)
  · refine X_iload_n (n := 10) 0 (kX12_less 5 rfl) rfl rfl rfl ?_
    refine X_iload_n (n := 11) 1 (kX12_less 6 rfl) rfl rfl rfl ?_
    refine X_isub (n := 12) (kX12_less 7 rfl) rfl ?_
    exact X_iret rfl (kX12_less 8 rfl)
  · refine X_iconst (n := 6) (v := 0) (kX12_less 3 rfl) rfl (by decide) ?_
    refine X_goto (tgt := 12) (kX12_less 4 rfl) rfl ?_
    exact X_iret rfl (kX12_less 8 rfl)
def t_X12_less (i0 : Int32) (i1 : Int32) : Int32 := (if i1 ≤ i0 then (i0 - i1) else (0 : Int32))
theorem ft_X12_less (i0 : Int32) (i1 : Int32) (S : XS) : f_X12_less i0 i1 S = some (t_X12_less i0 i1, S) := by
  unfold f_X12_less t_X12_less
  first | rfl | simp only [ite_p]
theorem p_X12_less {l : Launch} {g : XG} {i0 : Int32} {i1 : Int32} {S : XS}  : Cl φI l g 1 mX12_less [.int i0, .int i1] S (some (t_X12_less i0 i1, S)) := ft_X12_less i0 i1 S ▸ w_X12_less 
def f_X12_snap_L54  (a0 : Nat) : Nat → Int32 → XS → Option (XS)
  | 0, _, _ => none
  | n + 1, i1, S => (if (130 : Int32) ≤ i1 then some S else (if ((144 : Int32) + i1) < 0 ∨ ln (rf a0 14) ≤ ((144 : Int32) + i1).toNatClampNeg then none else (if (((130 : Int32) * (S.1 a0 23)) + i1) < 0 ∨ ln (rf a0 17) ≤ (((130 : Int32) * (S.1 a0 23)) + i1).toNatClampNeg then none else f_X12_snap_L54 a0 n (i1 + 1) (sI S (rf a0 17) ((((130 : Int32) * (S.1 a0 23)) + i1).toNatClampNeg) (S.1 (rf a0 14) ((144 : Int32) + i1).toNatClampNeg)))))
def f_X12_snap_L13  (a0 : Nat) : Nat → Int32 → XS → Option (XS)
  | 0, _, _ => none
  | n + 1, i1, S => (if (1040 : Int32) ≤ i1 then some S else (if i1 < 0 ∨ ln (rf a0 17) ≤ i1.toNatClampNeg then none else (if (i1 - (130 : Int32)) < 0 ∨ ln (rf a0 17) ≤ (i1 - (130 : Int32)).toNatClampNeg then none else f_X12_snap_L13 a0 n (i1 + 1) (sI S (rf a0 17) ((i1 - (130 : Int32)).toNatClampNeg) (S.1 (rf a0 17) i1.toNatClampNeg)))))
def f_X12_snap  (a0 : Nat) (S : XS) : Option (XS) := ((if (S.1 a0 23) = (8 : Int32) then ((f_X12_snap_L13 a0 1000000 (130 : Int32) S).bind (fun S10 => some (sI S10 a0 23 ((S10.1 a0 23) - (1 : Int32))))) else some S).bind (fun S1 => ((f_X12_snap_L54 a0 1000000 (0 : Int32) S1).bind (fun S5 => some (sI S5 a0 23 ((S5.1 a0 23) + (1 : Int32)))))))
set_option maxHeartbeats 4000000 in
set_option maxRecDepth 100000 in
theorem w_X12_snap_L54 {l : Launch} {g : XG} {G : (XS) → Option (XS)}  {a0 : Nat} (hk0 : kd a0 = 12) (kE : ∀ (S1 : XS), X φV l g 1 mX12_snap 92 [(0, .ref a0)] [] S1 (G S1)) : ∀ (n : Nat) (i1 : Int32) (S : XS), X φV l g 1 mX12_snap 54 [(1, .int i1), (0, .ref a0)] [] S ((f_X12_snap_L54 a0 n i1 S).bind G) := by
  intro n
  induction n with
  | zero => intro i1 S; exact X_none
  | succ n ih =>
  · intro i1 S
    rw [f_X12_snap_L54]
    refine X_iload_n (n := 55) 0 (kX12_snap 29 rfl) rfl rfl rfl ?_
    refine X_sipush (n := 58) (v := 130) (kX12_snap 30 rfl) rfl (by decide) ?_
    refine X_itebind ?_
    refine X_ic_ge (n := 61) (tgt := 92) (kX12_snap 31 rfl) rfl rfl (fun h2 => ?_) (fun h2 => ?_)
    · exact X_L [1] rfl (kE S)
    · refine X_aload_n (n := 62) 1 (kX12_snap 32 rfl) rfl rfl rfl ?_
      refine X_getR (n := 65) xf_X12 hk0 (by decide) fl_X12_22 rfl (kX12_snap 33 rfl) rfl ?_
      refine X_sipush (n := 68) (v := 130) (kX12_snap 34 rfl) rfl (by decide) ?_
      refine X_aload_n (n := 69) 1 (kX12_snap 35 rfl) rfl rfl rfl ?_
      refine X_getI (n := 72) xf_X12 hk0 (by decide) fl_X12_247 rfl (kX12_snap 36 rfl) rfl ?_
      refine X_imul (n := 73) (kX12_snap 37 rfl) rfl ?_
      refine X_iload_n (n := 74) 0 (kX12_snap 38 rfl) rfl rfl rfl ?_
      refine X_iadd (n := 75) (kX12_snap 39 rfl) rfl ?_
      refine X_aload_n (n := 76) 1 (kX12_snap 40 rfl) rfl rfl rfl ?_
      refine X_getR (n := 79) xf_X12 hk0 (by decide) fl_X12_13 rfl (kX12_snap 41 rfl) rfl ?_
      refine X_sipush (n := 82) (v := 144) (kX12_snap 42 rfl) rfl (by decide) ?_
      refine X_iload_n (n := 83) 0 (kX12_snap 43 rfl) rfl rfl rfl ?_
      refine X_iadd (n := 84) (kX12_snap 44 rfl) rfl ?_
      refine X_itebind ?_
      refine X_iald (n := 85) (kt_12_14 hk0) (kX12_snap 45 rfl) rfl (fun h4 => ?_)
      refine X_itebind ?_
      refine X_iast (n := 86) (kt_12_17 hk0) (kX12_snap 46 rfl) rfl (fun h3 => ?_)
      refine X_iinc (n := 89) 0 (v := (i1 + 1)) (L1 := [(1, .int (i1 + 1)), (0, .ref a0)]) (kX12_snap 47 rfl) rfl rfl rfl (Nat.le_of_ble_eq_true rfl) rfl ?_
      refine X_goto (tgt := 54) (kX12_snap 48 rfl) rfl ?_
      exact X_L [0, 1] rfl (ih (i1 + 1) (sI S (rf a0 17) ((((130 : Int32) * (S.1 a0 23)) + i1).toNatClampNeg) (S.1 (rf a0 14) ((144 : Int32) + i1).toNatClampNeg)))
set_option maxHeartbeats 4000000 in
set_option maxRecDepth 100000 in
theorem w_X12_snap_L13 {l : Launch} {g : XG} {G : (XS) → Option (XS)}  {a0 : Nat} (hk0 : kd a0 = 12) (kE : ∀ (S1 : XS), X φV l g 1 mX12_snap 42 [(0, .ref a0)] [] S1 (G S1)) : ∀ (n : Nat) (i1 : Int32) (S : XS), X φV l g 1 mX12_snap 13 [(1, .int i1), (0, .ref a0)] [] S ((f_X12_snap_L13 a0 n i1 S).bind G) := by
  intro n
  induction n with
  | zero => intro i1 S; exact X_none
  | succ n ih =>
  · intro i1 S
    rw [f_X12_snap_L13]
    refine X_iload_n (n := 14) 0 (kX12_snap 6 rfl) rfl rfl rfl ?_
    refine X_sipush (n := 17) (v := 1040) (kX12_snap 7 rfl) rfl (by decide) ?_
    refine X_itebind ?_
    refine X_ic_ge (n := 20) (tgt := 42) (kX12_snap 8 rfl) rfl rfl (fun h7 => ?_) (fun h7 => ?_)
    · exact X_L [1] rfl (kE S)
    · refine X_aload_n (n := 21) 1 (kX12_snap 9 rfl) rfl rfl rfl ?_
      refine X_getR (n := 24) xf_X12 hk0 (by decide) fl_X12_22 rfl (kX12_snap 10 rfl) rfl ?_
      refine X_iload_n (n := 25) 0 (kX12_snap 11 rfl) rfl rfl rfl ?_
      refine X_sipush (n := 28) (v := 130) (kX12_snap 12 rfl) rfl (by decide) ?_
      refine X_isub (n := 29) (kX12_snap 13 rfl) rfl ?_
      refine X_aload_n (n := 30) 1 (kX12_snap 14 rfl) rfl rfl rfl ?_
      refine X_getR (n := 33) xf_X12 hk0 (by decide) fl_X12_22 rfl (kX12_snap 15 rfl) rfl ?_
      refine X_iload_n (n := 34) 0 (kX12_snap 16 rfl) rfl rfl rfl ?_
      refine X_itebind ?_
      refine X_iald (n := 35) (kt_12_17 hk0) (kX12_snap 17 rfl) rfl (fun h9 => ?_)
      refine X_itebind ?_
      refine X_iast (n := 36) (kt_12_17 hk0) (kX12_snap 18 rfl) rfl (fun h8 => ?_)
      refine X_iinc (n := 39) 0 (v := (i1 + 1)) (L1 := [(1, .int (i1 + 1)), (0, .ref a0)]) (kX12_snap 19 rfl) rfl rfl rfl (Nat.le_of_ble_eq_true rfl) rfl ?_
      refine X_goto (tgt := 13) (kX12_snap 20 rfl) rfl ?_
      exact X_L [0, 1] rfl (ih (i1 + 1) (sI S (rf a0 17) ((i1 - (130 : Int32)).toNatClampNeg) (S.1 (rf a0 17) i1.toNatClampNeg)))
set_option maxHeartbeats 4000000 in
set_option maxRecDepth 100000 in
theorem w_X12_snap {l : Launch} {g : XG}  {a0 : Nat} {S : XS} (hk0 : kd a0 = 12) : Cl φV l g 1 mX12_snap [.ref a0] S (f_X12_snap a0 S) := by
  refine Cl.of (by decide +kernel) (Nat.le_of_ble_eq_true rfl) ?_
  unfold f_X12_snap
  show X _ _ _ _ _ 0 [(0, .ref a0)] [] S _
  refine X_aload_n (n := 1) 0 (kX12_snap 0 rfl) rfl rfl rfl ?_
  refine X_getI (n := 4) xf_X12 hk0 (by decide) fl_X12_247 rfl (kX12_snap 1 rfl) rfl ?_
  refine X_bipush (n := 6) (v := 8) (kX12_snap 2 rfl) rfl (by decide) ?_
  refine X_join 52 (fun S1 => [(0, .ref a0)]) (fun S1 => []) (fun S1 => S1) (fun S1 => ?_) (fun kJ => ?_)
  · try dsimp only
    refine X_iconst (n := 53) (v := 0) (kX12_snap 27 rfl) rfl (by decide) ?_
    refine X_istore_n (n := 54) (L1 := [(1, .int 0), (0, .ref a0)]) (kX12_snap 28 rfl) rfl rfl (Nat.le_of_ble_eq_true rfl) rfl ?_
    refine X_L [0, 1] rfl (w_X12_snap_L54 hk0 (fun S5 => ?_) 1000000 (0 : Int32) S1)
    try dsimp only
    refine X_aload_n (n := 93) 0 (kX12_snap 49 rfl) rfl rfl rfl ?_
    refine X_dup (n := 94) (kX12_snap 50 rfl) rfl rfl ?_
    refine X_getI (n := 97) xf_X12 hk0 (by decide) fl_X12_247 rfl (kX12_snap 51 rfl) rfl ?_
    refine X_iconst (n := 98) (v := 1) (kX12_snap 52 rfl) rfl (by decide) ?_
    refine X_iadd (n := 99) (kX12_snap 53 rfl) rfl ?_
    refine X_putI (n := 102) xf_X12 hk0 (by decide) fl_X12_247 rfl rfl (Or.inl rfl) (kX12_snap 54 rfl) rfl ?_
    exact X_vret rfl (kX12_snap 55 rfl)
  · refine X_itebind ?_
    refine X_ic_ne (n := 9) (tgt := 52) (kX12_snap 3 rfl) rfl rfl (fun h6 => ?_) (fun h6 => ?_)
    · refine X_sipush (n := 12) (v := 130) (kX12_snap 4 rfl) rfl (by decide) ?_
      refine X_istore_n (n := 13) (L1 := [(1, .int 130), (0, .ref a0)]) (kX12_snap 5 rfl) rfl rfl (Nat.le_of_ble_eq_true rfl) rfl ?_
      refine X_assoc ?_
      refine X_L [0, 1] rfl (w_X12_snap_L13 hk0 (fun S10 => ?_) 1000000 (130 : Int32) S)
      try dsimp only
      refine X_aload_n (n := 43) 0 (kX12_snap 21 rfl) rfl rfl rfl ?_
      refine X_dup (n := 44) (kX12_snap 22 rfl) rfl rfl ?_
      refine X_getI (n := 47) xf_X12 hk0 (by decide) fl_X12_247 rfl (kX12_snap 23 rfl) rfl ?_
      refine X_iconst (n := 48) (v := 1) (kX12_snap 24 rfl) rfl (by decide) ?_
      refine X_isub (n := 49) (kX12_snap 25 rfl) rfl ?_
      refine X_putI (n := 52) xf_X12 hk0 (by decide) fl_X12_247 rfl rfl (Or.inl rfl) (kX12_snap 26 rfl) rfl ?_
      exact X_L [0] rfl (kJ (sI S10 a0 23 ((S10.1 a0 23) - (1 : Int32))))
    · exact X_L [0] rfl (kJ S)
def f_X12_undo_L26  (a0 : Nat) : Nat → Int32 → XS → Option (XS)
  | 0, _, _ => none
  | n + 1, i1, S => (if (130 : Int32) ≤ i1 then some S else (if (((130 : Int32) * (S.1 a0 23)) + i1) < 0 ∨ ln (rf a0 17) ≤ (((130 : Int32) * (S.1 a0 23)) + i1).toNatClampNeg then none else (if ((144 : Int32) + i1) < 0 ∨ ln (rf a0 14) ≤ ((144 : Int32) + i1).toNatClampNeg then none else f_X12_undo_L26 a0 n (i1 + 1) (sI S (rf a0 14) (((144 : Int32) + i1).toNatClampNeg) (S.1 (rf a0 17) (((130 : Int32) * (S.1 a0 23)) + i1).toNatClampNeg)))))
def f_X12_undo  (a0 : Nat) (S : XS) : Option (Int32 × XS) := (if ((sI S a0 0 (0 : Int32)).1 a0 23) = 0 then some ((-1 : Int32), (sI S a0 0 (0 : Int32))) else ((f_X12_undo_L26 a0 1000000 (0 : Int32) (sI (sI S a0 0 (0 : Int32)) a0 23 (((sI S a0 0 (0 : Int32)).1 a0 23) - (1 : Int32)))).bind (fun S5 => some ((S5.1 a0 23), S5))))
set_option maxHeartbeats 4000000 in
set_option maxRecDepth 100000 in
theorem w_X12_undo_L26 {l : Launch} {g : XG} {G : (XS) → Option (Int32 × XS)}  {a0 : Nat} (hk0 : kd a0 = 12) (kE : ∀ (S1 : XS), X φI l g 1 mX12_undo 64 [(0, .ref a0)] [] S1 (G S1)) : ∀ (n : Nat) (i1 : Int32) (S : XS), X φI l g 1 mX12_undo 26 [(1, .int i1), (0, .ref a0)] [] S ((f_X12_undo_L26 a0 n i1 S).bind G) := by
  intro n
  induction n with
  | zero => intro i1 S; exact X_none
  | succ n ih =>
  · intro i1 S
    rw [f_X12_undo_L26]
    refine X_iload_n (n := 27) 0 (kX12_undo 16 rfl) rfl rfl rfl ?_
    refine X_sipush (n := 30) (v := 130) (kX12_undo 17 rfl) rfl (by decide) ?_
    refine X_itebind ?_
    refine X_ic_ge (n := 33) (tgt := 64) (kX12_undo 18 rfl) rfl rfl (fun h2 => ?_) (fun h2 => ?_)
    · exact X_L [1] rfl (kE S)
    · refine X_aload_n (n := 34) 1 (kX12_undo 19 rfl) rfl rfl rfl ?_
      refine X_getR (n := 37) xf_X12 hk0 (by decide) fl_X12_13 rfl (kX12_undo 20 rfl) rfl ?_
      refine X_sipush (n := 40) (v := 144) (kX12_undo 21 rfl) rfl (by decide) ?_
      refine X_iload_n (n := 41) 0 (kX12_undo 22 rfl) rfl rfl rfl ?_
      refine X_iadd (n := 42) (kX12_undo 23 rfl) rfl ?_
      refine X_aload_n (n := 43) 1 (kX12_undo 24 rfl) rfl rfl rfl ?_
      refine X_getR (n := 46) xf_X12 hk0 (by decide) fl_X12_22 rfl (kX12_undo 25 rfl) rfl ?_
      refine X_sipush (n := 49) (v := 130) (kX12_undo 26 rfl) rfl (by decide) ?_
      refine X_aload_n (n := 50) 1 (kX12_undo 27 rfl) rfl rfl rfl ?_
      refine X_getI (n := 53) xf_X12 hk0 (by decide) fl_X12_247 rfl (kX12_undo 28 rfl) rfl ?_
      refine X_imul (n := 54) (kX12_undo 29 rfl) rfl ?_
      refine X_iload_n (n := 55) 0 (kX12_undo 30 rfl) rfl rfl rfl ?_
      refine X_iadd (n := 56) (kX12_undo 31 rfl) rfl ?_
      refine X_itebind ?_
      refine X_iald (n := 57) (kt_12_17 hk0) (kX12_undo 32 rfl) rfl (fun h4 => ?_)
      refine X_itebind ?_
      refine X_iast (n := 58) (kt_12_14 hk0) (kX12_undo 33 rfl) rfl (fun h3 => ?_)
      refine X_iinc (n := 61) 0 (v := (i1 + 1)) (L1 := [(1, .int (i1 + 1)), (0, .ref a0)]) (kX12_undo 34 rfl) rfl rfl rfl (Nat.le_of_ble_eq_true rfl) rfl ?_
      refine X_goto (tgt := 26) (kX12_undo 35 rfl) rfl ?_
      exact X_L [0, 1] rfl (ih (i1 + 1) (sI S (rf a0 14) (((144 : Int32) + i1).toNatClampNeg) (S.1 (rf a0 17) (((130 : Int32) * (S.1 a0 23)) + i1).toNatClampNeg)))
set_option maxHeartbeats 4000000 in
set_option maxRecDepth 100000 in
theorem w_X12_undo {l : Launch} {g : XG}  {a0 : Nat} {S : XS} (hk0 : kd a0 = 12) : Cl φI l g 1 mX12_undo [.ref a0] S (f_X12_undo a0 S) := by
  refine Cl.of (by decide +kernel) (Nat.le_of_ble_eq_true rfl) ?_
  unfold f_X12_undo
  show X _ _ _ _ _ 0 [(0, .ref a0)] [] S _
  refine X_aload_n (n := 1) 0 (kX12_undo 0 rfl) rfl rfl rfl ?_
  refine X_iconst (n := 2) (v := 0) (kX12_undo 1 rfl) rfl (by decide) ?_
  refine X_putI (n := 5) xf_X12 hk0 (by decide) fl_X12_100 rfl rfl (Or.inl rfl) (kX12_undo 2 rfl) rfl ?_
  refine X_aload_n (n := 6) 0 (kX12_undo 3 rfl) rfl rfl rfl ?_
  refine X_getI (n := 9) xf_X12 hk0 (by decide) fl_X12_247 rfl (kX12_undo 4 rfl) rfl ?_
  refine X_if_ne (n := 12) (tgt := 14) (kX12_undo 5 rfl) rfl rfl (fun h1 => ?_) (fun h1 => ?_)
  · refine X_iconst (n := 13) (v := (-1)) (kX12_undo 6 rfl) rfl (by decide) ?_
    exact X_iret rfl (kX12_undo 7 rfl)
  · refine X_aload_n (n := 15) 0 (kX12_undo 8 rfl) rfl rfl rfl ?_
    refine X_dup (n := 16) (kX12_undo 9 rfl) rfl rfl ?_
    refine X_getI (n := 19) xf_X12 hk0 (by decide) fl_X12_247 rfl (kX12_undo 10 rfl) rfl ?_
    refine X_iconst (n := 20) (v := 1) (kX12_undo 11 rfl) rfl (by decide) ?_
    refine X_isub (n := 21) (kX12_undo 12 rfl) rfl ?_
    refine X_putI (n := 24) xf_X12 hk0 (by decide) fl_X12_247 rfl rfl (Or.inl rfl) (kX12_undo 13 rfl) rfl ?_
    refine X_iconst (n := 25) (v := 0) (kX12_undo 14 rfl) rfl (by decide) ?_
    refine X_istore_n (n := 26) (L1 := [(1, .int 0), (0, .ref a0)]) (kX12_undo 15 rfl) rfl rfl (Nat.le_of_ble_eq_true rfl) rfl ?_
    refine X_L [0, 1] rfl (w_X12_undo_L26 hk0 (fun S5 => ?_) 1000000 (0 : Int32) (sI (sI S a0 0 (0 : Int32)) a0 23 (((sI S a0 0 (0 : Int32)).1 a0 23) - (1 : Int32))))
    try dsimp only
    refine X_aload_n (n := 65) 0 (kX12_undo 36 rfl) rfl rfl rfl ?_
    refine X_getI (n := 68) xf_X12 hk0 (by decide) fl_X12_247 rfl (kX12_undo 37 rfl) rfl ?_
    exact X_iret rfl (kX12_undo 38 rfl)
def f_X12_layAside_L2  (a0 : Nat) : Nat → Int32 → XS → Option (XS)
  | 0, _, _ => none
  | n + 1, i1, S => (if (130 : Int32) ≤ i1 then some S else (if ((144 : Int32) + i1) < 0 ∨ ln (rf a0 14) ≤ ((144 : Int32) + i1).toNatClampNeg then none else (if i1 < 0 ∨ ln (rf a0 18) ≤ i1.toNatClampNeg then none else f_X12_layAside_L2 a0 n (i1 + 1) (sI S (rf a0 18) i1.toNatClampNeg (S.1 (rf a0 14) ((144 : Int32) + i1).toNatClampNeg)))))
def f_X12_layAside  (a0 : Nat) (S : XS) : Option (XS) := ((f_X12_layAside_L2 a0 1000000 (0 : Int32) S).bind (fun S4 => some S4))
set_option maxHeartbeats 4000000 in
set_option maxRecDepth 100000 in
theorem w_X12_layAside_L2 {l : Launch} {g : XG} {G : (XS) → Option (XS)}  {a0 : Nat} (hk0 : kd a0 = 12) (kE : ∀ (S1 : XS), X φV l g 1 mX12_layAside 31 [] [] S1 (G S1)) : ∀ (n : Nat) (i1 : Int32) (S : XS), X φV l g 1 mX12_layAside 2 [(1, .int i1), (0, .ref a0)] [] S ((f_X12_layAside_L2 a0 n i1 S).bind G) := by
  intro n
  induction n with
  | zero => intro i1 S; exact X_none
  | succ n ih =>
  · intro i1 S
    rw [f_X12_layAside_L2]
    refine X_iload_n (n := 3) 0 (kX12_layAside 2 rfl) rfl rfl rfl ?_
    refine X_sipush (n := 6) (v := 130) (kX12_layAside 3 rfl) rfl (by decide) ?_
    refine X_itebind ?_
    refine X_ic_ge (n := 9) (tgt := 31) (kX12_layAside 4 rfl) rfl rfl (fun h1 => ?_) (fun h1 => ?_)
    · exact X_L [] rfl (kE S)
    · refine X_aload_n (n := 10) 1 (kX12_layAside 5 rfl) rfl rfl rfl ?_
      refine X_getR (n := 13) xf_X12 hk0 (by decide) fl_X12_25 rfl (kX12_layAside 6 rfl) rfl ?_
      refine X_iload_n (n := 14) 0 (kX12_layAside 7 rfl) rfl rfl rfl ?_
      refine X_aload_n (n := 15) 1 (kX12_layAside 8 rfl) rfl rfl rfl ?_
      refine X_getR (n := 18) xf_X12 hk0 (by decide) fl_X12_13 rfl (kX12_layAside 9 rfl) rfl ?_
      refine X_sipush (n := 21) (v := 144) (kX12_layAside 10 rfl) rfl (by decide) ?_
      refine X_iload_n (n := 22) 0 (kX12_layAside 11 rfl) rfl rfl rfl ?_
      refine X_iadd (n := 23) (kX12_layAside 12 rfl) rfl ?_
      refine X_itebind ?_
      refine X_iald (n := 24) (kt_12_14 hk0) (kX12_layAside 13 rfl) rfl (fun h3 => ?_)
      refine X_itebind ?_
      refine X_iast (n := 25) (kt_12_18 hk0) (kX12_layAside 14 rfl) rfl (fun h2 => ?_)
      refine X_iinc (n := 28) 0 (v := (i1 + 1)) (L1 := [(1, .int (i1 + 1)), (0, .ref a0)]) (kX12_layAside 15 rfl) rfl rfl rfl (Nat.le_of_ble_eq_true rfl) rfl ?_
      refine X_goto (tgt := 2) (kX12_layAside 16 rfl) rfl ?_
      exact X_L [0, 1] rfl (ih (i1 + 1) (sI S (rf a0 18) i1.toNatClampNeg (S.1 (rf a0 14) ((144 : Int32) + i1).toNatClampNeg)))
set_option maxHeartbeats 4000000 in
set_option maxRecDepth 100000 in
theorem w_X12_layAside {l : Launch} {g : XG}  {a0 : Nat} {S : XS} (hk0 : kd a0 = 12) : Cl φV l g 1 mX12_layAside [.ref a0] S (f_X12_layAside a0 S) := by
  refine Cl.of (by decide +kernel) (Nat.le_of_ble_eq_true rfl) ?_
  unfold f_X12_layAside
  show X _ _ _ _ _ 0 [(0, .ref a0)] [] S _
  refine X_iconst (n := 1) (v := 0) (kX12_layAside 0 rfl) rfl (by decide) ?_
  refine X_istore_n (n := 2) (L1 := [(1, .int 0), (0, .ref a0)]) (kX12_layAside 1 rfl) rfl rfl (Nat.le_of_ble_eq_true rfl) rfl ?_
  refine X_L [0, 1] rfl (w_X12_layAside_L2 hk0 (fun S4 => ?_) 1000000 (0 : Int32) S)
  try dsimp only
  exact X_vret rfl (kX12_layAside 17 rfl)
def f_X12_layBack_L2  (a0 : Nat) : Nat → Int32 → XS → Option (XS)
  | 0, _, _ => none
  | n + 1, i1, S => (if (130 : Int32) ≤ i1 then some S else (if i1 < 0 ∨ ln (rf a0 18) ≤ i1.toNatClampNeg then none else (if ((144 : Int32) + i1) < 0 ∨ ln (rf a0 14) ≤ ((144 : Int32) + i1).toNatClampNeg then none else f_X12_layBack_L2 a0 n (i1 + 1) (sI S (rf a0 14) (((144 : Int32) + i1).toNatClampNeg) (S.1 (rf a0 18) i1.toNatClampNeg)))))
def f_X12_layBack  (a0 : Nat) (S : XS) : Option (XS) := ((f_X12_layBack_L2 a0 1000000 (0 : Int32) S).bind (fun S4 => some S4))
set_option maxHeartbeats 4000000 in
set_option maxRecDepth 100000 in
theorem w_X12_layBack_L2 {l : Launch} {g : XG} {G : (XS) → Option (XS)}  {a0 : Nat} (hk0 : kd a0 = 12) (kE : ∀ (S1 : XS), X φV l g 1 mX12_layBack 31 [] [] S1 (G S1)) : ∀ (n : Nat) (i1 : Int32) (S : XS), X φV l g 1 mX12_layBack 2 [(1, .int i1), (0, .ref a0)] [] S ((f_X12_layBack_L2 a0 n i1 S).bind G) := by
  intro n
  induction n with
  | zero => intro i1 S; exact X_none
  | succ n ih =>
  · intro i1 S
    rw [f_X12_layBack_L2]
    refine X_iload_n (n := 3) 0 (kX12_layBack 2 rfl) rfl rfl rfl ?_
    refine X_sipush (n := 6) (v := 130) (kX12_layBack 3 rfl) rfl (by decide) ?_
    refine X_itebind ?_
    refine X_ic_ge (n := 9) (tgt := 31) (kX12_layBack 4 rfl) rfl rfl (fun h1 => ?_) (fun h1 => ?_)
    · exact X_L [] rfl (kE S)
    · refine X_aload_n (n := 10) 1 (kX12_layBack 5 rfl) rfl rfl rfl ?_
      refine X_getR (n := 13) xf_X12 hk0 (by decide) fl_X12_13 rfl (kX12_layBack 6 rfl) rfl ?_
      refine X_sipush (n := 16) (v := 144) (kX12_layBack 7 rfl) rfl (by decide) ?_
      refine X_iload_n (n := 17) 0 (kX12_layBack 8 rfl) rfl rfl rfl ?_
      refine X_iadd (n := 18) (kX12_layBack 9 rfl) rfl ?_
      refine X_aload_n (n := 19) 1 (kX12_layBack 10 rfl) rfl rfl rfl ?_
      refine X_getR (n := 22) xf_X12 hk0 (by decide) fl_X12_25 rfl (kX12_layBack 11 rfl) rfl ?_
      refine X_iload_n (n := 23) 0 (kX12_layBack 12 rfl) rfl rfl rfl ?_
      refine X_itebind ?_
      refine X_iald (n := 24) (kt_12_18 hk0) (kX12_layBack 13 rfl) rfl (fun h3 => ?_)
      refine X_itebind ?_
      refine X_iast (n := 25) (kt_12_14 hk0) (kX12_layBack 14 rfl) rfl (fun h2 => ?_)
      refine X_iinc (n := 28) 0 (v := (i1 + 1)) (L1 := [(1, .int (i1 + 1)), (0, .ref a0)]) (kX12_layBack 15 rfl) rfl rfl rfl (Nat.le_of_ble_eq_true rfl) rfl ?_
      refine X_goto (tgt := 2) (kX12_layBack 16 rfl) rfl ?_
      exact X_L [0, 1] rfl (ih (i1 + 1) (sI S (rf a0 14) (((144 : Int32) + i1).toNatClampNeg) (S.1 (rf a0 18) i1.toNatClampNeg)))
set_option maxHeartbeats 4000000 in
set_option maxRecDepth 100000 in
theorem w_X12_layBack {l : Launch} {g : XG}  {a0 : Nat} {S : XS} (hk0 : kd a0 = 12) : Cl φV l g 1 mX12_layBack [.ref a0] S (f_X12_layBack a0 S) := by
  refine Cl.of (by decide +kernel) (Nat.le_of_ble_eq_true rfl) ?_
  unfold f_X12_layBack
  show X _ _ _ _ _ 0 [(0, .ref a0)] [] S _
  refine X_iconst (n := 1) (v := 0) (kX12_layBack 0 rfl) rfl (by decide) ?_
  refine X_istore_n (n := 2) (L1 := [(1, .int 0), (0, .ref a0)]) (kX12_layBack 1 rfl) rfl rfl (Nat.le_of_ble_eq_true rfl) rfl ?_
  refine X_L [0, 1] rfl (w_X12_layBack_L2 hk0 (fun S4 => ?_) 1000000 (0 : Int32) S)
  try dsimp only
  exact X_vret rfl (kX12_layBack 17 rfl)
def f_X12_changeBoth  (a0 : Nat) (i1 : Int32) (i2 : Int32) (S : XS) : Option (XS) := (if ((151 : Int32) + i1) < 0 ∨ ln (rf a0 14) ≤ ((151 : Int32) + i1).toNatClampNeg then none else (if ((151 : Int32) + i2) < 0 ∨ ln (rf a0 14) ≤ ((151 : Int32) + i2).toNatClampNeg then none else (if ((151 : Int32) + i1) < 0 ∨ ln (rf a0 14) ≤ ((151 : Int32) + i1).toNatClampNeg then none else (if ((151 : Int32) + i2) < 0 ∨ ln (rf a0 14) ≤ ((151 : Int32) + i2).toNatClampNeg then none else some (sI (sI S (rf a0 14) (((151 : Int32) + i1).toNatClampNeg) (S.1 (rf a0 14) ((151 : Int32) + i2).toNatClampNeg)) (rf a0 14) (((151 : Int32) + i2).toNatClampNeg) (S.1 (rf a0 14) ((151 : Int32) + i1).toNatClampNeg))))))
set_option maxHeartbeats 4000000 in
set_option maxRecDepth 100000 in
theorem w_X12_changeBoth {l : Launch} {g : XG}  {a0 : Nat} {i1 : Int32} {i2 : Int32} {S : XS} (hk0 : kd a0 = 12) : Cl φV l g 1 mX12_changeBoth [.ref a0, .int i1, .int i2] S (f_X12_changeBoth a0 i1 i2 S) := by
  refine Cl.of (by decide +kernel) (Nat.le_of_ble_eq_true rfl) ?_
  unfold f_X12_changeBoth
  show X _ _ _ _ _ 0 [(0, .ref a0), (1, .int i1), (2, .int i2)] [] S _
  refine X_aload_n (n := 1) 0 (kX12_changeBoth 0 rfl) rfl rfl rfl ?_
  refine X_getR (n := 4) xf_X12 hk0 (by decide) fl_X12_13 rfl (kX12_changeBoth 1 rfl) rfl ?_
  refine X_sipush (n := 7) (v := 151) (kX12_changeBoth 2 rfl) rfl (by decide) ?_
  refine X_iload_n (n := 8) 1 (kX12_changeBoth 3 rfl) rfl rfl rfl ?_
  refine X_iadd (n := 9) (kX12_changeBoth 4 rfl) rfl ?_
  refine X_iald (n := 10) (kt_12_14 hk0) (kX12_changeBoth 5 rfl) rfl (fun h4 => ?_)
  refine X_istore_n (n := 11) (L1 := [(3, .int (S.1 (rf a0 14) ((151 : Int32) + i1).toNatClampNeg)), (0, .ref a0), (1, .int i1), (2, .int i2)]) (kX12_changeBoth 6 rfl) rfl rfl (Nat.le_of_ble_eq_true rfl) rfl ?_
  refine X_aload_n (n := 12) 1 (kX12_changeBoth 7 rfl) rfl rfl rfl ?_
  refine X_getR (n := 15) xf_X12 hk0 (by decide) fl_X12_13 rfl (kX12_changeBoth 8 rfl) rfl ?_
  refine X_sipush (n := 18) (v := 151) (kX12_changeBoth 9 rfl) rfl (by decide) ?_
  refine X_iload_n (n := 19) 2 (kX12_changeBoth 10 rfl) rfl rfl rfl ?_
  refine X_iadd (n := 20) (kX12_changeBoth 11 rfl) rfl ?_
  refine X_aload_n (n := 21) 1 (kX12_changeBoth 12 rfl) rfl rfl rfl ?_
  refine X_getR (n := 24) xf_X12 hk0 (by decide) fl_X12_13 rfl (kX12_changeBoth 13 rfl) rfl ?_
  refine X_sipush (n := 27) (v := 151) (kX12_changeBoth 14 rfl) rfl (by decide) ?_
  refine X_iload_n (n := 28) 3 (kX12_changeBoth 15 rfl) rfl rfl rfl ?_
  refine X_iadd (n := 29) (kX12_changeBoth 16 rfl) rfl ?_
  refine X_iald (n := 30) (kt_12_14 hk0) (kX12_changeBoth 17 rfl) rfl (fun h3 => ?_)
  refine X_iast (n := 31) (kt_12_14 hk0) (kX12_changeBoth 18 rfl) rfl (fun h2 => ?_)
  refine X_aload_n (n := 32) 1 (kX12_changeBoth 19 rfl) rfl rfl rfl ?_
  refine X_getR (n := 35) xf_X12 hk0 (by decide) fl_X12_13 rfl (kX12_changeBoth 20 rfl) rfl ?_
  refine X_sipush (n := 38) (v := 151) (kX12_changeBoth 21 rfl) rfl (by decide) ?_
  refine X_iload_n (n := 39) 3 (kX12_changeBoth 22 rfl) rfl rfl rfl ?_
  refine X_iadd (n := 40) (kX12_changeBoth 23 rfl) rfl ?_
  refine X_iload_n (n := 41) 0 (kX12_changeBoth 24 rfl) rfl rfl rfl ?_
  refine X_iast (n := 42) (kt_12_14 hk0) (kX12_changeBoth 25 rfl) rfl (fun h1 => ?_)
  exact X_vret rfl (kX12_changeBoth 26 rfl)
def f_X12_startOpening_L2  (a0 : Nat) : Nat → Int32 → XS → Option (XS)
  | 0, _, _ => none
  | n + 1, i1, S => (if (6 : Int32) ≤ i1 then some S else (if i1 < 0 ∨ ln (rf a0 24) ≤ i1.toNatClampNeg then none else f_X12_startOpening_L2 a0 n (i1 + 1) (sI S (rf a0 24) i1.toNatClampNeg (0 : Int32))))
def f_X12_startOpening  (a0 : Nat) (S : XS) : Option (XS) := ((f_X12_startOpening_L2 a0 1000000 (0 : Int32) S).bind (fun S3 => some S3))
set_option maxHeartbeats 4000000 in
set_option maxRecDepth 100000 in
theorem w_X12_startOpening_L2 {l : Launch} {g : XG} {G : (XS) → Option (XS)}  {a0 : Nat} (hk0 : kd a0 = 12) (kE : ∀ (S1 : XS), X φV l g 1 mX12_startOpening 21 [] [] S1 (G S1)) : ∀ (n : Nat) (i1 : Int32) (S : XS), X φV l g 1 mX12_startOpening 2 [(1, .int i1), (0, .ref a0)] [] S ((f_X12_startOpening_L2 a0 n i1 S).bind G) := by
  intro n
  induction n with
  | zero => intro i1 S; exact X_none
  | succ n ih =>
  · intro i1 S
    rw [f_X12_startOpening_L2]
    refine X_iload_n (n := 3) 0 (kX12_startOpening 2 rfl) rfl rfl rfl ?_
    refine X_bipush (n := 5) (v := 6) (kX12_startOpening 3 rfl) rfl (by decide) ?_
    refine X_itebind ?_
    refine X_ic_ge (n := 8) (tgt := 21) (kX12_startOpening 4 rfl) rfl rfl (fun h1 => ?_) (fun h1 => ?_)
    · exact X_L [] rfl (kE S)
    · refine X_aload_n (n := 9) 1 (kX12_startOpening 5 rfl) rfl rfl rfl ?_
      refine X_getR (n := 12) xf_X12 hk0 (by decide) fl_X12_42 rfl (kX12_startOpening 6 rfl) rfl ?_
      refine X_iload_n (n := 13) 0 (kX12_startOpening 7 rfl) rfl rfl rfl ?_
      refine X_iconst (n := 14) (v := 0) (kX12_startOpening 8 rfl) rfl (by decide) ?_
      refine X_itebind ?_
      refine X_iast (n := 15) (kt_12_24 hk0) (kX12_startOpening 9 rfl) rfl (fun h2 => ?_)
      refine X_iinc (n := 18) 0 (v := (i1 + 1)) (L1 := [(1, .int (i1 + 1)), (0, .ref a0)]) (kX12_startOpening 10 rfl) rfl rfl rfl (Nat.le_of_ble_eq_true rfl) rfl ?_
      refine X_goto (tgt := 2) (kX12_startOpening 11 rfl) rfl ?_
      exact X_L [0, 1] rfl (ih (i1 + 1) (sI S (rf a0 24) i1.toNatClampNeg (0 : Int32)))
set_option maxHeartbeats 4000000 in
set_option maxRecDepth 100000 in
theorem w_X12_startOpening {l : Launch} {g : XG}  {a0 : Nat} {S : XS} (hk0 : kd a0 = 12) : Cl φV l g 1 mX12_startOpening [.ref a0] S (f_X12_startOpening a0 S) := by
  refine Cl.of (by decide +kernel) (Nat.le_of_ble_eq_true rfl) ?_
  unfold f_X12_startOpening
  show X _ _ _ _ _ 0 [(0, .ref a0)] [] S _
  refine X_iconst (n := 1) (v := 0) (kX12_startOpening 0 rfl) rfl (by decide) ?_
  refine X_istore_n (n := 2) (L1 := [(1, .int 0), (0, .ref a0)]) (kX12_startOpening 1 rfl) rfl rfl (Nat.le_of_ble_eq_true rfl) rfl ?_
  refine X_L [0, 1] rfl (w_X12_startOpening_L2 hk0 (fun S3 => ?_) 1000000 (0 : Int32) S)
  try dsimp only
  exact X_vret rfl (kX12_startOpening 12 rfl)
def f_X12_opened  (a0 : Nat) (i1 : Int32) (S : XS) : Option (Int32 × XS) := (if i1 < 0 then some ((-1 : Int32), (sI S a0 0 (0 : Int32))) else (if ((sI S a0 0 (0 : Int32)).1 a0 29) ≤ i1 then some ((-1 : Int32), (sI S a0 0 (0 : Int32))) else (if i1 < 0 ∨ ln (rf a0 26) ≤ i1.toNatClampNeg then none else some (((sI S a0 0 (0 : Int32)).1 (rf a0 26) i1.toNatClampNeg), (sI S a0 0 (0 : Int32))))))
set_option maxHeartbeats 4000000 in
set_option maxRecDepth 100000 in
theorem w_X12_opened {l : Launch} {g : XG}  {a0 : Nat} {i1 : Int32} {S : XS} (hk0 : kd a0 = 12) : Cl φI l g 1 mX12_opened [.ref a0, .int i1] S (f_X12_opened a0 i1 S) := by
  refine Cl.of (by decide +kernel) (Nat.le_of_ble_eq_true rfl) ?_
  unfold f_X12_opened
  show X _ _ _ _ _ 0 [(0, .ref a0), (1, .int i1)] [] S _
  refine X_aload_n (n := 1) 0 (kX12_opened 0 rfl) rfl rfl rfl ?_
  refine X_iconst (n := 2) (v := 0) (kX12_opened 1 rfl) rfl (by decide) ?_
  refine X_putI (n := 5) xf_X12 hk0 (by decide) fl_X12_100 rfl rfl (Or.inl rfl) (kX12_opened 2 rfl) rfl ?_
  refine X_iload_n (n := 6) 1 (kX12_opened 3 rfl) rfl rfl rfl ?_
  refine X_if_lt (n := 9) (tgt := 26) (kX12_opened 4 rfl) rfl rfl (fun h1 => ?_) (fun h1 => ?_)
  · refine X_iconst (n := 27) (v := (-1)) (kX12_opened 14 rfl) rfl (by decide) ?_
    exact X_iret rfl (kX12_opened 15 rfl)
  · refine X_iload_n (n := 10) 1 (kX12_opened 5 rfl) rfl rfl rfl ?_
    refine X_aload_n (n := 11) 0 (kX12_opened 6 rfl) rfl rfl rfl ?_
    refine X_getI (n := 14) xf_X12 hk0 (by decide) fl_X12_336 rfl (kX12_opened 7 rfl) rfl ?_
    refine X_ic_ge (n := 17) (tgt := 26) (kX12_opened 8 rfl) rfl rfl (fun h2 => ?_) (fun h2 => ?_)
    · refine X_iconst (n := 27) (v := (-1)) (kX12_opened 14 rfl) rfl (by decide) ?_
      exact X_iret rfl (kX12_opened 15 rfl)
    · refine X_aload_n (n := 18) 0 (kX12_opened 9 rfl) rfl rfl rfl ?_
      refine X_getR (n := 21) xf_X12 hk0 (by decide) fl_X12_48 rfl (kX12_opened 10 rfl) rfl ?_
      refine X_iload_n (n := 22) 1 (kX12_opened 11 rfl) rfl rfl rfl ?_
      refine X_iald (n := 23) (kt_12_26 hk0) (kX12_opened 12 rfl) rfl (fun h3 => ?_)
      refine X_goto (tgt := 27) (kX12_opened 13 rfl) rfl ?_
      exact X_iret rfl (kX12_opened 15 rfl)
def f_X12_changeAt  (a0 : Nat) (i1 : Int32) (S : XS) : Option (Int32 × XS) := (if i1 < 0 then some ((-1 : Int32), (sI S a0 0 (0 : Int32))) else (if ((sI S a0 0 (0 : Int32)).1 a0 44) ≤ i1 then some ((-1 : Int32), (sI S a0 0 (0 : Int32))) else (if i1 < 0 ∨ ln (rf a0 43) ≤ i1.toNatClampNeg then none else some (((sI S a0 0 (0 : Int32)).1 (rf a0 43) i1.toNatClampNeg), (sI S a0 0 (0 : Int32))))))
set_option maxHeartbeats 4000000 in
set_option maxRecDepth 100000 in
theorem w_X12_changeAt {l : Launch} {g : XG}  {a0 : Nat} {i1 : Int32} {S : XS} (hk0 : kd a0 = 12) : Cl φI l g 1 mX12_changeAt [.ref a0, .int i1] S (f_X12_changeAt a0 i1 S) := by
  refine Cl.of (by decide +kernel) (Nat.le_of_ble_eq_true rfl) ?_
  unfold f_X12_changeAt
  show X _ _ _ _ _ 0 [(0, .ref a0), (1, .int i1)] [] S _
  refine X_aload_n (n := 1) 0 (kX12_changeAt 0 rfl) rfl rfl rfl ?_
  refine X_iconst (n := 2) (v := 0) (kX12_changeAt 1 rfl) rfl (by decide) ?_
  refine X_putI (n := 5) xf_X12 hk0 (by decide) fl_X12_100 rfl rfl (Or.inl rfl) (kX12_changeAt 2 rfl) rfl ?_
  refine X_iload_n (n := 6) 1 (kX12_changeAt 3 rfl) rfl rfl rfl ?_
  refine X_if_lt (n := 9) (tgt := 26) (kX12_changeAt 4 rfl) rfl rfl (fun h1 => ?_) (fun h1 => ?_)
  · refine X_iconst (n := 27) (v := (-1)) (kX12_changeAt 14 rfl) rfl (by decide) ?_
    exact X_iret rfl (kX12_changeAt 15 rfl)
  · refine X_iload_n (n := 10) 1 (kX12_changeAt 5 rfl) rfl rfl rfl ?_
    refine X_aload_n (n := 11) 0 (kX12_changeAt 6 rfl) rfl rfl rfl ?_
    refine X_getI (n := 14) xf_X12 hk0 (by decide) fl_X12_351 rfl (kX12_changeAt 7 rfl) rfl ?_
    refine X_ic_ge (n := 17) (tgt := 26) (kX12_changeAt 8 rfl) rfl rfl (fun h2 => ?_) (fun h2 => ?_)
    · refine X_iconst (n := 27) (v := (-1)) (kX12_changeAt 14 rfl) rfl (by decide) ?_
      exact X_iret rfl (kX12_changeAt 15 rfl)
    · refine X_aload_n (n := 18) 0 (kX12_changeAt 9 rfl) rfl rfl rfl ?_
      refine X_getR (n := 21) xf_X12 hk0 (by decide) fl_X12_85 rfl (kX12_changeAt 10 rfl) rfl ?_
      refine X_iload_n (n := 22) 1 (kX12_changeAt 11 rfl) rfl rfl rfl ?_
      refine X_iald (n := 23) (kt_12_43 hk0) (kX12_changeAt 12 rfl) rfl (fun h3 => ?_)
      refine X_goto (tgt := 27) (kX12_changeAt 13 rfl) rfl ?_
      exact X_iret rfl (kX12_changeAt 15 rfl)
