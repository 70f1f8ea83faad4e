def f_X11_changeAt  (a0 : Nat) (i1 : Int32) (S : XS) : Option (Int32 × XS) := (if i1 < 0 then some ((-1 : Int32), S) else (if (S.1 (rf a0 16) 0) ≤ i1 then some ((-1 : Int32), S) else (if (40 : Int32) ≤ i1 then some ((-1 : Int32), S) else some ((gat S (rf (rf a0 16) 1) i1), S))))
set_option maxHeartbeats 4000000 in
set_option maxRecDepth 100000 in
theorem w_X11_changeAt {l : Launch} {g : XG}  {a0 : Nat} {i1 : Int32} {S : XS} (hk0 : kd a0 = 11) : Cl φI l g 2 mX11_changeAt [.ref a0, .int i1] S (f_X11_changeAt a0 i1 S) := by
  refine Cl.of (by decide +kernel) (Nat.le_of_ble_eq_true rfl) ?_
  unfold f_X11_changeAt
  show X _ _ _ _ _ 0 [(0, .ref a0), (1, .int i1)] [] S _
  refine X_iload_n (n := 1) 1 (kX11_changeAt 0 rfl) rfl rfl rfl ?_
  refine X_if_lt (n := 4) (tgt := 35) (kX11_changeAt 1 rfl) rfl rfl (fun h1 => ?_) (fun h1 => ?_)
  · refine X_iconst (n := 36) (v := (-1)) (kX11_changeAt 16 rfl) rfl (by decide) ?_
    exact X_iret rfl (kX11_changeAt 17 rfl)
  · refine X_iload_n (n := 5) 1 (kX11_changeAt 2 rfl) rfl rfl rfl ?_
    refine X_aload_n (n := 6) 0 (kX11_changeAt 3 rfl) rfl rfl rfl ?_
    refine X_getR (n := 9) xf_X11 hk0 (by decide) fl_X11_96 rfl (kX11_changeAt 4 rfl) rfl ?_
    refine X_getI (n := 12) xf_X0 (kt_11_16 hk0) (by decide) fl_X11_285 rfl (kX11_changeAt 5 rfl) rfl ?_
    refine X_ic_ge (n := 15) (tgt := 35) (kX11_changeAt 6 rfl) rfl rfl (fun h2 => ?_) (fun h2 => ?_)
    · refine X_iconst (n := 36) (v := (-1)) (kX11_changeAt 16 rfl) rfl (by decide) ?_
      exact X_iret rfl (kX11_changeAt 17 rfl)
    · refine X_iload_n (n := 16) 1 (kX11_changeAt 7 rfl) rfl rfl rfl ?_
      refine X_bipush (n := 18) (v := 40) (kX11_changeAt 8 rfl) rfl (by decide) ?_
      refine X_ic_ge (n := 21) (tgt := 35) (kX11_changeAt 9 rfl) rfl rfl (fun h3 => ?_) (fun h3 => ?_)
      · refine X_iconst (n := 36) (v := (-1)) (kX11_changeAt 16 rfl) rfl (by decide) ?_
        exact X_iret rfl (kX11_changeAt 17 rfl)
      · refine X_aload_n (n := 22) 0 (kX11_changeAt 10 rfl) rfl rfl rfl ?_
        refine X_getR (n := 25) xf_X11 hk0 (by decide) fl_X11_96 rfl (kX11_changeAt 11 rfl) rfl ?_
        refine X_getR (n := 28) xf_X0 (kt_11_16 hk0) (by decide) fl_X11_288 rfl (kX11_changeAt 12 rfl) rfl ?_
        refine X_iload_n (n := 29) 1 (kX11_changeAt 13 rfl) rfl rfl rfl ?_
        refine X_callS1I (n := 32) (As := [.ref (rf (rf a0 16) 1), .int i1]) (st := []) (kX11_changeAt 14 rfl) rfl (p_X11_at (kt_0_1 (kt_11_16 hk0))) (by decide) ml_X11_154 mf_X11_at rfl rfl (Nat.le_of_ble_eq_true rfl) ?_
        refine X_goto (tgt := 36) (kX11_changeAt 15 rfl) rfl ?_
        exact X_iret rfl (kX11_changeAt 17 rfl)
def t_X11_changeAt (a0 : Nat) (i1 : Int32) (S : XS) : Int32 := (if i1 < 0 then (-1 : Int32) else (if (S.1 (rf a0 16) 0) ≤ i1 then (-1 : Int32) else (if (40 : Int32) ≤ i1 then (-1 : Int32) else (gat S (rf (rf a0 16) 1) i1))))
theorem ft_X11_changeAt (a0 : Nat) (i1 : Int32) (S : XS) : f_X11_changeAt a0 i1 S = some (t_X11_changeAt a0 i1 S, S) := by
  unfold f_X11_changeAt t_X11_changeAt
  first | rfl | simp only [ite_p]
theorem p_X11_changeAt {l : Launch} {g : XG} {a0 : Nat} {i1 : Int32} {S : XS} (hk0 : kd a0 = 11) : Cl φI l g 2 mX11_changeAt [.ref a0, .int i1] S (some (t_X11_changeAt a0 i1 S, S)) := ft_X11_changeAt a0 i1 S ▸ w_X11_changeAt hk0
def f_X11_strangers_L27  (i3 : Int32) (a0 : Nat) : Nat → Int32 → Int32 → Int32 → Int32 → XS → Option (Int32 × Int32)
  | 0, _, _, _, _, _ => none
  | n + 1, i1, i2, i4, i5, S => (if (6 : Int32) ≤ i5 then some (i1, i2) else (if ((shr32 i2 i4) &&& (1 : Int32)) = 0 then (if (gat S (rf (rf a0 3) 2) i4) = i3 then f_X11_strangers_L27 i3 a0 n (i1 + (0 : Int32)) (i2 ||| (shl32 (1 : Int32) i4)) (gat S (rf (rf a0 3) 2) i4) (i5 + 1) S else f_X11_strangers_L27 i3 a0 n (i1 + (1 : Int32)) (i2 ||| (shl32 (1 : Int32) i4)) (gat S (rf (rf a0 3) 2) i4) (i5 + 1) S) else some (i1, i2)))
def f_X11_strangers_L6  (a0 : Nat) : Nat → Int32 → Int32 → Int32 → XS → Option (Int32)
  | 0, _, _, _, _ => none
  | n + 1, i1, i2, i3, S => (if (gat S (rf (rf a0 1) 0) (2 : Int32)) ≤ i3 then some i1 else ((f_X11_strangers_L27 i3 a0 1000000 i1 i2 i3 (0 : Int32) S).bind (fun q => match q with | (e5, e6) => f_X11_strangers_L6 a0 n e5 e6 (i3 + 1) S)))
def f_X11_strangers  (a0 : Nat) (S : XS) : Option (Int32 × XS) := ((f_X11_strangers_L6 a0 1000000 (0 : Int32) (0 : Int32) (0 : Int32) S).bind (fun e7 => some (e7, S)))
set_option maxHeartbeats 4000000 in
set_option maxRecDepth 100000 in
theorem w_X11_strangers_L27 {l : Launch} {g : XG} {G : (Int32 × Int32) → Option (Int32 × XS)}  {i3 : Int32} {a0 : Nat} (hk0 : kd a0 = 11) {S : XS} (kE : ∀ (e1 : Int32) (e2 : Int32), X φI l g 2 mX11_strangers 84 [(3, .int i3), (2, .int e2), (1, .int e1), (0, .ref a0)] [] S (G (e1, e2))) : ∀ (n : Nat) (i1 : Int32) (i2 : Int32) (i4 : Int32) (i5 : Int32), X φI l g 2 mX11_strangers 27 [(5, .int i5), (4, .int i4), (3, .int i3), (2, .int i2), (1, .int i1), (0, .ref a0)] [] S ((f_X11_strangers_L27 i3 a0 n i1 i2 i4 i5 S).bind G) := by
  intro n
  induction n with
  | zero => intro i1 i2 i4 i5; exact X_none
  | succ n ih =>
  · intro i1 i2 i4 i5
    rw [f_X11_strangers_L27]
    refine X_iload (n := 29) 0 (kX11_strangers 17 rfl) rfl rfl ?_
    refine X_bipush (n := 31) (v := 6) (kX11_strangers 18 rfl) rfl (by decide) ?_
    refine X_itebind ?_
    refine X_ic_ge (n := 34) (tgt := 84) (kX11_strangers 19 rfl) rfl rfl (fun h2 => ?_) (fun h2 => ?_)
    · exact X_L [2, 3, 4, 5] rfl (kE i1 i2)
    · refine X_iload_n (n := 35) 3 (kX11_strangers 20 rfl) rfl rfl rfl ?_
      refine X_iload (n := 37) 1 (kX11_strangers 21 rfl) rfl rfl ?_
      refine X_ishr (n := 38) (kX11_strangers 22 rfl) rfl ?_
      refine X_iconst (n := 39) (v := 1) (kX11_strangers 23 rfl) rfl (by decide) ?_
      refine X_iand (n := 40) (kX11_strangers 24 rfl) rfl ?_
      refine X_itebind ?_
      refine X_if_ne (n := 43) (tgt := 84) (kX11_strangers 25 rfl) rfl rfl (fun h3 => ?_) (fun h3 => ?_)
      · refine X_iload_n (n := 44) 3 (kX11_strangers 26 rfl) rfl rfl rfl ?_
        refine X_iconst (n := 45) (v := 1) (kX11_strangers 27 rfl) rfl (by decide) ?_
        refine X_iload (n := 47) 1 (kX11_strangers 28 rfl) rfl rfl ?_
        refine X_ishl (n := 48) (kX11_strangers 29 rfl) rfl ?_
        refine X_ior (n := 49) (kX11_strangers 30 rfl) rfl ?_
        refine X_istore_n (n := 50) (L1 := [(2, .int (i2 ||| (shl32 (1 : Int32) i4))), (5, .int i5), (4, .int i4), (3, .int i3), (1, .int i1), (0, .ref a0)]) (kX11_strangers 31 rfl) rfl rfl (Nat.le_of_ble_eq_true rfl) rfl ?_
        refine X_aload_n (n := 51) 5 (kX11_strangers 32 rfl) rfl rfl rfl ?_
        refine X_getR (n := 54) xf_X11 hk0 (by decide) fl_X11_35 rfl (kX11_strangers 33 rfl) rfl ?_
        refine X_getR (n := 57) xf_X10 (kt_11_3 hk0) (by decide) fl_X11_164 rfl (kX11_strangers 34 rfl) rfl ?_
        refine X_iload (n := 59) 2 (kX11_strangers 35 rfl) rfl rfl ?_
        refine X_callS1I (n := 62) (As := [.ref (rf (rf a0 3) 2), .int i4]) (st := []) (kX11_strangers 36 rfl) rfl (p_X11_at (kt_10_2 (kt_11_3 hk0))) (by decide) ml_X11_154 mf_X11_at rfl rfl (Nat.le_of_ble_eq_true rfl) ?_
        refine X_istore (n := 64) (L1 := [(4, .int (gat S (rf (rf a0 3) 2) i4)), (2, .int (i2 ||| (shl32 (1 : Int32) i4))), (5, .int i5), (3, .int i3), (1, .int i1), (0, .ref a0)]) (kX11_strangers 37 rfl) rfl (Nat.le_of_ble_eq_true rfl) rfl ?_
        refine X_iload_n (n := 65) 4 (kX11_strangers 38 rfl) rfl rfl rfl ?_
        refine X_iload (n := 67) 0 (kX11_strangers 39 rfl) rfl rfl ?_
        refine X_iload_n (n := 68) 3 (kX11_strangers 40 rfl) rfl rfl rfl ?_
        refine X_itebind ?_
        refine X_ic_ne (n := 71) (tgt := 75) (kX11_strangers 41 rfl) rfl rfl (fun h4 => ?_) (fun h4 => ?_)
        · refine X_iconst (n := 72) (v := 0) (kX11_strangers 42 rfl) rfl (by decide) ?_
          refine X_goto (tgt := 76) (kX11_strangers 43 rfl) rfl ?_
          refine X_iadd (n := 77) (kX11_strangers 45 rfl) rfl ?_
          refine X_istore_n (n := 78) (L1 := [(1, .int (i1 + (0 : Int32))), (4, .int (gat S (rf (rf a0 3) 2) i4)), (2, .int (i2 ||| (shl32 (1 : Int32) i4))), (5, .int i5), (3, .int i3), (0, .ref a0)]) (kX11_strangers 46 rfl) rfl rfl (Nat.le_of_ble_eq_true rfl) rfl ?_
          refine X_iinc (n := 81) 3 (v := (i5 + 1)) (L1 := [(5, .int (i5 + 1)), (1, .int (i1 + (0 : Int32))), (4, .int (gat S (rf (rf a0 3) 2) i4)), (2, .int (i2 ||| (shl32 (1 : Int32) i4))), (3, .int i3), (0, .ref a0)]) (kX11_strangers 47 rfl) rfl rfl rfl (Nat.le_of_ble_eq_true rfl) rfl ?_
          refine X_goto (tgt := 27) (kX11_strangers 48 rfl) rfl ?_
          exact X_L [0, 2, 4, 3, 1, 5] rfl (ih (i1 + (0 : Int32)) (i2 ||| (shl32 (1 : Int32) i4)) (gat S (rf (rf a0 3) 2) i4) (i5 + 1))
        · refine X_iconst (n := 76) (v := 1) (kX11_strangers 44 rfl) rfl (by decide) ?_
          refine X_iadd (n := 77) (kX11_strangers 45 rfl) rfl ?_
          refine X_istore_n (n := 78) (L1 := [(1, .int (i1 + (1 : Int32))), (4, .int (gat S (rf (rf a0 3) 2) i4)), (2, .int (i2 ||| (shl32 (1 : Int32) i4))), (5, .int i5), (3, .int i3), (0, .ref a0)]) (kX11_strangers 46 rfl) rfl rfl (Nat.le_of_ble_eq_true rfl) rfl ?_
          refine X_iinc (n := 81) 3 (v := (i5 + 1)) (L1 := [(5, .int (i5 + 1)), (1, .int (i1 + (1 : Int32))), (4, .int (gat S (rf (rf a0 3) 2) i4)), (2, .int (i2 ||| (shl32 (1 : Int32) i4))), (3, .int i3), (0, .ref a0)]) (kX11_strangers 47 rfl) rfl rfl rfl (Nat.le_of_ble_eq_true rfl) rfl ?_
          refine X_goto (tgt := 27) (kX11_strangers 48 rfl) rfl ?_
          exact X_L [0, 2, 4, 3, 1, 5] rfl (ih (i1 + (1 : Int32)) (i2 ||| (shl32 (1 : Int32) i4)) (gat S (rf (rf a0 3) 2) i4) (i5 + 1))
      · exact X_L [2, 3, 4, 5] rfl (kE i1 i2)
set_option maxHeartbeats 4000000 in
set_option maxRecDepth 100000 in
theorem w_X11_strangers_L6 {l : Launch} {g : XG} {G : (Int32) → Option (Int32 × XS)}  {a0 : Nat} (hk0 : kd a0 = 11) {S : XS} (kE : ∀ (e1 : Int32), X φI l g 2 mX11_strangers 90 [(1, .int e1)] [] S (G e1)) : ∀ (n : Nat) (i1 : Int32) (i2 : Int32) (i3 : Int32), X φI l g 2 mX11_strangers 6 [(3, .int i3), (2, .int i2), (1, .int i1), (0, .ref a0)] [] S ((f_X11_strangers_L6 a0 n i1 i2 i3 S).bind G) := by
  intro n
  induction n with
  | zero => intro i1 i2 i3; exact X_none
  | succ n ih =>
  · intro i1 i2 i3
    rw [f_X11_strangers_L6]
    refine X_iload_n (n := 7) 0 (kX11_strangers 6 rfl) rfl rfl rfl ?_
    refine X_aload_n (n := 8) 3 (kX11_strangers 7 rfl) rfl rfl rfl ?_
    refine X_getR (n := 11) xf_X11 hk0 (by decide) fl_X11_19 rfl (kX11_strangers 8 rfl) rfl ?_
    refine X_getR (n := 14) xf_X2 (kt_11_1 hk0) (by decide) fl_X11_260 rfl (kX11_strangers 9 rfl) rfl ?_
    refine X_iconst (n := 15) (v := 2) (kX11_strangers 10 rfl) rfl (by decide) ?_
    refine X_callS1I (n := 18) (As := [.ref (rf (rf a0 1) 0), .int (2 : Int32)]) (st := [.int i3]) (kX11_strangers 11 rfl) rfl (p_X11_at (kt_2_0 (kt_11_1 hk0))) (by decide) ml_X11_154 mf_X11_at rfl rfl (Nat.le_of_ble_eq_true rfl) ?_
    refine X_itebind ?_
    refine X_ic_ge (n := 21) (tgt := 90) (kX11_strangers 12 rfl) rfl rfl (fun h1 => ?_) (fun h1 => ?_)
    · exact X_L [2] rfl (kE i1)
    · refine X_iload_n (n := 22) 0 (kX11_strangers 13 rfl) rfl rfl rfl ?_
      refine X_istore (n := 24) (L1 := [(4, .int i3), (3, .int i3), (2, .int i2), (1, .int i1), (0, .ref a0)]) (kX11_strangers 14 rfl) rfl (Nat.le_of_ble_eq_true rfl) rfl ?_
      refine X_iconst (n := 25) (v := 0) (kX11_strangers 15 rfl) rfl (by decide) ?_
      refine X_istore (n := 27) (L1 := [(5, .int 0), (4, .int i3), (3, .int i3), (2, .int i2), (1, .int i1), (0, .ref a0)]) (kX11_strangers 16 rfl) rfl (Nat.le_of_ble_eq_true rfl) rfl ?_
      refine X_assoc ?_
      refine X_L [0, 1, 2, 3, 4, 5] rfl (w_X11_strangers_L27 hk0 (fun e5 e6 => ?_) 1000000 i1 i2 i3 (0 : Int32))
      try dsimp only
      refine X_iinc (n := 87) 0 (v := (i3 + 1)) (L1 := [(3, .int (i3 + 1)), (2, .int e6), (1, .int e5), (0, .ref a0)]) (kX11_strangers 49 rfl) rfl rfl rfl (Nat.le_of_ble_eq_true rfl) rfl ?_
      refine X_goto (tgt := 6) (kX11_strangers 50 rfl) rfl ?_
      exact X_L [0, 1, 2, 3] rfl (ih e5 e6 (i3 + 1))
set_option maxHeartbeats 4000000 in
set_option maxRecDepth 100000 in
theorem w_X11_strangers {l : Launch} {g : XG}  {a0 : Nat} {S : XS} (hk0 : kd a0 = 11) : Cl φI l g 2 mX11_strangers [.ref a0] S (f_X11_strangers a0 S) := by
  refine Cl.of (by decide +kernel) (Nat.le_of_ble_eq_true rfl) ?_
  unfold f_X11_strangers
  show X _ _ _ _ _ 0 [(0, .ref a0)] [] S _
  refine X_iconst (n := 1) (v := 0) (kX11_strangers 0 rfl) rfl (by decide) ?_
  refine X_istore_n (n := 2) (L1 := [(1, .int 0), (0, .ref a0)]) (kX11_strangers 1 rfl) rfl rfl (Nat.le_of_ble_eq_true rfl) rfl ?_
  refine X_iconst (n := 3) (v := 0) (kX11_strangers 2 rfl) rfl (by decide) ?_
  refine X_istore_n (n := 4) (L1 := [(2, .int 0), (1, .int 0), (0, .ref a0)]) (kX11_strangers 3 rfl) rfl rfl (Nat.le_of_ble_eq_true rfl) rfl ?_
  refine X_iconst (n := 5) (v := 0) (kX11_strangers 4 rfl) rfl (by decide) ?_
  refine X_istore_n (n := 6) (L1 := [(3, .int 0), (2, .int 0), (1, .int 0), (0, .ref a0)]) (kX11_strangers 5 rfl) rfl rfl (Nat.le_of_ble_eq_true rfl) rfl ?_
  refine X_L [0, 1, 2, 3] rfl (w_X11_strangers_L6 hk0 (fun e7 => ?_) 1000000 (0 : Int32) (0 : Int32) (0 : Int32))
  try dsimp only
  refine X_iload_n (n := 91) 0 (kX11_strangers 51 rfl) rfl rfl rfl ?_
  exact X_iret rfl (kX11_strangers 52 rfl)
def f_X11_wearer_L2  (a0 : Nat) (i1 : Int32) : Nat → Int32 → XS → Option ((Int32 × XS) ⊕ (Unit))
  | 0, _, _ => none
  | n + 1, i2, S => (if (gat S (rf (rf a0 1) 0) (2 : Int32)) ≤ i2 then some (.inr ()) else (if (gat S (rf (rf a0 3) 2) i2) = i1 then some (.inl (i2, S)) else f_X11_wearer_L2 a0 i1 n (i2 + 1) S))
def f_X11_wearer  (a0 : Nat) (i1 : Int32) (S : XS) : Option (Int32 × XS) := ((f_X11_wearer_L2 a0 i1 1000000 (0 : Int32) S).bind (fun q => match q with | .inl r => some r | .inr _ => some ((-1 : Int32), S)))
set_option maxHeartbeats 4000000 in
set_option maxRecDepth 100000 in
theorem w_X11_wearer_L2 {l : Launch} {g : XG} {G : ((Int32 × XS) ⊕ (Unit)) → Option (Int32 × XS)}  {a0 : Nat} {i1 : Int32} (hk0 : kd a0 = 11) {S : XS} (kE : X φI l g 2 mX11_wearer 40 [] [] S (G (.inr ()))) (kR : ∀ r, G (.inl r) = some r) : ∀ (n : Nat) (i2 : Int32), X φI l g 2 mX11_wearer 2 [(2, .int i2), (0, .ref a0), (1, .int i1)] [] S ((f_X11_wearer_L2 a0 i1 n i2 S).bind G) := by
  intro n
  induction n with
  | zero => intro i2; exact X_none
  | succ n ih =>
  · intro i2
    rw [f_X11_wearer_L2]
    refine X_iload_n (n := 3) 0 (kX11_wearer 2 rfl) rfl rfl rfl ?_
    refine X_aload_n (n := 4) 1 (kX11_wearer 3 rfl) rfl rfl rfl ?_
    refine X_getR (n := 7) xf_X11 hk0 (by decide) fl_X11_19 rfl (kX11_wearer 4 rfl) rfl ?_
    refine X_getR (n := 10) xf_X2 (kt_11_1 hk0) (by decide) fl_X11_260 rfl (kX11_wearer 5 rfl) rfl ?_
    refine X_iconst (n := 11) (v := 2) (kX11_wearer 6 rfl) rfl (by decide) ?_
    refine X_callS1I (n := 14) (As := [.ref (rf (rf a0 1) 0), .int (2 : Int32)]) (st := [.int i2]) (kX11_wearer 7 rfl) rfl (p_X11_at (kt_2_0 (kt_11_1 hk0))) (by decide) ml_X11_154 mf_X11_at rfl rfl (Nat.le_of_ble_eq_true rfl) ?_
    refine X_itebind ?_
    refine X_ic_ge (n := 17) (tgt := 40) (kX11_wearer 8 rfl) rfl rfl (fun h1 => ?_) (fun h1 => ?_)
    · exact X_L [] rfl kE
    · refine X_aload_n (n := 18) 1 (kX11_wearer 9 rfl) rfl rfl rfl ?_
      refine X_getR (n := 21) xf_X11 hk0 (by decide) fl_X11_35 rfl (kX11_wearer 10 rfl) rfl ?_
      refine X_getR (n := 24) xf_X10 (kt_11_3 hk0) (by decide) fl_X11_164 rfl (kX11_wearer 11 rfl) rfl ?_
      refine X_iload_n (n := 25) 0 (kX11_wearer 12 rfl) rfl rfl rfl ?_
      refine X_callS1I (n := 28) (As := [.ref (rf (rf a0 3) 2), .int i2]) (st := []) (kX11_wearer 13 rfl) rfl (p_X11_at (kt_10_2 (kt_11_3 hk0))) (by decide) ml_X11_154 mf_X11_at rfl rfl (Nat.le_of_ble_eq_true rfl) ?_
      refine X_iload_n (n := 29) 2 (kX11_wearer 14 rfl) rfl rfl rfl ?_
      refine X_itebind ?_
      refine X_ic_ne (n := 32) (tgt := 34) (kX11_wearer 15 rfl) rfl rfl (fun h2 => ?_) (fun h2 => ?_)
      · refine X_iload_n (n := 33) 0 (kX11_wearer 16 rfl) rfl rfl rfl ?_
        exact X_req (kR _) (X_iret rfl (kX11_wearer 17 rfl))
      · refine X_iinc (n := 37) 0 (v := (i2 + 1)) (L1 := [(2, .int (i2 + 1)), (0, .ref a0), (1, .int i1)]) (kX11_wearer 18 rfl) rfl rfl rfl (Nat.le_of_ble_eq_true rfl) rfl ?_
        refine X_goto (tgt := 2) (kX11_wearer 19 rfl) rfl ?_
        exact X_L [0, 1, 2] rfl (ih (i2 + 1))
set_option maxHeartbeats 4000000 in
set_option maxRecDepth 100000 in
theorem w_X11_wearer {l : Launch} {g : XG}  {a0 : Nat} {i1 : Int32} {S : XS} (hk0 : kd a0 = 11) : Cl φI l g 2 mX11_wearer [.ref a0, .int i1] S (f_X11_wearer a0 i1 S) := by
  refine Cl.of (by decide +kernel) (Nat.le_of_ble_eq_true rfl) ?_
  unfold f_X11_wearer
  show X _ _ _ _ _ 0 [(0, .ref a0), (1, .int i1)] [] S _
  refine X_iconst (n := 1) (v := 0) (kX11_wearer 0 rfl) rfl (by decide) ?_
  refine X_istore_n (n := 2) (L1 := [(2, .int 0), (0, .ref a0), (1, .int i1)]) (kX11_wearer 1 rfl) rfl rfl (Nat.le_of_ble_eq_true rfl) rfl ?_
  refine X_L [0, 1, 2] rfl (w_X11_wearer_L2 hk0 ?_ ?_ 1000000 (0 : Int32))
  · refine X_iconst (n := 41) (v := (-1)) (kX11_wearer 20 rfl) rfl (by decide) ?_
    exact X_iret rfl (kX11_wearer 21 rfl)
  · intro r
    rfl
def f_X11_canDraw  (a0 : Nat) (S : XS) : Option (Bool × XS) := (if (gat S (rf (rf a0 1) 0) (2 : Int32)) ≤ 0 then some (false, S) else (if (gat S (rf (rf a0 1) 0) (1 : Int32)) ≤ 0 then some (false, S) else some (true, S)))
set_option maxHeartbeats 4000000 in
set_option maxRecDepth 100000 in
theorem w_X11_canDraw {l : Launch} {g : XG}  {a0 : Nat} {S : XS} (hk0 : kd a0 = 11) : Cl φB l g 2 mX11_canDraw [.ref a0] S (f_X11_canDraw a0 S) := by
  refine Cl.of (by decide +kernel) (Nat.le_of_ble_eq_true rfl) ?_
  unfold f_X11_canDraw
  show X _ _ _ _ _ 0 [(0, .ref a0)] [] S _
  refine X_aload_n (n := 1) 0 (kX11_canDraw 0 rfl) rfl rfl rfl ?_
  refine X_getR (n := 4) xf_X11 hk0 (by decide) fl_X11_19 rfl (kX11_canDraw 1 rfl) rfl ?_
  refine X_getR (n := 7) xf_X2 (kt_11_1 hk0) (by decide) fl_X11_260 rfl (kX11_canDraw 2 rfl) rfl ?_
  refine X_iconst (n := 8) (v := 2) (kX11_canDraw 3 rfl) rfl (by decide) ?_
  refine X_callS1I (n := 11) (As := [.ref (rf (rf a0 1) 0), .int (2 : Int32)]) (st := []) (kX11_canDraw 4 rfl) rfl (p_X11_at (kt_2_0 (kt_11_1 hk0))) (by decide) ml_X11_154 mf_X11_at rfl rfl (Nat.le_of_ble_eq_true rfl) ?_
  refine X_if_le (n := 14) (tgt := 32) (kX11_canDraw 5 rfl) rfl rfl (fun h1 => ?_) (fun h1 => ?_)
  · refine X_iconst (n := 33) (v := 0) (kX11_canDraw 14 rfl) rfl (by decide) ?_
    exact X_zret (b := false) rfl (kX11_canDraw 15 rfl)
  · refine X_aload_n (n := 15) 0 (kX11_canDraw 6 rfl) rfl rfl rfl ?_
    refine X_getR (n := 18) xf_X11 hk0 (by decide) fl_X11_19 rfl (kX11_canDraw 7 rfl) rfl ?_
    refine X_getR (n := 21) xf_X2 (kt_11_1 hk0) (by decide) fl_X11_260 rfl (kX11_canDraw 8 rfl) rfl ?_
    refine X_iconst (n := 22) (v := 1) (kX11_canDraw 9 rfl) rfl (by decide) ?_
    refine X_callS1I (n := 25) (As := [.ref (rf (rf a0 1) 0), .int (1 : Int32)]) (st := []) (kX11_canDraw 10 rfl) rfl (p_X11_at (kt_2_0 (kt_11_1 hk0))) (by decide) ml_X11_154 mf_X11_at rfl rfl (Nat.le_of_ble_eq_true rfl) ?_
    refine X_if_le (n := 28) (tgt := 32) (kX11_canDraw 11 rfl) rfl rfl (fun h2 => ?_) (fun h2 => ?_)
    · refine X_iconst (n := 33) (v := 0) (kX11_canDraw 14 rfl) rfl (by decide) ?_
      exact X_zret (b := false) rfl (kX11_canDraw 15 rfl)
    · refine X_iconst (n := 29) (v := 1) (kX11_canDraw 12 rfl) rfl (by decide) ?_
      refine X_goto (tgt := 33) (kX11_canDraw 13 rfl) rfl ?_
      exact X_zret (b := true) rfl (kX11_canDraw 15 rfl)
def t_X11_canDraw (a0 : Nat) (S : XS) : Bool := (if (gat S (rf (rf a0 1) 0) (2 : Int32)) ≤ 0 then false else (if (gat S (rf (rf a0 1) 0) (1 : Int32)) ≤ 0 then false else true))
theorem ft_X11_canDraw (a0 : Nat) (S : XS) : f_X11_canDraw a0 S = some (t_X11_canDraw a0 S, S) := by
  unfold f_X11_canDraw t_X11_canDraw
  first | rfl | simp only [ite_p]
theorem p_X11_canDraw {l : Launch} {g : XG} {a0 : Nat} {S : XS} (hk0 : kd a0 = 11) : Cl φB l g 2 mX11_canDraw [.ref a0] S (some (t_X11_canDraw a0 S, S)) := ft_X11_canDraw a0 S ▸ w_X11_canDraw hk0
def f_X11_writeByte  (a0 : Nat) (i1 : Int32) (S : XS) : Option (XS) := some (sI (pat S (rf a0 18) (S.1 a0 19) i1) a0 19 (if (((pat S (rf a0 18) (S.1 a0 19) i1).1 a0 19) + (1 : Int32)) < (66 : Int32) then (((pat S (rf a0 18) (S.1 a0 19) i1).1 a0 19) + (1 : Int32)) else (66 : Int32)))
set_option maxHeartbeats 4000000 in
set_option maxRecDepth 100000 in
theorem w_X11_writeByte {l : Launch} {g : XG}  {a0 : Nat} {i1 : Int32} {S : XS} (hk0 : kd a0 = 11) : Cl φV l g 2 mX11_writeByte [.ref a0, .int i1] S (f_X11_writeByte a0 i1 S) := by
  refine Cl.of (by decide +kernel) (Nat.le_of_ble_eq_true rfl) ?_
  unfold f_X11_writeByte
  show X _ _ _ _ _ 0 [(0, .ref a0), (1, .int i1)] [] S _
  refine X_aload_n (n := 1) 0 (kX11_writeByte 0 rfl) rfl rfl rfl ?_
  refine X_getR (n := 4) xf_X11 hk0 (by decide) fl_X11_107 rfl (kX11_writeByte 1 rfl) rfl ?_
  refine X_aload_n (n := 5) 0 (kX11_writeByte 2 rfl) rfl rfl rfl ?_
  refine X_getI (n := 8) xf_X11 hk0 (by decide) fl_X11_336 rfl (kX11_writeByte 3 rfl) rfl ?_
  refine X_iload_n (n := 9) 1 (kX11_writeByte 4 rfl) rfl rfl rfl ?_
  refine X_callS1V (n := 12) (As := [.ref (rf a0 18), .int (S.1 a0 19), .int i1]) (st := []) (kX11_writeByte 5 rfl) rfl (p_X11_put (kt_11_18 hk0)) (by decide) ml_X11_198 mf_X11_put rfl rfl (Nat.le_of_ble_eq_true rfl) ?_
  refine X_aload_n (n := 13) 0 (kX11_writeByte 6 rfl) rfl rfl rfl ?_
  refine X_aload_n (n := 14) 0 (kX11_writeByte 7 rfl) rfl rfl rfl ?_
  refine X_getR (n := 17) xf_X11 hk0 (by decide) fl_X11_107 rfl (kX11_writeByte 8 rfl) rfl ?_
  refine X_alenI (n := 18) (v := 66) (kt_11_18 hk0) (kX11_writeByte 9 rfl) rfl (by rw [lt_11_18 hk0]; rfl) ?_
  refine X_aload_n (n := 19) 0 (kX11_writeByte 10 rfl) rfl rfl rfl ?_
  refine X_getI (n := 22) xf_X11 hk0 (by decide) fl_X11_336 rfl (kX11_writeByte 11 rfl) rfl ?_
  refine X_iconst (n := 23) (v := 1) (kX11_writeByte 12 rfl) rfl (by decide) ?_
  refine X_iadd (n := 24) (kX11_writeByte 13 rfl) rfl ?_
  refine X_mmin (n := 27) (kX11_writeByte 14 rfl) rfl (by decide) ml_X11_371 ms1_min ms2 ms3_min (Nat.le_of_ble_eq_true rfl) ?_
  refine X_putI (n := 30) xf_X11 hk0 (by decide) fl_X11_336 rfl rfl (Or.inl rfl) (kX11_writeByte 15 rfl) rfl ?_
  exact X_vret rfl (kX11_writeByte 16 rfl)
def t_X11_writeByte (a0 : Nat) (i1 : Int32) (S : XS) : XS := (sI (pat S (rf a0 18) (S.1 a0 19) i1) a0 19 (if (((pat S (rf a0 18) (S.1 a0 19) i1).1 a0 19) + (1 : Int32)) < (66 : Int32) then (((pat S (rf a0 18) (S.1 a0 19) i1).1 a0 19) + (1 : Int32)) else (66 : Int32)))
theorem ft_X11_writeByte (a0 : Nat) (i1 : Int32) (S : XS) : f_X11_writeByte a0 i1 S = some (t_X11_writeByte a0 i1 S) := by
  unfold f_X11_writeByte t_X11_writeByte
  first | rfl | simp only [ite_u]
theorem p_X11_writeByte {l : Launch} {g : XG} {a0 : Nat} {i1 : Int32} {S : XS} (hk0 : kd a0 = 11) : Cl φV l g 2 mX11_writeByte [.ref a0, .int i1] S (some (t_X11_writeByte a0 i1 S)) := ft_X11_writeByte a0 i1 S ▸ w_X11_writeByte hk0
def f_X11_byteAt  (a0 : Nat) (i1 : Int32) (S : XS) : Option (Int32 × XS) := (if i1 < 0 then some ((-1 : Int32), S) else (if (S.1 a0 19) ≤ i1 then some ((-1 : Int32), S) else some ((gat S (rf a0 18) i1), S)))
set_option maxHeartbeats 4000000 in
set_option maxRecDepth 100000 in
theorem w_X11_byteAt {l : Launch} {g : XG}  {a0 : Nat} {i1 : Int32} {S : XS} (hk0 : kd a0 = 11) : Cl φI l g 2 mX11_byteAt [.ref a0, .int i1] S (f_X11_byteAt a0 i1 S) := by
  refine Cl.of (by decide +kernel) (Nat.le_of_ble_eq_true rfl) ?_
  unfold f_X11_byteAt
  show X _ _ _ _ _ 0 [(0, .ref a0), (1, .int i1)] [] S _
  refine X_iload_n (n := 1) 1 (kX11_byteAt 0 rfl) rfl rfl rfl ?_
  refine X_if_lt (n := 4) (tgt := 23) (kX11_byteAt 1 rfl) rfl rfl (fun h1 => ?_) (fun h1 => ?_)
  · refine X_iconst (n := 24) (v := (-1)) (kX11_byteAt 11 rfl) rfl (by decide) ?_
    exact X_iret rfl (kX11_byteAt 12 rfl)
  · refine X_iload_n (n := 5) 1 (kX11_byteAt 2 rfl) rfl rfl rfl ?_
    refine X_aload_n (n := 6) 0 (kX11_byteAt 3 rfl) rfl rfl rfl ?_
    refine X_getI (n := 9) xf_X11 hk0 (by decide) fl_X11_336 rfl (kX11_byteAt 4 rfl) rfl ?_
    refine X_ic_ge (n := 12) (tgt := 23) (kX11_byteAt 5 rfl) rfl rfl (fun h2 => ?_) (fun h2 => ?_)
    · refine X_iconst (n := 24) (v := (-1)) (kX11_byteAt 11 rfl) rfl (by decide) ?_
      exact X_iret rfl (kX11_byteAt 12 rfl)
    · refine X_aload_n (n := 13) 0 (kX11_byteAt 6 rfl) rfl rfl rfl ?_
      refine X_getR (n := 16) xf_X11 hk0 (by decide) fl_X11_107 rfl (kX11_byteAt 7 rfl) rfl ?_
      refine X_iload_n (n := 17) 1 (kX11_byteAt 8 rfl) rfl rfl rfl ?_
      refine X_callS1I (n := 20) (As := [.ref (rf a0 18), .int i1]) (st := []) (kX11_byteAt 9 rfl) rfl (p_X11_at (kt_11_18 hk0)) (by decide) ml_X11_154 mf_X11_at rfl rfl (Nat.le_of_ble_eq_true rfl) ?_
      refine X_goto (tgt := 24) (kX11_byteAt 10 rfl) rfl ?_
      exact X_iret rfl (kX11_byteAt 12 rfl)
def t_X11_byteAt (a0 : Nat) (i1 : Int32) (S : XS) : Int32 := (if i1 < 0 then (-1 : Int32) else (if (S.1 a0 19) ≤ i1 then (-1 : Int32) else (gat S (rf a0 18) i1)))
theorem ft_X11_byteAt (a0 : Nat) (i1 : Int32) (S : XS) : f_X11_byteAt a0 i1 S = some (t_X11_byteAt a0 i1 S, S) := by
  unfold f_X11_byteAt t_X11_byteAt
  first | rfl | simp only [ite_p]
theorem p_X11_byteAt {l : Launch} {g : XG} {a0 : Nat} {i1 : Int32} {S : XS} (hk0 : kd a0 = 11) : Cl φI l g 2 mX11_byteAt [.ref a0, .int i1] S (some (t_X11_byteAt a0 i1 S, S)) := ft_X11_byteAt a0 i1 S ▸ w_X11_byteAt hk0
def f_X11_count  (a0 : Nat) (i1 : Int32) (S : XS) : Option (Int32 × XS) := (if i1 = 0 then some ((gat S (rf (rf a0 1) 0) (0 : Int32)), S) else (if i1 = 1 then some ((gat S (rf (rf a0 1) 0) (1 : Int32)), S) else (if i1 = 2 then some ((gat S (rf (rf a0 1) 0) (2 : Int32)), S) else (if i1 = 3 then some ((gat S (rf (rf a0 1) 0) (3 : Int32)), S) else (if i1 = 4 then some ((S.1 (rf a0 3) 0), S) else (if i1 = 5 then some ((S.1 (rf a0 3) 4), S) else (if i1 = 6 then some ((S.1 (rf a0 0) 1), S) else some ((-1 : Int32), S))))))))
set_option maxHeartbeats 4000000 in
set_option maxRecDepth 100000 in
theorem w_X11_count {l : Launch} {g : XG}  {a0 : Nat} {i1 : Int32} {S : XS} (hk0 : kd a0 = 11) : Cl φI l g 2 mX11_count [.ref a0, .int i1] S (f_X11_count a0 i1 S) := by
  refine Cl.of (by decide +kernel) (Nat.le_of_ble_eq_true rfl) ?_
  unfold f_X11_count
  show X _ _ _ _ _ 0 [(0, .ref a0), (1, .int i1)] [] S _
  refine X_iload_n (n := 1) 1 (kX11_count 0 rfl) rfl rfl rfl ?_
  refine X_ite (fun hc0 => ?_) (fun nc0 => ?_)
  · refine X_tabIn (tgt := 44) 0 (xI_of 0 hc0 (by decide)) (kX11_count 1 rfl) (by decide) (by decide) rfl rfl ?_
    refine X_aload_n (n := 45) 0 (kX11_count 2 rfl) rfl rfl rfl ?_
    refine X_getR (n := 48) xf_X11 hk0 (by decide) fl_X11_19 rfl (kX11_count 3 rfl) rfl ?_
    refine X_getR (n := 51) xf_X2 (kt_11_1 hk0) (by decide) fl_X11_260 rfl (kX11_count 4 rfl) rfl ?_
    refine X_iconst (n := 52) (v := 0) (kX11_count 5 rfl) rfl (by decide) ?_
    refine X_callS1I (n := 55) (As := [.ref (rf (rf a0 1) 0), .int (0 : Int32)]) (st := []) (kX11_count 6 rfl) rfl (p_X11_at (kt_2_0 (kt_11_1 hk0))) (by decide) ml_X11_154 mf_X11_at rfl rfl (Nat.le_of_ble_eq_true rfl) ?_
    exact X_iret rfl (kX11_count 7 rfl)
  · refine X_ite (fun hc1 => ?_) (fun nc1 => ?_)
    · refine X_tabIn (tgt := 56) 1 (xI_of 1 hc1 (by decide)) (kX11_count 1 rfl) (by decide) (by decide) rfl rfl ?_
      refine X_aload_n (n := 57) 0 (kX11_count 8 rfl) rfl rfl rfl ?_
      refine X_getR (n := 60) xf_X11 hk0 (by decide) fl_X11_19 rfl (kX11_count 9 rfl) rfl ?_
      refine X_getR (n := 63) xf_X2 (kt_11_1 hk0) (by decide) fl_X11_260 rfl (kX11_count 10 rfl) rfl ?_
      refine X_iconst (n := 64) (v := 1) (kX11_count 11 rfl) rfl (by decide) ?_
      refine X_callS1I (n := 67) (As := [.ref (rf (rf a0 1) 0), .int (1 : Int32)]) (st := []) (kX11_count 12 rfl) rfl (p_X11_at (kt_2_0 (kt_11_1 hk0))) (by decide) ml_X11_154 mf_X11_at rfl rfl (Nat.le_of_ble_eq_true rfl) ?_
      exact X_iret rfl (kX11_count 13 rfl)
    · refine X_ite (fun hc2 => ?_) (fun nc2 => ?_)
      · refine X_tabIn (tgt := 68) 2 (xI_of 2 hc2 (by decide)) (kX11_count 1 rfl) (by decide) (by decide) rfl rfl ?_
        refine X_aload_n (n := 69) 0 (kX11_count 14 rfl) rfl rfl rfl ?_
        refine X_getR (n := 72) xf_X11 hk0 (by decide) fl_X11_19 rfl (kX11_count 15 rfl) rfl ?_
        refine X_getR (n := 75) xf_X2 (kt_11_1 hk0) (by decide) fl_X11_260 rfl (kX11_count 16 rfl) rfl ?_
        refine X_iconst (n := 76) (v := 2) (kX11_count 17 rfl) rfl (by decide) ?_
        refine X_callS1I (n := 79) (As := [.ref (rf (rf a0 1) 0), .int (2 : Int32)]) (st := []) (kX11_count 18 rfl) rfl (p_X11_at (kt_2_0 (kt_11_1 hk0))) (by decide) ml_X11_154 mf_X11_at rfl rfl (Nat.le_of_ble_eq_true rfl) ?_
        exact X_iret rfl (kX11_count 19 rfl)
      · refine X_ite (fun hc3 => ?_) (fun nc3 => ?_)
        · refine X_tabIn (tgt := 80) 3 (xI_of 3 hc3 (by decide)) (kX11_count 1 rfl) (by decide) (by decide) rfl rfl ?_
          refine X_aload_n (n := 81) 0 (kX11_count 20 rfl) rfl rfl rfl ?_
          refine X_getR (n := 84) xf_X11 hk0 (by decide) fl_X11_19 rfl (kX11_count 21 rfl) rfl ?_
          refine X_getR (n := 87) xf_X2 (kt_11_1 hk0) (by decide) fl_X11_260 rfl (kX11_count 22 rfl) rfl ?_
          refine X_iconst (n := 88) (v := 3) (kX11_count 23 rfl) rfl (by decide) ?_
          refine X_callS1I (n := 91) (As := [.ref (rf (rf a0 1) 0), .int (3 : Int32)]) (st := []) (kX11_count 24 rfl) rfl (p_X11_at (kt_2_0 (kt_11_1 hk0))) (by decide) ml_X11_154 mf_X11_at rfl rfl (Nat.le_of_ble_eq_true rfl) ?_
          exact X_iret rfl (kX11_count 25 rfl)
        · refine X_ite (fun hc4 => ?_) (fun nc4 => ?_)
          · refine X_tabIn (tgt := 92) 4 (xI_of 4 hc4 (by decide)) (kX11_count 1 rfl) (by decide) (by decide) rfl rfl ?_
            refine X_aload_n (n := 93) 0 (kX11_count 26 rfl) rfl rfl rfl ?_
            refine X_getR (n := 96) xf_X11 hk0 (by decide) fl_X11_35 rfl (kX11_count 27 rfl) rfl ?_
            refine X_getI (n := 99) xf_X10 (kt_11_3 hk0) (by decide) fl_X11_227 rfl (kX11_count 28 rfl) rfl ?_
            exact X_iret rfl (kX11_count 29 rfl)
          · refine X_ite (fun hc5 => ?_) (fun nc5 => ?_)
            · refine X_tabIn (tgt := 100) 5 (xI_of 5 hc5 (by decide)) (kX11_count 1 rfl) (by decide) (by decide) rfl rfl ?_
              refine X_aload_n (n := 101) 0 (kX11_count 30 rfl) rfl rfl rfl ?_
              refine X_getR (n := 104) xf_X11 hk0 (by decide) fl_X11_35 rfl (kX11_count 31 rfl) rfl ?_
              refine X_getI (n := 107) xf_X10 (kt_11_3 hk0) (by decide) fl_X11_213 rfl (kX11_count 32 rfl) rfl ?_
              exact X_iret rfl (kX11_count 33 rfl)
            · refine X_ite (fun hc6 => ?_) (fun nc6 => ?_)
              · refine X_tabIn (tgt := 108) 6 (xI_of 6 hc6 (by decide)) (kX11_count 1 rfl) (by decide) (by decide) rfl rfl ?_
                refine X_aload_n (n := 109) 0 (kX11_count 34 rfl) rfl rfl rfl ?_
                refine X_getR (n := 112) xf_X11 hk0 (by decide) fl_X11_12 rfl (kX11_count 35 rfl) rfl ?_
                refine X_getI (n := 115) xf_X8 (kt_11_0 hk0) (by decide) fl_X11_110 rfl (kX11_count 36 rfl) rfl ?_
                exact X_iret rfl (kX11_count 37 rfl)
              · have e0 := xI_ne (z := 0) 0 nc0 (by decide)
                have e1 := xI_ne (z := 1) 1 nc1 (by decide)
                have e2 := xI_ne (z := 2) 2 nc2 (by decide)
                have e3 := xI_ne (z := 3) 3 nc3 (by decide)
                have e4 := xI_ne (z := 4) 4 nc4 (by decide)
                have e5 := xI_ne (z := 5) 5 nc5 (by decide)
                have e6 := xI_ne (z := 6) 6 nc6 (by decide)
                refine X_tabOut (tgt := 116) (by omega) (kX11_count 1 rfl) rfl ?_
                refine X_iconst (n := 117) (v := (-1)) (kX11_count 38 rfl) rfl (by decide) ?_
                exact X_iret rfl (kX11_count 39 rfl)
def t_X11_count (a0 : Nat) (i1 : Int32) (S : XS) : Int32 := (if i1 = 0 then (gat S (rf (rf a0 1) 0) (0 : Int32)) else (if i1 = 1 then (gat S (rf (rf a0 1) 0) (1 : Int32)) else (if i1 = 2 then (gat S (rf (rf a0 1) 0) (2 : Int32)) else (if i1 = 3 then (gat S (rf (rf a0 1) 0) (3 : Int32)) else (if i1 = 4 then (S.1 (rf a0 3) 0) else (if i1 = 5 then (S.1 (rf a0 3) 4) else (if i1 = 6 then (S.1 (rf a0 0) 1) else (-1 : Int32))))))))
theorem ft_X11_count (a0 : Nat) (i1 : Int32) (S : XS) : f_X11_count a0 i1 S = some (t_X11_count a0 i1 S, S) := by
  unfold f_X11_count t_X11_count
  first | rfl | simp only [ite_p]
theorem p_X11_count {l : Launch} {g : XG} {a0 : Nat} {i1 : Int32} {S : XS} (hk0 : kd a0 = 11) : Cl φI l g 2 mX11_count [.ref a0, .int i1] S (some (t_X11_count a0 i1 S, S)) := ft_X11_count a0 i1 S ▸ w_X11_count hk0
