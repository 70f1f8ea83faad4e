def f_X4_foundAt  (a0 : Nat) (i1 : Int32) (S : XS) : Option (Int32 × XS) := (if i1 < 0 then some ((-1 : Int32), S) else (if (S.1 a0 2) ≤ i1 then some ((-1 : Int32), S) else some ((gat S (rf a0 3) i1), S)))
set_option maxHeartbeats 4000000 in
set_option maxRecDepth 100000 in
theorem w_X4_foundAt {l : Launch} {g : XG}  {a0 : Nat} {i1 : Int32} {S : XS} (hk0 : kd a0 = 4) : Cl φI l g 2 mX4_foundAt [.ref a0, .int i1] S (f_X4_foundAt a0 i1 S) := by
  refine Cl.of (by decide +kernel) (Nat.le_of_ble_eq_true rfl) ?_
  unfold f_X4_foundAt
  show X _ _ _ _ _ 0 [(0, .ref a0), (1, .int i1)] [] S _
  refine X_iload_n (n := 1) 1 (kX4_foundAt 0 rfl) rfl rfl rfl ?_
  refine X_if_lt (n := 4) (tgt := 23) (kX4_foundAt 1 rfl) rfl rfl (fun h1 => ?_) (fun h1 => ?_)
  · refine X_iconst (n := 24) (v := (-1)) (kX4_foundAt 11 rfl) rfl (by decide) ?_
    exact X_iret rfl (kX4_foundAt 12 rfl)
  · refine X_iload_n (n := 5) 1 (kX4_foundAt 2 rfl) rfl rfl rfl ?_
    refine X_aload_n (n := 6) 0 (kX4_foundAt 3 rfl) rfl rfl rfl ?_
    refine X_getI (n := 9) xf_X4 hk0 (by decide) fl_X4_46 rfl (kX4_foundAt 4 rfl) rfl ?_
    refine X_ic_ge (n := 12) (tgt := 23) (kX4_foundAt 5 rfl) rfl rfl (fun h2 => ?_) (fun h2 => ?_)
    · refine X_iconst (n := 24) (v := (-1)) (kX4_foundAt 11 rfl) rfl (by decide) ?_
      exact X_iret rfl (kX4_foundAt 12 rfl)
    · refine X_aload_n (n := 13) 0 (kX4_foundAt 6 rfl) rfl rfl rfl ?_
      refine X_getR (n := 16) xf_X4 hk0 (by decide) fl_X4_15 rfl (kX4_foundAt 7 rfl) rfl ?_
      refine X_iload_n (n := 17) 1 (kX4_foundAt 8 rfl) rfl rfl rfl ?_
      refine X_callN1I (n := 20) (As := [.ref (rf a0 3), .int i1]) (st := []) (kX4_foundAt 9 rfl) rfl (p_X11_at (kt_4_3 hk0)) (by decide) nl_X4_53 mf_X11_at rfl rfl (Nat.le_of_ble_eq_true rfl) ?_
      refine X_goto (tgt := 24) (kX4_foundAt 10 rfl) rfl ?_
      exact X_iret rfl (kX4_foundAt 12 rfl)
def t_X4_foundAt (a0 : Nat) (i1 : Int32) (S : XS) : Int32 := (if i1 < 0 then (-1 : Int32) else (if (S.1 a0 2) ≤ i1 then (-1 : Int32) else (gat S (rf a0 3) i1)))
theorem ft_X4_foundAt (a0 : Nat) (i1 : Int32) (S : XS) : f_X4_foundAt a0 i1 S = some (t_X4_foundAt a0 i1 S, S) := by
  unfold f_X4_foundAt t_X4_foundAt
  first | rfl | simp only [ite_p]
theorem p_X4_foundAt {l : Launch} {g : XG} {a0 : Nat} {i1 : Int32} {S : XS} (hk0 : kd a0 = 4) : Cl φI l g 2 mX4_foundAt [.ref a0, .int i1] S (some (t_X4_foundAt a0 i1 S, S)) := ft_X4_foundAt a0 i1 S ▸ w_X4_foundAt hk0
def f_X4_share_L5  (a0 : Nat) (i1 : Int32) : Nat → Int32 → Int32 → XS → Option (Int32 × XS)
  | 0, _, _, _ => none
  | n + 1, i2, i3, S => (if i1 < i3 then some (i2, S) else (if (i3 &&& (i1 ^^^ (-1 : Int32))) = 0 then (if (gat S (rf a0 7) i3) = (1 : Int32) then f_X4_share_L5 a0 i1 n (if ((gat S (rf a0 8) (i1 ^^^ i3)) + (1 : Int32)) < i2 then ((gat S (rf a0 8) (i1 ^^^ i3)) + (1 : Int32)) else i2) (i3 + 1) S else f_X4_share_L5 a0 i1 n i2 (i3 + 1) S) else f_X4_share_L5 a0 i1 n i2 (i3 + 1) S))
def f_X4_share  (a0 : Nat) (i1 : Int32) (S : XS) : Option (XS) := ((f_X4_share_L5 a0 i1 1000000 (8 : Int32) (1 : Int32) S).bind (fun q => match q with | (e4, S5) => some (pat S5 (rf a0 8) i1 e4)))
set_option maxHeartbeats 4000000 in
set_option maxRecDepth 100000 in
theorem w_X4_share_L5 {l : Launch} {g : XG} {G : (Int32 × XS) → Option (XS)}  {a0 : Nat} {i1 : Int32} (hk0 : kd a0 = 4) (kE : ∀ (e2 : Int32) (S1 : XS), X φV l g 2 mX4_share 53 [(2, .int e2), (0, .ref a0), (1, .int i1)] [] S1 (G (e2, S1))) : ∀ (n : Nat) (i2 : Int32) (i3 : Int32) (S : XS), X φV l g 2 mX4_share 5 [(3, .int i3), (2, .int i2), (0, .ref a0), (1, .int i1)] [] S ((f_X4_share_L5 a0 i1 n i2 i3 S).bind G) := by
  intro n
  induction n with
  | zero => intro i2 i3 S; exact X_none
  | succ n ih =>
  · intro i2 i3 S
    rw [f_X4_share_L5]
    refine X_iload_n (n := 6) 0 (kX4_share 4 rfl) rfl rfl rfl ?_
    refine X_iload_n (n := 7) 3 (kX4_share 5 rfl) rfl rfl rfl ?_
    refine X_itebind ?_
    refine X_ic_gt (n := 10) (tgt := 53) (kX4_share 6 rfl) rfl rfl (fun h1 => ?_) (fun h1 => ?_)
    · exact X_L [1, 2, 3] rfl (kE i2 S)
    · refine X_iload_n (n := 11) 0 (kX4_share 7 rfl) rfl rfl rfl ?_
      refine X_iload_n (n := 12) 3 (kX4_share 8 rfl) rfl rfl rfl ?_
      refine X_iconst (n := 13) (v := (-1)) (kX4_share 9 rfl) rfl (by decide) ?_
      refine X_ixor (n := 14) (kX4_share 10 rfl) rfl ?_
      refine X_iand (n := 15) (kX4_share 11 rfl) rfl ?_
      refine X_itebind ?_
      refine X_if_ne (n := 18) (tgt := 47) (kX4_share 12 rfl) rfl rfl (fun h2 => ?_) (fun h2 => ?_)
      · refine X_aload_n (n := 19) 2 (kX4_share 13 rfl) rfl rfl rfl ?_
        refine X_getR (n := 22) xf_X4 hk0 (by decide) fl_X4_27 rfl (kX4_share 14 rfl) rfl ?_
        refine X_iload_n (n := 23) 0 (kX4_share 15 rfl) rfl rfl rfl ?_
        refine X_callN1I (n := 26) (As := [.ref (rf a0 7), .int i3]) (st := []) (kX4_share 16 rfl) rfl (p_X11_at (kt_4_7 hk0)) (by decide) nl_X4_53 mf_X11_at rfl rfl (Nat.le_of_ble_eq_true rfl) ?_
        refine X_iconst (n := 27) (v := 1) (kX4_share 17 rfl) rfl (by decide) ?_
        refine X_itebind ?_
        refine X_ic_ne (n := 30) (tgt := 47) (kX4_share 18 rfl) rfl rfl (fun h3 => ?_) (fun h3 => ?_)
        · refine X_iload_n (n := 31) 1 (kX4_share 19 rfl) rfl rfl rfl ?_
          refine X_aload_n (n := 32) 2 (kX4_share 20 rfl) rfl rfl rfl ?_
          refine X_getR (n := 35) xf_X4 hk0 (by decide) fl_X4_30 rfl (kX4_share 21 rfl) rfl ?_
          refine X_iload_n (n := 36) 3 (kX4_share 22 rfl) rfl rfl rfl ?_
          refine X_iload_n (n := 37) 0 (kX4_share 23 rfl) rfl rfl rfl ?_
          refine X_ixor (n := 38) (kX4_share 24 rfl) rfl ?_
          refine X_callN1I (n := 41) (As := [.ref (rf a0 8), .int (i1 ^^^ i3)]) (st := [.int i2]) (kX4_share 25 rfl) rfl (p_X11_at (kt_4_8 hk0)) (by decide) nl_X4_53 mf_X11_at rfl rfl (Nat.le_of_ble_eq_true rfl) ?_
          refine X_iconst (n := 42) (v := 1) (kX4_share 26 rfl) rfl (by decide) ?_
          refine X_iadd (n := 43) (kX4_share 27 rfl) rfl ?_
          refine X_mmin (n := 46) (kX4_share 28 rfl) rfl (by decide) ml_X4_57 ms1_min ms2 ms3_min (Nat.le_of_ble_eq_true rfl) ?_
          refine X_istore_n (n := 47) (L1 := [(2, .int (if ((gat S (rf a0 8) (i1 ^^^ i3)) + (1 : Int32)) < i2 then ((gat S (rf a0 8) (i1 ^^^ i3)) + (1 : Int32)) else i2)), (3, .int i3), (0, .ref a0), (1, .int i1)]) (kX4_share 29 rfl) rfl rfl (Nat.le_of_ble_eq_true rfl) rfl ?_
          refine X_iinc (n := 50) 1 (v := (i3 + 1)) (L1 := [(3, .int (i3 + 1)), (2, .int (if ((gat S (rf a0 8) (i1 ^^^ i3)) + (1 : Int32)) < i2 then ((gat S (rf a0 8) (i1 ^^^ i3)) + (1 : Int32)) else i2)), (0, .ref a0), (1, .int i1)]) (kX4_share 30 rfl) rfl rfl rfl (Nat.le_of_ble_eq_true rfl) rfl ?_
          refine X_goto (tgt := 5) (kX4_share 31 rfl) rfl ?_
          exact X_L [0, 1, 2, 3] rfl (ih (if ((gat S (rf a0 8) (i1 ^^^ i3)) + (1 : Int32)) < i2 then ((gat S (rf a0 8) (i1 ^^^ i3)) + (1 : Int32)) else i2) (i3 + 1) S)
        · refine X_iinc (n := 50) 0 (v := (i3 + 1)) (L1 := [(3, .int (i3 + 1)), (2, .int i2), (0, .ref a0), (1, .int i1)]) (kX4_share 30 rfl) rfl rfl rfl (Nat.le_of_ble_eq_true rfl) rfl ?_
          refine X_goto (tgt := 5) (kX4_share 31 rfl) rfl ?_
          exact X_L [0, 1, 2, 3] rfl (ih i2 (i3 + 1) S)
      · refine X_iinc (n := 50) 0 (v := (i3 + 1)) (L1 := [(3, .int (i3 + 1)), (2, .int i2), (0, .ref a0), (1, .int i1)]) (kX4_share 30 rfl) rfl rfl rfl (Nat.le_of_ble_eq_true rfl) rfl ?_
        refine X_goto (tgt := 5) (kX4_share 31 rfl) rfl ?_
        exact X_L [0, 1, 2, 3] rfl (ih i2 (i3 + 1) S)
set_option maxHeartbeats 4000000 in
set_option maxRecDepth 100000 in
theorem w_X4_share {l : Launch} {g : XG}  {a0 : Nat} {i1 : Int32} {S : XS} (hk0 : kd a0 = 4) : Cl φV l g 2 mX4_share [.ref a0, .int i1] S (f_X4_share a0 i1 S) := by
  refine Cl.of (by decide +kernel) (Nat.le_of_ble_eq_true rfl) ?_
  unfold f_X4_share
  show X _ _ _ _ _ 0 [(0, .ref a0), (1, .int i1)] [] S _
  refine X_bipush (n := 2) (v := 8) (kX4_share 0 rfl) rfl (by decide) ?_
  refine X_istore_n (n := 3) (L1 := [(2, .int 8), (0, .ref a0), (1, .int i1)]) (kX4_share 1 rfl) rfl rfl (Nat.le_of_ble_eq_true rfl) rfl ?_
  refine X_iconst (n := 4) (v := 1) (kX4_share 2 rfl) rfl (by decide) ?_
  refine X_istore_n (n := 5) (L1 := [(3, .int 1), (2, .int 8), (0, .ref a0), (1, .int i1)]) (kX4_share 3 rfl) rfl rfl (Nat.le_of_ble_eq_true rfl) rfl ?_
  refine X_L [0, 1, 2, 3] rfl (w_X4_share_L5 hk0 (fun e4 S5 => ?_) 1000000 (8 : Int32) (1 : Int32) S)
  try dsimp only
  refine X_aload_n (n := 54) 1 (kX4_share 32 rfl) rfl rfl rfl ?_
  refine X_getR (n := 57) xf_X4 hk0 (by decide) fl_X4_30 rfl (kX4_share 33 rfl) rfl ?_
  refine X_iload_n (n := 58) 2 (kX4_share 34 rfl) rfl rfl rfl ?_
  refine X_iload_n (n := 59) 0 (kX4_share 35 rfl) rfl rfl rfl ?_
  refine X_callN1V (n := 62) (As := [.ref (rf a0 8), .int i1, .int e4]) (st := []) (kX4_share 36 rfl) rfl (p_X11_put (kt_4_8 hk0)) (by decide) nl_X4_73 mf_X11_put rfl rfl (Nat.le_of_ble_eq_true rfl) ?_
  exact X_vret rfl (kX4_share 37 rfl)
def f_X4_isRowTold_L4  (a0 : Nat) (a1 : Nat) : Nat → Int32 → Int32 → XS → Option ((Bool × XS) ⊕ (Unit))
  | 0, _, _, _ => none
  | n + 1, i2, i3, S => (if (S.1 a1 1) ≤ i3 then some (.inr ()) else (if (t_X10_hasCloth a0 (gat S (rf a1 0) i3) S) = true then (if ((shr32 i2 (gat S (rf a1 0) i3)) &&& (1 : Int32)) = (1 : Int32) then some (.inl (false, S)) else f_X4_isRowTold_L4 a0 a1 n (i2 ||| (shl32 (1 : Int32) (gat S (rf a1 0) i3))) (i3 + 1) S) else some (.inl (false, S))))
def f_X4_isRowTold  (a0 : Nat) (a1 : Nat) (S : XS) : Option (Bool × XS) := ((f_X4_isRowTold_L4 a0 a1 1000000 (0 : Int32) (0 : Int32) S).bind (fun q => match q with | .inl r => some r | .inr _ => (if (S.1 a1 1) < (1 : Int32) then some (false, S) else some (true, S))))
set_option maxHeartbeats 4000000 in
set_option maxRecDepth 100000 in
theorem w_X4_isRowTold_L4 {l : Launch} {g : XG} {G : ((Bool × XS) ⊕ (Unit)) → Option (Bool × XS)}  {a0 : Nat} {a1 : Nat} (hk0 : kd a0 = 10) (hk1 : kd a1 = 8) {S : XS} (kE : X φB l g 2 mX4_isRowTold 56 [(1, .ref a1)] [] S (G (.inr ()))) (kR : ∀ r, G (.inl r) = some r) : ∀ (n : Nat) (i2 : Int32) (i3 : Int32), X φB l g 2 mX4_isRowTold 4 [(3, .int i3), (2, .int i2), (0, .ref a0), (1, .ref a1)] [] S ((f_X4_isRowTold_L4 a0 a1 n i2 i3 S).bind G) := by
  intro n
  induction n with
  | zero => intro i2 i3; exact X_none
  | succ n ih =>
  · intro i2 i3
    rw [f_X4_isRowTold_L4]
    refine X_iload_n (n := 5) 0 (kX4_isRowTold 4 rfl) rfl rfl rfl ?_
    refine X_aload_n (n := 6) 3 (kX4_isRowTold 5 rfl) rfl rfl rfl ?_
    refine X_getI (n := 9) xf_X8 hk1 (by decide) fl_X4_87 rfl (kX4_isRowTold 6 rfl) rfl ?_
    refine X_itebind ?_
    refine X_ic_ge (n := 12) (tgt := 56) (kX4_isRowTold 7 rfl) rfl rfl (fun h1 => ?_) (fun h1 => ?_)
    · exact X_L [3] rfl kE
    · refine X_aload_n (n := 13) 3 (kX4_isRowTold 8 rfl) rfl rfl rfl ?_
      refine X_getR (n := 16) xf_X8 hk1 (by decide) fl_X4_92 rfl (kX4_isRowTold 9 rfl) rfl ?_
      refine X_iload_n (n := 17) 0 (kX4_isRowTold 10 rfl) rfl rfl rfl ?_
      refine X_callN1I (n := 20) (As := [.ref (rf a1 0), .int i3]) (st := []) (kX4_isRowTold 11 rfl) rfl (p_X11_at (kt_8_0 hk1)) (by decide) nl_X4_53 mf_X11_at rfl rfl (Nat.le_of_ble_eq_true rfl) ?_
      refine X_istore (n := 22) (L1 := [(4, .int (gat S (rf a1 0) i3)), (3, .int i3), (2, .int i2), (0, .ref a0), (1, .ref a1)]) (kX4_isRowTold 12 rfl) rfl (Nat.le_of_ble_eq_true rfl) rfl ?_
      refine X_aload_n (n := 23) 3 (kX4_isRowTold 13 rfl) rfl rfl rfl ?_
      refine X_iload (n := 25) 0 (kX4_isRowTold 14 rfl) rfl rfl ?_
      refine X_callV1B (n := 28) (As := [.int (gat S (rf a1 0) i3)]) (st := []) (kX4_isRowTold 15 rfl) rfl (p_X10_hasCloth hk0) (by decide) ml_X4_107 mf_X10_hasCloth rfl hk0 xf_X10 rfl (Nat.le_of_ble_eq_true rfl) ?_
      refine X_itebind ?_
      refine X_bz (n := 31) (tgt := 41) (kX4_isRowTold 16 rfl) rfl rfl (fun h2 => ?_) (fun h2 => ?_)
      · refine X_iload_n (n := 32) 2 (kX4_isRowTold 17 rfl) rfl rfl rfl ?_
        refine X_iload (n := 34) 0 (kX4_isRowTold 18 rfl) rfl rfl ?_
        refine X_ishr (n := 35) (kX4_isRowTold 19 rfl) rfl ?_
        refine X_iconst (n := 36) (v := 1) (kX4_isRowTold 20 rfl) rfl (by decide) ?_
        refine X_iand (n := 37) (kX4_isRowTold 21 rfl) rfl ?_
        refine X_iconst (n := 38) (v := 1) (kX4_isRowTold 22 rfl) rfl (by decide) ?_
        refine X_itebind ?_
        refine X_ic_ne (n := 41) (tgt := 43) (kX4_isRowTold 23 rfl) rfl rfl (fun h3 => ?_) (fun h3 => ?_)
        · refine X_iconst (n := 42) (v := 0) (kX4_isRowTold 24 rfl) rfl (by decide) ?_
          exact X_req (kR _) (X_zret (b := false) rfl (kX4_isRowTold 25 rfl))
        · refine X_iload_n (n := 44) 2 (kX4_isRowTold 26 rfl) rfl rfl rfl ?_
          refine X_iconst (n := 45) (v := 1) (kX4_isRowTold 27 rfl) rfl (by decide) ?_
          refine X_iload (n := 47) 0 (kX4_isRowTold 28 rfl) rfl rfl ?_
          refine X_ishl (n := 48) (kX4_isRowTold 29 rfl) rfl ?_
          refine X_ior (n := 49) (kX4_isRowTold 30 rfl) rfl ?_
          refine X_istore_n (n := 50) (L1 := [(2, .int (i2 ||| (shl32 (1 : Int32) (gat S (rf a1 0) i3)))), (4, .int (gat S (rf a1 0) i3)), (3, .int i3), (0, .ref a0), (1, .ref a1)]) (kX4_isRowTold 31 rfl) rfl rfl (Nat.le_of_ble_eq_true rfl) rfl ?_
          refine X_iinc (n := 53) 2 (v := (i3 + 1)) (L1 := [(3, .int (i3 + 1)), (2, .int (i2 ||| (shl32 (1 : Int32) (gat S (rf a1 0) i3)))), (4, .int (gat S (rf a1 0) i3)), (0, .ref a0), (1, .ref a1)]) (kX4_isRowTold 32 rfl) rfl rfl rfl (Nat.le_of_ble_eq_true rfl) rfl ?_
          refine X_goto (tgt := 4) (kX4_isRowTold 33 rfl) rfl ?_
          exact X_L [0, 1, 3, 4] rfl (ih (i2 ||| (shl32 (1 : Int32) (gat S (rf a1 0) i3))) (i3 + 1))
      · refine X_iconst (n := 42) (v := 0) (kX4_isRowTold 24 rfl) rfl (by decide) ?_
        exact X_req (kR _) (X_zret (b := false) rfl (kX4_isRowTold 25 rfl))
set_option maxHeartbeats 4000000 in
set_option maxRecDepth 100000 in
theorem w_X4_isRowTold {l : Launch} {g : XG}  {a0 : Nat} {a1 : Nat} {S : XS} (hk0 : kd a0 = 10) (hk1 : kd a1 = 8) : Cl φB l g 2 mX4_isRowTold [.ref a0, .ref a1] S (f_X4_isRowTold a0 a1 S) := by
  refine Cl.of (by decide +kernel) (Nat.le_of_ble_eq_true rfl) ?_
  unfold f_X4_isRowTold
  show X _ _ _ _ _ 0 [(0, .ref a0), (1, .ref a1)] [] S _
  refine X_iconst (n := 1) (v := 0) (kX4_isRowTold 0 rfl) rfl (by decide) ?_
  refine X_istore_n (n := 2) (L1 := [(2, .int 0), (0, .ref a0), (1, .ref a1)]) (kX4_isRowTold 1 rfl) rfl rfl (Nat.le_of_ble_eq_true rfl) rfl ?_
  refine X_iconst (n := 3) (v := 0) (kX4_isRowTold 2 rfl) rfl (by decide) ?_
  refine X_istore_n (n := 4) (L1 := [(3, .int 0), (2, .int 0), (0, .ref a0), (1, .ref a1)]) (kX4_isRowTold 3 rfl) rfl rfl (Nat.le_of_ble_eq_true rfl) rfl ?_
  refine X_L [0, 1, 2, 3] rfl (w_X4_isRowTold_L4 hk0 hk1 ?_ ?_ 1000000 (0 : Int32) (0 : Int32))
  · refine X_aload_n (n := 57) 0 (kX4_isRowTold 34 rfl) rfl rfl rfl ?_
    refine X_getI (n := 60) xf_X8 hk1 (by decide) fl_X4_87 rfl (kX4_isRowTold 35 rfl) rfl ?_
    refine X_iconst (n := 61) (v := 1) (kX4_isRowTold 36 rfl) rfl (by decide) ?_
    refine X_ic_lt (n := 64) (tgt := 68) (kX4_isRowTold 37 rfl) rfl rfl (fun h4 => ?_) (fun h4 => ?_)
    · refine X_iconst (n := 69) (v := 0) (kX4_isRowTold 40 rfl) rfl (by decide) ?_
      exact X_zret (b := false) rfl (kX4_isRowTold 41 rfl)
    · refine X_iconst (n := 65) (v := 1) (kX4_isRowTold 38 rfl) rfl (by decide) ?_
      refine X_goto (tgt := 69) (kX4_isRowTold 39 rfl) rfl ?_
      exact X_zret (b := true) rfl (kX4_isRowTold 41 rfl)
  · intro r
    rfl
def f_X5_isSo  (a0 : Nat) (i1 : Int32) (i2 : Int32) (i3 : Int32) (S : XS) : Option (Bool × XS) := (if i2 = (134 : Int32) then (if (gat S (rf a0 1) i1) = i3 then some (true, S) else some (false, S)) else (if i2 = (135 : Int32) then (if (gat S (rf a0 3) (((gat S (rf a0 2) i1) * (6 : Int32)) + i3)) ≤ 0 then some (false, S) else some (true, S)) else (if (gat S (rf a0 2) i1) = i3 then some (true, S) else some (false, S))))
set_option maxHeartbeats 4000000 in
set_option maxRecDepth 100000 in
theorem w_X5_isSo {l : Launch} {g : XG}  {a0 : Nat} {i1 : Int32} {i2 : Int32} {i3 : Int32} {S : XS} (hk0 : kd a0 = 10) : Cl φB l g 2 mX5_isSo [.ref a0, .int i1, .int i2, .int i3] S (f_X5_isSo a0 i1 i2 i3 S) := by
  refine Cl.of (by decide +kernel) (Nat.le_of_ble_eq_true rfl) ?_
  unfold f_X5_isSo
  show X _ _ _ _ _ 0 [(0, .ref a0), (1, .int i1), (2, .int i2), (3, .int i3)] [] S _
  refine X_iload_n (n := 1) 2 (kX5_isSo 0 rfl) rfl rfl rfl ?_
  refine X_sipush (n := 4) (v := 134) (kX5_isSo 1 rfl) rfl (by decide) ?_
  refine X_ic_ne (n := 7) (tgt := 25) (kX5_isSo 2 rfl) rfl rfl (fun h1 => ?_) (fun h1 => ?_)
  · refine X_aload_n (n := 8) 0 (kX5_isSo 3 rfl) rfl rfl rfl ?_
    refine X_getR (n := 11) xf_X10 hk0 (by decide) fl_X5_56 rfl (kX5_isSo 4 rfl) rfl ?_
    refine X_iload_n (n := 12) 1 (kX5_isSo 5 rfl) rfl rfl rfl ?_
    refine X_callN1I (n := 15) (As := [.ref (rf a0 1), .int i1]) (st := []) (kX5_isSo 6 rfl) rfl (p_X11_at (kt_10_1 hk0)) (by decide) nl_X5_62 mf_X11_at rfl rfl (Nat.le_of_ble_eq_true rfl) ?_
    refine X_iload_n (n := 16) 3 (kX5_isSo 7 rfl) rfl rfl rfl ?_
    refine X_ic_ne (n := 19) (tgt := 23) (kX5_isSo 8 rfl) rfl rfl (fun h2 => ?_) (fun h2 => ?_)
    · refine X_iconst (n := 20) (v := 1) (kX5_isSo 9 rfl) rfl (by decide) ?_
      refine X_goto (tgt := 24) (kX5_isSo 10 rfl) rfl ?_
      exact X_zret (b := true) rfl (kX5_isSo 12 rfl)
    · refine X_iconst (n := 24) (v := 0) (kX5_isSo 11 rfl) rfl (by decide) ?_
      exact X_zret (b := false) rfl (kX5_isSo 12 rfl)
  · refine X_aload_n (n := 26) 0 (kX5_isSo 13 rfl) rfl rfl rfl ?_
    refine X_getR (n := 29) xf_X10 hk0 (by decide) fl_X5_66 rfl (kX5_isSo 14 rfl) rfl ?_
    refine X_iload_n (n := 30) 1 (kX5_isSo 15 rfl) rfl rfl rfl ?_
    refine X_callN1I (n := 33) (As := [.ref (rf a0 2), .int i1]) (st := []) (kX5_isSo 16 rfl) rfl (p_X11_at (kt_10_2 hk0)) (by decide) nl_X5_62 mf_X11_at rfl rfl (Nat.le_of_ble_eq_true rfl) ?_
    refine X_istore (n := 35) (L1 := [(4, .int (gat S (rf a0 2) i1)), (0, .ref a0), (1, .int i1), (2, .int i2), (3, .int i3)]) (kX5_isSo 17 rfl) rfl (Nat.le_of_ble_eq_true rfl) rfl ?_
    refine X_iload_n (n := 36) 3 (kX5_isSo 18 rfl) rfl rfl rfl ?_
    refine X_sipush (n := 39) (v := 135) (kX5_isSo 19 rfl) rfl (by decide) ?_
    refine X_ic_ne (n := 42) (tgt := 67) (kX5_isSo 20 rfl) rfl rfl (fun h3 => ?_) (fun h3 => ?_)
    · refine X_aload_n (n := 43) 1 (kX5_isSo 21 rfl) rfl rfl rfl ?_
      refine X_getR (n := 46) xf_X10 hk0 (by decide) fl_X5_69 rfl (kX5_isSo 22 rfl) rfl ?_
      refine X_iload (n := 48) 0 (kX5_isSo 23 rfl) rfl rfl ?_
      refine X_bipush (n := 50) (v := 6) (kX5_isSo 24 rfl) rfl (by decide) ?_
      refine X_imul (n := 51) (kX5_isSo 25 rfl) rfl ?_
      refine X_iload_n (n := 52) 4 (kX5_isSo 26 rfl) rfl rfl rfl ?_
      refine X_iadd (n := 53) (kX5_isSo 27 rfl) rfl ?_
      refine X_callN1I (n := 56) (As := [.ref (rf a0 3), .int (((gat S (rf a0 2) i1) * (6 : Int32)) + i3)]) (st := []) (kX5_isSo 28 rfl) rfl (p_X11_at (kt_10_3 hk0)) (by decide) nl_X5_62 mf_X11_at rfl rfl (Nat.le_of_ble_eq_true rfl) ?_
      refine X_if_le (n := 59) (tgt := 63) (kX5_isSo 29 rfl) rfl rfl (fun h4 => ?_) (fun h4 => ?_)
      · refine X_iconst (n := 64) (v := 0) (kX5_isSo 32 rfl) rfl (by decide) ?_
        refine X_goto (tgt := 78) (kX5_isSo 33 rfl) rfl ?_
        exact X_zret (b := false) rfl (kX5_isSo 40 rfl)
      · refine X_iconst (n := 60) (v := 1) (kX5_isSo 30 rfl) rfl (by decide) ?_
        refine X_goto (tgt := 78) (kX5_isSo 31 rfl) rfl ?_
        exact X_zret (b := true) rfl (kX5_isSo 40 rfl)
    · refine X_iload (n := 69) 0 (kX5_isSo 34 rfl) rfl rfl ?_
      refine X_iload_n (n := 70) 4 (kX5_isSo 35 rfl) rfl rfl rfl ?_
      refine X_ic_ne (n := 73) (tgt := 77) (kX5_isSo 36 rfl) rfl rfl (fun h5 => ?_) (fun h5 => ?_)
      · refine X_iconst (n := 74) (v := 1) (kX5_isSo 37 rfl) rfl (by decide) ?_
        refine X_goto (tgt := 78) (kX5_isSo 38 rfl) rfl ?_
        exact X_zret (b := true) rfl (kX5_isSo 40 rfl)
      · refine X_iconst (n := 78) (v := 0) (kX5_isSo 39 rfl) rfl (by decide) ?_
        exact X_zret (b := false) rfl (kX5_isSo 40 rfl)
def t_X5_isSo (a0 : Nat) (i1 : Int32) (i2 : Int32) (i3 : Int32) (S : XS) : Bool := (if i2 = (134 : Int32) then (if (gat S (rf a0 1) i1) = i3 then true else false) else (if i2 = (135 : Int32) then (if (gat S (rf a0 3) (((gat S (rf a0 2) i1) * (6 : Int32)) + i3)) ≤ 0 then false else true) else (if (gat S (rf a0 2) i1) = i3 then true else false)))
theorem ft_X5_isSo (a0 : Nat) (i1 : Int32) (i2 : Int32) (i3 : Int32) (S : XS) : f_X5_isSo a0 i1 i2 i3 S = some (t_X5_isSo a0 i1 i2 i3 S, S) := by
  unfold f_X5_isSo t_X5_isSo
  first | rfl | simp only [ite_p]
theorem p_X5_isSo {l : Launch} {g : XG} {a0 : Nat} {i1 : Int32} {i2 : Int32} {i3 : Int32} {S : XS} (hk0 : kd a0 = 10) : Cl φB l g 2 mX5_isSo [.ref a0, .int i1, .int i2, .int i3] S (some (t_X5_isSo a0 i1 i2 i3 S, S)) := ft_X5_isSo a0 i1 i2 i3 S ▸ w_X5_isSo hk0
def f_X6_copyFrom  (a0 : Nat) (a1 : Nat) (S : XS) : Option (XS) := some (cpy (cpy (cpy (sI S a0 3 (S.1 a1 3)) (rf a1 0) (rf a0 0)) (rf a1 1) (rf a0 1)) (rf a1 2) (rf a0 2))
set_option maxHeartbeats 4000000 in
set_option maxRecDepth 100000 in
theorem w_X6_copyFrom {l : Launch} {g : XG}  {a0 : Nat} {a1 : Nat} {S : XS} (hk0 : kd a0 = 6) (hk1 : kd a1 = 6) : Cl φV l g 3 mX6_copyFrom [.ref a0, .ref a1] S (f_X6_copyFrom a0 a1 S) := by
  refine Cl.of (by decide +kernel) (Nat.le_of_ble_eq_true rfl) ?_
  unfold f_X6_copyFrom
  show X _ _ _ _ _ 0 [(0, .ref a0), (1, .ref a1)] [] S _
  refine X_aload_n (n := 1) 0 (kX6_copyFrom 0 rfl) rfl rfl rfl ?_
  refine X_aload_n (n := 2) 1 (kX6_copyFrom 1 rfl) rfl rfl rfl ?_
  refine X_getI (n := 5) xf_X6 hk1 (by decide) fl_X6_21 rfl (kX6_copyFrom 2 rfl) rfl ?_
  refine X_putI (n := 8) xf_X6 hk0 (by decide) fl_X6_21 rfl rfl (Or.inl rfl) (kX6_copyFrom 3 rfl) rfl ?_
  refine X_aload_n (n := 9) 1 (kX6_copyFrom 4 rfl) rfl rfl rfl ?_
  refine X_getR (n := 12) xf_X6 hk1 (by decide) fl_X6_9 rfl (kX6_copyFrom 5 rfl) rfl ?_
  refine X_aload_n (n := 13) 0 (kX6_copyFrom 6 rfl) rfl rfl rfl ?_
  refine X_getR (n := 16) xf_X6 hk0 (by decide) fl_X6_9 rfl (kX6_copyFrom 7 rfl) rfl ?_
  refine X_callN1V (n := 19) (As := [.ref (rf a1 0), .ref (rf a0 0)]) (st := []) (kX6_copyFrom 8 rfl) rfl (p_X11_copy (kt_6_0 hk1) (kt_6_0 hk0)) (by decide) nl_X6_25 mf_X11_copy rfl rfl (Nat.le_of_ble_eq_true rfl) ?_
  refine X_aload_n (n := 20) 1 (kX6_copyFrom 9 rfl) rfl rfl rfl ?_
  refine X_getR (n := 23) xf_X6 hk1 (by decide) fl_X6_15 rfl (kX6_copyFrom 10 rfl) rfl ?_
  refine X_aload_n (n := 24) 0 (kX6_copyFrom 11 rfl) rfl rfl rfl ?_
  refine X_getR (n := 27) xf_X6 hk0 (by decide) fl_X6_15 rfl (kX6_copyFrom 12 rfl) rfl ?_
  refine X_callN1V (n := 30) (As := [.ref (rf a1 1), .ref (rf a0 1)]) (st := []) (kX6_copyFrom 13 rfl) rfl (p_X11_copy (kt_6_1 hk1) (kt_6_1 hk0)) (by decide) nl_X6_25 mf_X11_copy rfl rfl (Nat.le_of_ble_eq_true rfl) ?_
  refine X_aload_n (n := 31) 1 (kX6_copyFrom 14 rfl) rfl rfl rfl ?_
  refine X_getR (n := 34) xf_X6 hk1 (by decide) fl_X6_18 rfl (kX6_copyFrom 15 rfl) rfl ?_
  refine X_aload_n (n := 35) 0 (kX6_copyFrom 16 rfl) rfl rfl rfl ?_
  refine X_getR (n := 38) xf_X6 hk0 (by decide) fl_X6_18 rfl (kX6_copyFrom 17 rfl) rfl ?_
  refine X_callN1V (n := 41) (As := [.ref (rf a1 2), .ref (rf a0 2)]) (st := []) (kX6_copyFrom 18 rfl) rfl (p_X11_copy (kt_6_2 hk1) (kt_6_2 hk0)) (by decide) nl_X6_25 mf_X11_copy rfl rfl (Nat.le_of_ble_eq_true rfl) ?_
  exact X_vret rfl (kX6_copyFrom 19 rfl)
def t_X6_copyFrom (a0 : Nat) (a1 : Nat) (S : XS) : XS := (cpy (cpy (cpy (sI S a0 3 (S.1 a1 3)) (rf a1 0) (rf a0 0)) (rf a1 1) (rf a0 1)) (rf a1 2) (rf a0 2))
theorem ft_X6_copyFrom (a0 : Nat) (a1 : Nat) (S : XS) : f_X6_copyFrom a0 a1 S = some (t_X6_copyFrom a0 a1 S) := by
  unfold f_X6_copyFrom t_X6_copyFrom
  first | rfl | simp only [ite_u]
theorem p_X6_copyFrom {l : Launch} {g : XG} {a0 : Nat} {a1 : Nat} {S : XS} (hk0 : kd a0 = 6) (hk1 : kd a1 = 6) : Cl φV l g 3 mX6_copyFrom [.ref a0, .ref a1] S (some (t_X6_copyFrom a0 a1 S)) := ft_X6_copyFrom a0 a1 S ▸ w_X6_copyFrom hk0 hk1
def f_X6_add  (a0 : Nat) (i1 : Int32) (i2 : Int32) (i3 : Int32) (S : XS) : Option (XS) := some (sI (pat (pat (pat S (rf a0 0) (S.1 a0 3) i1) (rf a0 1) ((pat S (rf a0 0) (S.1 a0 3) i1).1 a0 3) i2) (rf a0 2) ((pat (pat S (rf a0 0) (S.1 a0 3) i1) (rf a0 1) ((pat S (rf a0 0) (S.1 a0 3) i1).1 a0 3) i2).1 a0 3) i3) a0 3 (if (((pat (pat (pat S (rf a0 0) (S.1 a0 3) i1) (rf a0 1) ((pat S (rf a0 0) (S.1 a0 3) i1).1 a0 3) i2) (rf a0 2) ((pat (pat S (rf a0 0) (S.1 a0 3) i1) (rf a0 1) ((pat S (rf a0 0) (S.1 a0 3) i1).1 a0 3) i2).1 a0 3) i3).1 a0 3) + (1 : Int32)) < (40 : Int32) then (((pat (pat (pat S (rf a0 0) (S.1 a0 3) i1) (rf a0 1) ((pat S (rf a0 0) (S.1 a0 3) i1).1 a0 3) i2) (rf a0 2) ((pat (pat S (rf a0 0) (S.1 a0 3) i1) (rf a0 1) ((pat S (rf a0 0) (S.1 a0 3) i1).1 a0 3) i2).1 a0 3) i3).1 a0 3) + (1 : Int32)) else (40 : Int32)))
set_option maxHeartbeats 4000000 in
set_option maxRecDepth 100000 in
theorem w_X6_add {l : Launch} {g : XG}  {a0 : Nat} {i1 : Int32} {i2 : Int32} {i3 : Int32} {S : XS} (hk0 : kd a0 = 6) : Cl φV l g 2 mX6_add [.ref a0, .int i1, .int i2, .int i3] S (f_X6_add a0 i1 i2 i3 S) := by
  refine Cl.of (by decide +kernel) (Nat.le_of_ble_eq_true rfl) ?_
  unfold f_X6_add
  show X _ _ _ _ _ 0 [(0, .ref a0), (1, .int i1), (2, .int i2), (3, .int i3)] [] S _
  refine X_aload_n (n := 1) 0 (kX6_add 0 rfl) rfl rfl rfl ?_
  refine X_getR (n := 4) xf_X6 hk0 (by decide) fl_X6_9 rfl (kX6_add 1 rfl) rfl ?_
  refine X_aload_n (n := 5) 0 (kX6_add 2 rfl) rfl rfl rfl ?_
  refine X_getI (n := 8) xf_X6 hk0 (by decide) fl_X6_21 rfl (kX6_add 3 rfl) rfl ?_
  refine X_iload_n (n := 9) 1 (kX6_add 4 rfl) rfl rfl rfl ?_
  refine X_callN1V (n := 12) (As := [.ref (rf a0 0), .int (S.1 a0 3), .int i1]) (st := []) (kX6_add 5 rfl) rfl (p_X11_put (kt_6_0 hk0)) (by decide) nl_X6_29 mf_X11_put rfl rfl (Nat.le_of_ble_eq_true rfl) ?_
  refine X_aload_n (n := 13) 0 (kX6_add 6 rfl) rfl rfl rfl ?_
  refine X_getR (n := 16) xf_X6 hk0 (by decide) fl_X6_15 rfl (kX6_add 7 rfl) rfl ?_
  refine X_aload_n (n := 17) 0 (kX6_add 8 rfl) rfl rfl rfl ?_
  refine X_getI (n := 20) xf_X6 hk0 (by decide) fl_X6_21 rfl (kX6_add 9 rfl) rfl ?_
  refine X_iload_n (n := 21) 2 (kX6_add 10 rfl) rfl rfl rfl ?_
  refine X_callN1V (n := 24) (As := [.ref (rf a0 1), .int ((pat S (rf a0 0) (S.1 a0 3) i1).1 a0 3), .int i2]) (st := []) (kX6_add 11 rfl) rfl (p_X11_put (kt_6_1 hk0)) (by decide) nl_X6_29 mf_X11_put rfl rfl (Nat.le_of_ble_eq_true rfl) ?_
  refine X_aload_n (n := 25) 0 (kX6_add 12 rfl) rfl rfl rfl ?_
  refine X_getR (n := 28) xf_X6 hk0 (by decide) fl_X6_18 rfl (kX6_add 13 rfl) rfl ?_
  refine X_aload_n (n := 29) 0 (kX6_add 14 rfl) rfl rfl rfl ?_
  refine X_getI (n := 32) xf_X6 hk0 (by decide) fl_X6_21 rfl (kX6_add 15 rfl) rfl ?_
  refine X_iload_n (n := 33) 3 (kX6_add 16 rfl) rfl rfl rfl ?_
  refine X_callN1V (n := 36) (As := [.ref (rf a0 2), .int ((pat (pat S (rf a0 0) (S.1 a0 3) i1) (rf a0 1) ((pat S (rf a0 0) (S.1 a0 3) i1).1 a0 3) i2).1 a0 3), .int i3]) (st := []) (kX6_add 17 rfl) rfl (p_X11_put (kt_6_2 hk0)) (by decide) nl_X6_29 mf_X11_put rfl rfl (Nat.le_of_ble_eq_true rfl) ?_
  refine X_aload_n (n := 37) 0 (kX6_add 18 rfl) rfl rfl rfl ?_
  refine X_aload_n (n := 38) 0 (kX6_add 19 rfl) rfl rfl rfl ?_
  refine X_getR (n := 41) xf_X6 hk0 (by decide) fl_X6_9 rfl (kX6_add 20 rfl) rfl ?_
  refine X_alenI (n := 42) (v := 40) (kt_6_0 hk0) (kX6_add 21 rfl) rfl (by rw [lt_6_0 hk0]; rfl) ?_
  refine X_aload_n (n := 43) 0 (kX6_add 22 rfl) rfl rfl rfl ?_
  refine X_getI (n := 46) xf_X6 hk0 (by decide) fl_X6_21 rfl (kX6_add 23 rfl) rfl ?_
  refine X_iconst (n := 47) (v := 1) (kX6_add 24 rfl) rfl (by decide) ?_
  refine X_iadd (n := 48) (kX6_add 25 rfl) rfl ?_
  refine X_mmin (n := 51) (kX6_add 26 rfl) rfl (by decide) ml_X6_33 ms1_min ms2 ms3_min (Nat.le_of_ble_eq_true rfl) ?_
  refine X_putI (n := 54) xf_X6 hk0 (by decide) fl_X6_21 rfl rfl (Or.inl rfl) (kX6_add 27 rfl) rfl ?_
  exact X_vret rfl (kX6_add 28 rfl)
def t_X6_add (a0 : Nat) (i1 : Int32) (i2 : Int32) (i3 : Int32) (S : XS) : XS := (sI (pat (pat (pat S (rf a0 0) (S.1 a0 3) i1) (rf a0 1) ((pat S (rf a0 0) (S.1 a0 3) i1).1 a0 3) i2) (rf a0 2) ((pat (pat S (rf a0 0) (S.1 a0 3) i1) (rf a0 1) ((pat S (rf a0 0) (S.1 a0 3) i1).1 a0 3) i2).1 a0 3) i3) a0 3 (if (((pat (pat (pat S (rf a0 0) (S.1 a0 3) i1) (rf a0 1) ((pat S (rf a0 0) (S.1 a0 3) i1).1 a0 3) i2) (rf a0 2) ((pat (pat S (rf a0 0) (S.1 a0 3) i1) (rf a0 1) ((pat S (rf a0 0) (S.1 a0 3) i1).1 a0 3) i2).1 a0 3) i3).1 a0 3) + (1 : Int32)) < (40 : Int32) then (((pat (pat (pat S (rf a0 0) (S.1 a0 3) i1) (rf a0 1) ((pat S (rf a0 0) (S.1 a0 3) i1).1 a0 3) i2) (rf a0 2) ((pat (pat S (rf a0 0) (S.1 a0 3) i1) (rf a0 1) ((pat S (rf a0 0) (S.1 a0 3) i1).1 a0 3) i2).1 a0 3) i3).1 a0 3) + (1 : Int32)) else (40 : Int32)))
theorem ft_X6_add (a0 : Nat) (i1 : Int32) (i2 : Int32) (i3 : Int32) (S : XS) : f_X6_add a0 i1 i2 i3 S = some (t_X6_add a0 i1 i2 i3 S) := by
  unfold f_X6_add t_X6_add
  first | rfl | simp only [ite_u]
theorem p_X6_add {l : Launch} {g : XG} {a0 : Nat} {i1 : Int32} {i2 : Int32} {i3 : Int32} {S : XS} (hk0 : kd a0 = 6) : Cl φV l g 2 mX6_add [.ref a0, .int i1, .int i2, .int i3] S (some (t_X6_add a0 i1 i2 i3 S)) := ft_X6_add a0 i1 i2 i3 S ▸ w_X6_add hk0
def f_X11_total_L4  (a0 : Nat) (i1 : Int32) : Nat → Int32 → Int32 → XS → Option (Int32)
  | 0, _, _, _ => none
  | n + 1, i2, i3, S => (if (6 : Int32) ≤ i3 then some i2 else f_X11_total_L4 a0 i1 n (i2 + (gat S a0 ((i1 * (6 : Int32)) + i3))) (i3 + 1) S)
def f_X11_total  (a0 : Nat) (i1 : Int32) (S : XS) : Option (Int32 × XS) := ((f_X11_total_L4 a0 i1 1000000 (0 : Int32) (0 : Int32) S).bind (fun e2 => some (e2, S)))
set_option maxHeartbeats 4000000 in
set_option maxRecDepth 100000 in
theorem w_X11_total_L4 {l : Launch} {g : XG} {G : (Int32) → Option (Int32 × XS)}  {a0 : Nat} {i1 : Int32} (hk0 : kd a0 = 20) {S : XS} (kE : ∀ (e2 : Int32), X φI l g 2 mX11_total 29 [(2, .int e2)] [] S (G e2)) : ∀ (n : Nat) (i2 : Int32) (i3 : Int32), X φI l g 2 mX11_total 4 [(3, .int i3), (2, .int i2), (0, .ref a0), (1, .int i1)] [] S ((f_X11_total_L4 a0 i1 n i2 i3 S).bind G) := by
  intro n
  induction n with
  | zero => intro i2 i3; exact X_none
  | succ n ih =>
  · intro i2 i3
    rw [f_X11_total_L4]
    refine X_iload_n (n := 5) 0 (kX11_total 4 rfl) rfl rfl rfl ?_
    refine X_bipush (n := 7) (v := 6) (kX11_total 5 rfl) rfl (by decide) ?_
    refine X_itebind ?_
    refine X_ic_ge (n := 10) (tgt := 29) (kX11_total 6 rfl) rfl rfl (fun h1 => ?_) (fun h1 => ?_)
    · exact X_L [1] rfl (kE i2)
    · refine X_iload_n (n := 11) 1 (kX11_total 7 rfl) rfl rfl rfl ?_
      refine X_aload_n (n := 12) 2 (kX11_total 8 rfl) rfl rfl rfl ?_
      refine X_iload_n (n := 13) 3 (kX11_total 9 rfl) rfl rfl rfl ?_
      refine X_bipush (n := 15) (v := 6) (kX11_total 10 rfl) rfl (by decide) ?_
      refine X_imul (n := 16) (kX11_total 11 rfl) rfl ?_
      refine X_iload_n (n := 17) 0 (kX11_total 12 rfl) rfl rfl rfl ?_
      refine X_iadd (n := 18) (kX11_total 13 rfl) rfl ?_
      refine X_callS1I (n := 21) (As := [.ref a0, .int ((i1 * (6 : Int32)) + i3)]) (st := [.int i2]) (kX11_total 14 rfl) rfl (p_X11_at hk0) (by decide) ml_X11_154 mf_X11_at rfl rfl (Nat.le_of_ble_eq_true rfl) ?_
      refine X_iadd (n := 22) (kX11_total 15 rfl) rfl ?_
      refine X_istore_n (n := 23) (L1 := [(2, .int (i2 + (gat S a0 ((i1 * (6 : Int32)) + i3)))), (3, .int i3), (0, .ref a0), (1, .int i1)]) (kX11_total 16 rfl) rfl rfl (Nat.le_of_ble_eq_true rfl) rfl ?_
      refine X_iinc (n := 26) 1 (v := (i3 + 1)) (L1 := [(3, .int (i3 + 1)), (2, .int (i2 + (gat S a0 ((i1 * (6 : Int32)) + i3)))), (0, .ref a0), (1, .int i1)]) (kX11_total 17 rfl) rfl rfl rfl (Nat.le_of_ble_eq_true rfl) rfl ?_
      refine X_goto (tgt := 4) (kX11_total 18 rfl) rfl ?_
      exact X_L [0, 1, 2, 3] rfl (ih (i2 + (gat S a0 ((i1 * (6 : Int32)) + i3))) (i3 + 1))
set_option maxHeartbeats 4000000 in
set_option maxRecDepth 100000 in
theorem w_X11_total {l : Launch} {g : XG}  {a0 : Nat} {i1 : Int32} {S : XS} (hk0 : kd a0 = 20) : Cl φI l g 2 mX11_total [.ref a0, .int i1] S (f_X11_total a0 i1 S) := by
  refine Cl.of (by decide +kernel) (Nat.le_of_ble_eq_true rfl) ?_
  unfold f_X11_total
  show X _ _ _ _ _ 0 [(0, .ref a0), (1, .int i1)] [] S _
  refine X_iconst (n := 1) (v := 0) (kX11_total 0 rfl) rfl (by decide) ?_
  refine X_istore_n (n := 2) (L1 := [(2, .int 0), (0, .ref a0), (1, .int i1)]) (kX11_total 1 rfl) rfl rfl (Nat.le_of_ble_eq_true rfl) rfl ?_
  refine X_iconst (n := 3) (v := 0) (kX11_total 2 rfl) rfl (by decide) ?_
  refine X_istore_n (n := 4) (L1 := [(3, .int 0), (2, .int 0), (0, .ref a0), (1, .int i1)]) (kX11_total 3 rfl) rfl rfl (Nat.le_of_ble_eq_true rfl) rfl ?_
  refine X_L [0, 1, 2, 3] rfl (w_X11_total_L4 hk0 (fun e2 => ?_) 1000000 (0 : Int32) (0 : Int32))
  try dsimp only
  refine X_iload_n (n := 30) 0 (kX11_total 19 rfl) rfl rfl rfl ?_
  exact X_iret rfl (kX11_total 20 rfl)
def f_X8_addFour_L3  (a0 : Nat) (i1 : Int32) : Nat → Int32 → XS → Option (XS)
  | 0, _, _ => none
  | n + 1, i2, S => (if i2 < 0 then some S else f_X8_addFour_L3 a0 i1 n (i2 + (-8)) (sI (pat S (rf a0 0) (S.1 a0 1) ((ushr32 i1 i2) &&& (255 : Int32))) a0 1 (if (((pat S (rf a0 0) (S.1 a0 1) ((ushr32 i1 i2) &&& (255 : Int32))).1 a0 1) + (1 : Int32)) < (940 : Int32) then (((pat S (rf a0 0) (S.1 a0 1) ((ushr32 i1 i2) &&& (255 : Int32))).1 a0 1) + (1 : Int32)) else (940 : Int32))))
def f_X8_addFour  (a0 : Nat) (i1 : Int32) (S : XS) : Option (XS) := ((f_X8_addFour_L3 a0 i1 1000000 (24 : Int32) S).bind (fun S2 => some S2))
set_option maxHeartbeats 4000000 in
set_option maxRecDepth 100000 in
theorem w_X8_addFour_L3 {l : Launch} {g : XG} {G : (XS) → Option (XS)}  {a0 : Nat} {i1 : Int32} (hk0 : kd a0 = 8) (kE : ∀ (S1 : XS), X φV l g 2 mX8_addFour 49 [] [] S1 (G S1)) : ∀ (n : Nat) (i2 : Int32) (S : XS), X φV l g 2 mX8_addFour 3 [(2, .int i2), (0, .ref a0), (1, .int i1)] [] S ((f_X8_addFour_L3 a0 i1 n i2 S).bind G) := by
  intro n
  induction n with
  | zero => intro i2 S; exact X_none
  | succ n ih =>
  · intro i2 S
    rw [f_X8_addFour_L3]
    refine X_iload_n (n := 4) 0 (kX8_addFour 2 rfl) rfl rfl rfl ?_
    refine X_itebind ?_
    refine X_if_lt (n := 7) (tgt := 49) (kX8_addFour 3 rfl) rfl rfl (fun h1 => ?_) (fun h1 => ?_)
    · exact X_L [] rfl (kE S)
    · refine X_aload_n (n := 8) 1 (kX8_addFour 4 rfl) rfl rfl rfl ?_
      refine X_getR (n := 11) xf_X8 hk0 (by decide) fl_X8_9 rfl (kX8_addFour 5 rfl) rfl ?_
      refine X_aload_n (n := 12) 1 (kX8_addFour 6 rfl) rfl rfl rfl ?_
      refine X_getI (n := 15) xf_X8 hk0 (by decide) fl_X8_40 rfl (kX8_addFour 7 rfl) rfl ?_
      refine X_iload_n (n := 16) 2 (kX8_addFour 8 rfl) rfl rfl rfl ?_
      refine X_iload_n (n := 17) 0 (kX8_addFour 9 rfl) rfl rfl rfl ?_
      refine X_iushr (n := 18) (kX8_addFour 10 rfl) rfl ?_
      refine X_sipush (n := 21) (v := 255) (kX8_addFour 11 rfl) rfl (by decide) ?_
      refine X_iand (n := 22) (kX8_addFour 12 rfl) rfl ?_
      refine X_callN1V (n := 25) (As := [.ref (rf a0 0), .int (S.1 a0 1), .int ((ushr32 i1 i2) &&& (255 : Int32))]) (st := []) (kX8_addFour 13 rfl) rfl (p_X11_put (kt_8_0 hk0)) (by decide) nl_X8_43 mf_X11_put rfl rfl (Nat.le_of_ble_eq_true rfl) ?_
      refine X_aload_n (n := 26) 1 (kX8_addFour 14 rfl) rfl rfl rfl ?_
      refine X_aload_n (n := 27) 1 (kX8_addFour 15 rfl) rfl rfl rfl ?_
      refine X_getR (n := 30) xf_X8 hk0 (by decide) fl_X8_9 rfl (kX8_addFour 16 rfl) rfl ?_
      refine X_alenI (n := 31) (v := 940) (kt_8_0 hk0) (kX8_addFour 17 rfl) rfl (by rw [lt_8_0 hk0]; rfl) ?_
      refine X_aload_n (n := 32) 1 (kX8_addFour 18 rfl) rfl rfl rfl ?_
      refine X_getI (n := 35) xf_X8 hk0 (by decide) fl_X8_40 rfl (kX8_addFour 19 rfl) rfl ?_
      refine X_iconst (n := 36) (v := 1) (kX8_addFour 20 rfl) rfl (by decide) ?_
      refine X_iadd (n := 37) (kX8_addFour 21 rfl) rfl ?_
      refine X_mmin (n := 40) (kX8_addFour 22 rfl) rfl (by decide) ml_X8_47 ms1_min ms2 ms3_min (Nat.le_of_ble_eq_true rfl) ?_
      refine X_putI (n := 43) xf_X8 hk0 (by decide) fl_X8_40 rfl rfl (Or.inl rfl) (kX8_addFour 23 rfl) rfl ?_
      refine X_iinc (n := 46) 0 (v := (i2 + (-8))) (L1 := [(2, .int (i2 + (-8))), (0, .ref a0), (1, .int i1)]) (kX8_addFour 24 rfl) rfl rfl rfl (Nat.le_of_ble_eq_true rfl) rfl ?_
      refine X_goto (tgt := 3) (kX8_addFour 25 rfl) rfl ?_
      exact X_L [0, 1, 2] rfl (ih (i2 + (-8)) (sI (pat S (rf a0 0) (S.1 a0 1) ((ushr32 i1 i2) &&& (255 : Int32))) a0 1 (if (((pat S (rf a0 0) (S.1 a0 1) ((ushr32 i1 i2) &&& (255 : Int32))).1 a0 1) + (1 : Int32)) < (940 : Int32) then (((pat S (rf a0 0) (S.1 a0 1) ((ushr32 i1 i2) &&& (255 : Int32))).1 a0 1) + (1 : Int32)) else (940 : Int32))))
set_option maxHeartbeats 4000000 in
set_option maxRecDepth 100000 in
theorem w_X8_addFour {l : Launch} {g : XG}  {a0 : Nat} {i1 : Int32} {S : XS} (hk0 : kd a0 = 8) : Cl φV l g 2 mX8_addFour [.ref a0, .int i1] S (f_X8_addFour a0 i1 S) := by
  refine Cl.of (by decide +kernel) (Nat.le_of_ble_eq_true rfl) ?_
  unfold f_X8_addFour
  show X _ _ _ _ _ 0 [(0, .ref a0), (1, .int i1)] [] S _
  refine X_bipush (n := 2) (v := 24) (kX8_addFour 0 rfl) rfl (by decide) ?_
  refine X_istore_n (n := 3) (L1 := [(2, .int 24), (0, .ref a0), (1, .int i1)]) (kX8_addFour 1 rfl) rfl rfl (Nat.le_of_ble_eq_true rfl) rfl ?_
  refine X_L [0, 1, 2] rfl (w_X8_addFour_L3 hk0 (fun S2 => ?_) 1000000 (24 : Int32) S)
  try dsimp only
  exact X_vret rfl (kX8_addFour 26 rfl)
