def f_X9_findMostAir_L10  (a0 : Nat) (a1 : Nat) : Nat → Int32 → XS → Option (XS)
  | 0, _, _ => none
  | n + 1, i2, S => (if (36 : Int32) ≤ i2 then some S else f_X9_findMostAir_L10 a0 a1 n (i2 + 1) (pat S (rf a0 7) (rem32 i2 (6 : Int32)) (if (gat S (rf a0 7) (rem32 i2 (6 : Int32))) < (gat S (rf a1 3) i2) then (gat S (rf a1 3) i2) else (gat S (rf a0 7) (rem32 i2 (6 : Int32))))))
def f_X9_findMostAir  (a0 : Nat) (a1 : Nat) (S : XS) : Option (XS) := ((f_X9_findMostAir_L10 a0 a1 1000000 (0 : Int32) (filI S (rf a0 7) (0 : Int32))).bind (fun S2 => some S2))
set_option maxHeartbeats 4000000 in
set_option maxRecDepth 100000 in
theorem w_X9_findMostAir_L10 {l : Launch} {g : XG} {G : (XS) → Option (XS)}  {a0 : Nat} {a1 : Nat} (hk0 : kd a0 = 9) (hk1 : kd a1 = 2) (kE : ∀ (S1 : XS), X φV l g 2 mX9_findMostAir 55 [] [] S1 (G S1)) : ∀ (n : Nat) (i2 : Int32) (S : XS), X φV l g 2 mX9_findMostAir 10 [(2, .int i2), (0, .ref a0), (1, .ref a1)] [] S ((f_X9_findMostAir_L10 a0 a1 n i2 S).bind G) := by
  intro n
  induction n with
  | zero => intro i2 S; exact X_none
  | succ n ih =>
  · intro i2 S
    rw [f_X9_findMostAir_L10]
    refine X_iload_n (n := 11) 0 (kX9_findMostAir 6 rfl) rfl rfl rfl ?_
    refine X_bipush (n := 13) (v := 36) (kX9_findMostAir 7 rfl) rfl (by decide) ?_
    refine X_itebind ?_
    refine X_ic_ge (n := 16) (tgt := 55) (kX9_findMostAir 8 rfl) rfl rfl (fun h1 => ?_) (fun h1 => ?_)
    · exact X_L [] rfl (kE S)
    · refine X_aload_n (n := 17) 1 (kX9_findMostAir 9 rfl) rfl rfl rfl ?_
      refine X_getR (n := 20) xf_X9 hk0 (by decide) fl_X9_21 rfl (kX9_findMostAir 10 rfl) rfl ?_
      refine X_iload_n (n := 21) 0 (kX9_findMostAir 11 rfl) rfl rfl rfl ?_
      refine X_bipush (n := 23) (v := 6) (kX9_findMostAir 12 rfl) rfl (by decide) ?_
      refine X_irem' (n := 24) (kX9_findMostAir 13 rfl) rfl (by decide) ?_
      refine X_aload_n (n := 25) 1 (kX9_findMostAir 14 rfl) rfl rfl rfl ?_
      refine X_getR (n := 28) xf_X9 hk0 (by decide) fl_X9_21 rfl (kX9_findMostAir 15 rfl) rfl ?_
      refine X_iload_n (n := 29) 0 (kX9_findMostAir 16 rfl) rfl rfl rfl ?_
      refine X_bipush (n := 31) (v := 6) (kX9_findMostAir 17 rfl) rfl (by decide) ?_
      refine X_irem' (n := 32) (kX9_findMostAir 18 rfl) rfl (by decide) ?_
      refine X_callN1I (n := 35) (As := [.ref (rf a0 7), .int (rem32 i2 (6 : Int32))]) (st := [.int (rem32 i2 (6 : Int32)), .ref (rf a0 7)]) (kX9_findMostAir 19 rfl) rfl (p_X11_at (kt_9_7 hk0)) (by decide) nl_X9_39 mf_X11_at rfl rfl (Nat.le_of_ble_eq_true rfl) ?_
      refine X_aload_n (n := 36) 2 (kX9_findMostAir 20 rfl) rfl rfl rfl ?_
      refine X_getR (n := 39) xf_X2 hk1 (by decide) fl_X9_75 rfl (kX9_findMostAir 21 rfl) rfl ?_
      refine X_iload_n (n := 40) 0 (kX9_findMostAir 22 rfl) rfl rfl rfl ?_
      refine X_callN1I (n := 43) (As := [.ref (rf a1 3), .int i2]) (st := [.int (gat S (rf a0 7) (rem32 i2 (6 : Int32))), .int (rem32 i2 (6 : Int32)), .ref (rf a0 7)]) (kX9_findMostAir 23 rfl) rfl (p_X11_at (kt_2_3 hk1)) (by decide) nl_X9_39 mf_X11_at rfl rfl (Nat.le_of_ble_eq_true rfl) ?_
      refine X_mmax (n := 46) (kX9_findMostAir 24 rfl) rfl (by decide) ml_X9_78 ms1_max ms2 ms3_max (Nat.le_of_ble_eq_true rfl) ?_
      refine X_callN1V (n := 49) (As := [.ref (rf a0 7), .int (rem32 i2 (6 : Int32)), .int (if (gat S (rf a0 7) (rem32 i2 (6 : Int32))) < (gat S (rf a1 3) i2) then (gat S (rf a1 3) i2) else (gat S (rf a0 7) (rem32 i2 (6 : Int32))))]) (st := []) (kX9_findMostAir 25 rfl) rfl (p_X11_put (kt_9_7 hk0)) (by decide) nl_X9_57 mf_X11_put rfl rfl (Nat.le_of_ble_eq_true rfl) ?_
      refine X_iinc (n := 52) 0 (v := (i2 + 1)) (L1 := [(2, .int (i2 + 1)), (0, .ref a0), (1, .ref a1)]) (kX9_findMostAir 26 rfl) rfl rfl rfl (Nat.le_of_ble_eq_true rfl) rfl ?_
      refine X_goto (tgt := 10) (kX9_findMostAir 27 rfl) rfl ?_
      exact X_L [0, 1, 2] rfl (ih (i2 + 1) (pat S (rf a0 7) (rem32 i2 (6 : Int32)) (if (gat S (rf a0 7) (rem32 i2 (6 : Int32))) < (gat S (rf a1 3) i2) then (gat S (rf a1 3) i2) else (gat S (rf a0 7) (rem32 i2 (6 : Int32))))))
set_option maxHeartbeats 4000000 in
set_option maxRecDepth 100000 in
theorem w_X9_findMostAir {l : Launch} {g : XG}  {a0 : Nat} {a1 : Nat} {S : XS} (hk0 : kd a0 = 9) (hk1 : kd a1 = 2) : Cl φV l g 2 mX9_findMostAir [.ref a0, .ref a1] S (f_X9_findMostAir a0 a1 S) := by
  refine Cl.of (by decide +kernel) (Nat.le_of_ble_eq_true rfl) ?_
  unfold f_X9_findMostAir
  show X _ _ _ _ _ 0 [(0, .ref a0), (1, .ref a1)] [] S _
  refine X_aload_n (n := 1) 0 (kX9_findMostAir 0 rfl) rfl rfl rfl ?_
  refine X_getR (n := 4) xf_X9 hk0 (by decide) fl_X9_21 rfl (kX9_findMostAir 1 rfl) rfl ?_
  refine X_iconst (n := 5) (v := 0) (kX9_findMostAir 2 rfl) rfl (by decide) ?_
  refine X_callS1V (n := 8) (As := [.ref (rf a0 7), .int (0 : Int32)]) (st := []) (kX9_findMostAir 3 rfl) rfl (p_J7_fill_53178 (kt_9_7 hk0)) (by decide) ml_X9_65 mf_J7_fill_53178 rfl rfl (Nat.le_of_ble_eq_true rfl) ?_
  refine X_iconst (n := 9) (v := 0) (kX9_findMostAir 4 rfl) rfl (by decide) ?_
  refine X_istore_n (n := 10) (L1 := [(2, .int 0), (0, .ref a0), (1, .ref a1)]) (kX9_findMostAir 5 rfl) rfl rfl (Nat.le_of_ble_eq_true rfl) rfl ?_
  refine X_L [0, 1, 2] rfl (w_X9_findMostAir_L10 hk0 hk1 (fun S2 => ?_) 1000000 (0 : Int32) (filI S (rf a0 7) (0 : Int32)))
  try dsimp only
  exact X_vret rfl (kX9_findMostAir 28 rfl)
def f_X9_addRow_L38  (a0 : Nat) : Nat → Int32 → XS → Option (XS)
  | 0, _, _ => none
  | n + 1, i1, S => (if (S.1 a0 0) < i1 then some S else f_X9_addRow_L38 a0 n (i1 + 1) (pat S (rf a0 2) ((i1 * (6 : Int32)) + (gat S (rf a0 8) i1)) ((gat S (rf a0 2) ((i1 * (6 : Int32)) + (gat S (rf a0 8) i1))) + (1 : Int32))))
def f_X9_addRow  (a0 : Nat) (S : XS) : Option (XS) := ((if (S.1 a0 5) = 0 then some (cpy (sI S a0 3 (S.1 a0 0)) (rf a0 8) (rf a0 4)) else some S).bind (fun S1 => ((f_X9_addRow_L38 a0 1000000 (1 : Int32) (sI S1 a0 5 ((S1.1 a0 5) + (1 : Int32)))).bind (fun S3 => some S3))))
set_option maxHeartbeats 4000000 in
set_option maxRecDepth 100000 in
theorem w_X9_addRow_L38 {l : Launch} {g : XG} {G : (XS) → Option (XS)}  {a0 : Nat} (hk0 : kd a0 = 9) (kE : ∀ (S1 : XS), X φV l g 3 mX9_addRow 84 [] [] S1 (G S1)) : ∀ (n : Nat) (i1 : Int32) (S : XS), X φV l g 3 mX9_addRow 38 [(1, .int i1), (0, .ref a0)] [] S ((f_X9_addRow_L38 a0 n i1 S).bind G) := by
  intro n
  induction n with
  | zero => intro i1 S; exact X_none
  | succ n ih =>
  · intro i1 S
    rw [f_X9_addRow_L38]
    refine X_iload_n (n := 39) 0 (kX9_addRow 20 rfl) rfl rfl rfl ?_
    refine X_aload_n (n := 40) 1 (kX9_addRow 21 rfl) rfl rfl rfl ?_
    refine X_getI (n := 43) xf_X9 hk0 (by decide) fl_X9_30 rfl (kX9_addRow 22 rfl) rfl ?_
    refine X_itebind ?_
    refine X_ic_gt (n := 46) (tgt := 84) (kX9_addRow 23 rfl) rfl rfl (fun h2 => ?_) (fun h2 => ?_)
    · exact X_L [] rfl (kE S)
    · refine X_iload_n (n := 47) 0 (kX9_addRow 24 rfl) rfl rfl rfl ?_
      refine X_bipush (n := 49) (v := 6) (kX9_addRow 25 rfl) rfl (by decide) ?_
      refine X_imul (n := 50) (kX9_addRow 26 rfl) rfl ?_
      refine X_aload_n (n := 51) 1 (kX9_addRow 27 rfl) rfl rfl rfl ?_
      refine X_getR (n := 54) xf_X9 hk0 (by decide) fl_X9_24 rfl (kX9_addRow 28 rfl) rfl ?_
      refine X_iload_n (n := 55) 0 (kX9_addRow 29 rfl) rfl rfl rfl ?_
      refine X_callN1I (n := 58) (As := [.ref (rf a0 8), .int i1]) (st := [.int (i1 * (6 : Int32))]) (kX9_addRow 30 rfl) rfl (p_X11_at (kt_9_8 hk0)) (by decide) nl_X9_39 mf_X11_at rfl rfl (Nat.le_of_ble_eq_true rfl) ?_
      refine X_iadd (n := 59) (kX9_addRow 31 rfl) rfl ?_
      refine X_istore_n (n := 60) (L1 := [(2, .int ((i1 * (6 : Int32)) + (gat S (rf a0 8) i1))), (1, .int i1), (0, .ref a0)]) (kX9_addRow 32 rfl) rfl rfl (Nat.le_of_ble_eq_true rfl) rfl ?_
      refine X_aload_n (n := 61) 2 (kX9_addRow 33 rfl) rfl rfl rfl ?_
      refine X_getR (n := 64) xf_X9 hk0 (by decide) fl_X9_9 rfl (kX9_addRow 34 rfl) rfl ?_
      refine X_iload_n (n := 65) 0 (kX9_addRow 35 rfl) rfl rfl rfl ?_
      refine X_aload_n (n := 66) 2 (kX9_addRow 36 rfl) rfl rfl rfl ?_
      refine X_getR (n := 69) xf_X9 hk0 (by decide) fl_X9_9 rfl (kX9_addRow 37 rfl) rfl ?_
      refine X_iload_n (n := 70) 0 (kX9_addRow 38 rfl) rfl rfl rfl ?_
      refine X_callN1I (n := 73) (As := [.ref (rf a0 2), .int ((i1 * (6 : Int32)) + (gat S (rf a0 8) i1))]) (st := [.int ((i1 * (6 : Int32)) + (gat S (rf a0 8) i1)), .ref (rf a0 2)]) (kX9_addRow 39 rfl) rfl (p_X11_at (kt_9_2 hk0)) (by decide) nl_X9_39 mf_X11_at rfl rfl (Nat.le_of_ble_eq_true rfl) ?_
      refine X_iconst (n := 74) (v := 1) (kX9_addRow 40 rfl) rfl (by decide) ?_
      refine X_iadd (n := 75) (kX9_addRow 41 rfl) rfl ?_
      refine X_callN1V (n := 78) (As := [.ref (rf a0 2), .int ((i1 * (6 : Int32)) + (gat S (rf a0 8) i1)), .int ((gat S (rf a0 2) ((i1 * (6 : Int32)) + (gat S (rf a0 8) i1))) + (1 : Int32))]) (st := []) (kX9_addRow 42 rfl) rfl (p_X11_put (kt_9_2 hk0)) (by decide) nl_X9_57 mf_X11_put rfl rfl (Nat.le_of_ble_eq_true rfl) ?_
      refine X_iinc (n := 81) 1 (v := (i1 + 1)) (L1 := [(1, .int (i1 + 1)), (2, .int ((i1 * (6 : Int32)) + (gat S (rf a0 8) i1))), (0, .ref a0)]) (kX9_addRow 43 rfl) rfl rfl rfl (Nat.le_of_ble_eq_true rfl) rfl ?_
      refine X_goto (tgt := 38) (kX9_addRow 44 rfl) rfl ?_
      exact X_L [0, 2] rfl (ih (i1 + 1) (pat S (rf a0 2) ((i1 * (6 : Int32)) + (gat S (rf a0 8) i1)) ((gat S (rf a0 2) ((i1 * (6 : Int32)) + (gat S (rf a0 8) i1))) + (1 : Int32))))
set_option maxHeartbeats 4000000 in
set_option maxRecDepth 100000 in
theorem w_X9_addRow {l : Launch} {g : XG}  {a0 : Nat} {S : XS} (hk0 : kd a0 = 9) : Cl φV l g 3 mX9_addRow [.ref a0] S (f_X9_addRow a0 S) := by
  refine Cl.of (by decide +kernel) (Nat.le_of_ble_eq_true rfl) ?_
  unfold f_X9_addRow
  show X _ _ _ _ _ 0 [(0, .ref a0)] [] S _
  refine X_aload_n (n := 1) 0 (kX9_addRow 0 rfl) rfl rfl rfl ?_
  refine X_getI (n := 4) xf_X9 hk0 (by decide) fl_X9_46 rfl (kX9_addRow 1 rfl) rfl ?_
  refine X_join 26 (fun S1 => [(0, .ref a0)]) (fun S1 => []) (fun S1 => S1) (fun S1 => ?_) (fun kJ => ?_)
  · try dsimp only
    refine X_aload_n (n := 27) 0 (kX9_addRow 12 rfl) rfl rfl rfl ?_
    refine X_dup (n := 28) (kX9_addRow 13 rfl) rfl rfl ?_
    refine X_getI (n := 31) xf_X9 hk0 (by decide) fl_X9_46 rfl (kX9_addRow 14 rfl) rfl ?_
    refine X_iconst (n := 32) (v := 1) (kX9_addRow 15 rfl) rfl (by decide) ?_
    refine X_iadd (n := 33) (kX9_addRow 16 rfl) rfl ?_
    refine X_putI (n := 36) xf_X9 hk0 (by decide) fl_X9_46 rfl rfl (Or.inl rfl) (kX9_addRow 17 rfl) rfl ?_
    refine X_iconst (n := 37) (v := 1) (kX9_addRow 18 rfl) rfl (by decide) ?_
    refine X_istore_n (n := 38) (L1 := [(1, .int 1), (0, .ref a0)]) (kX9_addRow 19 rfl) rfl rfl (Nat.le_of_ble_eq_true rfl) rfl ?_
    refine X_L [0, 1] rfl (w_X9_addRow_L38 hk0 (fun S3 => ?_) 1000000 (1 : Int32) (sI S1 a0 5 ((S1.1 a0 5) + (1 : Int32))))
    try dsimp only
    exact X_vret rfl (kX9_addRow 45 rfl)
  · refine X_itebind ?_
    refine X_if_ne (n := 7) (tgt := 26) (kX9_addRow 2 rfl) rfl rfl (fun h4 => ?_) (fun h4 => ?_)
    · refine X_aload_n (n := 8) 0 (kX9_addRow 3 rfl) rfl rfl rfl ?_
      refine X_aload_n (n := 9) 0 (kX9_addRow 4 rfl) rfl rfl rfl ?_
      refine X_getI (n := 12) xf_X9 hk0 (by decide) fl_X9_30 rfl (kX9_addRow 5 rfl) rfl ?_
      refine X_putI (n := 15) xf_X9 hk0 (by decide) fl_X9_105 rfl rfl (Or.inl rfl) (kX9_addRow 6 rfl) rfl ?_
      refine X_aload_n (n := 16) 0 (kX9_addRow 7 rfl) rfl rfl rfl ?_
      refine X_getR (n := 19) xf_X9 hk0 (by decide) fl_X9_24 rfl (kX9_addRow 8 rfl) rfl ?_
      refine X_aload_n (n := 20) 0 (kX9_addRow 9 rfl) rfl rfl rfl ?_
      refine X_getR (n := 23) xf_X9 hk0 (by decide) fl_X9_15 rfl (kX9_addRow 10 rfl) rfl ?_
      refine X_callN1V (n := 26) (As := [.ref (rf a0 8), .ref (rf a0 4)]) (st := []) (kX9_addRow 11 rfl) rfl (p_X11_copy (kt_9_8 hk0) (kt_9_4 hk0)) (by decide) nl_X9_108 mf_X11_copy rfl rfl (Nat.le_of_ble_eq_true rfl) ?_
      exact X_L [0] rfl (kJ (cpy (sI S a0 3 (S.1 a0 0)) (rf a0 8) (rf a0 4)))
    · exact X_L [0] rfl (kJ S)
def f_X9_canEndAsTold_L36  (i5 : Int32) (a0 : Nat) (a1 : Nat) (i3 : Int32) : Nat → Int32 → XS → Option ((Bool × XS) ⊕ (Unit))
  | 0, _, _ => none
  | n + 1, i6, S => (if (6 : Int32) ≤ i6 then some (.inr ()) else (if (gat S (rf a0 6) i6) < ((gat S (rf a0 9) ((i3 * (6 : Int32)) + i6)) - (i5 * (gat S (rf a1 2) i6))) then some (.inl (false, S)) else (if (gat S (rf a0 6) i6) ≤ ((gat S (rf a0 9) ((i3 * (6 : Int32)) + i6)) + (((S.1 a0 0) - i3) * (gat S (rf a0 7) i6))) then f_X9_canEndAsTold_L36 i5 a0 a1 i3 n (i6 + 1) S else some (.inl (false, S)))))
def f_X9_canEndAsTold  (a0 : Nat) (a1 : Nat) (i2 : Int32) (i3 : Int32) (S : XS) : Option (Bool × XS) := ((if (gat S (rf a1 4) i2) ≤ 0 then some (0 : Int32) else (if (gat S (rf a1 4) i2) = 0 then none else (if (gat S (rf a1 4) i2) = 0 then none else some (((S.1 a0 0) / (gat S (rf a1 4) i2)) - (i3 / (gat S (rf a1 4) i2)))))).bind (fun x1 => ((f_X9_canEndAsTold_L36 x1 a0 a1 i3 1000000 (0 : Int32) S).bind (fun q => match q with | .inl r => some r | .inr _ => some (true, S)))))
set_option maxHeartbeats 4000000 in
set_option maxRecDepth 100000 in
theorem w_X9_canEndAsTold_L36 {l : Launch} {g : XG} {G : ((Bool × XS) ⊕ (Unit)) → Option (Bool × XS)}  {i5 : Int32} {a0 : Nat} {a1 : Nat} {i3 : Int32} (hk0 : kd a0 = 9) (hk1 : kd a1 = 2) {S : XS} (kE : X φB l g 2 mX9_canEndAsTold 133 [] [] S (G (.inr ()))) (kR : ∀ r, G (.inl r) = some r) : ∀ (n : Nat) (i6 : Int32), X φB l g 2 mX9_canEndAsTold 36 [(6, .int i6), (5, .int i5), (0, .ref a0), (1, .ref a1), (3, .int i3)] [] S ((f_X9_canEndAsTold_L36 i5 a0 a1 i3 n i6 S).bind G) := by
  intro n
  induction n with
  | zero => intro i6; exact X_none
  | succ n ih =>
  · intro i6
    rw [f_X9_canEndAsTold_L36]
    refine X_iload (n := 38) 0 (kX9_canEndAsTold 20 rfl) rfl rfl ?_
    refine X_bipush (n := 40) (v := 6) (kX9_canEndAsTold 21 rfl) rfl (by decide) ?_
    refine X_itebind ?_
    refine X_ic_ge (n := 43) (tgt := 133) (kX9_canEndAsTold 22 rfl) rfl rfl (fun h2 => ?_) (fun h2 => ?_)
    · exact X_L [] rfl kE
    · refine X_aload_n (n := 44) 2 (kX9_canEndAsTold 23 rfl) rfl rfl rfl ?_
      refine X_getR (n := 47) xf_X9 hk0 (by decide) fl_X9_27 rfl (kX9_canEndAsTold 24 rfl) rfl ?_
      refine X_iload_n (n := 48) 4 (kX9_canEndAsTold 25 rfl) rfl rfl rfl ?_
      refine X_bipush (n := 50) (v := 6) (kX9_canEndAsTold 26 rfl) rfl (by decide) ?_
      refine X_imul (n := 51) (kX9_canEndAsTold 27 rfl) rfl ?_
      refine X_iload (n := 53) 0 (kX9_canEndAsTold 28 rfl) rfl rfl ?_
      refine X_iadd (n := 54) (kX9_canEndAsTold 29 rfl) rfl ?_
      refine X_callN1I (n := 57) (As := [.ref (rf a0 9), .int ((i3 * (6 : Int32)) + i6)]) (st := []) (kX9_canEndAsTold 30 rfl) rfl (p_X11_at (kt_9_9 hk0)) (by decide) nl_X9_39 mf_X11_at rfl rfl (Nat.le_of_ble_eq_true rfl) ?_
      refine X_istore (n := 59) (L1 := [(7, .int (gat S (rf a0 9) ((i3 * (6 : Int32)) + i6))), (6, .int i6), (5, .int i5), (0, .ref a0), (1, .ref a1), (3, .int i3)]) (kX9_canEndAsTold 31 rfl) rfl (Nat.le_of_ble_eq_true rfl) rfl ?_
      refine X_iload (n := 61) 0 (kX9_canEndAsTold 32 rfl) rfl rfl ?_
      refine X_iload (n := 63) 2 (kX9_canEndAsTold 33 rfl) rfl rfl ?_
      refine X_aload_n (n := 64) 4 (kX9_canEndAsTold 34 rfl) rfl rfl rfl ?_
      refine X_getR (n := 67) xf_X2 hk1 (by decide) fl_X9_102 rfl (kX9_canEndAsTold 35 rfl) rfl ?_
      refine X_iload (n := 69) 1 (kX9_canEndAsTold 36 rfl) rfl rfl ?_
      refine X_callN1I (n := 72) (As := [.ref (rf a1 2), .int i6]) (st := [.int i5, .int (gat S (rf a0 9) ((i3 * (6 : Int32)) + i6))]) (kX9_canEndAsTold 37 rfl) rfl (p_X11_at (kt_2_2 hk1)) (by decide) nl_X9_39 mf_X11_at rfl rfl (Nat.le_of_ble_eq_true rfl) ?_
      refine X_imul (n := 73) (kX9_canEndAsTold 38 rfl) rfl ?_
      refine X_isub (n := 74) (kX9_canEndAsTold 39 rfl) rfl ?_
      refine X_istore (n := 76) (L1 := [(8, .int ((gat S (rf a0 9) ((i3 * (6 : Int32)) + i6)) - (i5 * (gat S (rf a1 2) i6)))), (7, .int (gat S (rf a0 9) ((i3 * (6 : Int32)) + i6))), (6, .int i6), (5, .int i5), (0, .ref a0), (1, .ref a1), (3, .int i3)]) (kX9_canEndAsTold 40 rfl) rfl (Nat.le_of_ble_eq_true rfl) rfl ?_
      refine X_iload (n := 78) 1 (kX9_canEndAsTold 41 rfl) rfl rfl ?_
      refine X_aload_n (n := 79) 4 (kX9_canEndAsTold 42 rfl) rfl rfl rfl ?_
      refine X_getI (n := 82) xf_X9 hk0 (by decide) fl_X9_30 rfl (kX9_canEndAsTold 43 rfl) rfl ?_
      refine X_iload_n (n := 83) 6 (kX9_canEndAsTold 44 rfl) rfl rfl rfl ?_
      refine X_isub (n := 84) (kX9_canEndAsTold 45 rfl) rfl ?_
      refine X_aload_n (n := 85) 4 (kX9_canEndAsTold 46 rfl) rfl rfl rfl ?_
      refine X_getR (n := 88) xf_X9 hk0 (by decide) fl_X9_21 rfl (kX9_canEndAsTold 47 rfl) rfl ?_
      refine X_iload (n := 90) 2 (kX9_canEndAsTold 48 rfl) rfl rfl ?_
      refine X_callN1I (n := 93) (As := [.ref (rf a0 7), .int i6]) (st := [.int ((S.1 a0 0) - i3), .int (gat S (rf a0 9) ((i3 * (6 : Int32)) + i6))]) (kX9_canEndAsTold 49 rfl) rfl (p_X11_at (kt_9_7 hk0)) (by decide) nl_X9_39 mf_X11_at rfl rfl (Nat.le_of_ble_eq_true rfl) ?_
      refine X_imul (n := 94) (kX9_canEndAsTold 50 rfl) rfl ?_
      refine X_iadd (n := 95) (kX9_canEndAsTold 51 rfl) rfl ?_
      refine X_istore (n := 97) (L1 := [(9, .int ((gat S (rf a0 9) ((i3 * (6 : Int32)) + i6)) + (((S.1 a0 0) - i3) * (gat S (rf a0 7) i6)))), (8, .int ((gat S (rf a0 9) ((i3 * (6 : Int32)) + i6)) - (i5 * (gat S (rf a1 2) i6)))), (7, .int (gat S (rf a0 9) ((i3 * (6 : Int32)) + i6))), (6, .int i6), (5, .int i5), (0, .ref a0), (1, .ref a1), (3, .int i3)]) (kX9_canEndAsTold 52 rfl) rfl (Nat.le_of_ble_eq_true rfl) rfl ?_
      refine X_aload_n (n := 98) 5 (kX9_canEndAsTold 53 rfl) rfl rfl rfl ?_
      refine X_getR (n := 101) xf_X9 hk0 (by decide) fl_X9_18 rfl (kX9_canEndAsTold 54 rfl) rfl ?_
      refine X_iload (n := 103) 3 (kX9_canEndAsTold 55 rfl) rfl rfl ?_
      refine X_callN1I (n := 106) (As := [.ref (rf a0 6), .int i6]) (st := []) (kX9_canEndAsTold 56 rfl) rfl (p_X11_at (kt_9_6 hk0)) (by decide) nl_X9_39 mf_X11_at rfl rfl (Nat.le_of_ble_eq_true rfl) ?_
      refine X_iload (n := 108) 1 (kX9_canEndAsTold 57 rfl) rfl rfl ?_
      refine X_itebind ?_
      refine X_ic_lt (n := 111) (tgt := 125) (kX9_canEndAsTold 58 rfl) rfl rfl (fun h3 => ?_) (fun h3 => ?_)
      · refine X_iconst (n := 126) (v := 0) (kX9_canEndAsTold 65 rfl) rfl (by decide) ?_
        exact X_req (kR _) (X_zret (b := false) rfl (kX9_canEndAsTold 66 rfl))
      · refine X_aload_n (n := 112) 5 (kX9_canEndAsTold 59 rfl) rfl rfl rfl ?_
        refine X_getR (n := 115) xf_X9 hk0 (by decide) fl_X9_18 rfl (kX9_canEndAsTold 60 rfl) rfl ?_
        refine X_iload (n := 117) 3 (kX9_canEndAsTold 61 rfl) rfl rfl ?_
        refine X_callN1I (n := 120) (As := [.ref (rf a0 6), .int i6]) (st := []) (kX9_canEndAsTold 62 rfl) rfl (p_X11_at (kt_9_6 hk0)) (by decide) nl_X9_39 mf_X11_at rfl rfl (Nat.le_of_ble_eq_true rfl) ?_
        refine X_iload (n := 122) 0 (kX9_canEndAsTold 63 rfl) rfl rfl ?_
        refine X_itebind ?_
        refine X_ic_le (n := 125) (tgt := 127) (kX9_canEndAsTold 64 rfl) rfl rfl (fun h4 => ?_) (fun h4 => ?_)
        · refine X_iinc (n := 130) 3 (v := (i6 + 1)) (L1 := [(6, .int (i6 + 1)), (9, .int ((gat S (rf a0 9) ((i3 * (6 : Int32)) + i6)) + (((S.1 a0 0) - i3) * (gat S (rf a0 7) i6)))), (8, .int ((gat S (rf a0 9) ((i3 * (6 : Int32)) + i6)) - (i5 * (gat S (rf a1 2) i6)))), (7, .int (gat S (rf a0 9) ((i3 * (6 : Int32)) + i6))), (5, .int i5), (0, .ref a0), (1, .ref a1), (3, .int i3)]) (kX9_canEndAsTold 67 rfl) rfl rfl rfl (Nat.le_of_ble_eq_true rfl) rfl ?_
          refine X_goto (tgt := 36) (kX9_canEndAsTold 68 rfl) rfl ?_
          exact X_L [0, 4, 5, 6, 7] rfl (ih (i6 + 1))
        · refine X_iconst (n := 126) (v := 0) (kX9_canEndAsTold 65 rfl) rfl (by decide) ?_
          exact X_req (kR _) (X_zret (b := false) rfl (kX9_canEndAsTold 66 rfl))
set_option maxHeartbeats 4000000 in
set_option maxRecDepth 100000 in
theorem w_X9_canEndAsTold {l : Launch} {g : XG}  {a0 : Nat} {a1 : Nat} {i2 : Int32} {i3 : Int32} {S : XS} (hk0 : kd a0 = 9) (hk1 : kd a1 = 2) : Cl φB l g 2 mX9_canEndAsTold [.ref a0, .ref a1, .int i2, .int i3] S (f_X9_canEndAsTold a0 a1 i2 i3 S) := by
  refine Cl.of (by decide +kernel) (Nat.le_of_ble_eq_true rfl) ?_
  unfold f_X9_canEndAsTold
  show X _ _ _ _ _ 0 [(0, .ref a0), (1, .ref a1), (2, .int i2), (3, .int i3)] [] S _
  refine X_aload_n (n := 1) 1 (kX9_canEndAsTold 0 rfl) rfl rfl rfl ?_
  refine X_getR (n := 4) xf_X2 hk1 (by decide) fl_X9_99 rfl (kX9_canEndAsTold 1 rfl) rfl ?_
  refine X_iload_n (n := 5) 2 (kX9_canEndAsTold 2 rfl) rfl rfl rfl ?_
  refine X_callN1I (n := 8) (As := [.ref (rf a1 4), .int i2]) (st := []) (kX9_canEndAsTold 3 rfl) rfl (p_X11_at (kt_2_4 hk1)) (by decide) nl_X9_39 mf_X11_at rfl rfl (Nat.le_of_ble_eq_true rfl) ?_
  refine X_istore (n := 10) (L1 := [(4, .int (gat S (rf a1 4) i2)), (0, .ref a0), (1, .ref a1), (2, .int i2), (3, .int i3)]) (kX9_canEndAsTold 4 rfl) rfl (Nat.le_of_ble_eq_true rfl) rfl ?_
  refine X_iload (n := 12) 0 (kX9_canEndAsTold 5 rfl) rfl rfl ?_
  refine X_join 31 (fun x1 => [(0, .ref a0), (1, .ref a1), (3, .int i3)]) (fun x1 => [.int x1]) (fun x1 => S) (fun x1 => ?_) (fun kJ => ?_)
  · try dsimp only
    refine X_istore (n := 33) (L1 := [(5, .int x1), (0, .ref a0), (1, .ref a1), (3, .int i3)]) (kX9_canEndAsTold 17 rfl) rfl (Nat.le_of_ble_eq_true rfl) rfl ?_
    refine X_iconst (n := 34) (v := 0) (kX9_canEndAsTold 18 rfl) rfl (by decide) ?_
    refine X_istore (n := 36) (L1 := [(6, .int 0), (5, .int x1), (0, .ref a0), (1, .ref a1), (3, .int i3)]) (kX9_canEndAsTold 19 rfl) rfl (Nat.le_of_ble_eq_true rfl) rfl ?_
    refine X_L [0, 1, 2, 3, 4] rfl (w_X9_canEndAsTold_L36 hk0 hk1 ?_ ?_ 1000000 (0 : Int32))
    · refine X_iconst (n := 134) (v := 1) (kX9_canEndAsTold 69 rfl) rfl (by decide) ?_
      exact X_zret (b := true) rfl (kX9_canEndAsTold 70 rfl)
    · intro r
      rfl
  · refine X_itebind ?_
    refine X_if_le (n := 15) (tgt := 30) (kX9_canEndAsTold 6 rfl) rfl rfl (fun h5 => ?_) (fun h5 => ?_)
    · refine X_iconst (n := 31) (v := 0) (kX9_canEndAsTold 16 rfl) rfl (by decide) ?_
      exact X_L [1, 2, 4] rfl (kJ (0 : Int32))
    · refine X_aload_n (n := 16) 1 (kX9_canEndAsTold 7 rfl) rfl rfl rfl ?_
      refine X_getI (n := 19) xf_X9 hk0 (by decide) fl_X9_30 rfl (kX9_canEndAsTold 8 rfl) rfl ?_
      refine X_iload (n := 21) 0 (kX9_canEndAsTold 9 rfl) rfl rfl ?_
      refine X_itebind ?_
      refine X_idiv (n := 22) (kX9_canEndAsTold 10 rfl) rfl (fun h7 => ?_)
      refine X_iload_n (n := 23) 4 (kX9_canEndAsTold 11 rfl) rfl rfl rfl ?_
      refine X_iload (n := 25) 0 (kX9_canEndAsTold 12 rfl) rfl rfl ?_
      refine X_itebind ?_
      refine X_idiv (n := 26) (kX9_canEndAsTold 13 rfl) rfl (fun h6 => ?_)
      refine X_isub (n := 27) (kX9_canEndAsTold 14 rfl) rfl ?_
      refine X_goto (tgt := 31) (kX9_canEndAsTold 15 rfl) rfl ?_
      exact X_L [1, 2, 4] rfl (kJ (((S.1 a0 0) / (gat S (rf a1 4) i2)) - (i3 / (gat S (rf a1 4) i2))))
def f_X10_begin_L23  (a0 : Nat) : Nat → Int32 → XS → Option (XS)
  | 0, _, _ => none
  | n + 1, i2, S => (if (6 : Int32) ≤ i2 then some S else (if i2 < 0 ∨ ln (rf a0 2) ≤ i2.toNatClampNeg then none else f_X10_begin_L23 a0 n (i2 + 1) (sI S (rf a0 2) i2.toNatClampNeg i2)))
def f_X10_begin  (a0 : Nat) (a1 : Nat) (S : XS) : Option (XS) := ((f_X10_begin_L23 a0 1000000 (0 : Int32) (cpy (sI (sI S a0 0 (0 : Int32)) a0 4 (0 : Int32)) (rf a1 5) (rf a0 1))).bind (fun S3 => some (filI S3 (rf a0 3) (0 : Int32))))
set_option maxHeartbeats 4000000 in
set_option maxRecDepth 100000 in
theorem w_X10_begin_L23 {l : Launch} {g : XG} {G : (XS) → Option (XS)}  {a0 : Nat} (hk0 : kd a0 = 10) (kE : ∀ (S1 : XS), X φV l g 3 mX10_begin 45 [(0, .ref a0)] [] S1 (G S1)) : ∀ (n : Nat) (i2 : Int32) (S : XS), X φV l g 3 mX10_begin 23 [(2, .int i2), (0, .ref a0)] [] S ((f_X10_begin_L23 a0 n i2 S).bind G) := by
  intro n
  induction n with
  | zero => intro i2 S; exact X_none
  | succ n ih =>
  · intro i2 S
    rw [f_X10_begin_L23]
    refine X_iload_n (n := 24) 0 (kX10_begin 13 rfl) rfl rfl rfl ?_
    refine X_aload_n (n := 25) 1 (kX10_begin 14 rfl) rfl rfl rfl ?_
    refine X_getR (n := 28) xf_X10 hk0 (by decide) fl_X10_15 rfl (kX10_begin 15 rfl) rfl ?_
    refine X_alenI (n := 29) (v := 6) (kt_10_2 hk0) (kX10_begin 16 rfl) rfl (by rw [lt_10_2 hk0]; rfl) ?_
    refine X_itebind ?_
    refine X_ic_ge (n := 32) (tgt := 45) (kX10_begin 17 rfl) rfl rfl (fun h1 => ?_) (fun h1 => ?_)
    · exact X_L [1] rfl (kE S)
    · refine X_aload_n (n := 33) 1 (kX10_begin 18 rfl) rfl rfl rfl ?_
      refine X_getR (n := 36) xf_X10 hk0 (by decide) fl_X10_15 rfl (kX10_begin 19 rfl) rfl ?_
      refine X_iload_n (n := 37) 0 (kX10_begin 20 rfl) rfl rfl rfl ?_
      refine X_iload_n (n := 38) 0 (kX10_begin 21 rfl) rfl rfl rfl ?_
      refine X_itebind ?_
      refine X_iast (n := 39) (kt_10_2 hk0) (kX10_begin 22 rfl) rfl (fun h2 => ?_)
      refine X_iinc (n := 42) 0 (v := (i2 + 1)) (L1 := [(2, .int (i2 + 1)), (0, .ref a0)]) (kX10_begin 23 rfl) rfl rfl rfl (Nat.le_of_ble_eq_true rfl) rfl ?_
      refine X_goto (tgt := 23) (kX10_begin 24 rfl) rfl ?_
      exact X_L [0, 1] rfl (ih (i2 + 1) (sI S (rf a0 2) i2.toNatClampNeg i2))
set_option maxHeartbeats 4000000 in
set_option maxRecDepth 100000 in
theorem w_X10_begin {l : Launch} {g : XG}  {a0 : Nat} {a1 : Nat} {S : XS} (hk0 : kd a0 = 10) (hk1 : kd a1 = 2) : Cl φV l g 3 mX10_begin [.ref a0, .ref a1] S (f_X10_begin a0 a1 S) := by
  refine Cl.of (by decide +kernel) (Nat.le_of_ble_eq_true rfl) ?_
  unfold f_X10_begin
  show X _ _ _ _ _ 0 [(0, .ref a0), (1, .ref a1)] [] S _
  refine X_aload_n (n := 1) 0 (kX10_begin 0 rfl) rfl rfl rfl ?_
  refine X_iconst (n := 2) (v := 0) (kX10_begin 1 rfl) rfl (by decide) ?_
  refine X_putI (n := 5) xf_X10 hk0 (by decide) fl_X10_33 rfl rfl (Or.inl rfl) (kX10_begin 2 rfl) rfl ?_
  refine X_aload_n (n := 6) 0 (kX10_begin 3 rfl) rfl rfl rfl ?_
  refine X_iconst (n := 7) (v := 0) (kX10_begin 4 rfl) rfl (by decide) ?_
  refine X_putI (n := 10) xf_X10 hk0 (by decide) fl_X10_37 rfl rfl (Or.inl rfl) (kX10_begin 5 rfl) rfl ?_
  refine X_aload_n (n := 11) 1 (kX10_begin 6 rfl) rfl rfl rfl ?_
  refine X_getR (n := 14) xf_X2 hk1 (by decide) fl_X10_40 rfl (kX10_begin 7 rfl) rfl ?_
  refine X_aload_n (n := 15) 0 (kX10_begin 8 rfl) rfl rfl rfl ?_
  refine X_getR (n := 18) xf_X10 hk0 (by decide) fl_X10_9 rfl (kX10_begin 9 rfl) rfl ?_
  refine X_callN1V (n := 21) (As := [.ref (rf a1 5), .ref (rf a0 1)]) (st := []) (kX10_begin 10 rfl) rfl (p_X11_copy (kt_2_5 hk1) (kt_10_1 hk0)) (by decide) nl_X10_45 mf_X11_copy rfl rfl (Nat.le_of_ble_eq_true rfl) ?_
  refine X_iconst (n := 22) (v := 0) (kX10_begin 11 rfl) rfl (by decide) ?_
  refine X_istore_n (n := 23) (L1 := [(2, .int 0), (0, .ref a0), (1, .ref a1)]) (kX10_begin 12 rfl) rfl rfl (Nat.le_of_ble_eq_true rfl) rfl ?_
  refine X_L [0, 1] rfl (w_X10_begin_L23 hk0 (fun S3 => ?_) 1000000 (0 : Int32) (cpy (sI (sI S a0 0 (0 : Int32)) a0 4 (0 : Int32)) (rf a1 5) (rf a0 1)))
  try dsimp only
  refine X_aload_n (n := 46) 0 (kX10_begin 25 rfl) rfl rfl rfl ?_
  refine X_getR (n := 49) xf_X10 hk0 (by decide) fl_X10_18 rfl (kX10_begin 26 rfl) rfl ?_
  refine X_iconst (n := 50) (v := 0) (kX10_begin 27 rfl) rfl (by decide) ?_
  refine X_callS1V (n := 53) (As := [.ref (rf a0 3), .int (0 : Int32)]) (st := []) (kX10_begin 28 rfl) rfl (p_J7_fill_53178 (kt_10_3 hk0)) (by decide) ml_X10_49 mf_J7_fill_53178 rfl rfl (Nat.le_of_ble_eq_true rfl) ?_
  exact X_vret rfl (kX10_begin 29 rfl)
def f_X10_cut_L8  (i3 : Int32) (a0 : Nat) (i1 : Int32) (i2 : Int32) : Nat → Int32 → XS → Option (XS)
  | 0, _, _ => none
  | n + 1, i4, S => (if (6 : Int32) ≤ i4 then some S else f_X10_cut_L8 i3 a0 i1 i2 n (i4 + 1) (pat S (rf a0 5) ((i3 * (6 : Int32)) + i4) (gat S (rf a0 3) ((i1 * (6 : Int32)) + i4))))
def f_X10_cut  (a0 : Nat) (i1 : Int32) (i2 : Int32) (S : XS) : Option (Int32 × XS) := ((f_X10_cut_L8 (S.1 a0 4) a0 i1 i2 1000000 (0 : Int32) S).bind (fun S2 => some ((S.1 a0 4), (sI (pat (pat (pat S2 (rf a0 6) (S.1 a0 4) i1) (rf a0 7) (S.1 a0 4) i2) (rf a0 8) (S.1 a0 4) ((pat (pat S2 (rf a0 6) (S.1 a0 4) i1) (rf a0 7) (S.1 a0 4) i2).1 a0 0)) a0 4 (if (((pat (pat (pat S2 (rf a0 6) (S.1 a0 4) i1) (rf a0 7) (S.1 a0 4) i2) (rf a0 8) (S.1 a0 4) ((pat (pat S2 (rf a0 6) (S.1 a0 4) i1) (rf a0 7) (S.1 a0 4) i2).1 a0 0)).1 a0 4) + (1 : Int32)) < (8 : Int32) then (((pat (pat (pat S2 (rf a0 6) (S.1 a0 4) i1) (rf a0 7) (S.1 a0 4) i2) (rf a0 8) (S.1 a0 4) ((pat (pat S2 (rf a0 6) (S.1 a0 4) i1) (rf a0 7) (S.1 a0 4) i2).1 a0 0)).1 a0 4) + (1 : Int32)) else (8 : Int32))))))
set_option maxHeartbeats 4000000 in
set_option maxRecDepth 100000 in
theorem w_X10_cut_L8 {l : Launch} {g : XG} {G : (XS) → Option (Int32 × XS)}  {i3 : Int32} {a0 : Nat} {i1 : Int32} {i2 : Int32} (hk0 : kd a0 = 10) (kE : ∀ (S1 : XS), X φI l g 2 mX10_cut 49 [(3, .int i3), (0, .ref a0), (1, .int i1), (2, .int i2)] [] S1 (G S1)) : ∀ (n : Nat) (i4 : Int32) (S : XS), X φI l g 2 mX10_cut 8 [(4, .int i4), (3, .int i3), (0, .ref a0), (1, .int i1), (2, .int i2)] [] S ((f_X10_cut_L8 i3 a0 i1 i2 n i4 S).bind G) := by
  intro n
  induction n with
  | zero => intro i4 S; exact X_none
  | succ n ih =>
  · intro i4 S
    rw [f_X10_cut_L8]
    refine X_iload (n := 10) 0 (kX10_cut 5 rfl) rfl rfl ?_
    refine X_bipush (n := 12) (v := 6) (kX10_cut 6 rfl) rfl (by decide) ?_
    refine X_itebind ?_
    refine X_ic_ge (n := 15) (tgt := 49) (kX10_cut 7 rfl) rfl rfl (fun h1 => ?_) (fun h1 => ?_)
    · exact X_L [1, 2, 3, 4] rfl (kE S)
    · refine X_aload_n (n := 16) 2 (kX10_cut 8 rfl) rfl rfl rfl ?_
      refine X_getR (n := 19) xf_X10 hk0 (by decide) fl_X10_21 rfl (kX10_cut 9 rfl) rfl ?_
      refine X_iload_n (n := 20) 1 (kX10_cut 10 rfl) rfl rfl rfl ?_
      refine X_bipush (n := 22) (v := 6) (kX10_cut 11 rfl) rfl (by decide) ?_
      refine X_imul (n := 23) (kX10_cut 12 rfl) rfl ?_
      refine X_iload (n := 25) 0 (kX10_cut 13 rfl) rfl rfl ?_
      refine X_iadd (n := 26) (kX10_cut 14 rfl) rfl ?_
      refine X_aload_n (n := 27) 2 (kX10_cut 15 rfl) rfl rfl rfl ?_
      refine X_getR (n := 30) xf_X10 hk0 (by decide) fl_X10_18 rfl (kX10_cut 16 rfl) rfl ?_
      refine X_iload_n (n := 31) 3 (kX10_cut 17 rfl) rfl rfl rfl ?_
      refine X_bipush (n := 33) (v := 6) (kX10_cut 18 rfl) rfl (by decide) ?_
      refine X_imul (n := 34) (kX10_cut 19 rfl) rfl ?_
      refine X_iload (n := 36) 0 (kX10_cut 20 rfl) rfl rfl ?_
      refine X_iadd (n := 37) (kX10_cut 21 rfl) rfl ?_
      refine X_callN1I (n := 40) (As := [.ref (rf a0 3), .int ((i1 * (6 : Int32)) + i4)]) (st := [.int ((i3 * (6 : Int32)) + i4), .ref (rf a0 5)]) (kX10_cut 22 rfl) rfl (p_X11_at (kt_10_3 hk0)) (by decide) nl_X10_55 mf_X11_at rfl rfl (Nat.le_of_ble_eq_true rfl) ?_
      refine X_callN1V (n := 43) (As := [.ref (rf a0 5), .int ((i3 * (6 : Int32)) + i4), .int (gat S (rf a0 3) ((i1 * (6 : Int32)) + i4))]) (st := []) (kX10_cut 23 rfl) rfl (p_X11_put (kt_10_5 hk0)) (by decide) nl_X10_59 mf_X11_put rfl rfl (Nat.le_of_ble_eq_true rfl) ?_
      refine X_iinc (n := 46) 0 (v := (i4 + 1)) (L1 := [(4, .int (i4 + 1)), (3, .int i3), (0, .ref a0), (1, .int i1), (2, .int i2)]) (kX10_cut 24 rfl) rfl rfl rfl (Nat.le_of_ble_eq_true rfl) rfl ?_
      refine X_goto (tgt := 8) (kX10_cut 25 rfl) rfl ?_
      exact X_L [0, 1, 2, 3, 4] rfl (ih (i4 + 1) (pat S (rf a0 5) ((i3 * (6 : Int32)) + i4) (gat S (rf a0 3) ((i1 * (6 : Int32)) + i4))))
set_option maxHeartbeats 4000000 in
set_option maxRecDepth 100000 in
theorem w_X10_cut {l : Launch} {g : XG}  {a0 : Nat} {i1 : Int32} {i2 : Int32} {S : XS} (hk0 : kd a0 = 10) : Cl φI l g 2 mX10_cut [.ref a0, .int i1, .int i2] S (f_X10_cut a0 i1 i2 S) := by
  refine Cl.of (by decide +kernel) (Nat.le_of_ble_eq_true rfl) ?_
  unfold f_X10_cut
  show X _ _ _ _ _ 0 [(0, .ref a0), (1, .int i1), (2, .int i2)] [] S _
  refine X_aload_n (n := 1) 0 (kX10_cut 0 rfl) rfl rfl rfl ?_
  refine X_getI (n := 4) xf_X10 hk0 (by decide) fl_X10_37 rfl (kX10_cut 1 rfl) rfl ?_
  refine X_istore_n (n := 5) (L1 := [(3, .int (S.1 a0 4)), (0, .ref a0), (1, .int i1), (2, .int i2)]) (kX10_cut 2 rfl) rfl rfl (Nat.le_of_ble_eq_true rfl) rfl ?_
  refine X_iconst (n := 6) (v := 0) (kX10_cut 3 rfl) rfl (by decide) ?_
  refine X_istore (n := 8) (L1 := [(4, .int 0), (3, .int (S.1 a0 4)), (0, .ref a0), (1, .int i1), (2, .int i2)]) (kX10_cut 4 rfl) rfl (Nat.le_of_ble_eq_true rfl) rfl ?_
  refine X_L [0, 1, 2, 3, 4] rfl (w_X10_cut_L8 hk0 (fun S2 => ?_) 1000000 (0 : Int32) S)
  try dsimp only
  refine X_aload_n (n := 50) 1 (kX10_cut 26 rfl) rfl rfl rfl ?_
  refine X_getR (n := 53) xf_X10 hk0 (by decide) fl_X10_24 rfl (kX10_cut 27 rfl) rfl ?_
  refine X_iload_n (n := 54) 0 (kX10_cut 28 rfl) rfl rfl rfl ?_
  refine X_iload_n (n := 55) 2 (kX10_cut 29 rfl) rfl rfl rfl ?_
  refine X_callN1V (n := 58) (As := [.ref (rf a0 6), .int (S.1 a0 4), .int i1]) (st := []) (kX10_cut 30 rfl) rfl (p_X11_put (kt_10_6 hk0)) (by decide) nl_X10_59 mf_X11_put rfl rfl (Nat.le_of_ble_eq_true rfl) ?_
  refine X_aload_n (n := 59) 1 (kX10_cut 31 rfl) rfl rfl rfl ?_
  refine X_getR (n := 62) xf_X10 hk0 (by decide) fl_X10_27 rfl (kX10_cut 32 rfl) rfl ?_
  refine X_iload_n (n := 63) 0 (kX10_cut 33 rfl) rfl rfl rfl ?_
  refine X_iload_n (n := 64) 3 (kX10_cut 34 rfl) rfl rfl rfl ?_
  refine X_callN1V (n := 67) (As := [.ref (rf a0 7), .int (S.1 a0 4), .int i2]) (st := []) (kX10_cut 35 rfl) rfl (p_X11_put (kt_10_7 hk0)) (by decide) nl_X10_59 mf_X11_put rfl rfl (Nat.le_of_ble_eq_true rfl) ?_
  refine X_aload_n (n := 68) 1 (kX10_cut 36 rfl) rfl rfl rfl ?_
  refine X_getR (n := 71) xf_X10 hk0 (by decide) fl_X10_30 rfl (kX10_cut 37 rfl) rfl ?_
  refine X_iload_n (n := 72) 0 (kX10_cut 38 rfl) rfl rfl rfl ?_
  refine X_aload_n (n := 73) 1 (kX10_cut 39 rfl) rfl rfl rfl ?_
  refine X_getI (n := 76) xf_X10 hk0 (by decide) fl_X10_33 rfl (kX10_cut 40 rfl) rfl ?_
  refine X_callN1V (n := 79) (As := [.ref (rf a0 8), .int (S.1 a0 4), .int ((pat (pat S2 (rf a0 6) (S.1 a0 4) i1) (rf a0 7) (S.1 a0 4) i2).1 a0 0)]) (st := []) (kX10_cut 41 rfl) rfl (p_X11_put (kt_10_8 hk0)) (by decide) nl_X10_59 mf_X11_put rfl rfl (Nat.le_of_ble_eq_true rfl) ?_
  refine X_aload_n (n := 80) 1 (kX10_cut 42 rfl) rfl rfl rfl ?_
  refine X_bipush (n := 82) (v := 8) (kX10_cut 43 rfl) rfl (by decide) ?_
  refine X_aload_n (n := 83) 1 (kX10_cut 44 rfl) rfl rfl rfl ?_
  refine X_getI (n := 86) xf_X10 hk0 (by decide) fl_X10_37 rfl (kX10_cut 45 rfl) rfl ?_
  refine X_iconst (n := 87) (v := 1) (kX10_cut 46 rfl) rfl (by decide) ?_
  refine X_iadd (n := 88) (kX10_cut 47 rfl) rfl ?_
  refine X_mmin (n := 91) (kX10_cut 48 rfl) rfl (by decide) ml_X10_66 ms1_min ms2 ms3_min (Nat.le_of_ble_eq_true rfl) ?_
  refine X_putI (n := 94) xf_X10 hk0 (by decide) fl_X10_37 rfl rfl (Or.inl rfl) (kX10_cut 49 rfl) rfl ?_
  refine X_iload_n (n := 95) 0 (kX10_cut 50 rfl) rfl rfl rfl ?_
  exact X_iret rfl (kX10_cut 51 rfl)
def f_X10_hoursTillClean_L28  (i3 : Int32) (a0 : Nat) (a1 : Nat) (i2 : Int32) : Nat → Int32 → Int32 → XS → Option ((Int32 × XS) ⊕ (Int32 × XS))
  | 0, _, _, _ => none
  | n + 1, i4, i5, S => (if (6 : Int32) ≤ i5 then some (.inr (i4, S)) else (if (gat S (rf a0 5) ((i2 * (6 : Int32)) + i5)) ≤ 0 then f_X10_hoursTillClean_L28 i3 a0 a1 i2 n i4 (i5 + 1) S else (if 0 < (gat S (rf a1 2) i5) then (if (gat S (rf a1 2) i5) = 0 then none else (if i3 = 0 then none else f_X10_hoursTillClean_L28 i3 a0 a1 i2 n (if i4 < (((((S.1 a0 0) / i3) + ((((gat S (rf a0 5) ((i2 * (6 : Int32)) + i5)) + (gat S (rf a1 2) i5)) - (1 : Int32)) / (gat S (rf a1 2) i5))) * i3) - (S.1 a0 0)) then (((((S.1 a0 0) / i3) + ((((gat S (rf a0 5) ((i2 * (6 : Int32)) + i5)) + (gat S (rf a1 2) i5)) - (1 : Int32)) / (gat S (rf a1 2) i5))) * i3) - (S.1 a0 0)) else i4) (i5 + 1) S)) else some (.inl ((-1 : Int32), S)))))
def f_X10_hoursTillClean  (a0 : Nat) (a1 : Nat) (i2 : Int32) (S : XS) : Option (Int32 × XS) := (if 0 < (gat S (rf a1 4) (gat S (rf a0 6) i2)) then ((f_X10_hoursTillClean_L28 (gat S (rf a1 4) (gat S (rf a0 6) i2)) a0 a1 i2 1000000 (0 : Int32) (0 : Int32) S).bind (fun q => match q with | .inl r => some r | .inr (e7, S8) => some (e7, S8))) else some ((-1 : Int32), S))
set_option maxHeartbeats 4000000 in
set_option maxRecDepth 100000 in
theorem w_X10_hoursTillClean_L28 {l : Launch} {g : XG} {G : ((Int32 × XS) ⊕ (Int32 × XS)) → Option (Int32 × XS)}  {i3 : Int32} {a0 : Nat} {a1 : Nat} {i2 : Int32} (hk0 : kd a0 = 10) (hk1 : kd a1 = 2) (kE : ∀ (e4 : Int32) (S1 : XS), X φI l g 2 mX10_hoursTillClean 115 [(4, .int e4)] [] S1 (G (.inr (e4, S1)))) (kR : ∀ r, G (.inl r) = some r) : ∀ (n : Nat) (i4 : Int32) (i5 : Int32) (S : XS), X φI l g 2 mX10_hoursTillClean 28 [(5, .int i5), (4, .int i4), (3, .int i3), (0, .ref a0), (1, .ref a1), (2, .int i2)] [] S ((f_X10_hoursTillClean_L28 i3 a0 a1 i2 n i4 i5 S).bind G) := by
  intro n
  induction n with
  | zero => intro i4 i5 S; exact X_none
  | succ n ih =>
  · intro i4 i5 S
    rw [f_X10_hoursTillClean_L28]
    refine X_iload (n := 30) 0 (kX10_hoursTillClean 16 rfl) rfl rfl ?_
    refine X_bipush (n := 32) (v := 6) (kX10_hoursTillClean 17 rfl) rfl (by decide) ?_
    refine X_itebind ?_
    refine X_ic_ge (n := 35) (tgt := 115) (kX10_hoursTillClean 18 rfl) rfl rfl (fun h2 => ?_) (fun h2 => ?_)
    · exact X_L [1] rfl (kE i4 S)
    · refine X_aload_n (n := 36) 3 (kX10_hoursTillClean 19 rfl) rfl rfl rfl ?_
      refine X_getR (n := 39) xf_X10 hk0 (by decide) fl_X10_21 rfl (kX10_hoursTillClean 20 rfl) rfl ?_
      refine X_iload_n (n := 40) 5 (kX10_hoursTillClean 21 rfl) rfl rfl rfl ?_
      refine X_bipush (n := 42) (v := 6) (kX10_hoursTillClean 22 rfl) rfl (by decide) ?_
      refine X_imul (n := 43) (kX10_hoursTillClean 23 rfl) rfl ?_
      refine X_iload (n := 45) 0 (kX10_hoursTillClean 24 rfl) rfl rfl ?_
      refine X_iadd (n := 46) (kX10_hoursTillClean 25 rfl) rfl ?_
      refine X_callN1I (n := 49) (As := [.ref (rf a0 5), .int ((i2 * (6 : Int32)) + i5)]) (st := []) (kX10_hoursTillClean 26 rfl) rfl (p_X11_at (kt_10_5 hk0)) (by decide) nl_X10_55 mf_X11_at rfl rfl (Nat.le_of_ble_eq_true rfl) ?_
      refine X_istore (n := 51) (L1 := [(6, .int (gat S (rf a0 5) ((i2 * (6 : Int32)) + i5))), (5, .int i5), (4, .int i4), (3, .int i3), (0, .ref a0), (1, .ref a1), (2, .int i2)]) (kX10_hoursTillClean 27 rfl) rfl (Nat.le_of_ble_eq_true rfl) rfl ?_
      refine X_aload_n (n := 52) 5 (kX10_hoursTillClean 28 rfl) rfl rfl rfl ?_
      refine X_getR (n := 55) xf_X2 hk1 (by decide) fl_X10_98 rfl (kX10_hoursTillClean 29 rfl) rfl ?_
      refine X_iload (n := 57) 1 (kX10_hoursTillClean 30 rfl) rfl rfl ?_
      refine X_callN1I (n := 60) (As := [.ref (rf a1 2), .int i5]) (st := []) (kX10_hoursTillClean 31 rfl) rfl (p_X11_at (kt_2_2 hk1)) (by decide) nl_X10_55 mf_X11_at rfl rfl (Nat.le_of_ble_eq_true rfl) ?_
      refine X_istore (n := 62) (L1 := [(7, .int (gat S (rf a1 2) i5)), (6, .int (gat S (rf a0 5) ((i2 * (6 : Int32)) + i5))), (5, .int i5), (4, .int i4), (3, .int i3), (0, .ref a0), (1, .ref a1), (2, .int i2)]) (kX10_hoursTillClean 32 rfl) rfl (Nat.le_of_ble_eq_true rfl) rfl ?_
      refine X_iload (n := 64) 1 (kX10_hoursTillClean 33 rfl) rfl rfl ?_
      refine X_itebind ?_
      refine X_if_le (n := 67) (tgt := 109) (kX10_hoursTillClean 34 rfl) rfl rfl (fun h3 => ?_) (fun h3 => ?_)
      · refine X_iinc (n := 112) 2 (v := (i5 + 1)) (L1 := [(5, .int (i5 + 1)), (7, .int (gat S (rf a1 2) i5)), (6, .int (gat S (rf a0 5) ((i2 * (6 : Int32)) + i5))), (4, .int i4), (3, .int i3), (0, .ref a0), (1, .ref a1), (2, .int i2)]) (kX10_hoursTillClean 61 rfl) rfl rfl rfl (Nat.le_of_ble_eq_true rfl) rfl ?_
        refine X_goto (tgt := 28) (kX10_hoursTillClean 62 rfl) rfl ?_
        exact X_L [0, 3, 4, 5, 6, 7] rfl (ih i4 (i5 + 1) S)
      · refine X_iload (n := 69) 0 (kX10_hoursTillClean 35 rfl) rfl rfl ?_
        refine X_itebind ?_
        refine X_if_gt (n := 72) (tgt := 74) (kX10_hoursTillClean 36 rfl) rfl rfl (fun h4 => ?_) (fun h4 => ?_)
        · refine X_iload (n := 76) 1 (kX10_hoursTillClean 39 rfl) rfl rfl ?_
          refine X_iload (n := 78) 0 (kX10_hoursTillClean 40 rfl) rfl rfl ?_
          refine X_iadd (n := 79) (kX10_hoursTillClean 41 rfl) rfl ?_
          refine X_iconst (n := 80) (v := 1) (kX10_hoursTillClean 42 rfl) rfl (by decide) ?_
          refine X_isub (n := 81) (kX10_hoursTillClean 43 rfl) rfl ?_
          refine X_iload (n := 83) 0 (kX10_hoursTillClean 44 rfl) rfl rfl ?_
          refine X_itebind ?_
          refine X_idiv (n := 84) (kX10_hoursTillClean 45 rfl) rfl (fun h6 => ?_)
          refine X_istore (n := 86) (L1 := [(8, .int ((((gat S (rf a0 5) ((i2 * (6 : Int32)) + i5)) + (gat S (rf a1 2) i5)) - (1 : Int32)) / (gat S (rf a1 2) i5))), (7, .int (gat S (rf a1 2) i5)), (6, .int (gat S (rf a0 5) ((i2 * (6 : Int32)) + i5))), (5, .int i5), (4, .int i4), (3, .int i3), (0, .ref a0), (1, .ref a1), (2, .int i2)]) (kX10_hoursTillClean 46 rfl) rfl (Nat.le_of_ble_eq_true rfl) rfl ?_
          refine X_iload (n := 88) 4 (kX10_hoursTillClean 47 rfl) rfl rfl ?_
          refine X_aload_n (n := 89) 6 (kX10_hoursTillClean 48 rfl) rfl rfl rfl ?_
          refine X_getI (n := 92) xf_X10 hk0 (by decide) fl_X10_33 rfl (kX10_hoursTillClean 49 rfl) rfl ?_
          refine X_iload_n (n := 93) 5 (kX10_hoursTillClean 50 rfl) rfl rfl rfl ?_
          refine X_itebind ?_
          refine X_idiv (n := 94) (kX10_hoursTillClean 51 rfl) rfl (fun h5 => ?_)
          refine X_iload (n := 96) 0 (kX10_hoursTillClean 52 rfl) rfl rfl ?_
          refine X_iadd (n := 97) (kX10_hoursTillClean 53 rfl) rfl ?_
          refine X_iload_n (n := 98) 5 (kX10_hoursTillClean 54 rfl) rfl rfl rfl ?_
          refine X_imul (n := 99) (kX10_hoursTillClean 55 rfl) rfl ?_
          refine X_aload_n (n := 100) 6 (kX10_hoursTillClean 56 rfl) rfl rfl rfl ?_
          refine X_getI (n := 103) xf_X10 hk0 (by decide) fl_X10_33 rfl (kX10_hoursTillClean 57 rfl) rfl ?_
          refine X_isub (n := 104) (kX10_hoursTillClean 58 rfl) rfl ?_
          refine X_mmax (n := 107) (kX10_hoursTillClean 59 rfl) rfl (by decide) ml_X10_101 ms1_max ms2 ms3_max (Nat.le_of_ble_eq_true rfl) ?_
          refine X_istore (n := 109) (L1 := [(4, .int (if i4 < (((((S.1 a0 0) / i3) + ((((gat S (rf a0 5) ((i2 * (6 : Int32)) + i5)) + (gat S (rf a1 2) i5)) - (1 : Int32)) / (gat S (rf a1 2) i5))) * i3) - (S.1 a0 0)) then (((((S.1 a0 0) / i3) + ((((gat S (rf a0 5) ((i2 * (6 : Int32)) + i5)) + (gat S (rf a1 2) i5)) - (1 : Int32)) / (gat S (rf a1 2) i5))) * i3) - (S.1 a0 0)) else i4)), (8, .int ((((gat S (rf a0 5) ((i2 * (6 : Int32)) + i5)) + (gat S (rf a1 2) i5)) - (1 : Int32)) / (gat S (rf a1 2) i5))), (7, .int (gat S (rf a1 2) i5)), (6, .int (gat S (rf a0 5) ((i2 * (6 : Int32)) + i5))), (5, .int i5), (3, .int i3), (0, .ref a0), (1, .ref a1), (2, .int i2)]) (kX10_hoursTillClean 60 rfl) rfl (Nat.le_of_ble_eq_true rfl) rfl ?_
          refine X_iinc (n := 112) 4 (v := (i5 + 1)) (L1 := [(5, .int (i5 + 1)), (4, .int (if i4 < (((((S.1 a0 0) / i3) + ((((gat S (rf a0 5) ((i2 * (6 : Int32)) + i5)) + (gat S (rf a1 2) i5)) - (1 : Int32)) / (gat S (rf a1 2) i5))) * i3) - (S.1 a0 0)) then (((((S.1 a0 0) / i3) + ((((gat S (rf a0 5) ((i2 * (6 : Int32)) + i5)) + (gat S (rf a1 2) i5)) - (1 : Int32)) / (gat S (rf a1 2) i5))) * i3) - (S.1 a0 0)) else i4)), (8, .int ((((gat S (rf a0 5) ((i2 * (6 : Int32)) + i5)) + (gat S (rf a1 2) i5)) - (1 : Int32)) / (gat S (rf a1 2) i5))), (7, .int (gat S (rf a1 2) i5)), (6, .int (gat S (rf a0 5) ((i2 * (6 : Int32)) + i5))), (3, .int i3), (0, .ref a0), (1, .ref a1), (2, .int i2)]) (kX10_hoursTillClean 61 rfl) rfl rfl rfl (Nat.le_of_ble_eq_true rfl) rfl ?_
          refine X_goto (tgt := 28) (kX10_hoursTillClean 62 rfl) rfl ?_
          exact X_L [0, 1, 5, 6, 7, 8] rfl (ih (if i4 < (((((S.1 a0 0) / i3) + ((((gat S (rf a0 5) ((i2 * (6 : Int32)) + i5)) + (gat S (rf a1 2) i5)) - (1 : Int32)) / (gat S (rf a1 2) i5))) * i3) - (S.1 a0 0)) then (((((S.1 a0 0) / i3) + ((((gat S (rf a0 5) ((i2 * (6 : Int32)) + i5)) + (gat S (rf a1 2) i5)) - (1 : Int32)) / (gat S (rf a1 2) i5))) * i3) - (S.1 a0 0)) else i4) (i5 + 1) S)
        · refine X_iconst (n := 73) (v := (-1)) (kX10_hoursTillClean 37 rfl) rfl (by decide) ?_
          exact X_req (kR _) (X_iret rfl (kX10_hoursTillClean 38 rfl))
set_option maxHeartbeats 4000000 in
set_option maxRecDepth 100000 in
theorem w_X10_hoursTillClean {l : Launch} {g : XG}  {a0 : Nat} {a1 : Nat} {i2 : Int32} {S : XS} (hk0 : kd a0 = 10) (hk1 : kd a1 = 2) : Cl φI l g 2 mX10_hoursTillClean [.ref a0, .ref a1, .int i2] S (f_X10_hoursTillClean a0 a1 i2 S) := by
  refine Cl.of (by decide +kernel) (Nat.le_of_ble_eq_true rfl) ?_
  unfold f_X10_hoursTillClean
  show X _ _ _ _ _ 0 [(0, .ref a0), (1, .ref a1), (2, .int i2)] [] S _
  refine X_aload_n (n := 1) 1 (kX10_hoursTillClean 0 rfl) rfl rfl rfl ?_
  refine X_getR (n := 4) xf_X2 hk1 (by decide) fl_X10_104 rfl (kX10_hoursTillClean 1 rfl) rfl ?_
  refine X_aload_n (n := 5) 0 (kX10_hoursTillClean 2 rfl) rfl rfl rfl ?_
  refine X_getR (n := 8) xf_X10 hk0 (by decide) fl_X10_24 rfl (kX10_hoursTillClean 3 rfl) rfl ?_
  refine X_iload_n (n := 9) 2 (kX10_hoursTillClean 4 rfl) rfl rfl rfl ?_
  refine X_callN1I (n := 12) (As := [.ref (rf a0 6), .int i2]) (st := [.ref (rf a1 4)]) (kX10_hoursTillClean 5 rfl) rfl (p_X11_at (kt_10_6 hk0)) (by decide) nl_X10_55 mf_X11_at rfl rfl (Nat.le_of_ble_eq_true rfl) ?_
  refine X_callN1I (n := 15) (As := [.ref (rf a1 4), .int (gat S (rf a0 6) i2)]) (st := []) (kX10_hoursTillClean 6 rfl) rfl (p_X11_at (kt_2_4 hk1)) (by decide) nl_X10_55 mf_X11_at rfl rfl (Nat.le_of_ble_eq_true rfl) ?_
  refine X_istore_n (n := 16) (L1 := [(3, .int (gat S (rf a1 4) (gat S (rf a0 6) i2))), (0, .ref a0), (1, .ref a1), (2, .int i2)]) (kX10_hoursTillClean 7 rfl) rfl rfl (Nat.le_of_ble_eq_true rfl) rfl ?_
  refine X_iload_n (n := 17) 0 (kX10_hoursTillClean 8 rfl) rfl rfl rfl ?_
  refine X_if_gt (n := 20) (tgt := 22) (kX10_hoursTillClean 9 rfl) rfl rfl (fun h1 => ?_) (fun h1 => ?_)
  · refine X_iconst (n := 23) (v := 0) (kX10_hoursTillClean 12 rfl) rfl (by decide) ?_
    refine X_istore (n := 25) (L1 := [(4, .int 0), (3, .int (gat S (rf a1 4) (gat S (rf a0 6) i2))), (0, .ref a0), (1, .ref a1), (2, .int i2)]) (kX10_hoursTillClean 13 rfl) rfl (Nat.le_of_ble_eq_true rfl) rfl ?_
    refine X_iconst (n := 26) (v := 0) (kX10_hoursTillClean 14 rfl) rfl (by decide) ?_
    refine X_istore (n := 28) (L1 := [(5, .int 0), (4, .int 0), (3, .int (gat S (rf a1 4) (gat S (rf a0 6) i2))), (0, .ref a0), (1, .ref a1), (2, .int i2)]) (kX10_hoursTillClean 15 rfl) rfl (Nat.le_of_ble_eq_true rfl) rfl ?_
    refine X_L [0, 1, 2, 3, 4, 5] rfl (w_X10_hoursTillClean_L28 hk0 hk1 (fun e7 S8 => ?_) ?_ 1000000 (0 : Int32) (0 : Int32) S)
    · refine X_iload (n := 117) 0 (kX10_hoursTillClean 63 rfl) rfl rfl ?_
      exact X_iret rfl (kX10_hoursTillClean 64 rfl)
    · intro r
      rfl
  · refine X_iconst (n := 21) (v := (-1)) (kX10_hoursTillClean 10 rfl) rfl (by decide) ?_
    exact X_iret rfl (kX10_hoursTillClean 11 rfl)
def f_X11_rows  (a0 : Nat) (i1 : Int32) (i2 : Int32) (S : XS) : Option (Int32 × XS) := (if i1 < (1 : Int32) then some ((-1 : Int32), S) else (if (S.1 (rf a0 15) 0) < i1 then some ((-1 : Int32), S) else (if i2 < 0 then some ((-1 : Int32), S) else (if i2 < (S.1 (rf a0 15) 1) then some ((gat S (rf (rf a0 15) 2) ((i1 * (6 : Int32)) + i2)), S) else some ((-1 : Int32), S)))))
set_option maxHeartbeats 4000000 in
set_option maxRecDepth 100000 in
theorem w_X11_rows {l : Launch} {g : XG}  {a0 : Nat} {i1 : Int32} {i2 : Int32} {S : XS} (hk0 : kd a0 = 11) : Cl φI l g 2 mX11_rows [.ref a0, .int i1, .int i2] S (f_X11_rows a0 i1 i2 S) := by
  refine Cl.of (by decide +kernel) (Nat.le_of_ble_eq_true rfl) ?_
  unfold f_X11_rows
  show X _ _ _ _ _ 0 [(0, .ref a0), (1, .int i1), (2, .int i2)] [] S _
  refine X_iload_n (n := 1) 1 (kX11_rows 0 rfl) rfl rfl rfl ?_
  refine X_iconst (n := 2) (v := 1) (kX11_rows 1 rfl) rfl (by decide) ?_
  refine X_ic_lt (n := 5) (tgt := 31) (kX11_rows 2 rfl) rfl rfl (fun h1 => ?_) (fun h1 => ?_)
  · refine X_iconst (n := 32) (v := (-1)) (kX11_rows 15 rfl) rfl (by decide) ?_
    exact X_iret rfl (kX11_rows 16 rfl)
  · refine X_iload_n (n := 6) 1 (kX11_rows 3 rfl) rfl rfl rfl ?_
    refine X_aload_n (n := 7) 0 (kX11_rows 4 rfl) rfl rfl rfl ?_
    refine X_getR (n := 10) xf_X11 hk0 (by decide) fl_X11_89 rfl (kX11_rows 5 rfl) rfl ?_
    refine X_getI (n := 13) xf_X9 (kt_11_15 hk0) (by decide) fl_X11_267 rfl (kX11_rows 6 rfl) rfl ?_
    refine X_ic_gt (n := 16) (tgt := 31) (kX11_rows 7 rfl) rfl rfl (fun h2 => ?_) (fun h2 => ?_)
    · refine X_iconst (n := 32) (v := (-1)) (kX11_rows 15 rfl) rfl (by decide) ?_
      exact X_iret rfl (kX11_rows 16 rfl)
    · refine X_iload_n (n := 17) 2 (kX11_rows 8 rfl) rfl rfl rfl ?_
      refine X_if_lt (n := 20) (tgt := 31) (kX11_rows 9 rfl) rfl rfl (fun h3 => ?_) (fun h3 => ?_)
      · refine X_iconst (n := 32) (v := (-1)) (kX11_rows 15 rfl) rfl (by decide) ?_
        exact X_iret rfl (kX11_rows 16 rfl)
      · refine X_iload_n (n := 21) 2 (kX11_rows 10 rfl) rfl rfl rfl ?_
        refine X_aload_n (n := 22) 0 (kX11_rows 11 rfl) rfl rfl rfl ?_
        refine X_getR (n := 25) xf_X11 hk0 (by decide) fl_X11_89 rfl (kX11_rows 12 rfl) rfl ?_
        refine X_getI (n := 28) xf_X9 (kt_11_15 hk0) (by decide) fl_X11_270 rfl (kX11_rows 13 rfl) rfl ?_
        refine X_ic_lt (n := 31) (tgt := 33) (kX11_rows 14 rfl) rfl rfl (fun h4 => ?_) (fun h4 => ?_)
        · refine X_aload_n (n := 34) 0 (kX11_rows 17 rfl) rfl rfl rfl ?_
          refine X_getR (n := 37) xf_X11 hk0 (by decide) fl_X11_89 rfl (kX11_rows 18 rfl) rfl ?_
          refine X_getR (n := 40) xf_X9 (kt_11_15 hk0) (by decide) fl_X11_273 rfl (kX11_rows 19 rfl) rfl ?_
          refine X_iload_n (n := 41) 1 (kX11_rows 20 rfl) rfl rfl rfl ?_
          refine X_bipush (n := 43) (v := 6) (kX11_rows 21 rfl) rfl (by decide) ?_
          refine X_imul (n := 44) (kX11_rows 22 rfl) rfl ?_
          refine X_iload_n (n := 45) 2 (kX11_rows 23 rfl) rfl rfl rfl ?_
          refine X_iadd (n := 46) (kX11_rows 24 rfl) rfl ?_
          refine X_callS1I (n := 49) (As := [.ref (rf (rf a0 15) 2), .int ((i1 * (6 : Int32)) + i2)]) (st := []) (kX11_rows 25 rfl) rfl (p_X11_at (kt_9_2 (kt_11_15 hk0))) (by decide) ml_X11_154 mf_X11_at rfl rfl (Nat.le_of_ble_eq_true rfl) ?_
          exact X_iret rfl (kX11_rows 26 rfl)
        · refine X_iconst (n := 32) (v := (-1)) (kX11_rows 15 rfl) rfl (by decide) ?_
          exact X_iret rfl (kX11_rows 16 rfl)
def t_X11_rows (a0 : Nat) (i1 : Int32) (i2 : Int32) (S : XS) : Int32 := (if i1 < (1 : Int32) then (-1 : Int32) else (if (S.1 (rf a0 15) 0) < i1 then (-1 : Int32) else (if i2 < 0 then (-1 : Int32) else (if i2 < (S.1 (rf a0 15) 1) then (gat S (rf (rf a0 15) 2) ((i1 * (6 : Int32)) + i2)) else (-1 : Int32)))))
theorem ft_X11_rows (a0 : Nat) (i1 : Int32) (i2 : Int32) (S : XS) : f_X11_rows a0 i1 i2 S = some (t_X11_rows a0 i1 i2 S, S) := by
  unfold f_X11_rows t_X11_rows
  first | rfl | simp only [ite_p]
theorem p_X11_rows {l : Launch} {g : XG} {a0 : Nat} {i1 : Int32} {i2 : Int32} {S : XS} (hk0 : kd a0 = 11) : Cl φI l g 2 mX11_rows [.ref a0, .int i1, .int i2] S (some (t_X11_rows a0 i1 i2 S, S)) := ft_X11_rows a0 i1 i2 S ▸ w_X11_rows hk0
def f_X11_first  (a0 : Nat) (i1 : Int32) (S : XS) : Option (Int32 × XS) := (if i1 < (1 : Int32) then some ((-1 : Int32), S) else (if (S.1 (rf a0 15) 3) < i1 then some ((-1 : Int32), S) else some ((gat S (rf (rf a0 15) 4) i1), S)))
set_option maxHeartbeats 4000000 in
set_option maxRecDepth 100000 in
theorem w_X11_first {l : Launch} {g : XG}  {a0 : Nat} {i1 : Int32} {S : XS} (hk0 : kd a0 = 11) : Cl φI l g 2 mX11_first [.ref a0, .int i1] S (f_X11_first a0 i1 S) := by
  refine Cl.of (by decide +kernel) (Nat.le_of_ble_eq_true rfl) ?_
  unfold f_X11_first
  show X _ _ _ _ _ 0 [(0, .ref a0), (1, .int i1)] [] S _
  refine X_iload_n (n := 1) 1 (kX11_first 0 rfl) rfl rfl rfl ?_
  refine X_iconst (n := 2) (v := 1) (kX11_first 1 rfl) rfl (by decide) ?_
  refine X_ic_lt (n := 5) (tgt := 30) (kX11_first 2 rfl) rfl rfl (fun h1 => ?_) (fun h1 => ?_)
  · refine X_iconst (n := 31) (v := (-1)) (kX11_first 14 rfl) rfl (by decide) ?_
    exact X_iret rfl (kX11_first 15 rfl)
  · refine X_iload_n (n := 6) 1 (kX11_first 3 rfl) rfl rfl rfl ?_
    refine X_aload_n (n := 7) 0 (kX11_first 4 rfl) rfl rfl rfl ?_
    refine X_getR (n := 10) xf_X11 hk0 (by decide) fl_X11_89 rfl (kX11_first 5 rfl) rfl ?_
    refine X_getI (n := 13) xf_X9 (kt_11_15 hk0) (by decide) fl_X11_276 rfl (kX11_first 6 rfl) rfl ?_
    refine X_ic_gt (n := 16) (tgt := 30) (kX11_first 7 rfl) rfl rfl (fun h2 => ?_) (fun h2 => ?_)
    · refine X_iconst (n := 31) (v := (-1)) (kX11_first 14 rfl) rfl (by decide) ?_
      exact X_iret rfl (kX11_first 15 rfl)
    · refine X_aload_n (n := 17) 0 (kX11_first 8 rfl) rfl rfl rfl ?_
      refine X_getR (n := 20) xf_X11 hk0 (by decide) fl_X11_89 rfl (kX11_first 9 rfl) rfl ?_
      refine X_getR (n := 23) xf_X9 (kt_11_15 hk0) (by decide) fl_X11_279 rfl (kX11_first 10 rfl) rfl ?_
      refine X_iload_n (n := 24) 1 (kX11_first 11 rfl) rfl rfl rfl ?_
      refine X_callS1I (n := 27) (As := [.ref (rf (rf a0 15) 4), .int i1]) (st := []) (kX11_first 12 rfl) rfl (p_X11_at (kt_9_4 (kt_11_15 hk0))) (by decide) ml_X11_154 mf_X11_at rfl rfl (Nat.le_of_ble_eq_true rfl) ?_
      refine X_goto (tgt := 31) (kX11_first 13 rfl) rfl ?_
      exact X_iret rfl (kX11_first 15 rfl)
def t_X11_first (a0 : Nat) (i1 : Int32) (S : XS) : Int32 := (if i1 < (1 : Int32) then (-1 : Int32) else (if (S.1 (rf a0 15) 3) < i1 then (-1 : Int32) else (gat S (rf (rf a0 15) 4) i1)))
theorem ft_X11_first (a0 : Nat) (i1 : Int32) (S : XS) : f_X11_first a0 i1 S = some (t_X11_first a0 i1 S, S) := by
  unfold f_X11_first t_X11_first
  first | rfl | simp only [ite_p]
theorem p_X11_first {l : Launch} {g : XG} {a0 : Nat} {i1 : Int32} {S : XS} (hk0 : kd a0 = 11) : Cl φI l g 2 mX11_first [.ref a0, .int i1] S (some (t_X11_first a0 i1 S, S)) := ft_X11_first a0 i1 S ▸ w_X11_first hk0
