def f_X11_opened  (a0 : Nat) (i1 : Int32) (S : XS) : Option (Int32 × XS) := some ((t_X4_foundAt (rf a0 14) i1 S), S)
set_option maxHeartbeats 4000000 in
set_option maxRecDepth 100000 in
theorem w_X11_opened {l : Launch} {g : XG}  {a0 : Nat} {i1 : Int32} {S : XS} (hk0 : kd a0 = 11) : Cl φI l g 3 mX11_opened [.ref a0, .int i1] S (f_X11_opened a0 i1 S) := by
  refine Cl.of (by decide +kernel) (Nat.le_of_ble_eq_true rfl) ?_
  unfold f_X11_opened
  show X _ _ _ _ _ 0 [(0, .ref a0), (1, .int i1)] [] S _
  refine X_aload_n (n := 1) 0 (kX11_opened 0 rfl) rfl rfl rfl ?_
  refine X_getR (n := 4) xf_X11 hk0 (by decide) fl_X11_82 rfl (kX11_opened 1 rfl) rfl ?_
  refine X_iload_n (n := 5) 1 (kX11_opened 2 rfl) rfl rfl rfl ?_
  refine X_callV1I (n := 8) (As := [.int i1]) (st := []) (kX11_opened 3 rfl) rfl (p_X4_foundAt (kt_11_14 hk0)) (by decide) ml_X11_243 mf_X4_foundAt rfl (kt_11_14 hk0) xf_X4 rfl (Nat.le_of_ble_eq_true rfl) ?_
  exact X_iret rfl (kX11_opened 4 rfl)
def t_X11_opened (a0 : Nat) (i1 : Int32) (S : XS) : Int32 := (t_X4_foundAt (rf a0 14) i1 S)
theorem ft_X11_opened (a0 : Nat) (i1 : Int32) (S : XS) : f_X11_opened a0 i1 S = some (t_X11_opened a0 i1 S, S) := by
  unfold f_X11_opened t_X11_opened
  first | rfl | simp only [ite_p]
theorem p_X11_opened {l : Launch} {g : XG} {a0 : Nat} {i1 : Int32} {S : XS} (hk0 : kd a0 = 11) : Cl φI l g 3 mX11_opened [.ref a0, .int i1] S (some (t_X11_opened a0 i1 S, S)) := ft_X11_opened a0 i1 S ▸ w_X11_opened hk0
def f_X11_remains  (a0 : Nat) (i1 : Int32) (S : XS) : Option (Int32 × XS) := (if (S.1 (rf a0 14) 1) = 0 then some ((-1 : Int32), S) else (if (t_X2_has (rf a0 1) (0 : Int32) i1 S) = true then some ((gat S (rf (rf a0 14) 0) i1), S) else some ((-1 : Int32), S)))
set_option maxHeartbeats 4000000 in
set_option maxRecDepth 100000 in
theorem w_X11_remains {l : Launch} {g : XG}  {a0 : Nat} {i1 : Int32} {S : XS} (hk0 : kd a0 = 11) : Cl φI l g 3 mX11_remains [.ref a0, .int i1] S (f_X11_remains a0 i1 S) := by
  refine Cl.of (by decide +kernel) (Nat.le_of_ble_eq_true rfl) ?_
  unfold f_X11_remains
  show X _ _ _ _ _ 0 [(0, .ref a0), (1, .int i1)] [] S _
  refine X_aload_n (n := 1) 0 (kX11_remains 0 rfl) rfl rfl rfl ?_
  refine X_getR (n := 4) xf_X11 hk0 (by decide) fl_X11_82 rfl (kX11_remains 1 rfl) rfl ?_
  refine X_getI (n := 7) xf_X4 (kt_11_14 hk0) (by decide) fl_X11_253 rfl (kX11_remains 2 rfl) rfl ?_
  refine X_if_eq (n := 10) (tgt := 36) (kX11_remains 3 rfl) rfl rfl (fun h1 => ?_) (fun h1 => ?_)
  · refine X_iconst (n := 37) (v := (-1)) (kX11_remains 16 rfl) rfl (by decide) ?_
    exact X_iret rfl (kX11_remains 17 rfl)
  · refine X_aload_n (n := 11) 0 (kX11_remains 4 rfl) rfl rfl rfl ?_
    refine X_getR (n := 14) xf_X11 hk0 (by decide) fl_X11_19 rfl (kX11_remains 5 rfl) rfl ?_
    refine X_iconst (n := 15) (v := 0) (kX11_remains 6 rfl) rfl (by decide) ?_
    refine X_iload_n (n := 16) 1 (kX11_remains 7 rfl) rfl rfl rfl ?_
    refine X_callV1B (n := 19) (As := [.int (0 : Int32), .int i1]) (st := []) (kX11_remains 8 rfl) rfl (p_X2_has (kt_11_1 hk0)) (by decide) ml_X11_144 mf_X2_has rfl (kt_11_1 hk0) xf_X2 rfl (Nat.le_of_ble_eq_true rfl) ?_
    refine X_bz (n := 22) (tgt := 36) (kX11_remains 9 rfl) rfl rfl (fun h2 => ?_) (fun h2 => ?_)
    · refine X_aload_n (n := 23) 0 (kX11_remains 10 rfl) rfl rfl rfl ?_
      refine X_getR (n := 26) xf_X11 hk0 (by decide) fl_X11_82 rfl (kX11_remains 11 rfl) rfl ?_
      refine X_getR (n := 29) xf_X4 (kt_11_14 hk0) (by decide) fl_X11_257 rfl (kX11_remains 12 rfl) rfl ?_
      refine X_iload_n (n := 30) 1 (kX11_remains 13 rfl) rfl rfl rfl ?_
      refine X_callS1I (n := 33) (As := [.ref (rf (rf a0 14) 0), .int i1]) (st := []) (kX11_remains 14 rfl) rfl (p_X11_at (kt_4_0 (kt_11_14 hk0))) (by decide) ml_X11_154 mf_X11_at rfl rfl (Nat.le_of_ble_eq_true rfl) ?_
      refine X_goto (tgt := 37) (kX11_remains 15 rfl) rfl ?_
      exact X_iret rfl (kX11_remains 17 rfl)
    · refine X_iconst (n := 37) (v := (-1)) (kX11_remains 16 rfl) rfl (by decide) ?_
      exact X_iret rfl (kX11_remains 17 rfl)
def t_X11_remains (a0 : Nat) (i1 : Int32) (S : XS) : Int32 := (if (S.1 (rf a0 14) 1) = 0 then (-1 : Int32) else (if (t_X2_has (rf a0 1) (0 : Int32) i1 S) = true then (gat S (rf (rf a0 14) 0) i1) else (-1 : Int32)))
theorem ft_X11_remains (a0 : Nat) (i1 : Int32) (S : XS) : f_X11_remains a0 i1 S = some (t_X11_remains a0 i1 S, S) := by
  unfold f_X11_remains t_X11_remains
  first | rfl | simp only [ite_p]
theorem p_X11_remains {l : Launch} {g : XG} {a0 : Nat} {i1 : Int32} {S : XS} (hk0 : kd a0 = 11) : Cl φI l g 3 mX11_remains [.ref a0, .int i1] S (some (t_X11_remains a0 i1 S, S)) := ft_X11_remains a0 i1 S ▸ w_X11_remains hk0
def f_X11_leastUnlike_L9  (a0 : Nat) (i1 : Int32) (a2 : Nat) (i3 : Int32) : Nat → Int32 → Int32 → Int32 → XS → Option (Int32 × XS)
  | 0, _, _, _, _ => none
  | n + 1, i4, i5, i6, S => (if i3 ≤ i6 then some (i4, S) else ((f_X11_difference a0 i1 a2 i6 S).bind (fun q => match q with | (r2, S3) => (if i4 = (-1 : Int32) then f_X11_leastUnlike_L9 a0 i1 a2 i3 n i6 r2 (i6 + 1) S3 else (if i5 ≤ r2 then f_X11_leastUnlike_L9 a0 i1 a2 i3 n i4 i5 (i6 + 1) S3 else f_X11_leastUnlike_L9 a0 i1 a2 i3 n i6 r2 (i6 + 1) S3)))))
def f_X11_leastUnlike  (a0 : Nat) (i1 : Int32) (a2 : Nat) (i3 : Int32) (S : XS) : Option (Int32 × XS) := ((f_X11_leastUnlike_L9 a0 i1 a2 i3 1000000 (-1 : Int32) (0 : Int32) (0 : Int32) S).bind (fun q => match q with | (e6, S7) => some (e6, S7)))
set_option maxHeartbeats 4000000 in
set_option maxRecDepth 100000 in
theorem w_X11_leastUnlike_L9 {l : Launch} {g : XG} {G : (Int32 × XS) → Option (Int32 × XS)}  {a0 : Nat} {i1 : Int32} {a2 : Nat} {i3 : Int32} (hk0 : kd a0 = 20) (hk2 : kd a2 = 20) (kE : ∀ (e4 : Int32) (S1 : XS), X φI l g 3 mX11_leastUnlike 52 [(4, .int e4)] [] S1 (G (e4, S1))) : ∀ (n : Nat) (i4 : Int32) (i5 : Int32) (i6 : Int32) (S : XS), X φI l g 3 mX11_leastUnlike 9 [(6, .int i6), (5, .int i5), (4, .int i4), (0, .ref a0), (1, .int i1), (2, .ref a2), (3, .int i3)] [] S ((f_X11_leastUnlike_L9 a0 i1 a2 i3 n i4 i5 i6 S).bind G) := by
  intro n
  induction n with
  | zero => intro i4 i5 i6 S; exact X_none
  | succ n ih =>
  · intro i4 i5 i6 S
    rw [f_X11_leastUnlike_L9]
    refine X_iload (n := 11) 0 (kX11_leastUnlike 6 rfl) rfl rfl ?_
    refine X_iload_n (n := 12) 6 (kX11_leastUnlike 7 rfl) rfl rfl rfl ?_
    refine X_itebind ?_
    refine X_ic_ge (n := 15) (tgt := 52) (kX11_leastUnlike 8 rfl) rfl rfl (fun h1 => ?_) (fun h1 => ?_)
    · exact X_L [2] rfl (kE i4 S)
    · refine X_aload_n (n := 16) 3 (kX11_leastUnlike 9 rfl) rfl rfl rfl ?_
      refine X_iload_n (n := 17) 4 (kX11_leastUnlike 10 rfl) rfl rfl rfl ?_
      refine X_aload_n (n := 18) 5 (kX11_leastUnlike 11 rfl) rfl rfl rfl ?_
      refine X_iload (n := 20) 0 (kX11_leastUnlike 12 rfl) rfl rfl ?_
      refine X_assoc ?_
      refine X_callSI (n := 23) (As := [.ref a0, .int i1, .ref a2, .int i6]) (st := []) (kX11_leastUnlike 13 rfl) rfl (w_X11_difference hk0 hk2) (by decide) ml_X11_295 mf_X11_difference rfl rfl (Nat.le_of_ble_eq_true rfl) (fun r2 S3 hq => ?_)
      try dsimp only
      refine X_istore (n := 25) (L1 := [(7, .int r2), (6, .int i6), (5, .int i5), (4, .int i4), (0, .ref a0), (1, .int i1), (2, .ref a2), (3, .int i3)]) (kX11_leastUnlike 14 rfl) rfl (Nat.le_of_ble_eq_true rfl) rfl ?_
      refine X_iload (n := 27) 3 (kX11_leastUnlike 15 rfl) rfl rfl ?_
      refine X_iconst (n := 28) (v := (-1)) (kX11_leastUnlike 16 rfl) rfl (by decide) ?_
      refine X_itebind ?_
      refine X_ic_eq (n := 31) (tgt := 38) (kX11_leastUnlike 17 rfl) rfl rfl (fun h4 => ?_) (fun h4 => ?_)
      · refine X_iload (n := 40) 1 (kX11_leastUnlike 21 rfl) rfl rfl ?_
        refine X_istore (n := 42) (L1 := [(4, .int i6), (7, .int r2), (6, .int i6), (5, .int i5), (0, .ref a0), (1, .int i1), (2, .ref a2), (3, .int i3)]) (kX11_leastUnlike 22 rfl) rfl (Nat.le_of_ble_eq_true rfl) rfl ?_
        refine X_iload (n := 44) 1 (kX11_leastUnlike 23 rfl) rfl rfl ?_
        refine X_istore (n := 46) (L1 := [(5, .int r2), (4, .int i6), (7, .int r2), (6, .int i6), (0, .ref a0), (1, .int i1), (2, .ref a2), (3, .int i3)]) (kX11_leastUnlike 24 rfl) rfl (Nat.le_of_ble_eq_true rfl) rfl ?_
        refine X_iinc (n := 49) 3 (v := (i6 + 1)) (L1 := [(6, .int (i6 + 1)), (5, .int r2), (4, .int i6), (7, .int r2), (0, .ref a0), (1, .int i1), (2, .ref a2), (3, .int i3)]) (kX11_leastUnlike 25 rfl) rfl rfl rfl (Nat.le_of_ble_eq_true rfl) rfl ?_
        refine X_goto (tgt := 9) (kX11_leastUnlike 26 rfl) rfl ?_
        exact X_L [0, 1, 2, 4, 5, 6, 7] rfl (ih i6 r2 (i6 + 1) S3)
      · refine X_iload (n := 33) 0 (kX11_leastUnlike 18 rfl) rfl rfl ?_
        refine X_iload (n := 35) 2 (kX11_leastUnlike 19 rfl) rfl rfl ?_
        refine X_itebind ?_
        refine X_ic_ge (n := 38) (tgt := 46) (kX11_leastUnlike 20 rfl) rfl rfl (fun h5 => ?_) (fun h5 => ?_)
        · refine X_iinc (n := 49) 1 (v := (i6 + 1)) (L1 := [(6, .int (i6 + 1)), (7, .int r2), (5, .int i5), (4, .int i4), (0, .ref a0), (1, .int i1), (2, .ref a2), (3, .int i3)]) (kX11_leastUnlike 25 rfl) rfl rfl rfl (Nat.le_of_ble_eq_true rfl) rfl ?_
          refine X_goto (tgt := 9) (kX11_leastUnlike 26 rfl) rfl ?_
          exact X_L [0, 2, 3, 4, 5, 6, 7] rfl (ih i4 i5 (i6 + 1) S3)
        · refine X_iload (n := 40) 1 (kX11_leastUnlike 21 rfl) rfl rfl ?_
          refine X_istore (n := 42) (L1 := [(4, .int i6), (7, .int r2), (6, .int i6), (5, .int i5), (0, .ref a0), (1, .int i1), (2, .ref a2), (3, .int i3)]) (kX11_leastUnlike 22 rfl) rfl (Nat.le_of_ble_eq_true rfl) rfl ?_
          refine X_iload (n := 44) 1 (kX11_leastUnlike 23 rfl) rfl rfl ?_
          refine X_istore (n := 46) (L1 := [(5, .int r2), (4, .int i6), (7, .int r2), (6, .int i6), (0, .ref a0), (1, .int i1), (2, .ref a2), (3, .int i3)]) (kX11_leastUnlike 24 rfl) rfl (Nat.le_of_ble_eq_true rfl) rfl ?_
          refine X_iinc (n := 49) 3 (v := (i6 + 1)) (L1 := [(6, .int (i6 + 1)), (5, .int r2), (4, .int i6), (7, .int r2), (0, .ref a0), (1, .int i1), (2, .ref a2), (3, .int i3)]) (kX11_leastUnlike 25 rfl) rfl rfl rfl (Nat.le_of_ble_eq_true rfl) rfl ?_
          refine X_goto (tgt := 9) (kX11_leastUnlike 26 rfl) rfl ?_
          exact X_L [0, 1, 2, 4, 5, 6, 7] rfl (ih i6 r2 (i6 + 1) S3)
set_option maxHeartbeats 4000000 in
set_option maxRecDepth 100000 in
theorem w_X11_leastUnlike {l : Launch} {g : XG}  {a0 : Nat} {i1 : Int32} {a2 : Nat} {i3 : Int32} {S : XS} (hk0 : kd a0 = 20) (hk2 : kd a2 = 20) : Cl φI l g 3 mX11_leastUnlike [.ref a0, .int i1, .ref a2, .int i3] S (f_X11_leastUnlike a0 i1 a2 i3 S) := by
  refine Cl.of (by decide +kernel) (Nat.le_of_ble_eq_true rfl) ?_
  unfold f_X11_leastUnlike
  show X _ _ _ _ _ 0 [(0, .ref a0), (1, .int i1), (2, .ref a2), (3, .int i3)] [] S _
  refine X_iconst (n := 1) (v := (-1)) (kX11_leastUnlike 0 rfl) rfl (by decide) ?_
  refine X_istore (n := 3) (L1 := [(4, .int (-1)), (0, .ref a0), (1, .int i1), (2, .ref a2), (3, .int i3)]) (kX11_leastUnlike 1 rfl) rfl (Nat.le_of_ble_eq_true rfl) rfl ?_
  refine X_iconst (n := 4) (v := 0) (kX11_leastUnlike 2 rfl) rfl (by decide) ?_
  refine X_istore (n := 6) (L1 := [(5, .int 0), (4, .int (-1)), (0, .ref a0), (1, .int i1), (2, .ref a2), (3, .int i3)]) (kX11_leastUnlike 3 rfl) rfl (Nat.le_of_ble_eq_true rfl) rfl ?_
  refine X_iconst (n := 7) (v := 0) (kX11_leastUnlike 4 rfl) rfl (by decide) ?_
  refine X_istore (n := 9) (L1 := [(6, .int 0), (5, .int 0), (4, .int (-1)), (0, .ref a0), (1, .int i1), (2, .ref a2), (3, .int i3)]) (kX11_leastUnlike 5 rfl) rfl (Nat.le_of_ble_eq_true rfl) rfl ?_
  refine X_L [0, 1, 2, 3, 4, 5, 6] rfl (w_X11_leastUnlike_L9 hk0 hk2 (fun e6 S7 => ?_) 1000000 (-1 : Int32) (0 : Int32) (0 : Int32) S)
  try dsimp only
  refine X_iload (n := 54) 0 (kX11_leastUnlike 27 rfl) rfl rfl ?_
  exact X_iret rfl (kX11_leastUnlike 28 rfl)
def f_X11_unlike  (a0 : Nat) (i1 : Int32) (i2 : Int32) (S : XS) : Option (Int32 × XS) := (if (t_X10_hasCloth (rf a0 3) i1 S) = true then (if (t_X2_has (rf a0 1) (2 : Int32) i2 S) = true then ((f_X11_difference (rf (rf a0 3) 5) i1 (rf (rf a0 3) 3) i2 S).bind (fun q => match q with | (r3, S4) => some (r3, S4))) else some ((-1 : Int32), S)) else some ((-1 : Int32), S))
set_option maxHeartbeats 4000000 in
set_option maxRecDepth 100000 in
theorem w_X11_unlike {l : Launch} {g : XG}  {a0 : Nat} {i1 : Int32} {i2 : Int32} {S : XS} (hk0 : kd a0 = 11) : Cl φI l g 3 mX11_unlike [.ref a0, .int i1, .int i2] S (f_X11_unlike a0 i1 i2 S) := by
  refine Cl.of (by decide +kernel) (Nat.le_of_ble_eq_true rfl) ?_
  unfold f_X11_unlike
  show X _ _ _ _ _ 0 [(0, .ref a0), (1, .int i1), (2, .int i2)] [] S _
  refine X_aload_n (n := 1) 0 (kX11_unlike 0 rfl) rfl rfl rfl ?_
  refine X_getR (n := 4) xf_X11 hk0 (by decide) fl_X11_35 rfl (kX11_unlike 1 rfl) rfl ?_
  refine X_iload_n (n := 5) 1 (kX11_unlike 2 rfl) rfl rfl rfl ?_
  refine X_callV1B (n := 8) (As := [.int i1]) (st := []) (kX11_unlike 3 rfl) rfl (p_X10_hasCloth (kt_11_3 hk0)) (by decide) ml_X11_179 mf_X10_hasCloth rfl (kt_11_3 hk0) xf_X10 rfl (Nat.le_of_ble_eq_true rfl) ?_
  refine X_bz (n := 11) (tgt := 23) (kX11_unlike 4 rfl) rfl rfl (fun h1 => ?_) (fun h1 => ?_)
  · refine X_aload_n (n := 12) 0 (kX11_unlike 5 rfl) rfl rfl rfl ?_
    refine X_getR (n := 15) xf_X11 hk0 (by decide) fl_X11_19 rfl (kX11_unlike 6 rfl) rfl ?_
    refine X_iconst (n := 16) (v := 2) (kX11_unlike 7 rfl) rfl (by decide) ?_
    refine X_iload_n (n := 17) 2 (kX11_unlike 8 rfl) rfl rfl rfl ?_
    refine X_callV1B (n := 20) (As := [.int (2 : Int32), .int i2]) (st := []) (kX11_unlike 9 rfl) rfl (p_X2_has (kt_11_1 hk0)) (by decide) ml_X11_144 mf_X2_has rfl (kt_11_1 hk0) xf_X2 rfl (Nat.le_of_ble_eq_true rfl) ?_
    refine X_bn (n := 23) (tgt := 25) (kX11_unlike 10 rfl) rfl rfl (fun h2 => ?_) (fun h2 => ?_)
    · refine X_aload_n (n := 26) 0 (kX11_unlike 13 rfl) rfl rfl rfl ?_
      refine X_getR (n := 29) xf_X11 hk0 (by decide) fl_X11_35 rfl (kX11_unlike 14 rfl) rfl ?_
      refine X_getR (n := 32) xf_X10 (kt_11_3 hk0) (by decide) fl_X11_183 rfl (kX11_unlike 15 rfl) rfl ?_
      refine X_iload_n (n := 33) 1 (kX11_unlike 16 rfl) rfl rfl rfl ?_
      refine X_aload_n (n := 34) 0 (kX11_unlike 17 rfl) rfl rfl rfl ?_
      refine X_getR (n := 37) xf_X11 hk0 (by decide) fl_X11_35 rfl (kX11_unlike 18 rfl) rfl ?_
      refine X_getR (n := 40) xf_X10 (kt_11_3 hk0) (by decide) fl_X11_170 rfl (kX11_unlike 19 rfl) rfl ?_
      refine X_iload_n (n := 41) 2 (kX11_unlike 20 rfl) rfl rfl rfl ?_
      refine X_callSI (n := 44) (As := [.ref (rf (rf a0 3) 5), .int i1, .ref (rf (rf a0 3) 3), .int i2]) (st := []) (kX11_unlike 21 rfl) rfl (w_X11_difference (kt_10_5 (kt_11_3 hk0)) (kt_10_3 (kt_11_3 hk0))) (by decide) ml_X11_295 mf_X11_difference rfl rfl (Nat.le_of_ble_eq_true rfl) (fun r3 S4 hq => ?_)
      try dsimp only
      exact X_iret rfl (kX11_unlike 22 rfl)
    · refine X_iconst (n := 24) (v := (-1)) (kX11_unlike 11 rfl) rfl (by decide) ?_
      exact X_iret rfl (kX11_unlike 12 rfl)
  · refine X_iconst (n := 24) (v := (-1)) (kX11_unlike 11 rfl) rfl (by decide) ?_
    exact X_iret rfl (kX11_unlike 12 rfl)
def f_X11_alike_L22  (i3 : Int32) (a0 : Nat) : Nat → Int32 → Int32 → Int32 → XS → Option (Int32 × Int32 × XS)
  | 0, _, _, _, _ => none
  | n + 1, i1, i2, i4, S => (if (S.1 (rf a0 3) 4) ≤ i4 then some (i1, i2, S) else ((f_X11_difference (rf (rf a0 3) 5) i3 (rf (rf a0 3) 5) i4 S).bind (fun q => match q with | (r3, S4) => (if i1 = (-1 : Int32) then f_X11_alike_L22 i3 a0 n (((10 : Int32) * i3) + i4) r3 (i4 + 1) S4 else (if i2 ≤ r3 then f_X11_alike_L22 i3 a0 n i1 i2 (i4 + 1) S4 else f_X11_alike_L22 i3 a0 n (((10 : Int32) * i3) + i4) r3 (i4 + 1) S4)))))
def f_X11_alike_L6  (a0 : Nat) : Nat → Int32 → Int32 → Int32 → XS → Option (Int32 × XS)
  | 0, _, _, _, _ => none
  | n + 1, i1, i2, i3, S => (if (S.1 (rf a0 3) 4) ≤ i3 then some (i1, S) else ((f_X11_alike_L22 i3 a0 1000000 i1 i2 (i3 + (1 : Int32)) S).bind (fun q => match q with | (e7, e8, S9) => f_X11_alike_L6 a0 n e7 e8 (i3 + 1) S9)))
def f_X11_alike  (a0 : Nat) (S : XS) : Option (Int32 × XS) := ((f_X11_alike_L6 a0 1000000 (-1 : Int32) (0 : Int32) (0 : Int32) S).bind (fun q => match q with | (e10, S11) => some (e10, S11)))
set_option maxHeartbeats 4000000 in
set_option maxRecDepth 100000 in
theorem w_X11_alike_L22 {l : Launch} {g : XG} {G : (Int32 × Int32 × XS) → Option (Int32 × XS)}  {i3 : Int32} {a0 : Nat} (hk0 : kd a0 = 11) (kE : ∀ (e1 : Int32) (e2 : Int32) (S1 : XS), X φI l g 3 mX11_alike 84 [(3, .int i3), (2, .int e2), (1, .int e1), (0, .ref a0)] [] S1 (G (e1, e2, S1))) : ∀ (n : Nat) (i1 : Int32) (i2 : Int32) (i4 : Int32) (S : XS), X φI l g 3 mX11_alike 22 [(4, .int i4), (3, .int i3), (2, .int i2), (1, .int i1), (0, .ref a0)] [] S ((f_X11_alike_L22 i3 a0 n i1 i2 i4 S).bind G) := by
  intro n
  induction n with
  | zero => intro i1 i2 i4 S; exact X_none
  | succ n ih =>
  · intro i1 i2 i4 S
    rw [f_X11_alike_L22]
    refine X_iload (n := 24) 0 (kX11_alike 15 rfl) rfl rfl ?_
    refine X_aload_n (n := 25) 4 (kX11_alike 16 rfl) rfl rfl rfl ?_
    refine X_getR (n := 28) xf_X11 hk0 (by decide) fl_X11_35 rfl (kX11_alike 17 rfl) rfl ?_
    refine X_getI (n := 31) xf_X10 (kt_11_3 hk0) (by decide) fl_X11_213 rfl (kX11_alike 18 rfl) rfl ?_
    refine X_itebind ?_
    refine X_ic_ge (n := 34) (tgt := 84) (kX11_alike 19 rfl) rfl rfl (fun h2 => ?_) (fun h2 => ?_)
    · exact X_L [1, 2, 3, 4] rfl (kE i1 i2 S)
    · refine X_aload_n (n := 35) 4 (kX11_alike 20 rfl) rfl rfl rfl ?_
      refine X_getR (n := 38) xf_X11 hk0 (by decide) fl_X11_35 rfl (kX11_alike 21 rfl) rfl ?_
      refine X_getR (n := 41) xf_X10 (kt_11_3 hk0) (by decide) fl_X11_183 rfl (kX11_alike 22 rfl) rfl ?_
      refine X_iload_n (n := 42) 1 (kX11_alike 23 rfl) rfl rfl rfl ?_
      refine X_aload_n (n := 43) 4 (kX11_alike 24 rfl) rfl rfl rfl ?_
      refine X_getR (n := 46) xf_X11 hk0 (by decide) fl_X11_35 rfl (kX11_alike 25 rfl) rfl ?_
      refine X_getR (n := 49) xf_X10 (kt_11_3 hk0) (by decide) fl_X11_183 rfl (kX11_alike 26 rfl) rfl ?_
      refine X_iload (n := 51) 0 (kX11_alike 27 rfl) rfl rfl ?_
      refine X_assoc ?_
      refine X_callSI (n := 54) (As := [.ref (rf (rf a0 3) 5), .int i3, .ref (rf (rf a0 3) 5), .int i4]) (st := []) (kX11_alike 28 rfl) rfl (w_X11_difference (kt_10_5 (kt_11_3 hk0)) (kt_10_5 (kt_11_3 hk0))) (by decide) ml_X11_295 mf_X11_difference rfl rfl (Nat.le_of_ble_eq_true rfl) (fun r3 S4 hq => ?_)
      try dsimp only
      refine X_istore (n := 56) (L1 := [(5, .int r3), (4, .int i4), (3, .int i3), (2, .int i2), (1, .int i1), (0, .ref a0)]) (kX11_alike 29 rfl) rfl (Nat.le_of_ble_eq_true rfl) rfl ?_
      refine X_iload_n (n := 57) 4 (kX11_alike 30 rfl) rfl rfl rfl ?_
      refine X_iconst (n := 58) (v := (-1)) (kX11_alike 31 rfl) rfl (by decide) ?_
      refine X_itebind ?_
      refine X_ic_eq (n := 61) (tgt := 67) (kX11_alike 32 rfl) rfl rfl (fun h5 => ?_) (fun h5 => ?_)
      · refine X_bipush (n := 69) (v := 10) (kX11_alike 36 rfl) rfl (by decide) ?_
        refine X_iload_n (n := 70) 2 (kX11_alike 37 rfl) rfl rfl rfl ?_
        refine X_imul (n := 71) (kX11_alike 38 rfl) rfl ?_
        refine X_iload (n := 73) 1 (kX11_alike 39 rfl) rfl rfl ?_
        refine X_iadd (n := 74) (kX11_alike 40 rfl) rfl ?_
        refine X_istore_n (n := 75) (L1 := [(1, .int (((10 : Int32) * i3) + i4)), (5, .int r3), (4, .int i4), (3, .int i3), (2, .int i2), (0, .ref a0)]) (kX11_alike 41 rfl) rfl rfl (Nat.le_of_ble_eq_true rfl) rfl ?_
        refine X_iload (n := 77) 1 (kX11_alike 42 rfl) rfl rfl ?_
        refine X_istore_n (n := 78) (L1 := [(2, .int r3), (1, .int (((10 : Int32) * i3) + i4)), (5, .int r3), (4, .int i4), (3, .int i3), (0, .ref a0)]) (kX11_alike 43 rfl) rfl rfl (Nat.le_of_ble_eq_true rfl) rfl ?_
        refine X_iinc (n := 81) 3 (v := (i4 + 1)) (L1 := [(4, .int (i4 + 1)), (2, .int r3), (1, .int (((10 : Int32) * i3) + i4)), (5, .int r3), (3, .int i3), (0, .ref a0)]) (kX11_alike 44 rfl) rfl rfl rfl (Nat.le_of_ble_eq_true rfl) rfl ?_
        refine X_goto (tgt := 22) (kX11_alike 45 rfl) rfl ?_
        exact X_L [0, 4, 1, 2, 5] rfl (ih (((10 : Int32) * i3) + i4) r3 (i4 + 1) S4)
      · refine X_iload (n := 63) 0 (kX11_alike 33 rfl) rfl rfl ?_
        refine X_iload_n (n := 64) 3 (kX11_alike 34 rfl) rfl rfl rfl ?_
        refine X_itebind ?_
        refine X_ic_ge (n := 67) (tgt := 78) (kX11_alike 35 rfl) rfl rfl (fun h6 => ?_) (fun h6 => ?_)
        · refine X_iinc (n := 81) 1 (v := (i4 + 1)) (L1 := [(4, .int (i4 + 1)), (5, .int r3), (3, .int i3), (2, .int i2), (1, .int i1), (0, .ref a0)]) (kX11_alike 44 rfl) rfl rfl rfl (Nat.le_of_ble_eq_true rfl) rfl ?_
          refine X_goto (tgt := 22) (kX11_alike 45 rfl) rfl ?_
          exact X_L [0, 2, 3, 4, 5] rfl (ih i1 i2 (i4 + 1) S4)
        · refine X_bipush (n := 69) (v := 10) (kX11_alike 36 rfl) rfl (by decide) ?_
          refine X_iload_n (n := 70) 2 (kX11_alike 37 rfl) rfl rfl rfl ?_
          refine X_imul (n := 71) (kX11_alike 38 rfl) rfl ?_
          refine X_iload (n := 73) 1 (kX11_alike 39 rfl) rfl rfl ?_
          refine X_iadd (n := 74) (kX11_alike 40 rfl) rfl ?_
          refine X_istore_n (n := 75) (L1 := [(1, .int (((10 : Int32) * i3) + i4)), (5, .int r3), (4, .int i4), (3, .int i3), (2, .int i2), (0, .ref a0)]) (kX11_alike 41 rfl) rfl rfl (Nat.le_of_ble_eq_true rfl) rfl ?_
          refine X_iload (n := 77) 1 (kX11_alike 42 rfl) rfl rfl ?_
          refine X_istore_n (n := 78) (L1 := [(2, .int r3), (1, .int (((10 : Int32) * i3) + i4)), (5, .int r3), (4, .int i4), (3, .int i3), (0, .ref a0)]) (kX11_alike 43 rfl) rfl rfl (Nat.le_of_ble_eq_true rfl) rfl ?_
          refine X_iinc (n := 81) 3 (v := (i4 + 1)) (L1 := [(4, .int (i4 + 1)), (2, .int r3), (1, .int (((10 : Int32) * i3) + i4)), (5, .int r3), (3, .int i3), (0, .ref a0)]) (kX11_alike 44 rfl) rfl rfl rfl (Nat.le_of_ble_eq_true rfl) rfl ?_
          refine X_goto (tgt := 22) (kX11_alike 45 rfl) rfl ?_
          exact X_L [0, 4, 1, 2, 5] rfl (ih (((10 : Int32) * i3) + i4) r3 (i4 + 1) S4)
set_option maxHeartbeats 4000000 in
set_option maxRecDepth 100000 in
theorem w_X11_alike_L6 {l : Launch} {g : XG} {G : (Int32 × XS) → Option (Int32 × XS)}  {a0 : Nat} (hk0 : kd a0 = 11) (kE : ∀ (e1 : Int32) (S1 : XS), X φI l g 3 mX11_alike 90 [(1, .int e1)] [] S1 (G (e1, S1))) : ∀ (n : Nat) (i1 : Int32) (i2 : Int32) (i3 : Int32) (S : XS), X φI l g 3 mX11_alike 6 [(3, .int i3), (2, .int i2), (1, .int i1), (0, .ref a0)] [] S ((f_X11_alike_L6 a0 n i1 i2 i3 S).bind G) := by
  intro n
  induction n with
  | zero => intro i1 i2 i3 S; exact X_none
  | succ n ih =>
  · intro i1 i2 i3 S
    rw [f_X11_alike_L6]
    refine X_iload_n (n := 7) 0 (kX11_alike 6 rfl) rfl rfl rfl ?_
    refine X_aload_n (n := 8) 3 (kX11_alike 7 rfl) rfl rfl rfl ?_
    refine X_getR (n := 11) xf_X11 hk0 (by decide) fl_X11_35 rfl (kX11_alike 8 rfl) rfl ?_
    refine X_getI (n := 14) xf_X10 (kt_11_3 hk0) (by decide) fl_X11_213 rfl (kX11_alike 9 rfl) rfl ?_
    refine X_itebind ?_
    refine X_ic_ge (n := 17) (tgt := 90) (kX11_alike 10 rfl) rfl rfl (fun h1 => ?_) (fun h1 => ?_)
    · exact X_L [2] rfl (kE i1 S)
    · refine X_iload_n (n := 18) 0 (kX11_alike 11 rfl) rfl rfl rfl ?_
      refine X_iconst (n := 19) (v := 1) (kX11_alike 12 rfl) rfl (by decide) ?_
      refine X_iadd (n := 20) (kX11_alike 13 rfl) rfl ?_
      refine X_istore (n := 22) (L1 := [(4, .int (i3 + (1 : Int32))), (3, .int i3), (2, .int i2), (1, .int i1), (0, .ref a0)]) (kX11_alike 14 rfl) rfl (Nat.le_of_ble_eq_true rfl) rfl ?_
      refine X_assoc ?_
      refine X_L [0, 1, 2, 3, 4] rfl (w_X11_alike_L22 hk0 (fun e7 e8 S9 => ?_) 1000000 i1 i2 (i3 + (1 : Int32)) S)
      try dsimp only
      refine X_iinc (n := 87) 0 (v := (i3 + 1)) (L1 := [(3, .int (i3 + 1)), (2, .int e8), (1, .int e7), (0, .ref a0)]) (kX11_alike 46 rfl) rfl rfl rfl (Nat.le_of_ble_eq_true rfl) rfl ?_
      refine X_goto (tgt := 6) (kX11_alike 47 rfl) rfl ?_
      exact X_L [0, 1, 2, 3] rfl (ih e7 e8 (i3 + 1) S9)
set_option maxHeartbeats 4000000 in
set_option maxRecDepth 100000 in
theorem w_X11_alike {l : Launch} {g : XG}  {a0 : Nat} {S : XS} (hk0 : kd a0 = 11) : Cl φI l g 3 mX11_alike [.ref a0] S (f_X11_alike a0 S) := by
  refine Cl.of (by decide +kernel) (Nat.le_of_ble_eq_true rfl) ?_
  unfold f_X11_alike
  show X _ _ _ _ _ 0 [(0, .ref a0)] [] S _
  refine X_iconst (n := 1) (v := (-1)) (kX11_alike 0 rfl) rfl (by decide) ?_
  refine X_istore_n (n := 2) (L1 := [(1, .int (-1)), (0, .ref a0)]) (kX11_alike 1 rfl) rfl rfl (Nat.le_of_ble_eq_true rfl) rfl ?_
  refine X_iconst (n := 3) (v := 0) (kX11_alike 2 rfl) rfl (by decide) ?_
  refine X_istore_n (n := 4) (L1 := [(2, .int 0), (1, .int (-1)), (0, .ref a0)]) (kX11_alike 3 rfl) rfl rfl (Nat.le_of_ble_eq_true rfl) rfl ?_
  refine X_iconst (n := 5) (v := 0) (kX11_alike 4 rfl) rfl (by decide) ?_
  refine X_istore_n (n := 6) (L1 := [(3, .int 0), (2, .int 0), (1, .int (-1)), (0, .ref a0)]) (kX11_alike 5 rfl) rfl rfl (Nat.le_of_ble_eq_true rfl) rfl ?_
  refine X_L [0, 1, 2, 3] rfl (w_X11_alike_L6 hk0 (fun e10 S11 => ?_) 1000000 (-1 : Int32) (0 : Int32) (0 : Int32) S)
  try dsimp only
  refine X_iload_n (n := 91) 0 (kX11_alike 48 rfl) rfl rfl rfl ?_
  exact X_iret rfl (kX11_alike 49 rfl)
def f_X11_kitchen_L21  (a0 : Nat) (i1 : Int32) : Nat → Int32 → Int32 → Int32 → XS → Option (Int32 × XS)
  | 0, _, _, _, _ => none
  | n + 1, i2, i3, i4, S => (if (gat S (rf (rf a0 1) 0) (1 : Int32)) ≤ i4 then some (i2, S) else ((f_X2_gain (rf a0 1) (rf (rf a0 3) 3) (gat S (rf (rf a0 3) 2) i1) i4 S).bind (fun q => match q with | (r3, S4) => (if i2 = (-1 : Int32) then f_X11_kitchen_L21 a0 i1 n i4 r3 (i4 + 1) S4 else (if r3 ≤ i3 then f_X11_kitchen_L21 a0 i1 n i2 i3 (i4 + 1) S4 else f_X11_kitchen_L21 a0 i1 n i4 r3 (i4 + 1) S4)))))
def f_X11_kitchen  (a0 : Nat) (i1 : Int32) (S : XS) : Option (Int32 × XS) := (if (t_X2_has (rf a0 1) (2 : Int32) i1 S) = true then ((f_X11_kitchen_L21 a0 i1 1000000 (-1 : Int32) (0 : Int32) (0 : Int32) S).bind (fun q => match q with | (e7, S8) => some (e7, S8))) else some ((-1 : Int32), S))
set_option maxHeartbeats 4000000 in
set_option maxRecDepth 100000 in
theorem w_X11_kitchen_L21 {l : Launch} {g : XG} {G : (Int32 × XS) → Option (Int32 × XS)}  {a0 : Nat} {i1 : Int32} (hk0 : kd a0 = 11) (kE : ∀ (e2 : Int32) (S1 : XS), X φI l g 3 mX11_kitchen 89 [(2, .int e2)] [] S1 (G (e2, S1))) : ∀ (n : Nat) (i2 : Int32) (i3 : Int32) (i4 : Int32) (S : XS), X φI l g 3 mX11_kitchen 21 [(4, .int i4), (3, .int i3), (2, .int i2), (0, .ref a0), (1, .int i1)] [] S ((f_X11_kitchen_L21 a0 i1 n i2 i3 i4 S).bind G) := by
  intro n
  induction n with
  | zero => intro i2 i3 i4 S; exact X_none
  | succ n ih =>
  · intro i2 i3 i4 S
    rw [f_X11_kitchen_L21]
    refine X_iload (n := 23) 0 (kX11_kitchen 14 rfl) rfl rfl ?_
    refine X_aload_n (n := 24) 3 (kX11_kitchen 15 rfl) rfl rfl rfl ?_
    refine X_getR (n := 27) xf_X11 hk0 (by decide) fl_X11_19 rfl (kX11_kitchen 16 rfl) rfl ?_
    refine X_getR (n := 30) xf_X2 (kt_11_1 hk0) (by decide) fl_X11_260 rfl (kX11_kitchen 17 rfl) rfl ?_
    refine X_iconst (n := 31) (v := 1) (kX11_kitchen 18 rfl) rfl (by decide) ?_
    refine X_callS1I (n := 34) (As := [.ref (rf (rf a0 1) 0), .int (1 : Int32)]) (st := [.int i4]) (kX11_kitchen 19 rfl) rfl (p_X11_at (kt_2_0 (kt_11_1 hk0))) (by decide) ml_X11_154 mf_X11_at rfl rfl (Nat.le_of_ble_eq_true rfl) ?_
    refine X_itebind ?_
    refine X_ic_ge (n := 37) (tgt := 89) (kX11_kitchen 20 rfl) rfl rfl (fun h2 => ?_) (fun h2 => ?_)
    · exact X_L [2] rfl (kE i2 S)
    · refine X_aload_n (n := 38) 3 (kX11_kitchen 21 rfl) rfl rfl rfl ?_
      refine X_getR (n := 41) xf_X11 hk0 (by decide) fl_X11_19 rfl (kX11_kitchen 22 rfl) rfl ?_
      refine X_aload_n (n := 42) 3 (kX11_kitchen 23 rfl) rfl rfl rfl ?_
      refine X_getR (n := 45) xf_X11 hk0 (by decide) fl_X11_35 rfl (kX11_kitchen 24 rfl) rfl ?_
      refine X_getR (n := 48) xf_X10 (kt_11_3 hk0) (by decide) fl_X11_170 rfl (kX11_kitchen 25 rfl) rfl ?_
      refine X_aload_n (n := 49) 3 (kX11_kitchen 26 rfl) rfl rfl rfl ?_
      refine X_getR (n := 52) xf_X11 hk0 (by decide) fl_X11_35 rfl (kX11_kitchen 27 rfl) rfl ?_
      refine X_getR (n := 55) xf_X10 (kt_11_3 hk0) (by decide) fl_X11_164 rfl (kX11_kitchen 28 rfl) rfl ?_
      refine X_iload_n (n := 56) 4 (kX11_kitchen 29 rfl) rfl rfl rfl ?_
      refine X_callS1I (n := 59) (As := [.ref (rf (rf a0 3) 2), .int i1]) (st := [.ref (rf (rf a0 3) 3), .ref (rf a0 1)]) (kX11_kitchen 30 rfl) rfl (p_X11_at (kt_10_2 (kt_11_3 hk0))) (by decide) ml_X11_154 mf_X11_at rfl rfl (Nat.le_of_ble_eq_true rfl) ?_
      refine X_iload (n := 61) 0 (kX11_kitchen 31 rfl) rfl rfl ?_
      refine X_assoc ?_
      refine X_callVI (n := 64) (As := [.ref (rf (rf a0 3) 3), .int (gat S (rf (rf a0 3) 2) i1), .int i4]) (st := []) (kX11_kitchen 32 rfl) rfl (w_X2_gain (kt_11_1 hk0) (kt_10_3 (kt_11_3 hk0))) (by decide) ml_X11_298 mf_X2_gain rfl (kt_11_1 hk0) xf_X2 rfl (Nat.le_of_ble_eq_true rfl) (fun r3 S4 hq => ?_)
      try dsimp only
      refine X_istore (n := 66) (L1 := [(5, .int r3), (4, .int i4), (3, .int i3), (2, .int i2), (0, .ref a0), (1, .int i1)]) (kX11_kitchen 33 rfl) rfl (Nat.le_of_ble_eq_true rfl) rfl ?_
      refine X_iload_n (n := 67) 3 (kX11_kitchen 34 rfl) rfl rfl rfl ?_
      refine X_iconst (n := 68) (v := (-1)) (kX11_kitchen 35 rfl) rfl (by decide) ?_
      refine X_itebind ?_
      refine X_ic_eq (n := 71) (tgt := 77) (kX11_kitchen 36 rfl) rfl rfl (fun h5 => ?_) (fun h5 => ?_)
      · refine X_iload (n := 79) 1 (kX11_kitchen 40 rfl) rfl rfl ?_
        refine X_istore_n (n := 80) (L1 := [(2, .int i4), (5, .int r3), (4, .int i4), (3, .int i3), (0, .ref a0), (1, .int i1)]) (kX11_kitchen 41 rfl) rfl rfl (Nat.le_of_ble_eq_true rfl) rfl ?_
        refine X_iload (n := 82) 1 (kX11_kitchen 42 rfl) rfl rfl ?_
        refine X_istore_n (n := 83) (L1 := [(3, .int r3), (2, .int i4), (5, .int r3), (4, .int i4), (0, .ref a0), (1, .int i1)]) (kX11_kitchen 43 rfl) rfl rfl (Nat.le_of_ble_eq_true rfl) rfl ?_
        refine X_iinc (n := 86) 3 (v := (i4 + 1)) (L1 := [(4, .int (i4 + 1)), (3, .int r3), (2, .int i4), (5, .int r3), (0, .ref a0), (1, .int i1)]) (kX11_kitchen 44 rfl) rfl rfl rfl (Nat.le_of_ble_eq_true rfl) rfl ?_
        refine X_goto (tgt := 21) (kX11_kitchen 45 rfl) rfl ?_
        exact X_L [0, 1, 2, 4, 5] rfl (ih i4 r3 (i4 + 1) S4)
      · refine X_iload (n := 73) 0 (kX11_kitchen 37 rfl) rfl rfl ?_
        refine X_iload_n (n := 74) 2 (kX11_kitchen 38 rfl) rfl rfl rfl ?_
        refine X_itebind ?_
        refine X_ic_le (n := 77) (tgt := 83) (kX11_kitchen 39 rfl) rfl rfl (fun h6 => ?_) (fun h6 => ?_)
        · refine X_iinc (n := 86) 1 (v := (i4 + 1)) (L1 := [(4, .int (i4 + 1)), (5, .int r3), (3, .int i3), (2, .int i2), (0, .ref a0), (1, .int i1)]) (kX11_kitchen 44 rfl) rfl rfl rfl (Nat.le_of_ble_eq_true rfl) rfl ?_
          refine X_goto (tgt := 21) (kX11_kitchen 45 rfl) rfl ?_
          exact X_L [0, 2, 3, 4, 5] rfl (ih i2 i3 (i4 + 1) S4)
        · refine X_iload (n := 79) 1 (kX11_kitchen 40 rfl) rfl rfl ?_
          refine X_istore_n (n := 80) (L1 := [(2, .int i4), (5, .int r3), (4, .int i4), (3, .int i3), (0, .ref a0), (1, .int i1)]) (kX11_kitchen 41 rfl) rfl rfl (Nat.le_of_ble_eq_true rfl) rfl ?_
          refine X_iload (n := 82) 1 (kX11_kitchen 42 rfl) rfl rfl ?_
          refine X_istore_n (n := 83) (L1 := [(3, .int r3), (2, .int i4), (5, .int r3), (4, .int i4), (0, .ref a0), (1, .int i1)]) (kX11_kitchen 43 rfl) rfl rfl (Nat.le_of_ble_eq_true rfl) rfl ?_
          refine X_iinc (n := 86) 3 (v := (i4 + 1)) (L1 := [(4, .int (i4 + 1)), (3, .int r3), (2, .int i4), (5, .int r3), (0, .ref a0), (1, .int i1)]) (kX11_kitchen 44 rfl) rfl rfl rfl (Nat.le_of_ble_eq_true rfl) rfl ?_
          refine X_goto (tgt := 21) (kX11_kitchen 45 rfl) rfl ?_
          exact X_L [0, 1, 2, 4, 5] rfl (ih i4 r3 (i4 + 1) S4)
set_option maxHeartbeats 4000000 in
set_option maxRecDepth 100000 in
theorem w_X11_kitchen {l : Launch} {g : XG}  {a0 : Nat} {i1 : Int32} {S : XS} (hk0 : kd a0 = 11) : Cl φI l g 3 mX11_kitchen [.ref a0, .int i1] S (f_X11_kitchen a0 i1 S) := by
  refine Cl.of (by decide +kernel) (Nat.le_of_ble_eq_true rfl) ?_
  unfold f_X11_kitchen
  show X _ _ _ _ _ 0 [(0, .ref a0), (1, .int i1)] [] S _
  refine X_aload_n (n := 1) 0 (kX11_kitchen 0 rfl) rfl rfl rfl ?_
  refine X_getR (n := 4) xf_X11 hk0 (by decide) fl_X11_19 rfl (kX11_kitchen 1 rfl) rfl ?_
  refine X_iconst (n := 5) (v := 2) (kX11_kitchen 2 rfl) rfl (by decide) ?_
  refine X_iload_n (n := 6) 1 (kX11_kitchen 3 rfl) rfl rfl rfl ?_
  refine X_callV1B (n := 9) (As := [.int (2 : Int32), .int i1]) (st := []) (kX11_kitchen 4 rfl) rfl (p_X2_has (kt_11_1 hk0)) (by decide) ml_X11_144 mf_X2_has rfl (kt_11_1 hk0) xf_X2 rfl (Nat.le_of_ble_eq_true rfl) ?_
  refine X_bn (n := 12) (tgt := 14) (kX11_kitchen 5 rfl) rfl rfl (fun h1 => ?_) (fun h1 => ?_)
  · refine X_iconst (n := 15) (v := (-1)) (kX11_kitchen 8 rfl) rfl (by decide) ?_
    refine X_istore_n (n := 16) (L1 := [(2, .int (-1)), (0, .ref a0), (1, .int i1)]) (kX11_kitchen 9 rfl) rfl rfl (Nat.le_of_ble_eq_true rfl) rfl ?_
    refine X_iconst (n := 17) (v := 0) (kX11_kitchen 10 rfl) rfl (by decide) ?_
    refine X_istore_n (n := 18) (L1 := [(3, .int 0), (2, .int (-1)), (0, .ref a0), (1, .int i1)]) (kX11_kitchen 11 rfl) rfl rfl (Nat.le_of_ble_eq_true rfl) rfl ?_
    refine X_iconst (n := 19) (v := 0) (kX11_kitchen 12 rfl) rfl (by decide) ?_
    refine X_istore (n := 21) (L1 := [(4, .int 0), (3, .int 0), (2, .int (-1)), (0, .ref a0), (1, .int i1)]) (kX11_kitchen 13 rfl) rfl (Nat.le_of_ble_eq_true rfl) rfl ?_
    refine X_L [0, 1, 2, 3, 4] rfl (w_X11_kitchen_L21 hk0 (fun e7 S8 => ?_) 1000000 (-1 : Int32) (0 : Int32) (0 : Int32) S)
    try dsimp only
    refine X_iload_n (n := 90) 0 (kX11_kitchen 46 rfl) rfl rfl rfl ?_
    exact X_iret rfl (kX11_kitchen 47 rfl)
  · refine X_iconst (n := 13) (v := (-1)) (kX11_kitchen 6 rfl) rfl (by decide) ?_
    exact X_iret rfl (kX11_kitchen 7 rfl)
def f_X11_source_L21  (a0 : Nat) (i1 : Int32) : Nat → Int32 → Int32 → Int32 → XS → Option (Int32)
  | 0, _, _, _, _ => none
  | n + 1, i2, i3, i4, S => (if (gat S (rf (rf a0 1) 0) (1 : Int32)) ≤ i4 then some i2 else (if (gat S (rf (rf a0 1) 3) ((i4 * (6 : Int32)) + i1)) ≤ i3 then f_X11_source_L21 a0 i1 n i2 i3 (i4 + 1) S else f_X11_source_L21 a0 i1 n i4 (gat S (rf (rf a0 1) 3) ((i4 * (6 : Int32)) + i1)) (i4 + 1) S))
def f_X11_source  (a0 : Nat) (i1 : Int32) (S : XS) : Option (Int32 × XS) := (if (t_X2_has (rf a0 1) (0 : Int32) i1 S) = true then ((f_X11_source_L21 a0 i1 1000000 (-1 : Int32) (0 : Int32) (0 : Int32) S).bind (fun e4 => some (e4, S))) else some ((-1 : Int32), S))
set_option maxHeartbeats 4000000 in
set_option maxRecDepth 100000 in
theorem w_X11_source_L21 {l : Launch} {g : XG} {G : (Int32) → Option (Int32 × XS)}  {a0 : Nat} {i1 : Int32} (hk0 : kd a0 = 11) {S : XS} (kE : ∀ (e2 : Int32), X φI l g 3 mX11_source 74 [(2, .int e2)] [] S (G e2)) : ∀ (n : Nat) (i2 : Int32) (i3 : Int32) (i4 : Int32), X φI l g 3 mX11_source 21 [(4, .int i4), (3, .int i3), (2, .int i2), (0, .ref a0), (1, .int i1)] [] S ((f_X11_source_L21 a0 i1 n i2 i3 i4 S).bind G) := by
  intro n
  induction n with
  | zero => intro i2 i3 i4; exact X_none
  | succ n ih =>
  · intro i2 i3 i4
    rw [f_X11_source_L21]
    refine X_iload (n := 23) 0 (kX11_source 14 rfl) rfl rfl ?_
    refine X_aload_n (n := 24) 3 (kX11_source 15 rfl) rfl rfl rfl ?_
    refine X_getR (n := 27) xf_X11 hk0 (by decide) fl_X11_19 rfl (kX11_source 16 rfl) rfl ?_
    refine X_getR (n := 30) xf_X2 (kt_11_1 hk0) (by decide) fl_X11_260 rfl (kX11_source 17 rfl) rfl ?_
    refine X_iconst (n := 31) (v := 1) (kX11_source 18 rfl) rfl (by decide) ?_
    refine X_callS1I (n := 34) (As := [.ref (rf (rf a0 1) 0), .int (1 : Int32)]) (st := [.int i4]) (kX11_source 19 rfl) rfl (p_X11_at (kt_2_0 (kt_11_1 hk0))) (by decide) ml_X11_154 mf_X11_at rfl rfl (Nat.le_of_ble_eq_true rfl) ?_
    refine X_itebind ?_
    refine X_ic_ge (n := 37) (tgt := 74) (kX11_source 20 rfl) rfl rfl (fun h2 => ?_) (fun h2 => ?_)
    · exact X_L [2] rfl (kE i2)
    · refine X_aload_n (n := 38) 3 (kX11_source 21 rfl) rfl rfl rfl ?_
      refine X_getR (n := 41) xf_X11 hk0 (by decide) fl_X11_19 rfl (kX11_source 22 rfl) rfl ?_
      refine X_getR (n := 44) xf_X2 (kt_11_1 hk0) (by decide) fl_X11_151 rfl (kX11_source 23 rfl) rfl ?_
      refine X_iload (n := 46) 0 (kX11_source 24 rfl) rfl rfl ?_
      refine X_bipush (n := 48) (v := 6) (kX11_source 25 rfl) rfl (by decide) ?_
      refine X_imul (n := 49) (kX11_source 26 rfl) rfl ?_
      refine X_iload_n (n := 50) 4 (kX11_source 27 rfl) rfl rfl rfl ?_
      refine X_iadd (n := 51) (kX11_source 28 rfl) rfl ?_
      refine X_callS1I (n := 54) (As := [.ref (rf (rf a0 1) 3), .int ((i4 * (6 : Int32)) + i1)]) (st := []) (kX11_source 29 rfl) rfl (p_X11_at (kt_2_3 (kt_11_1 hk0))) (by decide) ml_X11_154 mf_X11_at rfl rfl (Nat.le_of_ble_eq_true rfl) ?_
      refine X_istore (n := 56) (L1 := [(5, .int (gat S (rf (rf a0 1) 3) ((i4 * (6 : Int32)) + i1))), (4, .int i4), (3, .int i3), (2, .int i2), (0, .ref a0), (1, .int i1)]) (kX11_source 30 rfl) rfl (Nat.le_of_ble_eq_true rfl) rfl ?_
      refine X_iload (n := 58) 0 (kX11_source 31 rfl) rfl rfl ?_
      refine X_iload_n (n := 59) 2 (kX11_source 32 rfl) rfl rfl rfl ?_
      refine X_itebind ?_
      refine X_ic_le (n := 62) (tgt := 68) (kX11_source 33 rfl) rfl rfl (fun h3 => ?_) (fun h3 => ?_)
      · refine X_iinc (n := 71) 1 (v := (i4 + 1)) (L1 := [(4, .int (i4 + 1)), (5, .int (gat S (rf (rf a0 1) 3) ((i4 * (6 : Int32)) + i1))), (3, .int i3), (2, .int i2), (0, .ref a0), (1, .int i1)]) (kX11_source 38 rfl) rfl rfl rfl (Nat.le_of_ble_eq_true rfl) rfl ?_
        refine X_goto (tgt := 21) (kX11_source 39 rfl) rfl ?_
        exact X_L [0, 2, 3, 4, 5] rfl (ih i2 i3 (i4 + 1))
      · refine X_iload (n := 64) 1 (kX11_source 34 rfl) rfl rfl ?_
        refine X_istore_n (n := 65) (L1 := [(2, .int i4), (5, .int (gat S (rf (rf a0 1) 3) ((i4 * (6 : Int32)) + i1))), (4, .int i4), (3, .int i3), (0, .ref a0), (1, .int i1)]) (kX11_source 35 rfl) rfl rfl (Nat.le_of_ble_eq_true rfl) rfl ?_
        refine X_iload (n := 67) 1 (kX11_source 36 rfl) rfl rfl ?_
        refine X_istore_n (n := 68) (L1 := [(3, .int (gat S (rf (rf a0 1) 3) ((i4 * (6 : Int32)) + i1))), (2, .int i4), (5, .int (gat S (rf (rf a0 1) 3) ((i4 * (6 : Int32)) + i1))), (4, .int i4), (0, .ref a0), (1, .int i1)]) (kX11_source 37 rfl) rfl rfl (Nat.le_of_ble_eq_true rfl) rfl ?_
        refine X_iinc (n := 71) 3 (v := (i4 + 1)) (L1 := [(4, .int (i4 + 1)), (3, .int (gat S (rf (rf a0 1) 3) ((i4 * (6 : Int32)) + i1))), (2, .int i4), (5, .int (gat S (rf (rf a0 1) 3) ((i4 * (6 : Int32)) + i1))), (0, .ref a0), (1, .int i1)]) (kX11_source 38 rfl) rfl rfl rfl (Nat.le_of_ble_eq_true rfl) rfl ?_
        refine X_goto (tgt := 21) (kX11_source 39 rfl) rfl ?_
        exact X_L [0, 1, 2, 4, 5] rfl (ih i4 (gat S (rf (rf a0 1) 3) ((i4 * (6 : Int32)) + i1)) (i4 + 1))
set_option maxHeartbeats 4000000 in
set_option maxRecDepth 100000 in
theorem w_X11_source {l : Launch} {g : XG}  {a0 : Nat} {i1 : Int32} {S : XS} (hk0 : kd a0 = 11) : Cl φI l g 3 mX11_source [.ref a0, .int i1] S (f_X11_source a0 i1 S) := by
  refine Cl.of (by decide +kernel) (Nat.le_of_ble_eq_true rfl) ?_
  unfold f_X11_source
  show X _ _ _ _ _ 0 [(0, .ref a0), (1, .int i1)] [] S _
  refine X_aload_n (n := 1) 0 (kX11_source 0 rfl) rfl rfl rfl ?_
  refine X_getR (n := 4) xf_X11 hk0 (by decide) fl_X11_19 rfl (kX11_source 1 rfl) rfl ?_
  refine X_iconst (n := 5) (v := 0) (kX11_source 2 rfl) rfl (by decide) ?_
  refine X_iload_n (n := 6) 1 (kX11_source 3 rfl) rfl rfl rfl ?_
  refine X_callV1B (n := 9) (As := [.int (0 : Int32), .int i1]) (st := []) (kX11_source 4 rfl) rfl (p_X2_has (kt_11_1 hk0)) (by decide) ml_X11_144 mf_X2_has rfl (kt_11_1 hk0) xf_X2 rfl (Nat.le_of_ble_eq_true rfl) ?_
  refine X_bn (n := 12) (tgt := 14) (kX11_source 5 rfl) rfl rfl (fun h1 => ?_) (fun h1 => ?_)
  · refine X_iconst (n := 15) (v := (-1)) (kX11_source 8 rfl) rfl (by decide) ?_
    refine X_istore_n (n := 16) (L1 := [(2, .int (-1)), (0, .ref a0), (1, .int i1)]) (kX11_source 9 rfl) rfl rfl (Nat.le_of_ble_eq_true rfl) rfl ?_
    refine X_iconst (n := 17) (v := 0) (kX11_source 10 rfl) rfl (by decide) ?_
    refine X_istore_n (n := 18) (L1 := [(3, .int 0), (2, .int (-1)), (0, .ref a0), (1, .int i1)]) (kX11_source 11 rfl) rfl rfl (Nat.le_of_ble_eq_true rfl) rfl ?_
    refine X_iconst (n := 19) (v := 0) (kX11_source 12 rfl) rfl (by decide) ?_
    refine X_istore (n := 21) (L1 := [(4, .int 0), (3, .int 0), (2, .int (-1)), (0, .ref a0), (1, .int i1)]) (kX11_source 13 rfl) rfl (Nat.le_of_ble_eq_true rfl) rfl ?_
    refine X_L [0, 1, 2, 3, 4] rfl (w_X11_source_L21 hk0 (fun e4 => ?_) 1000000 (-1 : Int32) (0 : Int32) (0 : Int32))
    try dsimp only
    refine X_iload_n (n := 75) 0 (kX11_source 40 rfl) rfl rfl rfl ?_
    exact X_iret rfl (kX11_source 41 rfl)
  · refine X_iconst (n := 13) (v := (-1)) (kX11_source 6 rfl) rfl (by decide) ?_
    exact X_iret rfl (kX11_source 7 rfl)
def f_X11_clean  (a0 : Nat) (i1 : Int32) (S : XS) : Option (Int32 × XS) := (if (t_X10_hasCloth (rf a0 3) i1 S) = true then ((f_X10_hoursTillClean (rf a0 3) (rf a0 1) i1 S).bind (fun q => match q with | (r2, S3) => some (r2, S3))) else some ((-1 : Int32), S))
set_option maxHeartbeats 4000000 in
set_option maxRecDepth 100000 in
theorem w_X11_clean {l : Launch} {g : XG}  {a0 : Nat} {i1 : Int32} {S : XS} (hk0 : kd a0 = 11) : Cl φI l g 3 mX11_clean [.ref a0, .int i1] S (f_X11_clean a0 i1 S) := by
  refine Cl.of (by decide +kernel) (Nat.le_of_ble_eq_true rfl) ?_
  unfold f_X11_clean
  show X _ _ _ _ _ 0 [(0, .ref a0), (1, .int i1)] [] S _
  refine X_aload_n (n := 1) 0 (kX11_clean 0 rfl) rfl rfl rfl ?_
  refine X_getR (n := 4) xf_X11 hk0 (by decide) fl_X11_35 rfl (kX11_clean 1 rfl) rfl ?_
  refine X_iload_n (n := 5) 1 (kX11_clean 2 rfl) rfl rfl rfl ?_
  refine X_callV1B (n := 8) (As := [.int i1]) (st := []) (kX11_clean 3 rfl) rfl (p_X10_hasCloth (kt_11_3 hk0)) (by decide) ml_X11_179 mf_X10_hasCloth rfl (kt_11_3 hk0) xf_X10 rfl (Nat.le_of_ble_eq_true rfl) ?_
  refine X_bz (n := 11) (tgt := 26) (kX11_clean 4 rfl) rfl rfl (fun h1 => ?_) (fun h1 => ?_)
  · refine X_aload_n (n := 12) 0 (kX11_clean 5 rfl) rfl rfl rfl ?_
    refine X_getR (n := 15) xf_X11 hk0 (by decide) fl_X11_35 rfl (kX11_clean 6 rfl) rfl ?_
    refine X_aload_n (n := 16) 0 (kX11_clean 7 rfl) rfl rfl rfl ?_
    refine X_getR (n := 19) xf_X11 hk0 (by decide) fl_X11_19 rfl (kX11_clean 8 rfl) rfl ?_
    refine X_iload_n (n := 20) 1 (kX11_clean 9 rfl) rfl rfl rfl ?_
    refine X_callVI (n := 23) (As := [.ref (rf a0 1), .int i1]) (st := []) (kX11_clean 10 rfl) rfl (w_X10_hoursTillClean (kt_11_3 hk0) (kt_11_1 hk0)) (by decide) ml_X11_302 mf_X10_hoursTillClean rfl (kt_11_3 hk0) xf_X10 rfl (Nat.le_of_ble_eq_true rfl) (fun r2 S3 hq => ?_)
    try dsimp only
    refine X_goto (tgt := 27) (kX11_clean 11 rfl) rfl ?_
    exact X_iret rfl (kX11_clean 13 rfl)
  · refine X_iconst (n := 27) (v := (-1)) (kX11_clean 12 rfl) rfl (by decide) ?_
    exact X_iret rfl (kX11_clean 13 rfl)
def f_X11_writeName_L3  (a0 : Nat) (j1 : Int64) : Nat → Int32 → XS → Option (XS)
  | 0, _, _ => none
  | n + 1, i3, S => (if i3 < 0 then some S else (if ((ushr64 j1 ((8 : Int32) * i3)) &&& 255).toInt32 = 0 then f_X11_writeName_L3 a0 j1 n (i3 + (-1)) S else f_X11_writeName_L3 a0 j1 n (i3 + (-1)) (t_X11_writeByte a0 (((ushr64 j1 ((8 : Int32) * i3)) &&& 255).toInt32) S)))
def f_X11_writeName  (a0 : Nat) (j1 : Int64) (S : XS) : Option (XS) := ((f_X11_writeName_L3 a0 j1 1000000 (6 : Int32) S).bind (fun S3 => some S3))
set_option maxHeartbeats 4000000 in
set_option maxRecDepth 100000 in
theorem w_X11_writeName_L3 {l : Launch} {g : XG} {G : (XS) → Option (XS)}  {a0 : Nat} {j1 : Int64} (hk0 : kd a0 = 11) (kE : ∀ (S1 : XS), X φV l g 3 mX11_writeName 37 [] [] S1 (G S1)) : ∀ (n : Nat) (i3 : Int32) (S : XS), X φV l g 3 mX11_writeName 3 [(3, .int i3), (0, .ref a0), (1, .long j1)] [] S ((f_X11_writeName_L3 a0 j1 n i3 S).bind G) := by
  intro n
  induction n with
  | zero => intro i3 S; exact X_none
  | succ n ih =>
  · intro i3 S
    rw [f_X11_writeName_L3]
    refine X_iload_n (n := 4) 0 (kX11_writeName 2 rfl) rfl rfl rfl ?_
    refine X_itebind ?_
    refine X_if_lt (n := 7) (tgt := 37) (kX11_writeName 3 rfl) rfl rfl (fun h1 => ?_) (fun h1 => ?_)
    · exact X_L [] rfl (kE S)
    · refine X_lload_n (n := 8) 2 (kX11_writeName 4 rfl) rfl rfl rfl ?_
      refine X_bipush (n := 10) (v := 8) (kX11_writeName 5 rfl) rfl (by decide) ?_
      refine X_iload_n (n := 11) 0 (kX11_writeName 6 rfl) rfl rfl rfl ?_
      refine X_imul (n := 12) (kX11_writeName 7 rfl) rfl ?_
      refine X_lushr (n := 13) (kX11_writeName 8 rfl) rfl ?_
      refine X_ldc2 (n := 16) (kX11_writeName 9 rfl) rfl cl_X11_376 ?_
      refine X_land (n := 17) (kX11_writeName 10 rfl) rfl ?_
      refine X_l2i (n := 18) (kX11_writeName 11 rfl) rfl ?_
      refine X_istore (n := 20) (L1 := [(4, .int ((ushr64 j1 ((8 : Int32) * i3)) &&& 255).toInt32), (3, .int i3), (0, .ref a0), (1, .long j1)]) (kX11_writeName 12 rfl) rfl (Nat.le_of_ble_eq_true rfl) rfl ?_
      refine X_iload (n := 22) 0 (kX11_writeName 13 rfl) rfl rfl ?_
      refine X_itebind ?_
      refine X_if_eq (n := 25) (tgt := 31) (kX11_writeName 14 rfl) rfl rfl (fun h2 => ?_) (fun h2 => ?_)
      · refine X_iinc (n := 34) 1 (v := (i3 + (-1))) (L1 := [(3, .int (i3 + (-1))), (4, .int ((ushr64 j1 ((8 : Int32) * i3)) &&& 255).toInt32), (0, .ref a0), (1, .long j1)]) (kX11_writeName 18 rfl) rfl rfl rfl (Nat.le_of_ble_eq_true rfl) rfl ?_
        refine X_goto (tgt := 3) (kX11_writeName 19 rfl) rfl ?_
        exact X_L [0, 2, 3] rfl (ih (i3 + (-1)) S)
      · refine X_aload_n (n := 26) 2 (kX11_writeName 15 rfl) rfl rfl rfl ?_
        refine X_iload (n := 28) 0 (kX11_writeName 16 rfl) rfl rfl ?_
        refine X_callV1V (n := 31) (As := [.int ((ushr64 j1 ((8 : Int32) * i3)) &&& 255).toInt32]) (st := []) (kX11_writeName 17 rfl) rfl (p_X11_writeByte hk0) (by decide) ml_X11_347 mf_X11_writeByte rfl hk0 xf_X11 rfl (Nat.le_of_ble_eq_true rfl) ?_
        refine X_iinc (n := 34) 1 (v := (i3 + (-1))) (L1 := [(3, .int (i3 + (-1))), (4, .int ((ushr64 j1 ((8 : Int32) * i3)) &&& 255).toInt32), (0, .ref a0), (1, .long j1)]) (kX11_writeName 18 rfl) rfl rfl rfl (Nat.le_of_ble_eq_true rfl) rfl ?_
        refine X_goto (tgt := 3) (kX11_writeName 19 rfl) rfl ?_
        exact X_L [0, 2, 3] rfl (ih (i3 + (-1)) (t_X11_writeByte a0 (((ushr64 j1 ((8 : Int32) * i3)) &&& 255).toInt32) S))
set_option maxHeartbeats 4000000 in
set_option maxRecDepth 100000 in
theorem w_X11_writeName {l : Launch} {g : XG}  {a0 : Nat} {j1 : Int64} {S : XS} (hk0 : kd a0 = 11) : Cl φV l g 3 mX11_writeName [.ref a0, .long j1] S (f_X11_writeName a0 j1 S) := by
  refine Cl.of (by decide +kernel) (Nat.le_of_ble_eq_true rfl) ?_
  unfold f_X11_writeName
  show X _ _ _ _ _ 0 [(0, .ref a0), (1, .long j1)] [] S _
  refine X_bipush (n := 2) (v := 6) (kX11_writeName 0 rfl) rfl (by decide) ?_
  refine X_istore_n (n := 3) (L1 := [(3, .int 6), (0, .ref a0), (1, .long j1)]) (kX11_writeName 1 rfl) rfl rfl (Nat.le_of_ble_eq_true rfl) rfl ?_
  refine X_L [0, 1, 2] rfl (w_X11_writeName_L3 hk0 (fun S3 => ?_) 1000000 (6 : Int32) S)
  try dsimp only
  exact X_vret rfl (kX11_writeName 20 rfl)
def f_X11_writeNumber  (a0 : Nat) (i1 : Int32) (S : XS) : Option (XS) := ((if i1 < (10 : Int32) then some S else some (t_X11_writeByte a0 ((48 : Int32) + (rem32 (i1 / (10 : Int32)) (10 : Int32))) S)).bind (fun S1 => some (t_X11_writeByte a0 ((48 : Int32) + (rem32 i1 (10 : Int32))) S1)))
set_option maxHeartbeats 4000000 in
set_option maxRecDepth 100000 in
theorem w_X11_writeNumber {l : Launch} {g : XG}  {a0 : Nat} {i1 : Int32} {S : XS} (hk0 : kd a0 = 11) : Cl φV l g 3 mX11_writeNumber [.ref a0, .int i1] S (f_X11_writeNumber a0 i1 S) := by
  refine Cl.of (by decide +kernel) (Nat.le_of_ble_eq_true rfl) ?_
  unfold f_X11_writeNumber
  show X _ _ _ _ _ 0 [(0, .ref a0), (1, .int i1)] [] S _
  refine X_iload_n (n := 1) 1 (kX11_writeNumber 0 rfl) rfl rfl rfl ?_
  refine X_bipush (n := 3) (v := 10) (kX11_writeNumber 1 rfl) rfl (by decide) ?_
  refine X_join 20 (fun S1 => [(0, .ref a0), (1, .int i1)]) (fun S1 => []) (fun S1 => S1) (fun S1 => ?_) (fun kJ => ?_)
  · try dsimp only
    refine X_aload_n (n := 21) 0 (kX11_writeNumber 12 rfl) rfl rfl rfl ?_
    refine X_bipush (n := 23) (v := 48) (kX11_writeNumber 13 rfl) rfl (by decide) ?_
    refine X_iload_n (n := 24) 1 (kX11_writeNumber 14 rfl) rfl rfl rfl ?_
    refine X_bipush (n := 26) (v := 10) (kX11_writeNumber 15 rfl) rfl (by decide) ?_
    refine X_irem' (n := 27) (kX11_writeNumber 16 rfl) rfl (by decide) ?_
    refine X_iadd (n := 28) (kX11_writeNumber 17 rfl) rfl ?_
    refine X_callV1V (n := 31) (As := [.int ((48 : Int32) + (rem32 i1 (10 : Int32)))]) (st := []) (kX11_writeNumber 18 rfl) rfl (p_X11_writeByte hk0) (by decide) ml_X11_347 mf_X11_writeByte rfl hk0 xf_X11 rfl (Nat.le_of_ble_eq_true rfl) ?_
    exact X_vret rfl (kX11_writeNumber 19 rfl)
  · refine X_itebind ?_
    refine X_ic_lt (n := 6) (tgt := 20) (kX11_writeNumber 2 rfl) rfl rfl (fun h2 => ?_) (fun h2 => ?_)
    · exact X_L [0, 1] rfl (kJ S)
    · refine X_aload_n (n := 7) 0 (kX11_writeNumber 3 rfl) rfl rfl rfl ?_
      refine X_bipush (n := 9) (v := 48) (kX11_writeNumber 4 rfl) rfl (by decide) ?_
      refine X_iload_n (n := 10) 1 (kX11_writeNumber 5 rfl) rfl rfl rfl ?_
      refine X_bipush (n := 12) (v := 10) (kX11_writeNumber 6 rfl) rfl (by decide) ?_
      refine X_idiv' (n := 13) (kX11_writeNumber 7 rfl) rfl (by decide) ?_
      refine X_bipush (n := 15) (v := 10) (kX11_writeNumber 8 rfl) rfl (by decide) ?_
      refine X_irem' (n := 16) (kX11_writeNumber 9 rfl) rfl (by decide) ?_
      refine X_iadd (n := 17) (kX11_writeNumber 10 rfl) rfl ?_
      refine X_callV1V (n := 20) (As := [.int ((48 : Int32) + (rem32 (i1 / (10 : Int32)) (10 : Int32)))]) (st := []) (kX11_writeNumber 11 rfl) rfl (p_X11_writeByte hk0) (by decide) ml_X11_347 mf_X11_writeByte rfl hk0 xf_X11 rfl (Nat.le_of_ble_eq_true rfl) ?_
      exact X_L [0, 1] rfl (kJ (t_X11_writeByte a0 ((48 : Int32) + (rem32 (i1 / (10 : Int32)) (10 : Int32))) S))
