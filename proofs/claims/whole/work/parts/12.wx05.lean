def f_X11_move  (a0 : Nat) (i1 : Int32) (i2 : Int32) (S : XS) : Option (Bool × XS) := (if (t_X10_hasCloth (rf a0 3) i1 S) = true then (if (t_X11_isBox i2) = true then (if (gat S (rf (rf a0 3) 7) i1) = i2 then some (false, S) else ((f_X11_keepPast a0 S).bind (fun S4 => some (true, (pat S4 (rf (rf a0 3) 7) i1 i2))))) else some (false, S)) else some (false, S))
set_option maxHeartbeats 4000000 in
set_option maxRecDepth 100000 in
theorem w_X11_move {l : Launch} {g : XG}  {a0 : Nat} {i1 : Int32} {i2 : Int32} {S : XS} (hk0 : kd a0 = 11) : Cl φB l g 5 mX11_move [.ref a0, .int i1, .int i2] S (f_X11_move a0 i1 i2 S) := by
  refine Cl.of (by decide +kernel) (Nat.le_of_ble_eq_true rfl) ?_
  unfold f_X11_move
  show X _ _ _ _ _ 0 [(0, .ref a0), (1, .int i1), (2, .int i2)] [] S _
  refine X_aload_n (n := 1) 0 (kX11_move 0 rfl) rfl rfl rfl ?_
  refine X_getR (n := 4) xf_X11 hk0 (by decide) fl_X11_35 rfl (kX11_move 1 rfl) rfl ?_
  refine X_iload_n (n := 5) 1 (kX11_move 2 rfl) rfl rfl rfl ?_
  refine X_callV1B (n := 8) (As := [.int i1]) (st := []) (kX11_move 3 rfl) rfl (p_X10_hasCloth (kt_11_3 hk0)) (by decide) ml_X11_179 mf_X10_hasCloth rfl (kt_11_3 hk0) xf_X10 rfl (Nat.le_of_ble_eq_true rfl) ?_
  refine X_bz (n := 11) (tgt := 33) (kX11_move 4 rfl) rfl rfl (fun h1 => ?_) (fun h1 => ?_)
  · refine X_iload_n (n := 12) 2 (kX11_move 5 rfl) rfl rfl rfl ?_
    refine X_callS1B (n := 15) (As := [.int i2]) (st := []) (kX11_move 6 rfl) rfl p_X11_isBox (by decide) ml_X11_210 mf_X11_isBox rfl rfl (Nat.le_of_ble_eq_true rfl) ?_
    refine X_bz (n := 18) (tgt := 33) (kX11_move 7 rfl) rfl rfl (fun h2 => ?_) (fun h2 => ?_)
    · refine X_aload_n (n := 19) 0 (kX11_move 8 rfl) rfl rfl rfl ?_
      refine X_getR (n := 22) xf_X11 hk0 (by decide) fl_X11_35 rfl (kX11_move 9 rfl) rfl ?_
      refine X_getR (n := 25) xf_X10 (kt_11_3 hk0) (by decide) fl_X11_189 rfl (kX11_move 10 rfl) rfl ?_
      refine X_iload_n (n := 26) 1 (kX11_move 11 rfl) rfl rfl rfl ?_
      refine X_callS1I (n := 29) (As := [.ref (rf (rf a0 3) 7), .int i1]) (st := []) (kX11_move 12 rfl) rfl (p_X11_at (kt_10_7 (kt_11_3 hk0))) (by decide) ml_X11_154 mf_X11_at rfl rfl (Nat.le_of_ble_eq_true rfl) ?_
      refine X_iload_n (n := 30) 2 (kX11_move 13 rfl) rfl rfl rfl ?_
      refine X_ic_ne (n := 33) (tgt := 35) (kX11_move 14 rfl) rfl rfl (fun h3 => ?_) (fun h3 => ?_)
      · refine X_iconst (n := 34) (v := 0) (kX11_move 15 rfl) rfl (by decide) ?_
        exact X_zret (b := false) rfl (kX11_move 16 rfl)
      · refine X_aload_n (n := 36) 0 (kX11_move 17 rfl) rfl rfl rfl ?_
        refine X_callVV (n := 39) (As := []) (st := []) (kX11_move 18 rfl) rfl (w_X11_keepPast hk0) (by decide) ml_X11_195 mf_X11_keepPast rfl hk0 xf_X11 rfl (Nat.le_of_ble_eq_true rfl) (fun S4 hq => ?_)
        try dsimp only
        refine X_aload_n (n := 40) 0 (kX11_move 19 rfl) rfl rfl rfl ?_
        refine X_getR (n := 43) xf_X11 hk0 (by decide) fl_X11_35 rfl (kX11_move 20 rfl) rfl ?_
        refine X_getR (n := 46) xf_X10 (kt_11_3 hk0) (by decide) fl_X11_189 rfl (kX11_move 21 rfl) rfl ?_
        refine X_iload_n (n := 47) 1 (kX11_move 22 rfl) rfl rfl rfl ?_
        refine X_iload_n (n := 48) 2 (kX11_move 23 rfl) rfl rfl rfl ?_
        refine X_callS1V (n := 51) (As := [.ref (rf (rf a0 3) 7), .int i1, .int i2]) (st := []) (kX11_move 24 rfl) rfl (p_X11_put (kt_10_7 (kt_11_3 hk0))) (by decide) ml_X11_198 mf_X11_put rfl rfl (Nat.le_of_ble_eq_true rfl) ?_
        refine X_iconst (n := 52) (v := 1) (kX11_move 25 rfl) rfl (by decide) ?_
        exact X_zret (b := true) rfl (kX11_move 26 rfl)
    · refine X_iconst (n := 34) (v := 0) (kX11_move 15 rfl) rfl (by decide) ?_
      exact X_zret (b := false) rfl (kX11_move 16 rfl)
  · refine X_iconst (n := 34) (v := 0) (kX11_move 15 rfl) rfl (by decide) ?_
    exact X_zret (b := false) rfl (kX11_move 16 rfl)
def f_X11_drowned  (a0 : Nat) (S : XS) : Option (Int32 × XS) := ((f_X4_openRow (rf a0 14) (rf a0 3) (rf a0 0) S).bind (fun q => match q with | (r1, S2) => some (r1, (sI S2 (rf a0 0) 1 (0 : Int32)))))
set_option maxHeartbeats 4000000 in
set_option maxRecDepth 100000 in
theorem w_X11_drowned {l : Launch} {g : XG}  {a0 : Nat} {S : XS} (hk0 : kd a0 = 11) : Cl φI l g 4 mX11_drowned [.ref a0] S (f_X11_drowned a0 S) := by
  refine Cl.of (by decide +kernel) (Nat.le_of_ble_eq_true rfl) ?_
  unfold f_X11_drowned
  show X _ _ _ _ _ 0 [(0, .ref a0)] [] S _
  refine X_aload_n (n := 1) 0 (kX11_drowned 0 rfl) rfl rfl rfl ?_
  refine X_getR (n := 4) xf_X11 hk0 (by decide) fl_X11_82 rfl (kX11_drowned 1 rfl) rfl ?_
  refine X_aload_n (n := 5) 0 (kX11_drowned 2 rfl) rfl rfl rfl ?_
  refine X_getR (n := 8) xf_X11 hk0 (by decide) fl_X11_35 rfl (kX11_drowned 3 rfl) rfl ?_
  refine X_aload_n (n := 9) 0 (kX11_drowned 4 rfl) rfl rfl rfl ?_
  refine X_getR (n := 12) xf_X11 hk0 (by decide) fl_X11_12 rfl (kX11_drowned 5 rfl) rfl ?_
  refine X_callVI (n := 15) (As := [.ref (rf a0 3), .ref (rf a0 0)]) (st := []) (kX11_drowned 6 rfl) rfl (w_X4_openRow (kt_11_14 hk0) (kt_11_3 hk0) (kt_11_0 hk0)) (by decide) ml_X11_249 mf_X4_openRow rfl (kt_11_14 hk0) xf_X4 rfl (Nat.le_of_ble_eq_true rfl) (fun r1 S2 hq => ?_)
  try dsimp only
  refine X_istore_n (n := 16) (L1 := [(1, .int r1), (0, .ref a0)]) (kX11_drowned 7 rfl) rfl rfl (Nat.le_of_ble_eq_true rfl) rfl ?_
  refine X_aload_n (n := 17) 1 (kX11_drowned 8 rfl) rfl rfl rfl ?_
  refine X_getR (n := 20) xf_X11 hk0 (by decide) fl_X11_12 rfl (kX11_drowned 9 rfl) rfl ?_
  refine X_iconst (n := 21) (v := 0) (kX11_drowned 10 rfl) rfl (by decide) ?_
  refine X_putI (n := 24) xf_X8 (kt_11_0 hk0) (by decide) fl_X11_110 rfl rfl (Or.inl rfl) (kX11_drowned 11 rfl) rfl ?_
  refine X_iload_n (n := 25) 0 (kX11_drowned 12 rfl) rfl rfl rfl ?_
  exact X_iret rfl (kX11_drowned 13 rfl)
def f_X11_dog  (a0 : Nat) (i1 : Int32) (S : XS) : Option (Int32 × XS) := (if (t_X10_hasCloth (rf a0 3) i1 S) = true then ((f_X11_leastUnlike (rf (rf a0 3) 5) i1 (rf (rf a0 3) 3) (gat S (rf (rf a0 1) 0) (2 : Int32)) S).bind (fun q => match q with | (r2, S3) => some (r2, S3))) else some ((-1 : Int32), S))
set_option maxHeartbeats 4000000 in
set_option maxRecDepth 100000 in
theorem w_X11_dog {l : Launch} {g : XG}  {a0 : Nat} {i1 : Int32} {S : XS} (hk0 : kd a0 = 11) : Cl φI l g 4 mX11_dog [.ref a0, .int i1] S (f_X11_dog a0 i1 S) := by
  refine Cl.of (by decide +kernel) (Nat.le_of_ble_eq_true rfl) ?_
  unfold f_X11_dog
  show X _ _ _ _ _ 0 [(0, .ref a0), (1, .int i1)] [] S _
  refine X_aload_n (n := 1) 0 (kX11_dog 0 rfl) rfl rfl rfl ?_
  refine X_getR (n := 4) xf_X11 hk0 (by decide) fl_X11_35 rfl (kX11_dog 1 rfl) rfl ?_
  refine X_iload_n (n := 5) 1 (kX11_dog 2 rfl) rfl rfl rfl ?_
  refine X_callV1B (n := 8) (As := [.int i1]) (st := []) (kX11_dog 3 rfl) rfl (p_X10_hasCloth (kt_11_3 hk0)) (by decide) ml_X11_179 mf_X10_hasCloth rfl (kt_11_3 hk0) xf_X10 rfl (Nat.le_of_ble_eq_true rfl) ?_
  refine X_bn (n := 11) (tgt := 13) (kX11_dog 4 rfl) rfl rfl (fun h1 => ?_) (fun h1 => ?_)
  · refine X_aload_n (n := 14) 0 (kX11_dog 7 rfl) rfl rfl rfl ?_
    refine X_getR (n := 17) xf_X11 hk0 (by decide) fl_X11_35 rfl (kX11_dog 8 rfl) rfl ?_
    refine X_getR (n := 20) xf_X10 (kt_11_3 hk0) (by decide) fl_X11_183 rfl (kX11_dog 9 rfl) rfl ?_
    refine X_iload_n (n := 21) 1 (kX11_dog 10 rfl) rfl rfl rfl ?_
    refine X_aload_n (n := 22) 0 (kX11_dog 11 rfl) rfl rfl rfl ?_
    refine X_getR (n := 25) xf_X11 hk0 (by decide) fl_X11_35 rfl (kX11_dog 12 rfl) rfl ?_
    refine X_getR (n := 28) xf_X10 (kt_11_3 hk0) (by decide) fl_X11_170 rfl (kX11_dog 13 rfl) rfl ?_
    refine X_aload_n (n := 29) 0 (kX11_dog 14 rfl) rfl rfl rfl ?_
    refine X_getR (n := 32) xf_X11 hk0 (by decide) fl_X11_19 rfl (kX11_dog 15 rfl) rfl ?_
    refine X_getR (n := 35) xf_X2 (kt_11_1 hk0) (by decide) fl_X11_260 rfl (kX11_dog 16 rfl) rfl ?_
    refine X_iconst (n := 36) (v := 2) (kX11_dog 17 rfl) rfl (by decide) ?_
    refine X_callS1I (n := 39) (As := [.ref (rf (rf a0 1) 0), .int (2 : Int32)]) (st := [.ref (rf (rf a0 3) 3), .int i1, .ref (rf (rf a0 3) 5)]) (kX11_dog 18 rfl) rfl (p_X11_at (kt_2_0 (kt_11_1 hk0))) (by decide) ml_X11_154 mf_X11_at rfl rfl (Nat.le_of_ble_eq_true rfl) ?_
    refine X_callSI (n := 42) (As := [.ref (rf (rf a0 3) 5), .int i1, .ref (rf (rf a0 3) 3), .int (gat S (rf (rf a0 1) 0) (2 : Int32))]) (st := []) (kX11_dog 19 rfl) rfl (w_X11_leastUnlike (kt_10_5 (kt_11_3 hk0)) (kt_10_3 (kt_11_3 hk0))) (by decide) ml_X11_291 mf_X11_leastUnlike rfl rfl (Nat.le_of_ble_eq_true rfl) (fun r2 S3 hq => ?_)
    try dsimp only
    exact X_iret rfl (kX11_dog 20 rfl)
  · refine X_iconst (n := 12) (v := (-1)) (kX11_dog 5 rfl) rfl (by decide) ?_
    exact X_iret rfl (kX11_dog 6 rfl)
def f_X11_thread  (a0 : Nat) (i1 : Int32) (S : XS) : Option (Int32 × XS) := (if (t_X10_hasCloth (rf a0 3) i1 S) = true then ((f_X11_leastUnlike (rf (rf a0 3) 5) i1 (rf (rf a0 1) 3) (gat S (rf (rf a0 1) 0) (1 : Int32)) S).bind (fun q => match q with | (r2, S3) => some (r2, S3))) else some ((-1 : Int32), S))
set_option maxHeartbeats 4000000 in
set_option maxRecDepth 100000 in
theorem w_X11_thread {l : Launch} {g : XG}  {a0 : Nat} {i1 : Int32} {S : XS} (hk0 : kd a0 = 11) : Cl φI l g 4 mX11_thread [.ref a0, .int i1] S (f_X11_thread a0 i1 S) := by
  refine Cl.of (by decide +kernel) (Nat.le_of_ble_eq_true rfl) ?_
  unfold f_X11_thread
  show X _ _ _ _ _ 0 [(0, .ref a0), (1, .int i1)] [] S _
  refine X_aload_n (n := 1) 0 (kX11_thread 0 rfl) rfl rfl rfl ?_
  refine X_getR (n := 4) xf_X11 hk0 (by decide) fl_X11_35 rfl (kX11_thread 1 rfl) rfl ?_
  refine X_iload_n (n := 5) 1 (kX11_thread 2 rfl) rfl rfl rfl ?_
  refine X_callV1B (n := 8) (As := [.int i1]) (st := []) (kX11_thread 3 rfl) rfl (p_X10_hasCloth (kt_11_3 hk0)) (by decide) ml_X11_179 mf_X10_hasCloth rfl (kt_11_3 hk0) xf_X10 rfl (Nat.le_of_ble_eq_true rfl) ?_
  refine X_bn (n := 11) (tgt := 13) (kX11_thread 4 rfl) rfl rfl (fun h1 => ?_) (fun h1 => ?_)
  · refine X_aload_n (n := 14) 0 (kX11_thread 7 rfl) rfl rfl rfl ?_
    refine X_getR (n := 17) xf_X11 hk0 (by decide) fl_X11_35 rfl (kX11_thread 8 rfl) rfl ?_
    refine X_getR (n := 20) xf_X10 (kt_11_3 hk0) (by decide) fl_X11_183 rfl (kX11_thread 9 rfl) rfl ?_
    refine X_iload_n (n := 21) 1 (kX11_thread 10 rfl) rfl rfl rfl ?_
    refine X_aload_n (n := 22) 0 (kX11_thread 11 rfl) rfl rfl rfl ?_
    refine X_getR (n := 25) xf_X11 hk0 (by decide) fl_X11_19 rfl (kX11_thread 12 rfl) rfl ?_
    refine X_getR (n := 28) xf_X2 (kt_11_1 hk0) (by decide) fl_X11_151 rfl (kX11_thread 13 rfl) rfl ?_
    refine X_aload_n (n := 29) 0 (kX11_thread 14 rfl) rfl rfl rfl ?_
    refine X_getR (n := 32) xf_X11 hk0 (by decide) fl_X11_19 rfl (kX11_thread 15 rfl) rfl ?_
    refine X_getR (n := 35) xf_X2 (kt_11_1 hk0) (by decide) fl_X11_260 rfl (kX11_thread 16 rfl) rfl ?_
    refine X_iconst (n := 36) (v := 1) (kX11_thread 17 rfl) rfl (by decide) ?_
    refine X_callS1I (n := 39) (As := [.ref (rf (rf a0 1) 0), .int (1 : Int32)]) (st := [.ref (rf (rf a0 1) 3), .int i1, .ref (rf (rf a0 3) 5)]) (kX11_thread 18 rfl) rfl (p_X11_at (kt_2_0 (kt_11_1 hk0))) (by decide) ml_X11_154 mf_X11_at rfl rfl (Nat.le_of_ble_eq_true rfl) ?_
    refine X_callSI (n := 42) (As := [.ref (rf (rf a0 3) 5), .int i1, .ref (rf (rf a0 1) 3), .int (gat S (rf (rf a0 1) 0) (1 : Int32))]) (st := []) (kX11_thread 19 rfl) rfl (w_X11_leastUnlike (kt_10_5 (kt_11_3 hk0)) (kt_2_3 (kt_11_1 hk0))) (by decide) ml_X11_291 mf_X11_leastUnlike rfl rfl (Nat.le_of_ble_eq_true rfl) (fun r2 S3 hq => ?_)
    try dsimp only
    exact X_iret rfl (kX11_thread 20 rfl)
  · refine X_iconst (n := 12) (v := (-1)) (kX11_thread 5 rfl) rfl (by decide) ?_
    exact X_iret rfl (kX11_thread 6 rfl)
def f_X11_write_L21  (a0 : Nat) (i1 : Int32) : Nat → Int32 → XS → Option (XS)
  | 0, _, _ => none
  | n + 1, i2, S => (if (6 : Int32) ≤ i2 then some S else (if (gat S (rf (rf a0 3) 3) ((i1 * (6 : Int32)) + i2)) ≤ 0 then f_X11_write_L21 a0 i1 n (i2 + 1) S else ((f_X2_nameOf (rf a0 1) (0 : Int32) i2 S).bind (fun q => match q with | (r4, S5) => ((f_X11_writeName a0 r4 S5).bind (fun S6 => ((f_X11_writeNumber a0 (gat S (rf (rf a0 3) 3) ((i1 * (6 : Int32)) + i2)) (t_X11_writeByte a0 (32 : Int32) S6)).bind (fun S7 => f_X11_write_L21 a0 i1 n (i2 + 1) (t_X11_writeByte a0 (59 : Int32) S7)))))))))
def f_X11_write  (a0 : Nat) (i1 : Int32) (S : XS) : Option (Int32 × XS) := (if (t_X2_has (rf a0 1) (2 : Int32) i1 S) = true then ((f_X11_write_L21 a0 i1 1000000 (0 : Int32) (sI S a0 19 (0 : Int32))).bind (fun S8 => some ((S8.1 a0 19), S8))) else some ((-1 : Int32), S))
set_option maxHeartbeats 4000000 in
set_option maxRecDepth 100000 in
theorem w_X11_write_L21 {l : Launch} {g : XG} {G : (XS) → Option (Int32 × XS)}  {a0 : Nat} {i1 : Int32} (hk0 : kd a0 = 11) (kE : ∀ (S1 : XS), X φI l g 4 mX11_write 84 [(0, .ref a0)] [] S1 (G S1)) : ∀ (n : Nat) (i2 : Int32) (S : XS), X φI l g 4 mX11_write 21 [(2, .int i2), (0, .ref a0), (1, .int i1)] [] S ((f_X11_write_L21 a0 i1 n i2 S).bind G) := by
  intro n
  induction n with
  | zero => intro i2 S; exact X_none
  | succ n ih =>
  · intro i2 S
    rw [f_X11_write_L21]
    refine X_iload_n (n := 22) 0 (kX11_write 13 rfl) rfl rfl rfl ?_
    refine X_bipush (n := 24) (v := 6) (kX11_write 14 rfl) rfl (by decide) ?_
    refine X_itebind ?_
    refine X_ic_ge (n := 27) (tgt := 84) (kX11_write 15 rfl) rfl rfl (fun h2 => ?_) (fun h2 => ?_)
    · exact X_L [1] rfl (kE S)
    · refine X_aload_n (n := 28) 1 (kX11_write 16 rfl) rfl rfl rfl ?_
      refine X_getR (n := 31) xf_X11 hk0 (by decide) fl_X11_35 rfl (kX11_write 17 rfl) rfl ?_
      refine X_getR (n := 34) xf_X10 (kt_11_3 hk0) (by decide) fl_X11_170 rfl (kX11_write 18 rfl) rfl ?_
      refine X_iload_n (n := 35) 2 (kX11_write 19 rfl) rfl rfl rfl ?_
      refine X_bipush (n := 37) (v := 6) (kX11_write 20 rfl) rfl (by decide) ?_
      refine X_imul (n := 38) (kX11_write 21 rfl) rfl ?_
      refine X_iload_n (n := 39) 0 (kX11_write 22 rfl) rfl rfl rfl ?_
      refine X_iadd (n := 40) (kX11_write 23 rfl) rfl ?_
      refine X_callS1I (n := 43) (As := [.ref (rf (rf a0 3) 3), .int ((i1 * (6 : Int32)) + i2)]) (st := []) (kX11_write 24 rfl) rfl (p_X11_at (kt_10_3 (kt_11_3 hk0))) (by decide) ml_X11_154 mf_X11_at rfl rfl (Nat.le_of_ble_eq_true rfl) ?_
      refine X_istore_n (n := 44) (L1 := [(3, .int (gat S (rf (rf a0 3) 3) ((i1 * (6 : Int32)) + i2))), (2, .int i2), (0, .ref a0), (1, .int i1)]) (kX11_write 25 rfl) rfl rfl (Nat.le_of_ble_eq_true rfl) rfl ?_
      refine X_iload_n (n := 45) 0 (kX11_write 26 rfl) rfl rfl rfl ?_
      refine X_itebind ?_
      refine X_if_le (n := 48) (tgt := 78) (kX11_write 27 rfl) rfl rfl (fun h3 => ?_) (fun h3 => ?_)
      · refine X_iinc (n := 81) 1 (v := (i2 + 1)) (L1 := [(2, .int (i2 + 1)), (3, .int (gat S (rf (rf a0 3) 3) ((i1 * (6 : Int32)) + i2))), (0, .ref a0), (1, .int i1)]) (kX11_write 44 rfl) rfl rfl rfl (Nat.le_of_ble_eq_true rfl) rfl ?_
        refine X_goto (tgt := 21) (kX11_write 45 rfl) rfl ?_
        exact X_L [0, 2, 3] rfl (ih (i2 + 1) S)
      · refine X_aload_n (n := 49) 2 (kX11_write 28 rfl) rfl rfl rfl ?_
        refine X_aload_n (n := 50) 2 (kX11_write 29 rfl) rfl rfl rfl ?_
        refine X_getR (n := 53) xf_X11 hk0 (by decide) fl_X11_19 rfl (kX11_write 30 rfl) rfl ?_
        refine X_iconst (n := 54) (v := 0) (kX11_write 31 rfl) rfl (by decide) ?_
        refine X_iload_n (n := 55) 1 (kX11_write 32 rfl) rfl rfl rfl ?_
        refine X_assoc ?_
        refine X_callVJ (n := 58) (As := [.int (0 : Int32), .int i2]) (st := [.ref a0]) (kX11_write 33 rfl) rfl (w_X2_nameOf (kt_11_1 hk0)) (by decide) ml_X11_339 mf_X2_nameOf rfl (kt_11_1 hk0) xf_X2 rfl (Nat.le_of_ble_eq_true rfl) (fun r4 S5 hq => ?_)
        try dsimp only
        refine X_assoc ?_
        refine X_callVV (n := 61) (As := [.long r4]) (st := []) (kX11_write 34 rfl) rfl (w_X11_writeName hk0) (by decide) ml_X11_343 mf_X11_writeName rfl hk0 xf_X11 rfl (Nat.le_of_ble_eq_true rfl) (fun S6 hq => ?_)
        try dsimp only
        refine X_aload_n (n := 62) 2 (kX11_write 35 rfl) rfl rfl rfl ?_
        refine X_bipush (n := 64) (v := 32) (kX11_write 36 rfl) rfl (by decide) ?_
        refine X_callV1V (n := 67) (As := [.int (32 : Int32)]) (st := []) (kX11_write 37 rfl) rfl (p_X11_writeByte hk0) (by decide) ml_X11_347 mf_X11_writeByte rfl hk0 xf_X11 rfl (Nat.le_of_ble_eq_true rfl) ?_
        refine X_aload_n (n := 68) 2 (kX11_write 38 rfl) rfl rfl rfl ?_
        refine X_iload_n (n := 69) 0 (kX11_write 39 rfl) rfl rfl rfl ?_
        refine X_assoc ?_
        refine X_callVV (n := 72) (As := [.int (gat S (rf (rf a0 3) 3) ((i1 * (6 : Int32)) + i2))]) (st := []) (kX11_write 40 rfl) rfl (w_X11_writeNumber hk0) (by decide) ml_X11_350 mf_X11_writeNumber rfl hk0 xf_X11 rfl (Nat.le_of_ble_eq_true rfl) (fun S7 hq => ?_)
        try dsimp only
        refine X_aload_n (n := 73) 2 (kX11_write 41 rfl) rfl rfl rfl ?_
        refine X_bipush (n := 75) (v := 59) (kX11_write 42 rfl) rfl (by decide) ?_
        refine X_callV1V (n := 78) (As := [.int (59 : Int32)]) (st := []) (kX11_write 43 rfl) rfl (p_X11_writeByte hk0) (by decide) ml_X11_347 mf_X11_writeByte rfl hk0 xf_X11 rfl (Nat.le_of_ble_eq_true rfl) ?_
        refine X_iinc (n := 81) 1 (v := (i2 + 1)) (L1 := [(2, .int (i2 + 1)), (3, .int (gat S (rf (rf a0 3) 3) ((i1 * (6 : Int32)) + i2))), (0, .ref a0), (1, .int i1)]) (kX11_write 44 rfl) rfl rfl rfl (Nat.le_of_ble_eq_true rfl) rfl ?_
        refine X_goto (tgt := 21) (kX11_write 45 rfl) rfl ?_
        exact X_L [0, 2, 3] rfl (ih (i2 + 1) (t_X11_writeByte a0 (59 : Int32) S7))
set_option maxHeartbeats 4000000 in
set_option maxRecDepth 100000 in
theorem w_X11_write {l : Launch} {g : XG}  {a0 : Nat} {i1 : Int32} {S : XS} (hk0 : kd a0 = 11) : Cl φI l g 4 mX11_write [.ref a0, .int i1] S (f_X11_write a0 i1 S) := by
  refine Cl.of (by decide +kernel) (Nat.le_of_ble_eq_true rfl) ?_
  unfold f_X11_write
  show X _ _ _ _ _ 0 [(0, .ref a0), (1, .int i1)] [] S _
  refine X_aload_n (n := 1) 0 (kX11_write 0 rfl) rfl rfl rfl ?_
  refine X_getR (n := 4) xf_X11 hk0 (by decide) fl_X11_19 rfl (kX11_write 1 rfl) rfl ?_
  refine X_iconst (n := 5) (v := 2) (kX11_write 2 rfl) rfl (by decide) ?_
  refine X_iload_n (n := 6) 1 (kX11_write 3 rfl) rfl rfl rfl ?_
  refine X_callV1B (n := 9) (As := [.int (2 : Int32), .int i1]) (st := []) (kX11_write 4 rfl) rfl (p_X2_has (kt_11_1 hk0)) (by decide) ml_X11_144 mf_X2_has rfl (kt_11_1 hk0) xf_X2 rfl (Nat.le_of_ble_eq_true rfl) ?_
  refine X_bn (n := 12) (tgt := 14) (kX11_write 5 rfl) rfl rfl (fun h1 => ?_) (fun h1 => ?_)
  · refine X_aload_n (n := 15) 0 (kX11_write 8 rfl) rfl rfl rfl ?_
    refine X_iconst (n := 16) (v := 0) (kX11_write 9 rfl) rfl (by decide) ?_
    refine X_putI (n := 19) xf_X11 hk0 (by decide) fl_X11_336 rfl rfl (Or.inl rfl) (kX11_write 10 rfl) rfl ?_
    refine X_iconst (n := 20) (v := 0) (kX11_write 11 rfl) rfl (by decide) ?_
    refine X_istore_n (n := 21) (L1 := [(2, .int 0), (0, .ref a0), (1, .int i1)]) (kX11_write 12 rfl) rfl rfl (Nat.le_of_ble_eq_true rfl) rfl ?_
    refine X_L [0, 1, 2] rfl (w_X11_write_L21 hk0 (fun S8 => ?_) 1000000 (0 : Int32) (sI S a0 19 (0 : Int32)))
    try dsimp only
    refine X_aload_n (n := 85) 0 (kX11_write 46 rfl) rfl rfl rfl ?_
    refine X_getI (n := 88) xf_X11 hk0 (by decide) fl_X11_336 rfl (kX11_write 47 rfl) rfl ?_
    exact X_iret rfl (kX11_write 48 rfl)
  · refine X_iconst (n := 13) (v := (-1)) (kX11_write 6 rfl) rfl (by decide) ?_
    exact X_iret rfl (kX11_write 7 rfl)
def f_X0_searchHours_L3  (a0 : Nat) (a1 : Nat) (i2 : Int32) (i3 : Int32) : Nat → Int32 → XS → Option (XS)
  | 0, _, _ => none
  | n + 1, i4, S => (if (S.1 a0 2) < i4 then some S else ((f_X0_isAsTold a0 a1 i2 i3 i4 S).bind (fun q => match q with | (r2, S3) => (if r2 = true then ((f_X0_isAsTold a0 a1 i3 i2 i4 S3).bind (fun q => match q with | (r5, S6) => (if r5 = true then f_X0_searchHours_L3 a0 a1 i2 i3 n (i4 + 1) (sI (pat S6 (rf a0 1) (S6.1 a0 0) ((((10000 : Int32) * i2) + ((1000 : Int32) * i3)) + i4)) a0 0 (((pat S6 (rf a0 1) (S6.1 a0 0) ((((10000 : Int32) * i2) + ((1000 : Int32) * i3)) + i4)).1 a0 0) + (1 : Int32))) else f_X0_searchHours_L3 a0 a1 i2 i3 n (i4 + 1) S6))) else f_X0_searchHours_L3 a0 a1 i2 i3 n (i4 + 1) S3))))
def f_X0_searchHours  (a0 : Nat) (a1 : Nat) (i2 : Int32) (i3 : Int32) (S : XS) : Option (XS) := ((f_X0_searchHours_L3 a0 a1 i2 i3 1000000 (1 : Int32) S).bind (fun S8 => some S8))
set_option maxHeartbeats 4000000 in
set_option maxRecDepth 100000 in
theorem w_X0_searchHours_L3 {l : Launch} {g : XG} {G : (XS) → Option (XS)}  {a0 : Nat} {a1 : Nat} {i2 : Int32} {i3 : Int32} (hk0 : kd a0 = 0) (hk1 : kd a1 = 2) (kE : ∀ (S1 : XS), X φV l g 5 mX0_searchHours 77 [] [] S1 (G S1)) : ∀ (n : Nat) (i4 : Int32) (S : XS), X φV l g 5 mX0_searchHours 3 [(4, .int i4), (0, .ref a0), (1, .ref a1), (2, .int i2), (3, .int i3)] [] S ((f_X0_searchHours_L3 a0 a1 i2 i3 n i4 S).bind G) := by
  intro n
  induction n with
  | zero => intro i4 S; exact X_none
  | succ n ih =>
  · intro i4 S
    rw [f_X0_searchHours_L3]
    refine X_iload (n := 5) 0 (kX0_searchHours 2 rfl) rfl rfl ?_
    refine X_aload_n (n := 6) 1 (kX0_searchHours 3 rfl) rfl rfl rfl ?_
    refine X_getI (n := 9) xf_X0 hk0 (by decide) fl_X0_27 rfl (kX0_searchHours 4 rfl) rfl ?_
    refine X_itebind ?_
    refine X_ic_gt (n := 12) (tgt := 77) (kX0_searchHours 5 rfl) rfl rfl (fun h1 => ?_) (fun h1 => ?_)
    · exact X_L [] rfl (kE S)
    · refine X_aload_n (n := 13) 1 (kX0_searchHours 6 rfl) rfl rfl rfl ?_
      refine X_aload_n (n := 14) 2 (kX0_searchHours 7 rfl) rfl rfl rfl ?_
      refine X_iload_n (n := 15) 3 (kX0_searchHours 8 rfl) rfl rfl rfl ?_
      refine X_iload_n (n := 16) 4 (kX0_searchHours 9 rfl) rfl rfl rfl ?_
      refine X_iload (n := 18) 0 (kX0_searchHours 10 rfl) rfl rfl ?_
      refine X_assoc ?_
      refine X_callVB (n := 21) (As := [.ref a1, .int i2, .int i3, .int i4]) (st := []) (kX0_searchHours 11 rfl) rfl (w_X0_isAsTold hk0 hk1) (by decide) ml_X0_104 mf_X0_isAsTold rfl hk0 xf_X0 rfl (Nat.le_of_ble_eq_true rfl) (fun r2 S3 hq => ?_)
      try dsimp only
      refine X_itebind ?_
      refine X_bz (n := 24) (tgt := 71) (kX0_searchHours 12 rfl) rfl rfl (fun h4 => ?_) (fun h4 => ?_)
      · refine X_aload_n (n := 25) 1 (kX0_searchHours 13 rfl) rfl rfl rfl ?_
        refine X_aload_n (n := 26) 2 (kX0_searchHours 14 rfl) rfl rfl rfl ?_
        refine X_iload_n (n := 27) 4 (kX0_searchHours 15 rfl) rfl rfl rfl ?_
        refine X_iload_n (n := 28) 3 (kX0_searchHours 16 rfl) rfl rfl rfl ?_
        refine X_iload (n := 30) 0 (kX0_searchHours 17 rfl) rfl rfl ?_
        refine X_assoc ?_
        refine X_callVB (n := 33) (As := [.ref a1, .int i3, .int i2, .int i4]) (st := []) (kX0_searchHours 18 rfl) rfl (w_X0_isAsTold hk0 hk1) (by decide) ml_X0_104 mf_X0_isAsTold rfl hk0 xf_X0 rfl (Nat.le_of_ble_eq_true rfl) (fun r5 S6 hq => ?_)
        try dsimp only
        refine X_itebind ?_
        refine X_bz (n := 36) (tgt := 71) (kX0_searchHours 19 rfl) rfl rfl (fun h7 => ?_) (fun h7 => ?_)
        · refine X_aload_n (n := 37) 1 (kX0_searchHours 20 rfl) rfl rfl rfl ?_
          refine X_getR (n := 40) xf_X0 hk0 (by decide) fl_X0_9 rfl (kX0_searchHours 21 rfl) rfl ?_
          refine X_aload_n (n := 41) 1 (kX0_searchHours 22 rfl) rfl rfl rfl ?_
          refine X_getI (n := 44) xf_X0 hk0 (by decide) fl_X0_43 rfl (kX0_searchHours 23 rfl) rfl ?_
          refine X_sipush (n := 47) (v := 10000) (kX0_searchHours 24 rfl) rfl (by decide) ?_
          refine X_iload_n (n := 48) 3 (kX0_searchHours 25 rfl) rfl rfl rfl ?_
          refine X_imul (n := 49) (kX0_searchHours 26 rfl) rfl ?_
          refine X_sipush (n := 52) (v := 1000) (kX0_searchHours 27 rfl) rfl (by decide) ?_
          refine X_iload_n (n := 53) 4 (kX0_searchHours 28 rfl) rfl rfl rfl ?_
          refine X_imul (n := 54) (kX0_searchHours 29 rfl) rfl ?_
          refine X_iadd (n := 55) (kX0_searchHours 30 rfl) rfl ?_
          refine X_iload (n := 57) 0 (kX0_searchHours 31 rfl) rfl rfl ?_
          refine X_iadd (n := 58) (kX0_searchHours 32 rfl) rfl ?_
          refine X_callN1V (n := 61) (As := [.ref (rf a0 1), .int (S6.1 a0 0), .int ((((10000 : Int32) * i2) + ((1000 : Int32) * i3)) + i4)]) (st := []) (kX0_searchHours 33 rfl) rfl (p_X11_put (kt_0_1 hk0)) (by decide) nl_X0_73 mf_X11_put rfl rfl (Nat.le_of_ble_eq_true rfl) ?_
          refine X_aload_n (n := 62) 1 (kX0_searchHours 34 rfl) rfl rfl rfl ?_
          refine X_dup (n := 63) (kX0_searchHours 35 rfl) rfl rfl ?_
          refine X_getI (n := 66) xf_X0 hk0 (by decide) fl_X0_43 rfl (kX0_searchHours 36 rfl) rfl ?_
          refine X_iconst (n := 67) (v := 1) (kX0_searchHours 37 rfl) rfl (by decide) ?_
          refine X_iadd (n := 68) (kX0_searchHours 38 rfl) rfl ?_
          refine X_putI (n := 71) xf_X0 hk0 (by decide) fl_X0_43 rfl rfl (Or.inl rfl) (kX0_searchHours 39 rfl) rfl ?_
          refine X_iinc (n := 74) 0 (v := (i4 + 1)) (L1 := [(4, .int (i4 + 1)), (0, .ref a0), (1, .ref a1), (2, .int i2), (3, .int i3)]) (kX0_searchHours 40 rfl) rfl rfl rfl (Nat.le_of_ble_eq_true rfl) rfl ?_
          refine X_goto (tgt := 3) (kX0_searchHours 41 rfl) rfl ?_
          exact X_L [0, 1, 2, 3, 4] rfl (ih (i4 + 1) (sI (pat S6 (rf a0 1) (S6.1 a0 0) ((((10000 : Int32) * i2) + ((1000 : Int32) * i3)) + i4)) a0 0 (((pat S6 (rf a0 1) (S6.1 a0 0) ((((10000 : Int32) * i2) + ((1000 : Int32) * i3)) + i4)).1 a0 0) + (1 : Int32))))
        · refine X_iinc (n := 74) 0 (v := (i4 + 1)) (L1 := [(4, .int (i4 + 1)), (0, .ref a0), (1, .ref a1), (2, .int i2), (3, .int i3)]) (kX0_searchHours 40 rfl) rfl rfl rfl (Nat.le_of_ble_eq_true rfl) rfl ?_
          refine X_goto (tgt := 3) (kX0_searchHours 41 rfl) rfl ?_
          exact X_L [0, 1, 2, 3, 4] rfl (ih (i4 + 1) S6)
      · refine X_iinc (n := 74) 0 (v := (i4 + 1)) (L1 := [(4, .int (i4 + 1)), (0, .ref a0), (1, .ref a1), (2, .int i2), (3, .int i3)]) (kX0_searchHours 40 rfl) rfl rfl rfl (Nat.le_of_ble_eq_true rfl) rfl ?_
        refine X_goto (tgt := 3) (kX0_searchHours 41 rfl) rfl ?_
        exact X_L [0, 1, 2, 3, 4] rfl (ih (i4 + 1) S3)
set_option maxHeartbeats 4000000 in
set_option maxRecDepth 100000 in
theorem w_X0_searchHours {l : Launch} {g : XG}  {a0 : Nat} {a1 : Nat} {i2 : Int32} {i3 : Int32} {S : XS} (hk0 : kd a0 = 0) (hk1 : kd a1 = 2) : Cl φV l g 5 mX0_searchHours [.ref a0, .ref a1, .int i2, .int i3] S (f_X0_searchHours a0 a1 i2 i3 S) := by
  refine Cl.of (by decide +kernel) (Nat.le_of_ble_eq_true rfl) ?_
  unfold f_X0_searchHours
  show X _ _ _ _ _ 0 [(0, .ref a0), (1, .ref a1), (2, .int i2), (3, .int i3)] [] S _
  refine X_iconst (n := 1) (v := 1) (kX0_searchHours 0 rfl) rfl (by decide) ?_
  refine X_istore (n := 3) (L1 := [(4, .int 1), (0, .ref a0), (1, .ref a1), (2, .int i2), (3, .int i3)]) (kX0_searchHours 1 rfl) rfl (Nat.le_of_ble_eq_true rfl) rfl ?_
  refine X_L [0, 1, 2, 3, 4] rfl (w_X0_searchHours_L3 hk0 hk1 (fun S8 => ?_) 1000000 (1 : Int32) S)
  try dsimp only
  exact X_vret rfl (kX0_searchHours 42 rfl)
def f_X1_passHours_L29  (a0 : Nat) (a1 : Nat) (a2 : Nat) (i3 : Int32) : Nat → Int32 → XS → Option (XS)
  | 0, _, _ => none
  | n + 1, i5, S => (if i3 ≤ i5 then some S else ((f_X1_drawWalks a0 a1 a2 S).bind (fun q => match q with | (r2, S3) => ((f_X1_drawChange a0 a1 a2 (sI S3 a0 3 ((S.1 a0 3) + r2))).bind (fun q => match q with | (r4, S5) => ((f_X1_drawRain a0 (sI S5 a0 2 (((sI S3 a0 3 ((S.1 a0 3) + r2)).1 a0 2) + r4))).bind (fun q => match q with | (r6, S7) => ((if r6 = (1 : Int32) then some true else some false).bind (fun x8 => ((f_X10_passHour a2 a1 x8 (sI S7 a0 1 ((S7.1 a0 1) + r6))).bind (fun S9 => f_X1_passHours_L29 a0 a1 a2 i3 n (i5 + 1) S9)))))))))))
def f_X1_passHours  (a0 : Nat) (a1 : Nat) (a2 : Nat) (i3 : Int32) (i4 : Int32) (S : XS) : Option (XS) := ((f_X1_passHours_L29 a0 a1 a2 i3 1000000 (0 : Int32) (sI (sI (sI (sI (sI S a0 0 (1 : Int32)) a0 1 (0 : Int32)) a0 2 (0 : Int32)) a0 3 (0 : Int32)) a0 4 i4)).bind (fun S11 => some S11))
set_option maxHeartbeats 4000000 in
set_option maxRecDepth 100000 in
theorem w_X1_passHours_L29 {l : Launch} {g : XG} {G : (XS) → Option (XS)}  {a0 : Nat} {a1 : Nat} {a2 : Nat} {i3 : Int32} (hk0 : kd a0 = 1) (hk1 : kd a1 = 2) (hk2 : kd a2 = 10) (kE : ∀ (S1 : XS), X φV l g 5 mX1_passHours 104 [] [] S1 (G S1)) : ∀ (n : Nat) (i5 : Int32) (S : XS), X φV l g 5 mX1_passHours 29 [(5, .int i5), (0, .ref a0), (1, .ref a1), (2, .ref a2), (3, .int i3)] [] S ((f_X1_passHours_L29 a0 a1 a2 i3 n i5 S).bind G) := by
  intro n
  induction n with
  | zero => intro i5 S; exact X_none
  | succ n ih =>
  · intro i5 S
    rw [f_X1_passHours_L29]
    refine X_iload (n := 31) 0 (kX1_passHours 17 rfl) rfl rfl ?_
    refine X_iload_n (n := 32) 4 (kX1_passHours 18 rfl) rfl rfl rfl ?_
    refine X_itebind ?_
    refine X_ic_ge (n := 35) (tgt := 104) (kX1_passHours 19 rfl) rfl rfl (fun h1 => ?_) (fun h1 => ?_)
    · exact X_L [] rfl (kE S)
    · refine X_aload_n (n := 36) 1 (kX1_passHours 20 rfl) rfl rfl rfl ?_
      refine X_dup (n := 37) (kX1_passHours 21 rfl) rfl rfl ?_
      refine X_getI (n := 40) xf_X1 hk0 (by decide) fl_X1_29 rfl (kX1_passHours 22 rfl) rfl ?_
      refine X_aload_n (n := 41) 1 (kX1_passHours 23 rfl) rfl rfl rfl ?_
      refine X_aload_n (n := 42) 2 (kX1_passHours 24 rfl) rfl rfl rfl ?_
      refine X_aload_n (n := 43) 3 (kX1_passHours 25 rfl) rfl rfl rfl ?_
      refine X_assoc ?_
      refine X_callVI (n := 46) (As := [.ref a1, .ref a2]) (st := [.int (S.1 a0 3), .ref a0]) (kX1_passHours 26 rfl) rfl (w_X1_drawWalks hk0 hk1 hk2) (by decide) ml_X1_35 mf_X1_drawWalks rfl hk0 xf_X1 rfl (Nat.le_of_ble_eq_true rfl) (fun r2 S3 hq => ?_)
      try dsimp only
      refine X_iadd (n := 47) (kX1_passHours 27 rfl) rfl ?_
      refine X_putI (n := 50) xf_X1 hk0 (by decide) fl_X1_29 rfl rfl (Or.inl rfl) (kX1_passHours 28 rfl) rfl ?_
      refine X_aload_n (n := 51) 1 (kX1_passHours 29 rfl) rfl rfl rfl ?_
      refine X_dup (n := 52) (kX1_passHours 30 rfl) rfl rfl ?_
      refine X_getI (n := 55) xf_X1 hk0 (by decide) fl_X1_26 rfl (kX1_passHours 31 rfl) rfl ?_
      refine X_aload_n (n := 56) 1 (kX1_passHours 32 rfl) rfl rfl rfl ?_
      refine X_aload_n (n := 57) 2 (kX1_passHours 33 rfl) rfl rfl rfl ?_
      refine X_aload_n (n := 58) 3 (kX1_passHours 34 rfl) rfl rfl rfl ?_
      refine X_assoc ?_
      refine X_callVI (n := 61) (As := [.ref a1, .ref a2]) (st := [.int ((sI S3 a0 3 ((S.1 a0 3) + r2)).1 a0 2), .ref a0]) (kX1_passHours 35 rfl) rfl (w_X1_drawChange hk0 hk1 hk2) (by decide) ml_X1_39 mf_X1_drawChange rfl hk0 xf_X1 rfl (Nat.le_of_ble_eq_true rfl) (fun r4 S5 hq => ?_)
      try dsimp only
      refine X_iadd (n := 62) (kX1_passHours 36 rfl) rfl ?_
      refine X_putI (n := 65) xf_X1 hk0 (by decide) fl_X1_26 rfl rfl (Or.inl rfl) (kX1_passHours 37 rfl) rfl ?_
      refine X_aload_n (n := 66) 1 (kX1_passHours 38 rfl) rfl rfl rfl ?_
      refine X_assoc ?_
      refine X_callVI (n := 69) (As := []) (st := []) (kX1_passHours 39 rfl) rfl (w_X1_drawRain hk0) (by decide) ml_X1_42 mf_X1_drawRain rfl hk0 xf_X1 rfl (Nat.le_of_ble_eq_true rfl) (fun r6 S7 hq => ?_)
      try dsimp only
      refine X_istore (n := 71) (L1 := [(6, .int r6), (5, .int i5), (0, .ref a0), (1, .ref a1), (2, .ref a2), (3, .int i3)]) (kX1_passHours 40 rfl) rfl (Nat.le_of_ble_eq_true rfl) rfl ?_
      refine X_aload_n (n := 72) 2 (kX1_passHours 41 rfl) rfl rfl rfl ?_
      refine X_dup (n := 73) (kX1_passHours 42 rfl) rfl rfl ?_
      refine X_getI (n := 76) xf_X1 hk0 (by decide) fl_X1_22 rfl (kX1_passHours 43 rfl) rfl ?_
      refine X_iload (n := 78) 0 (kX1_passHours 44 rfl) rfl rfl ?_
      refine X_iadd (n := 79) (kX1_passHours 45 rfl) rfl ?_
      refine X_putI (n := 82) xf_X1 hk0 (by decide) fl_X1_22 rfl rfl (Or.inl rfl) (kX1_passHours 46 rfl) rfl ?_
      refine X_aload_n (n := 83) 4 (kX1_passHours 47 rfl) rfl rfl rfl ?_
      refine X_aload_n (n := 84) 3 (kX1_passHours 48 rfl) rfl rfl rfl ?_
      refine X_iload (n := 86) 0 (kX1_passHours 49 rfl) rfl rfl ?_
      refine X_iconst (n := 87) (v := 1) (kX1_passHours 50 rfl) rfl (by decide) ?_
      refine X_assoc ?_
      refine X_join 95 (fun x8 => [(5, .int i5), (0, .ref a0), (1, .ref a1), (2, .ref a2), (3, .int i3)]) (fun x8 => [.int (bi x8), .ref a1, .ref a2]) (fun x8 => (sI S7 a0 1 ((S7.1 a0 1) + r6))) (fun x8 => ?_) (fun kJ => ?_)
      · try dsimp only
        refine X_assoc ?_
        refine X_callVV (n := 98) (As := [.ref a1, .int (bi x8)]) (st := []) (kX1_passHours 55 rfl) rfl (w_X10_passHour hk2 hk1) (by decide) ml_X1_46 mf_X10_passHour rfl hk2 xf_X10 rfl (Nat.le_of_ble_eq_true rfl) (fun S9 hq => ?_)
        try dsimp only
        refine X_iinc (n := 101) 0 (v := (i5 + 1)) (L1 := [(5, .int (i5 + 1)), (0, .ref a0), (1, .ref a1), (2, .ref a2), (3, .int i3)]) (kX1_passHours 56 rfl) rfl rfl rfl (Nat.le_of_ble_eq_true rfl) rfl ?_
        refine X_goto (tgt := 29) (kX1_passHours 57 rfl) rfl ?_
        exact X_L [0, 1, 2, 3, 4] rfl (ih (i5 + 1) S9)
      · refine X_itebind ?_
        refine X_ic_ne (n := 90) (tgt := 94) (kX1_passHours 51 rfl) rfl rfl (fun h10 => ?_) (fun h10 => ?_)
        · refine X_iconst (n := 91) (v := 1) (kX1_passHours 52 rfl) rfl (by decide) ?_
          refine X_goto (tgt := 95) (kX1_passHours 53 rfl) rfl ?_
          exact X_L [1, 2, 3, 4, 5] rfl (kJ true)
        · refine X_iconst (n := 95) (v := 0) (kX1_passHours 54 rfl) rfl (by decide) ?_
          exact X_L [1, 2, 3, 4, 5] rfl (kJ false)
set_option maxHeartbeats 4000000 in
set_option maxRecDepth 100000 in
theorem w_X1_passHours {l : Launch} {g : XG}  {a0 : Nat} {a1 : Nat} {a2 : Nat} {i3 : Int32} {i4 : Int32} {S : XS} (hk0 : kd a0 = 1) (hk1 : kd a1 = 2) (hk2 : kd a2 = 10) : Cl φV l g 5 mX1_passHours [.ref a0, .ref a1, .ref a2, .int i3, .int i4] S (f_X1_passHours a0 a1 a2 i3 i4 S) := by
  refine Cl.of (by decide +kernel) (Nat.le_of_ble_eq_true rfl) ?_
  unfold f_X1_passHours
  show X _ _ _ _ _ 0 [(0, .ref a0), (1, .ref a1), (2, .ref a2), (3, .int i3), (4, .int i4)] [] S _
  refine X_aload_n (n := 1) 0 (kX1_passHours 0 rfl) rfl rfl rfl ?_
  refine X_iconst (n := 2) (v := 1) (kX1_passHours 1 rfl) rfl (by decide) ?_
  refine X_putI (n := 5) xf_X1 hk0 (by decide) fl_X1_18 rfl rfl (Or.inr (Or.inr rfl)) (kX1_passHours 2 rfl) rfl ?_
  refine X_aload_n (n := 6) 0 (kX1_passHours 3 rfl) rfl rfl rfl ?_
  refine X_iconst (n := 7) (v := 0) (kX1_passHours 4 rfl) rfl (by decide) ?_
  refine X_putI (n := 10) xf_X1 hk0 (by decide) fl_X1_22 rfl rfl (Or.inl rfl) (kX1_passHours 5 rfl) rfl ?_
  refine X_aload_n (n := 11) 0 (kX1_passHours 6 rfl) rfl rfl rfl ?_
  refine X_iconst (n := 12) (v := 0) (kX1_passHours 7 rfl) rfl (by decide) ?_
  refine X_putI (n := 15) xf_X1 hk0 (by decide) fl_X1_26 rfl rfl (Or.inl rfl) (kX1_passHours 8 rfl) rfl ?_
  refine X_aload_n (n := 16) 0 (kX1_passHours 9 rfl) rfl rfl rfl ?_
  refine X_iconst (n := 17) (v := 0) (kX1_passHours 10 rfl) rfl (by decide) ?_
  refine X_putI (n := 20) xf_X1 hk0 (by decide) fl_X1_29 rfl rfl (Or.inl rfl) (kX1_passHours 11 rfl) rfl ?_
  refine X_aload_n (n := 21) 0 (kX1_passHours 12 rfl) rfl rfl rfl ?_
  refine X_iload (n := 23) 4 (kX1_passHours 13 rfl) rfl rfl ?_
  refine X_putI (n := 26) xf_X1 hk0 (by decide) fl_X1_32 rfl rfl (Or.inl rfl) (kX1_passHours 14 rfl) rfl ?_
  refine X_iconst (n := 27) (v := 0) (kX1_passHours 15 rfl) rfl (by decide) ?_
  refine X_istore (n := 29) (L1 := [(5, .int 0), (0, .ref a0), (1, .ref a1), (2, .ref a2), (3, .int i3), (4, .int i4)]) (kX1_passHours 16 rfl) rfl (Nat.le_of_ble_eq_true rfl) rfl ?_
  refine X_L [0, 1, 2, 3, 4] rfl (w_X1_passHours_L29 hk0 hk1 hk2 (fun S11 => ?_) 1000000 (0 : Int32) (sI (sI (sI (sI (sI S a0 0 (1 : Int32)) a0 1 (0 : Int32)) a0 2 (0 : Int32)) a0 3 (0 : Int32)) a0 4 i4))
  try dsimp only
  exact X_vret rfl (kX1_passHours 58 rfl)
def f_X8_begin_L19  (a0 : Nat) (i1 : Int32) : Nat → Int32 → Int32 → XS → Option (XS)
  | 0, _, _, _ => none
  | n + 1, i2, i3, S => (if (940 : Int32) < i3 then some S else ((f_X8_readToken a0 i2 i1 S).bind (fun q => match q with | (r2, S3) => (if (gat S3 (rf a0 5) i3) = 0 then some S3 else (if (gat S3 (rf a0 5) i3) = (1 : Int32) then some S3 else f_X8_begin_L19 a0 i1 n r2 (i3 + 1) S3)))))
def f_X8_begin  (a0 : Nat) (i1 : Int32) (S : XS) : Option (XS) := ((f_X8_begin_L19 a0 i1 1000000 (0 : Int32) (0 : Int32) (sI (sI (sI S a0 2 (0 : Int32)) a0 3 (0 : Int32)) a0 8 (0 : Int32))).bind (fun S6 => some (sI (sI S6 a0 9 (0 : Int32)) a0 10 (gat (sI S6 a0 9 (0 : Int32)) (rf a0 5) (0 : Int32)))))
set_option maxHeartbeats 4000000 in
set_option maxRecDepth 100000 in
theorem w_X8_begin_L19 {l : Launch} {g : XG} {G : (XS) → Option (XS)}  {a0 : Nat} {i1 : Int32} (hk0 : kd a0 = 8) (kE : ∀ (S1 : XS), X φV l g 5 mX8_begin 63 [(0, .ref a0)] [] S1 (G S1)) : ∀ (n : Nat) (i2 : Int32) (i3 : Int32) (S : XS), X φV l g 5 mX8_begin 19 [(3, .int i3), (2, .int i2), (0, .ref a0), (1, .int i1)] [] S ((f_X8_begin_L19 a0 i1 n i2 i3 S).bind G) := by
  intro n
  induction n with
  | zero => intro i2 i3 S; exact X_none
  | succ n ih =>
  · intro i2 i3 S
    rw [f_X8_begin_L19]
    refine X_iload_n (n := 20) 0 (kX8_begin 13 rfl) rfl rfl rfl ?_
    refine X_sipush (n := 23) (v := 940) (kX8_begin 14 rfl) rfl (by decide) ?_
    refine X_itebind ?_
    refine X_ic_gt (n := 26) (tgt := 63) (kX8_begin 15 rfl) rfl rfl (fun h1 => ?_) (fun h1 => ?_)
    · exact X_L [2] rfl (kE S)
    · refine X_aload_n (n := 27) 2 (kX8_begin 16 rfl) rfl rfl rfl ?_
      refine X_iload_n (n := 28) 1 (kX8_begin 17 rfl) rfl rfl rfl ?_
      refine X_iload_n (n := 29) 3 (kX8_begin 18 rfl) rfl rfl rfl ?_
      refine X_assoc ?_
      refine X_callVI (n := 32) (As := [.int i2, .int i1]) (st := []) (kX8_begin 19 rfl) rfl (w_X8_readToken hk0) (by decide) ml_X8_62 mf_X8_readToken rfl hk0 xf_X8 rfl (Nat.le_of_ble_eq_true rfl) (fun r2 S3 hq => ?_)
      try dsimp only
      refine X_istore_n (n := 33) (L1 := [(2, .int r2), (3, .int i3), (0, .ref a0), (1, .int i1)]) (kX8_begin 20 rfl) rfl rfl (Nat.le_of_ble_eq_true rfl) rfl ?_
      refine X_aload_n (n := 34) 2 (kX8_begin 21 rfl) rfl rfl rfl ?_
      refine X_getR (n := 37) xf_X8 hk0 (by decide) fl_X8_27 rfl (kX8_begin 22 rfl) rfl ?_
      refine X_iload_n (n := 38) 1 (kX8_begin 23 rfl) rfl rfl rfl ?_
      refine X_callN1I (n := 41) (As := [.ref (rf a0 5), .int i3]) (st := []) (kX8_begin 24 rfl) rfl (p_X11_at (kt_8_5 hk0)) (by decide) nl_X8_65 mf_X11_at rfl rfl (Nat.le_of_ble_eq_true rfl) ?_
      refine X_istore (n := 43) (L1 := [(4, .int (gat S3 (rf a0 5) i3)), (2, .int r2), (3, .int i3), (0, .ref a0), (1, .int i1)]) (kX8_begin 25 rfl) rfl (Nat.le_of_ble_eq_true rfl) rfl ?_
      refine X_iload (n := 45) 0 (kX8_begin 26 rfl) rfl rfl ?_
      refine X_itebind ?_
      refine X_if_eq (n := 48) (tgt := 63) (kX8_begin 27 rfl) rfl rfl (fun h4 => ?_) (fun h4 => ?_)
      · exact X_L [3] rfl (kE S3)
      · refine X_iload (n := 50) 0 (kX8_begin 28 rfl) rfl rfl ?_
        refine X_iconst (n := 51) (v := 1) (kX8_begin 29 rfl) rfl (by decide) ?_
        refine X_itebind ?_
        refine X_ic_ne (n := 54) (tgt := 57) (kX8_begin 30 rfl) rfl rfl (fun h5 => ?_) (fun h5 => ?_)
        · refine X_goto (tgt := 63) (kX8_begin 31 rfl) rfl ?_
          exact X_L [3] rfl (kE S3)
        · refine X_iinc (n := 60) 2 (v := (i3 + 1)) (L1 := [(3, .int (i3 + 1)), (4, .int (gat S3 (rf a0 5) i3)), (2, .int r2), (0, .ref a0), (1, .int i1)]) (kX8_begin 32 rfl) rfl rfl rfl (Nat.le_of_ble_eq_true rfl) rfl ?_
          refine X_goto (tgt := 19) (kX8_begin 33 rfl) rfl ?_
          exact X_L [0, 2, 3, 4] rfl (ih r2 (i3 + 1) S3)
set_option maxHeartbeats 4000000 in
set_option maxRecDepth 100000 in
theorem w_X8_begin {l : Launch} {g : XG}  {a0 : Nat} {i1 : Int32} {S : XS} (hk0 : kd a0 = 8) : Cl φV l g 5 mX8_begin [.ref a0, .int i1] S (f_X8_begin a0 i1 S) := by
  refine Cl.of (by decide +kernel) (Nat.le_of_ble_eq_true rfl) ?_
  unfold f_X8_begin
  show X _ _ _ _ _ 0 [(0, .ref a0), (1, .int i1)] [] S _
  refine X_aload_n (n := 1) 0 (kX8_begin 0 rfl) rfl rfl rfl ?_
  refine X_iconst (n := 2) (v := 0) (kX8_begin 1 rfl) rfl (by decide) ?_
  refine X_putI (n := 5) xf_X8 hk0 (by decide) fl_X8_53 rfl rfl (Or.inl rfl) (kX8_begin 2 rfl) rfl ?_
  refine X_aload_n (n := 6) 0 (kX8_begin 3 rfl) rfl rfl rfl ?_
  refine X_iconst (n := 7) (v := 0) (kX8_begin 4 rfl) rfl (by decide) ?_
  refine X_putI (n := 10) xf_X8 hk0 (by decide) fl_X8_56 rfl rfl (Or.inl rfl) (kX8_begin 5 rfl) rfl ?_
  refine X_aload_n (n := 11) 0 (kX8_begin 6 rfl) rfl rfl rfl ?_
  refine X_iconst (n := 12) (v := 0) (kX8_begin 7 rfl) rfl (by decide) ?_
  refine X_putI (n := 15) xf_X8 hk0 (by decide) fl_X8_59 rfl rfl (Or.inl rfl) (kX8_begin 8 rfl) rfl ?_
  refine X_iconst (n := 16) (v := 0) (kX8_begin 9 rfl) rfl (by decide) ?_
  refine X_istore_n (n := 17) (L1 := [(2, .int 0), (0, .ref a0), (1, .int i1)]) (kX8_begin 10 rfl) rfl rfl (Nat.le_of_ble_eq_true rfl) rfl ?_
  refine X_iconst (n := 18) (v := 0) (kX8_begin 11 rfl) rfl (by decide) ?_
  refine X_istore_n (n := 19) (L1 := [(3, .int 0), (2, .int 0), (0, .ref a0), (1, .int i1)]) (kX8_begin 12 rfl) rfl rfl (Nat.le_of_ble_eq_true rfl) rfl ?_
  refine X_L [0, 1, 2, 3] rfl (w_X8_begin_L19 hk0 (fun S6 => ?_) 1000000 (0 : Int32) (0 : Int32) (sI (sI (sI S a0 2 (0 : Int32)) a0 3 (0 : Int32)) a0 8 (0 : Int32)))
  try dsimp only
  refine X_aload_n (n := 64) 0 (kX8_begin 34 rfl) rfl rfl rfl ?_
  refine X_iconst (n := 65) (v := 0) (kX8_begin 35 rfl) rfl (by decide) ?_
  refine X_putI (n := 68) xf_X8 hk0 (by decide) fl_X8_69 rfl rfl (Or.inl rfl) (kX8_begin 36 rfl) rfl ?_
  refine X_aload_n (n := 69) 0 (kX8_begin 37 rfl) rfl rfl rfl ?_
  refine X_aload_n (n := 70) 0 (kX8_begin 38 rfl) rfl rfl rfl ?_
  refine X_getR (n := 73) xf_X8 hk0 (by decide) fl_X8_27 rfl (kX8_begin 39 rfl) rfl ?_
  refine X_iconst (n := 74) (v := 0) (kX8_begin 40 rfl) rfl (by decide) ?_
  refine X_callN1I (n := 77) (As := [.ref (rf a0 5), .int (0 : Int32)]) (st := [.ref a0]) (kX8_begin 41 rfl) rfl (p_X11_at (kt_8_5 hk0)) (by decide) nl_X8_65 mf_X11_at rfl rfl (Nat.le_of_ble_eq_true rfl) ?_
  refine X_putI (n := 80) xf_X8 hk0 (by decide) fl_X8_72 rfl rfl (Or.inl rfl) (kX8_begin 42 rfl) rfl ?_
  exact X_vret rfl (kX8_begin 43 rfl)
def f_X3_readPlace_L27  (i1 : Int32) (a0 : Nat) : Nat → Int32 → XS → Option ((Bool × XS) ⊕ (XS))
  | 0, _, _ => none
  | n + 1, i2, S => (if (6 : Int32) < i2 then some (.inr S) else (if (S.1 (rf a0 0) 10) = (59 : Int32) then some (.inr S) else ((f_X3_readSmell a0 i1 S).bind (fun q => match q with | (r6, S7) => (if r6 = true then f_X3_readPlace_L27 i1 a0 n (i2 + 1) S7 else some (.inl (false, S7)))))))
def f_X3_readPlace  (a0 : Nat) (S : XS) : Option (Bool × XS) := ((f_X8_takeNew (rf a0 0) (rf a0 1) (1 : Int32) S).bind (fun q => match q with | (r1, S2) => (if r1 = true then ((f_X3_readPlace_L27 (S2.1 (rf a0 0) 11) a0 1000000 (0 : Int32) S2).bind (fun q => match q with | .inl r => some r | .inr S9 => some (true, S9))) else some (false, S2))))
set_option maxHeartbeats 4000000 in
set_option maxRecDepth 100000 in
theorem w_X3_readPlace_L27 {l : Launch} {g : XG} {G : ((Bool × XS) ⊕ (XS)) → Option (Bool × XS)}  {i1 : Int32} {a0 : Nat} (hk0 : kd a0 = 3) (kE : ∀ (S1 : XS), X φB l g 5 mX3_readPlace 61 [] [] S1 (G (.inr S1))) (kR : ∀ r, G (.inl r) = some r) : ∀ (n : Nat) (i2 : Int32) (S : XS), X φB l g 5 mX3_readPlace 27 [(2, .int i2), (1, .int i1), (0, .ref a0)] [] S ((f_X3_readPlace_L27 i1 a0 n i2 S).bind G) := by
  intro n
  induction n with
  | zero => intro i2 S; exact X_none
  | succ n ih =>
  · intro i2 S
    rw [f_X3_readPlace_L27]
    refine X_iload_n (n := 28) 0 (kX3_readPlace 15 rfl) rfl rfl rfl ?_
    refine X_bipush (n := 30) (v := 6) (kX3_readPlace 16 rfl) rfl (by decide) ?_
    refine X_itebind ?_
    refine X_ic_gt (n := 33) (tgt := 61) (kX3_readPlace 17 rfl) rfl rfl (fun h4 => ?_) (fun h4 => ?_)
    · exact X_L [] rfl (kE S)
    · refine X_aload_n (n := 34) 2 (kX3_readPlace 18 rfl) rfl rfl rfl ?_
      refine X_getR (n := 37) xf_X3 hk0 (by decide) fl_X3_25 rfl (kX3_readPlace 19 rfl) rfl ?_
      refine X_getI (n := 40) xf_X8 (kt_3_0 hk0) (by decide) fl_X3_44 rfl (kX3_readPlace 20 rfl) rfl ?_
      refine X_bipush (n := 42) (v := 59) (kX3_readPlace 21 rfl) rfl (by decide) ?_
      refine X_itebind ?_
      refine X_ic_eq (n := 45) (tgt := 61) (kX3_readPlace 22 rfl) rfl rfl (fun h5 => ?_) (fun h5 => ?_)
      · exact X_L [] rfl (kE S)
      · refine X_aload_n (n := 46) 2 (kX3_readPlace 23 rfl) rfl rfl rfl ?_
        refine X_iload_n (n := 47) 1 (kX3_readPlace 24 rfl) rfl rfl rfl ?_
        refine X_assoc ?_
        refine X_callVB (n := 50) (As := [.int i1]) (st := []) (kX3_readPlace 25 rfl) rfl (w_X3_readSmell hk0) (by decide) ml_X3_108 mf_X3_readSmell rfl hk0 xf_X3 rfl (Nat.le_of_ble_eq_true rfl) (fun r6 S7 hq => ?_)
        try dsimp only
        refine X_itebind ?_
        refine X_bn (n := 53) (tgt := 55) (kX3_readPlace 26 rfl) rfl rfl (fun h8 => ?_) (fun h8 => ?_)
        · refine X_iinc (n := 58) 0 (v := (i2 + 1)) (L1 := [(2, .int (i2 + 1)), (1, .int i1), (0, .ref a0)]) (kX3_readPlace 29 rfl) rfl rfl rfl (Nat.le_of_ble_eq_true rfl) rfl ?_
          refine X_goto (tgt := 27) (kX3_readPlace 30 rfl) rfl ?_
          exact X_L [0, 1, 2] rfl (ih (i2 + 1) S7)
        · refine X_iconst (n := 54) (v := 0) (kX3_readPlace 27 rfl) rfl (by decide) ?_
          exact X_req (kR _) (X_zret (b := false) rfl (kX3_readPlace 28 rfl))
set_option maxHeartbeats 4000000 in
set_option maxRecDepth 100000 in
theorem w_X3_readPlace {l : Launch} {g : XG}  {a0 : Nat} {S : XS} (hk0 : kd a0 = 3) : Cl φB l g 5 mX3_readPlace [.ref a0] S (f_X3_readPlace a0 S) := by
  refine Cl.of (by decide +kernel) (Nat.le_of_ble_eq_true rfl) ?_
  unfold f_X3_readPlace
  show X _ _ _ _ _ 0 [(0, .ref a0)] [] S _
  refine X_aload_n (n := 1) 0 (kX3_readPlace 0 rfl) rfl rfl rfl ?_
  refine X_getR (n := 4) xf_X3 hk0 (by decide) fl_X3_25 rfl (kX3_readPlace 1 rfl) rfl ?_
  refine X_aload_n (n := 5) 0 (kX3_readPlace 2 rfl) rfl rfl rfl ?_
  refine X_getR (n := 8) xf_X3 hk0 (by decide) fl_X3_12 rfl (kX3_readPlace 3 rfl) rfl ?_
  refine X_iconst (n := 9) (v := 1) (kX3_readPlace 4 rfl) rfl (by decide) ?_
  refine X_callVB (n := 12) (As := [.ref (rf a0 1), .int (1 : Int32)]) (st := []) (kX3_readPlace 5 rfl) rfl (w_X8_takeNew (kt_3_0 hk0) (kt_3_1 hk0)) (by decide) ml_X3_90 mf_X8_takeNew rfl (kt_3_0 hk0) xf_X8 rfl (Nat.le_of_ble_eq_true rfl) (fun r1 S2 hq => ?_)
  try dsimp only
  refine X_bn (n := 15) (tgt := 17) (kX3_readPlace 6 rfl) rfl rfl (fun h3 => ?_) (fun h3 => ?_)
  · refine X_aload_n (n := 18) 0 (kX3_readPlace 9 rfl) rfl rfl rfl ?_
    refine X_getR (n := 21) xf_X3 hk0 (by decide) fl_X3_25 rfl (kX3_readPlace 10 rfl) rfl ?_
    refine X_getI (n := 24) xf_X8 (kt_3_0 hk0) (by decide) fl_X3_94 rfl (kX3_readPlace 11 rfl) rfl ?_
    refine X_istore_n (n := 25) (L1 := [(1, .int (S2.1 (rf a0 0) 11)), (0, .ref a0)]) (kX3_readPlace 12 rfl) rfl rfl (Nat.le_of_ble_eq_true rfl) rfl ?_
    refine X_iconst (n := 26) (v := 0) (kX3_readPlace 13 rfl) rfl (by decide) ?_
    refine X_istore_n (n := 27) (L1 := [(2, .int 0), (1, .int (S2.1 (rf a0 0) 11)), (0, .ref a0)]) (kX3_readPlace 14 rfl) rfl rfl (Nat.le_of_ble_eq_true rfl) rfl ?_
    refine X_L [0, 1, 2] rfl (w_X3_readPlace_L27 hk0 (fun S9 => ?_) ?_ 1000000 (0 : Int32) S2)
    · refine X_iconst (n := 62) (v := 1) (kX3_readPlace 31 rfl) rfl (by decide) ?_
      exact X_zret (b := true) rfl (kX3_readPlace 32 rfl)
    · intro r
      rfl
  · refine X_iconst (n := 16) (v := 0) (kX3_readPlace 7 rfl) rfl (by decide) ?_
    exact X_zret (b := false) rfl (kX3_readPlace 8 rfl)
def f_X6_isSaidOf_L6  (a0 : Nat) (a1 : Nat) (a2 : Nat) (i3 : Int32) : Nat → Int64 → Int32 → XS → Option (Int64 × XS)
  | 0, _, _, _ => none
  | n + 1, j4, i6, S => (if (S.1 a0 3) ≤ i6 then some (j4, S) else (if (gat S (rf a0 0) i6) = (139 : Int32) then f_X6_isSaidOf_L6 a0 a1 a2 i3 n (j4 ^^^ 1) (i6 + 1) S else (if (gat S (rf a0 0) i6) = (138 : Int32) then f_X6_isSaidOf_L6 a0 a1 a2 i3 n ((ushr64 j4 (1 : Int32)) &&& ((-2) ||| (j4 &&& 1))) (i6 + 1) S else (if (gat S (rf a0 0) i6) = (137 : Int32) then f_X6_isSaidOf_L6 a0 a1 a2 i3 n ((ushr64 j4 (1 : Int32)) ||| (j4 &&& 1)) (i6 + 1) S else ((f_X6_holds a0 a1 a2 i3 i6 S).bind (fun q => match q with | (r5, S6) => ((if r5 = true then some true else some false).bind (fun x7 => f_X6_isSaidOf_L6 a0 a1 a2 i3 n ((shl64 j4 (1 : Int32)) ||| (bi x7).toInt64) (i6 + 1) S6))))))))
def f_X6_isSaidOf  (a0 : Nat) (a1 : Nat) (a2 : Nat) (i3 : Int32) (S : XS) : Option (Bool × XS) := ((f_X6_isSaidOf_L6 a0 a1 a2 i3 1000000 0 (0 : Int32) S).bind (fun q => match q with | (e9, S10) => (if (lg_cmp (e9 &&& 1) 1) = 0 then some (true, S10) else some (false, S10))))
set_option maxHeartbeats 4000000 in
set_option maxRecDepth 100000 in
theorem w_X6_isSaidOf_L6 {l : Launch} {g : XG} {G : (Int64 × XS) → Option (Bool × XS)}  {a0 : Nat} {a1 : Nat} {a2 : Nat} {i3 : Int32} (hk0 : kd a0 = 6) (hk1 : kd a1 = 2) (hk2 : kd a2 = 10) (kE : ∀ (e4 : Int64) (S1 : XS), X φB l g 5 mX6_isSaidOf 124 [(4, .long e4)] [] S1 (G (e4, S1))) : ∀ (n : Nat) (j4 : Int64) (i6 : Int32) (S : XS), X φB l g 5 mX6_isSaidOf 6 [(6, .int i6), (4, .long j4), (0, .ref a0), (1, .ref a1), (2, .ref a2), (3, .int i3)] [] S ((f_X6_isSaidOf_L6 a0 a1 a2 i3 n j4 i6 S).bind G) := by
  intro n
  induction n with
  | zero => intro j4 i6 S; exact X_none
  | succ n ih =>
  · intro j4 i6 S
    rw [f_X6_isSaidOf_L6]
    refine X_iload (n := 8) 0 (kX6_isSaidOf 4 rfl) rfl rfl ?_
    refine X_aload_n (n := 9) 2 (kX6_isSaidOf 5 rfl) rfl rfl rfl ?_
    refine X_getI (n := 12) xf_X6 hk0 (by decide) fl_X6_21 rfl (kX6_isSaidOf 6 rfl) rfl ?_
    refine X_itebind ?_
    refine X_ic_ge (n := 15) (tgt := 124) (kX6_isSaidOf 7 rfl) rfl rfl (fun h1 => ?_) (fun h1 => ?_)
    · exact X_L [1] rfl (kE j4 S)
    · refine X_aload_n (n := 16) 2 (kX6_isSaidOf 8 rfl) rfl rfl rfl ?_
      refine X_getR (n := 19) xf_X6 hk0 (by decide) fl_X6_9 rfl (kX6_isSaidOf 9 rfl) rfl ?_
      refine X_iload (n := 21) 0 (kX6_isSaidOf 10 rfl) rfl rfl ?_
      refine X_callN1I (n := 24) (As := [.ref (rf a0 0), .int i6]) (st := []) (kX6_isSaidOf 11 rfl) rfl (p_X11_at (kt_6_0 hk0)) (by decide) nl_X6_39 mf_X11_at rfl rfl (Nat.le_of_ble_eq_true rfl) ?_
      refine X_istore (n := 26) (L1 := [(7, .int (gat S (rf a0 0) i6)), (6, .int i6), (4, .long j4), (0, .ref a0), (1, .ref a1), (2, .ref a2), (3, .int i3)]) (kX6_isSaidOf 12 rfl) rfl (Nat.le_of_ble_eq_true rfl) rfl ?_
      refine X_lload (n := 28) 2 (kX6_isSaidOf 13 rfl) rfl rfl ?_
      refine X_lconst (n := 29) (v := 1) (kX6_isSaidOf 14 rfl) rfl (by decide) ?_
      refine X_land (n := 30) (kX6_isSaidOf 15 rfl) rfl ?_
      refine X_lstore (n := 32) (L1 := [(8, .long (j4 &&& 1)), (7, .int (gat S (rf a0 0) i6)), (6, .int i6), (4, .long j4), (0, .ref a0), (1, .ref a1), (2, .ref a2), (3, .int i3)]) (kX6_isSaidOf 16 rfl) rfl (Nat.le_of_ble_eq_true rfl) rfl ?_
      refine X_iload (n := 34) 1 (kX6_isSaidOf 17 rfl) rfl rfl ?_
      refine X_sipush (n := 37) (v := 139) (kX6_isSaidOf 18 rfl) rfl (by decide) ?_
      refine X_itebind ?_
      refine X_ic_ne (n := 40) (tgt := 49) (kX6_isSaidOf 19 rfl) rfl rfl (fun h2 => ?_) (fun h2 => ?_)
      · refine X_lload (n := 42) 3 (kX6_isSaidOf 20 rfl) rfl rfl ?_
        refine X_lconst (n := 43) (v := 1) (kX6_isSaidOf 21 rfl) rfl (by decide) ?_
        refine X_lxor (n := 44) (kX6_isSaidOf 22 rfl) rfl ?_
        refine X_lstore (n := 46) (L1 := [(4, .long (j4 ^^^ 1)), (8, .long (j4 &&& 1)), (7, .int (gat S (rf a0 0) i6)), (6, .int i6), (0, .ref a0), (1, .ref a1), (2, .ref a2), (3, .int i3)]) (kX6_isSaidOf 23 rfl) rfl (Nat.le_of_ble_eq_true rfl) rfl ?_
        refine X_goto (tgt := 118) (kX6_isSaidOf 24 rfl) rfl ?_
        refine X_iinc (n := 121) 3 (v := (i6 + 1)) (L1 := [(6, .int (i6 + 1)), (4, .long (j4 ^^^ 1)), (8, .long (j4 &&& 1)), (7, .int (gat S (rf a0 0) i6)), (0, .ref a0), (1, .ref a1), (2, .ref a2), (3, .int i3)]) (kX6_isSaidOf 63 rfl) rfl rfl rfl (Nat.le_of_ble_eq_true rfl) rfl ?_
        refine X_goto (tgt := 6) (kX6_isSaidOf 64 rfl) rfl ?_
        exact X_L [0, 1, 4, 5, 6, 7] rfl (ih (j4 ^^^ 1) (i6 + 1) S)
      · refine X_iload (n := 51) 1 (kX6_isSaidOf 25 rfl) rfl rfl ?_
        refine X_sipush (n := 54) (v := 138) (kX6_isSaidOf 26 rfl) rfl (by decide) ?_
        refine X_itebind ?_
        refine X_ic_ne (n := 57) (tgt := 73) (kX6_isSaidOf 27 rfl) rfl rfl (fun h3 => ?_) (fun h3 => ?_)
        · refine X_lload (n := 59) 3 (kX6_isSaidOf 28 rfl) rfl rfl ?_
          refine X_iconst (n := 60) (v := 1) (kX6_isSaidOf 29 rfl) rfl (by decide) ?_
          refine X_lushr (n := 61) (kX6_isSaidOf 30 rfl) rfl ?_
          refine X_ldc2 (n := 64) (kX6_isSaidOf 31 rfl) rfl cl_X6_43 ?_
          refine X_lload (n := 66) 0 (kX6_isSaidOf 32 rfl) rfl rfl ?_
          refine X_lor (n := 67) (kX6_isSaidOf 33 rfl) rfl ?_
          refine X_land (n := 68) (kX6_isSaidOf 34 rfl) rfl ?_
          refine X_lstore (n := 70) (L1 := [(4, .long ((ushr64 j4 (1 : Int32)) &&& ((-2) ||| (j4 &&& 1)))), (8, .long (j4 &&& 1)), (7, .int (gat S (rf a0 0) i6)), (6, .int i6), (0, .ref a0), (1, .ref a1), (2, .ref a2), (3, .int i3)]) (kX6_isSaidOf 35 rfl) rfl (Nat.le_of_ble_eq_true rfl) rfl ?_
          refine X_goto (tgt := 118) (kX6_isSaidOf 36 rfl) rfl ?_
          refine X_iinc (n := 121) 3 (v := (i6 + 1)) (L1 := [(6, .int (i6 + 1)), (4, .long ((ushr64 j4 (1 : Int32)) &&& ((-2) ||| (j4 &&& 1)))), (8, .long (j4 &&& 1)), (7, .int (gat S (rf a0 0) i6)), (0, .ref a0), (1, .ref a1), (2, .ref a2), (3, .int i3)]) (kX6_isSaidOf 63 rfl) rfl rfl rfl (Nat.le_of_ble_eq_true rfl) rfl ?_
          refine X_goto (tgt := 6) (kX6_isSaidOf 64 rfl) rfl ?_
          exact X_L [0, 1, 4, 5, 6, 7] rfl (ih ((ushr64 j4 (1 : Int32)) &&& ((-2) ||| (j4 &&& 1))) (i6 + 1) S)
        · refine X_iload (n := 75) 1 (kX6_isSaidOf 37 rfl) rfl rfl ?_
          refine X_sipush (n := 78) (v := 137) (kX6_isSaidOf 38 rfl) rfl (by decide) ?_
          refine X_itebind ?_
          refine X_ic_ne (n := 81) (tgt := 93) (kX6_isSaidOf 39 rfl) rfl rfl (fun h4 => ?_) (fun h4 => ?_)
          · refine X_lload (n := 83) 3 (kX6_isSaidOf 40 rfl) rfl rfl ?_
            refine X_iconst (n := 84) (v := 1) (kX6_isSaidOf 41 rfl) rfl (by decide) ?_
            refine X_lushr (n := 85) (kX6_isSaidOf 42 rfl) rfl ?_
            refine X_lload (n := 87) 0 (kX6_isSaidOf 43 rfl) rfl rfl ?_
            refine X_lor (n := 88) (kX6_isSaidOf 44 rfl) rfl ?_
            refine X_lstore (n := 90) (L1 := [(4, .long ((ushr64 j4 (1 : Int32)) ||| (j4 &&& 1))), (8, .long (j4 &&& 1)), (7, .int (gat S (rf a0 0) i6)), (6, .int i6), (0, .ref a0), (1, .ref a1), (2, .ref a2), (3, .int i3)]) (kX6_isSaidOf 45 rfl) rfl (Nat.le_of_ble_eq_true rfl) rfl ?_
            refine X_goto (tgt := 118) (kX6_isSaidOf 46 rfl) rfl ?_
            refine X_iinc (n := 121) 3 (v := (i6 + 1)) (L1 := [(6, .int (i6 + 1)), (4, .long ((ushr64 j4 (1 : Int32)) ||| (j4 &&& 1))), (8, .long (j4 &&& 1)), (7, .int (gat S (rf a0 0) i6)), (0, .ref a0), (1, .ref a1), (2, .ref a2), (3, .int i3)]) (kX6_isSaidOf 63 rfl) rfl rfl rfl (Nat.le_of_ble_eq_true rfl) rfl ?_
            refine X_goto (tgt := 6) (kX6_isSaidOf 64 rfl) rfl ?_
            exact X_L [0, 1, 4, 5, 6, 7] rfl (ih ((ushr64 j4 (1 : Int32)) ||| (j4 &&& 1)) (i6 + 1) S)
          · refine X_lload (n := 95) 3 (kX6_isSaidOf 47 rfl) rfl rfl ?_
            refine X_iconst (n := 96) (v := 1) (kX6_isSaidOf 48 rfl) rfl (by decide) ?_
            refine X_lshl (n := 97) (kX6_isSaidOf 49 rfl) rfl ?_
            refine X_aload_n (n := 98) 4 (kX6_isSaidOf 50 rfl) rfl rfl rfl ?_
            refine X_aload_n (n := 99) 5 (kX6_isSaidOf 51 rfl) rfl rfl rfl ?_
            refine X_aload_n (n := 100) 6 (kX6_isSaidOf 52 rfl) rfl rfl rfl ?_
            refine X_iload_n (n := 101) 7 (kX6_isSaidOf 53 rfl) rfl rfl rfl ?_
            refine X_iload (n := 103) 2 (kX6_isSaidOf 54 rfl) rfl rfl ?_
            refine X_assoc ?_
            refine X_callVB (n := 106) (As := [.ref a1, .ref a2, .int i3, .int i6]) (st := [.long (shl64 j4 (1 : Int32))]) (kX6_isSaidOf 55 rfl) rfl (w_X6_holds hk0 hk1 hk2) (by decide) ml_X6_45 mf_X6_holds rfl hk0 xf_X6 rfl (Nat.le_of_ble_eq_true rfl) (fun r5 S6 hq => ?_)
            try dsimp only
            refine X_assoc ?_
            refine X_join 114 (fun x7 => [(6, .int i6), (0, .ref a0), (1, .ref a1), (2, .ref a2), (3, .int i3)]) (fun x7 => [.int (bi x7), .long (shl64 j4 (1 : Int32))]) (fun x7 => S6) (fun x7 => ?_) (fun kJ => ?_)
            · try dsimp only
              refine X_i2l (n := 115) (kX6_isSaidOf 60 rfl) rfl ?_
              refine X_lor (n := 116) (kX6_isSaidOf 61 rfl) rfl ?_
              refine X_lstore (n := 118) (L1 := [(4, .long ((shl64 j4 (1 : Int32)) ||| (bi x7).toInt64)), (6, .int i6), (0, .ref a0), (1, .ref a1), (2, .ref a2), (3, .int i3)]) (kX6_isSaidOf 62 rfl) rfl (Nat.le_of_ble_eq_true rfl) rfl ?_
              refine X_iinc (n := 121) 1 (v := (i6 + 1)) (L1 := [(6, .int (i6 + 1)), (4, .long ((shl64 j4 (1 : Int32)) ||| (bi x7).toInt64)), (0, .ref a0), (1, .ref a1), (2, .ref a2), (3, .int i3)]) (kX6_isSaidOf 63 rfl) rfl rfl rfl (Nat.le_of_ble_eq_true rfl) rfl ?_
              refine X_goto (tgt := 6) (kX6_isSaidOf 64 rfl) rfl ?_
              exact X_L [0, 1, 2, 3, 4, 5] rfl (ih ((shl64 j4 (1 : Int32)) ||| (bi x7).toInt64) (i6 + 1) S6)
            · refine X_itebind ?_
              refine X_bz (n := 109) (tgt := 113) (kX6_isSaidOf 56 rfl) rfl rfl (fun h8 => ?_) (fun h8 => ?_)
              · refine X_iconst (n := 110) (v := 1) (kX6_isSaidOf 57 rfl) rfl (by decide) ?_
                refine X_goto (tgt := 114) (kX6_isSaidOf 58 rfl) rfl ?_
                exact X_L [2, 4, 5, 6, 7] rfl (kJ true)
              · refine X_iconst (n := 114) (v := 0) (kX6_isSaidOf 59 rfl) rfl (by decide) ?_
                exact X_L [2, 4, 5, 6, 7] rfl (kJ false)
set_option maxHeartbeats 4000000 in
set_option maxRecDepth 100000 in
theorem w_X6_isSaidOf {l : Launch} {g : XG}  {a0 : Nat} {a1 : Nat} {a2 : Nat} {i3 : Int32} {S : XS} (hk0 : kd a0 = 6) (hk1 : kd a1 = 2) (hk2 : kd a2 = 10) : Cl φB l g 5 mX6_isSaidOf [.ref a0, .ref a1, .ref a2, .int i3] S (f_X6_isSaidOf a0 a1 a2 i3 S) := by
  refine Cl.of (by decide +kernel) (Nat.le_of_ble_eq_true rfl) ?_
  unfold f_X6_isSaidOf
  show X _ _ _ _ _ 0 [(0, .ref a0), (1, .ref a1), (2, .ref a2), (3, .int i3)] [] S _
  refine X_lconst (n := 1) (v := 0) (kX6_isSaidOf 0 rfl) rfl (by decide) ?_
  refine X_lstore (n := 3) (L1 := [(4, .long 0), (0, .ref a0), (1, .ref a1), (2, .ref a2), (3, .int i3)]) (kX6_isSaidOf 1 rfl) rfl (Nat.le_of_ble_eq_true rfl) rfl ?_
  refine X_iconst (n := 4) (v := 0) (kX6_isSaidOf 2 rfl) rfl (by decide) ?_
  refine X_istore (n := 6) (L1 := [(6, .int 0), (4, .long 0), (0, .ref a0), (1, .ref a1), (2, .ref a2), (3, .int i3)]) (kX6_isSaidOf 3 rfl) rfl (Nat.le_of_ble_eq_true rfl) rfl ?_
  refine X_L [0, 1, 2, 3, 4, 5] rfl (w_X6_isSaidOf_L6 hk0 hk1 hk2 (fun e9 S10 => ?_) 1000000 0 (0 : Int32) S)
  try dsimp only
  refine X_lload (n := 126) 0 (kX6_isSaidOf 65 rfl) rfl rfl ?_
  refine X_lconst (n := 127) (v := 1) (kX6_isSaidOf 66 rfl) rfl (by decide) ?_
  refine X_land (n := 128) (kX6_isSaidOf 67 rfl) rfl ?_
  refine X_lconst (n := 129) (v := 1) (kX6_isSaidOf 68 rfl) rfl (by decide) ?_
  refine X_lcmp (n := 130) (kX6_isSaidOf 69 rfl) rfl ?_
  refine X_if_ne (n := 133) (tgt := 137) (kX6_isSaidOf 70 rfl) rfl rfl (fun h11 => ?_) (fun h11 => ?_)
  · refine X_iconst (n := 134) (v := 1) (kX6_isSaidOf 71 rfl) rfl (by decide) ?_
    refine X_goto (tgt := 138) (kX6_isSaidOf 72 rfl) rfl ?_
    exact X_zret (b := true) rfl (kX6_isSaidOf 74 rfl)
  · refine X_iconst (n := 138) (v := 0) (kX6_isSaidOf 73 rfl) rfl (by decide) ?_
    exact X_zret (b := false) rfl (kX6_isSaidOf 74 rfl)
