def f_X12_isDigit  (i0 : Int32) (S : XS) : Option (Bool × XS) := (if i0 < (48 : Int32) then some (false, S) else (if (57 : Int32) < i0 then some (false, S) else some (true, S)))
set_option maxHeartbeats 4000000 in
set_option maxRecDepth 100000 in
theorem w_X12_isDigit {l : Launch} {g : XG}  {i0 : Int32} {S : XS}  : Cl φB l g 1 mX12_isDigit [.int i0] S (f_X12_isDigit i0 S) := by
  refine Cl.of (by decide +kernel) (Nat.le_of_ble_eq_true rfl) ?_
  unfold f_X12_isDigit
  show X _ _ _ _ _ 0 [(0, .int i0)] [] S _
  refine X_iload_n (n := 1) 0 (kX12_isDigit 0 rfl) rfl rfl rfl ?_
  refine X_bipush (n := 3) (v := 48) (kX12_isDigit 1 rfl) rfl (by decide) ?_
  refine X_ic_lt (n := 6) (tgt := 16) (kX12_isDigit 2 rfl) rfl rfl (fun h1 => ?_) (fun h1 => ?_)
  · refine X_iconst (n := 17) (v := 0) (kX12_isDigit 8 rfl) rfl (by decide) ?_
    exact X_zret (b := false) rfl (kX12_isDigit 9 rfl)
  · refine X_iload_n (n := 7) 0 (kX12_isDigit 3 rfl) rfl rfl rfl ?_
    refine X_bipush (n := 9) (v := 57) (kX12_isDigit 4 rfl) rfl (by decide) ?_
    refine X_ic_gt (n := 12) (tgt := 16) (kX12_isDigit 5 rfl) rfl rfl (fun h2 => ?_) (fun h2 => ?_)
    · refine X_iconst (n := 17) (v := 0) (kX12_isDigit 8 rfl) rfl (by decide) ?_
      exact X_zret (b := false) rfl (kX12_isDigit 9 rfl)
    · refine X_iconst (n := 13) (v := 1) (kX12_isDigit 6 rfl) rfl (by decide) ?_
      refine X_goto (tgt := 17) (kX12_isDigit 7 rfl) rfl ?_
      exact X_zret (b := true) rfl (kX12_isDigit 9 rfl)
def t_X12_isDigit (i0 : Int32) : Bool := (if i0 < (48 : Int32) then false else (if (57 : Int32) < i0 then false else true))
theorem ft_X12_isDigit (i0 : Int32) (S : XS) : f_X12_isDigit i0 S = some (t_X12_isDigit i0, S) := by
  unfold f_X12_isDigit t_X12_isDigit
  first | rfl | simp only [ite_p]
theorem p_X12_isDigit {l : Launch} {g : XG} {i0 : Int32} {S : XS}  : Cl φB l g 1 mX12_isDigit [.int i0] S (some (t_X12_isDigit i0, S)) := ft_X12_isDigit i0 S ▸ w_X12_isDigit 
def f_X12_isLetter  (i0 : Int32) (S : XS) : Option (Bool × XS) := (if i0 < (97 : Int32) then some (false, S) else (if (122 : Int32) < i0 then some (false, S) else some (true, S)))
set_option maxHeartbeats 4000000 in
set_option maxRecDepth 100000 in
theorem w_X12_isLetter {l : Launch} {g : XG}  {i0 : Int32} {S : XS}  : Cl φB l g 1 mX12_isLetter [.int i0] S (f_X12_isLetter i0 S) := by
  refine Cl.of (by decide +kernel) (Nat.le_of_ble_eq_true rfl) ?_
  unfold f_X12_isLetter
  show X _ _ _ _ _ 0 [(0, .int i0)] [] S _
  refine X_iload_n (n := 1) 0 (kX12_isLetter 0 rfl) rfl rfl rfl ?_
  refine X_bipush (n := 3) (v := 97) (kX12_isLetter 1 rfl) rfl (by decide) ?_
  refine X_ic_lt (n := 6) (tgt := 16) (kX12_isLetter 2 rfl) rfl rfl (fun h1 => ?_) (fun h1 => ?_)
  · refine X_iconst (n := 17) (v := 0) (kX12_isLetter 8 rfl) rfl (by decide) ?_
    exact X_zret (b := false) rfl (kX12_isLetter 9 rfl)
  · refine X_iload_n (n := 7) 0 (kX12_isLetter 3 rfl) rfl rfl rfl ?_
    refine X_bipush (n := 9) (v := 122) (kX12_isLetter 4 rfl) rfl (by decide) ?_
    refine X_ic_gt (n := 12) (tgt := 16) (kX12_isLetter 5 rfl) rfl rfl (fun h2 => ?_) (fun h2 => ?_)
    · refine X_iconst (n := 17) (v := 0) (kX12_isLetter 8 rfl) rfl (by decide) ?_
      exact X_zret (b := false) rfl (kX12_isLetter 9 rfl)
    · refine X_iconst (n := 13) (v := 1) (kX12_isLetter 6 rfl) rfl (by decide) ?_
      refine X_goto (tgt := 17) (kX12_isLetter 7 rfl) rfl ?_
      exact X_zret (b := true) rfl (kX12_isLetter 9 rfl)
def t_X12_isLetter (i0 : Int32) : Bool := (if i0 < (97 : Int32) then false else (if (122 : Int32) < i0 then false else true))
theorem ft_X12_isLetter (i0 : Int32) (S : XS) : f_X12_isLetter i0 S = some (t_X12_isLetter i0, S) := by
  unfold f_X12_isLetter t_X12_isLetter
  first | rfl | simp only [ite_p]
theorem p_X12_isLetter {l : Launch} {g : XG} {i0 : Int32} {S : XS}  : Cl φB l g 1 mX12_isLetter [.int i0] S (some (t_X12_isLetter i0, S)) := ft_X12_isLetter i0 S ▸ w_X12_isLetter 
def f_X12_spelt  (i0 : Int32) (i1 : Int32) (i2 : Int32) (i3 : Int32) (i4 : Int32) (i5 : Int32) (S : XS) : Option (Int64 × XS) := ((if i2 ≤ 0 then some (((27 * (i0.toInt64 - 96)) + i1.toInt64) - 96) else some (((27 * (((27 * (i0.toInt64 - 96)) + i1.toInt64) - 96)) + i2.toInt64) - 96)).bind (fun x1 => ((if i3 ≤ 0 then some x1 else some (((27 * x1) + i3.toInt64) - 96)).bind (fun x2 => ((if i4 ≤ 0 then some x2 else some (((27 * x2) + i4.toInt64) - 96)).bind (fun x3 => (if i5 ≤ 0 then some (x3, S) else some ((((27 * x3) + i5.toInt64) - 96), S))))))))
set_option maxHeartbeats 4000000 in
set_option maxRecDepth 100000 in
theorem w_X12_spelt {l : Launch} {g : XG}  {i0 : Int32} {i1 : Int32} {i2 : Int32} {i3 : Int32} {i4 : Int32} {i5 : Int32} {S : XS}  : Cl φL l g 1 mX12_spelt [.int i0, .int i1, .int i2, .int i3, .int i4, .int i5] S (f_X12_spelt i0 i1 i2 i3 i4 i5 S) := by
  refine Cl.of (by decide +kernel) (Nat.le_of_ble_eq_true rfl) ?_
  unfold f_X12_spelt
  show X _ _ _ _ _ 0 [(0, .int i0), (1, .int i1), (2, .int i2), (3, .int i3), (4, .int i4), (5, .int i5)] [] S _
  refine X_ldc2 (n := 3) (kX12_spelt 0 rfl) rfl cl_X12_146 ?_
  refine X_iload_n (n := 4) 0 (kX12_spelt 1 rfl) rfl rfl rfl ?_
  refine X_i2l (n := 5) (kX12_spelt 2 rfl) rfl ?_
  refine X_ldc2 (n := 8) (kX12_spelt 3 rfl) rfl cl_X12_148 ?_
  refine X_lsub (n := 9) (kX12_spelt 4 rfl) rfl ?_
  refine X_lmul (n := 10) (kX12_spelt 5 rfl) rfl ?_
  refine X_iload_n (n := 11) 1 (kX12_spelt 6 rfl) rfl rfl rfl ?_
  refine X_i2l (n := 12) (kX12_spelt 7 rfl) rfl ?_
  refine X_ladd (n := 13) (kX12_spelt 8 rfl) rfl ?_
  refine X_ldc2 (n := 16) (kX12_spelt 9 rfl) rfl cl_X12_148 ?_
  refine X_lsub (n := 17) (kX12_spelt 10 rfl) rfl ?_
  refine X_lstore (n := 19) (L1 := [(6, .long (((27 * (i0.toInt64 - 96)) + i1.toInt64) - 96)), (0, .int i0), (1, .int i1), (2, .int i2), (3, .int i3), (4, .int i4), (5, .int i5)]) (kX12_spelt 11 rfl) rfl (Nat.le_of_ble_eq_true rfl) rfl ?_
  refine X_iload_n (n := 20) 3 (kX12_spelt 12 rfl) rfl rfl rfl ?_
  refine X_join 38 (fun x1 => [(3, .int i3), (4, .int i4), (5, .int i5), (6, .long x1)]) (fun x1 => []) (fun x1 => S) (fun x1 => ?_) (fun kJ => ?_)
  · try dsimp only
    refine X_iload_n (n := 39) 0 (kX12_spelt 23 rfl) rfl rfl rfl ?_
    refine X_join 57 (fun x2 => [(4, .int i4), (5, .int i5), (6, .long x2)]) (fun x2 => []) (fun x2 => S) (fun x2 => ?_) (fun kJ => ?_)
    · try dsimp only
      refine X_iload (n := 59) 0 (kX12_spelt 34 rfl) rfl rfl ?_
      refine X_join 78 (fun x3 => [(5, .int i5), (6, .long x3)]) (fun x3 => []) (fun x3 => S) (fun x3 => ?_) (fun kJ => ?_)
      · try dsimp only
        refine X_iload (n := 80) 0 (kX12_spelt 45 rfl) rfl rfl ?_
        refine X_if_le (n := 83) (tgt := 100) (kX12_spelt 46 rfl) rfl rfl (fun h4 => ?_) (fun h4 => ?_)
        · refine X_lload (n := 102) 1 (kX12_spelt 56 rfl) rfl rfl ?_
          exact X_lret rfl (kX12_spelt 57 rfl)
        · refine X_ldc2 (n := 86) (kX12_spelt 47 rfl) rfl cl_X12_146 ?_
          refine X_lload (n := 88) 1 (kX12_spelt 48 rfl) rfl rfl ?_
          refine X_lmul (n := 89) (kX12_spelt 49 rfl) rfl ?_
          refine X_iload (n := 91) 0 (kX12_spelt 50 rfl) rfl rfl ?_
          refine X_i2l (n := 92) (kX12_spelt 51 rfl) rfl ?_
          refine X_ladd (n := 93) (kX12_spelt 52 rfl) rfl ?_
          refine X_ldc2 (n := 96) (kX12_spelt 53 rfl) rfl cl_X12_148 ?_
          refine X_lsub (n := 97) (kX12_spelt 54 rfl) rfl ?_
          refine X_goto (tgt := 102) (kX12_spelt 55 rfl) rfl ?_
          exact X_lret rfl (kX12_spelt 57 rfl)
      · refine X_itebind ?_
        refine X_if_le (n := 62) (tgt := 78) (kX12_spelt 35 rfl) rfl rfl (fun h5 => ?_) (fun h5 => ?_)
        · exact X_L [1, 2] rfl (kJ x2)
        · refine X_ldc2 (n := 65) (kX12_spelt 36 rfl) rfl cl_X12_146 ?_
          refine X_lload (n := 67) 2 (kX12_spelt 37 rfl) rfl rfl ?_
          refine X_lmul (n := 68) (kX12_spelt 38 rfl) rfl ?_
          refine X_iload (n := 70) 0 (kX12_spelt 39 rfl) rfl rfl ?_
          refine X_i2l (n := 71) (kX12_spelt 40 rfl) rfl ?_
          refine X_ladd (n := 72) (kX12_spelt 41 rfl) rfl ?_
          refine X_ldc2 (n := 75) (kX12_spelt 42 rfl) rfl cl_X12_148 ?_
          refine X_lsub (n := 76) (kX12_spelt 43 rfl) rfl ?_
          refine X_lstore (n := 78) (L1 := [(6, .long (((27 * x2) + i4.toInt64) - 96)), (4, .int i4), (5, .int i5)]) (kX12_spelt 44 rfl) rfl (Nat.le_of_ble_eq_true rfl) rfl ?_
          exact X_L [2, 0] rfl (kJ (((27 * x2) + i4.toInt64) - 96))
    · refine X_itebind ?_
      refine X_if_le (n := 42) (tgt := 57) (kX12_spelt 24 rfl) rfl rfl (fun h6 => ?_) (fun h6 => ?_)
      · exact X_L [1, 2, 3] rfl (kJ x1)
      · refine X_ldc2 (n := 45) (kX12_spelt 25 rfl) rfl cl_X12_146 ?_
        refine X_lload (n := 47) 3 (kX12_spelt 26 rfl) rfl rfl ?_
        refine X_lmul (n := 48) (kX12_spelt 27 rfl) rfl ?_
        refine X_iload_n (n := 49) 0 (kX12_spelt 28 rfl) rfl rfl rfl ?_
        refine X_i2l (n := 50) (kX12_spelt 29 rfl) rfl ?_
        refine X_ladd (n := 51) (kX12_spelt 30 rfl) rfl ?_
        refine X_ldc2 (n := 54) (kX12_spelt 31 rfl) rfl cl_X12_148 ?_
        refine X_lsub (n := 55) (kX12_spelt 32 rfl) rfl ?_
        refine X_lstore (n := 57) (L1 := [(6, .long (((27 * x1) + i3.toInt64) - 96)), (3, .int i3), (4, .int i4), (5, .int i5)]) (kX12_spelt 33 rfl) rfl (Nat.le_of_ble_eq_true rfl) rfl ?_
        exact X_L [2, 3, 0] rfl (kJ (((27 * x1) + i3.toInt64) - 96))
  · refine X_itebind ?_
    refine X_if_le (n := 23) (tgt := 38) (kX12_spelt 13 rfl) rfl rfl (fun h7 => ?_) (fun h7 => ?_)
    · exact X_L [4, 5, 6, 0] rfl (kJ (((27 * (i0.toInt64 - 96)) + i1.toInt64) - 96))
    · refine X_ldc2 (n := 26) (kX12_spelt 14 rfl) rfl cl_X12_146 ?_
      refine X_lload (n := 28) 0 (kX12_spelt 15 rfl) rfl rfl ?_
      refine X_lmul (n := 29) (kX12_spelt 16 rfl) rfl ?_
      refine X_iload_n (n := 30) 3 (kX12_spelt 17 rfl) rfl rfl rfl ?_
      refine X_i2l (n := 31) (kX12_spelt 18 rfl) rfl ?_
      refine X_ladd (n := 32) (kX12_spelt 19 rfl) rfl ?_
      refine X_ldc2 (n := 35) (kX12_spelt 20 rfl) rfl cl_X12_148 ?_
      refine X_lsub (n := 36) (kX12_spelt 21 rfl) rfl ?_
      refine X_lstore (n := 38) (L1 := [(6, .long (((27 * (((27 * (i0.toInt64 - 96)) + i1.toInt64) - 96)) + i2.toInt64) - 96)), (0, .int i0), (1, .int i1), (2, .int i2), (3, .int i3), (4, .int i4), (5, .int i5)]) (kX12_spelt 22 rfl) rfl (Nat.le_of_ble_eq_true rfl) rfl ?_
      exact X_L [4, 5, 6, 0] rfl (kJ (((27 * (((27 * (i0.toInt64 - 96)) + i1.toInt64) - 96)) + i2.toInt64) - 96))
def f_X12_isSign  (a0 : Nat) (i1 : Int32) (S : XS) : Option (Bool × XS) := (if (S.1 a0 7) = (4 : Int32) then (if (S.1 a0 9) = i1 then some (true, S) else some (false, S)) else some (false, S))
set_option maxHeartbeats 4000000 in
set_option maxRecDepth 100000 in
theorem w_X12_isSign {l : Launch} {g : XG}  {a0 : Nat} {i1 : Int32} {S : XS} (hk0 : kd a0 = 12) : Cl φB l g 1 mX12_isSign [.ref a0, .int i1] S (f_X12_isSign a0 i1 S) := by
  refine Cl.of (by decide +kernel) (Nat.le_of_ble_eq_true rfl) ?_
  unfold f_X12_isSign
  show X _ _ _ _ _ 0 [(0, .ref a0), (1, .int i1)] [] S _
  refine X_aload_n (n := 1) 0 (kX12_isSign 0 rfl) rfl rfl rfl ?_
  refine X_getI (n := 4) xf_X12 hk0 (by decide) fl_X12_122 rfl (kX12_isSign 1 rfl) rfl ?_
  refine X_iconst (n := 5) (v := 4) (kX12_isSign 2 rfl) rfl (by decide) ?_
  refine X_ic_ne (n := 8) (tgt := 20) (kX12_isSign 3 rfl) rfl rfl (fun h1 => ?_) (fun h1 => ?_)
  · refine X_aload_n (n := 9) 0 (kX12_isSign 4 rfl) rfl rfl rfl ?_
    refine X_getI (n := 12) xf_X12 hk0 (by decide) fl_X12_132 rfl (kX12_isSign 5 rfl) rfl ?_
    refine X_iload_n (n := 13) 1 (kX12_isSign 6 rfl) rfl rfl rfl ?_
    refine X_ic_ne (n := 16) (tgt := 20) (kX12_isSign 7 rfl) rfl rfl (fun h2 => ?_) (fun h2 => ?_)
    · refine X_iconst (n := 17) (v := 1) (kX12_isSign 8 rfl) rfl (by decide) ?_
      refine X_goto (tgt := 21) (kX12_isSign 9 rfl) rfl ?_
      exact X_zret (b := true) rfl (kX12_isSign 11 rfl)
    · refine X_iconst (n := 21) (v := 0) (kX12_isSign 10 rfl) rfl (by decide) ?_
      exact X_zret (b := false) rfl (kX12_isSign 11 rfl)
  · refine X_iconst (n := 21) (v := 0) (kX12_isSign 10 rfl) rfl (by decide) ?_
    exact X_zret (b := false) rfl (kX12_isSign 11 rfl)
def t_X12_isSign (a0 : Nat) (i1 : Int32) (S : XS) : Bool := (if (S.1 a0 7) = (4 : Int32) then (if (S.1 a0 9) = i1 then true else false) else false)
theorem ft_X12_isSign (a0 : Nat) (i1 : Int32) (S : XS) : f_X12_isSign a0 i1 S = some (t_X12_isSign a0 i1 S, S) := by
  unfold f_X12_isSign t_X12_isSign
  first | rfl | simp only [ite_p]
theorem p_X12_isSign {l : Launch} {g : XG} {a0 : Nat} {i1 : Int32} {S : XS} (hk0 : kd a0 = 12) : Cl φB l g 1 mX12_isSign [.ref a0, .int i1] S (some (t_X12_isSign a0 i1 S, S)) := ft_X12_isSign a0 i1 S ▸ w_X12_isSign hk0
def f_X12_bad  (a0 : Nat) (i1 : Int32) (S : XS) : Option (Bool × XS) := ((if (S.1 a0 7) = (1 : Int32) then some (1 : Int32) else some i1).bind (fun x1 => some (false, (sI (sI S a0 10 x1) a0 11 ((sI S a0 10 x1).1 a0 6)))))
set_option maxHeartbeats 4000000 in
set_option maxRecDepth 100000 in
theorem w_X12_bad {l : Launch} {g : XG}  {a0 : Nat} {i1 : Int32} {S : XS} (hk0 : kd a0 = 12) : Cl φB l g 1 mX12_bad [.ref a0, .int i1] S (f_X12_bad a0 i1 S) := by
  refine Cl.of (by decide +kernel) (Nat.le_of_ble_eq_true rfl) ?_
  unfold f_X12_bad
  show X _ _ _ _ _ 0 [(0, .ref a0), (1, .int i1)] [] S _
  refine X_aload_n (n := 1) 0 (kX12_bad 0 rfl) rfl rfl rfl ?_
  refine X_aload_n (n := 2) 0 (kX12_bad 1 rfl) rfl rfl rfl ?_
  refine X_getI (n := 5) xf_X12 hk0 (by decide) fl_X12_122 rfl (kX12_bad 2 rfl) rfl ?_
  refine X_iconst (n := 6) (v := 1) (kX12_bad 3 rfl) rfl (by decide) ?_
  refine X_join 14 (fun x1 => [(0, .ref a0)]) (fun x1 => [.int x1, .ref a0]) (fun x1 => S) (fun x1 => ?_) (fun kJ => ?_)
  · try dsimp only
    refine X_putI (n := 17) xf_X12 hk0 (by decide) fl_X12_160 rfl rfl (Or.inl rfl) (kX12_bad 8 rfl) rfl ?_
    refine X_aload_n (n := 18) 0 (kX12_bad 9 rfl) rfl rfl rfl ?_
    refine X_aload_n (n := 19) 0 (kX12_bad 10 rfl) rfl rfl rfl ?_
    refine X_getI (n := 22) xf_X12 hk0 (by decide) fl_X12_116 rfl (kX12_bad 11 rfl) rfl ?_
    refine X_putI (n := 25) xf_X12 hk0 (by decide) fl_X12_163 rfl rfl (Or.inl rfl) (kX12_bad 12 rfl) rfl ?_
    refine X_iconst (n := 26) (v := 0) (kX12_bad 13 rfl) rfl (by decide) ?_
    exact X_zret (b := false) rfl (kX12_bad 14 rfl)
  · refine X_itebind ?_
    refine X_ic_ne (n := 9) (tgt := 13) (kX12_bad 4 rfl) rfl rfl (fun h2 => ?_) (fun h2 => ?_)
    · refine X_iconst (n := 10) (v := 1) (kX12_bad 5 rfl) rfl (by decide) ?_
      refine X_goto (tgt := 14) (kX12_bad 6 rfl) rfl ?_
      exact X_L [0] rfl (kJ (1 : Int32))
    · refine X_iload_n (n := 14) 1 (kX12_bad 7 rfl) rfl rfl rfl ?_
      exact X_L [0] rfl (kJ i1)
def f_X12_findIn_L3  (a0 : Nat) (i1 : Int32) (i2 : Int32) (j3 : Int64) : Nat → Int32 → XS → Option ((Int32 × XS) ⊕ (Unit))
  | 0, _, _ => none
  | n + 1, i5, S => (if i2 ≤ i5 then some (.inr ()) else (if (i1 + i5) < 0 ∨ ln a0 ≤ (i1 + i5).toNatClampNeg then none else (if (lg_cmp (S.2 a0 (i1 + i5).toNatClampNeg) j3) = 0 then some (.inl (i5, S)) else f_X12_findIn_L3 a0 i1 i2 j3 n (i5 + 1) S)))
def f_X12_findIn  (a0 : Nat) (i1 : Int32) (i2 : Int32) (j3 : Int64) (S : XS) : Option (Int32 × XS) := ((f_X12_findIn_L3 a0 i1 i2 j3 1000000 (0 : Int32) S).bind (fun q => match q with | .inl r => some r | .inr _ => some ((-1 : Int32), S)))
set_option maxHeartbeats 4000000 in
set_option maxRecDepth 100000 in
theorem w_X12_findIn_L3 {l : Launch} {g : XG} {G : ((Int32 × XS) ⊕ (Unit)) → Option (Int32 × XS)}  {a0 : Nat} {i1 : Int32} {i2 : Int32} {j3 : Int64} (hk0 : kd a0 = 21) {S : XS} (kE : X φI l g 1 mX12_findIn 29 [] [] S (G (.inr ()))) (kR : ∀ r, G (.inl r) = some r) : ∀ (n : Nat) (i5 : Int32), X φI l g 1 mX12_findIn 3 [(5, .int i5), (0, .ref a0), (1, .int i1), (2, .int i2), (3, .long j3)] [] S ((f_X12_findIn_L3 a0 i1 i2 j3 n i5 S).bind G) := by
  intro n
  induction n with
  | zero => intro i5; exact X_none
  | succ n ih =>
  · intro i5
    rw [f_X12_findIn_L3]
    refine X_iload (n := 5) 0 (kX12_findIn 2 rfl) rfl rfl ?_
    refine X_iload_n (n := 6) 3 (kX12_findIn 3 rfl) rfl rfl rfl ?_
    refine X_itebind ?_
    refine X_ic_ge (n := 9) (tgt := 29) (kX12_findIn 4 rfl) rfl rfl (fun h1 => ?_) (fun h1 => ?_)
    · exact X_L [] rfl kE
    · refine X_aload_n (n := 10) 1 (kX12_findIn 5 rfl) rfl rfl rfl ?_
      refine X_iload_n (n := 11) 2 (kX12_findIn 6 rfl) rfl rfl rfl ?_
      refine X_iload (n := 13) 0 (kX12_findIn 7 rfl) rfl rfl ?_
      refine X_iadd (n := 14) (kX12_findIn 8 rfl) rfl ?_
      refine X_itebind ?_
      refine X_lald (n := 15) hk0 (kX12_findIn 9 rfl) rfl (fun h3 => ?_)
      refine X_lload_n (n := 16) 4 (kX12_findIn 10 rfl) rfl rfl rfl ?_
      refine X_lcmp (n := 17) (kX12_findIn 11 rfl) rfl ?_
      refine X_itebind ?_
      refine X_if_ne (n := 20) (tgt := 23) (kX12_findIn 12 rfl) rfl rfl (fun h2 => ?_) (fun h2 => ?_)
      · refine X_iload (n := 22) 0 (kX12_findIn 13 rfl) rfl rfl ?_
        exact X_req (kR _) (X_iret rfl (kX12_findIn 14 rfl))
      · refine X_iinc (n := 26) 0 (v := (i5 + 1)) (L1 := [(5, .int (i5 + 1)), (0, .ref a0), (1, .int i1), (2, .int i2), (3, .long j3)]) (kX12_findIn 15 rfl) rfl rfl rfl (Nat.le_of_ble_eq_true rfl) rfl ?_
        refine X_goto (tgt := 3) (kX12_findIn 16 rfl) rfl ?_
        exact X_L [0, 1, 2, 3, 4] rfl (ih (i5 + 1))
set_option maxHeartbeats 4000000 in
set_option maxRecDepth 100000 in
theorem w_X12_findIn {l : Launch} {g : XG}  {a0 : Nat} {i1 : Int32} {i2 : Int32} {j3 : Int64} {S : XS} (hk0 : kd a0 = 21) : Cl φI l g 1 mX12_findIn [.ref a0, .int i1, .int i2, .long j3] S (f_X12_findIn a0 i1 i2 j3 S) := by
  refine Cl.of (by decide +kernel) (Nat.le_of_ble_eq_true rfl) ?_
  unfold f_X12_findIn
  show X _ _ _ _ _ 0 [(0, .ref a0), (1, .int i1), (2, .int i2), (3, .long j3)] [] S _
  refine X_iconst (n := 1) (v := 0) (kX12_findIn 0 rfl) rfl (by decide) ?_
  refine X_istore (n := 3) (L1 := [(5, .int 0), (0, .ref a0), (1, .int i1), (2, .int i2), (3, .long j3)]) (kX12_findIn 1 rfl) rfl (Nat.le_of_ble_eq_true rfl) rfl ?_
  refine X_L [0, 1, 2, 3, 4] rfl (w_X12_findIn_L3 hk0 ?_ ?_ 1000000 (0 : Int32))
  · refine X_iconst (n := 30) (v := (-1)) (kX12_findIn 17 rfl) rfl (by decide) ?_
    exact X_iret rfl (kX12_findIn 18 rfl)
  · intro r
    rfl
def f_X12_startAnew_L4  (a0 : Nat) : Nat → Int32 → XS → Option (XS)
  | 0, _, _ => none
  | n + 1, i1, S => (if (274 : Int32) ≤ i1 then some S else (if i1 < 0 ∨ ln (rf a0 14) ≤ i1.toNatClampNeg then none else f_X12_startAnew_L4 a0 n (i1 + 1) (sI S (rf a0 14) i1.toNatClampNeg (0 : Int32))))
def f_X12_startAnew_L26  (a0 : Nat) : Nat → Int32 → XS → Option (XS)
  | 0, _, _ => none
  | n + 1, i1, S => (if (6 : Int32) ≤ i1 then some S else (if ((72 : Int32) + i1) < 0 ∨ ln (rf a0 14) ≤ ((72 : Int32) + i1).toNatClampNeg then none else (if ((145 : Int32) + i1) < 0 ∨ ln (rf a0 14) ≤ ((145 : Int32) + i1).toNatClampNeg then none else (if ((151 : Int32) + i1) < 0 ∨ ln (rf a0 14) ≤ ((151 : Int32) + i1).toNatClampNeg then none else f_X12_startAnew_L26 a0 n (i1 + 1) (sI (sI S (rf a0 14) (((145 : Int32) + i1).toNatClampNeg) (S.1 (rf a0 14) ((72 : Int32) + i1).toNatClampNeg)) (rf a0 14) (((151 : Int32) + i1).toNatClampNeg) i1)))))
def f_X12_startAnew  (a0 : Nat) (S : XS) : Option (XS) := ((f_X12_startAnew_L4 a0 1000000 (144 : Int32) S).bind (fun S3 => ((f_X12_startAnew_L26 a0 1000000 (0 : Int32) S3).bind (fun S8 => some S8))))
set_option maxHeartbeats 4000000 in
set_option maxRecDepth 100000 in
theorem w_X12_startAnew_L4 {l : Launch} {g : XG} {G : (XS) → Option (XS)}  {a0 : Nat} (hk0 : kd a0 = 12) (kE : ∀ (S1 : XS), X φV l g 1 mX12_startAnew 24 [(0, .ref a0)] [] S1 (G S1)) : ∀ (n : Nat) (i1 : Int32) (S : XS), X φV l g 1 mX12_startAnew 4 [(1, .int i1), (0, .ref a0)] [] S ((f_X12_startAnew_L4 a0 n i1 S).bind G) := by
  intro n
  induction n with
  | zero => intro i1 S; exact X_none
  | succ n ih =>
  · intro i1 S
    rw [f_X12_startAnew_L4]
    refine X_iload_n (n := 5) 0 (kX12_startAnew 2 rfl) rfl rfl rfl ?_
    refine X_sipush (n := 8) (v := 274) (kX12_startAnew 3 rfl) rfl (by decide) ?_
    refine X_itebind ?_
    refine X_ic_ge (n := 11) (tgt := 24) (kX12_startAnew 4 rfl) rfl rfl (fun h1 => ?_) (fun h1 => ?_)
    · exact X_L [1] rfl (kE S)
    · refine X_aload_n (n := 12) 1 (kX12_startAnew 5 rfl) rfl rfl rfl ?_
      refine X_getR (n := 15) xf_X12 hk0 (by decide) fl_X12_13 rfl (kX12_startAnew 6 rfl) rfl ?_
      refine X_iload_n (n := 16) 0 (kX12_startAnew 7 rfl) rfl rfl rfl ?_
      refine X_iconst (n := 17) (v := 0) (kX12_startAnew 8 rfl) rfl (by decide) ?_
      refine X_itebind ?_
      refine X_iast (n := 18) (kt_12_14 hk0) (kX12_startAnew 9 rfl) rfl (fun h2 => ?_)
      refine X_iinc (n := 21) 0 (v := (i1 + 1)) (L1 := [(1, .int (i1 + 1)), (0, .ref a0)]) (kX12_startAnew 10 rfl) rfl rfl rfl (Nat.le_of_ble_eq_true rfl) rfl ?_
      refine X_goto (tgt := 4) (kX12_startAnew 11 rfl) rfl ?_
      exact X_L [0, 1] rfl (ih (i1 + 1) (sI S (rf a0 14) i1.toNatClampNeg (0 : Int32)))
set_option maxHeartbeats 4000000 in
set_option maxRecDepth 100000 in
theorem w_X12_startAnew_L26 {l : Launch} {g : XG} {G : (XS) → Option (XS)}  {a0 : Nat} (hk0 : kd a0 = 12) (kE : ∀ (S1 : XS), X φV l g 1 mX12_startAnew 68 [] [] S1 (G S1)) : ∀ (n : Nat) (i1 : Int32) (S : XS), X φV l g 1 mX12_startAnew 26 [(1, .int i1), (0, .ref a0)] [] S ((f_X12_startAnew_L26 a0 n i1 S).bind G) := by
  intro n
  induction n with
  | zero => intro i1 S; exact X_none
  | succ n ih =>
  · intro i1 S
    rw [f_X12_startAnew_L26]
    refine X_iload_n (n := 27) 0 (kX12_startAnew 14 rfl) rfl rfl rfl ?_
    refine X_bipush (n := 29) (v := 6) (kX12_startAnew 15 rfl) rfl (by decide) ?_
    refine X_itebind ?_
    refine X_ic_ge (n := 32) (tgt := 68) (kX12_startAnew 16 rfl) rfl rfl (fun h4 => ?_) (fun h4 => ?_)
    · exact X_L [] rfl (kE S)
    · refine X_aload_n (n := 33) 1 (kX12_startAnew 17 rfl) rfl rfl rfl ?_
      refine X_getR (n := 36) xf_X12 hk0 (by decide) fl_X12_13 rfl (kX12_startAnew 18 rfl) rfl ?_
      refine X_sipush (n := 39) (v := 145) (kX12_startAnew 19 rfl) rfl (by decide) ?_
      refine X_iload_n (n := 40) 0 (kX12_startAnew 20 rfl) rfl rfl rfl ?_
      refine X_iadd (n := 41) (kX12_startAnew 21 rfl) rfl ?_
      refine X_aload_n (n := 42) 1 (kX12_startAnew 22 rfl) rfl rfl rfl ?_
      refine X_getR (n := 45) xf_X12 hk0 (by decide) fl_X12_13 rfl (kX12_startAnew 23 rfl) rfl ?_
      refine X_bipush (n := 47) (v := 72) (kX12_startAnew 24 rfl) rfl (by decide) ?_
      refine X_iload_n (n := 48) 0 (kX12_startAnew 25 rfl) rfl rfl rfl ?_
      refine X_iadd (n := 49) (kX12_startAnew 26 rfl) rfl ?_
      refine X_itebind ?_
      refine X_iald (n := 50) (kt_12_14 hk0) (kX12_startAnew 27 rfl) rfl (fun h7 => ?_)
      refine X_itebind ?_
      refine X_iast (n := 51) (kt_12_14 hk0) (kX12_startAnew 28 rfl) rfl (fun h6 => ?_)
      refine X_aload_n (n := 52) 1 (kX12_startAnew 29 rfl) rfl rfl rfl ?_
      refine X_getR (n := 55) xf_X12 hk0 (by decide) fl_X12_13 rfl (kX12_startAnew 30 rfl) rfl ?_
      refine X_sipush (n := 58) (v := 151) (kX12_startAnew 31 rfl) rfl (by decide) ?_
      refine X_iload_n (n := 59) 0 (kX12_startAnew 32 rfl) rfl rfl rfl ?_
      refine X_iadd (n := 60) (kX12_startAnew 33 rfl) rfl ?_
      refine X_iload_n (n := 61) 0 (kX12_startAnew 34 rfl) rfl rfl rfl ?_
      refine X_itebind ?_
      refine X_iast (n := 62) (kt_12_14 hk0) (kX12_startAnew 35 rfl) rfl (fun h5 => ?_)
      refine X_iinc (n := 65) 0 (v := (i1 + 1)) (L1 := [(1, .int (i1 + 1)), (0, .ref a0)]) (kX12_startAnew 36 rfl) rfl rfl rfl (Nat.le_of_ble_eq_true rfl) rfl ?_
      refine X_goto (tgt := 26) (kX12_startAnew 37 rfl) rfl ?_
      exact X_L [0, 1] rfl (ih (i1 + 1) (sI (sI S (rf a0 14) (((145 : Int32) + i1).toNatClampNeg) (S.1 (rf a0 14) ((72 : Int32) + i1).toNatClampNeg)) (rf a0 14) (((151 : Int32) + i1).toNatClampNeg) i1))
set_option maxHeartbeats 4000000 in
set_option maxRecDepth 100000 in
theorem w_X12_startAnew {l : Launch} {g : XG}  {a0 : Nat} {S : XS} (hk0 : kd a0 = 12) : Cl φV l g 1 mX12_startAnew [.ref a0] S (f_X12_startAnew a0 S) := by
  refine Cl.of (by decide +kernel) (Nat.le_of_ble_eq_true rfl) ?_
  unfold f_X12_startAnew
  show X _ _ _ _ _ 0 [(0, .ref a0)] [] S _
  refine X_sipush (n := 3) (v := 144) (kX12_startAnew 0 rfl) rfl (by decide) ?_
  refine X_istore_n (n := 4) (L1 := [(1, .int 144), (0, .ref a0)]) (kX12_startAnew 1 rfl) rfl rfl (Nat.le_of_ble_eq_true rfl) rfl ?_
  refine X_L [0, 1] rfl (w_X12_startAnew_L4 hk0 (fun S3 => ?_) 1000000 (144 : Int32) S)
  try dsimp only
  refine X_iconst (n := 25) (v := 0) (kX12_startAnew 12 rfl) rfl (by decide) ?_
  refine X_istore_n (n := 26) (L1 := [(1, .int 0), (0, .ref a0)]) (kX12_startAnew 13 rfl) rfl rfl (Nat.le_of_ble_eq_true rfl) rfl ?_
  refine X_L [0, 1] rfl (w_X12_startAnew_L26 hk0 (fun S8 => ?_) 1000000 (0 : Int32) S3)
  try dsimp only
  exact X_vret rfl (kX12_startAnew 38 rfl)
def f_X12_fault  (a0 : Nat) (S : XS) : Option (Int32 × XS) := some (((sI S a0 0 (0 : Int32)).1 a0 10), (sI S a0 0 (0 : Int32)))
set_option maxHeartbeats 4000000 in
set_option maxRecDepth 100000 in
theorem w_X12_fault {l : Launch} {g : XG}  {a0 : Nat} {S : XS} (hk0 : kd a0 = 12) : Cl φI l g 1 mX12_fault [.ref a0] S (f_X12_fault a0 S) := by
  refine Cl.of (by decide +kernel) (Nat.le_of_ble_eq_true rfl) ?_
  unfold f_X12_fault
  show X _ _ _ _ _ 0 [(0, .ref a0)] [] S _
  refine X_aload_n (n := 1) 0 (kX12_fault 0 rfl) rfl rfl rfl ?_
  refine X_iconst (n := 2) (v := 0) (kX12_fault 1 rfl) rfl (by decide) ?_
  refine X_putI (n := 5) xf_X12 hk0 (by decide) fl_X12_100 rfl rfl (Or.inl rfl) (kX12_fault 2 rfl) rfl ?_
  refine X_aload_n (n := 6) 0 (kX12_fault 3 rfl) rfl rfl rfl ?_
  refine X_getI (n := 9) xf_X12 hk0 (by decide) fl_X12_160 rfl (kX12_fault 4 rfl) rfl ?_
  exact X_iret rfl (kX12_fault 5 rfl)
def t_X12_fault (a0 : Nat) (S : XS) : Int32 × XS := (((sI S a0 0 (0 : Int32)).1 a0 10), (sI S a0 0 (0 : Int32)))
theorem ft_X12_fault (a0 : Nat) (S : XS) : f_X12_fault a0 S = some (t_X12_fault a0 S) := by
  unfold f_X12_fault t_X12_fault
  first | rfl | simp only [ite_u]
theorem p_X12_fault {l : Launch} {g : XG} {a0 : Nat} {S : XS} (hk0 : kd a0 = 12) : Cl φI l g 1 mX12_fault [.ref a0] S (some (t_X12_fault a0 S)) := ft_X12_fault a0 S ▸ w_X12_fault hk0
def f_X12_isScent  (a0 : Nat) (i1 : Int32) (S : XS) : Option (Bool × XS) := (if i1 < 0 then some (false, S) else (if (S.1 (rf a0 14) 0) ≤ i1 then some (false, S) else some (true, S)))
set_option maxHeartbeats 4000000 in
set_option maxRecDepth 100000 in
theorem w_X12_isScent {l : Launch} {g : XG}  {a0 : Nat} {i1 : Int32} {S : XS} (hk0 : kd a0 = 12) : Cl φB l g 1 mX12_isScent [.ref a0, .int i1] S (f_X12_isScent a0 i1 S) := by
  refine Cl.of (by decide +kernel) (Nat.le_of_ble_eq_true rfl) ?_
  unfold f_X12_isScent
  show X _ _ _ _ _ 0 [(0, .ref a0), (1, .int i1)] [] S _
  refine X_iload_n (n := 1) 1 (kX12_isScent 0 rfl) rfl rfl rfl ?_
  refine X_if_lt (n := 4) (tgt := 18) (kX12_isScent 1 rfl) rfl rfl (fun h1 => ?_) (fun h1 => ?_)
  · refine X_iconst (n := 19) (v := 0) (kX12_isScent 10 rfl) rfl (by decide) ?_
    exact X_zret (b := false) rfl (kX12_isScent 11 rfl)
  · refine X_iload_n (n := 5) 1 (kX12_isScent 2 rfl) rfl rfl rfl ?_
    refine X_aload_n (n := 6) 0 (kX12_isScent 3 rfl) rfl rfl rfl ?_
    refine X_getR (n := 9) xf_X12 hk0 (by decide) fl_X12_13 rfl (kX12_isScent 4 rfl) rfl ?_
    refine X_iconst (n := 10) (v := 0) (kX12_isScent 5 rfl) rfl (by decide) ?_
    refine X_iald' (n := 11) (kt_12_14 hk0) (kX12_isScent 6 rfl) rfl (by rw [lt_12_14 hk0]; decide) ?_
    refine X_ic_ge (n := 14) (tgt := 18) (kX12_isScent 7 rfl) rfl rfl (fun h2 => ?_) (fun h2 => ?_)
    · refine X_iconst (n := 19) (v := 0) (kX12_isScent 10 rfl) rfl (by decide) ?_
      exact X_zret (b := false) rfl (kX12_isScent 11 rfl)
    · refine X_iconst (n := 15) (v := 1) (kX12_isScent 8 rfl) rfl (by decide) ?_
      refine X_goto (tgt := 19) (kX12_isScent 9 rfl) rfl ?_
      exact X_zret (b := true) rfl (kX12_isScent 11 rfl)
def t_X12_isScent (a0 : Nat) (i1 : Int32) (S : XS) : Bool := (if i1 < 0 then false else (if (S.1 (rf a0 14) 0) ≤ i1 then false else true))
theorem ft_X12_isScent (a0 : Nat) (i1 : Int32) (S : XS) : f_X12_isScent a0 i1 S = some (t_X12_isScent a0 i1 S, S) := by
  unfold f_X12_isScent t_X12_isScent
  first | rfl | simp only [ite_p]
theorem p_X12_isScent {l : Launch} {g : XG} {a0 : Nat} {i1 : Int32} {S : XS} (hk0 : kd a0 = 12) : Cl φB l g 1 mX12_isScent [.ref a0, .int i1] S (some (t_X12_isScent a0 i1 S, S)) := ft_X12_isScent a0 i1 S ▸ w_X12_isScent hk0
def f_X12_isPlace  (a0 : Nat) (i1 : Int32) (S : XS) : Option (Bool × XS) := (if i1 < 0 then some (false, S) else (if (S.1 (rf a0 14) 1) ≤ i1 then some (false, S) else some (true, S)))
set_option maxHeartbeats 4000000 in
set_option maxRecDepth 100000 in
theorem w_X12_isPlace {l : Launch} {g : XG}  {a0 : Nat} {i1 : Int32} {S : XS} (hk0 : kd a0 = 12) : Cl φB l g 1 mX12_isPlace [.ref a0, .int i1] S (f_X12_isPlace a0 i1 S) := by
  refine Cl.of (by decide +kernel) (Nat.le_of_ble_eq_true rfl) ?_
  unfold f_X12_isPlace
  show X _ _ _ _ _ 0 [(0, .ref a0), (1, .int i1)] [] S _
  refine X_iload_n (n := 1) 1 (kX12_isPlace 0 rfl) rfl rfl rfl ?_
  refine X_if_lt (n := 4) (tgt := 18) (kX12_isPlace 1 rfl) rfl rfl (fun h1 => ?_) (fun h1 => ?_)
  · refine X_iconst (n := 19) (v := 0) (kX12_isPlace 10 rfl) rfl (by decide) ?_
    exact X_zret (b := false) rfl (kX12_isPlace 11 rfl)
  · refine X_iload_n (n := 5) 1 (kX12_isPlace 2 rfl) rfl rfl rfl ?_
    refine X_aload_n (n := 6) 0 (kX12_isPlace 3 rfl) rfl rfl rfl ?_
    refine X_getR (n := 9) xf_X12 hk0 (by decide) fl_X12_13 rfl (kX12_isPlace 4 rfl) rfl ?_
    refine X_iconst (n := 10) (v := 1) (kX12_isPlace 5 rfl) rfl (by decide) ?_
    refine X_iald' (n := 11) (kt_12_14 hk0) (kX12_isPlace 6 rfl) rfl (by rw [lt_12_14 hk0]; decide) ?_
    refine X_ic_ge (n := 14) (tgt := 18) (kX12_isPlace 7 rfl) rfl rfl (fun h2 => ?_) (fun h2 => ?_)
    · refine X_iconst (n := 19) (v := 0) (kX12_isPlace 10 rfl) rfl (by decide) ?_
      exact X_zret (b := false) rfl (kX12_isPlace 11 rfl)
    · refine X_iconst (n := 15) (v := 1) (kX12_isPlace 8 rfl) rfl (by decide) ?_
      refine X_goto (tgt := 19) (kX12_isPlace 9 rfl) rfl ?_
      exact X_zret (b := true) rfl (kX12_isPlace 11 rfl)
def t_X12_isPlace (a0 : Nat) (i1 : Int32) (S : XS) : Bool := (if i1 < 0 then false else (if (S.1 (rf a0 14) 1) ≤ i1 then false else true))
theorem ft_X12_isPlace (a0 : Nat) (i1 : Int32) (S : XS) : f_X12_isPlace a0 i1 S = some (t_X12_isPlace a0 i1 S, S) := by
  unfold f_X12_isPlace t_X12_isPlace
  first | rfl | simp only [ite_p]
theorem p_X12_isPlace {l : Launch} {g : XG} {a0 : Nat} {i1 : Int32} {S : XS} (hk0 : kd a0 = 12) : Cl φB l g 1 mX12_isPlace [.ref a0, .int i1] S (some (t_X12_isPlace a0 i1 S, S)) := ft_X12_isPlace a0 i1 S ▸ w_X12_isPlace hk0
