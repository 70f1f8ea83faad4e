def f_X8_isSign  (i0 : Int32) (S : XS) : Option (Bool × XS) := (if i0 = (59 : Int32) then some (true, S) else (if i0 = (60 : Int32) then some (true, S) else (if i0 = (61 : Int32) then some (true, S) else (if i0 = (62 : Int32) then some (true, S) else (if i0 = (40 : Int32) then some (true, S) else (if i0 = (41 : Int32) then some (true, S) else some (false, S)))))))
set_option maxHeartbeats 4000000 in
set_option maxRecDepth 100000 in
theorem w_X8_isSign {l : Launch} {g : XG}  {i0 : Int32} {S : XS}  : Cl φB l g 1 mX8_isSign [.int i0] S (f_X8_isSign i0 S) := by
  refine Cl.of (by decide +kernel) (Nat.le_of_ble_eq_true rfl) ?_
  unfold f_X8_isSign
  show X _ _ _ _ _ 0 [(0, .int i0)] [] S _
  refine X_iload_n (n := 1) 0 (kX8_isSign 0 rfl) rfl rfl rfl ?_
  refine X_bipush (n := 3) (v := 59) (kX8_isSign 1 rfl) rfl (by decide) ?_
  refine X_ic_eq (n := 6) (tgt := 36) (kX8_isSign 2 rfl) rfl rfl (fun h1 => ?_) (fun h1 => ?_)
  · refine X_iconst (n := 37) (v := 1) (kX8_isSign 18 rfl) rfl (by decide) ?_
    refine X_goto (tgt := 41) (kX8_isSign 19 rfl) rfl ?_
    exact X_zret (b := true) rfl (kX8_isSign 21 rfl)
  · refine X_iload_n (n := 7) 0 (kX8_isSign 3 rfl) rfl rfl rfl ?_
    refine X_bipush (n := 9) (v := 60) (kX8_isSign 4 rfl) rfl (by decide) ?_
    refine X_ic_eq (n := 12) (tgt := 36) (kX8_isSign 5 rfl) rfl rfl (fun h2 => ?_) (fun h2 => ?_)
    · refine X_iconst (n := 37) (v := 1) (kX8_isSign 18 rfl) rfl (by decide) ?_
      refine X_goto (tgt := 41) (kX8_isSign 19 rfl) rfl ?_
      exact X_zret (b := true) rfl (kX8_isSign 21 rfl)
    · refine X_iload_n (n := 13) 0 (kX8_isSign 6 rfl) rfl rfl rfl ?_
      refine X_bipush (n := 15) (v := 61) (kX8_isSign 7 rfl) rfl (by decide) ?_
      refine X_ic_eq (n := 18) (tgt := 36) (kX8_isSign 8 rfl) rfl rfl (fun h3 => ?_) (fun h3 => ?_)
      · refine X_iconst (n := 37) (v := 1) (kX8_isSign 18 rfl) rfl (by decide) ?_
        refine X_goto (tgt := 41) (kX8_isSign 19 rfl) rfl ?_
        exact X_zret (b := true) rfl (kX8_isSign 21 rfl)
      · refine X_iload_n (n := 19) 0 (kX8_isSign 9 rfl) rfl rfl rfl ?_
        refine X_bipush (n := 21) (v := 62) (kX8_isSign 10 rfl) rfl (by decide) ?_
        refine X_ic_eq (n := 24) (tgt := 36) (kX8_isSign 11 rfl) rfl rfl (fun h4 => ?_) (fun h4 => ?_)
        · refine X_iconst (n := 37) (v := 1) (kX8_isSign 18 rfl) rfl (by decide) ?_
          refine X_goto (tgt := 41) (kX8_isSign 19 rfl) rfl ?_
          exact X_zret (b := true) rfl (kX8_isSign 21 rfl)
        · refine X_iload_n (n := 25) 0 (kX8_isSign 12 rfl) rfl rfl rfl ?_
          refine X_bipush (n := 27) (v := 40) (kX8_isSign 13 rfl) rfl (by decide) ?_
          refine X_ic_eq (n := 30) (tgt := 36) (kX8_isSign 14 rfl) rfl rfl (fun h5 => ?_) (fun h5 => ?_)
          · refine X_iconst (n := 37) (v := 1) (kX8_isSign 18 rfl) rfl (by decide) ?_
            refine X_goto (tgt := 41) (kX8_isSign 19 rfl) rfl ?_
            exact X_zret (b := true) rfl (kX8_isSign 21 rfl)
          · refine X_iload_n (n := 31) 0 (kX8_isSign 15 rfl) rfl rfl rfl ?_
            refine X_bipush (n := 33) (v := 41) (kX8_isSign 16 rfl) rfl (by decide) ?_
            refine X_ic_ne (n := 36) (tgt := 40) (kX8_isSign 17 rfl) rfl rfl (fun h6 => ?_) (fun h6 => ?_)
            · refine X_iconst (n := 37) (v := 1) (kX8_isSign 18 rfl) rfl (by decide) ?_
              refine X_goto (tgt := 41) (kX8_isSign 19 rfl) rfl ?_
              exact X_zret (b := true) rfl (kX8_isSign 21 rfl)
            · refine X_iconst (n := 41) (v := 0) (kX8_isSign 20 rfl) rfl (by decide) ?_
              exact X_zret (b := false) rfl (kX8_isSign 21 rfl)
def t_X8_isSign (i0 : Int32) : Bool := (if i0 = (59 : Int32) then true else (if i0 = (60 : Int32) then true else (if i0 = (61 : Int32) then true else (if i0 = (62 : Int32) then true else (if i0 = (40 : Int32) then true else (if i0 = (41 : Int32) then true else false))))))
theorem ft_X8_isSign (i0 : Int32) (S : XS) : f_X8_isSign i0 S = some (t_X8_isSign i0, S) := by
  unfold f_X8_isSign t_X8_isSign
  first | rfl | simp only [ite_p]
theorem p_X8_isSign {l : Launch} {g : XG} {i0 : Int32} {S : XS}  : Cl φB l g 1 mX8_isSign [.int i0] S (some (t_X8_isSign i0, S)) := ft_X8_isSign i0 S ▸ w_X8_isSign 
def f_X8_content  (a0 : Nat) (S : XS) : Option (Int64 × XS) := (if (S.1 a0 9) < 0 then some (0, S) else (if (941 : Int32) ≤ (S.1 a0 9) then some (0, S) else (if (S.1 a0 9) < 0 ∨ ln (rf a0 7) ≤ (S.1 a0 9).toNatClampNeg then none else some ((S.2 (rf a0 7) (S.1 a0 9).toNatClampNeg), S))))
set_option maxHeartbeats 4000000 in
set_option maxRecDepth 100000 in
theorem w_X8_content {l : Launch} {g : XG}  {a0 : Nat} {S : XS} (hk0 : kd a0 = 8) : Cl φL l g 1 mX8_content [.ref a0] S (f_X8_content a0 S) := by
  refine Cl.of (by decide +kernel) (Nat.le_of_ble_eq_true rfl) ?_
  unfold f_X8_content
  show X _ _ _ _ _ 0 [(0, .ref a0)] [] S _
  refine X_aload_n (n := 1) 0 (kX8_content 0 rfl) rfl rfl rfl ?_
  refine X_getI (n := 4) xf_X8 hk0 (by decide) fl_X8_69 rfl (kX8_content 1 rfl) rfl ?_
  refine X_if_lt (n := 7) (tgt := 31) (kX8_content 2 rfl) rfl rfl (fun h1 => ?_) (fun h1 => ?_)
  · refine X_lconst (n := 32) (v := 0) (kX8_content 15 rfl) rfl (by decide) ?_
    exact X_lret rfl (kX8_content 16 rfl)
  · refine X_aload_n (n := 8) 0 (kX8_content 3 rfl) rfl rfl rfl ?_
    refine X_getI (n := 11) xf_X8 hk0 (by decide) fl_X8_69 rfl (kX8_content 4 rfl) rfl ?_
    refine X_aload_n (n := 12) 0 (kX8_content 5 rfl) rfl rfl rfl ?_
    refine X_getR (n := 15) xf_X8 hk0 (by decide) fl_X8_33 rfl (kX8_content 6 rfl) rfl ?_
    refine X_alenJ (n := 16) (v := 941) (kt_8_7 hk0) (kX8_content 7 rfl) rfl (by rw [lt_8_7 hk0]; rfl) ?_
    refine X_ic_ge (n := 19) (tgt := 31) (kX8_content 8 rfl) rfl rfl (fun h2 => ?_) (fun h2 => ?_)
    · refine X_lconst (n := 32) (v := 0) (kX8_content 15 rfl) rfl (by decide) ?_
      exact X_lret rfl (kX8_content 16 rfl)
    · refine X_aload_n (n := 20) 0 (kX8_content 9 rfl) rfl rfl rfl ?_
      refine X_getR (n := 23) xf_X8 hk0 (by decide) fl_X8_33 rfl (kX8_content 10 rfl) rfl ?_
      refine X_aload_n (n := 24) 0 (kX8_content 11 rfl) rfl rfl rfl ?_
      refine X_getI (n := 27) xf_X8 hk0 (by decide) fl_X8_69 rfl (kX8_content 12 rfl) rfl ?_
      refine X_lald (n := 28) (kt_8_7 hk0) (kX8_content 13 rfl) rfl (fun h3 => ?_)
      refine X_goto (tgt := 32) (kX8_content 14 rfl) rfl ?_
      exact X_lret rfl (kX8_content 16 rfl)
def f_X10_hasCloth  (a0 : Nat) (i1 : Int32) (S : XS) : Option (Bool × XS) := (if i1 < 0 then some (false, S) else (if (S.1 a0 4) ≤ i1 then some (false, S) else some (true, S)))
set_option maxHeartbeats 4000000 in
set_option maxRecDepth 100000 in
theorem w_X10_hasCloth {l : Launch} {g : XG}  {a0 : Nat} {i1 : Int32} {S : XS} (hk0 : kd a0 = 10) : Cl φB l g 1 mX10_hasCloth [.ref a0, .int i1] S (f_X10_hasCloth a0 i1 S) := by
  refine Cl.of (by decide +kernel) (Nat.le_of_ble_eq_true rfl) ?_
  unfold f_X10_hasCloth
  show X _ _ _ _ _ 0 [(0, .ref a0), (1, .int i1)] [] S _
  refine X_iload_n (n := 1) 1 (kX10_hasCloth 0 rfl) rfl rfl rfl ?_
  refine X_if_lt (n := 4) (tgt := 16) (kX10_hasCloth 1 rfl) rfl rfl (fun h1 => ?_) (fun h1 => ?_)
  · refine X_iconst (n := 17) (v := 0) (kX10_hasCloth 8 rfl) rfl (by decide) ?_
    exact X_zret (b := false) rfl (kX10_hasCloth 9 rfl)
  · refine X_iload_n (n := 5) 1 (kX10_hasCloth 2 rfl) rfl rfl rfl ?_
    refine X_aload_n (n := 6) 0 (kX10_hasCloth 3 rfl) rfl rfl rfl ?_
    refine X_getI (n := 9) xf_X10 hk0 (by decide) fl_X10_37 rfl (kX10_hasCloth 4 rfl) rfl ?_
    refine X_ic_ge (n := 12) (tgt := 16) (kX10_hasCloth 5 rfl) rfl rfl (fun h2 => ?_) (fun h2 => ?_)
    · refine X_iconst (n := 17) (v := 0) (kX10_hasCloth 8 rfl) rfl (by decide) ?_
      exact X_zret (b := false) rfl (kX10_hasCloth 9 rfl)
    · refine X_iconst (n := 13) (v := 1) (kX10_hasCloth 6 rfl) rfl (by decide) ?_
      refine X_goto (tgt := 17) (kX10_hasCloth 7 rfl) rfl ?_
      exact X_zret (b := true) rfl (kX10_hasCloth 9 rfl)
def t_X10_hasCloth (a0 : Nat) (i1 : Int32) (S : XS) : Bool := (if i1 < 0 then false else (if (S.1 a0 4) ≤ i1 then false else true))
theorem ft_X10_hasCloth (a0 : Nat) (i1 : Int32) (S : XS) : f_X10_hasCloth a0 i1 S = some (t_X10_hasCloth a0 i1 S, S) := by
  unfold f_X10_hasCloth t_X10_hasCloth
  first | rfl | simp only [ite_p]
theorem p_X10_hasCloth {l : Launch} {g : XG} {a0 : Nat} {i1 : Int32} {S : XS} (hk0 : kd a0 = 10) : Cl φB l g 1 mX10_hasCloth [.ref a0, .int i1] S (some (t_X10_hasCloth a0 i1 S, S)) := ft_X10_hasCloth a0 i1 S ▸ w_X10_hasCloth hk0
def f_X5_sortOf  (i0 : Int32) (S : XS) : Option (Int32 × XS) := (if i0 = (134 : Int32) then some ((1 : Int32), S) else (if i0 = (135 : Int32) then some ((0 : Int32), S) else some ((2 : Int32), S)))
set_option maxHeartbeats 4000000 in
set_option maxRecDepth 100000 in
theorem w_X5_sortOf {l : Launch} {g : XG}  {i0 : Int32} {S : XS}  : Cl φI l g 1 mX5_sortOf [.int i0] S (f_X5_sortOf i0 S) := by
  refine Cl.of (by decide +kernel) (Nat.le_of_ble_eq_true rfl) ?_
  unfold f_X5_sortOf
  show X _ _ _ _ _ 0 [(0, .int i0)] [] S _
  refine X_iload_n (n := 1) 0 (kX5_sortOf 0 rfl) rfl rfl rfl ?_
  refine X_sipush (n := 4) (v := 134) (kX5_sortOf 1 rfl) rfl (by decide) ?_
  refine X_ic_ne (n := 7) (tgt := 9) (kX5_sortOf 2 rfl) rfl rfl (fun h1 => ?_) (fun h1 => ?_)
  · refine X_iconst (n := 8) (v := 1) (kX5_sortOf 3 rfl) rfl (by decide) ?_
    exact X_iret rfl (kX5_sortOf 4 rfl)
  · refine X_iload_n (n := 10) 0 (kX5_sortOf 5 rfl) rfl rfl rfl ?_
    refine X_sipush (n := 13) (v := 135) (kX5_sortOf 6 rfl) rfl (by decide) ?_
    refine X_ic_ne (n := 16) (tgt := 20) (kX5_sortOf 7 rfl) rfl rfl (fun h2 => ?_) (fun h2 => ?_)
    · refine X_iconst (n := 17) (v := 0) (kX5_sortOf 8 rfl) rfl (by decide) ?_
      refine X_goto (tgt := 21) (kX5_sortOf 9 rfl) rfl ?_
      exact X_iret rfl (kX5_sortOf 11 rfl)
    · refine X_iconst (n := 21) (v := 2) (kX5_sortOf 10 rfl) rfl (by decide) ?_
      exact X_iret rfl (kX5_sortOf 11 rfl)
def t_X5_sortOf (i0 : Int32) : Int32 := (if i0 = (134 : Int32) then (1 : Int32) else (if i0 = (135 : Int32) then (0 : Int32) else (2 : Int32)))
theorem ft_X5_sortOf (i0 : Int32) (S : XS) : f_X5_sortOf i0 S = some (t_X5_sortOf i0, S) := by
  unfold f_X5_sortOf t_X5_sortOf
  first | rfl | simp only [ite_p]
theorem p_X5_sortOf {l : Launch} {g : XG} {i0 : Int32} {S : XS}  : Cl φI l g 1 mX5_sortOf [.int i0] S (some (t_X5_sortOf i0, S)) := ft_X5_sortOf i0 S ▸ w_X5_sortOf 
def f_X6_clear  (a0 : Nat) (S : XS) : Option (XS) := some (sI S a0 3 (0 : Int32))
set_option maxHeartbeats 4000000 in
set_option maxRecDepth 100000 in
theorem w_X6_clear {l : Launch} {g : XG}  {a0 : Nat} {S : XS} (hk0 : kd a0 = 6) : Cl φV l g 1 mX6_clear [.ref a0] S (f_X6_clear a0 S) := by
  refine Cl.of (by decide +kernel) (Nat.le_of_ble_eq_true rfl) ?_
  unfold f_X6_clear
  show X _ _ _ _ _ 0 [(0, .ref a0)] [] S _
  refine X_aload_n (n := 1) 0 (kX6_clear 0 rfl) rfl rfl rfl ?_
  refine X_iconst (n := 2) (v := 0) (kX6_clear 1 rfl) rfl (by decide) ?_
  refine X_putI (n := 5) xf_X6 hk0 (by decide) fl_X6_21 rfl rfl (Or.inl rfl) (kX6_clear 2 rfl) rfl ?_
  exact X_vret rfl (kX6_clear 3 rfl)
def t_X6_clear (a0 : Nat) (S : XS) : XS := (sI S a0 3 (0 : Int32))
theorem ft_X6_clear (a0 : Nat) (S : XS) : f_X6_clear a0 S = some (t_X6_clear a0 S) := by
  unfold f_X6_clear t_X6_clear
  first | rfl | simp only [ite_u]
theorem p_X6_clear {l : Launch} {g : XG} {a0 : Nat} {S : XS} (hk0 : kd a0 = 6) : Cl φV l g 1 mX6_clear [.ref a0] S (some (t_X6_clear a0 S)) := ft_X6_clear a0 S ▸ w_X6_clear hk0
def f_X6_isEmpty  (a0 : Nat) (S : XS) : Option (Bool × XS) := (if (S.1 a0 3) = 0 then some (true, S) else some (false, S))
set_option maxHeartbeats 4000000 in
set_option maxRecDepth 100000 in
theorem w_X6_isEmpty {l : Launch} {g : XG}  {a0 : Nat} {S : XS} (hk0 : kd a0 = 6) : Cl φB l g 1 mX6_isEmpty [.ref a0] S (f_X6_isEmpty a0 S) := by
  refine Cl.of (by decide +kernel) (Nat.le_of_ble_eq_true rfl) ?_
  unfold f_X6_isEmpty
  show X _ _ _ _ _ 0 [(0, .ref a0)] [] S _
  refine X_aload_n (n := 1) 0 (kX6_isEmpty 0 rfl) rfl rfl rfl ?_
  refine X_getI (n := 4) xf_X6 hk0 (by decide) fl_X6_21 rfl (kX6_isEmpty 1 rfl) rfl ?_
  refine X_if_ne (n := 7) (tgt := 11) (kX6_isEmpty 2 rfl) rfl rfl (fun h1 => ?_) (fun h1 => ?_)
  · refine X_iconst (n := 8) (v := 1) (kX6_isEmpty 3 rfl) rfl (by decide) ?_
    refine X_goto (tgt := 12) (kX6_isEmpty 4 rfl) rfl ?_
    exact X_zret (b := true) rfl (kX6_isEmpty 6 rfl)
  · refine X_iconst (n := 12) (v := 0) (kX6_isEmpty 5 rfl) rfl (by decide) ?_
    exact X_zret (b := false) rfl (kX6_isEmpty 6 rfl)
def t_X6_isEmpty (a0 : Nat) (S : XS) : Bool := (if (S.1 a0 3) = 0 then true else false)
theorem ft_X6_isEmpty (a0 : Nat) (S : XS) : f_X6_isEmpty a0 S = some (t_X6_isEmpty a0 S, S) := by
  unfold f_X6_isEmpty t_X6_isEmpty
  first | rfl | simp only [ite_p]
theorem p_X6_isEmpty {l : Launch} {g : XG} {a0 : Nat} {S : XS} (hk0 : kd a0 = 6) : Cl φB l g 1 mX6_isEmpty [.ref a0] S (some (t_X6_isEmpty a0 S, S)) := ft_X6_isEmpty a0 S ▸ w_X6_isEmpty hk0
def f_X6_compares  (i0 : Int32) (i1 : Int32) (i2 : Int32) (S : XS) : Option (Bool × XS) := (if i1 = (60 : Int32) then (if i2 ≤ i0 then some (false, S) else some (true, S)) else (if i1 = (62 : Int32) then (if i0 ≤ i2 then some (false, S) else some (true, S)) else (if i0 = i2 then some (true, S) else some (false, S))))
set_option maxHeartbeats 4000000 in
set_option maxRecDepth 100000 in
theorem w_X6_compares {l : Launch} {g : XG}  {i0 : Int32} {i1 : Int32} {i2 : Int32} {S : XS}  : Cl φB l g 1 mX6_compares [.int i0, .int i1, .int i2] S (f_X6_compares i0 i1 i2 S) := by
  refine Cl.of (by decide +kernel) (Nat.le_of_ble_eq_true rfl) ?_
  unfold f_X6_compares
  show X _ _ _ _ _ 0 [(0, .int i0), (1, .int i1), (2, .int i2)] [] S _
  refine X_iload_n (n := 1) 1 (kX6_compares 0 rfl) rfl rfl rfl ?_
  refine X_bipush (n := 3) (v := 60) (kX6_compares 1 rfl) rfl (by decide) ?_
  refine X_ic_ne (n := 6) (tgt := 17) (kX6_compares 2 rfl) rfl rfl (fun h1 => ?_) (fun h1 => ?_)
  · refine X_iload_n (n := 7) 0 (kX6_compares 3 rfl) rfl rfl rfl ?_
    refine X_iload_n (n := 8) 2 (kX6_compares 4 rfl) rfl rfl rfl ?_
    refine X_ic_ge (n := 11) (tgt := 15) (kX6_compares 5 rfl) rfl rfl (fun h2 => ?_) (fun h2 => ?_)
    · refine X_iconst (n := 16) (v := 0) (kX6_compares 8 rfl) rfl (by decide) ?_
      exact X_zret (b := false) rfl (kX6_compares 9 rfl)
    · refine X_iconst (n := 12) (v := 1) (kX6_compares 6 rfl) rfl (by decide) ?_
      refine X_goto (tgt := 16) (kX6_compares 7 rfl) rfl ?_
      exact X_zret (b := true) rfl (kX6_compares 9 rfl)
  · refine X_iload_n (n := 18) 1 (kX6_compares 10 rfl) rfl rfl rfl ?_
    refine X_bipush (n := 20) (v := 62) (kX6_compares 11 rfl) rfl (by decide) ?_
    refine X_ic_ne (n := 23) (tgt := 36) (kX6_compares 12 rfl) rfl rfl (fun h3 => ?_) (fun h3 => ?_)
    · refine X_iload_n (n := 24) 0 (kX6_compares 13 rfl) rfl rfl rfl ?_
      refine X_iload_n (n := 25) 2 (kX6_compares 14 rfl) rfl rfl rfl ?_
      refine X_ic_le (n := 28) (tgt := 32) (kX6_compares 15 rfl) rfl rfl (fun h4 => ?_) (fun h4 => ?_)
      · refine X_iconst (n := 33) (v := 0) (kX6_compares 18 rfl) rfl (by decide) ?_
        refine X_goto (tgt := 46) (kX6_compares 19 rfl) rfl ?_
        exact X_zret (b := false) rfl (kX6_compares 26 rfl)
      · refine X_iconst (n := 29) (v := 1) (kX6_compares 16 rfl) rfl (by decide) ?_
        refine X_goto (tgt := 46) (kX6_compares 17 rfl) rfl ?_
        exact X_zret (b := true) rfl (kX6_compares 26 rfl)
    · refine X_iload_n (n := 37) 0 (kX6_compares 20 rfl) rfl rfl rfl ?_
      refine X_iload_n (n := 38) 2 (kX6_compares 21 rfl) rfl rfl rfl ?_
      refine X_ic_ne (n := 41) (tgt := 45) (kX6_compares 22 rfl) rfl rfl (fun h5 => ?_) (fun h5 => ?_)
      · refine X_iconst (n := 42) (v := 1) (kX6_compares 23 rfl) rfl (by decide) ?_
        refine X_goto (tgt := 46) (kX6_compares 24 rfl) rfl ?_
        exact X_zret (b := true) rfl (kX6_compares 26 rfl)
      · refine X_iconst (n := 46) (v := 0) (kX6_compares 25 rfl) rfl (by decide) ?_
        exact X_zret (b := false) rfl (kX6_compares 26 rfl)
def t_X6_compares (i0 : Int32) (i1 : Int32) (i2 : Int32) : Bool := (if i1 = (60 : Int32) then (if i2 ≤ i0 then false else true) else (if i1 = (62 : Int32) then (if i0 ≤ i2 then false else true) else (if i0 = i2 then true else false)))
theorem ft_X6_compares (i0 : Int32) (i1 : Int32) (i2 : Int32) (S : XS) : f_X6_compares i0 i1 i2 S = some (t_X6_compares i0 i1 i2, S) := by
  unfold f_X6_compares t_X6_compares
  first | rfl | simp only [ite_p]
theorem p_X6_compares {l : Launch} {g : XG} {i0 : Int32} {i1 : Int32} {i2 : Int32} {S : XS}  : Cl φB l g 1 mX6_compares [.int i0, .int i1, .int i2] S (some (t_X6_compares i0 i1 i2, S)) := ft_X6_compares i0 i1 i2 S ▸ w_X6_compares 
def f_X7_beginsOne  (i0 : Int32) (S : XS) : Option (Bool × XS) := (if i0 = (40 : Int32) then some (true, S) else (if i0 = (134 : Int32) then some (true, S) else (if i0 = (135 : Int32) then some (true, S) else (if i0 < (139 : Int32) then some (false, S) else (if (144 : Int32) < i0 then some (false, S) else some (true, S))))))
set_option maxHeartbeats 4000000 in
set_option maxRecDepth 100000 in
theorem w_X7_beginsOne {l : Launch} {g : XG}  {i0 : Int32} {S : XS}  : Cl φB l g 1 mX7_beginsOne [.int i0] S (f_X7_beginsOne i0 S) := by
  refine Cl.of (by decide +kernel) (Nat.le_of_ble_eq_true rfl) ?_
  unfold f_X7_beginsOne
  show X _ _ _ _ _ 0 [(0, .int i0)] [] S _
  refine X_iload_n (n := 1) 0 (kX7_beginsOne 0 rfl) rfl rfl rfl ?_
  refine X_bipush (n := 3) (v := 40) (kX7_beginsOne 1 rfl) rfl (by decide) ?_
  refine X_ic_eq (n := 6) (tgt := 34) (kX7_beginsOne 2 rfl) rfl rfl (fun h1 => ?_) (fun h1 => ?_)
  · refine X_iconst (n := 35) (v := 1) (kX7_beginsOne 15 rfl) rfl (by decide) ?_
    refine X_goto (tgt := 39) (kX7_beginsOne 16 rfl) rfl ?_
    exact X_zret (b := true) rfl (kX7_beginsOne 18 rfl)
  · refine X_iload_n (n := 7) 0 (kX7_beginsOne 3 rfl) rfl rfl rfl ?_
    refine X_sipush (n := 10) (v := 134) (kX7_beginsOne 4 rfl) rfl (by decide) ?_
    refine X_ic_eq (n := 13) (tgt := 34) (kX7_beginsOne 5 rfl) rfl rfl (fun h2 => ?_) (fun h2 => ?_)
    · refine X_iconst (n := 35) (v := 1) (kX7_beginsOne 15 rfl) rfl (by decide) ?_
      refine X_goto (tgt := 39) (kX7_beginsOne 16 rfl) rfl ?_
      exact X_zret (b := true) rfl (kX7_beginsOne 18 rfl)
    · refine X_iload_n (n := 14) 0 (kX7_beginsOne 6 rfl) rfl rfl rfl ?_
      refine X_sipush (n := 17) (v := 135) (kX7_beginsOne 7 rfl) rfl (by decide) ?_
      refine X_ic_eq (n := 20) (tgt := 34) (kX7_beginsOne 8 rfl) rfl rfl (fun h3 => ?_) (fun h3 => ?_)
      · refine X_iconst (n := 35) (v := 1) (kX7_beginsOne 15 rfl) rfl (by decide) ?_
        refine X_goto (tgt := 39) (kX7_beginsOne 16 rfl) rfl ?_
        exact X_zret (b := true) rfl (kX7_beginsOne 18 rfl)
      · refine X_iload_n (n := 21) 0 (kX7_beginsOne 9 rfl) rfl rfl rfl ?_
        refine X_sipush (n := 24) (v := 139) (kX7_beginsOne 10 rfl) rfl (by decide) ?_
        refine X_ic_lt (n := 27) (tgt := 38) (kX7_beginsOne 11 rfl) rfl rfl (fun h4 => ?_) (fun h4 => ?_)
        · refine X_iconst (n := 39) (v := 0) (kX7_beginsOne 17 rfl) rfl (by decide) ?_
          exact X_zret (b := false) rfl (kX7_beginsOne 18 rfl)
        · refine X_iload_n (n := 28) 0 (kX7_beginsOne 12 rfl) rfl rfl rfl ?_
          refine X_sipush (n := 31) (v := 144) (kX7_beginsOne 13 rfl) rfl (by decide) ?_
          refine X_ic_gt (n := 34) (tgt := 38) (kX7_beginsOne 14 rfl) rfl rfl (fun h5 => ?_) (fun h5 => ?_)
          · refine X_iconst (n := 39) (v := 0) (kX7_beginsOne 17 rfl) rfl (by decide) ?_
            exact X_zret (b := false) rfl (kX7_beginsOne 18 rfl)
          · refine X_iconst (n := 35) (v := 1) (kX7_beginsOne 15 rfl) rfl (by decide) ?_
            refine X_goto (tgt := 39) (kX7_beginsOne 16 rfl) rfl ?_
            exact X_zret (b := true) rfl (kX7_beginsOne 18 rfl)
def t_X7_beginsOne (i0 : Int32) : Bool := (if i0 = (40 : Int32) then true else (if i0 = (134 : Int32) then true else (if i0 = (135 : Int32) then true else (if i0 < (139 : Int32) then false else (if (144 : Int32) < i0 then false else true)))))
theorem ft_X7_beginsOne (i0 : Int32) (S : XS) : f_X7_beginsOne i0 S = some (t_X7_beginsOne i0, S) := by
  unfold f_X7_beginsOne t_X7_beginsOne
  first | rfl | simp only [ite_p]
theorem p_X7_beginsOne {l : Launch} {g : XG} {i0 : Int32} {S : XS}  : Cl φB l g 1 mX7_beginsOne [.int i0] S (some (t_X7_beginsOne i0, S)) := ft_X7_beginsOne i0 S ▸ w_X7_beginsOne 
