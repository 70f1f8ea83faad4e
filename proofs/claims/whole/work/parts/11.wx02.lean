def f_X11_end  (a0 : Nat) (i1 : Int32) (S : XS) : Option (Bool × XS) := (if i1 < 0 then some (false, S) else (if i1 ≤ (S.1 (rf a0 0) 1) then some (true, (sI S (rf a0 0) 1 i1)) else some (false, S)))
set_option maxHeartbeats 4000000 in
set_option maxRecDepth 100000 in
theorem w_X11_end {l : Launch} {g : XG}  {a0 : Nat} {i1 : Int32} {S : XS} (hk0 : kd a0 = 11) : Cl φB l g 1 mX11_end [.ref a0, .int i1] S (f_X11_end a0 i1 S) := by
  refine Cl.of (by decide +kernel) (Nat.le_of_ble_eq_true rfl) ?_
  unfold f_X11_end
  show X _ _ _ _ _ 0 [(0, .ref a0), (1, .int i1)] [] S _
  refine X_iload_n (n := 1) 1 (kX11_end 0 rfl) rfl rfl rfl ?_
  refine X_if_lt (n := 4) (tgt := 15) (kX11_end 1 rfl) rfl rfl (fun h1 => ?_) (fun h1 => ?_)
  · refine X_iconst (n := 16) (v := 0) (kX11_end 7 rfl) rfl (by decide) ?_
    exact X_zret (b := false) rfl (kX11_end 8 rfl)
  · refine X_iload_n (n := 5) 1 (kX11_end 2 rfl) rfl rfl rfl ?_
    refine X_aload_n (n := 6) 0 (kX11_end 3 rfl) rfl rfl rfl ?_
    refine X_getR (n := 9) xf_X11 hk0 (by decide) fl_X11_12 rfl (kX11_end 4 rfl) rfl ?_
    refine X_getI (n := 12) xf_X8 (kt_11_0 hk0) (by decide) fl_X11_110 rfl (kX11_end 5 rfl) rfl ?_
    refine X_ic_le (n := 15) (tgt := 17) (kX11_end 6 rfl) rfl rfl (fun h2 => ?_) (fun h2 => ?_)
    · refine X_aload_n (n := 18) 0 (kX11_end 9 rfl) rfl rfl rfl ?_
      refine X_getR (n := 21) xf_X11 hk0 (by decide) fl_X11_12 rfl (kX11_end 10 rfl) rfl ?_
      refine X_iload_n (n := 22) 1 (kX11_end 11 rfl) rfl rfl rfl ?_
      refine X_putI (n := 25) xf_X8 (kt_11_0 hk0) (by decide) fl_X11_110 rfl rfl (Or.inl rfl) (kX11_end 12 rfl) rfl ?_
      refine X_iconst (n := 26) (v := 1) (kX11_end 13 rfl) rfl (by decide) ?_
      exact X_zret (b := true) rfl (kX11_end 14 rfl)
    · refine X_iconst (n := 16) (v := 0) (kX11_end 7 rfl) rfl (by decide) ?_
      exact X_zret (b := false) rfl (kX11_end 8 rfl)
def t_X11_end (a0 : Nat) (i1 : Int32) (S : XS) : Bool × XS := (if i1 < 0 then (false, S) else (if i1 ≤ (S.1 (rf a0 0) 1) then (true, (sI S (rf a0 0) 1 i1)) else (false, S)))
theorem ft_X11_end (a0 : Nat) (i1 : Int32) (S : XS) : f_X11_end a0 i1 S = some (t_X11_end a0 i1 S) := by
  unfold f_X11_end t_X11_end
  first | rfl | simp only [ite_u]
theorem p_X11_end {l : Launch} {g : XG} {a0 : Nat} {i1 : Int32} {S : XS} (hk0 : kd a0 = 11) : Cl φB l g 1 mX11_end [.ref a0, .int i1] S (some (t_X11_end a0 i1 S)) := ft_X11_end a0 i1 S ▸ w_X11_end hk0
def f_X11_forgetPast  (a0 : Nat) (S : XS) : Option (XS) := some (sI S a0 9 (0 : Int32))
set_option maxHeartbeats 4000000 in
set_option maxRecDepth 100000 in
theorem w_X11_forgetPast {l : Launch} {g : XG}  {a0 : Nat} {S : XS} (hk0 : kd a0 = 11) : Cl φV l g 1 mX11_forgetPast [.ref a0] S (f_X11_forgetPast a0 S) := by
  refine Cl.of (by decide +kernel) (Nat.le_of_ble_eq_true rfl) ?_
  unfold f_X11_forgetPast
  show X _ _ _ _ _ 0 [(0, .ref a0)] [] S _
  refine X_aload_n (n := 1) 0 (kX11_forgetPast 0 rfl) rfl rfl rfl ?_
  refine X_iconst (n := 2) (v := 0) (kX11_forgetPast 1 rfl) rfl (by decide) ?_
  refine X_putI (n := 5) xf_X11 hk0 (by decide) fl_X11_230 rfl rfl (Or.inl rfl) (kX11_forgetPast 2 rfl) rfl ?_
  exact X_vret rfl (kX11_forgetPast 3 rfl)
def t_X11_forgetPast (a0 : Nat) (S : XS) : XS := (sI S a0 9 (0 : Int32))
theorem ft_X11_forgetPast (a0 : Nat) (S : XS) : f_X11_forgetPast a0 S = some (t_X11_forgetPast a0 S) := by
  unfold f_X11_forgetPast t_X11_forgetPast
  first | rfl | simp only [ite_u]
theorem p_X11_forgetPast {l : Launch} {g : XG} {a0 : Nat} {S : XS} (hk0 : kd a0 = 11) : Cl φV l g 1 mX11_forgetPast [.ref a0] S (some (t_X11_forgetPast a0 S)) := ft_X11_forgetPast a0 S ▸ w_X11_forgetPast hk0
def f_X11_fault  (a0 : Nat) (S : XS) : Option (Int32 × XS) := some ((S.1 (rf a0 0) 2), S)
set_option maxHeartbeats 4000000 in
set_option maxRecDepth 100000 in
theorem w_X11_fault {l : Launch} {g : XG}  {a0 : Nat} {S : XS} (hk0 : kd a0 = 11) : Cl φI l g 1 mX11_fault [.ref a0] S (f_X11_fault a0 S) := by
  refine Cl.of (by decide +kernel) (Nat.le_of_ble_eq_true rfl) ?_
  unfold f_X11_fault
  show X _ _ _ _ _ 0 [(0, .ref a0)] [] S _
  refine X_aload_n (n := 1) 0 (kX11_fault 0 rfl) rfl rfl rfl ?_
  refine X_getR (n := 4) xf_X11 hk0 (by decide) fl_X11_12 rfl (kX11_fault 1 rfl) rfl ?_
  refine X_getI (n := 7) xf_X8 (kt_11_0 hk0) (by decide) fl_X11_122 rfl (kX11_fault 2 rfl) rfl ?_
  exact X_iret rfl (kX11_fault 3 rfl)
def t_X11_fault (a0 : Nat) (S : XS) : Int32 := (S.1 (rf a0 0) 2)
theorem ft_X11_fault (a0 : Nat) (S : XS) : f_X11_fault a0 S = some (t_X11_fault a0 S, S) := by
  unfold f_X11_fault t_X11_fault
  first | rfl | simp only [ite_p]
theorem p_X11_fault {l : Launch} {g : XG} {a0 : Nat} {S : XS} (hk0 : kd a0 = 11) : Cl φI l g 1 mX11_fault [.ref a0] S (some (t_X11_fault a0 S, S)) := ft_X11_fault a0 S ▸ w_X11_fault hk0
def f_X11_isBox  (i0 : Int32) (S : XS) : Option (Bool × XS) := (if i0 < 0 then some (false, S) else (if (3 : Int32) ≤ i0 then some (false, S) else some (true, S)))
set_option maxHeartbeats 4000000 in
set_option maxRecDepth 100000 in
theorem w_X11_isBox {l : Launch} {g : XG}  {i0 : Int32} {S : XS}  : Cl φB l g 1 mX11_isBox [.int i0] S (f_X11_isBox i0 S) := by
  refine Cl.of (by decide +kernel) (Nat.le_of_ble_eq_true rfl) ?_
  unfold f_X11_isBox
  show X _ _ _ _ _ 0 [(0, .int i0)] [] S _
  refine X_iload_n (n := 1) 0 (kX11_isBox 0 rfl) rfl rfl rfl ?_
  refine X_if_lt (n := 4) (tgt := 13) (kX11_isBox 1 rfl) rfl rfl (fun h1 => ?_) (fun h1 => ?_)
  · refine X_iconst (n := 14) (v := 0) (kX11_isBox 7 rfl) rfl (by decide) ?_
    exact X_zret (b := false) rfl (kX11_isBox 8 rfl)
  · refine X_iload_n (n := 5) 0 (kX11_isBox 2 rfl) rfl rfl rfl ?_
    refine X_iconst (n := 6) (v := 3) (kX11_isBox 3 rfl) rfl (by decide) ?_
    refine X_ic_ge (n := 9) (tgt := 13) (kX11_isBox 4 rfl) rfl rfl (fun h2 => ?_) (fun h2 => ?_)
    · refine X_iconst (n := 14) (v := 0) (kX11_isBox 7 rfl) rfl (by decide) ?_
      exact X_zret (b := false) rfl (kX11_isBox 8 rfl)
    · refine X_iconst (n := 10) (v := 1) (kX11_isBox 5 rfl) rfl (by decide) ?_
      refine X_goto (tgt := 14) (kX11_isBox 6 rfl) rfl ?_
      exact X_zret (b := true) rfl (kX11_isBox 8 rfl)
def t_X11_isBox (i0 : Int32) : Bool := (if i0 < 0 then false else (if (3 : Int32) ≤ i0 then false else true))
theorem ft_X11_isBox (i0 : Int32) (S : XS) : f_X11_isBox i0 S = some (t_X11_isBox i0, S) := by
  unfold f_X11_isBox t_X11_isBox
  first | rfl | simp only [ite_p]
theorem p_X11_isBox {l : Launch} {g : XG} {i0 : Int32} {S : XS}  : Cl φB l g 1 mX11_isBox [.int i0] S (some (t_X11_isBox i0, S)) := ft_X11_isBox i0 S ▸ w_X11_isBox 
def f_X11_canPass  (a0 : Nat) (i1 : Int32) (S : XS) : Option (Bool × XS) := (if i1 < (1 : Int32) then some (false, S) else (if (60 : Int32) < i1 then some (false, S) else (if (999 : Int32) < ((S.1 (rf a0 3) 0) + i1) then some (false, S) else some (true, S))))
set_option maxHeartbeats 4000000 in
set_option maxRecDepth 100000 in
theorem w_X11_canPass {l : Launch} {g : XG}  {a0 : Nat} {i1 : Int32} {S : XS} (hk0 : kd a0 = 11) : Cl φB l g 1 mX11_canPass [.ref a0, .int i1] S (f_X11_canPass a0 i1 S) := by
  refine Cl.of (by decide +kernel) (Nat.le_of_ble_eq_true rfl) ?_
  unfold f_X11_canPass
  show X _ _ _ _ _ 0 [(0, .ref a0), (1, .int i1)] [] S _
  refine X_iload_n (n := 1) 1 (kX11_canPass 0 rfl) rfl rfl rfl ?_
  refine X_iconst (n := 2) (v := 1) (kX11_canPass 1 rfl) rfl (by decide) ?_
  refine X_ic_lt (n := 5) (tgt := 30) (kX11_canPass 2 rfl) rfl rfl (fun h1 => ?_) (fun h1 => ?_)
  · refine X_iconst (n := 31) (v := 0) (kX11_canPass 15 rfl) rfl (by decide) ?_
    exact X_zret (b := false) rfl (kX11_canPass 16 rfl)
  · refine X_iload_n (n := 6) 1 (kX11_canPass 3 rfl) rfl rfl rfl ?_
    refine X_bipush (n := 8) (v := 60) (kX11_canPass 4 rfl) rfl (by decide) ?_
    refine X_ic_gt (n := 11) (tgt := 30) (kX11_canPass 5 rfl) rfl rfl (fun h2 => ?_) (fun h2 => ?_)
    · refine X_iconst (n := 31) (v := 0) (kX11_canPass 15 rfl) rfl (by decide) ?_
      exact X_zret (b := false) rfl (kX11_canPass 16 rfl)
    · refine X_aload_n (n := 12) 0 (kX11_canPass 6 rfl) rfl rfl rfl ?_
      refine X_getR (n := 15) xf_X11 hk0 (by decide) fl_X11_35 rfl (kX11_canPass 7 rfl) rfl ?_
      refine X_getI (n := 18) xf_X10 (kt_11_3 hk0) (by decide) fl_X11_227 rfl (kX11_canPass 8 rfl) rfl ?_
      refine X_iload_n (n := 19) 1 (kX11_canPass 9 rfl) rfl rfl rfl ?_
      refine X_iadd (n := 20) (kX11_canPass 10 rfl) rfl ?_
      refine X_sipush (n := 23) (v := 999) (kX11_canPass 11 rfl) rfl (by decide) ?_
      refine X_ic_gt (n := 26) (tgt := 30) (kX11_canPass 12 rfl) rfl rfl (fun h3 => ?_) (fun h3 => ?_)
      · refine X_iconst (n := 31) (v := 0) (kX11_canPass 15 rfl) rfl (by decide) ?_
        exact X_zret (b := false) rfl (kX11_canPass 16 rfl)
      · refine X_iconst (n := 27) (v := 1) (kX11_canPass 13 rfl) rfl (by decide) ?_
        refine X_goto (tgt := 31) (kX11_canPass 14 rfl) rfl ?_
        exact X_zret (b := true) rfl (kX11_canPass 16 rfl)
def t_X11_canPass (a0 : Nat) (i1 : Int32) (S : XS) : Bool := (if i1 < (1 : Int32) then false else (if (60 : Int32) < i1 then false else (if (999 : Int32) < ((S.1 (rf a0 3) 0) + i1) then false else true)))
theorem ft_X11_canPass (a0 : Nat) (i1 : Int32) (S : XS) : f_X11_canPass a0 i1 S = some (t_X11_canPass a0 i1 S, S) := by
  unfold f_X11_canPass t_X11_canPass
  first | rfl | simp only [ite_p]
theorem p_X11_canPass {l : Launch} {g : XG} {a0 : Nat} {i1 : Int32} {S : XS} (hk0 : kd a0 = 11) : Cl φB l g 1 mX11_canPass [.ref a0, .int i1] S (some (t_X11_canPass a0 i1 S, S)) := ft_X11_canPass a0 i1 S ▸ w_X11_canPass hk0
def f_X11_weather  (a0 : Nat) (i1 : Int32) (S : XS) : Option (Int32 × XS) := (if (S.1 (rf a0 17) 0) = 0 then some ((-1 : Int32), S) else (if i1 = 0 then some ((S.1 (rf a0 17) 1), S) else (if i1 = 1 then some ((S.1 (rf a0 17) 2), S) else (if i1 = 2 then some ((S.1 (rf a0 17) 3), S) else some ((-1 : Int32), S)))))
set_option maxHeartbeats 4000000 in
set_option maxRecDepth 100000 in
theorem w_X11_weather {l : Launch} {g : XG}  {a0 : Nat} {i1 : Int32} {S : XS} (hk0 : kd a0 = 11) : Cl φI l g 1 mX11_weather [.ref a0, .int i1] S (f_X11_weather a0 i1 S) := by
  refine Cl.of (by decide +kernel) (Nat.le_of_ble_eq_true rfl) ?_
  unfold f_X11_weather
  show X _ _ _ _ _ 0 [(0, .ref a0), (1, .int i1)] [] S _
  refine X_aload_n (n := 1) 0 (kX11_weather 0 rfl) rfl rfl rfl ?_
  refine X_getR (n := 4) xf_X11 hk0 (by decide) fl_X11_103 rfl (kX11_weather 1 rfl) rfl ?_
  refine X_getI (n := 7) xf_X1 (kt_11_17 hk0) (by decide) fl_X11_320 rfl (kX11_weather 2 rfl) rfl ?_
  refine X_if_ne (n := 10) (tgt := 12) (kX11_weather 3 rfl) rfl rfl (fun h1 => ?_) (fun h1 => ?_)
  · refine X_iconst (n := 11) (v := (-1)) (kX11_weather 4 rfl) rfl (by decide) ?_
    exact X_iret rfl (kX11_weather 5 rfl)
  · refine X_iload_n (n := 13) 1 (kX11_weather 6 rfl) rfl rfl rfl ?_
    refine X_ite (fun hc0 => ?_) (fun nc0 => ?_)
    · refine X_tabIn (tgt := 40) 0 (xI_of 0 hc0 (by decide)) (kX11_weather 7 rfl) (by decide) (by decide) rfl rfl ?_
      refine X_aload_n (n := 41) 0 (kX11_weather 8 rfl) rfl rfl rfl ?_
      refine X_getR (n := 44) xf_X11 hk0 (by decide) fl_X11_103 rfl (kX11_weather 9 rfl) rfl ?_
      refine X_getI (n := 47) xf_X1 (kt_11_17 hk0) (by decide) fl_X11_323 rfl (kX11_weather 10 rfl) rfl ?_
      exact X_iret rfl (kX11_weather 11 rfl)
    · refine X_ite (fun hc1 => ?_) (fun nc1 => ?_)
      · refine X_tabIn (tgt := 48) 1 (xI_of 1 hc1 (by decide)) (kX11_weather 7 rfl) (by decide) (by decide) rfl rfl ?_
        refine X_aload_n (n := 49) 0 (kX11_weather 12 rfl) rfl rfl rfl ?_
        refine X_getR (n := 52) xf_X11 hk0 (by decide) fl_X11_103 rfl (kX11_weather 13 rfl) rfl ?_
        refine X_getI (n := 55) xf_X1 (kt_11_17 hk0) (by decide) fl_X11_326 rfl (kX11_weather 14 rfl) rfl ?_
        exact X_iret rfl (kX11_weather 15 rfl)
      · refine X_ite (fun hc2 => ?_) (fun nc2 => ?_)
        · refine X_tabIn (tgt := 56) 2 (xI_of 2 hc2 (by decide)) (kX11_weather 7 rfl) (by decide) (by decide) rfl rfl ?_
          refine X_aload_n (n := 57) 0 (kX11_weather 16 rfl) rfl rfl rfl ?_
          refine X_getR (n := 60) xf_X11 hk0 (by decide) fl_X11_103 rfl (kX11_weather 17 rfl) rfl ?_
          refine X_getI (n := 63) xf_X1 (kt_11_17 hk0) (by decide) fl_X11_329 rfl (kX11_weather 18 rfl) rfl ?_
          exact X_iret rfl (kX11_weather 19 rfl)
        · have e0 := xI_ne (z := 0) 0 nc0 (by decide)
          have e1 := xI_ne (z := 1) 1 nc1 (by decide)
          have e2 := xI_ne (z := 2) 2 nc2 (by decide)
          refine X_tabOut (tgt := 64) (by omega) (kX11_weather 7 rfl) rfl ?_
          refine X_iconst (n := 65) (v := (-1)) (kX11_weather 20 rfl) rfl (by decide) ?_
          exact X_iret rfl (kX11_weather 21 rfl)
def t_X11_weather (a0 : Nat) (i1 : Int32) (S : XS) : Int32 := (if (S.1 (rf a0 17) 0) = 0 then (-1 : Int32) else (if i1 = 0 then (S.1 (rf a0 17) 1) else (if i1 = 1 then (S.1 (rf a0 17) 2) else (if i1 = 2 then (S.1 (rf a0 17) 3) else (-1 : Int32)))))
theorem ft_X11_weather (a0 : Nat) (i1 : Int32) (S : XS) : f_X11_weather a0 i1 S = some (t_X11_weather a0 i1 S, S) := by
  unfold f_X11_weather t_X11_weather
  first | rfl | simp only [ite_p]
theorem p_X11_weather {l : Launch} {g : XG} {a0 : Nat} {i1 : Int32} {S : XS} (hk0 : kd a0 = 11) : Cl φI l g 1 mX11_weather [.ref a0, .int i1] S (some (t_X11_weather a0 i1 S, S)) := ft_X11_weather a0 i1 S ▸ w_X11_weather hk0
def f_X11_isImage  (a0 : Nat) (i1 : Int32) (S : XS) : Option (Bool × XS) := (if i1 < 0 then some (false, S) else (if (2 : Int32) ≤ i1 then some (false, S) else (if (2 : Int32) ≤ i1 then some (false, S) else (if (2 : Int32) ≤ i1 then some (false, S) else (if i1 < 0 ∨ ln (rf a0 10) ≤ i1.toNatClampNeg then none else (if i1 < 0 ∨ ln (rf a0 11) ≤ i1.toNatClampNeg then none else (if i1 < 0 ∨ ln (rf a0 12) ≤ i1.toNatClampNeg then none else some (true, S))))))))
set_option maxHeartbeats 4000000 in
set_option maxRecDepth 100000 in
theorem w_X11_isImage {l : Launch} {g : XG}  {a0 : Nat} {i1 : Int32} {S : XS} (hk0 : kd a0 = 11) : Cl φB l g 1 mX11_isImage [.ref a0, .int i1] S (f_X11_isImage a0 i1 S) := by
  refine Cl.of (by decide +kernel) (Nat.le_of_ble_eq_true rfl) ?_
  unfold f_X11_isImage
  show X _ _ _ _ _ 0 [(0, .ref a0), (1, .int i1)] [] S _
  refine X_iload_n (n := 1) 1 (kX11_isImage 0 rfl) rfl rfl rfl ?_
  refine X_if_lt (n := 4) (tgt := 62) (kX11_isImage 1 rfl) rfl rfl (fun h1 => ?_) (fun h1 => ?_)
  · refine X_iconst (n := 63) (v := 0) (kX11_isImage 34 rfl) rfl (by decide) ?_
    exact X_zret (b := false) rfl (kX11_isImage 35 rfl)
  · refine X_iload_n (n := 5) 1 (kX11_isImage 2 rfl) rfl rfl rfl ?_
    refine X_aload_n (n := 6) 0 (kX11_isImage 3 rfl) rfl rfl rfl ?_
    refine X_getR (n := 9) xf_X11 hk0 (by decide) fl_X11_64 rfl (kX11_isImage 4 rfl) rfl ?_
    refine X_alenH (n := 10) (v := 2) (kt_11_10 hk0) (kX11_isImage 5 rfl) rfl (by rw [lt_11_10 hk0]; rfl) ?_
    refine X_ic_ge (n := 13) (tgt := 62) (kX11_isImage 6 rfl) rfl rfl (fun h2 => ?_) (fun h2 => ?_)
    · refine X_iconst (n := 63) (v := 0) (kX11_isImage 34 rfl) rfl (by decide) ?_
      exact X_zret (b := false) rfl (kX11_isImage 35 rfl)
    · refine X_iload_n (n := 14) 1 (kX11_isImage 7 rfl) rfl rfl rfl ?_
      refine X_aload_n (n := 15) 0 (kX11_isImage 8 rfl) rfl rfl rfl ?_
      refine X_getR (n := 18) xf_X11 hk0 (by decide) fl_X11_68 rfl (kX11_isImage 9 rfl) rfl ?_
      refine X_alenW (n := 19) (v := 2) (kt_11_11 hk0) (kX11_isImage 10 rfl) rfl (by rw [lt_11_11 hk0]; rfl) ?_
      refine X_ic_ge (n := 22) (tgt := 62) (kX11_isImage 11 rfl) rfl rfl (fun h3 => ?_) (fun h3 => ?_)
      · refine X_iconst (n := 63) (v := 0) (kX11_isImage 34 rfl) rfl (by decide) ?_
        exact X_zret (b := false) rfl (kX11_isImage 35 rfl)
      · refine X_iload_n (n := 23) 1 (kX11_isImage 12 rfl) rfl rfl rfl ?_
        refine X_aload_n (n := 24) 0 (kX11_isImage 13 rfl) rfl rfl rfl ?_
        refine X_getR (n := 27) xf_X11 hk0 (by decide) fl_X11_71 rfl (kX11_isImage 14 rfl) rfl ?_
        refine X_alenS (n := 28) (v := 2) (kt_11_12 hk0) (kX11_isImage 15 rfl) rfl (by rw [lt_11_12 hk0]; rfl) ?_
        refine X_ic_ge (n := 31) (tgt := 62) (kX11_isImage 16 rfl) rfl rfl (fun h4 => ?_) (fun h4 => ?_)
        · refine X_iconst (n := 63) (v := 0) (kX11_isImage 34 rfl) rfl (by decide) ?_
          exact X_zret (b := false) rfl (kX11_isImage 35 rfl)
        · refine X_aload_n (n := 32) 0 (kX11_isImage 17 rfl) rfl rfl rfl ?_
          refine X_getR (n := 35) xf_X11 hk0 (by decide) fl_X11_64 rfl (kX11_isImage 18 rfl) rfl ?_
          refine X_iload_n (n := 36) 1 (kX11_isImage 19 rfl) rfl rfl rfl ?_
          refine X_aaldH (n := 37) (kt_11_10 hk0) (kX11_isImage 20 rfl) rfl (fun h5 => ?_)
          refine X_ifnull (n := 40) (kX11_isImage 21 rfl) rfl ?_
          refine X_aload_n (n := 41) 0 (kX11_isImage 22 rfl) rfl rfl rfl ?_
          refine X_getR (n := 44) xf_X11 hk0 (by decide) fl_X11_68 rfl (kX11_isImage 23 rfl) rfl ?_
          refine X_iload_n (n := 45) 1 (kX11_isImage 24 rfl) rfl rfl rfl ?_
          refine X_aaldW (n := 46) (kt_11_11 hk0) (kX11_isImage 25 rfl) rfl (fun h6 => ?_)
          refine X_ifnull (n := 49) (kX11_isImage 26 rfl) rfl ?_
          refine X_aload_n (n := 50) 0 (kX11_isImage 27 rfl) rfl rfl rfl ?_
          refine X_getR (n := 53) xf_X11 hk0 (by decide) fl_X11_71 rfl (kX11_isImage 28 rfl) rfl ?_
          refine X_iload_n (n := 54) 1 (kX11_isImage 29 rfl) rfl rfl rfl ?_
          refine X_aaldS (n := 55) (kt_11_12 hk0) (kX11_isImage 30 rfl) rfl (fun h7 => ?_)
          refine X_ifnull (n := 58) (kX11_isImage 31 rfl) rfl ?_
          refine X_iconst (n := 59) (v := 1) (kX11_isImage 32 rfl) rfl (by decide) ?_
          refine X_goto (tgt := 63) (kX11_isImage 33 rfl) rfl ?_
          exact X_zret (b := true) rfl (kX11_isImage 35 rfl)
def f_X0_readTold_L21  (i3 : Int32) (a0 : Nat) (a1 : Nat) (i2 : Int32) : Nat → Int32 → XS → Option (XS)
  | 0, _, _ => none
  | n + 1, i4, S => (if i2 ≤ i4 then some S else f_X0_readTold_L21 i3 a0 a1 i2 n (i4 + 1) (pat S (rf a0 4) ((i3 * (6 : Int32)) + i4) (gat S (rf a1 0) ((i3 * i2) + i4))))
def f_X0_readTold_L10  (a0 : Nat) (a1 : Nat) (i2 : Int32) : Nat → Int32 → XS → Option (XS)
  | 0, _, _ => none
  | n + 1, i3, S => (if (S.1 a0 3) ≤ i3 then some S else ((f_X0_readTold_L21 i3 a0 a1 i2 1000000 (0 : Int32) S).bind (fun S3 => f_X0_readTold_L10 a0 a1 i2 n (i3 + 1) S3)))
def f_X0_readTold  (a0 : Nat) (a1 : Nat) (i2 : Int32) (S : XS) : Option (XS) := ((f_X0_readTold_L10 a0 a1 i2 1000000 (0 : Int32) (filI S (rf a0 4) (0 : Int32))).bind (fun S4 => some S4))
set_option maxHeartbeats 4000000 in
set_option maxRecDepth 100000 in
theorem w_X0_readTold_L21 {l : Launch} {g : XG} {G : (XS) → Option (XS)}  {i3 : Int32} {a0 : Nat} {a1 : Nat} {i2 : Int32} (hk0 : kd a0 = 0) (hk1 : kd a1 = 8) (kE : ∀ (S1 : XS), X φV l g 2 mX0_readTold 60 [(3, .int i3), (0, .ref a0), (1, .ref a1), (2, .int i2)] [] S1 (G S1)) : ∀ (n : Nat) (i4 : Int32) (S : XS), X φV l g 2 mX0_readTold 21 [(4, .int i4), (3, .int i3), (0, .ref a0), (1, .ref a1), (2, .int i2)] [] S ((f_X0_readTold_L21 i3 a0 a1 i2 n i4 S).bind G) := by
  intro n
  induction n with
  | zero => intro i4 S; exact X_none
  | succ n ih =>
  · intro i4 S
    rw [f_X0_readTold_L21]
    refine X_iload (n := 23) 0 (kX0_readTold 12 rfl) rfl rfl ?_
    refine X_iload_n (n := 24) 4 (kX0_readTold 13 rfl) rfl rfl rfl ?_
    refine X_itebind ?_
    refine X_ic_ge (n := 27) (tgt := 60) (kX0_readTold 14 rfl) rfl rfl (fun h2 => ?_) (fun h2 => ?_)
    · exact X_L [1, 2, 3, 4] rfl (kE S)
    · refine X_aload_n (n := 28) 2 (kX0_readTold 15 rfl) rfl rfl rfl ?_
      refine X_getR (n := 31) xf_X0 hk0 (by decide) fl_X0_15 rfl (kX0_readTold 16 rfl) rfl ?_
      refine X_iload_n (n := 32) 1 (kX0_readTold 17 rfl) rfl rfl rfl ?_
      refine X_bipush (n := 34) (v := 6) (kX0_readTold 18 rfl) rfl (by decide) ?_
      refine X_imul (n := 35) (kX0_readTold 19 rfl) rfl ?_
      refine X_iload (n := 37) 0 (kX0_readTold 20 rfl) rfl rfl ?_
      refine X_iadd (n := 38) (kX0_readTold 21 rfl) rfl ?_
      refine X_aload_n (n := 39) 3 (kX0_readTold 22 rfl) rfl rfl rfl ?_
      refine X_getR (n := 42) xf_X8 hk1 (by decide) fl_X0_68 rfl (kX0_readTold 23 rfl) rfl ?_
      refine X_iload_n (n := 43) 1 (kX0_readTold 24 rfl) rfl rfl rfl ?_
      refine X_iload_n (n := 44) 4 (kX0_readTold 25 rfl) rfl rfl rfl ?_
      refine X_imul (n := 45) (kX0_readTold 26 rfl) rfl ?_
      refine X_iload (n := 47) 0 (kX0_readTold 27 rfl) rfl rfl ?_
      refine X_iadd (n := 48) (kX0_readTold 28 rfl) rfl ?_
      refine X_callN1I (n := 51) (As := [.ref (rf a1 0), .int ((i3 * i2) + i4)]) (st := [.int ((i3 * (6 : Int32)) + i4), .ref (rf a0 4)]) (kX0_readTold 29 rfl) rfl (p_X11_at (kt_8_0 hk1)) (by decide) nl_X0_36 mf_X11_at rfl rfl (Nat.le_of_ble_eq_true rfl) ?_
      refine X_callN1V (n := 54) (As := [.ref (rf a0 4), .int ((i3 * (6 : Int32)) + i4), .int (gat S (rf a1 0) ((i3 * i2) + i4))]) (st := []) (kX0_readTold 30 rfl) rfl (p_X11_put (kt_0_4 hk0)) (by decide) nl_X0_73 mf_X11_put rfl rfl (Nat.le_of_ble_eq_true rfl) ?_
      refine X_iinc (n := 57) 0 (v := (i4 + 1)) (L1 := [(4, .int (i4 + 1)), (3, .int i3), (0, .ref a0), (1, .ref a1), (2, .int i2)]) (kX0_readTold 31 rfl) rfl rfl rfl (Nat.le_of_ble_eq_true rfl) rfl ?_
      refine X_goto (tgt := 21) (kX0_readTold 32 rfl) rfl ?_
      exact X_L [0, 1, 2, 3, 4] rfl (ih (i4 + 1) (pat S (rf a0 4) ((i3 * (6 : Int32)) + i4) (gat S (rf a1 0) ((i3 * i2) + i4))))
set_option maxHeartbeats 4000000 in
set_option maxRecDepth 100000 in
theorem w_X0_readTold_L10 {l : Launch} {g : XG} {G : (XS) → Option (XS)}  {a0 : Nat} {a1 : Nat} {i2 : Int32} (hk0 : kd a0 = 0) (hk1 : kd a1 = 8) (kE : ∀ (S1 : XS), X φV l g 2 mX0_readTold 66 [] [] S1 (G S1)) : ∀ (n : Nat) (i3 : Int32) (S : XS), X φV l g 2 mX0_readTold 10 [(3, .int i3), (0, .ref a0), (1, .ref a1), (2, .int i2)] [] S ((f_X0_readTold_L10 a0 a1 i2 n i3 S).bind G) := by
  intro n
  induction n with
  | zero => intro i3 S; exact X_none
  | succ n ih =>
  · intro i3 S
    rw [f_X0_readTold_L10]
    refine X_iload_n (n := 11) 0 (kX0_readTold 6 rfl) rfl rfl rfl ?_
    refine X_aload_n (n := 12) 1 (kX0_readTold 7 rfl) rfl rfl rfl ?_
    refine X_getI (n := 15) xf_X0 hk0 (by decide) fl_X0_40 rfl (kX0_readTold 8 rfl) rfl ?_
    refine X_itebind ?_
    refine X_ic_ge (n := 18) (tgt := 66) (kX0_readTold 9 rfl) rfl rfl (fun h1 => ?_) (fun h1 => ?_)
    · exact X_L [] rfl (kE S)
    · refine X_iconst (n := 19) (v := 0) (kX0_readTold 10 rfl) rfl (by decide) ?_
      refine X_istore (n := 21) (L1 := [(4, .int 0), (3, .int i3), (0, .ref a0), (1, .ref a1), (2, .int i2)]) (kX0_readTold 11 rfl) rfl (Nat.le_of_ble_eq_true rfl) rfl ?_
      refine X_assoc ?_
      refine X_L [0, 1, 2, 3, 4] rfl (w_X0_readTold_L21 hk0 hk1 (fun S3 => ?_) 1000000 (0 : Int32) S)
      try dsimp only
      refine X_iinc (n := 63) 0 (v := (i3 + 1)) (L1 := [(3, .int (i3 + 1)), (0, .ref a0), (1, .ref a1), (2, .int i2)]) (kX0_readTold 33 rfl) rfl rfl rfl (Nat.le_of_ble_eq_true rfl) rfl ?_
      refine X_goto (tgt := 10) (kX0_readTold 34 rfl) rfl ?_
      exact X_L [0, 1, 2, 3] rfl (ih (i3 + 1) S3)
set_option maxHeartbeats 4000000 in
set_option maxRecDepth 100000 in
theorem w_X0_readTold {l : Launch} {g : XG}  {a0 : Nat} {a1 : Nat} {i2 : Int32} {S : XS} (hk0 : kd a0 = 0) (hk1 : kd a1 = 8) : Cl φV l g 2 mX0_readTold [.ref a0, .ref a1, .int i2] S (f_X0_readTold a0 a1 i2 S) := by
  refine Cl.of (by decide +kernel) (Nat.le_of_ble_eq_true rfl) ?_
  unfold f_X0_readTold
  show X _ _ _ _ _ 0 [(0, .ref a0), (1, .ref a1), (2, .int i2)] [] S _
  refine X_aload_n (n := 1) 0 (kX0_readTold 0 rfl) rfl rfl rfl ?_
  refine X_getR (n := 4) xf_X0 hk0 (by decide) fl_X0_15 rfl (kX0_readTold 1 rfl) rfl ?_
  refine X_iconst (n := 5) (v := 0) (kX0_readTold 2 rfl) rfl (by decide) ?_
  refine X_callS1V (n := 8) (As := [.ref (rf a0 4), .int (0 : Int32)]) (st := []) (kX0_readTold 3 rfl) rfl (p_J7_fill_53178 (kt_0_4 hk0)) (by decide) ml_X0_62 mf_J7_fill_53178 rfl rfl (Nat.le_of_ble_eq_true rfl) ?_
  refine X_iconst (n := 9) (v := 0) (kX0_readTold 4 rfl) rfl (by decide) ?_
  refine X_istore_n (n := 10) (L1 := [(3, .int 0), (0, .ref a0), (1, .ref a1), (2, .int i2)]) (kX0_readTold 5 rfl) rfl rfl (Nat.le_of_ble_eq_true rfl) rfl ?_
  refine X_L [0, 1, 2, 3] rfl (w_X0_readTold_L10 hk0 hk1 (fun S4 => ?_) 1000000 (0 : Int32) (filI S (rf a0 4) (0 : Int32)))
  try dsimp only
  exact X_vret rfl (kX0_readTold 35 rfl)
