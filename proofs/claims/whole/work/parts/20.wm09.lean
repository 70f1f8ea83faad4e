def f_X12_drowned_L27  (i1 : Int32) (a0 : Nat) : Nat → Int32 → Int32 → XS → Option ((Int32 × XS) ⊕ (Unit))
  | 0, _, _, _ => none
  | n + 1, i2, i3, S => (if i1 ≤ i3 then some (.inr ()) else (if i3 < 0 ∨ ln (rf a0 1) ≤ i3.toNatClampNeg then none else (if (S.1 (rf a0 14) 193) ≤ (S.1 (rf a0 1) i3.toNatClampNeg) then some (.inl ((-2 : Int32), S)) else (if i3 < 0 ∨ ln (rf a0 1) ≤ i3.toNatClampNeg then none else (if (t_X12_has i2 (S.1 (rf a0 1) i3.toNatClampNeg)) = true then some (.inl ((-2 : Int32), S)) else (if i3 < 0 ∨ ln (rf a0 1) ≤ i3.toNatClampNeg then none else f_X12_drowned_L27 i1 a0 n (i2 ||| (shl32 (1 : Int32) (S.1 (rf a0 1) i3.toNatClampNeg))) (i3 + 1) S))))))
def f_X12_drowned_L91  (i1 : Int32) (a0 : Nat) : Nat → Int32 → Int32 → XS → Option (Int32 × XS)
  | 0, _, _, _ => none
  | n + 1, i3, i4, S => (if i1 ≤ i4 then some (i3, S) else ((if i3 = (-1 : Int32) then (if i4 < 0 ∨ ln (rf a0 1) ≤ i4.toNatClampNeg then none else ((f_X12_isDrowned a0 (S.1 (rf a0 1) i4.toNatClampNeg) i4 S).bind (fun q => match q with | (r15, S16) => (if r15 = true then some (i4, S16) else some (i3, S16))))) else some (i3, S)).bind (fun q => match q with | (x10, S11) => (if i4 < 0 ∨ ln (rf a0 1) ≤ i4.toNatClampNeg then none else ((f_X12_open a0 (S11.1 (rf a0 1) i4.toNatClampNeg) i4 S11).bind (fun S12 => f_X12_drowned_L91 i1 a0 n x10 (i4 + 1) S12))))))
def f_X12_drowned_L143  (i3 : Int32) (i1 : Int32) (a0 : Nat) : Nat → Int32 → XS → Option (XS)
  | 0, _, _ => none
  | n + 1, i4, S => (if (6 : Int32) ≤ i4 then some S else (if (((6 : Int32) * i1) + i4) < 0 ∨ ln (rf a0 24) ≤ (((6 : Int32) * i1) + i4).toNatClampNeg then none else (if i4 < 0 ∨ ln (rf a0 32) ≤ i4.toNatClampNeg then none else f_X12_drowned_L143 i3 i1 a0 n (i4 + 1) (sI S (rf a0 32) i4.toNatClampNeg (S.1 (rf a0 24) (((6 : Int32) * i1) + i4).toNatClampNeg)))))
def f_X12_drowned  (a0 : Nat) (S : XS) : Option (Int32 × XS) := (if (t_X12_isIn ((t_X12_take a0 (sI S a0 0 (0 : Int32))).1) (1 : Int32) (8 : Int32)) = true then ((f_X12_drowned_L27 ((t_X12_take a0 (sI S a0 0 (0 : Int32))).1) a0 1000000 (0 : Int32) (0 : Int32) ((t_X12_take a0 (sI S a0 0 (0 : Int32))).2)).bind (fun q => match q with | .inl r => some r | .inr _ => ((f_X12_startOpening a0 ((t_X12_take a0 (sI S a0 0 (0 : Int32))).2)).bind (fun S8 => ((f_X12_drowned_L91 ((t_X12_take a0 (sI S a0 0 (0 : Int32))).1) a0 1000000 (-1 : Int32) (0 : Int32) S8).bind (fun q => match q with | (e19, S20) => ((f_X12_drowned_L143 e19 ((t_X12_take a0 (sI S a0 0 (0 : Int32))).1) a0 1000000 (0 : Int32) S20).bind (fun S24 => some (e19, (sI S24 a0 33 (1 : Int32))))))))))) else some ((-2 : Int32), (t_X12_take a0 (sI S a0 0 (0 : Int32))).2))
set_option maxHeartbeats 4000000 in
set_option maxRecDepth 100000 in
theorem w_X12_drowned_L27 {l : Launch} {g : XG} {G : ((Int32 × XS) ⊕ (Unit)) → Option (Int32 × XS)}  {i1 : Int32} {a0 : Nat} (hk0 : kd a0 = 12) {S : XS} (kE : X φI l g 3 mX12_drowned 82 [(1, .int i1), (0, .ref a0)] [] S (G (.inr ()))) (kR : ∀ r, G (.inl r) = some r) : ∀ (n : Nat) (i2 : Int32) (i3 : Int32), X φI l g 3 mX12_drowned 27 [(3, .int i3), (2, .int i2), (1, .int i1), (0, .ref a0)] [] S ((f_X12_drowned_L27 i1 a0 n i2 i3 S).bind G) := by
  intro n
  induction n with
  | zero => intro i2 i3; exact X_none
  | succ n ih =>
  · intro i2 i3
    rw [f_X12_drowned_L27]
    refine X_iload_n (n := 28) 0 (kX12_drowned 17 rfl) rfl rfl rfl ?_
    refine X_iload_n (n := 29) 2 (kX12_drowned 18 rfl) rfl rfl rfl ?_
    refine X_itebind ?_
    refine X_ic_ge (n := 32) (tgt := 82) (kX12_drowned 19 rfl) rfl rfl (fun h2 => ?_) (fun h2 => ?_)
    · exact X_L [2, 3] rfl kE
    · refine X_aload_n (n := 33) 3 (kX12_drowned 20 rfl) rfl rfl rfl ?_
      refine X_getR (n := 36) xf_X12 hk0 (by decide) fl_X12_7 rfl (kX12_drowned 21 rfl) rfl ?_
      refine X_iload_n (n := 37) 0 (kX12_drowned 22 rfl) rfl rfl rfl ?_
      refine X_itebind ?_
      refine X_iald (n := 38) (kt_12_1 hk0) (kX12_drowned 23 rfl) rfl (fun h7 => ?_)
      refine X_aload_n (n := 39) 3 (kX12_drowned 24 rfl) rfl rfl rfl ?_
      refine X_getR (n := 42) xf_X12 hk0 (by decide) fl_X12_13 rfl (kX12_drowned 25 rfl) rfl ?_
      refine X_sipush (n := 45) (v := 193) (kX12_drowned 26 rfl) rfl (by decide) ?_
      refine X_iald' (n := 46) (kt_12_14 hk0) (kX12_drowned 27 rfl) rfl (by rw [lt_12_14 hk0]; decide) ?_
      refine X_itebind ?_
      refine X_ic_ge (n := 49) (tgt := 62) (kX12_drowned 28 rfl) rfl rfl (fun h3 => ?_) (fun h3 => ?_)
      · refine X_bipush (n := 64) (v := (-2)) (kX12_drowned 36 rfl) rfl (by decide) ?_
        exact X_req (kR _) (X_iret rfl (kX12_drowned 37 rfl))
      · refine X_iload_n (n := 50) 1 (kX12_drowned 29 rfl) rfl rfl rfl ?_
        refine X_aload_n (n := 51) 3 (kX12_drowned 30 rfl) rfl rfl rfl ?_
        refine X_getR (n := 54) xf_X12 hk0 (by decide) fl_X12_7 rfl (kX12_drowned 31 rfl) rfl ?_
        refine X_iload_n (n := 55) 0 (kX12_drowned 32 rfl) rfl rfl rfl ?_
        refine X_itebind ?_
        refine X_iald (n := 56) (kt_12_1 hk0) (kX12_drowned 33 rfl) rfl (fun h6 => ?_)
        refine X_callS1B (n := 59) (As := [.int i2, .int (S.1 (rf a0 1) i3.toNatClampNeg)]) (st := []) (kX12_drowned 34 rfl) rfl p_X12_has (by decide) ml_X12_208 mf_X12_has rfl rfl (Nat.le_of_ble_eq_true rfl) ?_
        refine X_itebind ?_
        refine X_bz (n := 62) (tgt := 65) (kX12_drowned 35 rfl) rfl rfl (fun h4 => ?_) (fun h4 => ?_)
        · refine X_bipush (n := 64) (v := (-2)) (kX12_drowned 36 rfl) rfl (by decide) ?_
          exact X_req (kR _) (X_iret rfl (kX12_drowned 37 rfl))
        · refine X_iload_n (n := 66) 1 (kX12_drowned 38 rfl) rfl rfl rfl ?_
          refine X_iconst (n := 67) (v := 1) (kX12_drowned 39 rfl) rfl (by decide) ?_
          refine X_aload_n (n := 68) 3 (kX12_drowned 40 rfl) rfl rfl rfl ?_
          refine X_getR (n := 71) xf_X12 hk0 (by decide) fl_X12_7 rfl (kX12_drowned 41 rfl) rfl ?_
          refine X_iload_n (n := 72) 0 (kX12_drowned 42 rfl) rfl rfl rfl ?_
          refine X_itebind ?_
          refine X_iald (n := 73) (kt_12_1 hk0) (kX12_drowned 43 rfl) rfl (fun h5 => ?_)
          refine X_ishl (n := 74) (kX12_drowned 44 rfl) rfl ?_
          refine X_ior (n := 75) (kX12_drowned 45 rfl) rfl ?_
          refine X_istore_n (n := 76) (L1 := [(2, .int (i2 ||| (shl32 (1 : Int32) (S.1 (rf a0 1) i3.toNatClampNeg)))), (3, .int i3), (1, .int i1), (0, .ref a0)]) (kX12_drowned 46 rfl) rfl rfl (Nat.le_of_ble_eq_true rfl) rfl ?_
          refine X_iinc (n := 79) 1 (v := (i3 + 1)) (L1 := [(3, .int (i3 + 1)), (2, .int (i2 ||| (shl32 (1 : Int32) (S.1 (rf a0 1) i3.toNatClampNeg)))), (1, .int i1), (0, .ref a0)]) (kX12_drowned 47 rfl) rfl rfl rfl (Nat.le_of_ble_eq_true rfl) rfl ?_
          refine X_goto (tgt := 27) (kX12_drowned 48 rfl) rfl ?_
          exact X_L [0, 1, 2, 3] rfl (ih (i2 ||| (shl32 (1 : Int32) (S.1 (rf a0 1) i3.toNatClampNeg))) (i3 + 1))
set_option maxHeartbeats 4000000 in
set_option maxRecDepth 100000 in
theorem w_X12_drowned_L91 {l : Launch} {g : XG} {G : (Int32 × XS) → Option (Int32 × XS)}  {i1 : Int32} {a0 : Nat} (hk0 : kd a0 = 12) (kE : ∀ (e3 : Int32) (S1 : XS), X φI l g 3 mX12_drowned 140 [(3, .int e3), (1, .int i1), (0, .ref a0)] [] S1 (G (e3, S1))) : ∀ (n : Nat) (i3 : Int32) (i4 : Int32) (S : XS), X φI l g 3 mX12_drowned 91 [(4, .int i4), (3, .int i3), (1, .int i1), (0, .ref a0)] [] S ((f_X12_drowned_L91 i1 a0 n i3 i4 S).bind G) := by
  intro n
  induction n with
  | zero => intro i3 i4 S; exact X_none
  | succ n ih =>
  · intro i3 i4 S
    rw [f_X12_drowned_L91]
    refine X_iload (n := 93) 0 (kX12_drowned 55 rfl) rfl rfl ?_
    refine X_iload_n (n := 94) 2 (kX12_drowned 56 rfl) rfl rfl rfl ?_
    refine X_itebind ?_
    refine X_ic_ge (n := 97) (tgt := 140) (kX12_drowned 57 rfl) rfl rfl (fun h9 => ?_) (fun h9 => ?_)
    · exact X_L [1, 2, 3] rfl (kE i3 S)
    · refine X_iload_n (n := 98) 1 (kX12_drowned 58 rfl) rfl rfl rfl ?_
      refine X_iconst (n := 99) (v := (-1)) (kX12_drowned 59 rfl) rfl (by decide) ?_
      refine X_assoc ?_
      refine X_join 121 (fun q => match q with | (x10, S11) => [(4, .int i4), (1, .int i1), (0, .ref a0), (3, .int x10)]) (fun q => match q with | (x10, S11) => []) (fun q => match q with | (x10, S11) => S11) (fun q => ?_) (fun kJ => ?_)
      · obtain ⟨x10, S11⟩ := q
        dsimp only
        refine X_aload_n (n := 122) 2 (kX12_drowned 71 rfl) rfl rfl rfl ?_
        refine X_aload_n (n := 123) 2 (kX12_drowned 72 rfl) rfl rfl rfl ?_
        refine X_getR (n := 126) xf_X12 hk0 (by decide) fl_X12_7 rfl (kX12_drowned 73 rfl) rfl ?_
        refine X_iload (n := 128) 0 (kX12_drowned 74 rfl) rfl rfl ?_
        refine X_itebind ?_
        refine X_iald (n := 129) (kt_12_1 hk0) (kX12_drowned 75 rfl) rfl (fun h13 => ?_)
        refine X_iload (n := 131) 0 (kX12_drowned 76 rfl) rfl rfl ?_
        refine X_assoc ?_
        refine X_callVV (n := 134) (As := [.int (S11.1 (rf a0 1) i4.toNatClampNeg), .int i4]) (st := []) (kX12_drowned 77 rfl) rfl (w_X12_open hk0) (by decide) ml_X12_324 mf_X12_open rfl hk0 xf_X12 rfl (Nat.le_of_ble_eq_true rfl) (fun S12 hq => ?_)
        try dsimp only
        refine X_iinc (n := 137) 0 (v := (i4 + 1)) (L1 := [(4, .int (i4 + 1)), (1, .int i1), (0, .ref a0), (3, .int x10)]) (kX12_drowned 78 rfl) rfl rfl rfl (Nat.le_of_ble_eq_true rfl) rfl ?_
        refine X_goto (tgt := 91) (kX12_drowned 79 rfl) rfl ?_
        exact X_L [0, 3, 1, 2] rfl (ih x10 (i4 + 1) S12)
      · refine X_itebind ?_
        refine X_ic_ne (n := 102) (tgt := 121) (kX12_drowned 60 rfl) rfl rfl (fun h14 => ?_) (fun h14 => ?_)
        · refine X_aload_n (n := 103) 3 (kX12_drowned 61 rfl) rfl rfl rfl ?_
          refine X_aload_n (n := 104) 3 (kX12_drowned 62 rfl) rfl rfl rfl ?_
          refine X_getR (n := 107) xf_X12 hk0 (by decide) fl_X12_7 rfl (kX12_drowned 63 rfl) rfl ?_
          refine X_iload (n := 109) 0 (kX12_drowned 64 rfl) rfl rfl ?_
          refine X_itebind ?_
          refine X_iald (n := 110) (kt_12_1 hk0) (kX12_drowned 65 rfl) rfl (fun h18 => ?_)
          refine X_iload (n := 112) 0 (kX12_drowned 66 rfl) rfl rfl ?_
          refine X_assoc ?_
          refine X_callVB (n := 115) (As := [.int (S.1 (rf a0 1) i4.toNatClampNeg), .int i4]) (st := []) (kX12_drowned 67 rfl) rfl (w_X12_isDrowned hk0) (by decide) ml_X12_321 mf_X12_isDrowned rfl hk0 xf_X12 rfl (Nat.le_of_ble_eq_true rfl) (fun r15 S16 hq => ?_)
          try dsimp only
          refine X_itebind ?_
          refine X_bz (n := 118) (tgt := 121) (kX12_drowned 68 rfl) rfl rfl (fun h17 => ?_) (fun h17 => ?_)
          · refine X_iload (n := 120) 0 (kX12_drowned 69 rfl) rfl rfl ?_
            refine X_istore_n (n := 121) (L1 := [(3, .int i4), (4, .int i4), (1, .int i1), (0, .ref a0)]) (kX12_drowned 70 rfl) rfl rfl (Nat.le_of_ble_eq_true rfl) rfl ?_
            exact X_L [1, 2, 3, 0] rfl (kJ (i4, S16))
          · exact X_L [0, 2, 3, 1] rfl (kJ (i3, S16))
        · exact X_L [0, 2, 3, 1] rfl (kJ (i3, S))
set_option maxHeartbeats 4000000 in
set_option maxRecDepth 100000 in
theorem w_X12_drowned_L143 {l : Launch} {g : XG} {G : (XS) → Option (Int32 × XS)}  {i3 : Int32} {i1 : Int32} {a0 : Nat} (hk0 : kd a0 = 12) (kE : ∀ (S1 : XS), X φI l g 3 mX12_drowned 175 [(3, .int i3), (0, .ref a0)] [] S1 (G S1)) : ∀ (n : Nat) (i4 : Int32) (S : XS), X φI l g 3 mX12_drowned 143 [(4, .int i4), (3, .int i3), (1, .int i1), (0, .ref a0)] [] S ((f_X12_drowned_L143 i3 i1 a0 n i4 S).bind G) := by
  intro n
  induction n with
  | zero => intro i4 S; exact X_none
  | succ n ih =>
  · intro i4 S
    rw [f_X12_drowned_L143]
    refine X_iload (n := 145) 0 (kX12_drowned 82 rfl) rfl rfl ?_
    refine X_bipush (n := 147) (v := 6) (kX12_drowned 83 rfl) rfl (by decide) ?_
    refine X_itebind ?_
    refine X_ic_ge (n := 150) (tgt := 175) (kX12_drowned 84 rfl) rfl rfl (fun h21 => ?_) (fun h21 => ?_)
    · exact X_L [1, 3] rfl (kE S)
    · refine X_aload_n (n := 151) 3 (kX12_drowned 85 rfl) rfl rfl rfl ?_
      refine X_getR (n := 154) xf_X12 hk0 (by decide) fl_X12_60 rfl (kX12_drowned 86 rfl) rfl ?_
      refine X_iload (n := 156) 0 (kX12_drowned 87 rfl) rfl rfl ?_
      refine X_aload_n (n := 157) 3 (kX12_drowned 88 rfl) rfl rfl rfl ?_
      refine X_getR (n := 160) xf_X12 hk0 (by decide) fl_X12_42 rfl (kX12_drowned 89 rfl) rfl ?_
      refine X_bipush (n := 162) (v := 6) (kX12_drowned 90 rfl) rfl (by decide) ?_
      refine X_iload_n (n := 163) 2 (kX12_drowned 91 rfl) rfl rfl rfl ?_
      refine X_imul (n := 164) (kX12_drowned 92 rfl) rfl ?_
      refine X_iload (n := 166) 0 (kX12_drowned 93 rfl) rfl rfl ?_
      refine X_iadd (n := 167) (kX12_drowned 94 rfl) rfl ?_
      refine X_itebind ?_
      refine X_iald (n := 168) (kt_12_24 hk0) (kX12_drowned 95 rfl) rfl (fun h23 => ?_)
      refine X_itebind ?_
      refine X_iast (n := 169) (kt_12_32 hk0) (kX12_drowned 96 rfl) rfl (fun h22 => ?_)
      refine X_iinc (n := 172) 0 (v := (i4 + 1)) (L1 := [(4, .int (i4 + 1)), (3, .int i3), (1, .int i1), (0, .ref a0)]) (kX12_drowned 97 rfl) rfl rfl rfl (Nat.le_of_ble_eq_true rfl) rfl ?_
      refine X_goto (tgt := 143) (kX12_drowned 98 rfl) rfl ?_
      exact X_L [0, 1, 2, 3] rfl (ih (i4 + 1) (sI S (rf a0 32) i4.toNatClampNeg (S.1 (rf a0 24) (((6 : Int32) * i1) + i4).toNatClampNeg)))
set_option maxHeartbeats 4000000 in
set_option maxRecDepth 100000 in
theorem w_X12_drowned {l : Launch} {g : XG}  {a0 : Nat} {S : XS} (hk0 : kd a0 = 12) : Cl φI l g 3 mX12_drowned [.ref a0] S (f_X12_drowned a0 S) := by
  refine Cl.of (by decide +kernel) (Nat.le_of_ble_eq_true rfl) ?_
  unfold f_X12_drowned
  show X _ _ _ _ _ 0 [(0, .ref a0)] [] S _
  refine X_aload_n (n := 1) 0 (kX12_drowned 0 rfl) rfl rfl rfl ?_
  refine X_iconst (n := 2) (v := 0) (kX12_drowned 1 rfl) rfl (by decide) ?_
  refine X_putI (n := 5) xf_X12 hk0 (by decide) fl_X12_100 rfl rfl (Or.inl rfl) (kX12_drowned 2 rfl) rfl ?_
  refine X_aload_n (n := 6) 0 (kX12_drowned 3 rfl) rfl rfl rfl ?_
  refine X_callV1I (n := 9) (As := []) (st := []) (kX12_drowned 4 rfl) rfl (p_X12_take hk0) (by decide) ml_X12_186 mf_X12_take rfl hk0 xf_X12 rfl (Nat.le_of_ble_eq_true rfl) ?_
  refine X_istore_n (n := 10) (L1 := [(1, .int (t_X12_take a0 (sI S a0 0 (0 : Int32))).1), (0, .ref a0)]) (kX12_drowned 5 rfl) rfl rfl (Nat.le_of_ble_eq_true rfl) rfl ?_
  refine X_iload_n (n := 11) 0 (kX12_drowned 6 rfl) rfl rfl rfl ?_
  refine X_iconst (n := 12) (v := 1) (kX12_drowned 7 rfl) rfl (by decide) ?_
  refine X_bipush (n := 14) (v := 8) (kX12_drowned 8 rfl) rfl (by decide) ?_
  refine X_callS1B (n := 17) (As := [.int (t_X12_take a0 (sI S a0 0 (0 : Int32))).1, .int (1 : Int32), .int (8 : Int32)]) (st := []) (kX12_drowned 9 rfl) rfl p_X12_isIn (by decide) ml_X12_169 mf_X12_isIn rfl rfl (Nat.le_of_ble_eq_true rfl) ?_
  refine X_bn (n := 20) (tgt := 23) (kX12_drowned 10 rfl) rfl rfl (fun h1 => ?_) (fun h1 => ?_)
  · refine X_iconst (n := 24) (v := 0) (kX12_drowned 13 rfl) rfl (by decide) ?_
    refine X_istore_n (n := 25) (L1 := [(2, .int 0), (1, .int (t_X12_take a0 (sI S a0 0 (0 : Int32))).1), (0, .ref a0)]) (kX12_drowned 14 rfl) rfl rfl (Nat.le_of_ble_eq_true rfl) rfl ?_
    refine X_iconst (n := 26) (v := 0) (kX12_drowned 15 rfl) rfl (by decide) ?_
    refine X_istore_n (n := 27) (L1 := [(3, .int 0), (2, .int 0), (1, .int (t_X12_take a0 (sI S a0 0 (0 : Int32))).1), (0, .ref a0)]) (kX12_drowned 16 rfl) rfl rfl (Nat.le_of_ble_eq_true rfl) rfl ?_
    refine X_L [0, 1, 2, 3] rfl (w_X12_drowned_L27 hk0 ?_ ?_ 1000000 (0 : Int32) (0 : Int32))
    · refine X_aload_n (n := 83) 1 (kX12_drowned 49 rfl) rfl rfl rfl ?_
      refine X_callVV (n := 86) (As := []) (st := []) (kX12_drowned 50 rfl) rfl (w_X12_startOpening hk0) (by decide) ml_X12_330 mf_X12_startOpening rfl hk0 xf_X12 rfl (Nat.le_of_ble_eq_true rfl) (fun S8 hq => ?_)
      try dsimp only
      refine X_iconst (n := 87) (v := (-1)) (kX12_drowned 51 rfl) rfl (by decide) ?_
      refine X_istore_n (n := 88) (L1 := [(3, .int (-1)), (1, .int (t_X12_take a0 (sI S a0 0 (0 : Int32))).1), (0, .ref a0)]) (kX12_drowned 52 rfl) rfl rfl (Nat.le_of_ble_eq_true rfl) rfl ?_
      refine X_iconst (n := 89) (v := 0) (kX12_drowned 53 rfl) rfl (by decide) ?_
      refine X_istore (n := 91) (L1 := [(4, .int 0), (3, .int (-1)), (1, .int (t_X12_take a0 (sI S a0 0 (0 : Int32))).1), (0, .ref a0)]) (kX12_drowned 54 rfl) rfl (Nat.le_of_ble_eq_true rfl) rfl ?_
      refine X_L [0, 1, 2, 3] rfl (w_X12_drowned_L91 hk0 (fun e19 S20 => ?_) 1000000 (-1 : Int32) (0 : Int32) S8)
      try dsimp only
      refine X_iconst (n := 141) (v := 0) (kX12_drowned 80 rfl) rfl (by decide) ?_
      refine X_istore (n := 143) (L1 := [(4, .int 0), (3, .int e19), (1, .int (t_X12_take a0 (sI S a0 0 (0 : Int32))).1), (0, .ref a0)]) (kX12_drowned 81 rfl) rfl (Nat.le_of_ble_eq_true rfl) rfl ?_
      refine X_L [0, 1, 2, 3] rfl (w_X12_drowned_L143 hk0 (fun S24 => ?_) 1000000 (0 : Int32) S20)
      try dsimp only
      refine X_aload_n (n := 176) 1 (kX12_drowned 99 rfl) rfl rfl rfl ?_
      refine X_iconst (n := 177) (v := 1) (kX12_drowned_1 0 rfl) rfl (by decide) ?_
      refine X_putI (n := 180) xf_X12 hk0 (by decide) fl_X12_339 rfl rfl (Or.inr (Or.inr rfl)) (kX12_drowned_1 1 rfl) rfl ?_
      refine X_iload_n (n := 181) 0 (kX12_drowned_1 2 rfl) rfl rfl rfl ?_
      exact X_iret rfl (kX12_drowned_1 3 rfl)
    · intro r
      rfl
  · refine X_bipush (n := 22) (v := (-2)) (kX12_drowned 11 rfl) rfl (by decide) ?_
    exact X_iret rfl (kX12_drowned 12 rfl)
def f_X12_was_L43  (i3 : Int32) (a0 : Nat) (i1 : Int32) (i2 : Int32) : Nat → Int32 → XS → Option (XS)
  | 0, _, _ => none
  | n + 1, i4, S => (if i3 ≤ i4 then some S else (if i4 < 0 ∨ ln (rf a0 1) ≤ i4.toNatClampNeg then none else (if i4 < 0 ∨ ln (rf a0 34) ≤ i4.toNatClampNeg then none else f_X12_was_L43 i3 a0 i1 i2 n (i4 + 1) (sI S (rf a0 34) i4.toNatClampNeg (S.1 (rf a0 1) i4.toNatClampNeg)))))
def f_X12_was_L72  (i3 : Int32) (a0 : Nat) (i1 : Int32) (i2 : Int32) : Nat → Int32 → XS → Option (XS)
  | 0, _, _ => none
  | n + 1, i4, S => (if (36 : Int32) ≤ i4 then some S else (if i4 < 0 ∨ ln (rf a0 35) ≤ i4.toNatClampNeg then none else f_X12_was_L72 i3 a0 i1 i2 n (i4 + 1) (sI S (rf a0 35) i4.toNatClampNeg (0 : Int32))))
def f_X12_was_L127  (i4 : Int32) (i3 : Int32) (a0 : Nat) (i1 : Int32) (i2 : Int32) : Nat → Int32 → Int32 → XS → Option (Int32)
  | 0, _, _, _ => none
  | n + 1, i5, i6, S => (if i2 ≤ i6 then some i5 else f_X12_was_L127 i4 i3 a0 i1 i2 n (i5 * i4) (i6 + 1) S)
def f_X12_was_L168  (i7 : Int32) (i6 : Int32) (i5 : Int32) (i4 : Int32) (i3 : Int32) (a0 : Nat) (i1 : Int32) (i2 : Int32) : Nat → Int32 → Int32 → XS → Option (XS)
  | 0, _, _, _ => none
  | n + 1, i8, i9, S => (if i9 < 0 then some S else (if i4 = 0 then none else (if i9 < 0 ∨ ln (rf a0 38) ≤ i9.toNatClampNeg then none else (if i4 = 0 then none else f_X12_was_L168 i7 i6 i5 i4 i3 a0 i1 i2 n (i8 / i4) (i9 + (-1)) (sI S (rf a0 38) i9.toNatClampNeg (rem32 i8 i4))))))
def f_X12_was_L210  (i7 : Int32) (i6 : Int32) (i5 : Int32) (i4 : Int32) (i3 : Int32) (a0 : Nat) (i1 : Int32) (i2 : Int32) : Nat → Int32 → Int32 → XS → Option (Int32)
  | 0, _, _, _ => none
  | n + 1, i9, i10, S => (if i3 ≤ i10 then some i9 else (if i9 = 0 then f_X12_was_L210 i7 i6 i5 i4 i3 a0 i1 i2 n (0 : Int32) (i10 + 1) S else (if i10 < 0 ∨ ln (rf a0 37) ≤ i10.toNatClampNeg then none else (if i10 < 0 ∨ ln (rf a0 34) ≤ i10.toNatClampNeg then none else (if (S.1 (rf a0 37) i10.toNatClampNeg) = (S.1 (rf a0 34) i10.toNatClampNeg) then f_X12_was_L210 i7 i6 i5 i4 i3 a0 i1 i2 n (1 : Int32) (i10 + 1) S else f_X12_was_L210 i7 i6 i5 i4 i3 a0 i1 i2 n (0 : Int32) (i10 + 1) S)))))
def f_X12_was_L262  (i7 : Int32) (i6 : Int32) (i5 : Int32) (i4 : Int32) (i3 : Int32) (a0 : Nat) (i1 : Int32) (i2 : Int32) : Nat → Int32 → XS → Option (XS)
  | 0, _, _ => none
  | n + 1, i10, S => (if i2 ≤ i10 then some S else (if i10 < 0 ∨ ln (rf a0 38) ≤ i10.toNatClampNeg then none else (if (((6 : Int32) * i10) + (S.1 (rf a0 38) i10.toNatClampNeg)) < 0 ∨ ln (rf a0 35) ≤ (((6 : Int32) * i10) + (S.1 (rf a0 38) i10.toNatClampNeg)).toNatClampNeg then none else (if (((6 : Int32) * i10) + (S.1 (rf a0 38) i10.toNatClampNeg)) < 0 ∨ ln (rf a0 35) ≤ (((6 : Int32) * i10) + (S.1 (rf a0 38) i10.toNatClampNeg)).toNatClampNeg then none else (if i6 = 0 then (if i10 < 0 ∨ ln (rf a0 38) ≤ i10.toNatClampNeg then none else (if i10 < 0 ∨ ln (rf a0 36) ≤ i10.toNatClampNeg then none else f_X12_was_L262 i7 i6 i5 i4 i3 a0 i1 i2 n (i10 + 1) (sI (sI S (rf a0 35) ((((6 : Int32) * i10) + (S.1 (rf a0 38) i10.toNatClampNeg)).toNatClampNeg) ((S.1 (rf a0 35) (((6 : Int32) * i10) + (S.1 (rf a0 38) i10.toNatClampNeg)).toNatClampNeg) + (1 : Int32))) (rf a0 36) i10.toNatClampNeg ((sI S (rf a0 35) ((((6 : Int32) * i10) + (S.1 (rf a0 38) i10.toNatClampNeg)).toNatClampNeg) ((S.1 (rf a0 35) (((6 : Int32) * i10) + (S.1 (rf a0 38) i10.toNatClampNeg)).toNatClampNeg) + (1 : Int32))).1 (rf a0 38) i10.toNatClampNeg)))) else f_X12_was_L262 i7 i6 i5 i4 i3 a0 i1 i2 n (i10 + 1) (sI S (rf a0 35) ((((6 : Int32) * i10) + (S.1 (rf a0 38) i10.toNatClampNeg)).toNatClampNeg) ((S.1 (rf a0 35) (((6 : Int32) * i10) + (S.1 (rf a0 38) i10.toNatClampNeg)).toNatClampNeg) + (1 : Int32))))))))
def f_X12_was_L152  (i5 : Int32) (i4 : Int32) (i3 : Int32) (a0 : Nat) (i1 : Int32) (i2 : Int32) : Nat → Int32 → Int32 → XS → Option (Int32 × XS)
  | 0, _, _, _ => none
  | n + 1, i6, i7, S => (if i5 ≤ i7 then some (i6, S) else ((f_X12_was_L168 i7 i6 i5 i4 i3 a0 i1 i2 1000000 i7 (i2 - (1 : Int32)) S).bind (fun S19 => ((f_X12_wearThrough a0 i1 i2 S19).bind (fun S20 => ((f_X12_was_L210 i7 i6 i5 i4 i3 a0 i1 i2 1000000 (1 : Int32) (0 : Int32) S20).bind (fun e26 => (if e26 = 0 then f_X12_was_L152 i5 i4 i3 a0 i1 i2 n i6 (i7 + 1) S20 else ((f_X12_was_L262 i7 i6 i5 i4 i3 a0 i1 i2 1000000 (0 : Int32) S20).bind (fun S35 => (if i6 = 0 then f_X12_was_L152 i5 i4 i3 a0 i1 i2 n (i6 + 1) (i7 + 1) (sI S35 a0 41 i2) else f_X12_was_L152 i5 i4 i3 a0 i1 i2 n (i6 + 1) (i7 + 1) S35)))))))))))
def f_X12_was  (a0 : Nat) (i1 : Int32) (i2 : Int32) (S : XS) : Option (Int32 × XS) := (if (t_X12_isWitness a0 i1 ((t_X12_take a0 (sI S a0 0 (0 : Int32))).2)) = true then (if (t_X12_isIn i2 (1 : Int32) (6 : Int32)) = true then (if (t_X12_take a0 (sI S a0 0 (0 : Int32))).1 = (((t_X12_take a0 (sI S a0 0 (0 : Int32))).2).1 (rf a0 14) 0) then ((f_X12_was_L43 ((t_X12_take a0 (sI S a0 0 (0 : Int32))).1) a0 i1 i2 1000000 (0 : Int32) ((t_X12_take a0 (sI S a0 0 (0 : Int32))).2)).bind (fun S7 => ((f_X12_was_L72 ((t_X12_take a0 (sI S a0 0 (0 : Int32))).1) a0 i1 i2 1000000 (0 : Int32) S7).bind (fun S10 => ((if ((sI S10 a0 39 i2).1 (rf a0 14) 1) = 0 then some false else some true).bind (fun x11 => ((f_X12_was_L127 ((sI S10 a0 39 i2).1 (rf a0 14) 1) ((t_X12_take a0 (sI S a0 0 (0 : Int32))).1) a0 i1 i2 1000000 (bi x11) (0 : Int32) (sI (sI S10 a0 39 i2) a0 40 ((sI S10 a0 39 i2).1 (rf a0 14) 1))).bind (fun e13 => ((f_X12_was_L152 e13 ((sI S10 a0 39 i2).1 (rf a0 14) 1) ((t_X12_take a0 (sI S a0 0 (0 : Int32))).1) a0 i1 i2 1000000 (0 : Int32) (0 : Int32) (sI (sI S10 a0 39 i2) a0 40 ((sI S10 a0 39 i2).1 (rf a0 14) 1))).bind (fun q => match q with | (e37, S38) => some (e37, S38))))))))))) else some ((-1 : Int32), (t_X12_take a0 (sI S a0 0 (0 : Int32))).2)) else some ((-1 : Int32), (t_X12_take a0 (sI S a0 0 (0 : Int32))).2)) else some ((-1 : Int32), (t_X12_take a0 (sI S a0 0 (0 : Int32))).2))
set_option maxHeartbeats 4000000 in
set_option maxRecDepth 100000 in
theorem w_X12_was_L43 {l : Launch} {g : XG} {G : (XS) → Option (Int32 × XS)}  {i3 : Int32} {a0 : Nat} {i1 : Int32} {i2 : Int32} (hk0 : kd a0 = 12) (kE : ∀ (S1 : XS), X φI l g 3 mX12_was 69 [(3, .int i3), (0, .ref a0), (1, .int i1), (2, .int i2)] [] S1 (G S1)) : ∀ (n : Nat) (i4 : Int32) (S : XS), X φI l g 3 mX12_was 43 [(4, .int i4), (3, .int i3), (0, .ref a0), (1, .int i1), (2, .int i2)] [] S ((f_X12_was_L43 i3 a0 i1 i2 n i4 S).bind G) := by
  intro n
  induction n with
  | zero => intro i4 S; exact X_none
  | succ n ih =>
  · intro i4 S
    rw [f_X12_was_L43]
    refine X_iload (n := 45) 0 (kX12_was 25 rfl) rfl rfl ?_
    refine X_iload_n (n := 46) 1 (kX12_was 26 rfl) rfl rfl rfl ?_
    refine X_itebind ?_
    refine X_ic_ge (n := 49) (tgt := 69) (kX12_was 27 rfl) rfl rfl (fun h4 => ?_) (fun h4 => ?_)
    · exact X_L [1, 2, 3, 4] rfl (kE S)
    · refine X_aload_n (n := 50) 2 (kX12_was 28 rfl) rfl rfl rfl ?_
      refine X_getR (n := 53) xf_X12 hk0 (by decide) fl_X12_63 rfl (kX12_was 29 rfl) rfl ?_
      refine X_iload (n := 55) 0 (kX12_was 30 rfl) rfl rfl ?_
      refine X_aload_n (n := 56) 2 (kX12_was 31 rfl) rfl rfl rfl ?_
      refine X_getR (n := 59) xf_X12 hk0 (by decide) fl_X12_7 rfl (kX12_was 32 rfl) rfl ?_
      refine X_iload (n := 61) 0 (kX12_was 33 rfl) rfl rfl ?_
      refine X_itebind ?_
      refine X_iald (n := 62) (kt_12_1 hk0) (kX12_was 34 rfl) rfl (fun h6 => ?_)
      refine X_itebind ?_
      refine X_iast (n := 63) (kt_12_34 hk0) (kX12_was 35 rfl) rfl (fun h5 => ?_)
      refine X_iinc (n := 66) 0 (v := (i4 + 1)) (L1 := [(4, .int (i4 + 1)), (3, .int i3), (0, .ref a0), (1, .int i1), (2, .int i2)]) (kX12_was 36 rfl) rfl rfl rfl (Nat.le_of_ble_eq_true rfl) rfl ?_
      refine X_goto (tgt := 43) (kX12_was 37 rfl) rfl ?_
      exact X_L [0, 1, 2, 3, 4] rfl (ih (i4 + 1) (sI S (rf a0 34) i4.toNatClampNeg (S.1 (rf a0 1) i4.toNatClampNeg)))
set_option maxHeartbeats 4000000 in
set_option maxRecDepth 100000 in
theorem w_X12_was_L72 {l : Launch} {g : XG} {G : (XS) → Option (Int32 × XS)}  {i3 : Int32} {a0 : Nat} {i1 : Int32} {i2 : Int32} (hk0 : kd a0 = 12) (kE : ∀ (S1 : XS), X φI l g 3 mX12_was 93 [(3, .int i3), (0, .ref a0), (1, .int i1), (2, .int i2)] [] S1 (G S1)) : ∀ (n : Nat) (i4 : Int32) (S : XS), X φI l g 3 mX12_was 72 [(4, .int i4), (3, .int i3), (0, .ref a0), (1, .int i1), (2, .int i2)] [] S ((f_X12_was_L72 i3 a0 i1 i2 n i4 S).bind G) := by
  intro n
  induction n with
  | zero => intro i4 S; exact X_none
  | succ n ih =>
  · intro i4 S
    rw [f_X12_was_L72]
    refine X_iload (n := 74) 0 (kX12_was 40 rfl) rfl rfl ?_
    refine X_bipush (n := 76) (v := 36) (kX12_was 41 rfl) rfl (by decide) ?_
    refine X_itebind ?_
    refine X_ic_ge (n := 79) (tgt := 93) (kX12_was 42 rfl) rfl rfl (fun h8 => ?_) (fun h8 => ?_)
    · exact X_L [1, 2, 3, 4] rfl (kE S)
    · refine X_aload_n (n := 80) 2 (kX12_was 43 rfl) rfl rfl rfl ?_
      refine X_getR (n := 83) xf_X12 hk0 (by decide) fl_X12_66 rfl (kX12_was 44 rfl) rfl ?_
      refine X_iload (n := 85) 0 (kX12_was 45 rfl) rfl rfl ?_
      refine X_iconst (n := 86) (v := 0) (kX12_was 46 rfl) rfl (by decide) ?_
      refine X_itebind ?_
      refine X_iast (n := 87) (kt_12_35 hk0) (kX12_was 47 rfl) rfl (fun h9 => ?_)
      refine X_iinc (n := 90) 0 (v := (i4 + 1)) (L1 := [(4, .int (i4 + 1)), (3, .int i3), (0, .ref a0), (1, .int i1), (2, .int i2)]) (kX12_was 48 rfl) rfl rfl rfl (Nat.le_of_ble_eq_true rfl) rfl ?_
      refine X_goto (tgt := 72) (kX12_was 49 rfl) rfl ?_
      exact X_L [0, 1, 2, 3, 4] rfl (ih (i4 + 1) (sI S (rf a0 35) i4.toNatClampNeg (0 : Int32)))
set_option maxHeartbeats 4000000 in
set_option maxRecDepth 100000 in
theorem w_X12_was_L127 {l : Launch} {g : XG} {G : (Int32) → Option (Int32 × XS)}  {i4 : Int32} {i3 : Int32} {a0 : Nat} {i1 : Int32} {i2 : Int32} (hk0 : kd a0 = 12) {S : XS} (kE : ∀ (e5 : Int32), X φI l g 3 mX12_was 146 [(5, .int e5), (4, .int i4), (3, .int i3), (0, .ref a0), (1, .int i1), (2, .int i2)] [] S (G e5)) : ∀ (n : Nat) (i5 : Int32) (i6 : Int32), X φI l g 3 mX12_was 127 [(6, .int i6), (5, .int i5), (4, .int i4), (3, .int i3), (0, .ref a0), (1, .int i1), (2, .int i2)] [] S ((f_X12_was_L127 i4 i3 a0 i1 i2 n i5 i6 S).bind G) := by
  intro n
  induction n with
  | zero => intro i5 i6; exact X_none
  | succ n ih =>
  · intro i5 i6
    rw [f_X12_was_L127]
    refine X_iload (n := 129) 0 (kX12_was 69 rfl) rfl rfl ?_
    refine X_iload_n (n := 130) 6 (kX12_was 70 rfl) rfl rfl rfl ?_
    refine X_itebind ?_
    refine X_ic_ge (n := 133) (tgt := 146) (kX12_was 71 rfl) rfl rfl (fun h12 => ?_) (fun h12 => ?_)
    · exact X_L [1, 2, 3, 4, 5, 6] rfl (kE i5)
    · refine X_iload (n := 135) 1 (kX12_was 72 rfl) rfl rfl ?_
      refine X_iload (n := 137) 2 (kX12_was 73 rfl) rfl rfl ?_
      refine X_imul (n := 138) (kX12_was 74 rfl) rfl ?_
      refine X_istore (n := 140) (L1 := [(5, .int (i5 * i4)), (6, .int i6), (4, .int i4), (3, .int i3), (0, .ref a0), (1, .int i1), (2, .int i2)]) (kX12_was 75 rfl) rfl (Nat.le_of_ble_eq_true rfl) rfl ?_
      refine X_iinc (n := 143) 1 (v := (i6 + 1)) (L1 := [(6, .int (i6 + 1)), (5, .int (i5 * i4)), (4, .int i4), (3, .int i3), (0, .ref a0), (1, .int i1), (2, .int i2)]) (kX12_was 76 rfl) rfl rfl rfl (Nat.le_of_ble_eq_true rfl) rfl ?_
      refine X_goto (tgt := 127) (kX12_was 77 rfl) rfl ?_
      exact X_L [0, 1, 2, 3, 4, 5, 6] rfl (ih (i5 * i4) (i6 + 1))
set_option maxHeartbeats 4000000 in
set_option maxRecDepth 100000 in
theorem w_X12_was_L168 {l : Launch} {g : XG} {G : (XS) → Option (Int32 × XS)}  {i7 : Int32} {i6 : Int32} {i5 : Int32} {i4 : Int32} {i3 : Int32} {a0 : Nat} {i1 : Int32} {i2 : Int32} (hk0 : kd a0 = 12) (kE : ∀ (S1 : XS), X φI l g 3 mX12_was 198 [(7, .int i7), (6, .int i6), (5, .int i5), (4, .int i4), (3, .int i3), (0, .ref a0), (1, .int i1), (2, .int i2)] [] S1 (G S1)) : ∀ (n : Nat) (i8 : Int32) (i9 : Int32) (S : XS), X φI l g 3 mX12_was 168 [(9, .int i9), (8, .int i8), (7, .int i7), (6, .int i6), (5, .int i5), (4, .int i4), (3, .int i3), (0, .ref a0), (1, .int i1), (2, .int i2)] [] S ((f_X12_was_L168 i7 i6 i5 i4 i3 a0 i1 i2 n i8 i9 S).bind G) := by
  intro n
  induction n with
  | zero => intro i8 i9 S; exact X_none
  | succ n ih =>
  · intro i8 i9 S
    rw [f_X12_was_L168]
    refine X_iload (n := 170) 0 (kX12_was 91 rfl) rfl rfl ?_
    refine X_itebind ?_
    refine X_if_lt (n := 173) (tgt := 198) (kX12_was 92 rfl) rfl rfl (fun h15 => ?_) (fun h15 => ?_)
    · exact X_L [2, 3, 4, 5, 6, 7, 8, 9] rfl (kE S)
    · refine X_aload_n (n := 174) 7 (kX12_was 93 rfl) rfl rfl rfl ?_
      refine X_getR (n := 177) xf_X12 hk0 (by decide) fl_X12_75 rfl (kX12_was 94 rfl) rfl ?_
      refine X_iload (n := 179) 0 (kX12_was 95 rfl) rfl rfl ?_
      refine X_iload (n := 181) 1 (kX12_was 96 rfl) rfl rfl ?_
      refine X_iload (n := 183) 5 (kX12_was 97 rfl) rfl rfl ?_
      refine X_itebind ?_
      refine X_irem (n := 184) (kX12_was 98 rfl) rfl (fun h18 => ?_)
      refine X_itebind ?_
      refine X_iast (n := 185) (kt_12_38 hk0) (kX12_was 99 rfl) rfl (fun h17 => ?_)
      refine X_iload (n := 187) 1 (kX12_was_1 0 rfl) rfl rfl ?_
      refine X_iload (n := 189) 5 (kX12_was_1 1 rfl) rfl rfl ?_
      refine X_itebind ?_
      refine X_idiv (n := 190) (kX12_was_1 2 rfl) rfl (fun h16 => ?_)
      refine X_istore (n := 192) (L1 := [(8, .int (i8 / i4)), (9, .int i9), (7, .int i7), (6, .int i6), (5, .int i5), (4, .int i4), (3, .int i3), (0, .ref a0), (1, .int i1), (2, .int i2)]) (kX12_was_1 3 rfl) rfl (Nat.le_of_ble_eq_true rfl) rfl ?_
      refine X_iinc (n := 195) 1 (v := (i9 + (-1))) (L1 := [(9, .int (i9 + (-1))), (8, .int (i8 / i4)), (7, .int i7), (6, .int i6), (5, .int i5), (4, .int i4), (3, .int i3), (0, .ref a0), (1, .int i1), (2, .int i2)]) (kX12_was_1 4 rfl) rfl rfl rfl (Nat.le_of_ble_eq_true rfl) rfl ?_
      refine X_goto (tgt := 168) (kX12_was_1 5 rfl) rfl ?_
      exact X_L [0, 1, 2, 3, 4, 5, 6, 7, 8, 9] rfl (ih (i8 / i4) (i9 + (-1)) (sI S (rf a0 38) i9.toNatClampNeg (rem32 i8 i4)))
set_option maxHeartbeats 4000000 in
set_option maxRecDepth 100000 in
theorem w_X12_was_L210 {l : Launch} {g : XG} {G : (Int32) → Option (Int32 × XS)}  {i7 : Int32} {i6 : Int32} {i5 : Int32} {i4 : Int32} {i3 : Int32} {a0 : Nat} {i1 : Int32} {i2 : Int32} (hk0 : kd a0 = 12) {S : XS} (kE : ∀ (e9 : Int32), X φI l g 3 mX12_was 251 [(9, .int e9), (7, .int i7), (6, .int i6), (5, .int i5), (4, .int i4), (3, .int i3), (0, .ref a0), (1, .int i1), (2, .int i2)] [] S (G e9)) : ∀ (n : Nat) (i9 : Int32) (i10 : Int32), X φI l g 3 mX12_was 210 [(10, .int i10), (9, .int i9), (7, .int i7), (6, .int i6), (5, .int i5), (4, .int i4), (3, .int i3), (0, .ref a0), (1, .int i1), (2, .int i2)] [] S ((f_X12_was_L210 i7 i6 i5 i4 i3 a0 i1 i2 n i9 i10 S).bind G) := by
  intro n
  induction n with
  | zero => intro i9 i10; exact X_none
  | succ n ih =>
  · intro i9 i10
    rw [f_X12_was_L210]
    refine X_iload (n := 212) 0 (kX12_was_1 14 rfl) rfl rfl ?_
    refine X_iload_n (n := 213) 6 (kX12_was_1 15 rfl) rfl rfl rfl ?_
    refine X_itebind ?_
    refine X_ic_ge (n := 216) (tgt := 251) (kX12_was_1 16 rfl) rfl rfl (fun h21 => ?_) (fun h21 => ?_)
    · exact X_L [1, 2, 3, 4, 5, 6, 7, 8, 9] rfl (kE i9)
    · refine X_iload (n := 218) 1 (kX12_was_1 17 rfl) rfl rfl ?_
      refine X_itebind ?_
      refine X_if_eq (n := 221) (tgt := 242) (kX12_was_1 18 rfl) rfl rfl (fun h22 => ?_) (fun h22 => ?_)
      · refine X_iconst (n := 243) (v := 0) (kX12_was_1 30 rfl) rfl (by decide) ?_
        refine X_istore (n := 245) (L1 := [(9, .int 0), (10, .int i10), (7, .int i7), (6, .int i6), (5, .int i5), (4, .int i4), (3, .int i3), (0, .ref a0), (1, .int i1), (2, .int i2)]) (kX12_was_1 31 rfl) rfl (Nat.le_of_ble_eq_true rfl) rfl ?_
        refine X_iinc (n := 248) 1 (v := (i10 + 1)) (L1 := [(10, .int (i10 + 1)), (9, .int 0), (7, .int i7), (6, .int i6), (5, .int i5), (4, .int i4), (3, .int i3), (0, .ref a0), (1, .int i1), (2, .int i2)]) (kX12_was_1 32 rfl) rfl rfl rfl (Nat.le_of_ble_eq_true rfl) rfl ?_
        refine X_goto (tgt := 210) (kX12_was_1 33 rfl) rfl ?_
        exact X_L [0, 1, 2, 3, 4, 5, 6, 7, 8, 9] rfl (ih (0 : Int32) (i10 + 1))
      · refine X_aload_n (n := 222) 7 (kX12_was_1 19 rfl) rfl rfl rfl ?_
        refine X_getR (n := 225) xf_X12 hk0 (by decide) fl_X12_72 rfl (kX12_was_1 20 rfl) rfl ?_
        refine X_iload (n := 227) 0 (kX12_was_1 21 rfl) rfl rfl ?_
        refine X_itebind ?_
        refine X_iald (n := 228) (kt_12_37 hk0) (kX12_was_1 22 rfl) rfl (fun h25 => ?_)
        refine X_aload_n (n := 229) 7 (kX12_was_1 23 rfl) rfl rfl rfl ?_
        refine X_getR (n := 232) xf_X12 hk0 (by decide) fl_X12_63 rfl (kX12_was_1 24 rfl) rfl ?_
        refine X_iload (n := 234) 0 (kX12_was_1 25 rfl) rfl rfl ?_
        refine X_itebind ?_
        refine X_iald (n := 235) (kt_12_34 hk0) (kX12_was_1 26 rfl) rfl (fun h24 => ?_)
        refine X_itebind ?_
        refine X_ic_ne (n := 238) (tgt := 242) (kX12_was_1 27 rfl) rfl rfl (fun h23 => ?_) (fun h23 => ?_)
        · refine X_iconst (n := 239) (v := 1) (kX12_was_1 28 rfl) rfl (by decide) ?_
          refine X_goto (tgt := 243) (kX12_was_1 29 rfl) rfl ?_
          refine X_istore (n := 245) (L1 := [(9, .int 1), (10, .int i10), (7, .int i7), (6, .int i6), (5, .int i5), (4, .int i4), (3, .int i3), (0, .ref a0), (1, .int i1), (2, .int i2)]) (kX12_was_1 31 rfl) rfl (Nat.le_of_ble_eq_true rfl) rfl ?_
          refine X_iinc (n := 248) 1 (v := (i10 + 1)) (L1 := [(10, .int (i10 + 1)), (9, .int 1), (7, .int i7), (6, .int i6), (5, .int i5), (4, .int i4), (3, .int i3), (0, .ref a0), (1, .int i1), (2, .int i2)]) (kX12_was_1 32 rfl) rfl rfl rfl (Nat.le_of_ble_eq_true rfl) rfl ?_
          refine X_goto (tgt := 210) (kX12_was_1 33 rfl) rfl ?_
          exact X_L [0, 1, 2, 3, 4, 5, 6, 7, 8, 9] rfl (ih (1 : Int32) (i10 + 1))
        · refine X_iconst (n := 243) (v := 0) (kX12_was_1 30 rfl) rfl (by decide) ?_
          refine X_istore (n := 245) (L1 := [(9, .int 0), (10, .int i10), (7, .int i7), (6, .int i6), (5, .int i5), (4, .int i4), (3, .int i3), (0, .ref a0), (1, .int i1), (2, .int i2)]) (kX12_was_1 31 rfl) rfl (Nat.le_of_ble_eq_true rfl) rfl ?_
          refine X_iinc (n := 248) 1 (v := (i10 + 1)) (L1 := [(10, .int (i10 + 1)), (9, .int 0), (7, .int i7), (6, .int i6), (5, .int i5), (4, .int i4), (3, .int i3), (0, .ref a0), (1, .int i1), (2, .int i2)]) (kX12_was_1 32 rfl) rfl rfl rfl (Nat.le_of_ble_eq_true rfl) rfl ?_
          refine X_goto (tgt := 210) (kX12_was_1 33 rfl) rfl ?_
          exact X_L [0, 1, 2, 3, 4, 5, 6, 7, 8, 9] rfl (ih (0 : Int32) (i10 + 1))
set_option maxHeartbeats 4000000 in
set_option maxRecDepth 100000 in
theorem w_X12_was_L262 {l : Launch} {g : XG} {G : (XS) → Option (Int32 × XS)}  {i7 : Int32} {i6 : Int32} {i5 : Int32} {i4 : Int32} {i3 : Int32} {a0 : Nat} {i1 : Int32} {i2 : Int32} (hk0 : kd a0 = 12) (kE : ∀ (S1 : XS), X φI l g 3 mX12_was 315 [(7, .int i7), (6, .int i6), (5, .int i5), (4, .int i4), (3, .int i3), (0, .ref a0), (1, .int i1), (2, .int i2)] [] S1 (G S1)) : ∀ (n : Nat) (i10 : Int32) (S : XS), X φI l g 3 mX12_was 262 [(10, .int i10), (7, .int i7), (6, .int i6), (5, .int i5), (4, .int i4), (3, .int i3), (0, .ref a0), (1, .int i1), (2, .int i2)] [] S ((f_X12_was_L262 i7 i6 i5 i4 i3 a0 i1 i2 n i10 S).bind G) := by
  intro n
  induction n with
  | zero => intro i10 S; exact X_none
  | succ n ih =>
  · intro i10 S
    rw [f_X12_was_L262]
    refine X_iload (n := 264) 0 (kX12_was_1 39 rfl) rfl rfl ?_
    refine X_iload_n (n := 265) 8 (kX12_was_1 40 rfl) rfl rfl rfl ?_
    refine X_itebind ?_
    refine X_ic_ge (n := 268) (tgt := 315) (kX12_was_1 41 rfl) rfl rfl (fun h28 => ?_) (fun h28 => ?_)
    · exact X_L [1, 2, 3, 4, 5, 6, 7, 8] rfl (kE S)
    · refine X_aload_n (n := 269) 6 (kX12_was_1 42 rfl) rfl rfl rfl ?_
      refine X_getR (n := 272) xf_X12 hk0 (by decide) fl_X12_66 rfl (kX12_was_1 43 rfl) rfl ?_
      refine X_bipush (n := 274) (v := 6) (kX12_was_1 44 rfl) rfl (by decide) ?_
      refine X_iload (n := 276) 0 (kX12_was_1 45 rfl) rfl rfl ?_
      refine X_imul (n := 277) (kX12_was_1 46 rfl) rfl ?_
      refine X_aload_n (n := 278) 6 (kX12_was_1 47 rfl) rfl rfl rfl ?_
      refine X_getR (n := 281) xf_X12 hk0 (by decide) fl_X12_75 rfl (kX12_was_1 48 rfl) rfl ?_
      refine X_iload (n := 283) 0 (kX12_was_1 49 rfl) rfl rfl ?_
      refine X_itebind ?_
      refine X_iald (n := 284) (kt_12_38 hk0) (kX12_was_1 50 rfl) rfl (fun h34 => ?_)
      refine X_iadd (n := 285) (kX12_was_1 51 rfl) rfl ?_
      refine X_dup2 (n := 286) (kX12_was_1 52 rfl) rfl rfl rfl ?_
      refine X_itebind ?_
      refine X_iald (n := 287) (kt_12_35 hk0) (kX12_was_1 53 rfl) rfl (fun h33 => ?_)
      refine X_iconst (n := 288) (v := 1) (kX12_was_1 54 rfl) rfl (by decide) ?_
      refine X_iadd (n := 289) (kX12_was_1 55 rfl) rfl ?_
      refine X_itebind ?_
      refine X_iast (n := 290) (kt_12_35 hk0) (kX12_was_1 56 rfl) rfl (fun h32 => ?_)
      refine X_iload (n := 292) 2 (kX12_was_1 57 rfl) rfl rfl ?_
      refine X_itebind ?_
      refine X_if_ne (n := 295) (tgt := 309) (kX12_was_1 58 rfl) rfl rfl (fun h29 => ?_) (fun h29 => ?_)
      · refine X_aload_n (n := 296) 6 (kX12_was_1 59 rfl) rfl rfl rfl ?_
        refine X_getR (n := 299) xf_X12 hk0 (by decide) fl_X12_69 rfl (kX12_was_1 60 rfl) rfl ?_
        refine X_iload (n := 301) 0 (kX12_was_1 61 rfl) rfl rfl ?_
        refine X_aload_n (n := 302) 6 (kX12_was_1 62 rfl) rfl rfl rfl ?_
        refine X_getR (n := 305) xf_X12 hk0 (by decide) fl_X12_75 rfl (kX12_was_1 63 rfl) rfl ?_
        refine X_iload (n := 307) 0 (kX12_was_1 64 rfl) rfl rfl ?_
        refine X_itebind ?_
        refine X_iald (n := 308) (kt_12_38 hk0) (kX12_was_1 65 rfl) rfl (fun h31 => ?_)
        refine X_itebind ?_
        refine X_iast (n := 309) (kt_12_36 hk0) (kX12_was_1 66 rfl) rfl (fun h30 => ?_)
        refine X_iinc (n := 312) 0 (v := (i10 + 1)) (L1 := [(10, .int (i10 + 1)), (7, .int i7), (6, .int i6), (5, .int i5), (4, .int i4), (3, .int i3), (0, .ref a0), (1, .int i1), (2, .int i2)]) (kX12_was_1 67 rfl) rfl rfl rfl (Nat.le_of_ble_eq_true rfl) rfl ?_
        refine X_goto (tgt := 262) (kX12_was_1 68 rfl) rfl ?_
        exact X_L [0, 1, 2, 3, 4, 5, 6, 7, 8] rfl (ih (i10 + 1) (sI (sI S (rf a0 35) ((((6 : Int32) * i10) + (S.1 (rf a0 38) i10.toNatClampNeg)).toNatClampNeg) ((S.1 (rf a0 35) (((6 : Int32) * i10) + (S.1 (rf a0 38) i10.toNatClampNeg)).toNatClampNeg) + (1 : Int32))) (rf a0 36) i10.toNatClampNeg ((sI S (rf a0 35) ((((6 : Int32) * i10) + (S.1 (rf a0 38) i10.toNatClampNeg)).toNatClampNeg) ((S.1 (rf a0 35) (((6 : Int32) * i10) + (S.1 (rf a0 38) i10.toNatClampNeg)).toNatClampNeg) + (1 : Int32))).1 (rf a0 38) i10.toNatClampNeg)))
      · refine X_iinc (n := 312) 0 (v := (i10 + 1)) (L1 := [(10, .int (i10 + 1)), (7, .int i7), (6, .int i6), (5, .int i5), (4, .int i4), (3, .int i3), (0, .ref a0), (1, .int i1), (2, .int i2)]) (kX12_was_1 67 rfl) rfl rfl rfl (Nat.le_of_ble_eq_true rfl) rfl ?_
        refine X_goto (tgt := 262) (kX12_was_1 68 rfl) rfl ?_
        exact X_L [0, 1, 2, 3, 4, 5, 6, 7, 8] rfl (ih (i10 + 1) (sI S (rf a0 35) ((((6 : Int32) * i10) + (S.1 (rf a0 38) i10.toNatClampNeg)).toNatClampNeg) ((S.1 (rf a0 35) (((6 : Int32) * i10) + (S.1 (rf a0 38) i10.toNatClampNeg)).toNatClampNeg) + (1 : Int32))))
set_option maxHeartbeats 4000000 in
set_option maxRecDepth 100000 in
theorem w_X12_was_L152 {l : Launch} {g : XG} {G : (Int32 × XS) → Option (Int32 × XS)}  {i5 : Int32} {i4 : Int32} {i3 : Int32} {a0 : Nat} {i1 : Int32} {i2 : Int32} (hk0 : kd a0 = 12) (kE : ∀ (e6 : Int32) (S1 : XS), X φI l g 3 mX12_was 334 [(6, .int e6)] [] S1 (G (e6, S1))) : ∀ (n : Nat) (i6 : Int32) (i7 : Int32) (S : XS), X φI l g 3 mX12_was 152 [(7, .int i7), (6, .int i6), (5, .int i5), (4, .int i4), (3, .int i3), (0, .ref a0), (1, .int i1), (2, .int i2)] [] S ((f_X12_was_L152 i5 i4 i3 a0 i1 i2 n i6 i7 S).bind G) := by
  intro n
  induction n with
  | zero => intro i6 i7 S; exact X_none
  | succ n ih =>
  · intro i6 i7 S
    rw [f_X12_was_L152]
    refine X_iload (n := 154) 0 (kX12_was 82 rfl) rfl rfl ?_
    refine X_iload (n := 156) 2 (kX12_was 83 rfl) rfl rfl ?_
    refine X_itebind ?_
    refine X_ic_ge (n := 159) (tgt := 334) (kX12_was 84 rfl) rfl rfl (fun h14 => ?_) (fun h14 => ?_)
    · exact X_L [1] rfl (kE i6 S)
    · refine X_iload (n := 161) 0 (kX12_was 85 rfl) rfl rfl ?_
      refine X_istore (n := 163) (L1 := [(8, .int i7), (7, .int i7), (6, .int i6), (5, .int i5), (4, .int i4), (3, .int i3), (0, .ref a0), (1, .int i1), (2, .int i2)]) (kX12_was 86 rfl) rfl (Nat.le_of_ble_eq_true rfl) rfl ?_
      refine X_iload_n (n := 164) 8 (kX12_was 87 rfl) rfl rfl rfl ?_
      refine X_iconst (n := 165) (v := 1) (kX12_was 88 rfl) rfl (by decide) ?_
      refine X_isub (n := 166) (kX12_was 89 rfl) rfl ?_
      refine X_istore (n := 168) (L1 := [(9, .int (i2 - (1 : Int32))), (8, .int i7), (7, .int i7), (6, .int i6), (5, .int i5), (4, .int i4), (3, .int i3), (0, .ref a0), (1, .int i1), (2, .int i2)]) (kX12_was 90 rfl) rfl (Nat.le_of_ble_eq_true rfl) rfl ?_
      refine X_assoc ?_
      refine X_L [0, 1, 2, 3, 4, 5, 6, 7, 8, 9] rfl (w_X12_was_L168 hk0 (fun S19 => ?_) 1000000 i7 (i2 - (1 : Int32)) S)
      try dsimp only
      refine X_aload_n (n := 199) 5 (kX12_was_1 6 rfl) rfl rfl rfl ?_
      refine X_iload_n (n := 200) 6 (kX12_was_1 7 rfl) rfl rfl rfl ?_
      refine X_iload_n (n := 201) 7 (kX12_was_1 8 rfl) rfl rfl rfl ?_
      refine X_assoc ?_
      refine X_callVV (n := 204) (As := [.int i1, .int i2]) (st := []) (kX12_was_1 9 rfl) rfl (w_X12_wearThrough hk0) (by decide) ml_X12_345 mf_X12_wearThrough rfl hk0 xf_X12 rfl (Nat.le_of_ble_eq_true rfl) (fun S20 hq => ?_)
      try dsimp only
      refine X_iconst (n := 205) (v := 1) (kX12_was_1 10 rfl) rfl (by decide) ?_
      refine X_istore (n := 207) (L1 := [(9, .int 1), (7, .int i7), (6, .int i6), (5, .int i5), (4, .int i4), (3, .int i3), (0, .ref a0), (1, .int i1), (2, .int i2)]) (kX12_was_1 11 rfl) rfl (Nat.le_of_ble_eq_true rfl) rfl ?_
      refine X_iconst (n := 208) (v := 0) (kX12_was_1 12 rfl) rfl (by decide) ?_
      refine X_istore (n := 210) (L1 := [(10, .int 0), (9, .int 1), (7, .int i7), (6, .int i6), (5, .int i5), (4, .int i4), (3, .int i3), (0, .ref a0), (1, .int i1), (2, .int i2)]) (kX12_was_1 13 rfl) rfl (Nat.le_of_ble_eq_true rfl) rfl ?_
      refine X_assoc ?_
      refine X_L [0, 1, 2, 3, 4, 5, 6, 7, 8, 9] rfl (w_X12_was_L210 hk0 (fun e26 => ?_) 1000000 (1 : Int32) (0 : Int32))
      try dsimp only
      refine X_iload (n := 253) 0 (kX12_was_1 34 rfl) rfl rfl ?_
      refine X_itebind ?_
      refine X_if_ne (n := 256) (tgt := 259) (kX12_was_1 35 rfl) rfl rfl (fun h27 => ?_) (fun h27 => ?_)
      · refine X_goto (tgt := 328) (kX12_was_1 36 rfl) rfl ?_
        refine X_iinc (n := 331) 1 (v := (i7 + 1)) (L1 := [(7, .int (i7 + 1)), (9, .int e26), (6, .int i6), (5, .int i5), (4, .int i4), (3, .int i3), (0, .ref a0), (1, .int i1), (2, .int i2)]) (kX12_was_1 75 rfl) rfl rfl rfl (Nat.le_of_ble_eq_true rfl) rfl ?_
        refine X_goto (tgt := 152) (kX12_was_1 76 rfl) rfl ?_
        exact X_L [0, 2, 3, 4, 5, 6, 7, 8] rfl (ih i6 (i7 + 1) S20)
      · refine X_iconst (n := 260) (v := 0) (kX12_was_1 37 rfl) rfl (by decide) ?_
        refine X_istore (n := 262) (L1 := [(10, .int 0), (9, .int e26), (7, .int i7), (6, .int i6), (5, .int i5), (4, .int i4), (3, .int i3), (0, .ref a0), (1, .int i1), (2, .int i2)]) (kX12_was_1 38 rfl) rfl (Nat.le_of_ble_eq_true rfl) rfl ?_
        refine X_assoc ?_
        refine X_L [0, 2, 3, 4, 5, 6, 7, 8, 9] rfl (w_X12_was_L262 hk0 (fun S35 => ?_) 1000000 (0 : Int32) S20)
        try dsimp only
        refine X_iload (n := 317) 1 (kX12_was_1 69 rfl) rfl rfl ?_
        refine X_itebind ?_
        refine X_if_ne (n := 320) (tgt := 325) (kX12_was_1 70 rfl) rfl rfl (fun h36 => ?_) (fun h36 => ?_)
        · refine X_aload_n (n := 321) 5 (kX12_was_1 71 rfl) rfl rfl rfl ?_
          refine X_iload_n (n := 322) 7 (kX12_was_1 72 rfl) rfl rfl rfl ?_
          refine X_putI (n := 325) xf_X12 hk0 (by decide) fl_X12_348 rfl rfl (Or.inl rfl) (kX12_was_1 73 rfl) rfl ?_
          refine X_iinc (n := 328) 1 (v := (i6 + 1)) (L1 := [(6, .int (i6 + 1)), (7, .int i7), (5, .int i5), (4, .int i4), (3, .int i3), (0, .ref a0), (1, .int i1), (2, .int i2)]) (kX12_was_1 74 rfl) rfl rfl rfl (Nat.le_of_ble_eq_true rfl) rfl ?_
          refine X_iinc (n := 331) 1 (v := (i7 + 1)) (L1 := [(7, .int (i7 + 1)), (6, .int (i6 + 1)), (5, .int i5), (4, .int i4), (3, .int i3), (0, .ref a0), (1, .int i1), (2, .int i2)]) (kX12_was_1 75 rfl) rfl rfl rfl (Nat.le_of_ble_eq_true rfl) rfl ?_
          refine X_goto (tgt := 152) (kX12_was_1 76 rfl) rfl ?_
          exact X_L [0, 1, 2, 3, 4, 5, 6, 7] rfl (ih (i6 + 1) (i7 + 1) (sI S35 a0 41 i2))
        · refine X_iinc (n := 328) 1 (v := (i6 + 1)) (L1 := [(6, .int (i6 + 1)), (7, .int i7), (5, .int i5), (4, .int i4), (3, .int i3), (0, .ref a0), (1, .int i1), (2, .int i2)]) (kX12_was_1 74 rfl) rfl rfl rfl (Nat.le_of_ble_eq_true rfl) rfl ?_
          refine X_iinc (n := 331) 1 (v := (i7 + 1)) (L1 := [(7, .int (i7 + 1)), (6, .int (i6 + 1)), (5, .int i5), (4, .int i4), (3, .int i3), (0, .ref a0), (1, .int i1), (2, .int i2)]) (kX12_was_1 75 rfl) rfl rfl rfl (Nat.le_of_ble_eq_true rfl) rfl ?_
          refine X_goto (tgt := 152) (kX12_was_1 76 rfl) rfl ?_
          exact X_L [0, 1, 2, 3, 4, 5, 6, 7] rfl (ih (i6 + 1) (i7 + 1) S35)
set_option maxHeartbeats 4000000 in
set_option maxRecDepth 100000 in
theorem w_X12_was {l : Launch} {g : XG}  {a0 : Nat} {i1 : Int32} {i2 : Int32} {S : XS} (hk0 : kd a0 = 12) : Cl φI l g 3 mX12_was [.ref a0, .int i1, .int i2] S (f_X12_was a0 i1 i2 S) := by
  refine Cl.of (by decide +kernel) (Nat.le_of_ble_eq_true rfl) ?_
  unfold f_X12_was
  show X _ _ _ _ _ 0 [(0, .ref a0), (1, .int i1), (2, .int i2)] [] S _
  refine X_aload_n (n := 1) 0 (kX12_was 0 rfl) rfl rfl rfl ?_
  refine X_iconst (n := 2) (v := 0) (kX12_was 1 rfl) rfl (by decide) ?_
  refine X_putI (n := 5) xf_X12 hk0 (by decide) fl_X12_100 rfl rfl (Or.inl rfl) (kX12_was 2 rfl) rfl ?_
  refine X_aload_n (n := 6) 0 (kX12_was 3 rfl) rfl rfl rfl ?_
  refine X_callV1I (n := 9) (As := []) (st := []) (kX12_was 4 rfl) rfl (p_X12_take hk0) (by decide) ml_X12_186 mf_X12_take rfl hk0 xf_X12 rfl (Nat.le_of_ble_eq_true rfl) ?_
  refine X_istore_n (n := 10) (L1 := [(3, .int (t_X12_take a0 (sI S a0 0 (0 : Int32))).1), (0, .ref a0), (1, .int i1), (2, .int i2)]) (kX12_was 5 rfl) rfl rfl (Nat.le_of_ble_eq_true rfl) rfl ?_
  refine X_aload_n (n := 11) 1 (kX12_was 6 rfl) rfl rfl rfl ?_
  refine X_iload_n (n := 12) 2 (kX12_was 7 rfl) rfl rfl rfl ?_
  refine X_callV1B (n := 15) (As := [.int i1]) (st := []) (kX12_was 8 rfl) rfl (p_X12_isWitness hk0) (by decide) ml_X12_263 mf_X12_isWitness rfl hk0 xf_X12 rfl (Nat.le_of_ble_eq_true rfl) ?_
  refine X_bz (n := 18) (tgt := 38) (kX12_was 9 rfl) rfl rfl (fun h1 => ?_) (fun h1 => ?_)
  · refine X_iload_n (n := 19) 3 (kX12_was 10 rfl) rfl rfl rfl ?_
    refine X_iconst (n := 20) (v := 1) (kX12_was 11 rfl) rfl (by decide) ?_
    refine X_bipush (n := 22) (v := 6) (kX12_was 12 rfl) rfl (by decide) ?_
    refine X_callS1B (n := 25) (As := [.int i2, .int (1 : Int32), .int (6 : Int32)]) (st := []) (kX12_was 13 rfl) rfl p_X12_isIn (by decide) ml_X12_169 mf_X12_isIn rfl rfl (Nat.le_of_ble_eq_true rfl) ?_
    refine X_bz (n := 28) (tgt := 38) (kX12_was 14 rfl) rfl rfl (fun h2 => ?_) (fun h2 => ?_)
    · refine X_iload_n (n := 29) 0 (kX12_was 15 rfl) rfl rfl rfl ?_
      refine X_aload_n (n := 30) 1 (kX12_was 16 rfl) rfl rfl rfl ?_
      refine X_getR (n := 33) xf_X12 hk0 (by decide) fl_X12_13 rfl (kX12_was 17 rfl) rfl ?_
      refine X_iconst (n := 34) (v := 0) (kX12_was 18 rfl) rfl (by decide) ?_
      refine X_iald' (n := 35) (kt_12_14 hk0) (kX12_was 19 rfl) rfl (by rw [lt_12_14 hk0]; decide) ?_
      refine X_ic_eq (n := 38) (tgt := 40) (kX12_was 20 rfl) rfl rfl (fun h3 => ?_) (fun h3 => ?_)
      · refine X_iconst (n := 41) (v := 0) (kX12_was 23 rfl) rfl (by decide) ?_
        refine X_istore (n := 43) (L1 := [(4, .int 0), (3, .int (t_X12_take a0 (sI S a0 0 (0 : Int32))).1), (0, .ref a0), (1, .int i1), (2, .int i2)]) (kX12_was 24 rfl) rfl (Nat.le_of_ble_eq_true rfl) rfl ?_
        refine X_L [0, 1, 2, 3, 4] rfl (w_X12_was_L43 hk0 (fun S7 => ?_) 1000000 (0 : Int32) ((t_X12_take a0 (sI S a0 0 (0 : Int32))).2))
        try dsimp only
        refine X_iconst (n := 70) (v := 0) (kX12_was 38 rfl) rfl (by decide) ?_
        refine X_istore (n := 72) (L1 := [(4, .int 0), (3, .int (t_X12_take a0 (sI S a0 0 (0 : Int32))).1), (0, .ref a0), (1, .int i1), (2, .int i2)]) (kX12_was 39 rfl) rfl (Nat.le_of_ble_eq_true rfl) rfl ?_
        refine X_L [0, 1, 2, 3, 4] rfl (w_X12_was_L72 hk0 (fun S10 => ?_) 1000000 (0 : Int32) S7)
        try dsimp only
        refine X_aload_n (n := 94) 1 (kX12_was 50 rfl) rfl rfl rfl ?_
        refine X_iload_n (n := 95) 3 (kX12_was 51 rfl) rfl rfl rfl ?_
        refine X_putI (n := 98) xf_X12 hk0 (by decide) fl_X12_78 rfl rfl (Or.inl rfl) (kX12_was 52 rfl) rfl ?_
        refine X_aload_n (n := 99) 1 (kX12_was 53 rfl) rfl rfl rfl ?_
        refine X_getR (n := 102) xf_X12 hk0 (by decide) fl_X12_13 rfl (kX12_was 54 rfl) rfl ?_
        refine X_iconst (n := 103) (v := 1) (kX12_was 55 rfl) rfl (by decide) ?_
        refine X_iald' (n := 104) (kt_12_14 hk0) (kX12_was 56 rfl) rfl (by rw [lt_12_14 hk0]; decide) ?_
        refine X_istore (n := 106) (L1 := [(4, .int ((sI S10 a0 39 i2).1 (rf a0 14) 1)), (3, .int (t_X12_take a0 (sI S a0 0 (0 : Int32))).1), (0, .ref a0), (1, .int i1), (2, .int i2)]) (kX12_was 57 rfl) rfl (Nat.le_of_ble_eq_true rfl) rfl ?_
        refine X_aload_n (n := 107) 2 (kX12_was 58 rfl) rfl rfl rfl ?_
        refine X_iload (n := 109) 0 (kX12_was 59 rfl) rfl rfl ?_
        refine X_putI (n := 112) xf_X12 hk0 (by decide) fl_X12_342 rfl rfl (Or.inl rfl) (kX12_was 60 rfl) rfl ?_
        refine X_iload (n := 114) 0 (kX12_was 61 rfl) rfl rfl ?_
        refine X_join 122 (fun x11 => [(4, .int ((sI S10 a0 39 i2).1 (rf a0 14) 1)), (3, .int (t_X12_take a0 (sI S a0 0 (0 : Int32))).1), (0, .ref a0), (1, .int i1), (2, .int i2)]) (fun x11 => [.int (bi x11)]) (fun x11 => (sI (sI S10 a0 39 i2) a0 40 ((sI S10 a0 39 i2).1 (rf a0 14) 1))) (fun x11 => ?_) (fun kJ => ?_)
        · try dsimp only
          refine X_istore (n := 124) (L1 := [(5, .int (bi x11)), (4, .int ((sI S10 a0 39 i2).1 (rf a0 14) 1)), (3, .int (t_X12_take a0 (sI S a0 0 (0 : Int32))).1), (0, .ref a0), (1, .int i1), (2, .int i2)]) (kX12_was 66 rfl) rfl (Nat.le_of_ble_eq_true rfl) rfl ?_
          refine X_iconst (n := 125) (v := 0) (kX12_was 67 rfl) rfl (by decide) ?_
          refine X_istore (n := 127) (L1 := [(6, .int 0), (5, .int (bi x11)), (4, .int ((sI S10 a0 39 i2).1 (rf a0 14) 1)), (3, .int (t_X12_take a0 (sI S a0 0 (0 : Int32))).1), (0, .ref a0), (1, .int i1), (2, .int i2)]) (kX12_was 68 rfl) rfl (Nat.le_of_ble_eq_true rfl) rfl ?_
          refine X_L [0, 1, 2, 3, 4, 5, 6] rfl (w_X12_was_L127 hk0 (fun e13 => ?_) 1000000 (bi x11) (0 : Int32))
          try dsimp only
          refine X_iconst (n := 147) (v := 0) (kX12_was 78 rfl) rfl (by decide) ?_
          refine X_istore (n := 149) (L1 := [(6, .int 0), (5, .int e13), (4, .int ((sI S10 a0 39 i2).1 (rf a0 14) 1)), (3, .int (t_X12_take a0 (sI S a0 0 (0 : Int32))).1), (0, .ref a0), (1, .int i1), (2, .int i2)]) (kX12_was 79 rfl) rfl (Nat.le_of_ble_eq_true rfl) rfl ?_
          refine X_iconst (n := 150) (v := 0) (kX12_was 80 rfl) rfl (by decide) ?_
          refine X_istore (n := 152) (L1 := [(7, .int 0), (6, .int 0), (5, .int e13), (4, .int ((sI S10 a0 39 i2).1 (rf a0 14) 1)), (3, .int (t_X12_take a0 (sI S a0 0 (0 : Int32))).1), (0, .ref a0), (1, .int i1), (2, .int i2)]) (kX12_was 81 rfl) rfl (Nat.le_of_ble_eq_true rfl) rfl ?_
          refine X_L [0, 1, 2, 3, 4, 5, 6, 7] rfl (w_X12_was_L152 hk0 (fun e37 S38 => ?_) 1000000 (0 : Int32) (0 : Int32) (sI (sI S10 a0 39 i2) a0 40 ((sI S10 a0 39 i2).1 (rf a0 14) 1)))
          try dsimp only
          refine X_iload (n := 336) 0 (kX12_was_1 77 rfl) rfl rfl ?_
          exact X_iret rfl (kX12_was_1 78 rfl)
        · refine X_itebind ?_
          refine X_if_ne (n := 117) (tgt := 121) (kX12_was 62 rfl) rfl rfl (fun h39 => ?_) (fun h39 => ?_)
          · refine X_iconst (n := 118) (v := 0) (kX12_was 63 rfl) rfl (by decide) ?_
            refine X_goto (tgt := 122) (kX12_was 64 rfl) rfl ?_
            exact X_L [0, 1, 2, 3, 4] rfl (kJ false)
          · refine X_iconst (n := 122) (v := 1) (kX12_was 65 rfl) rfl (by decide) ?_
            exact X_L [0, 1, 2, 3, 4] rfl (kJ true)
      · refine X_iconst (n := 39) (v := (-1)) (kX12_was 21 rfl) rfl (by decide) ?_
        exact X_iret rfl (kX12_was 22 rfl)
    · refine X_iconst (n := 39) (v := (-1)) (kX12_was 21 rfl) rfl (by decide) ?_
      exact X_iret rfl (kX12_was 22 rfl)
  · refine X_iconst (n := 39) (v := (-1)) (kX12_was 21 rfl) rfl (by decide) ?_
    exact X_iret rfl (kX12_was 22 rfl)
def f_X12_unlike  (a0 : Nat) (i1 : Int32) (i2 : Int32) (S : XS) : Option (Int32 × XS) := (if (t_X12_isCloth a0 i1 (sI S a0 0 (0 : Int32))) = true then (if (t_X12_isWitness a0 i2 (sI S a0 0 (0 : Int32))) = true then ((f_X12_apart a0 (t_X12_clothAt a0 i1) ((157 : Int32) + ((6 : Int32) * i2)) (sI S a0 0 (0 : Int32))).bind (fun q => match q with | (r3, S4) => some (r3, S4))) else some ((-1 : Int32), (sI S a0 0 (0 : Int32)))) else some ((-1 : Int32), (sI S a0 0 (0 : Int32))))
set_option maxHeartbeats 4000000 in
set_option maxRecDepth 100000 in
theorem w_X12_unlike {l : Launch} {g : XG}  {a0 : Nat} {i1 : Int32} {i2 : Int32} {S : XS} (hk0 : kd a0 = 12) : Cl φI l g 3 mX12_unlike [.ref a0, .int i1, .int i2] S (f_X12_unlike a0 i1 i2 S) := by
  refine Cl.of (by decide +kernel) (Nat.le_of_ble_eq_true rfl) ?_
  unfold f_X12_unlike
  show X _ _ _ _ _ 0 [(0, .ref a0), (1, .int i1), (2, .int i2)] [] S _
  refine X_aload_n (n := 1) 0 (kX12_unlike 0 rfl) rfl rfl rfl ?_
  refine X_iconst (n := 2) (v := 0) (kX12_unlike 1 rfl) rfl (by decide) ?_
  refine X_putI (n := 5) xf_X12 hk0 (by decide) fl_X12_100 rfl rfl (Or.inl rfl) (kX12_unlike 2 rfl) rfl ?_
  refine X_aload_n (n := 6) 0 (kX12_unlike 3 rfl) rfl rfl rfl ?_
  refine X_iload_n (n := 7) 1 (kX12_unlike 4 rfl) rfl rfl rfl ?_
  refine X_callV1B (n := 10) (As := [.int i1]) (st := []) (kX12_unlike 5 rfl) rfl (p_X12_isCloth hk0) (by decide) ml_X12_278 mf_X12_isCloth rfl hk0 xf_X12 rfl (Nat.le_of_ble_eq_true rfl) ?_
  refine X_bz (n := 13) (tgt := 41) (kX12_unlike 6 rfl) rfl rfl (fun h1 => ?_) (fun h1 => ?_)
  · refine X_aload_n (n := 14) 0 (kX12_unlike 7 rfl) rfl rfl rfl ?_
    refine X_iload_n (n := 15) 2 (kX12_unlike 8 rfl) rfl rfl rfl ?_
    refine X_callV1B (n := 18) (As := [.int i2]) (st := []) (kX12_unlike 9 rfl) rfl (p_X12_isWitness hk0) (by decide) ml_X12_263 mf_X12_isWitness rfl hk0 xf_X12 rfl (Nat.le_of_ble_eq_true rfl) ?_
    refine X_bz (n := 21) (tgt := 41) (kX12_unlike 10 rfl) rfl rfl (fun h2 => ?_) (fun h2 => ?_)
    · refine X_aload_n (n := 22) 0 (kX12_unlike 11 rfl) rfl rfl rfl ?_
      refine X_aload_n (n := 23) 0 (kX12_unlike 12 rfl) rfl rfl rfl ?_
      refine X_iload_n (n := 24) 1 (kX12_unlike 13 rfl) rfl rfl rfl ?_
      refine X_callV1I (n := 27) (As := [.int i1]) (st := [.ref a0]) (kX12_unlike 14 rfl) rfl (p_X12_clothAt hk0) (by decide) ml_X12_365 mf_X12_clothAt rfl hk0 xf_X12 rfl (Nat.le_of_ble_eq_true rfl) ?_
      refine X_sipush (n := 30) (v := 157) (kX12_unlike 15 rfl) rfl (by decide) ?_
      refine X_bipush (n := 32) (v := 6) (kX12_unlike 16 rfl) rfl (by decide) ?_
      refine X_iload_n (n := 33) 2 (kX12_unlike 17 rfl) rfl rfl rfl ?_
      refine X_imul (n := 34) (kX12_unlike 18 rfl) rfl ?_
      refine X_iadd (n := 35) (kX12_unlike 19 rfl) rfl ?_
      refine X_callVI (n := 38) (As := [.int (t_X12_clothAt a0 i1), .int ((157 : Int32) + ((6 : Int32) * i2))]) (st := []) (kX12_unlike 20 rfl) rfl (w_X12_apart hk0) (by decide) ml_X12_368 mf_X12_apart rfl hk0 xf_X12 rfl (Nat.le_of_ble_eq_true rfl) (fun r3 S4 hq => ?_)
      try dsimp only
      refine X_goto (tgt := 42) (kX12_unlike 21 rfl) rfl ?_
      exact X_iret rfl (kX12_unlike 23 rfl)
    · refine X_iconst (n := 42) (v := (-1)) (kX12_unlike 22 rfl) rfl (by decide) ?_
      exact X_iret rfl (kX12_unlike 23 rfl)
  · refine X_iconst (n := 42) (v := (-1)) (kX12_unlike 22 rfl) rfl (by decide) ?_
    exact X_iret rfl (kX12_unlike 23 rfl)
def f_X12_dog_L19  (a0 : Nat) (i1 : Int32) : Nat → Int32 → Int32 → XS → Option (Int32 × XS)
  | 0, _, _, _ => none
  | n + 1, i2, i3, S => (if (S.1 (rf a0 14) 3) ≤ i3 then some (i2, S) else ((f_X12_apart a0 (t_X12_clothAt a0 i1) ((157 : Int32) + ((6 : Int32) * i3)) S).bind (fun q => match q with | (r3, S4) => ((f_X12_apart a0 (t_X12_clothAt a0 i1) ((157 : Int32) + ((6 : Int32) * i2)) S4).bind (fun q => match q with | (r5, S6) => (if r5 ≤ r3 then f_X12_dog_L19 a0 i1 n i2 (i3 + 1) S6 else f_X12_dog_L19 a0 i1 n i3 (i3 + 1) S6))))))
def f_X12_dog  (a0 : Nat) (i1 : Int32) (S : XS) : Option (Int32 × XS) := (if (t_X12_isCloth a0 i1 (sI S a0 0 (0 : Int32))) = true then ((f_X12_dog_L19 a0 i1 1000000 (0 : Int32) (1 : Int32) (sI S a0 0 (0 : Int32))).bind (fun q => match q with | (e8, S9) => some (e8, S9))) else some ((-1 : Int32), (sI S a0 0 (0 : Int32))))
set_option maxHeartbeats 4000000 in
set_option maxRecDepth 100000 in
theorem w_X12_dog_L19 {l : Launch} {g : XG} {G : (Int32 × XS) → Option (Int32 × XS)}  {a0 : Nat} {i1 : Int32} (hk0 : kd a0 = 12) (kE : ∀ (e2 : Int32) (S1 : XS), X φI l g 3 mX12_dog 74 [(2, .int e2)] [] S1 (G (e2, S1))) : ∀ (n : Nat) (i2 : Int32) (i3 : Int32) (S : XS), X φI l g 3 mX12_dog 19 [(3, .int i3), (2, .int i2), (0, .ref a0), (1, .int i1)] [] S ((f_X12_dog_L19 a0 i1 n i2 i3 S).bind G) := by
  intro n
  induction n with
  | zero => intro i2 i3 S; exact X_none
  | succ n ih =>
  · intro i2 i3 S
    rw [f_X12_dog_L19]
    refine X_iload_n (n := 20) 0 (kX12_dog 13 rfl) rfl rfl rfl ?_
    refine X_aload_n (n := 21) 2 (kX12_dog 14 rfl) rfl rfl rfl ?_
    refine X_getR (n := 24) xf_X12 hk0 (by decide) fl_X12_13 rfl (kX12_dog 15 rfl) rfl ?_
    refine X_iconst (n := 25) (v := 3) (kX12_dog 16 rfl) rfl (by decide) ?_
    refine X_iald' (n := 26) (kt_12_14 hk0) (kX12_dog 17 rfl) rfl (by rw [lt_12_14 hk0]; decide) ?_
    refine X_itebind ?_
    refine X_ic_ge (n := 29) (tgt := 74) (kX12_dog 18 rfl) rfl rfl (fun h2 => ?_) (fun h2 => ?_)
    · exact X_L [1] rfl (kE i2 S)
    · refine X_aload_n (n := 30) 2 (kX12_dog 19 rfl) rfl rfl rfl ?_
      refine X_aload_n (n := 31) 2 (kX12_dog 20 rfl) rfl rfl rfl ?_
      refine X_iload_n (n := 32) 3 (kX12_dog 21 rfl) rfl rfl rfl ?_
      refine X_callV1I (n := 35) (As := [.int i1]) (st := [.ref a0]) (kX12_dog 22 rfl) rfl (p_X12_clothAt hk0) (by decide) ml_X12_365 mf_X12_clothAt rfl hk0 xf_X12 rfl (Nat.le_of_ble_eq_true rfl) ?_
      refine X_sipush (n := 38) (v := 157) (kX12_dog 23 rfl) rfl (by decide) ?_
      refine X_bipush (n := 40) (v := 6) (kX12_dog 24 rfl) rfl (by decide) ?_
      refine X_iload_n (n := 41) 0 (kX12_dog 25 rfl) rfl rfl rfl ?_
      refine X_imul (n := 42) (kX12_dog 26 rfl) rfl ?_
      refine X_iadd (n := 43) (kX12_dog 27 rfl) rfl ?_
      refine X_assoc ?_
      refine X_callVI (n := 46) (As := [.int (t_X12_clothAt a0 i1), .int ((157 : Int32) + ((6 : Int32) * i3))]) (st := []) (kX12_dog 28 rfl) rfl (w_X12_apart hk0) (by decide) ml_X12_368 mf_X12_apart rfl hk0 xf_X12 rfl (Nat.le_of_ble_eq_true rfl) (fun r3 S4 hq => ?_)
      try dsimp only
      refine X_aload_n (n := 47) 2 (kX12_dog 29 rfl) rfl rfl rfl ?_
      refine X_aload_n (n := 48) 2 (kX12_dog 30 rfl) rfl rfl rfl ?_
      refine X_iload_n (n := 49) 3 (kX12_dog 31 rfl) rfl rfl rfl ?_
      refine X_callV1I (n := 52) (As := [.int i1]) (st := [.ref a0, .int r3]) (kX12_dog 32 rfl) rfl (p_X12_clothAt hk0) (by decide) ml_X12_365 mf_X12_clothAt rfl hk0 xf_X12 rfl (Nat.le_of_ble_eq_true rfl) ?_
      refine X_sipush (n := 55) (v := 157) (kX12_dog 33 rfl) rfl (by decide) ?_
      refine X_bipush (n := 57) (v := 6) (kX12_dog 34 rfl) rfl (by decide) ?_
      refine X_iload_n (n := 58) 1 (kX12_dog 35 rfl) rfl rfl rfl ?_
      refine X_imul (n := 59) (kX12_dog 36 rfl) rfl ?_
      refine X_iadd (n := 60) (kX12_dog 37 rfl) rfl ?_
      refine X_assoc ?_
      refine X_callVI (n := 63) (As := [.int (t_X12_clothAt a0 i1), .int ((157 : Int32) + ((6 : Int32) * i2))]) (st := [.int r3]) (kX12_dog 38 rfl) rfl (w_X12_apart hk0) (by decide) ml_X12_368 mf_X12_apart rfl hk0 xf_X12 rfl (Nat.le_of_ble_eq_true rfl) (fun r5 S6 hq => ?_)
      try dsimp only
      refine X_itebind ?_
      refine X_ic_ge (n := 66) (tgt := 68) (kX12_dog 39 rfl) rfl rfl (fun h7 => ?_) (fun h7 => ?_)
      · refine X_iinc (n := 71) 0 (v := (i3 + 1)) (L1 := [(3, .int (i3 + 1)), (2, .int i2), (0, .ref a0), (1, .int i1)]) (kX12_dog 42 rfl) rfl rfl rfl (Nat.le_of_ble_eq_true rfl) rfl ?_
        refine X_goto (tgt := 19) (kX12_dog 43 rfl) rfl ?_
        exact X_L [0, 1, 2, 3] rfl (ih i2 (i3 + 1) S6)
      · refine X_iload_n (n := 67) 0 (kX12_dog 40 rfl) rfl rfl rfl ?_
        refine X_istore_n (n := 68) (L1 := [(2, .int i3), (3, .int i3), (0, .ref a0), (1, .int i1)]) (kX12_dog 41 rfl) rfl rfl (Nat.le_of_ble_eq_true rfl) rfl ?_
        refine X_iinc (n := 71) 1 (v := (i3 + 1)) (L1 := [(3, .int (i3 + 1)), (2, .int i3), (0, .ref a0), (1, .int i1)]) (kX12_dog 42 rfl) rfl rfl rfl (Nat.le_of_ble_eq_true rfl) rfl ?_
        refine X_goto (tgt := 19) (kX12_dog 43 rfl) rfl ?_
        exact X_L [0, 1, 2, 3] rfl (ih i3 (i3 + 1) S6)
set_option maxHeartbeats 4000000 in
set_option maxRecDepth 100000 in
theorem w_X12_dog {l : Launch} {g : XG}  {a0 : Nat} {i1 : Int32} {S : XS} (hk0 : kd a0 = 12) : Cl φI l g 3 mX12_dog [.ref a0, .int i1] S (f_X12_dog a0 i1 S) := by
  refine Cl.of (by decide +kernel) (Nat.le_of_ble_eq_true rfl) ?_
  unfold f_X12_dog
  show X _ _ _ _ _ 0 [(0, .ref a0), (1, .int i1)] [] S _
  refine X_aload_n (n := 1) 0 (kX12_dog 0 rfl) rfl rfl rfl ?_
  refine X_iconst (n := 2) (v := 0) (kX12_dog 1 rfl) rfl (by decide) ?_
  refine X_putI (n := 5) xf_X12 hk0 (by decide) fl_X12_100 rfl rfl (Or.inl rfl) (kX12_dog 2 rfl) rfl ?_
  refine X_aload_n (n := 6) 0 (kX12_dog 3 rfl) rfl rfl rfl ?_
  refine X_iload_n (n := 7) 1 (kX12_dog 4 rfl) rfl rfl rfl ?_
  refine X_callV1B (n := 10) (As := [.int i1]) (st := []) (kX12_dog 5 rfl) rfl (p_X12_isCloth hk0) (by decide) ml_X12_278 mf_X12_isCloth rfl hk0 xf_X12 rfl (Nat.le_of_ble_eq_true rfl) ?_
  refine X_bn (n := 13) (tgt := 15) (kX12_dog 6 rfl) rfl rfl (fun h1 => ?_) (fun h1 => ?_)
  · refine X_iconst (n := 16) (v := 0) (kX12_dog 9 rfl) rfl (by decide) ?_
    refine X_istore_n (n := 17) (L1 := [(2, .int 0), (0, .ref a0), (1, .int i1)]) (kX12_dog 10 rfl) rfl rfl (Nat.le_of_ble_eq_true rfl) rfl ?_
    refine X_iconst (n := 18) (v := 1) (kX12_dog 11 rfl) rfl (by decide) ?_
    refine X_istore_n (n := 19) (L1 := [(3, .int 1), (2, .int 0), (0, .ref a0), (1, .int i1)]) (kX12_dog 12 rfl) rfl rfl (Nat.le_of_ble_eq_true rfl) rfl ?_
    refine X_L [0, 1, 2, 3] rfl (w_X12_dog_L19 hk0 (fun e8 S9 => ?_) 1000000 (0 : Int32) (1 : Int32) (sI S a0 0 (0 : Int32)))
    try dsimp only
    refine X_iload_n (n := 75) 0 (kX12_dog 44 rfl) rfl rfl rfl ?_
    exact X_iret rfl (kX12_dog 45 rfl)
  · refine X_iconst (n := 14) (v := (-1)) (kX12_dog 7 rfl) rfl (by decide) ?_
    exact X_iret rfl (kX12_dog 8 rfl)
def f_X12_alike_L28  (i3 : Int32) (a0 : Nat) : Nat → Int32 → Int32 → Int32 → XS → Option (Int32 × Int32 × XS)
  | 0, _, _, _, _ => none
  | n + 1, i1, i2, i4, S => (if (S.1 (rf a0 14) 193) ≤ i4 then some (i1, i2, S) else ((f_X12_apart a0 (t_X12_clothAt a0 i3) (t_X12_clothAt a0 i4) S).bind (fun q => match q with | (r3, S4) => (if i1 = (-1 : Int32) then f_X12_alike_L28 i3 a0 n (((10 : Int32) * i3) + i4) r3 (i4 + 1) S4 else (if r3 < i2 then f_X12_alike_L28 i3 a0 n (((10 : Int32) * i3) + i4) r3 (i4 + 1) S4 else f_X12_alike_L28 i3 a0 n i1 i2 (i4 + 1) S4)))))
def f_X12_alike_L11  (a0 : Nat) : Nat → Int32 → Int32 → Int32 → XS → Option (Int32 × XS)
  | 0, _, _, _, _ => none
  | n + 1, i1, i2, i3, S => (if (S.1 (rf a0 14) 193) ≤ i3 then some (i1, S) else ((f_X12_alike_L28 i3 a0 1000000 i1 i2 (i3 + (1 : Int32)) S).bind (fun q => match q with | (e7, e8, S9) => f_X12_alike_L11 a0 n e7 e8 (i3 + 1) S9)))
def f_X12_alike  (a0 : Nat) (S : XS) : Option (Int32 × XS) := ((f_X12_alike_L11 a0 1000000 (-1 : Int32) (0 : Int32) (0 : Int32) (sI S a0 0 (0 : Int32))).bind (fun q => match q with | (e10, S11) => some (e10, S11)))
set_option maxHeartbeats 4000000 in
set_option maxRecDepth 100000 in
theorem w_X12_alike_L28 {l : Launch} {g : XG} {G : (Int32 × Int32 × XS) → Option (Int32 × XS)}  {i3 : Int32} {a0 : Nat} (hk0 : kd a0 = 12) (kE : ∀ (e1 : Int32) (e2 : Int32) (S1 : XS), X φI l g 3 mX12_alike 89 [(3, .int i3), (2, .int e2), (1, .int e1), (0, .ref a0)] [] S1 (G (e1, e2, S1))) : ∀ (n : Nat) (i1 : Int32) (i2 : Int32) (i4 : Int32) (S : XS), X φI l g 3 mX12_alike 28 [(4, .int i4), (3, .int i3), (2, .int i2), (1, .int i1), (0, .ref a0)] [] S ((f_X12_alike_L28 i3 a0 n i1 i2 i4 S).bind G) := by
  intro n
  induction n with
  | zero => intro i1 i2 i4 S; exact X_none
  | succ n ih =>
  · intro i1 i2 i4 S
    rw [f_X12_alike_L28]
    refine X_iload (n := 30) 0 (kX12_alike 19 rfl) rfl rfl ?_
    refine X_aload_n (n := 31) 4 (kX12_alike 20 rfl) rfl rfl rfl ?_
    refine X_getR (n := 34) xf_X12 hk0 (by decide) fl_X12_13 rfl (kX12_alike 21 rfl) rfl ?_
    refine X_sipush (n := 37) (v := 193) (kX12_alike 22 rfl) rfl (by decide) ?_
    refine X_iald' (n := 38) (kt_12_14 hk0) (kX12_alike 23 rfl) rfl (by rw [lt_12_14 hk0]; decide) ?_
    refine X_itebind ?_
    refine X_ic_ge (n := 41) (tgt := 89) (kX12_alike 24 rfl) rfl rfl (fun h2 => ?_) (fun h2 => ?_)
    · exact X_L [1, 2, 3, 4] rfl (kE i1 i2 S)
    · refine X_aload_n (n := 42) 4 (kX12_alike 25 rfl) rfl rfl rfl ?_
      refine X_aload_n (n := 43) 4 (kX12_alike 26 rfl) rfl rfl rfl ?_
      refine X_iload_n (n := 44) 1 (kX12_alike 27 rfl) rfl rfl rfl ?_
      refine X_callV1I (n := 47) (As := [.int i3]) (st := [.ref a0]) (kX12_alike 28 rfl) rfl (p_X12_clothAt hk0) (by decide) ml_X12_365 mf_X12_clothAt rfl hk0 xf_X12 rfl (Nat.le_of_ble_eq_true rfl) ?_
      refine X_aload_n (n := 48) 4 (kX12_alike 29 rfl) rfl rfl rfl ?_
      refine X_iload (n := 50) 0 (kX12_alike 30 rfl) rfl rfl ?_
      refine X_callV1I (n := 53) (As := [.int i4]) (st := [.int (t_X12_clothAt a0 i3), .ref a0]) (kX12_alike 31 rfl) rfl (p_X12_clothAt hk0) (by decide) ml_X12_365 mf_X12_clothAt rfl hk0 xf_X12 rfl (Nat.le_of_ble_eq_true rfl) ?_
      refine X_assoc ?_
      refine X_callVI (n := 56) (As := [.int (t_X12_clothAt a0 i3), .int (t_X12_clothAt a0 i4)]) (st := []) (kX12_alike 32 rfl) rfl (w_X12_apart hk0) (by decide) ml_X12_368 mf_X12_apart rfl hk0 xf_X12 rfl (Nat.le_of_ble_eq_true rfl) (fun r3 S4 hq => ?_)
      try dsimp only
      refine X_istore (n := 58) (L1 := [(5, .int r3), (4, .int i4), (3, .int i3), (2, .int i2), (1, .int i1), (0, .ref a0)]) (kX12_alike 33 rfl) rfl (Nat.le_of_ble_eq_true rfl) rfl ?_
      refine X_iload_n (n := 59) 4 (kX12_alike 34 rfl) rfl rfl rfl ?_
      refine X_iconst (n := 60) (v := (-1)) (kX12_alike 35 rfl) rfl (by decide) ?_
      refine X_itebind ?_
      refine X_ic_eq (n := 63) (tgt := 72) (kX12_alike 36 rfl) rfl rfl (fun h5 => ?_) (fun h5 => ?_)
      · refine X_bipush (n := 74) (v := 10) (kX12_alike 41 rfl) rfl (by decide) ?_
        refine X_iload_n (n := 75) 2 (kX12_alike 42 rfl) rfl rfl rfl ?_
        refine X_imul (n := 76) (kX12_alike 43 rfl) rfl ?_
        refine X_iload (n := 78) 1 (kX12_alike 44 rfl) rfl rfl ?_
        refine X_iadd (n := 79) (kX12_alike 45 rfl) rfl ?_
        refine X_istore_n (n := 80) (L1 := [(1, .int (((10 : Int32) * i3) + i4)), (5, .int r3), (4, .int i4), (3, .int i3), (2, .int i2), (0, .ref a0)]) (kX12_alike 46 rfl) rfl rfl (Nat.le_of_ble_eq_true rfl) rfl ?_
        refine X_iload (n := 82) 1 (kX12_alike 47 rfl) rfl rfl ?_
        refine X_istore_n (n := 83) (L1 := [(2, .int r3), (1, .int (((10 : Int32) * i3) + i4)), (5, .int r3), (4, .int i4), (3, .int i3), (0, .ref a0)]) (kX12_alike 48 rfl) rfl rfl (Nat.le_of_ble_eq_true rfl) rfl ?_
        refine X_iinc (n := 86) 3 (v := (i4 + 1)) (L1 := [(4, .int (i4 + 1)), (2, .int r3), (1, .int (((10 : Int32) * i3) + i4)), (5, .int r3), (3, .int i3), (0, .ref a0)]) (kX12_alike 49 rfl) rfl rfl rfl (Nat.le_of_ble_eq_true rfl) rfl ?_
        refine X_goto (tgt := 28) (kX12_alike 50 rfl) rfl ?_
        exact X_L [0, 4, 1, 2, 5] rfl (ih (((10 : Int32) * i3) + i4) r3 (i4 + 1) S4)
      · refine X_iload (n := 65) 0 (kX12_alike 37 rfl) rfl rfl ?_
        refine X_iload_n (n := 66) 3 (kX12_alike 38 rfl) rfl rfl rfl ?_
        refine X_itebind ?_
        refine X_ic_lt (n := 69) (tgt := 72) (kX12_alike 39 rfl) rfl rfl (fun h6 => ?_) (fun h6 => ?_)
        · refine X_bipush (n := 74) (v := 10) (kX12_alike 41 rfl) rfl (by decide) ?_
          refine X_iload_n (n := 75) 2 (kX12_alike 42 rfl) rfl rfl rfl ?_
          refine X_imul (n := 76) (kX12_alike 43 rfl) rfl ?_
          refine X_iload (n := 78) 1 (kX12_alike 44 rfl) rfl rfl ?_
          refine X_iadd (n := 79) (kX12_alike 45 rfl) rfl ?_
          refine X_istore_n (n := 80) (L1 := [(1, .int (((10 : Int32) * i3) + i4)), (5, .int r3), (4, .int i4), (3, .int i3), (2, .int i2), (0, .ref a0)]) (kX12_alike 46 rfl) rfl rfl (Nat.le_of_ble_eq_true rfl) rfl ?_
          refine X_iload (n := 82) 1 (kX12_alike 47 rfl) rfl rfl ?_
          refine X_istore_n (n := 83) (L1 := [(2, .int r3), (1, .int (((10 : Int32) * i3) + i4)), (5, .int r3), (4, .int i4), (3, .int i3), (0, .ref a0)]) (kX12_alike 48 rfl) rfl rfl (Nat.le_of_ble_eq_true rfl) rfl ?_
          refine X_iinc (n := 86) 3 (v := (i4 + 1)) (L1 := [(4, .int (i4 + 1)), (2, .int r3), (1, .int (((10 : Int32) * i3) + i4)), (5, .int r3), (3, .int i3), (0, .ref a0)]) (kX12_alike 49 rfl) rfl rfl rfl (Nat.le_of_ble_eq_true rfl) rfl ?_
          refine X_goto (tgt := 28) (kX12_alike 50 rfl) rfl ?_
          exact X_L [0, 4, 1, 2, 5] rfl (ih (((10 : Int32) * i3) + i4) r3 (i4 + 1) S4)
        · refine X_goto (tgt := 83) (kX12_alike 40 rfl) rfl ?_
          refine X_iinc (n := 86) 1 (v := (i4 + 1)) (L1 := [(4, .int (i4 + 1)), (5, .int r3), (3, .int i3), (2, .int i2), (1, .int i1), (0, .ref a0)]) (kX12_alike 49 rfl) rfl rfl rfl (Nat.le_of_ble_eq_true rfl) rfl ?_
          refine X_goto (tgt := 28) (kX12_alike 50 rfl) rfl ?_
          exact X_L [0, 2, 3, 4, 5] rfl (ih i1 i2 (i4 + 1) S4)
set_option maxHeartbeats 4000000 in
set_option maxRecDepth 100000 in
theorem w_X12_alike_L11 {l : Launch} {g : XG} {G : (Int32 × XS) → Option (Int32 × XS)}  {a0 : Nat} (hk0 : kd a0 = 12) (kE : ∀ (e1 : Int32) (S1 : XS), X φI l g 3 mX12_alike 95 [(1, .int e1)] [] S1 (G (e1, S1))) : ∀ (n : Nat) (i1 : Int32) (i2 : Int32) (i3 : Int32) (S : XS), X φI l g 3 mX12_alike 11 [(3, .int i3), (2, .int i2), (1, .int i1), (0, .ref a0)] [] S ((f_X12_alike_L11 a0 n i1 i2 i3 S).bind G) := by
  intro n
  induction n with
  | zero => intro i1 i2 i3 S; exact X_none
  | succ n ih =>
  · intro i1 i2 i3 S
    rw [f_X12_alike_L11]
    refine X_iload_n (n := 12) 0 (kX12_alike 9 rfl) rfl rfl rfl ?_
    refine X_aload_n (n := 13) 3 (kX12_alike 10 rfl) rfl rfl rfl ?_
    refine X_getR (n := 16) xf_X12 hk0 (by decide) fl_X12_13 rfl (kX12_alike 11 rfl) rfl ?_
    refine X_sipush (n := 19) (v := 193) (kX12_alike 12 rfl) rfl (by decide) ?_
    refine X_iald' (n := 20) (kt_12_14 hk0) (kX12_alike 13 rfl) rfl (by rw [lt_12_14 hk0]; decide) ?_
    refine X_itebind ?_
    refine X_ic_ge (n := 23) (tgt := 95) (kX12_alike 14 rfl) rfl rfl (fun h1 => ?_) (fun h1 => ?_)
    · exact X_L [2] rfl (kE i1 S)
    · refine X_iload_n (n := 24) 0 (kX12_alike 15 rfl) rfl rfl rfl ?_
      refine X_iconst (n := 25) (v := 1) (kX12_alike 16 rfl) rfl (by decide) ?_
      refine X_iadd (n := 26) (kX12_alike 17 rfl) rfl ?_
      refine X_istore (n := 28) (L1 := [(4, .int (i3 + (1 : Int32))), (3, .int i3), (2, .int i2), (1, .int i1), (0, .ref a0)]) (kX12_alike 18 rfl) rfl (Nat.le_of_ble_eq_true rfl) rfl ?_
      refine X_assoc ?_
      refine X_L [0, 1, 2, 3, 4] rfl (w_X12_alike_L28 hk0 (fun e7 e8 S9 => ?_) 1000000 i1 i2 (i3 + (1 : Int32)) S)
      try dsimp only
      refine X_iinc (n := 92) 0 (v := (i3 + 1)) (L1 := [(3, .int (i3 + 1)), (2, .int e8), (1, .int e7), (0, .ref a0)]) (kX12_alike 51 rfl) rfl rfl rfl (Nat.le_of_ble_eq_true rfl) rfl ?_
      refine X_goto (tgt := 11) (kX12_alike 52 rfl) rfl ?_
      exact X_L [0, 1, 2, 3] rfl (ih e7 e8 (i3 + 1) S9)
set_option maxHeartbeats 4000000 in
set_option maxRecDepth 100000 in
theorem w_X12_alike {l : Launch} {g : XG}  {a0 : Nat} {S : XS} (hk0 : kd a0 = 12) : Cl φI l g 3 mX12_alike [.ref a0] S (f_X12_alike a0 S) := by
  refine Cl.of (by decide +kernel) (Nat.le_of_ble_eq_true rfl) ?_
  unfold f_X12_alike
  show X _ _ _ _ _ 0 [(0, .ref a0)] [] S _
  refine X_aload_n (n := 1) 0 (kX12_alike 0 rfl) rfl rfl rfl ?_
  refine X_iconst (n := 2) (v := 0) (kX12_alike 1 rfl) rfl (by decide) ?_
  refine X_putI (n := 5) xf_X12 hk0 (by decide) fl_X12_100 rfl rfl (Or.inl rfl) (kX12_alike 2 rfl) rfl ?_
  refine X_iconst (n := 6) (v := (-1)) (kX12_alike 3 rfl) rfl (by decide) ?_
  refine X_istore_n (n := 7) (L1 := [(1, .int (-1)), (0, .ref a0)]) (kX12_alike 4 rfl) rfl rfl (Nat.le_of_ble_eq_true rfl) rfl ?_
  refine X_iconst (n := 8) (v := 0) (kX12_alike 5 rfl) rfl (by decide) ?_
  refine X_istore_n (n := 9) (L1 := [(2, .int 0), (1, .int (-1)), (0, .ref a0)]) (kX12_alike 6 rfl) rfl rfl (Nat.le_of_ble_eq_true rfl) rfl ?_
  refine X_iconst (n := 10) (v := 0) (kX12_alike 7 rfl) rfl (by decide) ?_
  refine X_istore_n (n := 11) (L1 := [(3, .int 0), (2, .int 0), (1, .int (-1)), (0, .ref a0)]) (kX12_alike 8 rfl) rfl rfl (Nat.le_of_ble_eq_true rfl) rfl ?_
  refine X_L [0, 1, 2, 3] rfl (w_X12_alike_L11 hk0 (fun e10 S11 => ?_) 1000000 (-1 : Int32) (0 : Int32) (0 : Int32) (sI S a0 0 (0 : Int32)))
  try dsimp only
  refine X_iload_n (n := 96) 0 (kX12_alike 53 rfl) rfl rfl rfl ?_
  exact X_iret rfl (kX12_alike 54 rfl)
def f_X12_readNew  (a0 : Nat) (i1 : Int32) (S : XS) : Option (Bool × XS) := ((f_X12_isName a0 S).bind (fun q => match q with | (r1, S2) => (if r1 = true then ((f_X12_findIn (rf a0 20) (0 : Int32) (S2.1 (rf a0 15) 0) (S2.2 a0 12) S2).bind (fun q => match q with | (r4, S5) => ((if r4 = (-1 : Int32) then ((f_X12_findIn (rf a0 20) (6 : Int32) (S5.1 (rf a0 15) 1) (S5.2 a0 12) S5).bind (fun q => match q with | (r14, S15) => (if r14 = (-1 : Int32) then ((f_X12_findIn (rf a0 20) (12 : Int32) (S15.1 (rf a0 15) 3) (S15.2 a0 12) S15).bind (fun q => match q with | (r17, S18) => (if r17 = (-1 : Int32) then some (false, S18) else some (true, S18)))) else some (true, S15)))) else some (true, S5)).bind (fun q => match q with | (x6, S7) => (if x6 = true then ((f_X12_bad a0 (3 : Int32) S7).bind (fun q => match q with | (r9, S10) => some (r9, S10))) else (if i1 < 0 ∨ ln (rf a0 20) ≤ i1.toNatClampNeg then none else ((f_X12_go a0 (sL S7 (rf a0 20) i1.toNatClampNeg (S7.2 a0 12))).bind (fun S11 => some (true, S11))))))))) else ((f_X12_bad a0 (1 : Int32) S2).bind (fun q => match q with | (r20, S21) => some (r20, S21))))))
set_option maxHeartbeats 4000000 in
set_option maxRecDepth 100000 in
theorem w_X12_readNew {l : Launch} {g : XG}  {a0 : Nat} {i1 : Int32} {S : XS} (hk0 : kd a0 = 12) : Cl φB l g 4 mX12_readNew [.ref a0, .int i1] S (f_X12_readNew a0 i1 S) := by
  refine Cl.of (by decide +kernel) (Nat.le_of_ble_eq_true rfl) ?_
  unfold f_X12_readNew
  show X _ _ _ _ _ 0 [(0, .ref a0), (1, .int i1)] [] S _
  refine X_aload_n (n := 1) 0 (kX12_readNew 0 rfl) rfl rfl rfl ?_
  refine X_callVB (n := 4) (As := []) (st := []) (kX12_readNew 1 rfl) rfl (w_X12_isName hk0) (by decide) ml_X12_190 mf_X12_isName rfl hk0 xf_X12 rfl (Nat.le_of_ble_eq_true rfl) (fun r1 S2 hq => ?_)
  try dsimp only
  refine X_bn (n := 7) (tgt := 13) (kX12_readNew 2 rfl) rfl rfl (fun h3 => ?_) (fun h3 => ?_)
  · refine X_aload_n (n := 14) 0 (kX12_readNew 7 rfl) rfl rfl rfl ?_
    refine X_getR (n := 17) xf_X12 hk0 (by decide) fl_X12_32 rfl (kX12_readNew 8 rfl) rfl ?_
    refine X_iconst (n := 18) (v := 0) (kX12_readNew 9 rfl) rfl (by decide) ?_
    refine X_aload_n (n := 19) 0 (kX12_readNew 10 rfl) rfl rfl rfl ?_
    refine X_getR (n := 22) xf_X12 hk0 (by decide) fl_X12_16 rfl (kX12_readNew 11 rfl) rfl ?_
    refine X_iconst (n := 23) (v := 0) (kX12_readNew 12 rfl) rfl (by decide) ?_
    refine X_iald' (n := 24) (kt_12_15 hk0) (kX12_readNew 13 rfl) rfl (by rw [lt_12_15 hk0]; decide) ?_
    refine X_aload_n (n := 25) 0 (kX12_readNew 14 rfl) rfl rfl rfl ?_
    refine X_getJ (n := 28) xf_X12 hk0 (by decide) fl_X12_135 rfl (kX12_readNew 15 rfl) rfl ?_
    refine X_callSI (n := 31) (As := [.ref (rf a0 20), .int (0 : Int32), .int (S2.1 (rf a0 15) 0), .long (S2.2 a0 12)]) (st := []) (kX12_readNew 16 rfl) rfl (w_X12_findIn (kt_12_20 hk0)) (by decide) ml_X12_194 mf_X12_findIn rfl rfl (Nat.le_of_ble_eq_true rfl) (fun r4 S5 hq => ?_)
    try dsimp only
    refine X_iconst (n := 32) (v := (-1)) (kX12_readNew 17 rfl) rfl (by decide) ?_
    refine X_join 86 (fun q => match q with | (x6, S7) => [(0, .ref a0), (1, .int i1)]) (fun q => match q with | (x6, S7) => [.int (bi x6)]) (fun q => match q with | (x6, S7) => S7) (fun q => ?_) (fun kJ => ?_)
    · obtain ⟨x6, S7⟩ := q
      dsimp only
      refine X_istore_n (n := 87) (L1 := [(2, .int (bi x6)), (0, .ref a0), (1, .int i1)]) (kX12_readNew 46 rfl) rfl rfl (Nat.le_of_ble_eq_true rfl) rfl ?_
      refine X_iload_n (n := 88) 0 (kX12_readNew 47 rfl) rfl rfl rfl ?_
      refine X_bz (n := 91) (tgt := 97) (kX12_readNew 48 rfl) rfl rfl (fun h8 => ?_) (fun h8 => ?_)
      · refine X_aload_n (n := 92) 1 (kX12_readNew 49 rfl) rfl rfl rfl ?_
        refine X_iconst (n := 93) (v := 3) (kX12_readNew 50 rfl) rfl (by decide) ?_
        refine X_callVB (n := 96) (As := [.int (3 : Int32)]) (st := []) (kX12_readNew 51 rfl) rfl (w_X12_bad hk0) (by decide) ml_X12_166 mf_X12_bad rfl hk0 xf_X12 rfl (Nat.le_of_ble_eq_true rfl) (fun r9 S10 hq => ?_)
        try dsimp only
        exact X_zret (b := r9) rfl (kX12_readNew 52 rfl)
      · refine X_aload_n (n := 98) 1 (kX12_readNew 53 rfl) rfl rfl rfl ?_
        refine X_getR (n := 101) xf_X12 hk0 (by decide) fl_X12_32 rfl (kX12_readNew 54 rfl) rfl ?_
        refine X_iload_n (n := 102) 2 (kX12_readNew 55 rfl) rfl rfl rfl ?_
        refine X_aload_n (n := 103) 1 (kX12_readNew 56 rfl) rfl rfl rfl ?_
        refine X_getJ (n := 106) xf_X12 hk0 (by decide) fl_X12_135 rfl (kX12_readNew 57 rfl) rfl ?_
        refine X_last (n := 107) (kt_12_20 hk0) (kX12_readNew 58 rfl) rfl (fun h12 => ?_)
        refine X_aload_n (n := 108) 1 (kX12_readNew 59 rfl) rfl rfl rfl ?_
        refine X_callVV (n := 111) (As := []) (st := []) (kX12_readNew 60 rfl) rfl (w_X12_go hk0) (by decide) ml_X12_180 mf_X12_go rfl hk0 xf_X12 rfl (Nat.le_of_ble_eq_true rfl) (fun S11 hq => ?_)
        try dsimp only
        refine X_iconst (n := 112) (v := 1) (kX12_readNew 61 rfl) rfl (by decide) ?_
        exact X_zret (b := true) rfl (kX12_readNew 62 rfl)
    · refine X_itebind ?_
      refine X_ic_ne (n := 35) (tgt := 81) (kX12_readNew 18 rfl) rfl rfl (fun h13 => ?_) (fun h13 => ?_)
      · refine X_aload_n (n := 36) 0 (kX12_readNew 19 rfl) rfl rfl rfl ?_
        refine X_getR (n := 39) xf_X12 hk0 (by decide) fl_X12_32 rfl (kX12_readNew 20 rfl) rfl ?_
        refine X_bipush (n := 41) (v := 6) (kX12_readNew 21 rfl) rfl (by decide) ?_
        refine X_aload_n (n := 42) 0 (kX12_readNew 22 rfl) rfl rfl rfl ?_
        refine X_getR (n := 45) xf_X12 hk0 (by decide) fl_X12_16 rfl (kX12_readNew 23 rfl) rfl ?_
        refine X_iconst (n := 46) (v := 1) (kX12_readNew 24 rfl) rfl (by decide) ?_
        refine X_iald' (n := 47) (kt_12_15 hk0) (kX12_readNew 25 rfl) rfl (by rw [lt_12_15 hk0]; decide) ?_
        refine X_aload_n (n := 48) 0 (kX12_readNew 26 rfl) rfl rfl rfl ?_
        refine X_getJ (n := 51) xf_X12 hk0 (by decide) fl_X12_135 rfl (kX12_readNew 27 rfl) rfl ?_
        refine X_assoc ?_
        refine X_callSI (n := 54) (As := [.ref (rf a0 20), .int (6 : Int32), .int (S5.1 (rf a0 15) 1), .long (S5.2 a0 12)]) (st := []) (kX12_readNew 28 rfl) rfl (w_X12_findIn (kt_12_20 hk0)) (by decide) ml_X12_194 mf_X12_findIn rfl rfl (Nat.le_of_ble_eq_true rfl) (fun r14 S15 hq => ?_)
        try dsimp only
        refine X_iconst (n := 55) (v := (-1)) (kX12_readNew 29 rfl) rfl (by decide) ?_
        refine X_itebind ?_
        refine X_ic_ne (n := 58) (tgt := 81) (kX12_readNew 30 rfl) rfl rfl (fun h16 => ?_) (fun h16 => ?_)
        · refine X_aload_n (n := 59) 0 (kX12_readNew 31 rfl) rfl rfl rfl ?_
          refine X_getR (n := 62) xf_X12 hk0 (by decide) fl_X12_32 rfl (kX12_readNew 32 rfl) rfl ?_
          refine X_bipush (n := 64) (v := 12) (kX12_readNew 33 rfl) rfl (by decide) ?_
          refine X_aload_n (n := 65) 0 (kX12_readNew 34 rfl) rfl rfl rfl ?_
          refine X_getR (n := 68) xf_X12 hk0 (by decide) fl_X12_16 rfl (kX12_readNew 35 rfl) rfl ?_
          refine X_iconst (n := 69) (v := 3) (kX12_readNew 36 rfl) rfl (by decide) ?_
          refine X_iald' (n := 70) (kt_12_15 hk0) (kX12_readNew 37 rfl) rfl (by rw [lt_12_15 hk0]; decide) ?_
          refine X_aload_n (n := 71) 0 (kX12_readNew 38 rfl) rfl rfl rfl ?_
          refine X_getJ (n := 74) xf_X12 hk0 (by decide) fl_X12_135 rfl (kX12_readNew 39 rfl) rfl ?_
          refine X_assoc ?_
          refine X_callSI (n := 77) (As := [.ref (rf a0 20), .int (12 : Int32), .int (S15.1 (rf a0 15) 3), .long (S15.2 a0 12)]) (st := []) (kX12_readNew 40 rfl) rfl (w_X12_findIn (kt_12_20 hk0)) (by decide) ml_X12_194 mf_X12_findIn rfl rfl (Nat.le_of_ble_eq_true rfl) (fun r17 S18 hq => ?_)
          try dsimp only
          refine X_iconst (n := 78) (v := (-1)) (kX12_readNew 41 rfl) rfl (by decide) ?_
          refine X_itebind ?_
          refine X_ic_eq (n := 81) (tgt := 85) (kX12_readNew 42 rfl) rfl rfl (fun h19 => ?_) (fun h19 => ?_)
          · refine X_iconst (n := 86) (v := 0) (kX12_readNew 45 rfl) rfl (by decide) ?_
            exact X_L [0, 1] rfl (kJ (false, S18))
          · refine X_iconst (n := 82) (v := 1) (kX12_readNew 43 rfl) rfl (by decide) ?_
            refine X_goto (tgt := 86) (kX12_readNew 44 rfl) rfl ?_
            exact X_L [0, 1] rfl (kJ (true, S18))
        · refine X_iconst (n := 82) (v := 1) (kX12_readNew 43 rfl) rfl (by decide) ?_
          refine X_goto (tgt := 86) (kX12_readNew 44 rfl) rfl ?_
          exact X_L [0, 1] rfl (kJ (true, S15))
      · refine X_iconst (n := 82) (v := 1) (kX12_readNew 43 rfl) rfl (by decide) ?_
        refine X_goto (tgt := 86) (kX12_readNew 44 rfl) rfl ?_
        exact X_L [0, 1] rfl (kJ (true, S5))
  · refine X_aload_n (n := 8) 0 (kX12_readNew 3 rfl) rfl rfl rfl ?_
    refine X_iconst (n := 9) (v := 1) (kX12_readNew 4 rfl) rfl (by decide) ?_
    refine X_callVB (n := 12) (As := [.int (1 : Int32)]) (st := []) (kX12_readNew 5 rfl) rfl (w_X12_bad hk0) (by decide) ml_X12_166 mf_X12_bad rfl hk0 xf_X12 rfl (Nat.le_of_ble_eq_true rfl) (fun r20 S21 hq => ?_)
    try dsimp only
    exact X_zret (b := r20) rfl (kX12_readNew 6 rfl)
def f_X12_isOne  (a0 : Nat) (a1 : Nat) (i2 : Int32) (i3 : Int32) (S : XS) : Option (Bool × XS) := ((f_X12_isName a0 S).bind (fun q => match q with | (r1, S2) => (if r1 = true then ((f_X12_findIn a1 i2 i3 (S2.2 a0 12) S2).bind (fun q => match q with | (r4, S5) => (if ((sI S5 a0 13 r4).1 a0 13) = (-1 : Int32) then ((f_X12_bad a0 (3 : Int32) (sI S5 a0 13 r4)).bind (fun q => match q with | (r7, S8) => (if r7 = true then some (true, S8) else some (false, S8)))) else some (true, (sI S5 a0 13 r4))))) else ((f_X12_bad a0 (1 : Int32) S2).bind (fun q => match q with | (r10, S11) => some (r10, S11))))))
set_option maxHeartbeats 4000000 in
set_option maxRecDepth 100000 in
theorem w_X12_isOne {l : Launch} {g : XG}  {a0 : Nat} {a1 : Nat} {i2 : Int32} {i3 : Int32} {S : XS} (hk0 : kd a0 = 12) (hk1 : kd a1 = 21) : Cl φB l g 4 mX12_isOne [.ref a0, .ref a1, .int i2, .int i3] S (f_X12_isOne a0 a1 i2 i3 S) := by
  refine Cl.of (by decide +kernel) (Nat.le_of_ble_eq_true rfl) ?_
  unfold f_X12_isOne
  show X _ _ _ _ _ 0 [(0, .ref a0), (1, .ref a1), (2, .int i2), (3, .int i3)] [] S _
  refine X_aload_n (n := 1) 0 (kX12_isOne 0 rfl) rfl rfl rfl ?_
  refine X_callVB (n := 4) (As := []) (st := []) (kX12_isOne 1 rfl) rfl (w_X12_isName hk0) (by decide) ml_X12_190 mf_X12_isName rfl hk0 xf_X12 rfl (Nat.le_of_ble_eq_true rfl) (fun r1 S2 hq => ?_)
  try dsimp only
  refine X_bn (n := 7) (tgt := 13) (kX12_isOne 2 rfl) rfl rfl (fun h3 => ?_) (fun h3 => ?_)
  · refine X_aload_n (n := 14) 0 (kX12_isOne 7 rfl) rfl rfl rfl ?_
    refine X_aload_n (n := 15) 1 (kX12_isOne 8 rfl) rfl rfl rfl ?_
    refine X_iload_n (n := 16) 2 (kX12_isOne 9 rfl) rfl rfl rfl ?_
    refine X_iload_n (n := 17) 3 (kX12_isOne 10 rfl) rfl rfl rfl ?_
    refine X_aload_n (n := 18) 0 (kX12_isOne 11 rfl) rfl rfl rfl ?_
    refine X_getJ (n := 21) xf_X12 hk0 (by decide) fl_X12_135 rfl (kX12_isOne 12 rfl) rfl ?_
    refine X_callSI (n := 24) (As := [.ref a1, .int i2, .int i3, .long (S2.2 a0 12)]) (st := [.ref a0]) (kX12_isOne 13 rfl) rfl (w_X12_findIn hk1) (by decide) ml_X12_194 mf_X12_findIn rfl rfl (Nat.le_of_ble_eq_true rfl) (fun r4 S5 hq => ?_)
    try dsimp only
    refine X_putI (n := 27) xf_X12 hk0 (by decide) fl_X12_173 rfl rfl (Or.inl rfl) (kX12_isOne 14 rfl) rfl ?_
    refine X_aload_n (n := 28) 0 (kX12_isOne 15 rfl) rfl rfl rfl ?_
    refine X_getI (n := 31) xf_X12 hk0 (by decide) fl_X12_173 rfl (kX12_isOne 16 rfl) rfl ?_
    refine X_iconst (n := 32) (v := (-1)) (kX12_isOne 17 rfl) rfl (by decide) ?_
    refine X_ic_ne (n := 35) (tgt := 43) (kX12_isOne 18 rfl) rfl rfl (fun h6 => ?_) (fun h6 => ?_)
    · refine X_aload_n (n := 36) 0 (kX12_isOne 19 rfl) rfl rfl rfl ?_
      refine X_iconst (n := 37) (v := 3) (kX12_isOne 20 rfl) rfl (by decide) ?_
      refine X_callVB (n := 40) (As := [.int (3 : Int32)]) (st := []) (kX12_isOne 21 rfl) rfl (w_X12_bad hk0) (by decide) ml_X12_166 mf_X12_bad rfl hk0 xf_X12 rfl (Nat.le_of_ble_eq_true rfl) (fun r7 S8 hq => ?_)
      try dsimp only
      refine X_bz (n := 43) (tgt := 47) (kX12_isOne 22 rfl) rfl rfl (fun h9 => ?_) (fun h9 => ?_)
      · refine X_iconst (n := 44) (v := 1) (kX12_isOne 23 rfl) rfl (by decide) ?_
        refine X_goto (tgt := 48) (kX12_isOne 24 rfl) rfl ?_
        exact X_zret (b := true) rfl (kX12_isOne 26 rfl)
      · refine X_iconst (n := 48) (v := 0) (kX12_isOne 25 rfl) rfl (by decide) ?_
        exact X_zret (b := false) rfl (kX12_isOne 26 rfl)
    · refine X_iconst (n := 44) (v := 1) (kX12_isOne 23 rfl) rfl (by decide) ?_
      refine X_goto (tgt := 48) (kX12_isOne 24 rfl) rfl ?_
      exact X_zret (b := true) rfl (kX12_isOne 26 rfl)
  · refine X_aload_n (n := 8) 0 (kX12_isOne 3 rfl) rfl rfl rfl ?_
    refine X_iconst (n := 9) (v := 1) (kX12_isOne 4 rfl) rfl (by decide) ?_
    refine X_callVB (n := 12) (As := [.int (1 : Int32)]) (st := []) (kX12_isOne 5 rfl) rfl (w_X12_bad hk0) (by decide) ml_X12_166 mf_X12_bad rfl hk0 xf_X12 rfl (Nat.le_of_ble_eq_true rfl) (fun r10 S11 hq => ?_)
    try dsimp only
    exact X_zret (b := r10) rfl (kX12_isOne 6 rfl)
def f_X12_on_L39  (a0 : Nat) (i1 : Int32) : Nat → Int32 → XS → Option (XS)
  | 0, _, _ => none
  | n + 1, i2, S => (if i1 ≤ i2 then some S else ((f_X12_pass a0 false S).bind (fun S5 => f_X12_on_L39 a0 i1 n (i2 + 1) S5)))
def f_X12_on  (a0 : Nat) (i1 : Int32) (S : XS) : Option (Int32 × XS) := (if (t_X12_isIn i1 (1 : Int32) (60 : Int32)) = true then (if (((sI S a0 0 (0 : Int32)).1 (rf a0 14) 144) + i1) ≤ (999 : Int32) then ((f_X12_snap a0 (sI S a0 0 (0 : Int32))).bind (fun S3 => ((f_X12_on_L39 a0 i1 1000000 (0 : Int32) S3).bind (fun S6 => some ((S6.1 (rf a0 14) 144), S6))))) else some ((-1 : Int32), (sI S a0 0 (0 : Int32)))) else some ((-1 : Int32), (sI S a0 0 (0 : Int32))))
set_option maxHeartbeats 4000000 in
set_option maxRecDepth 100000 in
theorem w_X12_on_L39 {l : Launch} {g : XG} {G : (XS) → Option (Int32 × XS)}  {a0 : Nat} {i1 : Int32} (hk0 : kd a0 = 12) (kE : ∀ (S1 : XS), X φI l g 4 mX12_on 55 [(0, .ref a0)] [] S1 (G S1)) : ∀ (n : Nat) (i2 : Int32) (S : XS), X φI l g 4 mX12_on 39 [(2, .int i2), (0, .ref a0), (1, .int i1)] [] S ((f_X12_on_L39 a0 i1 n i2 S).bind G) := by
  intro n
  induction n with
  | zero => intro i2 S; exact X_none
  | succ n ih =>
  · intro i2 S
    rw [f_X12_on_L39]
    refine X_iload_n (n := 40) 0 (kX12_on 22 rfl) rfl rfl rfl ?_
    refine X_iload_n (n := 41) 2 (kX12_on 23 rfl) rfl rfl rfl ?_
    refine X_itebind ?_
    refine X_ic_ge (n := 44) (tgt := 55) (kX12_on 24 rfl) rfl rfl (fun h4 => ?_) (fun h4 => ?_)
    · exact X_L [1] rfl (kE S)
    · refine X_aload_n (n := 45) 1 (kX12_on 25 rfl) rfl rfl rfl ?_
      refine X_iconst (n := 46) (v := 0) (kX12_on 26 rfl) rfl (by decide) ?_
      refine X_assoc ?_
      refine X_callVV (n := 49) (As := [.int (bi false)]) (st := []) (kX12_on 27 rfl) rfl (w_X12_pass hk0) (by decide) ml_X12_313 mf_X12_pass rfl hk0 xf_X12 rfl (Nat.le_of_ble_eq_true rfl) (fun S5 hq => ?_)
      try dsimp only
      refine X_iinc (n := 52) 0 (v := (i2 + 1)) (L1 := [(2, .int (i2 + 1)), (0, .ref a0), (1, .int i1)]) (kX12_on 28 rfl) rfl rfl rfl (Nat.le_of_ble_eq_true rfl) rfl ?_
      refine X_goto (tgt := 39) (kX12_on 29 rfl) rfl ?_
      exact X_L [0, 1, 2] rfl (ih (i2 + 1) S5)
set_option maxHeartbeats 4000000 in
set_option maxRecDepth 100000 in
theorem w_X12_on {l : Launch} {g : XG}  {a0 : Nat} {i1 : Int32} {S : XS} (hk0 : kd a0 = 12) : Cl φI l g 4 mX12_on [.ref a0, .int i1] S (f_X12_on a0 i1 S) := by
  refine Cl.of (by decide +kernel) (Nat.le_of_ble_eq_true rfl) ?_
  unfold f_X12_on
  show X _ _ _ _ _ 0 [(0, .ref a0), (1, .int i1)] [] S _
  refine X_aload_n (n := 1) 0 (kX12_on 0 rfl) rfl rfl rfl ?_
  refine X_iconst (n := 2) (v := 0) (kX12_on 1 rfl) rfl (by decide) ?_
  refine X_putI (n := 5) xf_X12 hk0 (by decide) fl_X12_100 rfl rfl (Or.inl rfl) (kX12_on 2 rfl) rfl ?_
  refine X_iload_n (n := 6) 1 (kX12_on 3 rfl) rfl rfl rfl ?_
  refine X_iconst (n := 7) (v := 1) (kX12_on 4 rfl) rfl (by decide) ?_
  refine X_bipush (n := 9) (v := 60) (kX12_on 5 rfl) rfl (by decide) ?_
  refine X_callS1B (n := 12) (As := [.int i1, .int (1 : Int32), .int (60 : Int32)]) (st := []) (kX12_on 6 rfl) rfl p_X12_isIn (by decide) ml_X12_169 mf_X12_isIn rfl rfl (Nat.le_of_ble_eq_true rfl) ?_
  refine X_bz (n := 15) (tgt := 31) (kX12_on 7 rfl) rfl rfl (fun h1 => ?_) (fun h1 => ?_)
  · refine X_aload_n (n := 16) 0 (kX12_on 8 rfl) rfl rfl rfl ?_
    refine X_getR (n := 19) xf_X12 hk0 (by decide) fl_X12_13 rfl (kX12_on 9 rfl) rfl ?_
    refine X_sipush (n := 22) (v := 144) (kX12_on 10 rfl) rfl (by decide) ?_
    refine X_iald' (n := 23) (kt_12_14 hk0) (kX12_on 11 rfl) rfl (by rw [lt_12_14 hk0]; decide) ?_
    refine X_iload_n (n := 24) 1 (kX12_on 12 rfl) rfl rfl rfl ?_
    refine X_iadd (n := 25) (kX12_on 13 rfl) rfl ?_
    refine X_sipush (n := 28) (v := 999) (kX12_on 14 rfl) rfl (by decide) ?_
    refine X_ic_le (n := 31) (tgt := 33) (kX12_on 15 rfl) rfl rfl (fun h2 => ?_) (fun h2 => ?_)
    · refine X_aload_n (n := 34) 0 (kX12_on 18 rfl) rfl rfl rfl ?_
      refine X_callVV (n := 37) (As := []) (st := []) (kX12_on 19 rfl) rfl (w_X12_snap hk0) (by decide) ml_X12_307 mf_X12_snap rfl hk0 xf_X12 rfl (Nat.le_of_ble_eq_true rfl) (fun S3 hq => ?_)
      try dsimp only
      refine X_iconst (n := 38) (v := 0) (kX12_on 20 rfl) rfl (by decide) ?_
      refine X_istore_n (n := 39) (L1 := [(2, .int 0), (0, .ref a0), (1, .int i1)]) (kX12_on 21 rfl) rfl rfl (Nat.le_of_ble_eq_true rfl) rfl ?_
      refine X_L [0, 1, 2] rfl (w_X12_on_L39 hk0 (fun S6 => ?_) 1000000 (0 : Int32) S3)
      try dsimp only
      refine X_aload_n (n := 56) 0 (kX12_on 30 rfl) rfl rfl rfl ?_
      refine X_getR (n := 59) xf_X12 hk0 (by decide) fl_X12_13 rfl (kX12_on 31 rfl) rfl ?_
      refine X_sipush (n := 62) (v := 144) (kX12_on 32 rfl) rfl (by decide) ?_
      refine X_iald' (n := 63) (kt_12_14 hk0) (kX12_on 33 rfl) rfl (by rw [lt_12_14 hk0]; decide) ?_
      exact X_iret rfl (kX12_on 34 rfl)
    · refine X_iconst (n := 32) (v := (-1)) (kX12_on 16 rfl) rfl (by decide) ?_
      exact X_iret rfl (kX12_on 17 rfl)
  · refine X_iconst (n := 32) (v := (-1)) (kX12_on 16 rfl) rfl (by decide) ?_
    exact X_iret rfl (kX12_on 17 rfl)
def f_X12_changed_L46  (i2 : Int32) (i1 : Int32) (a0 : Nat) : Nat → Int32 → XS → Option (XS)
  | 0, _, _ => none
  | n + 1, i3, S => (if i1 ≤ i3 then some S else (if i3 < 0 ∨ ln (rf a0 1) ≤ i3.toNatClampNeg then none else (if i3 < 0 ∨ ln (rf a0 42) ≤ i3.toNatClampNeg then none else f_X12_changed_L46 i2 i1 a0 n (i3 + 1) (sI S (rf a0 42) i3.toNatClampNeg (S.1 (rf a0 1) i3.toNatClampNeg)))))
def f_X12_changed_L124  (i6 : Int32) (i5 : Int32) (i4 : Int32) (i3 : Int32) (i2 : Int32) (a0 : Nat) : Nat → XS → Option (XS)
  | 0, _ => none
  | n + 1, S => (if i2 ≤ (S.1 (rf a0 14) 144) then some S else ((if (S.1 (rf a0 14) 144) = (i6 - (1 : Int32)) then ((f_X12_changeBoth a0 i4 i5 S).bind (fun S16 => some S16)) else some S).bind (fun S13 => ((f_X12_pass a0 false S13).bind (fun S14 => f_X12_changed_L124 i6 i5 i4 i3 i2 a0 n S14)))))
def f_X12_changed_L114  (i5 : Int32) (i4 : Int32) (i2 : Int32) (a0 : Nat) : Nat → Int32 → Int32 → XS → Option (Int32 × XS)
  | 0, _, _, _ => none
  | n + 1, i3, i6, S => (if i2 < i6 then some (i3, S) else ((f_X12_startAnew a0 S).bind (fun S11 => ((f_X12_changed_L124 i6 i5 i4 i3 i2 a0 1000000 S11).bind (fun S17 => ((f_X12_areSo a0 S17).bind (fun q => match q with | (r18, S19) => (if r18 = true then (if (40 : Int32) ≤ (S19.1 a0 44) then f_X12_changed_L114 i5 i4 i2 a0 n (i3 + 1) (i6 + 1) S19 else (if (S19.1 a0 44) < 0 ∨ ln (rf a0 43) ≤ (S19.1 a0 44).toNatClampNeg then none else f_X12_changed_L114 i5 i4 i2 a0 n (i3 + 1) (i6 + 1) (sI (sI S19 (rf a0 43) ((S19.1 a0 44).toNatClampNeg) ((((10000 : Int32) * i4) + ((1000 : Int32) * i5)) + i6)) a0 44 (((sI S19 (rf a0 43) ((S19.1 a0 44).toNatClampNeg) ((((10000 : Int32) * i4) + ((1000 : Int32) * i5)) + i6)).1 a0 44) + (1 : Int32))))) else f_X12_changed_L114 i5 i4 i2 a0 n i3 (i6 + 1) S19))))))))
def f_X12_changed_L100  (i4 : Int32) (i2 : Int32) (a0 : Nat) : Nat → Int32 → Int32 → XS → Option (Int32 × XS)
  | 0, _, _, _ => none
  | n + 1, i3, i5, S => (if (S.1 (rf a0 14) 3) ≤ i5 then some (i3, S) else ((f_X12_changed_L114 i5 i4 i2 a0 1000000 i3 (1 : Int32) S).bind (fun q => match q with | (e23, S24) => f_X12_changed_L100 i4 i2 a0 n e23 (i5 + 1) S24)))
def f_X12_changed_L83  (i2 : Int32) (a0 : Nat) : Nat → Int32 → Int32 → XS → Option (Int32 × XS)
  | 0, _, _, _ => none
  | n + 1, i3, i4, S => (if (S.1 (rf a0 14) 3) ≤ i4 then some (i3, S) else ((f_X12_changed_L100 i4 i2 a0 1000000 i3 (i4 + (1 : Int32)) S).bind (fun q => match q with | (e25, S26) => f_X12_changed_L83 i2 a0 n e25 (i4 + 1) S26)))
def f_X12_changed  (a0 : Nat) (S : XS) : Option (Int32 × XS) := (if (t_X12_take a0 (sI S a0 0 (0 : Int32))).1 = ((((t_X12_take a0 (sI S a0 0 (0 : Int32))).2).1 (rf a0 14) 3) * (((t_X12_take a0 (sI S a0 0 (0 : Int32))).2).1 (rf a0 14) 0)) then (if (((t_X12_take a0 (sI S a0 0 (0 : Int32))).2).1 (rf a0 14) 144) ≤ (60 : Int32) then ((f_X12_changed_L46 (((t_X12_take a0 (sI S a0 0 (0 : Int32))).2).1 (rf a0 14) 144) ((t_X12_take a0 (sI S a0 0 (0 : Int32))).1) a0 1000000 (0 : Int32) ((t_X12_take a0 (sI S a0 0 (0 : Int32))).2)).bind (fun S6 => ((f_X12_layAside a0 (sI S6 a0 44 (0 : Int32))).bind (fun S7 => ((f_X12_changed_L83 (((t_X12_take a0 (sI S a0 0 (0 : Int32))).2).1 (rf a0 14) 144) a0 1000000 (0 : Int32) (0 : Int32) S7).bind (fun q => match q with | (e27, S28) => ((f_X12_layBack a0 S28).bind (fun S29 => some (e27, S29))))))))) else some ((-1 : Int32), (t_X12_take a0 (sI S a0 0 (0 : Int32))).2)) else some ((-1 : Int32), (t_X12_take a0 (sI S a0 0 (0 : Int32))).2))
set_option maxHeartbeats 4000000 in
set_option maxRecDepth 100000 in
theorem w_X12_changed_L46 {l : Launch} {g : XG} {G : (XS) → Option (Int32 × XS)}  {i2 : Int32} {i1 : Int32} {a0 : Nat} (hk0 : kd a0 = 12) (kE : ∀ (S1 : XS), X φI l g 4 mX12_changed 69 [(2, .int i2), (0, .ref a0)] [] S1 (G S1)) : ∀ (n : Nat) (i3 : Int32) (S : XS), X φI l g 4 mX12_changed 46 [(3, .int i3), (2, .int i2), (1, .int i1), (0, .ref a0)] [] S ((f_X12_changed_L46 i2 i1 a0 n i3 S).bind G) := by
  intro n
  induction n with
  | zero => intro i3 S; exact X_none
  | succ n ih =>
  · intro i3 S
    rw [f_X12_changed_L46]
    refine X_iload_n (n := 47) 0 (kX12_changed 29 rfl) rfl rfl rfl ?_
    refine X_iload_n (n := 48) 2 (kX12_changed 30 rfl) rfl rfl rfl ?_
    refine X_itebind ?_
    refine X_ic_ge (n := 51) (tgt := 69) (kX12_changed 31 rfl) rfl rfl (fun h3 => ?_) (fun h3 => ?_)
    · exact X_L [1, 3] rfl (kE S)
    · refine X_aload_n (n := 52) 3 (kX12_changed 32 rfl) rfl rfl rfl ?_
      refine X_getR (n := 55) xf_X12 hk0 (by decide) fl_X12_82 rfl (kX12_changed 33 rfl) rfl ?_
      refine X_iload_n (n := 56) 0 (kX12_changed 34 rfl) rfl rfl rfl ?_
      refine X_aload_n (n := 57) 3 (kX12_changed 35 rfl) rfl rfl rfl ?_
      refine X_getR (n := 60) xf_X12 hk0 (by decide) fl_X12_7 rfl (kX12_changed 36 rfl) rfl ?_
      refine X_iload_n (n := 61) 0 (kX12_changed 37 rfl) rfl rfl rfl ?_
      refine X_itebind ?_
      refine X_iald (n := 62) (kt_12_1 hk0) (kX12_changed 38 rfl) rfl (fun h5 => ?_)
      refine X_itebind ?_
      refine X_iast (n := 63) (kt_12_42 hk0) (kX12_changed 39 rfl) rfl (fun h4 => ?_)
      refine X_iinc (n := 66) 0 (v := (i3 + 1)) (L1 := [(3, .int (i3 + 1)), (2, .int i2), (1, .int i1), (0, .ref a0)]) (kX12_changed 40 rfl) rfl rfl rfl (Nat.le_of_ble_eq_true rfl) rfl ?_
      refine X_goto (tgt := 46) (kX12_changed 41 rfl) rfl ?_
      exact X_L [0, 1, 2, 3] rfl (ih (i3 + 1) (sI S (rf a0 42) i3.toNatClampNeg (S.1 (rf a0 1) i3.toNatClampNeg)))
set_option maxHeartbeats 4000000 in
set_option maxRecDepth 100000 in
theorem w_X12_changed_L124 {l : Launch} {g : XG} {G : (XS) → Option (Int32 × XS)}  {i6 : Int32} {i5 : Int32} {i4 : Int32} {i3 : Int32} {i2 : Int32} {a0 : Nat} (hk0 : kd a0 = 12) (kE : ∀ (S1 : XS), X φI l g 4 mX12_changed 167 [(6, .int i6), (5, .int i5), (4, .int i4), (3, .int i3), (2, .int i2), (0, .ref a0)] [] S1 (G S1)) : ∀ (n : Nat)  (S : XS), X φI l g 4 mX12_changed 124 [(6, .int i6), (5, .int i5), (4, .int i4), (3, .int i3), (2, .int i2), (0, .ref a0)] [] S ((f_X12_changed_L124 i6 i5 i4 i3 i2 a0 n  S).bind G) := by
  intro n
  induction n with
  | zero => intro  S; exact X_none
  | succ n ih =>
  · intro  S
    rw [f_X12_changed_L124]
    refine X_aload_n (n := 125) 5 (kX12_changed 74 rfl) rfl rfl rfl ?_
    refine X_getR (n := 128) xf_X12 hk0 (by decide) fl_X12_13 rfl (kX12_changed 75 rfl) rfl ?_
    refine X_sipush (n := 131) (v := 144) (kX12_changed 76 rfl) rfl (by decide) ?_
    refine X_iald' (n := 132) (kt_12_14 hk0) (kX12_changed 77 rfl) rfl (by rw [lt_12_14 hk0]; decide) ?_
    refine X_iload_n (n := 133) 4 (kX12_changed 78 rfl) rfl rfl rfl ?_
    refine X_itebind ?_
    refine X_ic_ge (n := 136) (tgt := 167) (kX12_changed 79 rfl) rfl rfl (fun h12 => ?_) (fun h12 => ?_)
    · exact X_L [0, 1, 2, 3, 4, 5] rfl (kE S)
    · refine X_aload_n (n := 137) 5 (kX12_changed 80 rfl) rfl rfl rfl ?_
      refine X_getR (n := 140) xf_X12 hk0 (by decide) fl_X12_13 rfl (kX12_changed 81 rfl) rfl ?_
      refine X_sipush (n := 143) (v := 144) (kX12_changed 82 rfl) rfl (by decide) ?_
      refine X_iald' (n := 144) (kt_12_14 hk0) (kX12_changed 83 rfl) rfl (by rw [lt_12_14 hk0]; decide) ?_
      refine X_iload (n := 146) 0 (kX12_changed 84 rfl) rfl rfl ?_
      refine X_iconst (n := 147) (v := 1) (kX12_changed 85 rfl) rfl (by decide) ?_
      refine X_isub (n := 148) (kX12_changed 86 rfl) rfl ?_
      refine X_assoc ?_
      refine X_join 159 (fun S13 => [(6, .int i6), (5, .int i5), (4, .int i4), (3, .int i3), (2, .int i2), (0, .ref a0)]) (fun S13 => []) (fun S13 => S13) (fun S13 => ?_) (fun kJ => ?_)
      · try dsimp only
        refine X_aload_n (n := 160) 5 (kX12_changed 92 rfl) rfl rfl rfl ?_
        refine X_iconst (n := 161) (v := 0) (kX12_changed 93 rfl) rfl (by decide) ?_
        refine X_assoc ?_
        refine X_callVV (n := 164) (As := [.int (bi false)]) (st := []) (kX12_changed 94 rfl) rfl (w_X12_pass hk0) (by decide) ml_X12_313 mf_X12_pass rfl hk0 xf_X12 rfl (Nat.le_of_ble_eq_true rfl) (fun S14 hq => ?_)
        try dsimp only
        refine X_goto (tgt := 124) (kX12_changed 95 rfl) rfl ?_
        exact X_L [0, 1, 2, 3, 4, 5] rfl (ih S14)
      · refine X_itebind ?_
        refine X_ic_ne (n := 151) (tgt := 159) (kX12_changed 87 rfl) rfl rfl (fun h15 => ?_) (fun h15 => ?_)
        · refine X_aload_n (n := 152) 5 (kX12_changed 88 rfl) rfl rfl rfl ?_
          refine X_iload (n := 154) 2 (kX12_changed 89 rfl) rfl rfl ?_
          refine X_iload (n := 156) 1 (kX12_changed 90 rfl) rfl rfl ?_
          refine X_assoc ?_
          refine X_callVV (n := 159) (As := [.int i4, .int i5]) (st := []) (kX12_changed 91 rfl) rfl (w_X12_changeBoth hk0) (by decide) ml_X12_310 mf_X12_changeBoth rfl hk0 xf_X12 rfl (Nat.le_of_ble_eq_true rfl) (fun S16 hq => ?_)
          try dsimp only
          exact X_L [0, 1, 2, 3, 4, 5] rfl (kJ S16)
        · exact X_L [0, 1, 2, 3, 4, 5] rfl (kJ S)
set_option maxHeartbeats 4000000 in
set_option maxRecDepth 100000 in
theorem w_X12_changed_L114 {l : Launch} {g : XG} {G : (Int32 × XS) → Option (Int32 × XS)}  {i5 : Int32} {i4 : Int32} {i2 : Int32} {a0 : Nat} (hk0 : kd a0 = 12) (kE : ∀ (e3 : Int32) (S1 : XS), X φI l g 4 mX12_changed 230 [(5, .int i5), (4, .int i4), (3, .int e3), (2, .int i2), (0, .ref a0)] [] S1 (G (e3, S1))) : ∀ (n : Nat) (i3 : Int32) (i6 : Int32) (S : XS), X φI l g 4 mX12_changed 114 [(6, .int i6), (5, .int i5), (4, .int i4), (3, .int i3), (2, .int i2), (0, .ref a0)] [] S ((f_X12_changed_L114 i5 i4 i2 a0 n i3 i6 S).bind G) := by
  intro n
  induction n with
  | zero => intro i3 i6 S; exact X_none
  | succ n ih =>
  · intro i3 i6 S
    rw [f_X12_changed_L114]
    refine X_iload (n := 116) 0 (kX12_changed 69 rfl) rfl rfl ?_
    refine X_iload_n (n := 117) 4 (kX12_changed 70 rfl) rfl rfl rfl ?_
    refine X_itebind ?_
    refine X_ic_gt (n := 120) (tgt := 230) (kX12_changed 71 rfl) rfl rfl (fun h10 => ?_) (fun h10 => ?_)
    · exact X_L [1, 2, 3, 4, 5] rfl (kE i3 S)
    · refine X_aload_n (n := 121) 5 (kX12_changed 72 rfl) rfl rfl rfl ?_
      refine X_assoc ?_
      refine X_callVV (n := 124) (As := []) (st := []) (kX12_changed 73 rfl) rfl (w_X12_startAnew hk0) (by decide) ml_X12_244 mf_X12_startAnew rfl hk0 xf_X12 rfl (Nat.le_of_ble_eq_true rfl) (fun S11 hq => ?_)
      try dsimp only
      refine X_assoc ?_
      refine X_L [0, 1, 2, 3, 4, 5] rfl (w_X12_changed_L124 hk0 (fun S17 => ?_) 1000000  S11)
      try dsimp only
      refine X_aload_n (n := 168) 5 (kX12_changed 96 rfl) rfl rfl rfl ?_
      refine X_assoc ?_
      refine X_callVB (n := 171) (As := []) (st := []) (kX12_changed 97 rfl) rfl (w_X12_areSo hk0) (by decide) ml_X12_357 mf_X12_areSo rfl hk0 xf_X12 rfl (Nat.le_of_ble_eq_true rfl) (fun r18 S19 hq => ?_)
      try dsimp only
      refine X_itebind ?_
      refine X_bn (n := 174) (tgt := 177) (kX12_changed 98 rfl) rfl rfl (fun h20 => ?_) (fun h20 => ?_)
      · refine X_aload_n (n := 178) 5 (kX12_changed_1 0 rfl) rfl rfl rfl ?_
        refine X_getI (n := 181) xf_X12 hk0 (by decide) fl_X12_351 rfl (kX12_changed_1 1 rfl) rfl ?_
        refine X_bipush (n := 183) (v := 40) (kX12_changed_1 2 rfl) rfl (by decide) ?_
        refine X_itebind ?_
        refine X_ic_ge (n := 186) (tgt := 221) (kX12_changed_1 3 rfl) rfl rfl (fun h21 => ?_) (fun h21 => ?_)
        · refine X_iinc (n := 224) 3 (v := (i3 + 1)) (L1 := [(3, .int (i3 + 1)), (6, .int i6), (5, .int i5), (4, .int i4), (2, .int i2), (0, .ref a0)]) (kX12_changed_1 24 rfl) rfl rfl rfl (Nat.le_of_ble_eq_true rfl) rfl ?_
          refine X_iinc (n := 227) 1 (v := (i6 + 1)) (L1 := [(6, .int (i6 + 1)), (3, .int (i3 + 1)), (5, .int i5), (4, .int i4), (2, .int i2), (0, .ref a0)]) (kX12_changed_1 25 rfl) rfl rfl rfl (Nat.le_of_ble_eq_true rfl) rfl ?_
          refine X_goto (tgt := 114) (kX12_changed_1 26 rfl) rfl ?_
          exact X_L [0, 2, 3, 1, 4, 5] rfl (ih (i3 + 1) (i6 + 1) S19)
        · refine X_aload_n (n := 187) 5 (kX12_changed_1 4 rfl) rfl rfl rfl ?_
          refine X_getR (n := 190) xf_X12 hk0 (by decide) fl_X12_85 rfl (kX12_changed_1 5 rfl) rfl ?_
          refine X_aload_n (n := 191) 5 (kX12_changed_1 6 rfl) rfl rfl rfl ?_
          refine X_getI (n := 194) xf_X12 hk0 (by decide) fl_X12_351 rfl (kX12_changed_1 7 rfl) rfl ?_
          refine X_sipush (n := 197) (v := 10000) (kX12_changed_1 8 rfl) rfl (by decide) ?_
          refine X_iload (n := 199) 2 (kX12_changed_1 9 rfl) rfl rfl ?_
          refine X_imul (n := 200) (kX12_changed_1 10 rfl) rfl ?_
          refine X_sipush (n := 203) (v := 1000) (kX12_changed_1 11 rfl) rfl (by decide) ?_
          refine X_iload (n := 205) 1 (kX12_changed_1 12 rfl) rfl rfl ?_
          refine X_imul (n := 206) (kX12_changed_1 13 rfl) rfl ?_
          refine X_iadd (n := 207) (kX12_changed_1 14 rfl) rfl ?_
          refine X_iload (n := 209) 0 (kX12_changed_1 15 rfl) rfl rfl ?_
          refine X_iadd (n := 210) (kX12_changed_1 16 rfl) rfl ?_
          refine X_itebind ?_
          refine X_iast (n := 211) (kt_12_43 hk0) (kX12_changed_1 17 rfl) rfl (fun h22 => ?_)
          refine X_aload_n (n := 212) 5 (kX12_changed_1 18 rfl) rfl rfl rfl ?_
          refine X_dup (n := 213) (kX12_changed_1 19 rfl) rfl rfl ?_
          refine X_getI (n := 216) xf_X12 hk0 (by decide) fl_X12_351 rfl (kX12_changed_1 20 rfl) rfl ?_
          refine X_iconst (n := 217) (v := 1) (kX12_changed_1 21 rfl) rfl (by decide) ?_
          refine X_iadd (n := 218) (kX12_changed_1 22 rfl) rfl ?_
          refine X_putI (n := 221) xf_X12 hk0 (by decide) fl_X12_351 rfl rfl (Or.inl rfl) (kX12_changed_1 23 rfl) rfl ?_
          refine X_iinc (n := 224) 3 (v := (i3 + 1)) (L1 := [(3, .int (i3 + 1)), (6, .int i6), (5, .int i5), (4, .int i4), (2, .int i2), (0, .ref a0)]) (kX12_changed_1 24 rfl) rfl rfl rfl (Nat.le_of_ble_eq_true rfl) rfl ?_
          refine X_iinc (n := 227) 1 (v := (i6 + 1)) (L1 := [(6, .int (i6 + 1)), (3, .int (i3 + 1)), (5, .int i5), (4, .int i4), (2, .int i2), (0, .ref a0)]) (kX12_changed_1 25 rfl) rfl rfl rfl (Nat.le_of_ble_eq_true rfl) rfl ?_
          refine X_goto (tgt := 114) (kX12_changed_1 26 rfl) rfl ?_
          exact X_L [0, 2, 3, 1, 4, 5] rfl (ih (i3 + 1) (i6 + 1) (sI (sI S19 (rf a0 43) ((S19.1 a0 44).toNatClampNeg) ((((10000 : Int32) * i4) + ((1000 : Int32) * i5)) + i6)) a0 44 (((sI S19 (rf a0 43) ((S19.1 a0 44).toNatClampNeg) ((((10000 : Int32) * i4) + ((1000 : Int32) * i5)) + i6)).1 a0 44) + (1 : Int32))))
      · refine X_goto (tgt := 224) (kX12_changed 99 rfl) rfl ?_
        refine X_iinc (n := 227) 0 (v := (i6 + 1)) (L1 := [(6, .int (i6 + 1)), (5, .int i5), (4, .int i4), (3, .int i3), (2, .int i2), (0, .ref a0)]) (kX12_changed_1 25 rfl) rfl rfl rfl (Nat.le_of_ble_eq_true rfl) rfl ?_
        refine X_goto (tgt := 114) (kX12_changed_1 26 rfl) rfl ?_
        exact X_L [0, 1, 2, 3, 4, 5] rfl (ih i3 (i6 + 1) S19)
set_option maxHeartbeats 4000000 in
set_option maxRecDepth 100000 in
theorem w_X12_changed_L100 {l : Launch} {g : XG} {G : (Int32 × XS) → Option (Int32 × XS)}  {i4 : Int32} {i2 : Int32} {a0 : Nat} (hk0 : kd a0 = 12) (kE : ∀ (e3 : Int32) (S1 : XS), X φI l g 4 mX12_changed 236 [(4, .int i4), (3, .int e3), (2, .int i2), (0, .ref a0)] [] S1 (G (e3, S1))) : ∀ (n : Nat) (i3 : Int32) (i5 : Int32) (S : XS), X φI l g 4 mX12_changed 100 [(5, .int i5), (4, .int i4), (3, .int i3), (2, .int i2), (0, .ref a0)] [] S ((f_X12_changed_L100 i4 i2 a0 n i3 i5 S).bind G) := by
  intro n
  induction n with
  | zero => intro i3 i5 S; exact X_none
  | succ n ih =>
  · intro i3 i5 S
    rw [f_X12_changed_L100]
    refine X_iload (n := 102) 0 (kX12_changed 61 rfl) rfl rfl ?_
    refine X_aload_n (n := 103) 4 (kX12_changed 62 rfl) rfl rfl rfl ?_
    refine X_getR (n := 106) xf_X12 hk0 (by decide) fl_X12_13 rfl (kX12_changed 63 rfl) rfl ?_
    refine X_iconst (n := 107) (v := 3) (kX12_changed 64 rfl) rfl (by decide) ?_
    refine X_iald' (n := 108) (kt_12_14 hk0) (kX12_changed 65 rfl) rfl (by rw [lt_12_14 hk0]; decide) ?_
    refine X_itebind ?_
    refine X_ic_ge (n := 111) (tgt := 236) (kX12_changed 66 rfl) rfl rfl (fun h9 => ?_) (fun h9 => ?_)
    · exact X_L [1, 2, 3, 4] rfl (kE i3 S)
    · refine X_iconst (n := 112) (v := 1) (kX12_changed 67 rfl) rfl (by decide) ?_
      refine X_istore (n := 114) (L1 := [(6, .int 1), (5, .int i5), (4, .int i4), (3, .int i3), (2, .int i2), (0, .ref a0)]) (kX12_changed 68 rfl) rfl (Nat.le_of_ble_eq_true rfl) rfl ?_
      refine X_assoc ?_
      refine X_L [0, 1, 2, 3, 4, 5] rfl (w_X12_changed_L114 hk0 (fun e23 S24 => ?_) 1000000 i3 (1 : Int32) S)
      try dsimp only
      refine X_iinc (n := 233) 0 (v := (i5 + 1)) (L1 := [(5, .int (i5 + 1)), (4, .int i4), (3, .int e23), (2, .int i2), (0, .ref a0)]) (kX12_changed_1 27 rfl) rfl rfl rfl (Nat.le_of_ble_eq_true rfl) rfl ?_
      refine X_goto (tgt := 100) (kX12_changed_1 28 rfl) rfl ?_
      exact X_L [0, 1, 2, 3, 4] rfl (ih e23 (i5 + 1) S24)
set_option maxHeartbeats 4000000 in
set_option maxRecDepth 100000 in
theorem w_X12_changed_L83 {l : Launch} {g : XG} {G : (Int32 × XS) → Option (Int32 × XS)}  {i2 : Int32} {a0 : Nat} (hk0 : kd a0 = 12) (kE : ∀ (e3 : Int32) (S1 : XS), X φI l g 4 mX12_changed 242 [(3, .int e3), (0, .ref a0)] [] S1 (G (e3, S1))) : ∀ (n : Nat) (i3 : Int32) (i4 : Int32) (S : XS), X φI l g 4 mX12_changed 83 [(4, .int i4), (3, .int i3), (2, .int i2), (0, .ref a0)] [] S ((f_X12_changed_L83 i2 a0 n i3 i4 S).bind G) := by
  intro n
  induction n with
  | zero => intro i3 i4 S; exact X_none
  | succ n ih =>
  · intro i3 i4 S
    rw [f_X12_changed_L83]
    refine X_iload (n := 85) 0 (kX12_changed 51 rfl) rfl rfl ?_
    refine X_aload_n (n := 86) 3 (kX12_changed 52 rfl) rfl rfl rfl ?_
    refine X_getR (n := 89) xf_X12 hk0 (by decide) fl_X12_13 rfl (kX12_changed 53 rfl) rfl ?_
    refine X_iconst (n := 90) (v := 3) (kX12_changed 54 rfl) rfl (by decide) ?_
    refine X_iald' (n := 91) (kt_12_14 hk0) (kX12_changed 55 rfl) rfl (by rw [lt_12_14 hk0]; decide) ?_
    refine X_itebind ?_
    refine X_ic_ge (n := 94) (tgt := 242) (kX12_changed 56 rfl) rfl rfl (fun h8 => ?_) (fun h8 => ?_)
    · exact X_L [1, 3] rfl (kE i3 S)
    · refine X_iload (n := 96) 0 (kX12_changed 57 rfl) rfl rfl ?_
      refine X_iconst (n := 97) (v := 1) (kX12_changed 58 rfl) rfl (by decide) ?_
      refine X_iadd (n := 98) (kX12_changed 59 rfl) rfl ?_
      refine X_istore (n := 100) (L1 := [(5, .int (i4 + (1 : Int32))), (4, .int i4), (3, .int i3), (2, .int i2), (0, .ref a0)]) (kX12_changed 60 rfl) rfl (Nat.le_of_ble_eq_true rfl) rfl ?_
      refine X_assoc ?_
      refine X_L [0, 1, 2, 3, 4] rfl (w_X12_changed_L100 hk0 (fun e25 S26 => ?_) 1000000 i3 (i4 + (1 : Int32)) S)
      try dsimp only
      refine X_iinc (n := 239) 0 (v := (i4 + 1)) (L1 := [(4, .int (i4 + 1)), (3, .int e25), (2, .int i2), (0, .ref a0)]) (kX12_changed_1 29 rfl) rfl rfl rfl (Nat.le_of_ble_eq_true rfl) rfl ?_
      refine X_goto (tgt := 83) (kX12_changed_1 30 rfl) rfl ?_
      exact X_L [0, 1, 2, 3] rfl (ih e25 (i4 + 1) S26)
set_option maxHeartbeats 4000000 in
set_option maxRecDepth 100000 in
theorem w_X12_changed {l : Launch} {g : XG}  {a0 : Nat} {S : XS} (hk0 : kd a0 = 12) : Cl φI l g 4 mX12_changed [.ref a0] S (f_X12_changed a0 S) := by
  refine Cl.of (by decide +kernel) (Nat.le_of_ble_eq_true rfl) ?_
  unfold f_X12_changed
  show X _ _ _ _ _ 0 [(0, .ref a0)] [] S _
  refine X_aload_n (n := 1) 0 (kX12_changed 0 rfl) rfl rfl rfl ?_
  refine X_iconst (n := 2) (v := 0) (kX12_changed 1 rfl) rfl (by decide) ?_
  refine X_putI (n := 5) xf_X12 hk0 (by decide) fl_X12_100 rfl rfl (Or.inl rfl) (kX12_changed 2 rfl) rfl ?_
  refine X_aload_n (n := 6) 0 (kX12_changed 3 rfl) rfl rfl rfl ?_
  refine X_callV1I (n := 9) (As := []) (st := []) (kX12_changed 4 rfl) rfl (p_X12_take hk0) (by decide) ml_X12_186 mf_X12_take rfl hk0 xf_X12 rfl (Nat.le_of_ble_eq_true rfl) ?_
  refine X_istore_n (n := 10) (L1 := [(1, .int (t_X12_take a0 (sI S a0 0 (0 : Int32))).1), (0, .ref a0)]) (kX12_changed 5 rfl) rfl rfl (Nat.le_of_ble_eq_true rfl) rfl ?_
  refine X_aload_n (n := 11) 1 (kX12_changed 6 rfl) rfl rfl rfl ?_
  refine X_getR (n := 14) xf_X12 hk0 (by decide) fl_X12_13 rfl (kX12_changed 7 rfl) rfl ?_
  refine X_sipush (n := 17) (v := 144) (kX12_changed 8 rfl) rfl (by decide) ?_
  refine X_iald' (n := 18) (kt_12_14 hk0) (kX12_changed 9 rfl) rfl (by rw [lt_12_14 hk0]; decide) ?_
  refine X_istore_n (n := 19) (L1 := [(2, .int (((t_X12_take a0 (sI S a0 0 (0 : Int32))).2).1 (rf a0 14) 144)), (1, .int (t_X12_take a0 (sI S a0 0 (0 : Int32))).1), (0, .ref a0)]) (kX12_changed 10 rfl) rfl rfl (Nat.le_of_ble_eq_true rfl) rfl ?_
  refine X_iload_n (n := 20) 1 (kX12_changed 11 rfl) rfl rfl rfl ?_
  refine X_aload_n (n := 21) 2 (kX12_changed 12 rfl) rfl rfl rfl ?_
  refine X_getR (n := 24) xf_X12 hk0 (by decide) fl_X12_13 rfl (kX12_changed 13 rfl) rfl ?_
  refine X_iconst (n := 25) (v := 3) (kX12_changed 14 rfl) rfl (by decide) ?_
  refine X_iald' (n := 26) (kt_12_14 hk0) (kX12_changed 15 rfl) rfl (by rw [lt_12_14 hk0]; decide) ?_
  refine X_aload_n (n := 27) 2 (kX12_changed 16 rfl) rfl rfl rfl ?_
  refine X_getR (n := 30) xf_X12 hk0 (by decide) fl_X12_13 rfl (kX12_changed 17 rfl) rfl ?_
  refine X_iconst (n := 31) (v := 0) (kX12_changed 18 rfl) rfl (by decide) ?_
  refine X_iald' (n := 32) (kt_12_14 hk0) (kX12_changed 19 rfl) rfl (by rw [lt_12_14 hk0]; decide) ?_
  refine X_imul (n := 33) (kX12_changed 20 rfl) rfl ?_
  refine X_ic_ne (n := 36) (tgt := 42) (kX12_changed 21 rfl) rfl rfl (fun h1 => ?_) (fun h1 => ?_)
  · refine X_iload_n (n := 37) 0 (kX12_changed 22 rfl) rfl rfl rfl ?_
    refine X_bipush (n := 39) (v := 60) (kX12_changed 23 rfl) rfl (by decide) ?_
    refine X_ic_le (n := 42) (tgt := 44) (kX12_changed 24 rfl) rfl rfl (fun h2 => ?_) (fun h2 => ?_)
    · refine X_iconst (n := 45) (v := 0) (kX12_changed 27 rfl) rfl (by decide) ?_
      refine X_istore_n (n := 46) (L1 := [(3, .int 0), (2, .int (((t_X12_take a0 (sI S a0 0 (0 : Int32))).2).1 (rf a0 14) 144)), (1, .int (t_X12_take a0 (sI S a0 0 (0 : Int32))).1), (0, .ref a0)]) (kX12_changed 28 rfl) rfl rfl (Nat.le_of_ble_eq_true rfl) rfl ?_
      refine X_L [0, 1, 2, 3] rfl (w_X12_changed_L46 hk0 (fun S6 => ?_) 1000000 (0 : Int32) ((t_X12_take a0 (sI S a0 0 (0 : Int32))).2))
      try dsimp only
      refine X_iconst (n := 70) (v := 0) (kX12_changed 42 rfl) rfl (by decide) ?_
      refine X_istore_n (n := 71) (L1 := [(3, .int 0), (2, .int (((t_X12_take a0 (sI S a0 0 (0 : Int32))).2).1 (rf a0 14) 144)), (0, .ref a0)]) (kX12_changed 43 rfl) rfl rfl (Nat.le_of_ble_eq_true rfl) rfl ?_
      refine X_aload_n (n := 72) 2 (kX12_changed 44 rfl) rfl rfl rfl ?_
      refine X_iconst (n := 73) (v := 0) (kX12_changed 45 rfl) rfl (by decide) ?_
      refine X_putI (n := 76) xf_X12 hk0 (by decide) fl_X12_351 rfl rfl (Or.inl rfl) (kX12_changed 46 rfl) rfl ?_
      refine X_aload_n (n := 77) 2 (kX12_changed 47 rfl) rfl rfl rfl ?_
      refine X_callVV (n := 80) (As := []) (st := []) (kX12_changed 48 rfl) rfl (w_X12_layAside hk0) (by decide) ml_X12_354 mf_X12_layAside rfl hk0 xf_X12 rfl (Nat.le_of_ble_eq_true rfl) (fun S7 hq => ?_)
      try dsimp only
      refine X_iconst (n := 81) (v := 0) (kX12_changed 49 rfl) rfl (by decide) ?_
      refine X_istore (n := 83) (L1 := [(4, .int 0), (3, .int 0), (2, .int (((t_X12_take a0 (sI S a0 0 (0 : Int32))).2).1 (rf a0 14) 144)), (0, .ref a0)]) (kX12_changed 50 rfl) rfl (Nat.le_of_ble_eq_true rfl) rfl ?_
      refine X_L [0, 1, 2, 3] rfl (w_X12_changed_L83 hk0 (fun e27 S28 => ?_) 1000000 (0 : Int32) (0 : Int32) S7)
      try dsimp only
      refine X_aload_n (n := 243) 1 (kX12_changed_1 31 rfl) rfl rfl rfl ?_
      refine X_callVV (n := 246) (As := []) (st := []) (kX12_changed_1 32 rfl) rfl (w_X12_layBack hk0) (by decide) ml_X12_360 mf_X12_layBack rfl hk0 xf_X12 rfl (Nat.le_of_ble_eq_true rfl) (fun S29 hq => ?_)
      try dsimp only
      refine X_iload_n (n := 247) 0 (kX12_changed_1 33 rfl) rfl rfl rfl ?_
      exact X_iret rfl (kX12_changed_1 34 rfl)
    · refine X_iconst (n := 43) (v := (-1)) (kX12_changed 25 rfl) rfl (by decide) ?_
      exact X_iret rfl (kX12_changed 26 rfl)
  · refine X_iconst (n := 43) (v := (-1)) (kX12_changed 25 rfl) rfl (by decide) ?_
    exact X_iret rfl (kX12_changed 26 rfl)
def f_X12_drawHours_L30  (i3 : Int32) (a0 : Nat) (i1 : Int32) : Nat → Int32 → XS → Option (XS)
  | 0, _, _ => none
  | n + 1, i4, S => (if (S.1 (rf a0 14) 3) ≤ i4 then some S else ((f_X12_draw a0 (3 : Int32) S).bind (fun q => match q with | (r3, S4) => (if r3 = 0 then ((f_X12_draw a0 (S4.1 (rf a0 14) 1) S4).bind (fun q => match q with | (r6, S7) => (if ((145 : Int32) + i4) < 0 ∨ ln (rf a0 14) ≤ ((145 : Int32) + i4).toNatClampNeg then none else f_X12_drawHours_L30 i3 a0 i1 n (i4 + 1) (sI (sI S7 (rf a0 14) (((145 : Int32) + i4).toNatClampNeg) r6) a0 50 (((sI S7 (rf a0 14) (((145 : Int32) + i4).toNatClampNeg) r6).1 a0 50) + (1 : Int32)))))) else f_X12_drawHours_L30 i3 a0 i1 n (i4 + 1) S4))))
def f_X12_drawHours_L22  (a0 : Nat) (i1 : Int32) : Nat → Int32 → XS → Option (XS)
  | 0, _, _ => none
  | n + 1, i3, S => (if i1 ≤ i3 then some S else ((f_X12_drawHours_L30 i3 a0 i1 1000000 (0 : Int32) S).bind (fun S9 => ((f_X12_draw a0 (8 : Int32) S9).bind (fun q => match q with | (r10, S11) => ((if r10 = 0 then ((f_X12_draw a0 (S11.1 (rf a0 14) 3) S11).bind (fun q => match q with | (r21, S22) => ((f_X12_draw a0 (S22.1 (rf a0 14) 3) S22).bind (fun q => match q with | (r23, S24) => (if r21 = r23 then some S24 else ((f_X12_changeBoth a0 r21 r23 S24).bind (fun S26 => some (sI S26 a0 49 ((S26.1 a0 49) + (1 : Int32)))))))))) else some S11).bind (fun S12 => ((f_X12_draw a0 (5 : Int32) S12).bind (fun q => match q with | (r13, S14) => ((if r13 = 0 then some true else some false).bind (fun x15 => ((if x15 = true then some (sI S14 a0 48 ((S14.1 a0 48) + (1 : Int32))) else some S14).bind (fun S16 => ((f_X12_pass a0 x15 S16).bind (fun S17 => f_X12_drawHours_L22 a0 i1 n (i3 + 1) S17)))))))))))))))
def f_X12_drawHours  (a0 : Nat) (i1 : Int32) (i2 : Int32) (S : XS) : Option (XS) := ((f_X12_drawHours_L22 a0 i1 1000000 (0 : Int32) (sI (sI (sI (sI S a0 47 i2) a0 48 (0 : Int32)) a0 49 (0 : Int32)) a0 50 (0 : Int32))).bind (fun S27 => some S27))
set_option maxHeartbeats 4000000 in
set_option maxRecDepth 100000 in
theorem w_X12_drawHours_L30 {l : Launch} {g : XG} {G : (XS) → Option (XS)}  {i3 : Int32} {a0 : Nat} {i1 : Int32} (hk0 : kd a0 = 12) (kE : ∀ (S1 : XS), X φV l g 4 mX12_drawHours 89 [(3, .int i3), (0, .ref a0), (1, .int i1)] [] S1 (G S1)) : ∀ (n : Nat) (i4 : Int32) (S : XS), X φV l g 4 mX12_drawHours 30 [(4, .int i4), (3, .int i3), (0, .ref a0), (1, .int i1)] [] S ((f_X12_drawHours_L30 i3 a0 i1 n i4 S).bind G) := by
  intro n
  induction n with
  | zero => intro i4 S; exact X_none
  | succ n ih =>
  · intro i4 S
    rw [f_X12_drawHours_L30]
    refine X_iload (n := 32) 0 (kX12_drawHours 19 rfl) rfl rfl ?_
    refine X_aload_n (n := 33) 2 (kX12_drawHours 20 rfl) rfl rfl rfl ?_
    refine X_getR (n := 36) xf_X12 hk0 (by decide) fl_X12_13 rfl (kX12_drawHours 21 rfl) rfl ?_
    refine X_iconst (n := 37) (v := 3) (kX12_drawHours 22 rfl) rfl (by decide) ?_
    refine X_iald' (n := 38) (kt_12_14 hk0) (kX12_drawHours 23 rfl) rfl (by rw [lt_12_14 hk0]; decide) ?_
    refine X_itebind ?_
    refine X_ic_ge (n := 41) (tgt := 89) (kX12_drawHours 24 rfl) rfl rfl (fun h2 => ?_) (fun h2 => ?_)
    · exact X_L [1, 2, 3] rfl (kE S)
    · refine X_aload_n (n := 42) 2 (kX12_drawHours 25 rfl) rfl rfl rfl ?_
      refine X_iconst (n := 43) (v := 3) (kX12_drawHours 26 rfl) rfl (by decide) ?_
      refine X_assoc ?_
      refine X_callVI (n := 46) (As := [.int (3 : Int32)]) (st := []) (kX12_drawHours 27 rfl) rfl (w_X12_draw hk0) (by decide) ml_X12_393 mf_X12_draw rfl hk0 xf_X12 rfl (Nat.le_of_ble_eq_true rfl) (fun r3 S4 hq => ?_)
      try dsimp only
      refine X_itebind ?_
      refine X_if_eq (n := 49) (tgt := 52) (kX12_drawHours 28 rfl) rfl rfl (fun h5 => ?_) (fun h5 => ?_)
      · refine X_aload_n (n := 53) 2 (kX12_drawHours 30 rfl) rfl rfl rfl ?_
        refine X_getR (n := 56) xf_X12 hk0 (by decide) fl_X12_13 rfl (kX12_drawHours 31 rfl) rfl ?_
        refine X_sipush (n := 59) (v := 145) (kX12_drawHours 32 rfl) rfl (by decide) ?_
        refine X_iload (n := 61) 0 (kX12_drawHours 33 rfl) rfl rfl ?_
        refine X_iadd (n := 62) (kX12_drawHours 34 rfl) rfl ?_
        refine X_aload_n (n := 63) 2 (kX12_drawHours 35 rfl) rfl rfl rfl ?_
        refine X_aload_n (n := 64) 2 (kX12_drawHours 36 rfl) rfl rfl rfl ?_
        refine X_getR (n := 67) xf_X12 hk0 (by decide) fl_X12_13 rfl (kX12_drawHours 37 rfl) rfl ?_
        refine X_iconst (n := 68) (v := 1) (kX12_drawHours 38 rfl) rfl (by decide) ?_
        refine X_iald' (n := 69) (kt_12_14 hk0) (kX12_drawHours 39 rfl) rfl (by rw [lt_12_14 hk0]; decide) ?_
        refine X_assoc ?_
        refine X_callVI (n := 72) (As := [.int (S4.1 (rf a0 14) 1)]) (st := [.int ((145 : Int32) + i4), .ref (rf a0 14)]) (kX12_drawHours 40 rfl) rfl (w_X12_draw hk0) (by decide) ml_X12_393 mf_X12_draw rfl hk0 xf_X12 rfl (Nat.le_of_ble_eq_true rfl) (fun r6 S7 hq => ?_)
        try dsimp only
        refine X_itebind ?_
        refine X_iast (n := 73) (kt_12_14 hk0) (kX12_drawHours 41 rfl) rfl (fun h8 => ?_)
        refine X_aload_n (n := 74) 2 (kX12_drawHours 42 rfl) rfl rfl rfl ?_
        refine X_dup (n := 75) (kX12_drawHours 43 rfl) rfl rfl ?_
        refine X_getI (n := 78) xf_X12 hk0 (by decide) fl_X12_390 rfl (kX12_drawHours 44 rfl) rfl ?_
        refine X_iconst (n := 79) (v := 1) (kX12_drawHours 45 rfl) rfl (by decide) ?_
        refine X_iadd (n := 80) (kX12_drawHours 46 rfl) rfl ?_
        refine X_putI (n := 83) xf_X12 hk0 (by decide) fl_X12_390 rfl rfl (Or.inl rfl) (kX12_drawHours 47 rfl) rfl ?_
        refine X_iinc (n := 86) 0 (v := (i4 + 1)) (L1 := [(4, .int (i4 + 1)), (3, .int i3), (0, .ref a0), (1, .int i1)]) (kX12_drawHours 48 rfl) rfl rfl rfl (Nat.le_of_ble_eq_true rfl) rfl ?_
        refine X_goto (tgt := 30) (kX12_drawHours 49 rfl) rfl ?_
        exact X_L [0, 1, 2, 3] rfl (ih (i4 + 1) (sI (sI S7 (rf a0 14) (((145 : Int32) + i4).toNatClampNeg) r6) a0 50 (((sI S7 (rf a0 14) (((145 : Int32) + i4).toNatClampNeg) r6).1 a0 50) + (1 : Int32))))
      · refine X_goto (tgt := 83) (kX12_drawHours 29 rfl) rfl ?_
        refine X_iinc (n := 86) 0 (v := (i4 + 1)) (L1 := [(4, .int (i4 + 1)), (3, .int i3), (0, .ref a0), (1, .int i1)]) (kX12_drawHours 48 rfl) rfl rfl rfl (Nat.le_of_ble_eq_true rfl) rfl ?_
        refine X_goto (tgt := 30) (kX12_drawHours 49 rfl) rfl ?_
        exact X_L [0, 1, 2, 3] rfl (ih (i4 + 1) S4)
set_option maxHeartbeats 4000000 in
set_option maxRecDepth 100000 in
theorem w_X12_drawHours_L22 {l : Launch} {g : XG} {G : (XS) → Option (XS)}  {a0 : Nat} {i1 : Int32} (hk0 : kd a0 = 12) (kE : ∀ (S1 : XS), X φV l g 4 mX12_drawHours 189 [] [] S1 (G S1)) : ∀ (n : Nat) (i3 : Int32) (S : XS), X φV l g 4 mX12_drawHours 22 [(3, .int i3), (0, .ref a0), (1, .int i1)] [] S ((f_X12_drawHours_L22 a0 i1 n i3 S).bind G) := by
  intro n
  induction n with
  | zero => intro i3 S; exact X_none
  | succ n ih =>
  · intro i3 S
    rw [f_X12_drawHours_L22]
    refine X_iload_n (n := 23) 0 (kX12_drawHours 14 rfl) rfl rfl rfl ?_
    refine X_iload_n (n := 24) 2 (kX12_drawHours 15 rfl) rfl rfl rfl ?_
    refine X_itebind ?_
    refine X_ic_ge (n := 27) (tgt := 189) (kX12_drawHours 16 rfl) rfl rfl (fun h1 => ?_) (fun h1 => ?_)
    · exact X_L [] rfl (kE S)
    · refine X_iconst (n := 28) (v := 0) (kX12_drawHours 17 rfl) rfl (by decide) ?_
      refine X_istore (n := 30) (L1 := [(4, .int 0), (3, .int i3), (0, .ref a0), (1, .int i1)]) (kX12_drawHours 18 rfl) rfl (Nat.le_of_ble_eq_true rfl) rfl ?_
      refine X_assoc ?_
      refine X_L [0, 1, 2, 3] rfl (w_X12_drawHours_L30 hk0 (fun S9 => ?_) 1000000 (0 : Int32) S)
      try dsimp only
      refine X_aload_n (n := 90) 1 (kX12_drawHours 50 rfl) rfl rfl rfl ?_
      refine X_bipush (n := 92) (v := 8) (kX12_drawHours 51 rfl) rfl (by decide) ?_
      refine X_assoc ?_
      refine X_callVI (n := 95) (As := [.int (8 : Int32)]) (st := []) (kX12_drawHours 52 rfl) rfl (w_X12_draw hk0) (by decide) ml_X12_393 mf_X12_draw rfl hk0 xf_X12 rfl (Nat.le_of_ble_eq_true rfl) (fun r10 S11 hq => ?_)
      try dsimp only
      refine X_assoc ?_
      refine X_join 147 (fun S12 => [(3, .int i3), (0, .ref a0), (1, .int i1)]) (fun S12 => []) (fun S12 => S12) (fun S12 => ?_) (fun kJ => ?_)
      · try dsimp only
        refine X_aload_n (n := 148) 1 (kX12_drawHours 81 rfl) rfl rfl rfl ?_
        refine X_iconst (n := 149) (v := 5) (kX12_drawHours 82 rfl) rfl (by decide) ?_
        refine X_assoc ?_
        refine X_callVI (n := 152) (As := [.int (5 : Int32)]) (st := []) (kX12_drawHours 83 rfl) rfl (w_X12_draw hk0) (by decide) ml_X12_393 mf_X12_draw rfl hk0 xf_X12 rfl (Nat.le_of_ble_eq_true rfl) (fun r13 S14 hq => ?_)
        try dsimp only
        refine X_assoc ?_
        refine X_join 160 (fun x15 => [(3, .int i3), (0, .ref a0), (1, .int i1)]) (fun x15 => [.int (bi x15)]) (fun x15 => S14) (fun x15 => ?_) (fun kJ => ?_)
        · try dsimp only
          refine X_istore (n := 162) (L1 := [(4, .int (bi x15)), (3, .int i3), (0, .ref a0), (1, .int i1)]) (kX12_drawHours 88 rfl) rfl (Nat.le_of_ble_eq_true rfl) rfl ?_
          refine X_iload (n := 164) 0 (kX12_drawHours 89 rfl) rfl rfl ?_
          refine X_assoc ?_
          refine X_join 177 (fun S16 => [(4, .int (bi x15)), (3, .int i3), (0, .ref a0), (1, .int i1)]) (fun S16 => []) (fun S16 => S16) (fun S16 => ?_) (fun kJ => ?_)
          · try dsimp only
            refine X_aload_n (n := 178) 2 (kX12_drawHours 97 rfl) rfl rfl rfl ?_
            refine X_iload (n := 180) 0 (kX12_drawHours 98 rfl) rfl rfl ?_
            refine X_assoc ?_
            refine X_callVV (n := 183) (As := [.int (bi x15)]) (st := []) (kX12_drawHours 99 rfl) rfl (w_X12_pass hk0) (by decide) ml_X12_313 mf_X12_pass rfl hk0 xf_X12 rfl (Nat.le_of_ble_eq_true rfl) (fun S17 hq => ?_)
            try dsimp only
            refine X_iinc (n := 186) 1 (v := (i3 + 1)) (L1 := [(3, .int (i3 + 1)), (4, .int (bi x15)), (0, .ref a0), (1, .int i1)]) (kX12_drawHours_1 0 rfl) rfl rfl rfl (Nat.le_of_ble_eq_true rfl) rfl ?_
            refine X_goto (tgt := 22) (kX12_drawHours_1 1 rfl) rfl ?_
            exact X_L [0, 2, 3] rfl (ih (i3 + 1) S17)
          · refine X_itebind ?_
            refine X_bz (n := 167) (tgt := 177) (kX12_drawHours 90 rfl) rfl rfl (fun h18 => ?_) (fun h18 => ?_)
            · refine X_aload_n (n := 168) 2 (kX12_drawHours 91 rfl) rfl rfl rfl ?_
              refine X_dup (n := 169) (kX12_drawHours 92 rfl) rfl rfl ?_
              refine X_getI (n := 172) xf_X12 hk0 (by decide) fl_X12_384 rfl (kX12_drawHours 93 rfl) rfl ?_
              refine X_iconst (n := 173) (v := 1) (kX12_drawHours 94 rfl) rfl (by decide) ?_
              refine X_iadd (n := 174) (kX12_drawHours 95 rfl) rfl ?_
              refine X_putI (n := 177) xf_X12 hk0 (by decide) fl_X12_384 rfl rfl (Or.inl rfl) (kX12_drawHours 96 rfl) rfl ?_
              exact X_L [0, 1, 2, 3] rfl (kJ (sI S14 a0 48 ((S14.1 a0 48) + (1 : Int32))))
            · exact X_L [0, 1, 2, 3] rfl (kJ S14)
        · refine X_itebind ?_
          refine X_if_ne (n := 155) (tgt := 159) (kX12_drawHours 84 rfl) rfl rfl (fun h19 => ?_) (fun h19 => ?_)
          · refine X_iconst (n := 156) (v := 1) (kX12_drawHours 85 rfl) rfl (by decide) ?_
            refine X_goto (tgt := 160) (kX12_drawHours 86 rfl) rfl ?_
            exact X_L [0, 1, 2] rfl (kJ true)
          · refine X_iconst (n := 160) (v := 0) (kX12_drawHours 87 rfl) rfl (by decide) ?_
            exact X_L [0, 1, 2] rfl (kJ false)
      · refine X_itebind ?_
        refine X_if_ne (n := 98) (tgt := 147) (kX12_drawHours 53 rfl) rfl rfl (fun h20 => ?_) (fun h20 => ?_)
        · refine X_aload_n (n := 99) 1 (kX12_drawHours 54 rfl) rfl rfl rfl ?_
          refine X_aload_n (n := 100) 1 (kX12_drawHours 55 rfl) rfl rfl rfl ?_
          refine X_getR (n := 103) xf_X12 hk0 (by decide) fl_X12_13 rfl (kX12_drawHours 56 rfl) rfl ?_
          refine X_iconst (n := 104) (v := 3) (kX12_drawHours 57 rfl) rfl (by decide) ?_
          refine X_iald' (n := 105) (kt_12_14 hk0) (kX12_drawHours 58 rfl) rfl (by rw [lt_12_14 hk0]; decide) ?_
          refine X_assoc ?_
          refine X_callVI (n := 108) (As := [.int (S11.1 (rf a0 14) 3)]) (st := []) (kX12_drawHours 59 rfl) rfl (w_X12_draw hk0) (by decide) ml_X12_393 mf_X12_draw rfl hk0 xf_X12 rfl (Nat.le_of_ble_eq_true rfl) (fun r21 S22 hq => ?_)
          try dsimp only
          refine X_istore (n := 110) (L1 := [(4, .int r21), (3, .int i3), (0, .ref a0), (1, .int i1)]) (kX12_drawHours 60 rfl) rfl (Nat.le_of_ble_eq_true rfl) rfl ?_
          refine X_aload_n (n := 111) 2 (kX12_drawHours 61 rfl) rfl rfl rfl ?_
          refine X_aload_n (n := 112) 2 (kX12_drawHours 62 rfl) rfl rfl rfl ?_
          refine X_getR (n := 115) xf_X12 hk0 (by decide) fl_X12_13 rfl (kX12_drawHours 63 rfl) rfl ?_
          refine X_iconst (n := 116) (v := 3) (kX12_drawHours 64 rfl) rfl (by decide) ?_
          refine X_iald' (n := 117) (kt_12_14 hk0) (kX12_drawHours 65 rfl) rfl (by rw [lt_12_14 hk0]; decide) ?_
          refine X_assoc ?_
          refine X_callVI (n := 120) (As := [.int (S22.1 (rf a0 14) 3)]) (st := []) (kX12_drawHours 66 rfl) rfl (w_X12_draw hk0) (by decide) ml_X12_393 mf_X12_draw rfl hk0 xf_X12 rfl (Nat.le_of_ble_eq_true rfl) (fun r23 S24 hq => ?_)
          try dsimp only
          refine X_istore (n := 122) (L1 := [(5, .int r23), (4, .int r21), (3, .int i3), (0, .ref a0), (1, .int i1)]) (kX12_drawHours 67 rfl) rfl (Nat.le_of_ble_eq_true rfl) rfl ?_
          refine X_iload (n := 124) 1 (kX12_drawHours 68 rfl) rfl rfl ?_
          refine X_iload (n := 126) 0 (kX12_drawHours 69 rfl) rfl rfl ?_
          refine X_itebind ?_
          refine X_ic_eq (n := 129) (tgt := 147) (kX12_drawHours 70 rfl) rfl rfl (fun h25 => ?_) (fun h25 => ?_)
          · exact X_L [2, 3, 4] rfl (kJ S24)
          · refine X_aload_n (n := 130) 3 (kX12_drawHours 71 rfl) rfl rfl rfl ?_
            refine X_iload (n := 132) 1 (kX12_drawHours 72 rfl) rfl rfl ?_
            refine X_iload (n := 134) 0 (kX12_drawHours 73 rfl) rfl rfl ?_
            refine X_assoc ?_
            refine X_callVV (n := 137) (As := [.int r21, .int r23]) (st := []) (kX12_drawHours 74 rfl) rfl (w_X12_changeBoth hk0) (by decide) ml_X12_310 mf_X12_changeBoth rfl hk0 xf_X12 rfl (Nat.le_of_ble_eq_true rfl) (fun S26 hq => ?_)
            try dsimp only
            refine X_aload_n (n := 138) 3 (kX12_drawHours 75 rfl) rfl rfl rfl ?_
            refine X_dup (n := 139) (kX12_drawHours 76 rfl) rfl rfl ?_
            refine X_getI (n := 142) xf_X12 hk0 (by decide) fl_X12_387 rfl (kX12_drawHours 77 rfl) rfl ?_
            refine X_iconst (n := 143) (v := 1) (kX12_drawHours 78 rfl) rfl (by decide) ?_
            refine X_iadd (n := 144) (kX12_drawHours 79 rfl) rfl ?_
            refine X_putI (n := 147) xf_X12 hk0 (by decide) fl_X12_387 rfl rfl (Or.inl rfl) (kX12_drawHours 80 rfl) rfl ?_
            exact X_L [2, 3, 4] rfl (kJ (sI S26 a0 49 ((S26.1 a0 49) + (1 : Int32))))
        · exact X_L [0, 1, 2] rfl (kJ S11)
set_option maxHeartbeats 4000000 in
set_option maxRecDepth 100000 in
theorem w_X12_drawHours {l : Launch} {g : XG}  {a0 : Nat} {i1 : Int32} {i2 : Int32} {S : XS} (hk0 : kd a0 = 12) : Cl φV l g 4 mX12_drawHours [.ref a0, .int i1, .int i2] S (f_X12_drawHours a0 i1 i2 S) := by
  refine Cl.of (by decide +kernel) (Nat.le_of_ble_eq_true rfl) ?_
  unfold f_X12_drawHours
  show X _ _ _ _ _ 0 [(0, .ref a0), (1, .int i1), (2, .int i2)] [] S _
  refine X_aload_n (n := 1) 0 (kX12_drawHours 0 rfl) rfl rfl rfl ?_
  refine X_iload_n (n := 2) 2 (kX12_drawHours 1 rfl) rfl rfl rfl ?_
  refine X_putI (n := 5) xf_X12 hk0 (by decide) fl_X12_380 rfl rfl (Or.inl rfl) (kX12_drawHours 2 rfl) rfl ?_
  refine X_aload_n (n := 6) 0 (kX12_drawHours 3 rfl) rfl rfl rfl ?_
  refine X_iconst (n := 7) (v := 0) (kX12_drawHours 4 rfl) rfl (by decide) ?_
  refine X_putI (n := 10) xf_X12 hk0 (by decide) fl_X12_384 rfl rfl (Or.inl rfl) (kX12_drawHours 5 rfl) rfl ?_
  refine X_aload_n (n := 11) 0 (kX12_drawHours 6 rfl) rfl rfl rfl ?_
  refine X_iconst (n := 12) (v := 0) (kX12_drawHours 7 rfl) rfl (by decide) ?_
  refine X_putI (n := 15) xf_X12 hk0 (by decide) fl_X12_387 rfl rfl (Or.inl rfl) (kX12_drawHours 8 rfl) rfl ?_
  refine X_aload_n (n := 16) 0 (kX12_drawHours 9 rfl) rfl rfl rfl ?_
  refine X_iconst (n := 17) (v := 0) (kX12_drawHours 10 rfl) rfl (by decide) ?_
  refine X_putI (n := 20) xf_X12 hk0 (by decide) fl_X12_390 rfl rfl (Or.inl rfl) (kX12_drawHours 11 rfl) rfl ?_
  refine X_iconst (n := 21) (v := 0) (kX12_drawHours 12 rfl) rfl (by decide) ?_
  refine X_istore_n (n := 22) (L1 := [(3, .int 0), (0, .ref a0), (1, .int i1), (2, .int i2)]) (kX12_drawHours 13 rfl) rfl rfl (Nat.le_of_ble_eq_true rfl) rfl ?_
  refine X_L [0, 1, 2] rfl (w_X12_drawHours_L22 hk0 (fun S27 => ?_) 1000000 (0 : Int32) (sI (sI (sI (sI S a0 47 i2) a0 48 (0 : Int32)) a0 49 (0 : Int32)) a0 50 (0 : Int32)))
  try dsimp only
  exact X_vret rfl (kX12_drawHours_1 2 rfl)
