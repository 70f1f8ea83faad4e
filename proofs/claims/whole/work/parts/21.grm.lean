def f_X12_readAnd_L14 (r : Nat → XS → Option (Bool × XS)) (a0 : Nat) : Nat → Int32 → XS → Option ((Bool × XS) ⊕ (Int32 × XS))
  | 0, _, _ => none
  | n + 1, i1, S => ((f_X12_isWord a0 (8 : Int32) S).bind (fun q => match q with | (r4, S5) => (if r4 = true then ((f_X12_go a0 S5).bind (fun S7 => ((r a0 S7).bind (fun q => match q with | (r8, S9) => (if r8 = true then ((f_X12_saysOne a0 (2 : Int32) i1 (S9.1 a0 59) (0 : Int32) S9).bind (fun q => match q with | (r11, S12) => f_X12_readAnd_L14 r a0 n r11 S12)) else some (.inl (false, S9))))))) else some (.inr (i1, S5)))))
def f_X12_readAnd (r : Nat → XS → Option (Bool × XS)) (a0 : Nat) (S : XS) : Option (Bool × XS) := ((r a0 S).bind (fun q => match q with | (r1, S2) => (if r1 = true then ((f_X12_readAnd_L14 r a0 1000000 (S2.1 a0 59) S2).bind (fun q => match q with | .inl r => some r | .inr (e13, S14) => some (true, (sI S14 a0 59 e13)))) else some (false, S2))))
set_option maxHeartbeats 4000000 in
set_option maxRecDepth 100000 in
theorem w_X12_readAnd_L14 {l : Launch} {g : XG} {G : ((Bool × XS) ⊕ (Int32 × XS)) → Option (Bool × XS)} {d : Nat} (hd : 30 ≤ d) {r : Nat → XS → Option (Bool × XS)} (hr : ∀ (a0 : Nat) (S : XS), kd a0 = 12 → Cl φB l g d mX12_readTerm [.ref a0] S (r a0 S)) {a0 : Nat} (hk0 : kd a0 = 12) (kE : ∀ (e1 : Int32) (S1 : XS), X φB l g (d + 1) mX12_readAnd 51 [(1, .int e1), (0, .ref a0)] [] S1 (G (.inr (e1, S1)))) (kR : ∀ r, G (.inl r) = some r) : ∀ (n : Nat) (i1 : Int32) (S : XS), X φB l g (d + 1) mX12_readAnd 14 [(1, .int i1), (0, .ref a0)] [] S ((f_X12_readAnd_L14 r a0 n i1 S).bind G) := by
  intro n
  induction n with
  | zero => intro i1 S; exact X_none
  | succ n ih =>
  · intro i1 S
    rw [f_X12_readAnd_L14]
    refine X_aload_n (n := 15) 1 (kX12_readAnd 8 rfl) rfl rfl rfl ?_
    refine X_bipush (n := 17) (v := 8) (kX12_readAnd 9 rfl) rfl (by decide) ?_
    refine X_assoc ?_
    refine X_callVB (n := 20) (As := [.int (8 : Int32)]) (st := []) (kX12_readAnd 10 rfl) rfl (w_X12_isWord hk0) (by omega) ml_X12_214 mf_X12_isWord rfl hk0 xf_X12 rfl (Nat.le_of_ble_eq_true rfl) (fun r4 S5 hq => ?_)
    try dsimp only
    refine X_itebind ?_
    refine X_bz (n := 23) (tgt := 51) (kX12_readAnd 11 rfl) rfl rfl (fun h6 => ?_) (fun h6 => ?_)
    · refine X_aload_n (n := 24) 1 (kX12_readAnd 12 rfl) rfl rfl rfl ?_
      refine X_assoc ?_
      refine X_callVV (n := 27) (As := []) (st := []) (kX12_readAnd 13 rfl) rfl (w_X12_go hk0) (by omega) ml_X12_180 mf_X12_go rfl hk0 xf_X12 rfl (Nat.le_of_ble_eq_true rfl) (fun S7 hq => ?_)
      try dsimp only
      refine X_aload_n (n := 28) 1 (kX12_readAnd 14 rfl) rfl rfl rfl ?_
      refine X_assoc ?_
      refine X_callVB (n := 31) (As := []) (st := []) (kX12_readAnd 15 rfl) rfl (hr a0 S7 hk0) (by omega) ml_X12_421 mf_X12_readTerm rfl hk0 xf_X12 rfl (Nat.le_of_ble_eq_true rfl) (fun r8 S9 hq => ?_)
      try dsimp only
      refine X_itebind ?_
      refine X_bn (n := 34) (tgt := 36) (kX12_readAnd 16 rfl) rfl rfl (fun h10 => ?_) (fun h10 => ?_)
      · refine X_aload_n (n := 37) 1 (kX12_readAnd 19 rfl) rfl rfl rfl ?_
        refine X_iconst (n := 38) (v := 2) (kX12_readAnd 20 rfl) rfl (by decide) ?_
        refine X_iload_n (n := 39) 0 (kX12_readAnd 21 rfl) rfl rfl rfl ?_
        refine X_aload_n (n := 40) 1 (kX12_readAnd 22 rfl) rfl rfl rfl ?_
        refine X_getI (n := 43) xf_X12 hk0 (by decide) fl_X12_414 rfl (kX12_readAnd 23 rfl) rfl ?_
        refine X_iconst (n := 44) (v := 0) (kX12_readAnd 24 rfl) rfl (by decide) ?_
        refine X_assoc ?_
        refine X_callVI (n := 47) (As := [.int (2 : Int32), .int i1, .int (S9.1 a0 59), .int (0 : Int32)]) (st := []) (kX12_readAnd 25 rfl) rfl (w_X12_saysOne hk0) (by omega) ml_X12_417 mf_X12_saysOne rfl hk0 xf_X12 rfl (Nat.le_of_ble_eq_true rfl) (fun r11 S12 hq => ?_)
        try dsimp only
        refine X_istore_n (n := 48) (L1 := [(1, .int r11), (0, .ref a0)]) (kX12_readAnd 26 rfl) rfl rfl (Nat.le_of_ble_eq_true rfl) rfl ?_
        refine X_goto (tgt := 14) (kX12_readAnd 27 rfl) rfl ?_
        exact X_L [0, 1] rfl (ih r11 S12)
      · refine X_iconst (n := 35) (v := 0) (kX12_readAnd 17 rfl) rfl (by decide) ?_
        exact X_req (kR _) (X_zret (b := false) rfl (kX12_readAnd 18 rfl))
    · exact X_L [0, 1] rfl (kE i1 S5)
set_option maxHeartbeats 4000000 in
set_option maxRecDepth 100000 in
theorem w_X12_readAnd {l : Launch} {g : XG} {d : Nat} (hd : 30 ≤ d) {r : Nat → XS → Option (Bool × XS)} (hr : ∀ (a0 : Nat) (S : XS), kd a0 = 12 → Cl φB l g d mX12_readTerm [.ref a0] S (r a0 S)) {a0 : Nat} {S : XS} (hk0 : kd a0 = 12) : Cl φB l g (d + 1) mX12_readAnd [.ref a0] S (f_X12_readAnd r a0 S) := by
  refine Cl.of (by decide +kernel) (Nat.le_of_ble_eq_true rfl) ?_
  unfold f_X12_readAnd
  show X _ _ _ _ _ 0 [(0, .ref a0)] [] S _
  refine X_aload_n (n := 1) 0 (kX12_readAnd 0 rfl) rfl rfl rfl ?_
  refine X_callVB (n := 4) (As := []) (st := []) (kX12_readAnd 1 rfl) rfl (hr a0 S hk0) (by omega) ml_X12_421 mf_X12_readTerm rfl hk0 xf_X12 rfl (Nat.le_of_ble_eq_true rfl) (fun r1 S2 hq => ?_)
  try dsimp only
  refine X_bn (n := 7) (tgt := 9) (kX12_readAnd 2 rfl) rfl rfl (fun h3 => ?_) (fun h3 => ?_)
  · refine X_aload_n (n := 10) 0 (kX12_readAnd 5 rfl) rfl rfl rfl ?_
    refine X_getI (n := 13) xf_X12 hk0 (by decide) fl_X12_414 rfl (kX12_readAnd 6 rfl) rfl ?_
    refine X_istore_n (n := 14) (L1 := [(1, .int (S2.1 a0 59)), (0, .ref a0)]) (kX12_readAnd 7 rfl) rfl rfl (Nat.le_of_ble_eq_true rfl) rfl ?_
    refine X_L [0, 1] rfl (w_X12_readAnd_L14 hd hr hk0 (fun e13 S14 => ?_) ?_ 1000000 (S2.1 a0 59) S2)
    · refine X_aload_n (n := 52) 1 (kX12_readAnd 28 rfl) rfl rfl rfl ?_
      refine X_iload_n (n := 53) 0 (kX12_readAnd 29 rfl) rfl rfl rfl ?_
      refine X_putI (n := 56) xf_X12 hk0 (by decide) fl_X12_414 rfl rfl (Or.inl rfl) (kX12_readAnd 30 rfl) rfl ?_
      refine X_iconst (n := 57) (v := 1) (kX12_readAnd 31 rfl) rfl (by decide) ?_
      exact X_zret (b := true) rfl (kX12_readAnd 32 rfl)
    · intro r
      rfl
  · refine X_iconst (n := 8) (v := 0) (kX12_readAnd 3 rfl) rfl (by decide) ?_
    exact X_zret (b := false) rfl (kX12_readAnd 4 rfl)
def f_X12_readOr_L14 (r : Nat → XS → Option (Bool × XS)) (a0 : Nat) : Nat → Int32 → XS → Option ((Bool × XS) ⊕ (Int32 × XS))
  | 0, _, _ => none
  | n + 1, i1, S => ((f_X12_isWord a0 (7 : Int32) S).bind (fun q => match q with | (r4, S5) => (if r4 = true then ((f_X12_go a0 S5).bind (fun S7 => ((f_X12_readAnd r a0 S7).bind (fun q => match q with | (r8, S9) => (if r8 = true then ((f_X12_saysOne a0 (3 : Int32) i1 (S9.1 a0 59) (0 : Int32) S9).bind (fun q => match q with | (r11, S12) => f_X12_readOr_L14 r a0 n r11 S12)) else some (.inl (false, S9))))))) else some (.inr (i1, S5)))))
def f_X12_readOr (r : Nat → XS → Option (Bool × XS)) (a0 : Nat) (S : XS) : Option (Bool × XS) := ((f_X12_readAnd r a0 S).bind (fun q => match q with | (r1, S2) => (if r1 = true then ((f_X12_readOr_L14 r a0 1000000 (S2.1 a0 59) S2).bind (fun q => match q with | .inl r => some r | .inr (e13, S14) => some (true, (sI S14 a0 59 e13)))) else some (false, S2))))
set_option maxHeartbeats 4000000 in
set_option maxRecDepth 100000 in
theorem w_X12_readOr_L14 {l : Launch} {g : XG} {G : ((Bool × XS) ⊕ (Int32 × XS)) → Option (Bool × XS)} {d : Nat} (hd : 30 ≤ d) {r : Nat → XS → Option (Bool × XS)} (hr : ∀ (a0 : Nat) (S : XS), kd a0 = 12 → Cl φB l g d mX12_readTerm [.ref a0] S (r a0 S)) {a0 : Nat} (hk0 : kd a0 = 12) (kE : ∀ (e1 : Int32) (S1 : XS), X φB l g (d + 2) mX12_readOr 51 [(1, .int e1), (0, .ref a0)] [] S1 (G (.inr (e1, S1)))) (kR : ∀ r, G (.inl r) = some r) : ∀ (n : Nat) (i1 : Int32) (S : XS), X φB l g (d + 2) mX12_readOr 14 [(1, .int i1), (0, .ref a0)] [] S ((f_X12_readOr_L14 r a0 n i1 S).bind G) := by
  intro n
  induction n with
  | zero => intro i1 S; exact X_none
  | succ n ih =>
  · intro i1 S
    rw [f_X12_readOr_L14]
    refine X_aload_n (n := 15) 1 (kX12_readOr 8 rfl) rfl rfl rfl ?_
    refine X_bipush (n := 17) (v := 7) (kX12_readOr 9 rfl) rfl (by decide) ?_
    refine X_assoc ?_
    refine X_callVB (n := 20) (As := [.int (7 : Int32)]) (st := []) (kX12_readOr 10 rfl) rfl (w_X12_isWord hk0) (by omega) ml_X12_214 mf_X12_isWord rfl hk0 xf_X12 rfl (Nat.le_of_ble_eq_true rfl) (fun r4 S5 hq => ?_)
    try dsimp only
    refine X_itebind ?_
    refine X_bz (n := 23) (tgt := 51) (kX12_readOr 11 rfl) rfl rfl (fun h6 => ?_) (fun h6 => ?_)
    · refine X_aload_n (n := 24) 1 (kX12_readOr 12 rfl) rfl rfl rfl ?_
      refine X_assoc ?_
      refine X_callVV (n := 27) (As := []) (st := []) (kX12_readOr 13 rfl) rfl (w_X12_go hk0) (by omega) ml_X12_180 mf_X12_go rfl hk0 xf_X12 rfl (Nat.le_of_ble_eq_true rfl) (fun S7 hq => ?_)
      try dsimp only
      refine X_aload_n (n := 28) 1 (kX12_readOr 14 rfl) rfl rfl rfl ?_
      refine X_assoc ?_
      refine X_callVB (n := 31) (As := []) (st := []) (kX12_readOr 15 rfl) rfl (w_X12_readAnd hd hr hk0) (by omega) ml_X12_411 mf_X12_readAnd rfl hk0 xf_X12 rfl (Nat.le_of_ble_eq_true rfl) (fun r8 S9 hq => ?_)
      try dsimp only
      refine X_itebind ?_
      refine X_bn (n := 34) (tgt := 36) (kX12_readOr 16 rfl) rfl rfl (fun h10 => ?_) (fun h10 => ?_)
      · refine X_aload_n (n := 37) 1 (kX12_readOr 19 rfl) rfl rfl rfl ?_
        refine X_iconst (n := 38) (v := 3) (kX12_readOr 20 rfl) rfl (by decide) ?_
        refine X_iload_n (n := 39) 0 (kX12_readOr 21 rfl) rfl rfl rfl ?_
        refine X_aload_n (n := 40) 1 (kX12_readOr 22 rfl) rfl rfl rfl ?_
        refine X_getI (n := 43) xf_X12 hk0 (by decide) fl_X12_414 rfl (kX12_readOr 23 rfl) rfl ?_
        refine X_iconst (n := 44) (v := 0) (kX12_readOr 24 rfl) rfl (by decide) ?_
        refine X_assoc ?_
        refine X_callVI (n := 47) (As := [.int (3 : Int32), .int i1, .int (S9.1 a0 59), .int (0 : Int32)]) (st := []) (kX12_readOr 25 rfl) rfl (w_X12_saysOne hk0) (by omega) ml_X12_417 mf_X12_saysOne rfl hk0 xf_X12 rfl (Nat.le_of_ble_eq_true rfl) (fun r11 S12 hq => ?_)
        try dsimp only
        refine X_istore_n (n := 48) (L1 := [(1, .int r11), (0, .ref a0)]) (kX12_readOr 26 rfl) rfl rfl (Nat.le_of_ble_eq_true rfl) rfl ?_
        refine X_goto (tgt := 14) (kX12_readOr 27 rfl) rfl ?_
        exact X_L [0, 1] rfl (ih r11 S12)
      · refine X_iconst (n := 35) (v := 0) (kX12_readOr 17 rfl) rfl (by decide) ?_
        exact X_req (kR _) (X_zret (b := false) rfl (kX12_readOr 18 rfl))
    · exact X_L [0, 1] rfl (kE i1 S5)
set_option maxHeartbeats 4000000 in
set_option maxRecDepth 100000 in
theorem w_X12_readOr {l : Launch} {g : XG} {d : Nat} (hd : 30 ≤ d) {r : Nat → XS → Option (Bool × XS)} (hr : ∀ (a0 : Nat) (S : XS), kd a0 = 12 → Cl φB l g d mX12_readTerm [.ref a0] S (r a0 S)) {a0 : Nat} {S : XS} (hk0 : kd a0 = 12) : Cl φB l g (d + 2) mX12_readOr [.ref a0] S (f_X12_readOr r a0 S) := by
  refine Cl.of (by decide +kernel) (Nat.le_of_ble_eq_true rfl) ?_
  unfold f_X12_readOr
  show X _ _ _ _ _ 0 [(0, .ref a0)] [] S _
  refine X_aload_n (n := 1) 0 (kX12_readOr 0 rfl) rfl rfl rfl ?_
  refine X_callVB (n := 4) (As := []) (st := []) (kX12_readOr 1 rfl) rfl (w_X12_readAnd hd hr hk0) (by omega) ml_X12_411 mf_X12_readAnd rfl hk0 xf_X12 rfl (Nat.le_of_ble_eq_true rfl) (fun r1 S2 hq => ?_)
  try dsimp only
  refine X_bn (n := 7) (tgt := 9) (kX12_readOr 2 rfl) rfl rfl (fun h3 => ?_) (fun h3 => ?_)
  · refine X_aload_n (n := 10) 0 (kX12_readOr 5 rfl) rfl rfl rfl ?_
    refine X_getI (n := 13) xf_X12 hk0 (by decide) fl_X12_414 rfl (kX12_readOr 6 rfl) rfl ?_
    refine X_istore_n (n := 14) (L1 := [(1, .int (S2.1 a0 59)), (0, .ref a0)]) (kX12_readOr 7 rfl) rfl rfl (Nat.le_of_ble_eq_true rfl) rfl ?_
    refine X_L [0, 1] rfl (w_X12_readOr_L14 hd hr hk0 (fun e13 S14 => ?_) ?_ 1000000 (S2.1 a0 59) S2)
    · refine X_aload_n (n := 52) 1 (kX12_readOr 28 rfl) rfl rfl rfl ?_
      refine X_iload_n (n := 53) 0 (kX12_readOr 29 rfl) rfl rfl rfl ?_
      refine X_putI (n := 56) xf_X12 hk0 (by decide) fl_X12_414 rfl rfl (Or.inl rfl) (kX12_readOr 30 rfl) rfl ?_
      refine X_iconst (n := 57) (v := 1) (kX12_readOr 31 rfl) rfl (by decide) ?_
      exact X_zret (b := true) rfl (kX12_readOr 32 rfl)
    · intro r
      rfl
  · refine X_iconst (n := 8) (v := 0) (kX12_readOr 3 rfl) rfl (by decide) ?_
    exact X_zret (b := false) rfl (kX12_readOr 4 rfl)
def f_X12_readBracket (r : Nat → XS → Option (Bool × XS)) (a0 : Nat) (S : XS) : Option (Bool × XS) := ((f_X12_readOr r a0 S).bind (fun q => match q with | (r1, S2) => (if r1 = true then (if (t_X12_isSign a0 (41 : Int32) S2) = true then ((f_X12_go a0 S2).bind (fun S5 => some (true, S5))) else ((f_X12_bad a0 (1 : Int32) S2).bind (fun q => match q with | (r6, S7) => some (r6, S7)))) else some (false, S2))))
set_option maxHeartbeats 4000000 in
set_option maxRecDepth 100000 in
theorem w_X12_readBracket {l : Launch} {g : XG} {d : Nat} (hd : 30 ≤ d) {r : Nat → XS → Option (Bool × XS)} (hr : ∀ (a0 : Nat) (S : XS), kd a0 = 12 → Cl φB l g d mX12_readTerm [.ref a0] S (r a0 S)) {a0 : Nat} {S : XS} (hk0 : kd a0 = 12) : Cl φB l g (d + 3) mX12_readBracket [.ref a0] S (f_X12_readBracket r a0 S) := by
  refine Cl.of (by decide +kernel) (Nat.le_of_ble_eq_true rfl) ?_
  unfold f_X12_readBracket
  show X _ _ _ _ _ 0 [(0, .ref a0)] [] S _
  refine X_aload_n (n := 1) 0 (kX12_readBracket 0 rfl) rfl rfl rfl ?_
  refine X_callVB (n := 4) (As := []) (st := []) (kX12_readBracket 1 rfl) rfl (w_X12_readOr hd hr hk0) (by omega) ml_X12_442 mf_X12_readOr rfl hk0 xf_X12 rfl (Nat.le_of_ble_eq_true rfl) (fun r1 S2 hq => ?_)
  try dsimp only
  refine X_bn (n := 7) (tgt := 9) (kX12_readBracket 2 rfl) rfl rfl (fun h3 => ?_) (fun h3 => ?_)
  · refine X_aload_n (n := 10) 0 (kX12_readBracket 5 rfl) rfl rfl rfl ?_
    refine X_bipush (n := 12) (v := 41) (kX12_readBracket 6 rfl) rfl (by decide) ?_
    refine X_callV1B (n := 15) (As := [.int (41 : Int32)]) (st := []) (kX12_readBracket 7 rfl) rfl (p_X12_isSign hk0) (by omega) ml_X12_183 mf_X12_isSign rfl hk0 xf_X12 rfl (Nat.le_of_ble_eq_true rfl) ?_
    refine X_bn (n := 18) (tgt := 24) (kX12_readBracket 8 rfl) rfl rfl (fun h4 => ?_) (fun h4 => ?_)
    · refine X_aload_n (n := 25) 0 (kX12_readBracket 13 rfl) rfl rfl rfl ?_
      refine X_callVV (n := 28) (As := []) (st := []) (kX12_readBracket 14 rfl) rfl (w_X12_go hk0) (by omega) ml_X12_180 mf_X12_go rfl hk0 xf_X12 rfl (Nat.le_of_ble_eq_true rfl) (fun S5 hq => ?_)
      try dsimp only
      refine X_iconst (n := 29) (v := 1) (kX12_readBracket 15 rfl) rfl (by decide) ?_
      exact X_zret (b := true) rfl (kX12_readBracket 16 rfl)
    · refine X_aload_n (n := 19) 0 (kX12_readBracket 9 rfl) rfl rfl rfl ?_
      refine X_iconst (n := 20) (v := 1) (kX12_readBracket 10 rfl) rfl (by decide) ?_
      refine X_callVB (n := 23) (As := [.int (1 : Int32)]) (st := []) (kX12_readBracket 11 rfl) rfl (w_X12_bad hk0) (by omega) ml_X12_166 mf_X12_bad rfl hk0 xf_X12 rfl (Nat.le_of_ble_eq_true rfl) (fun r6 S7 hq => ?_)
      try dsimp only
      exact X_zret (b := r6) rfl (kX12_readBracket 12 rfl)
  · refine X_iconst (n := 8) (v := 0) (kX12_readBracket 3 rfl) rfl (by decide) ?_
    exact X_zret (b := false) rfl (kX12_readBracket 4 rfl)
def f_X12_readNot (r : Nat → XS → Option (Bool × XS)) (a0 : Nat) (S : XS) : Option (Bool × XS) := ((r a0 S).bind (fun q => match q with | (r1, S2) => (if r1 = true then ((f_X12_saysOne a0 (1 : Int32) (S2.1 a0 59) (0 : Int32) (0 : Int32) S2).bind (fun q => match q with | (r4, S5) => some (true, (sI S5 a0 59 r4)))) else some (false, S2))))
set_option maxHeartbeats 4000000 in
set_option maxRecDepth 100000 in
theorem w_X12_readNot {l : Launch} {g : XG} {d : Nat} (hd : 30 ≤ d) {r : Nat → XS → Option (Bool × XS)} (hr : ∀ (a0 : Nat) (S : XS), kd a0 = 12 → Cl φB l g d mX12_readTerm [.ref a0] S (r a0 S)) {a0 : Nat} {S : XS} (hk0 : kd a0 = 12) : Cl φB l g (d + 1) mX12_readNot [.ref a0] S (f_X12_readNot r a0 S) := by
  refine Cl.of (by decide +kernel) (Nat.le_of_ble_eq_true rfl) ?_
  unfold f_X12_readNot
  show X _ _ _ _ _ 0 [(0, .ref a0)] [] S _
  refine X_aload_n (n := 1) 0 (kX12_readNot 0 rfl) rfl rfl rfl ?_
  refine X_callVB (n := 4) (As := []) (st := []) (kX12_readNot 1 rfl) rfl (hr a0 S hk0) (by omega) ml_X12_421 mf_X12_readTerm rfl hk0 xf_X12 rfl (Nat.le_of_ble_eq_true rfl) (fun r1 S2 hq => ?_)
  try dsimp only
  refine X_bn (n := 7) (tgt := 9) (kX12_readNot 2 rfl) rfl rfl (fun h3 => ?_) (fun h3 => ?_)
  · refine X_aload_n (n := 10) 0 (kX12_readNot 5 rfl) rfl rfl rfl ?_
    refine X_aload_n (n := 11) 0 (kX12_readNot 6 rfl) rfl rfl rfl ?_
    refine X_iconst (n := 12) (v := 1) (kX12_readNot 7 rfl) rfl (by decide) ?_
    refine X_aload_n (n := 13) 0 (kX12_readNot 8 rfl) rfl rfl rfl ?_
    refine X_getI (n := 16) xf_X12 hk0 (by decide) fl_X12_414 rfl (kX12_readNot 9 rfl) rfl ?_
    refine X_iconst (n := 17) (v := 0) (kX12_readNot 10 rfl) rfl (by decide) ?_
    refine X_iconst (n := 18) (v := 0) (kX12_readNot 11 rfl) rfl (by decide) ?_
    refine X_callVI (n := 21) (As := [.int (1 : Int32), .int (S2.1 a0 59), .int (0 : Int32), .int (0 : Int32)]) (st := [.ref a0]) (kX12_readNot 12 rfl) rfl (w_X12_saysOne hk0) (by omega) ml_X12_417 mf_X12_saysOne rfl hk0 xf_X12 rfl (Nat.le_of_ble_eq_true rfl) (fun r4 S5 hq => ?_)
    try dsimp only
    refine X_putI (n := 24) xf_X12 hk0 (by decide) fl_X12_414 rfl rfl (Or.inl rfl) (kX12_readNot 13 rfl) rfl ?_
    refine X_iconst (n := 25) (v := 1) (kX12_readNot 14 rfl) rfl (by decide) ?_
    exact X_zret (b := true) rfl (kX12_readNot 15 rfl)
  · refine X_iconst (n := 8) (v := 0) (kX12_readNot 3 rfl) rfl (by decide) ?_
    exact X_zret (b := false) rfl (kX12_readNot 4 rfl)
def f_X12_readTerm_L10 (r : Nat → XS → Option (Bool × XS)) (b1 : Bool) (a0 : Nat) : Nat → Int32 → XS → Option (Int32 × XS)
  | 0, _, _ => none
  | n + 1, i2, S => (if (16 : Int32) < i2 then some (i2, S) else ((f_X12_isWord a0 i2 S).bind (fun q => match q with | (r2, S3) => (if r2 = true then some (i2, S3) else f_X12_readTerm_L10 r b1 a0 n (i2 + 1) S3))))
def f_X12_readTerm (r : Nat → XS → Option (Bool × XS)) (a0 : Nat) (S : XS) : Option (Bool × XS) := ((f_X12_readTerm_L10 r (t_X12_isSign a0 (40 : Int32) S) a0 1000000 (9 : Int32) S).bind (fun q => match q with | (e5, S6) => (if (t_X12_isSign a0 (40 : Int32) S) = true then (if (S6.1 a0 57) = (20 : Int32) then ((f_X12_bad a0 (4 : Int32) S6).bind (fun q => match q with | (r9, S10) => some (r9, S10))) else (if (S6.1 a0 58) = (8 : Int32) then ((f_X12_bad a0 (4 : Int32) S6).bind (fun q => match q with | (r12, S13) => some (r12, S13))) else ((f_X12_go a0 (sI (sI S6 a0 57 ((S6.1 a0 57) + (1 : Int32))) a0 58 (((sI S6 a0 57 ((S6.1 a0 57) + (1 : Int32))).1 a0 58) + (1 : Int32)))).bind (fun S14 => ((if (t_X12_isSign a0 (40 : Int32) S) = true then ((f_X12_readBracket r a0 S14).bind (fun q => match q with | (r18, S19) => some (r18, S19))) else (if e5 = (9 : Int32) then ((f_X12_readNot r a0 S14).bind (fun q => match q with | (r21, S22) => some (r21, S22))) else (if (12 : Int32) ≤ e5 then (if e5 = (12 : Int32) then ((f_X12_readNamed a0 e5 (6 : Int32) (S14.1 (rf a0 14) 1) S14).bind (fun q => match q with | (r25, S26) => some (r25, S26))) else (if e5 = (13 : Int32) then ((f_X12_readNamed a0 e5 (0 : Int32) (S14.1 (rf a0 14) 0) S14).bind (fun q => match q with | (r28, S29) => some (r28, S29))) else ((f_X12_readCompare a0 e5 S14).bind (fun q => match q with | (r30, S31) => some (r30, S31))))) else ((f_X12_saysOne a0 ((50 : Int32) + e5) (0 : Int32) (0 : Int32) (0 : Int32) S14).bind (fun q => match q with | (r32, S33) => some (true, (sI S33 a0 59 r32))))))).bind (fun q => match q with | (x15, S16) => some (x15, (sI S16 a0 58 ((S16.1 a0 58) - (1 : Int32)))))))))) else (if e5 ≤ (16 : Int32) then (if (S6.1 a0 57) = (20 : Int32) then ((f_X12_bad a0 (4 : Int32) S6).bind (fun q => match q with | (r36, S37) => some (r36, S37))) else (if (S6.1 a0 58) = (8 : Int32) then ((f_X12_bad a0 (4 : Int32) S6).bind (fun q => match q with | (r39, S40) => some (r39, S40))) else ((f_X12_go a0 (sI (sI S6 a0 57 ((S6.1 a0 57) + (1 : Int32))) a0 58 (((sI S6 a0 57 ((S6.1 a0 57) + (1 : Int32))).1 a0 58) + (1 : Int32)))).bind (fun S41 => ((if (t_X12_isSign a0 (40 : Int32) S) = true then ((f_X12_readBracket r a0 S41).bind (fun q => match q with | (r45, S46) => some (r45, S46))) else (if e5 = (9 : Int32) then ((f_X12_readNot r a0 S41).bind (fun q => match q with | (r48, S49) => some (r48, S49))) else (if (12 : Int32) ≤ e5 then (if e5 = (12 : Int32) then ((f_X12_readNamed a0 e5 (6 : Int32) (S41.1 (rf a0 14) 1) S41).bind (fun q => match q with | (r52, S53) => some (r52, S53))) else (if e5 = (13 : Int32) then ((f_X12_readNamed a0 e5 (0 : Int32) (S41.1 (rf a0 14) 0) S41).bind (fun q => match q with | (r55, S56) => some (r55, S56))) else ((f_X12_readCompare a0 e5 S41).bind (fun q => match q with | (r57, S58) => some (r57, S58))))) else ((f_X12_saysOne a0 ((50 : Int32) + e5) (0 : Int32) (0 : Int32) (0 : Int32) S41).bind (fun q => match q with | (r59, S60) => some (true, (sI S60 a0 59 r59))))))).bind (fun q => match q with | (x42, S43) => some (x42, (sI S43 a0 58 ((S43.1 a0 58) - (1 : Int32)))))))))) else ((f_X12_bad a0 (1 : Int32) S6).bind (fun q => match q with | (r61, S62) => some (r61, S62)))))))
set_option maxHeartbeats 4000000 in
set_option maxRecDepth 100000 in
theorem w_X12_readTerm_L10 {l : Launch} {g : XG} {G : (Int32 × XS) → Option (Bool × XS)} {d : Nat} (hd : 30 ≤ d) {r : Nat → XS → Option (Bool × XS)} (hr : ∀ (a0 : Nat) (S : XS), kd a0 = 12 → Cl φB l g d mX12_readTerm [.ref a0] S (r a0 S)) {b1 : Bool} {a0 : Nat} (hk0 : kd a0 = 12) (kE : ∀ (e2 : Int32) (S1 : XS), X φB l g (d + 4) mX12_readTerm 30 [(2, .int e2), (1, .int (bi b1)), (0, .ref a0)] [] S1 (G (e2, S1))) : ∀ (n : Nat) (i2 : Int32) (S : XS), X φB l g (d + 4) mX12_readTerm 10 [(2, .int i2), (1, .int (bi b1)), (0, .ref a0)] [] S ((f_X12_readTerm_L10 r b1 a0 n i2 S).bind G) := by
  intro n
  induction n with
  | zero => intro i2 S; exact X_none
  | succ n ih =>
  · intro i2 S
    rw [f_X12_readTerm_L10]
    refine X_iload_n (n := 11) 0 (kX12_readTerm 6 rfl) rfl rfl rfl ?_
    refine X_bipush (n := 13) (v := 16) (kX12_readTerm 7 rfl) rfl (by decide) ?_
    refine X_itebind ?_
    refine X_ic_gt (n := 16) (tgt := 30) (kX12_readTerm 8 rfl) rfl rfl (fun h1 => ?_) (fun h1 => ?_)
    · exact X_L [0, 1, 2] rfl (kE i2 S)
    · refine X_aload_n (n := 17) 2 (kX12_readTerm 9 rfl) rfl rfl rfl ?_
      refine X_iload_n (n := 18) 0 (kX12_readTerm 10 rfl) rfl rfl rfl ?_
      refine X_assoc ?_
      refine X_callVB (n := 21) (As := [.int i2]) (st := []) (kX12_readTerm 11 rfl) rfl (w_X12_isWord hk0) (by omega) ml_X12_214 mf_X12_isWord rfl hk0 xf_X12 rfl (Nat.le_of_ble_eq_true rfl) (fun r2 S3 hq => ?_)
      try dsimp only
      refine X_itebind ?_
      refine X_bn (n := 24) (tgt := 30) (kX12_readTerm 12 rfl) rfl rfl (fun h4 => ?_) (fun h4 => ?_)
      · exact X_L [0, 1, 2] rfl (kE i2 S3)
      · refine X_iinc (n := 27) 0 (v := (i2 + 1)) (L1 := [(2, .int (i2 + 1)), (1, .int (bi b1)), (0, .ref a0)]) (kX12_readTerm 13 rfl) rfl rfl rfl (Nat.le_of_ble_eq_true rfl) rfl ?_
        refine X_goto (tgt := 10) (kX12_readTerm 14 rfl) rfl ?_
        exact X_L [0, 1, 2] rfl (ih (i2 + 1) S3)
set_option maxHeartbeats 4000000 in
set_option maxRecDepth 100000 in
theorem w_X12_readTerm {l : Launch} {g : XG} {d : Nat} (hd : 30 ≤ d) {r : Nat → XS → Option (Bool × XS)} (hr : ∀ (a0 : Nat) (S : XS), kd a0 = 12 → Cl φB l g d mX12_readTerm [.ref a0] S (r a0 S)) {a0 : Nat} {S : XS} (hk0 : kd a0 = 12) : Cl φB l g (d + 4) mX12_readTerm [.ref a0] S (f_X12_readTerm r a0 S) := by
  refine Cl.of (by decide +kernel) (Nat.le_of_ble_eq_true rfl) ?_
  unfold f_X12_readTerm
  show X _ _ _ _ _ 0 [(0, .ref a0)] [] S _
  refine X_aload_n (n := 1) 0 (kX12_readTerm 0 rfl) rfl rfl rfl ?_
  refine X_bipush (n := 3) (v := 40) (kX12_readTerm 1 rfl) rfl (by decide) ?_
  refine X_callV1B (n := 6) (As := [.int (40 : Int32)]) (st := []) (kX12_readTerm 2 rfl) rfl (p_X12_isSign hk0) (by omega) ml_X12_183 mf_X12_isSign rfl hk0 xf_X12 rfl (Nat.le_of_ble_eq_true rfl) ?_
  refine X_istore_n (n := 7) (L1 := [(1, .int (bi (t_X12_isSign a0 (40 : Int32) S))), (0, .ref a0)]) (kX12_readTerm 3 rfl) rfl rfl (Nat.le_of_ble_eq_true rfl) rfl ?_
  refine X_bipush (n := 9) (v := 9) (kX12_readTerm 4 rfl) rfl (by decide) ?_
  refine X_istore_n (n := 10) (L1 := [(2, .int 9), (1, .int (bi (t_X12_isSign a0 (40 : Int32) S))), (0, .ref a0)]) (kX12_readTerm 5 rfl) rfl rfl (Nat.le_of_ble_eq_true rfl) rfl ?_
  refine X_L [0, 1, 2] rfl (w_X12_readTerm_L10 hd hr hk0 (fun e5 S6 => ?_) 1000000 (9 : Int32) S)
  try dsimp only
  refine X_iload_n (n := 31) 1 (kX12_readTerm 15 rfl) rfl rfl rfl ?_
  refine X_bn (n := 34) (tgt := 46) (kX12_readTerm 16 rfl) rfl rfl (fun h7 => ?_) (fun h7 => ?_)
  · refine X_aload_n (n := 47) 2 (kX12_readTerm 24 rfl) rfl rfl rfl ?_
    refine X_getI (n := 50) xf_X12 hk0 (by decide) fl_X12_424 rfl (kX12_readTerm 25 rfl) rfl ?_
    refine X_bipush (n := 52) (v := 20) (kX12_readTerm 26 rfl) rfl (by decide) ?_
    refine X_ic_eq (n := 55) (tgt := 64) (kX12_readTerm 27 rfl) rfl rfl (fun h8 => ?_) (fun h8 => ?_)
    · refine X_aload_n (n := 65) 2 (kX12_readTerm 32 rfl) rfl rfl rfl ?_
      refine X_iconst (n := 66) (v := 4) (kX12_readTerm 33 rfl) rfl (by decide) ?_
      refine X_callVB (n := 69) (As := [.int (4 : Int32)]) (st := []) (kX12_readTerm 34 rfl) rfl (w_X12_bad hk0) (by omega) ml_X12_166 mf_X12_bad rfl hk0 xf_X12 rfl (Nat.le_of_ble_eq_true rfl) (fun r9 S10 hq => ?_)
      try dsimp only
      exact X_zret (b := r9) rfl (kX12_readTerm 35 rfl)
    · refine X_aload_n (n := 56) 2 (kX12_readTerm 28 rfl) rfl rfl rfl ?_
      refine X_getI (n := 59) xf_X12 hk0 (by decide) fl_X12_427 rfl (kX12_readTerm 29 rfl) rfl ?_
      refine X_bipush (n := 61) (v := 8) (kX12_readTerm 30 rfl) rfl (by decide) ?_
      refine X_ic_ne (n := 64) (tgt := 70) (kX12_readTerm 31 rfl) rfl rfl (fun h11 => ?_) (fun h11 => ?_)
      · refine X_aload_n (n := 65) 2 (kX12_readTerm 32 rfl) rfl rfl rfl ?_
        refine X_iconst (n := 66) (v := 4) (kX12_readTerm 33 rfl) rfl (by decide) ?_
        refine X_callVB (n := 69) (As := [.int (4 : Int32)]) (st := []) (kX12_readTerm 34 rfl) rfl (w_X12_bad hk0) (by omega) ml_X12_166 mf_X12_bad rfl hk0 xf_X12 rfl (Nat.le_of_ble_eq_true rfl) (fun r12 S13 hq => ?_)
        try dsimp only
        exact X_zret (b := r12) rfl (kX12_readTerm 35 rfl)
      · refine X_aload_n (n := 71) 2 (kX12_readTerm 36 rfl) rfl rfl rfl ?_
        refine X_dup (n := 72) (kX12_readTerm 37 rfl) rfl rfl ?_
        refine X_getI (n := 75) xf_X12 hk0 (by decide) fl_X12_424 rfl (kX12_readTerm 38 rfl) rfl ?_
        refine X_iconst (n := 76) (v := 1) (kX12_readTerm 39 rfl) rfl (by decide) ?_
        refine X_iadd (n := 77) (kX12_readTerm 40 rfl) rfl ?_
        refine X_putI (n := 80) xf_X12 hk0 (by decide) fl_X12_424 rfl rfl (Or.inl rfl) (kX12_readTerm 41 rfl) rfl ?_
        refine X_aload_n (n := 81) 2 (kX12_readTerm 42 rfl) rfl rfl rfl ?_
        refine X_dup (n := 82) (kX12_readTerm 43 rfl) rfl rfl ?_
        refine X_getI (n := 85) xf_X12 hk0 (by decide) fl_X12_427 rfl (kX12_readTerm 44 rfl) rfl ?_
        refine X_iconst (n := 86) (v := 1) (kX12_readTerm 45 rfl) rfl (by decide) ?_
        refine X_iadd (n := 87) (kX12_readTerm 46 rfl) rfl ?_
        refine X_putI (n := 90) xf_X12 hk0 (by decide) fl_X12_427 rfl rfl (Or.inl rfl) (kX12_readTerm 47 rfl) rfl ?_
        refine X_aload_n (n := 91) 2 (kX12_readTerm 48 rfl) rfl rfl rfl ?_
        refine X_callVV (n := 94) (As := []) (st := []) (kX12_readTerm 49 rfl) rfl (w_X12_go hk0) (by omega) ml_X12_180 mf_X12_go rfl hk0 xf_X12 rfl (Nat.le_of_ble_eq_true rfl) (fun S14 hq => ?_)
        try dsimp only
        refine X_iconst (n := 95) (v := 1) (kX12_readTerm 50 rfl) rfl (by decide) ?_
        refine X_istore_n (n := 96) (L1 := [(3, .int 1), (2, .int e5), (1, .int (bi (t_X12_isSign a0 (40 : Int32) S))), (0, .ref a0)]) (kX12_readTerm 51 rfl) rfl rfl (Nat.le_of_ble_eq_true rfl) rfl ?_
        refine X_iload_n (n := 97) 2 (kX12_readTerm 52 rfl) rfl rfl rfl ?_
        refine X_join 196 (fun q => match q with | (x15, S16) => [(0, .ref a0), (3, .int (bi x15))]) (fun q => match q with | (x15, S16) => []) (fun q => match q with | (x15, S16) => S16) (fun q => ?_) (fun kJ => ?_)
        · obtain ⟨x15, S16⟩ := q
          dsimp only
          refine X_aload_n (n := 197) 0 (kX12_readTerm_1 8 rfl) rfl rfl rfl ?_
          refine X_dup (n := 198) (kX12_readTerm_1 9 rfl) rfl rfl ?_
          refine X_getI (n := 201) xf_X12 hk0 (by decide) fl_X12_427 rfl (kX12_readTerm_1 10 rfl) rfl ?_
          refine X_iconst (n := 202) (v := 1) (kX12_readTerm_1 11 rfl) rfl (by decide) ?_
          refine X_isub (n := 203) (kX12_readTerm_1 12 rfl) rfl ?_
          refine X_putI (n := 206) xf_X12 hk0 (by decide) fl_X12_427 rfl rfl (Or.inl rfl) (kX12_readTerm_1 13 rfl) rfl ?_
          refine X_iload_n (n := 207) 1 (kX12_readTerm_1 14 rfl) rfl rfl rfl ?_
          exact X_zret (b := x15) rfl (kX12_readTerm_1 15 rfl)
        · refine X_itebind ?_
          refine X_bz (n := 100) (tgt := 108) (kX12_readTerm 53 rfl) rfl rfl (fun h17 => ?_) (fun h17 => ?_)
          · refine X_aload_n (n := 101) 3 (kX12_readTerm 54 rfl) rfl rfl rfl ?_
            refine X_assoc ?_
            refine X_callVB (n := 104) (As := []) (st := []) (kX12_readTerm 55 rfl) rfl (w_X12_readBracket hd hr hk0) (by omega) ml_X12_430 mf_X12_readBracket rfl hk0 xf_X12 rfl (Nat.le_of_ble_eq_true rfl) (fun r18 S19 hq => ?_)
            try dsimp only
            refine X_istore_n (n := 105) (L1 := [(3, .int (bi r18)), (2, .int e5), (1, .int (bi (t_X12_isSign a0 (40 : Int32) S))), (0, .ref a0)]) (kX12_readTerm 56 rfl) rfl rfl (Nat.le_of_ble_eq_true rfl) rfl ?_
            refine X_goto (tgt := 196) (kX12_readTerm 57 rfl) rfl ?_
            exact X_L [3, 0] rfl (kJ (r18, S19))
          · refine X_iload_n (n := 109) 1 (kX12_readTerm 58 rfl) rfl rfl rfl ?_
            refine X_bipush (n := 111) (v := 9) (kX12_readTerm 59 rfl) rfl (by decide) ?_
            refine X_itebind ?_
            refine X_ic_ne (n := 114) (tgt := 122) (kX12_readTerm 60 rfl) rfl rfl (fun h20 => ?_) (fun h20 => ?_)
            · refine X_aload_n (n := 115) 3 (kX12_readTerm 61 rfl) rfl rfl rfl ?_
              refine X_assoc ?_
              refine X_callVB (n := 118) (As := []) (st := []) (kX12_readTerm 62 rfl) rfl (w_X12_readNot hd hr hk0) (by omega) ml_X12_433 mf_X12_readNot rfl hk0 xf_X12 rfl (Nat.le_of_ble_eq_true rfl) (fun r21 S22 hq => ?_)
              try dsimp only
              refine X_istore_n (n := 119) (L1 := [(3, .int (bi r21)), (2, .int e5), (1, .int (bi (t_X12_isSign a0 (40 : Int32) S))), (0, .ref a0)]) (kX12_readTerm 63 rfl) rfl rfl (Nat.le_of_ble_eq_true rfl) rfl ?_
              refine X_goto (tgt := 196) (kX12_readTerm 64 rfl) rfl ?_
              exact X_L [3, 0] rfl (kJ (r21, S22))
            · refine X_iload_n (n := 123) 1 (kX12_readTerm 65 rfl) rfl rfl rfl ?_
              refine X_bipush (n := 125) (v := 12) (kX12_readTerm 66 rfl) rfl (by decide) ?_
              refine X_itebind ?_
              refine X_ic_ge (n := 128) (tgt := 146) (kX12_readTerm 67 rfl) rfl rfl (fun h23 => ?_) (fun h23 => ?_)
              · refine X_iload_n (n := 147) 1 (kX12_readTerm 79 rfl) rfl rfl rfl ?_
                refine X_bipush (n := 149) (v := 12) (kX12_readTerm 80 rfl) rfl (by decide) ?_
                refine X_itebind ?_
                refine X_ic_ne (n := 152) (tgt := 169) (kX12_readTerm 81 rfl) rfl rfl (fun h24 => ?_) (fun h24 => ?_)
                · refine X_aload_n (n := 153) 3 (kX12_readTerm 82 rfl) rfl rfl rfl ?_
                  refine X_iload_n (n := 154) 1 (kX12_readTerm 83 rfl) rfl rfl rfl ?_
                  refine X_bipush (n := 156) (v := 6) (kX12_readTerm 84 rfl) rfl (by decide) ?_
                  refine X_aload_n (n := 157) 3 (kX12_readTerm 85 rfl) rfl rfl rfl ?_
                  refine X_getR (n := 160) xf_X12 hk0 (by decide) fl_X12_13 rfl (kX12_readTerm 86 rfl) rfl ?_
                  refine X_iconst (n := 161) (v := 1) (kX12_readTerm 87 rfl) rfl (by decide) ?_
                  refine X_iald' (n := 162) (kt_12_14 hk0) (kX12_readTerm 88 rfl) rfl (by rw [lt_12_14 hk0]; decide) ?_
                  refine X_assoc ?_
                  refine X_callVB (n := 165) (As := [.int e5, .int (6 : Int32), .int (S14.1 (rf a0 14) 1)]) (st := []) (kX12_readTerm 89 rfl) rfl (w_X12_readNamed hk0) (by omega) ml_X12_436 mf_X12_readNamed rfl hk0 xf_X12 rfl (Nat.le_of_ble_eq_true rfl) (fun r25 S26 hq => ?_)
                  try dsimp only
                  refine X_istore_n (n := 166) (L1 := [(3, .int (bi r25)), (2, .int e5), (1, .int (bi (t_X12_isSign a0 (40 : Int32) S))), (0, .ref a0)]) (kX12_readTerm 90 rfl) rfl rfl (Nat.le_of_ble_eq_true rfl) rfl ?_
                  refine X_goto (tgt := 196) (kX12_readTerm 91 rfl) rfl ?_
                  exact X_L [3, 0] rfl (kJ (r25, S26))
                · refine X_iload_n (n := 170) 1 (kX12_readTerm 92 rfl) rfl rfl rfl ?_
                  refine X_bipush (n := 172) (v := 13) (kX12_readTerm 93 rfl) rfl (by decide) ?_
                  refine X_itebind ?_
                  refine X_ic_ne (n := 175) (tgt := 190) (kX12_readTerm 94 rfl) rfl rfl (fun h27 => ?_) (fun h27 => ?_)
                  · refine X_aload_n (n := 176) 3 (kX12_readTerm 95 rfl) rfl rfl rfl ?_
                    refine X_iload_n (n := 177) 1 (kX12_readTerm 96 rfl) rfl rfl rfl ?_
                    refine X_iconst (n := 178) (v := 0) (kX12_readTerm 97 rfl) rfl (by decide) ?_
                    refine X_aload_n (n := 179) 3 (kX12_readTerm 98 rfl) rfl rfl rfl ?_
                    refine X_getR (n := 182) xf_X12 hk0 (by decide) fl_X12_13 rfl (kX12_readTerm 99 rfl) rfl ?_
                    refine X_iconst (n := 183) (v := 0) (kX12_readTerm_1 0 rfl) rfl (by decide) ?_
                    refine X_iald' (n := 184) (kt_12_14 hk0) (kX12_readTerm_1 1 rfl) rfl (by rw [lt_12_14 hk0]; decide) ?_
                    refine X_assoc ?_
                    refine X_callVB (n := 187) (As := [.int e5, .int (0 : Int32), .int (S14.1 (rf a0 14) 0)]) (st := []) (kX12_readTerm_1 2 rfl) rfl (w_X12_readNamed hk0) (by omega) ml_X12_436 mf_X12_readNamed rfl hk0 xf_X12 rfl (Nat.le_of_ble_eq_true rfl) (fun r28 S29 hq => ?_)
                    try dsimp only
                    refine X_goto (tgt := 195) (kX12_readTerm_1 3 rfl) rfl ?_
                    refine X_istore_n (n := 196) (L1 := [(3, .int (bi r28)), (2, .int e5), (1, .int (bi (t_X12_isSign a0 (40 : Int32) S))), (0, .ref a0)]) (kX12_readTerm_1 7 rfl) rfl rfl (Nat.le_of_ble_eq_true rfl) rfl ?_
                    exact X_L [3, 0] rfl (kJ (r28, S29))
                  · refine X_aload_n (n := 191) 3 (kX12_readTerm_1 4 rfl) rfl rfl rfl ?_
                    refine X_iload_n (n := 192) 1 (kX12_readTerm_1 5 rfl) rfl rfl rfl ?_
                    refine X_assoc ?_
                    refine X_callVB (n := 195) (As := [.int e5]) (st := []) (kX12_readTerm_1 6 rfl) rfl (w_X12_readCompare hk0) (by omega) ml_X12_439 mf_X12_readCompare rfl hk0 xf_X12 rfl (Nat.le_of_ble_eq_true rfl) (fun r30 S31 hq => ?_)
                    try dsimp only
                    refine X_istore_n (n := 196) (L1 := [(3, .int (bi r30)), (2, .int e5), (1, .int (bi (t_X12_isSign a0 (40 : Int32) S))), (0, .ref a0)]) (kX12_readTerm_1 7 rfl) rfl rfl (Nat.le_of_ble_eq_true rfl) rfl ?_
                    exact X_L [3, 0] rfl (kJ (r30, S31))
              · refine X_aload_n (n := 129) 3 (kX12_readTerm 68 rfl) rfl rfl rfl ?_
                refine X_aload_n (n := 130) 3 (kX12_readTerm 69 rfl) rfl rfl rfl ?_
                refine X_bipush (n := 132) (v := 50) (kX12_readTerm 70 rfl) rfl (by decide) ?_
                refine X_iload_n (n := 133) 1 (kX12_readTerm 71 rfl) rfl rfl rfl ?_
                refine X_iadd (n := 134) (kX12_readTerm 72 rfl) rfl ?_
                refine X_iconst (n := 135) (v := 0) (kX12_readTerm 73 rfl) rfl (by decide) ?_
                refine X_iconst (n := 136) (v := 0) (kX12_readTerm 74 rfl) rfl (by decide) ?_
                refine X_iconst (n := 137) (v := 0) (kX12_readTerm 75 rfl) rfl (by decide) ?_
                refine X_assoc ?_
                refine X_callVI (n := 140) (As := [.int ((50 : Int32) + e5), .int (0 : Int32), .int (0 : Int32), .int (0 : Int32)]) (st := [.ref a0]) (kX12_readTerm 76 rfl) rfl (w_X12_saysOne hk0) (by omega) ml_X12_417 mf_X12_saysOne rfl hk0 xf_X12 rfl (Nat.le_of_ble_eq_true rfl) (fun r32 S33 hq => ?_)
                try dsimp only
                refine X_putI (n := 143) xf_X12 hk0 (by decide) fl_X12_414 rfl rfl (Or.inl rfl) (kX12_readTerm 77 rfl) rfl ?_
                refine X_goto (tgt := 196) (kX12_readTerm 78 rfl) rfl ?_
                exact X_L [3, 0] rfl (kJ (true, (sI S33 a0 59 r32)))
  · refine X_iload_n (n := 35) 0 (kX12_readTerm 17 rfl) rfl rfl rfl ?_
    refine X_bipush (n := 37) (v := 16) (kX12_readTerm 18 rfl) rfl (by decide) ?_
    refine X_ic_le (n := 40) (tgt := 46) (kX12_readTerm 19 rfl) rfl rfl (fun h34 => ?_) (fun h34 => ?_)
    · refine X_aload_n (n := 47) 2 (kX12_readTerm 24 rfl) rfl rfl rfl ?_
      refine X_getI (n := 50) xf_X12 hk0 (by decide) fl_X12_424 rfl (kX12_readTerm 25 rfl) rfl ?_
      refine X_bipush (n := 52) (v := 20) (kX12_readTerm 26 rfl) rfl (by decide) ?_
      refine X_ic_eq (n := 55) (tgt := 64) (kX12_readTerm 27 rfl) rfl rfl (fun h35 => ?_) (fun h35 => ?_)
      · refine X_aload_n (n := 65) 2 (kX12_readTerm 32 rfl) rfl rfl rfl ?_
        refine X_iconst (n := 66) (v := 4) (kX12_readTerm 33 rfl) rfl (by decide) ?_
        refine X_callVB (n := 69) (As := [.int (4 : Int32)]) (st := []) (kX12_readTerm 34 rfl) rfl (w_X12_bad hk0) (by omega) ml_X12_166 mf_X12_bad rfl hk0 xf_X12 rfl (Nat.le_of_ble_eq_true rfl) (fun r36 S37 hq => ?_)
        try dsimp only
        exact X_zret (b := r36) rfl (kX12_readTerm 35 rfl)
      · refine X_aload_n (n := 56) 2 (kX12_readTerm 28 rfl) rfl rfl rfl ?_
        refine X_getI (n := 59) xf_X12 hk0 (by decide) fl_X12_427 rfl (kX12_readTerm 29 rfl) rfl ?_
        refine X_bipush (n := 61) (v := 8) (kX12_readTerm 30 rfl) rfl (by decide) ?_
        refine X_ic_ne (n := 64) (tgt := 70) (kX12_readTerm 31 rfl) rfl rfl (fun h38 => ?_) (fun h38 => ?_)
        · refine X_aload_n (n := 65) 2 (kX12_readTerm 32 rfl) rfl rfl rfl ?_
          refine X_iconst (n := 66) (v := 4) (kX12_readTerm 33 rfl) rfl (by decide) ?_
          refine X_callVB (n := 69) (As := [.int (4 : Int32)]) (st := []) (kX12_readTerm 34 rfl) rfl (w_X12_bad hk0) (by omega) ml_X12_166 mf_X12_bad rfl hk0 xf_X12 rfl (Nat.le_of_ble_eq_true rfl) (fun r39 S40 hq => ?_)
          try dsimp only
          exact X_zret (b := r39) rfl (kX12_readTerm 35 rfl)
        · refine X_aload_n (n := 71) 2 (kX12_readTerm 36 rfl) rfl rfl rfl ?_
          refine X_dup (n := 72) (kX12_readTerm 37 rfl) rfl rfl ?_
          refine X_getI (n := 75) xf_X12 hk0 (by decide) fl_X12_424 rfl (kX12_readTerm 38 rfl) rfl ?_
          refine X_iconst (n := 76) (v := 1) (kX12_readTerm 39 rfl) rfl (by decide) ?_
          refine X_iadd (n := 77) (kX12_readTerm 40 rfl) rfl ?_
          refine X_putI (n := 80) xf_X12 hk0 (by decide) fl_X12_424 rfl rfl (Or.inl rfl) (kX12_readTerm 41 rfl) rfl ?_
          refine X_aload_n (n := 81) 2 (kX12_readTerm 42 rfl) rfl rfl rfl ?_
          refine X_dup (n := 82) (kX12_readTerm 43 rfl) rfl rfl ?_
          refine X_getI (n := 85) xf_X12 hk0 (by decide) fl_X12_427 rfl (kX12_readTerm 44 rfl) rfl ?_
          refine X_iconst (n := 86) (v := 1) (kX12_readTerm 45 rfl) rfl (by decide) ?_
          refine X_iadd (n := 87) (kX12_readTerm 46 rfl) rfl ?_
          refine X_putI (n := 90) xf_X12 hk0 (by decide) fl_X12_427 rfl rfl (Or.inl rfl) (kX12_readTerm 47 rfl) rfl ?_
          refine X_aload_n (n := 91) 2 (kX12_readTerm 48 rfl) rfl rfl rfl ?_
          refine X_callVV (n := 94) (As := []) (st := []) (kX12_readTerm 49 rfl) rfl (w_X12_go hk0) (by omega) ml_X12_180 mf_X12_go rfl hk0 xf_X12 rfl (Nat.le_of_ble_eq_true rfl) (fun S41 hq => ?_)
          try dsimp only
          refine X_iconst (n := 95) (v := 1) (kX12_readTerm 50 rfl) rfl (by decide) ?_
          refine X_istore_n (n := 96) (L1 := [(3, .int 1), (2, .int e5), (1, .int (bi (t_X12_isSign a0 (40 : Int32) S))), (0, .ref a0)]) (kX12_readTerm 51 rfl) rfl rfl (Nat.le_of_ble_eq_true rfl) rfl ?_
          refine X_iload_n (n := 97) 2 (kX12_readTerm 52 rfl) rfl rfl rfl ?_
          refine X_join 196 (fun q => match q with | (x42, S43) => [(0, .ref a0), (3, .int (bi x42))]) (fun q => match q with | (x42, S43) => []) (fun q => match q with | (x42, S43) => S43) (fun q => ?_) (fun kJ => ?_)
          · obtain ⟨x42, S43⟩ := q
            dsimp only
            refine X_aload_n (n := 197) 0 (kX12_readTerm_1 8 rfl) rfl rfl rfl ?_
            refine X_dup (n := 198) (kX12_readTerm_1 9 rfl) rfl rfl ?_
            refine X_getI (n := 201) xf_X12 hk0 (by decide) fl_X12_427 rfl (kX12_readTerm_1 10 rfl) rfl ?_
            refine X_iconst (n := 202) (v := 1) (kX12_readTerm_1 11 rfl) rfl (by decide) ?_
            refine X_isub (n := 203) (kX12_readTerm_1 12 rfl) rfl ?_
            refine X_putI (n := 206) xf_X12 hk0 (by decide) fl_X12_427 rfl rfl (Or.inl rfl) (kX12_readTerm_1 13 rfl) rfl ?_
            refine X_iload_n (n := 207) 1 (kX12_readTerm_1 14 rfl) rfl rfl rfl ?_
            exact X_zret (b := x42) rfl (kX12_readTerm_1 15 rfl)
          · refine X_itebind ?_
            refine X_bz (n := 100) (tgt := 108) (kX12_readTerm 53 rfl) rfl rfl (fun h44 => ?_) (fun h44 => ?_)
            · refine X_aload_n (n := 101) 3 (kX12_readTerm 54 rfl) rfl rfl rfl ?_
              refine X_assoc ?_
              refine X_callVB (n := 104) (As := []) (st := []) (kX12_readTerm 55 rfl) rfl (w_X12_readBracket hd hr hk0) (by omega) ml_X12_430 mf_X12_readBracket rfl hk0 xf_X12 rfl (Nat.le_of_ble_eq_true rfl) (fun r45 S46 hq => ?_)
              try dsimp only
              refine X_istore_n (n := 105) (L1 := [(3, .int (bi r45)), (2, .int e5), (1, .int (bi (t_X12_isSign a0 (40 : Int32) S))), (0, .ref a0)]) (kX12_readTerm 56 rfl) rfl rfl (Nat.le_of_ble_eq_true rfl) rfl ?_
              refine X_goto (tgt := 196) (kX12_readTerm 57 rfl) rfl ?_
              exact X_L [3, 0] rfl (kJ (r45, S46))
            · refine X_iload_n (n := 109) 1 (kX12_readTerm 58 rfl) rfl rfl rfl ?_
              refine X_bipush (n := 111) (v := 9) (kX12_readTerm 59 rfl) rfl (by decide) ?_
              refine X_itebind ?_
              refine X_ic_ne (n := 114) (tgt := 122) (kX12_readTerm 60 rfl) rfl rfl (fun h47 => ?_) (fun h47 => ?_)
              · refine X_aload_n (n := 115) 3 (kX12_readTerm 61 rfl) rfl rfl rfl ?_
                refine X_assoc ?_
                refine X_callVB (n := 118) (As := []) (st := []) (kX12_readTerm 62 rfl) rfl (w_X12_readNot hd hr hk0) (by omega) ml_X12_433 mf_X12_readNot rfl hk0 xf_X12 rfl (Nat.le_of_ble_eq_true rfl) (fun r48 S49 hq => ?_)
                try dsimp only
                refine X_istore_n (n := 119) (L1 := [(3, .int (bi r48)), (2, .int e5), (1, .int (bi (t_X12_isSign a0 (40 : Int32) S))), (0, .ref a0)]) (kX12_readTerm 63 rfl) rfl rfl (Nat.le_of_ble_eq_true rfl) rfl ?_
                refine X_goto (tgt := 196) (kX12_readTerm 64 rfl) rfl ?_
                exact X_L [3, 0] rfl (kJ (r48, S49))
              · refine X_iload_n (n := 123) 1 (kX12_readTerm 65 rfl) rfl rfl rfl ?_
                refine X_bipush (n := 125) (v := 12) (kX12_readTerm 66 rfl) rfl (by decide) ?_
                refine X_itebind ?_
                refine X_ic_ge (n := 128) (tgt := 146) (kX12_readTerm 67 rfl) rfl rfl (fun h50 => ?_) (fun h50 => ?_)
                · refine X_iload_n (n := 147) 1 (kX12_readTerm 79 rfl) rfl rfl rfl ?_
                  refine X_bipush (n := 149) (v := 12) (kX12_readTerm 80 rfl) rfl (by decide) ?_
                  refine X_itebind ?_
                  refine X_ic_ne (n := 152) (tgt := 169) (kX12_readTerm 81 rfl) rfl rfl (fun h51 => ?_) (fun h51 => ?_)
                  · refine X_aload_n (n := 153) 3 (kX12_readTerm 82 rfl) rfl rfl rfl ?_
                    refine X_iload_n (n := 154) 1 (kX12_readTerm 83 rfl) rfl rfl rfl ?_
                    refine X_bipush (n := 156) (v := 6) (kX12_readTerm 84 rfl) rfl (by decide) ?_
                    refine X_aload_n (n := 157) 3 (kX12_readTerm 85 rfl) rfl rfl rfl ?_
                    refine X_getR (n := 160) xf_X12 hk0 (by decide) fl_X12_13 rfl (kX12_readTerm 86 rfl) rfl ?_
                    refine X_iconst (n := 161) (v := 1) (kX12_readTerm 87 rfl) rfl (by decide) ?_
                    refine X_iald' (n := 162) (kt_12_14 hk0) (kX12_readTerm 88 rfl) rfl (by rw [lt_12_14 hk0]; decide) ?_
                    refine X_assoc ?_
                    refine X_callVB (n := 165) (As := [.int e5, .int (6 : Int32), .int (S41.1 (rf a0 14) 1)]) (st := []) (kX12_readTerm 89 rfl) rfl (w_X12_readNamed hk0) (by omega) ml_X12_436 mf_X12_readNamed rfl hk0 xf_X12 rfl (Nat.le_of_ble_eq_true rfl) (fun r52 S53 hq => ?_)
                    try dsimp only
                    refine X_istore_n (n := 166) (L1 := [(3, .int (bi r52)), (2, .int e5), (1, .int (bi (t_X12_isSign a0 (40 : Int32) S))), (0, .ref a0)]) (kX12_readTerm 90 rfl) rfl rfl (Nat.le_of_ble_eq_true rfl) rfl ?_
                    refine X_goto (tgt := 196) (kX12_readTerm 91 rfl) rfl ?_
                    exact X_L [3, 0] rfl (kJ (r52, S53))
                  · refine X_iload_n (n := 170) 1 (kX12_readTerm 92 rfl) rfl rfl rfl ?_
                    refine X_bipush (n := 172) (v := 13) (kX12_readTerm 93 rfl) rfl (by decide) ?_
                    refine X_itebind ?_
                    refine X_ic_ne (n := 175) (tgt := 190) (kX12_readTerm 94 rfl) rfl rfl (fun h54 => ?_) (fun h54 => ?_)
                    · refine X_aload_n (n := 176) 3 (kX12_readTerm 95 rfl) rfl rfl rfl ?_
                      refine X_iload_n (n := 177) 1 (kX12_readTerm 96 rfl) rfl rfl rfl ?_
                      refine X_iconst (n := 178) (v := 0) (kX12_readTerm 97 rfl) rfl (by decide) ?_
                      refine X_aload_n (n := 179) 3 (kX12_readTerm 98 rfl) rfl rfl rfl ?_
                      refine X_getR (n := 182) xf_X12 hk0 (by decide) fl_X12_13 rfl (kX12_readTerm 99 rfl) rfl ?_
                      refine X_iconst (n := 183) (v := 0) (kX12_readTerm_1 0 rfl) rfl (by decide) ?_
                      refine X_iald' (n := 184) (kt_12_14 hk0) (kX12_readTerm_1 1 rfl) rfl (by rw [lt_12_14 hk0]; decide) ?_
                      refine X_assoc ?_
                      refine X_callVB (n := 187) (As := [.int e5, .int (0 : Int32), .int (S41.1 (rf a0 14) 0)]) (st := []) (kX12_readTerm_1 2 rfl) rfl (w_X12_readNamed hk0) (by omega) ml_X12_436 mf_X12_readNamed rfl hk0 xf_X12 rfl (Nat.le_of_ble_eq_true rfl) (fun r55 S56 hq => ?_)
                      try dsimp only
                      refine X_goto (tgt := 195) (kX12_readTerm_1 3 rfl) rfl ?_
                      refine X_istore_n (n := 196) (L1 := [(3, .int (bi r55)), (2, .int e5), (1, .int (bi (t_X12_isSign a0 (40 : Int32) S))), (0, .ref a0)]) (kX12_readTerm_1 7 rfl) rfl rfl (Nat.le_of_ble_eq_true rfl) rfl ?_
                      exact X_L [3, 0] rfl (kJ (r55, S56))
                    · refine X_aload_n (n := 191) 3 (kX12_readTerm_1 4 rfl) rfl rfl rfl ?_
                      refine X_iload_n (n := 192) 1 (kX12_readTerm_1 5 rfl) rfl rfl rfl ?_
                      refine X_assoc ?_
                      refine X_callVB (n := 195) (As := [.int e5]) (st := []) (kX12_readTerm_1 6 rfl) rfl (w_X12_readCompare hk0) (by omega) ml_X12_439 mf_X12_readCompare rfl hk0 xf_X12 rfl (Nat.le_of_ble_eq_true rfl) (fun r57 S58 hq => ?_)
                      try dsimp only
                      refine X_istore_n (n := 196) (L1 := [(3, .int (bi r57)), (2, .int e5), (1, .int (bi (t_X12_isSign a0 (40 : Int32) S))), (0, .ref a0)]) (kX12_readTerm_1 7 rfl) rfl rfl (Nat.le_of_ble_eq_true rfl) rfl ?_
                      exact X_L [3, 0] rfl (kJ (r57, S58))
                · refine X_aload_n (n := 129) 3 (kX12_readTerm 68 rfl) rfl rfl rfl ?_
                  refine X_aload_n (n := 130) 3 (kX12_readTerm 69 rfl) rfl rfl rfl ?_
                  refine X_bipush (n := 132) (v := 50) (kX12_readTerm 70 rfl) rfl (by decide) ?_
                  refine X_iload_n (n := 133) 1 (kX12_readTerm 71 rfl) rfl rfl rfl ?_
                  refine X_iadd (n := 134) (kX12_readTerm 72 rfl) rfl ?_
                  refine X_iconst (n := 135) (v := 0) (kX12_readTerm 73 rfl) rfl (by decide) ?_
                  refine X_iconst (n := 136) (v := 0) (kX12_readTerm 74 rfl) rfl (by decide) ?_
                  refine X_iconst (n := 137) (v := 0) (kX12_readTerm 75 rfl) rfl (by decide) ?_
                  refine X_assoc ?_
                  refine X_callVI (n := 140) (As := [.int ((50 : Int32) + e5), .int (0 : Int32), .int (0 : Int32), .int (0 : Int32)]) (st := [.ref a0]) (kX12_readTerm 76 rfl) rfl (w_X12_saysOne hk0) (by omega) ml_X12_417 mf_X12_saysOne rfl hk0 xf_X12 rfl (Nat.le_of_ble_eq_true rfl) (fun r59 S60 hq => ?_)
                  try dsimp only
                  refine X_putI (n := 143) xf_X12 hk0 (by decide) fl_X12_414 rfl rfl (Or.inl rfl) (kX12_readTerm 77 rfl) rfl ?_
                  refine X_goto (tgt := 196) (kX12_readTerm 78 rfl) rfl ?_
                  exact X_L [3, 0] rfl (kJ (true, (sI S60 a0 59 r59)))
    · refine X_aload_n (n := 41) 2 (kX12_readTerm 20 rfl) rfl rfl rfl ?_
      refine X_iconst (n := 42) (v := 1) (kX12_readTerm 21 rfl) rfl (by decide) ?_
      refine X_callVB (n := 45) (As := [.int (1 : Int32)]) (st := []) (kX12_readTerm 22 rfl) rfl (w_X12_bad hk0) (by omega) ml_X12_166 mf_X12_bad rfl hk0 xf_X12 rfl (Nat.le_of_ble_eq_true rfl) (fun r61 S62 hq => ?_)
      try dsimp only
      exact X_zret (b := r61) rfl (kX12_readTerm 23 rfl)
def rX12_readTerm : Nat → Nat → XS → Option (Bool × XS)
  | 0, _, _ => none
  | n + 1, a0, S => f_X12_readTerm (rX12_readTerm n) a0 S
theorem wr_X12_readTerm {l : Launch} {g : XG} : ∀ (n : Nat) (a0 : Nat) (S : XS), kd a0 = 12 → Cl φB l g (30 + 4 * n) mX12_readTerm [.ref a0] S (rX12_readTerm n a0 S) := by
  intro n
  induction n with
  | zero => intro a0 S h0 q hq; cases hq
  | succ n ih => intro a0 S h0; exact w_X12_readTerm (d := 30 + 4 * n) (by omega) ih h0
def f_X12_openOn_L58 (r : Nat → Int32 → Int32 → XS → Option (XS)) (a0 : Nat) (i1 : Int32) (i2 : Int32) : Nat → Int32 → XS → Option (XS)
  | 0, _, _ => none
  | n + 1, i3, S => (if (S.1 (rf a0 14) 193) ≤ i3 then some S else (if (t_X12_has i2 i3) = true then f_X12_openOn_L58 r a0 i1 i2 n (i3 + 1) S else ((f_X12_isDrowned a0 i3 i1 S).bind (fun q => match q with | (r4, S5) => (if r4 = true then f_X12_openOn_L58 r a0 i1 i2 n (i3 + 1) S5 else ((f_X12_open a0 i3 i1 S5).bind (fun S7 => (if i1 < 0 ∨ ln (rf a0 25) ≤ i1.toNatClampNeg then none else ((r a0 (i1 + (1 : Int32)) (i2 ||| (shl32 (1 : Int32) i3)) (sI S7 (rf a0 25) i1.toNatClampNeg i3)).bind (fun S8 => f_X12_openOn_L58 r a0 i1 i2 n (i3 + 1) S8))))))))))
def f_X12_openOn_L33 (r : Nat → Int32 → Int32 → XS → Option (XS)) (a0 : Nat) (i1 : Int32) (i2 : Int32) : Nat → Int32 → XS → Option (XS)
  | 0, _, _ => none
  | n + 1, i3, S => (if i1 ≤ i3 then some S else (if i3 < 0 ∨ ln (rf a0 25) ≤ i3.toNatClampNeg then none else (if i3 < 0 ∨ ln (rf a0 31) ≤ i3.toNatClampNeg then none else f_X12_openOn_L33 r a0 i1 i2 n (i3 + 1) (sI S (rf a0 31) i3.toNatClampNeg (S.1 (rf a0 25) i3.toNatClampNeg)))))
def f_X12_openOn (r : Nat → Int32 → Int32 → XS → Option (XS)) (a0 : Nat) (i1 : Int32) (i2 : Int32) (S : XS) : Option (XS) := (if i2 < 0 ∨ ln (rf a0 27) ≤ i2.toNatClampNeg then none else ((if i1 = ((sI S (rf a0 27) i2.toNatClampNeg (vp_nar .boolean (1 : Int32))).1 (rf a0 14) 193) then (if ((sI S (rf a0 27) i2.toNatClampNeg (vp_nar .boolean (1 : Int32))).1 a0 30) = 0 then ((f_X12_openOn_L33 r a0 i1 i2 1000000 (0 : Int32) (sI (sI S (rf a0 27) i2.toNatClampNeg (vp_nar .boolean (1 : Int32))) a0 30 (1 : Int32))).bind (fun S16 => some S16)) else some (sI S (rf a0 27) i2.toNatClampNeg (vp_nar .boolean (1 : Int32)))) else some (sI S (rf a0 27) i2.toNatClampNeg (vp_nar .boolean (1 : Int32)))).bind (fun S1 => ((f_X12_openOn_L58 r a0 i1 i2 1000000 (0 : Int32) S1).bind (fun S10 => some S10)))))
set_option maxHeartbeats 4000000 in
set_option maxRecDepth 100000 in
theorem w_X12_openOn_L58 {l : Launch} {g : XG} {G : (XS) → Option (XS)} {d : Nat} (hd : 30 ≤ d) {r : Nat → Int32 → Int32 → XS → Option (XS)} (hr : ∀ (a0 : Nat) (i1 : Int32) (i2 : Int32) (S : XS), kd a0 = 12 → Cl φV l g d mX12_openOn [.ref a0, .int i1, .int i2] S (r a0 i1 i2 S)) {a0 : Nat} {i1 : Int32} {i2 : Int32} (hk0 : kd a0 = 12) (kE : ∀ (S1 : XS), X φV l g (d + 1) mX12_openOn 121 [] [] S1 (G S1)) : ∀ (n : Nat) (i3 : Int32) (S : XS), X φV l g (d + 1) mX12_openOn 58 [(3, .int i3), (0, .ref a0), (1, .int i1), (2, .int i2)] [] S ((f_X12_openOn_L58 r a0 i1 i2 n i3 S).bind G) := by
  intro n
  induction n with
  | zero => intro i3 S; exact X_none
  | succ n ih =>
  · intro i3 S
    rw [f_X12_openOn_L58]
    refine X_iload_n (n := 59) 0 (kX12_openOn 34 rfl) rfl rfl rfl ?_
    refine X_aload_n (n := 60) 1 (kX12_openOn 35 rfl) rfl rfl rfl ?_
    refine X_getR (n := 63) xf_X12 hk0 (by decide) fl_X12_13 rfl (kX12_openOn 36 rfl) rfl ?_
    refine X_sipush (n := 66) (v := 193) (kX12_openOn 37 rfl) rfl (by decide) ?_
    refine X_iald' (n := 67) (kt_12_14 hk0) (kX12_openOn 38 rfl) rfl (by rw [lt_12_14 hk0]; decide) ?_
    refine X_itebind ?_
    refine X_ic_ge (n := 70) (tgt := 121) (kX12_openOn 39 rfl) rfl rfl (fun h2 => ?_) (fun h2 => ?_)
    · exact X_L [] rfl (kE S)
    · refine X_iload_n (n := 71) 3 (kX12_openOn 40 rfl) rfl rfl rfl ?_
      refine X_iload_n (n := 72) 0 (kX12_openOn 41 rfl) rfl rfl rfl ?_
      refine X_callS1B (n := 75) (As := [.int i2, .int i3]) (st := []) (kX12_openOn 42 rfl) rfl p_X12_has (by omega) ml_X12_208 mf_X12_has rfl rfl (Nat.le_of_ble_eq_true rfl) ?_
      refine X_itebind ?_
      refine X_bn (n := 78) (tgt := 115) (kX12_openOn 43 rfl) rfl rfl (fun h3 => ?_) (fun h3 => ?_)
      · refine X_iinc (n := 118) 0 (v := (i3 + 1)) (L1 := [(3, .int (i3 + 1)), (0, .ref a0), (1, .int i1), (2, .int i2)]) (kX12_openOn 69 rfl) rfl rfl rfl (Nat.le_of_ble_eq_true rfl) rfl ?_
        refine X_goto (tgt := 58) (kX12_openOn 70 rfl) rfl ?_
        exact X_L [0, 1, 2, 3] rfl (ih (i3 + 1) S)
      · refine X_aload_n (n := 79) 1 (kX12_openOn 44 rfl) rfl rfl rfl ?_
        refine X_iload_n (n := 80) 0 (kX12_openOn 45 rfl) rfl rfl rfl ?_
        refine X_iload_n (n := 81) 2 (kX12_openOn 46 rfl) rfl rfl rfl ?_
        refine X_assoc ?_
        refine X_callVB (n := 84) (As := [.int i3, .int i1]) (st := []) (kX12_openOn 47 rfl) rfl (w_X12_isDrowned hk0) (by omega) ml_X12_321 mf_X12_isDrowned rfl hk0 xf_X12 rfl (Nat.le_of_ble_eq_true rfl) (fun r4 S5 hq => ?_)
        try dsimp only
        refine X_itebind ?_
        refine X_bz (n := 87) (tgt := 90) (kX12_openOn 48 rfl) rfl rfl (fun h6 => ?_) (fun h6 => ?_)
        · refine X_goto (tgt := 115) (kX12_openOn 49 rfl) rfl ?_
          refine X_iinc (n := 118) 0 (v := (i3 + 1)) (L1 := [(3, .int (i3 + 1)), (0, .ref a0), (1, .int i1), (2, .int i2)]) (kX12_openOn 69 rfl) rfl rfl rfl (Nat.le_of_ble_eq_true rfl) rfl ?_
          refine X_goto (tgt := 58) (kX12_openOn 70 rfl) rfl ?_
          exact X_L [0, 1, 2, 3] rfl (ih (i3 + 1) S5)
        · refine X_aload_n (n := 91) 1 (kX12_openOn 50 rfl) rfl rfl rfl ?_
          refine X_iload_n (n := 92) 0 (kX12_openOn 51 rfl) rfl rfl rfl ?_
          refine X_iload_n (n := 93) 2 (kX12_openOn 52 rfl) rfl rfl rfl ?_
          refine X_assoc ?_
          refine X_callVV (n := 96) (As := [.int i3, .int i1]) (st := []) (kX12_openOn 53 rfl) rfl (w_X12_open hk0) (by omega) ml_X12_324 mf_X12_open rfl hk0 xf_X12 rfl (Nat.le_of_ble_eq_true rfl) (fun S7 hq => ?_)
          try dsimp only
          refine X_aload_n (n := 97) 1 (kX12_openOn 54 rfl) rfl rfl rfl ?_
          refine X_getR (n := 100) xf_X12 hk0 (by decide) fl_X12_45 rfl (kX12_openOn 55 rfl) rfl ?_
          refine X_iload_n (n := 101) 2 (kX12_openOn 56 rfl) rfl rfl rfl ?_
          refine X_iload_n (n := 102) 0 (kX12_openOn 57 rfl) rfl rfl rfl ?_
          refine X_itebind ?_
          refine X_iast (n := 103) (kt_12_25 hk0) (kX12_openOn 58 rfl) rfl (fun h9 => ?_)
          refine X_aload_n (n := 104) 1 (kX12_openOn 59 rfl) rfl rfl rfl ?_
          refine X_iload_n (n := 105) 2 (kX12_openOn 60 rfl) rfl rfl rfl ?_
          refine X_iconst (n := 106) (v := 1) (kX12_openOn 61 rfl) rfl (by decide) ?_
          refine X_iadd (n := 107) (kX12_openOn 62 rfl) rfl ?_
          refine X_iload_n (n := 108) 3 (kX12_openOn 63 rfl) rfl rfl rfl ?_
          refine X_iconst (n := 109) (v := 1) (kX12_openOn 64 rfl) rfl (by decide) ?_
          refine X_iload_n (n := 110) 0 (kX12_openOn 65 rfl) rfl rfl rfl ?_
          refine X_ishl (n := 111) (kX12_openOn 66 rfl) rfl ?_
          refine X_ior (n := 112) (kX12_openOn 67 rfl) rfl ?_
          refine X_assoc ?_
          refine X_callVV (n := 115) (As := [.int (i1 + (1 : Int32)), .int (i2 ||| (shl32 (1 : Int32) i3))]) (st := []) (kX12_openOn 68 rfl) rfl (hr a0 (i1 + (1 : Int32)) (i2 ||| (shl32 (1 : Int32) i3)) (sI S7 (rf a0 25) i1.toNatClampNeg i3) hk0) (by omega) ml_X12_327 mf_X12_openOn rfl hk0 xf_X12 rfl (Nat.le_of_ble_eq_true rfl) (fun S8 hq => ?_)
          try dsimp only
          refine X_iinc (n := 118) 0 (v := (i3 + 1)) (L1 := [(3, .int (i3 + 1)), (0, .ref a0), (1, .int i1), (2, .int i2)]) (kX12_openOn 69 rfl) rfl rfl rfl (Nat.le_of_ble_eq_true rfl) rfl ?_
          refine X_goto (tgt := 58) (kX12_openOn 70 rfl) rfl ?_
          exact X_L [0, 1, 2, 3] rfl (ih (i3 + 1) S8)
set_option maxHeartbeats 4000000 in
set_option maxRecDepth 100000 in
theorem w_X12_openOn_L33 {l : Launch} {g : XG} {G : (XS) → Option (XS)} {d : Nat} (hd : 30 ≤ d) {r : Nat → Int32 → Int32 → XS → Option (XS)} (hr : ∀ (a0 : Nat) (i1 : Int32) (i2 : Int32) (S : XS), kd a0 = 12 → Cl φV l g d mX12_openOn [.ref a0, .int i1, .int i2] S (r a0 i1 i2 S)) {a0 : Nat} {i1 : Int32} {i2 : Int32} (hk0 : kd a0 = 12) (kE : ∀ (S1 : XS), X φV l g (d + 1) mX12_openOn 56 [(0, .ref a0), (1, .int i1), (2, .int i2)] [] S1 (G S1)) : ∀ (n : Nat) (i3 : Int32) (S : XS), X φV l g (d + 1) mX12_openOn 33 [(3, .int i3), (0, .ref a0), (1, .int i1), (2, .int i2)] [] S ((f_X12_openOn_L33 r a0 i1 i2 n i3 S).bind G) := by
  intro n
  induction n with
  | zero => intro i3 S; exact X_none
  | succ n ih =>
  · intro i3 S
    rw [f_X12_openOn_L33]
    refine X_iload_n (n := 34) 0 (kX12_openOn 19 rfl) rfl rfl rfl ?_
    refine X_iload_n (n := 35) 2 (kX12_openOn 20 rfl) rfl rfl rfl ?_
    refine X_itebind ?_
    refine X_ic_ge (n := 38) (tgt := 56) (kX12_openOn 21 rfl) rfl rfl (fun h13 => ?_) (fun h13 => ?_)
    · exact X_L [1, 2, 3] rfl (kE S)
    · refine X_aload_n (n := 39) 1 (kX12_openOn 22 rfl) rfl rfl rfl ?_
      refine X_getR (n := 42) xf_X12 hk0 (by decide) fl_X12_57 rfl (kX12_openOn 23 rfl) rfl ?_
      refine X_iload_n (n := 43) 0 (kX12_openOn 24 rfl) rfl rfl rfl ?_
      refine X_aload_n (n := 44) 1 (kX12_openOn 25 rfl) rfl rfl rfl ?_
      refine X_getR (n := 47) xf_X12 hk0 (by decide) fl_X12_45 rfl (kX12_openOn 26 rfl) rfl ?_
      refine X_iload_n (n := 48) 0 (kX12_openOn 27 rfl) rfl rfl rfl ?_
      refine X_itebind ?_
      refine X_iald (n := 49) (kt_12_25 hk0) (kX12_openOn 28 rfl) rfl (fun h15 => ?_)
      refine X_itebind ?_
      refine X_iast (n := 50) (kt_12_31 hk0) (kX12_openOn 29 rfl) rfl (fun h14 => ?_)
      refine X_iinc (n := 53) 0 (v := (i3 + 1)) (L1 := [(3, .int (i3 + 1)), (0, .ref a0), (1, .int i1), (2, .int i2)]) (kX12_openOn 30 rfl) rfl rfl rfl (Nat.le_of_ble_eq_true rfl) rfl ?_
      refine X_goto (tgt := 33) (kX12_openOn 31 rfl) rfl ?_
      exact X_L [0, 1, 2, 3] rfl (ih (i3 + 1) (sI S (rf a0 31) i3.toNatClampNeg (S.1 (rf a0 25) i3.toNatClampNeg)))
set_option maxHeartbeats 4000000 in
set_option maxRecDepth 100000 in
theorem w_X12_openOn {l : Launch} {g : XG} {d : Nat} (hd : 30 ≤ d) {r : Nat → Int32 → Int32 → XS → Option (XS)} (hr : ∀ (a0 : Nat) (i1 : Int32) (i2 : Int32) (S : XS), kd a0 = 12 → Cl φV l g d mX12_openOn [.ref a0, .int i1, .int i2] S (r a0 i1 i2 S)) {a0 : Nat} {i1 : Int32} {i2 : Int32} {S : XS} (hk0 : kd a0 = 12) : Cl φV l g (d + 1) mX12_openOn [.ref a0, .int i1, .int i2] S (f_X12_openOn r a0 i1 i2 S) := by
  refine Cl.of (by decide +kernel) (Nat.le_of_ble_eq_true rfl) ?_
  unfold f_X12_openOn
  show X _ _ _ _ _ 0 [(0, .ref a0), (1, .int i1), (2, .int i2)] [] S _
  refine X_aload_n (n := 1) 0 (kX12_openOn 0 rfl) rfl rfl rfl ?_
  refine X_getR (n := 4) xf_X12 hk0 (by decide) fl_X12_51 rfl (kX12_openOn 1 rfl) rfl ?_
  refine X_iload_n (n := 5) 2 (kX12_openOn 2 rfl) rfl rfl rfl ?_
  refine X_iconst (n := 6) (v := 1) (kX12_openOn 3 rfl) rfl (by decide) ?_
  refine X_zast (n := 7) (kt_12_27 hk0) (kX12_openOn 4 rfl) rfl (fun h17 => ?_)
  refine X_iload_n (n := 8) 1 (kX12_openOn 5 rfl) rfl rfl rfl ?_
  refine X_aload_n (n := 9) 0 (kX12_openOn 6 rfl) rfl rfl rfl ?_
  refine X_getR (n := 12) xf_X12 hk0 (by decide) fl_X12_13 rfl (kX12_openOn 7 rfl) rfl ?_
  refine X_sipush (n := 15) (v := 193) (kX12_openOn 8 rfl) rfl (by decide) ?_
  refine X_iald' (n := 16) (kt_12_14 hk0) (kX12_openOn 9 rfl) rfl (by rw [lt_12_14 hk0]; decide) ?_
  refine X_join 56 (fun S1 => [(0, .ref a0), (1, .int i1), (2, .int i2)]) (fun S1 => []) (fun S1 => S1) (fun S1 => ?_) (fun kJ => ?_)
  · try dsimp only
    refine X_iconst (n := 57) (v := 0) (kX12_openOn 32 rfl) rfl (by decide) ?_
    refine X_istore_n (n := 58) (L1 := [(3, .int 0), (0, .ref a0), (1, .int i1), (2, .int i2)]) (kX12_openOn 33 rfl) rfl rfl (Nat.le_of_ble_eq_true rfl) rfl ?_
    refine X_L [0, 1, 2, 3] rfl (w_X12_openOn_L58 hd hr hk0 (fun S10 => ?_) 1000000 (0 : Int32) S1)
    try dsimp only
    exact X_vret rfl (kX12_openOn 71 rfl)
  · refine X_itebind ?_
    refine X_ic_ne (n := 19) (tgt := 56) (kX12_openOn 10 rfl) rfl rfl (fun h11 => ?_) (fun h11 => ?_)
    · refine X_aload_n (n := 20) 0 (kX12_openOn 11 rfl) rfl rfl rfl ?_
      refine X_getI (n := 23) xf_X12 hk0 (by decide) fl_X12_317 rfl (kX12_openOn 12 rfl) rfl ?_
      refine X_itebind ?_
      refine X_if_ne (n := 26) (tgt := 56) (kX12_openOn 13 rfl) rfl rfl (fun h12 => ?_) (fun h12 => ?_)
      · refine X_aload_n (n := 27) 0 (kX12_openOn 14 rfl) rfl rfl rfl ?_
        refine X_iconst (n := 28) (v := 1) (kX12_openOn 15 rfl) rfl (by decide) ?_
        refine X_putI (n := 31) xf_X12 hk0 (by decide) fl_X12_317 rfl rfl (Or.inr (Or.inr rfl)) (kX12_openOn 16 rfl) rfl ?_
        refine X_iconst (n := 32) (v := 0) (kX12_openOn 17 rfl) rfl (by decide) ?_
        refine X_istore_n (n := 33) (L1 := [(3, .int 0), (0, .ref a0), (1, .int i1), (2, .int i2)]) (kX12_openOn 18 rfl) rfl rfl (Nat.le_of_ble_eq_true rfl) rfl ?_
        refine X_assoc ?_
        refine X_L [0, 1, 2, 3] rfl (w_X12_openOn_L33 hd hr hk0 (fun S16 => ?_) 1000000 (0 : Int32) (sI (sI S (rf a0 27) i2.toNatClampNeg (vp_nar .boolean (1 : Int32))) a0 30 (1 : Int32)))
        try dsimp only
        exact X_L [0, 1, 2] rfl (kJ S16)
      · exact X_L [0, 1, 2] rfl (kJ (sI S (rf a0 27) i2.toNatClampNeg (vp_nar .boolean (1 : Int32))))
    · exact X_L [0, 1, 2] rfl (kJ (sI S (rf a0 27) i2.toNatClampNeg (vp_nar .boolean (1 : Int32))))
def rX12_openOn : Nat → Nat → Int32 → Int32 → XS → Option (XS)
  | 0, _, _, _, _ => none
  | n + 1, a0, i1, i2, S => f_X12_openOn (rX12_openOn n) a0 i1 i2 S
theorem wr_X12_openOn {l : Launch} {g : XG} : ∀ (n : Nat) (a0 : Nat) (i1 : Int32) (i2 : Int32) (S : XS), kd a0 = 12 → Cl φV l g (30 + 1 * n) mX12_openOn [.ref a0, .int i1, .int i2] S (rX12_openOn n a0 i1 i2 S) := by
  intro n
  induction n with
  | zero => intro a0 i1 i2 S h0 q hq; cases hq
  | succ n ih => intro a0 i1 i2 S h0; exact w_X12_openOn (d := 30 + 1 * n) (by omega) ih h0
def f_X12_holds (r : Nat → Int32 → Int32 → XS → Option (Bool × XS)) (a0 : Nat) (i1 : Int32) (i2 : Int32) (S : XS) : Option (Bool × XS) := (if (((276 : Int32) + ((4 : Int32) * i1)) + (1 : Int32)) < 0 ∨ ln (rf a0 14) ≤ (((276 : Int32) + ((4 : Int32) * i1)) + (1 : Int32)).toNatClampNeg then none else (if (((276 : Int32) + ((4 : Int32) * i1)) + (2 : Int32)) < 0 ∨ ln (rf a0 14) ≤ (((276 : Int32) + ((4 : Int32) * i1)) + (2 : Int32)).toNatClampNeg then none else (if ((276 : Int32) + ((4 : Int32) * i1)) < 0 ∨ ln (rf a0 14) ≤ ((276 : Int32) + ((4 : Int32) * i1)).toNatClampNeg then none else (if (S.1 (rf a0 14) ((276 : Int32) + ((4 : Int32) * i1)).toNatClampNeg) = 1 then ((r a0 (S.1 (rf a0 14) (((276 : Int32) + ((4 : Int32) * i1)) + (1 : Int32)).toNatClampNeg) i2 S).bind (fun q => match q with | (r11, S12) => (if r11 = true then some (false, S12) else some (true, S12)))) else (if (S.1 (rf a0 14) ((276 : Int32) + ((4 : Int32) * i1)).toNatClampNeg) = 2 then ((r a0 (S.1 (rf a0 14) (((276 : Int32) + ((4 : Int32) * i1)) + (1 : Int32)).toNatClampNeg) i2 S).bind (fun q => match q with | (r14, S15) => (if r14 = true then ((r a0 (S.1 (rf a0 14) (((276 : Int32) + ((4 : Int32) * i1)) + (2 : Int32)).toNatClampNeg) i2 S15).bind (fun q => match q with | (r17, S18) => (if r17 = true then some (true, S18) else some (false, S18)))) else some (false, S15)))) else (if (S.1 (rf a0 14) ((276 : Int32) + ((4 : Int32) * i1)).toNatClampNeg) = 3 then ((r a0 (S.1 (rf a0 14) (((276 : Int32) + ((4 : Int32) * i1)) + (1 : Int32)).toNatClampNeg) i2 S).bind (fun q => match q with | (r20, S21) => (if r20 = true then some (true, S21) else ((r a0 (S.1 (rf a0 14) (((276 : Int32) + ((4 : Int32) * i1)) + (2 : Int32)).toNatClampNeg) i2 S21).bind (fun q => match q with | (r23, S24) => (if r23 = true then some (true, S24) else some (false, S24))))))) else (if (S.1 (rf a0 14) ((276 : Int32) + ((4 : Int32) * i1)).toNatClampNeg) = 60 then ((f_X12_worn a0 i2 S).bind (fun q => match q with | (r26, S27) => ((f_X12_sumAt a0 r26 S27).bind (fun q => match q with | (r28, S29) => (if r28 = 0 then some (true, S29) else some (false, S29)))))) else (if (S.1 (rf a0 14) ((276 : Int32) + ((4 : Int32) * i1)).toNatClampNeg) = 61 then (if ((151 : Int32) + i2) < 0 ∨ ln (rf a0 14) ≤ ((151 : Int32) + i2).toNatClampNeg then none else (if (S.1 (rf a0 14) ((151 : Int32) + i2).toNatClampNeg) = i2 then some (true, S) else some (false, S))) else (if (S.1 (rf a0 14) ((276 : Int32) + ((4 : Int32) * i1)).toNatClampNeg) = 62 then (if ((145 : Int32) + i2) < 0 ∨ ln (rf a0 14) ≤ ((145 : Int32) + i2).toNatClampNeg then none else (if (S.1 (rf a0 14) ((145 : Int32) + i2).toNatClampNeg) = (S.1 (rf a0 14) (((276 : Int32) + ((4 : Int32) * i1)) + (1 : Int32)).toNatClampNeg) then some (true, S) else some (false, S))) else (if (S.1 (rf a0 14) ((276 : Int32) + ((4 : Int32) * i1)).toNatClampNeg) = 63 then ((f_X12_worn a0 i2 S).bind (fun q => match q with | (r35, S36) => (if (r35 + (S.1 (rf a0 14) (((276 : Int32) + ((4 : Int32) * i1)) + (1 : Int32)).toNatClampNeg)) < 0 ∨ ln (rf a0 14) ≤ (r35 + (S.1 (rf a0 14) (((276 : Int32) + ((4 : Int32) * i1)) + (1 : Int32)).toNatClampNeg)).toNatClampNeg then none else (if (S36.1 (rf a0 14) (r35 + (S.1 (rf a0 14) (((276 : Int32) + ((4 : Int32) * i1)) + (1 : Int32)).toNatClampNeg)).toNatClampNeg) ≤ 0 then some (false, S36) else some (true, S36))))) else (if ((276 : Int32) + ((4 : Int32) * i1)) < 0 ∨ ln (rf a0 14) ≤ ((276 : Int32) + ((4 : Int32) * i1)).toNatClampNeg then none else ((f_X12_valueOf a0 ((S.1 (rf a0 14) ((276 : Int32) + ((4 : Int32) * i1)).toNatClampNeg) - (50 : Int32)) i2 S).bind (fun q => match q with | (r1, S2) => (if (((276 : Int32) + ((4 : Int32) * i1)) + (3 : Int32)) < 0 ∨ ln (rf a0 14) ≤ (((276 : Int32) + ((4 : Int32) * i1)) + (3 : Int32)).toNatClampNeg then none else (if (S2.1 (rf a0 14) (((276 : Int32) + ((4 : Int32) * i1)) + (3 : Int32)).toNatClampNeg) = (60 : Int32) then (if (S.1 (rf a0 14) (((276 : Int32) + ((4 : Int32) * i1)) + (2 : Int32)).toNatClampNeg) ≤ r1 then some (false, S2) else some (true, S2)) else (if (((276 : Int32) + ((4 : Int32) * i1)) + (3 : Int32)) < 0 ∨ ln (rf a0 14) ≤ (((276 : Int32) + ((4 : Int32) * i1)) + (3 : Int32)).toNatClampNeg then none else (if (S2.1 (rf a0 14) (((276 : Int32) + ((4 : Int32) * i1)) + (3 : Int32)).toNatClampNeg) = (61 : Int32) then (if r1 = (S.1 (rf a0 14) (((276 : Int32) + ((4 : Int32) * i1)) + (2 : Int32)).toNatClampNeg) then some (true, S2) else some (false, S2)) else (if r1 ≤ (S.1 (rf a0 14) (((276 : Int32) + ((4 : Int32) * i1)) + (2 : Int32)).toNatClampNeg) then some (false, S2) else some (true, S2)))))))))))))))))))
set_option maxHeartbeats 4000000 in
set_option maxRecDepth 100000 in
theorem w_X12_holds {l : Launch} {g : XG} {d : Nat} (hd : 30 ≤ d) {r : Nat → Int32 → Int32 → XS → Option (Bool × XS)} (hr : ∀ (a0 : Nat) (i1 : Int32) (i2 : Int32) (S : XS), kd a0 = 12 → Cl φB l g d mX12_holds [.ref a0, .int i1, .int i2] S (r a0 i1 i2 S)) {a0 : Nat} {i1 : Int32} {i2 : Int32} {S : XS} (hk0 : kd a0 = 12) : Cl φB l g (d + 1) mX12_holds [.ref a0, .int i1, .int i2] S (f_X12_holds r a0 i1 i2 S) := by
  refine Cl.of (by decide +kernel) (Nat.le_of_ble_eq_true rfl) ?_
  unfold f_X12_holds
  show X _ _ _ _ _ 0 [(0, .ref a0), (1, .int i1), (2, .int i2)] [] S _
  refine X_sipush (n := 3) (v := 276) (kX12_holds 0 rfl) rfl (by decide) ?_
  refine X_iconst (n := 4) (v := 4) (kX12_holds 1 rfl) rfl (by decide) ?_
  refine X_iload_n (n := 5) 1 (kX12_holds 2 rfl) rfl rfl rfl ?_
  refine X_imul (n := 6) (kX12_holds 3 rfl) rfl ?_
  refine X_iadd (n := 7) (kX12_holds 4 rfl) rfl ?_
  refine X_istore_n (n := 8) (L1 := [(3, .int ((276 : Int32) + ((4 : Int32) * i1))), (0, .ref a0), (1, .int i1), (2, .int i2)]) (kX12_holds 5 rfl) rfl rfl (Nat.le_of_ble_eq_true rfl) rfl ?_
  refine X_aload_n (n := 9) 1 (kX12_holds 6 rfl) rfl rfl rfl ?_
  refine X_getR (n := 12) xf_X12 hk0 (by decide) fl_X12_13 rfl (kX12_holds 7 rfl) rfl ?_
  refine X_iload_n (n := 13) 0 (kX12_holds 8 rfl) rfl rfl rfl ?_
  refine X_iconst (n := 14) (v := 1) (kX12_holds 9 rfl) rfl (by decide) ?_
  refine X_iadd (n := 15) (kX12_holds 10 rfl) rfl ?_
  refine X_iald (n := 16) (kt_12_14 hk0) (kX12_holds 11 rfl) rfl (fun h41 => ?_)
  refine X_istore (n := 18) (L1 := [(4, .int (S.1 (rf a0 14) (((276 : Int32) + ((4 : Int32) * i1)) + (1 : Int32)).toNatClampNeg)), (3, .int ((276 : Int32) + ((4 : Int32) * i1))), (0, .ref a0), (1, .int i1), (2, .int i2)]) (kX12_holds 12 rfl) rfl (Nat.le_of_ble_eq_true rfl) rfl ?_
  refine X_aload_n (n := 19) 2 (kX12_holds 13 rfl) rfl rfl rfl ?_
  refine X_getR (n := 22) xf_X12 hk0 (by decide) fl_X12_13 rfl (kX12_holds 14 rfl) rfl ?_
  refine X_iload_n (n := 23) 1 (kX12_holds 15 rfl) rfl rfl rfl ?_
  refine X_iconst (n := 24) (v := 2) (kX12_holds 16 rfl) rfl (by decide) ?_
  refine X_iadd (n := 25) (kX12_holds 17 rfl) rfl ?_
  refine X_iald (n := 26) (kt_12_14 hk0) (kX12_holds 18 rfl) rfl (fun h40 => ?_)
  refine X_istore (n := 28) (L1 := [(5, .int (S.1 (rf a0 14) (((276 : Int32) + ((4 : Int32) * i1)) + (2 : Int32)).toNatClampNeg)), (4, .int (S.1 (rf a0 14) (((276 : Int32) + ((4 : Int32) * i1)) + (1 : Int32)).toNatClampNeg)), (3, .int ((276 : Int32) + ((4 : Int32) * i1))), (0, .ref a0), (1, .int i1), (2, .int i2)]) (kX12_holds 19 rfl) rfl (Nat.le_of_ble_eq_true rfl) rfl ?_
  refine X_aload_n (n := 29) 3 (kX12_holds 20 rfl) rfl rfl rfl ?_
  refine X_getR (n := 32) xf_X12 hk0 (by decide) fl_X12_13 rfl (kX12_holds 21 rfl) rfl ?_
  refine X_iload_n (n := 33) 2 (kX12_holds 22 rfl) rfl rfl rfl ?_
  refine X_iald (n := 34) (kt_12_14 hk0) (kX12_holds 23 rfl) rfl (fun h39 => ?_)
  refine X_ite (fun hc1 => ?_) (fun nc1 => ?_)
  · refine X_look (tgt := 100) (kX12_holds 24 rfl) (by decide) (by rw [hc1] <;> rfl) rfl ?_
    refine X_aload_n (n := 101) 3 (kX12_holds 25 rfl) rfl rfl rfl ?_
    refine X_iload (n := 103) 1 (kX12_holds 26 rfl) rfl rfl ?_
    refine X_iload_n (n := 104) 5 (kX12_holds 27 rfl) rfl rfl rfl ?_
    refine X_callVB (n := 107) (As := [.int (S.1 (rf a0 14) (((276 : Int32) + ((4 : Int32) * i1)) + (1 : Int32)).toNatClampNeg), .int i2]) (st := []) (kX12_holds 28 rfl) rfl (hr a0 (S.1 (rf a0 14) (((276 : Int32) + ((4 : Int32) * i1)) + (1 : Int32)).toNatClampNeg) i2 S hk0) (by omega) ml_X12_445 mf_X12_holds rfl hk0 xf_X12 rfl (Nat.le_of_ble_eq_true rfl) (fun r11 S12 hq => ?_)
    try dsimp only
    refine X_bn (n := 110) (tgt := 114) (kX12_holds 29 rfl) rfl rfl (fun h13 => ?_) (fun h13 => ?_)
    · refine X_iconst (n := 115) (v := 0) (kX12_holds 32 rfl) rfl (by decide) ?_
      exact X_zret (b := false) rfl (kX12_holds 33 rfl)
    · refine X_iconst (n := 111) (v := 1) (kX12_holds 30 rfl) rfl (by decide) ?_
      refine X_goto (tgt := 115) (kX12_holds 31 rfl) rfl ?_
      exact X_zret (b := true) rfl (kX12_holds 33 rfl)
  · refine X_ite (fun hc2 => ?_) (fun nc2 => ?_)
    · refine X_look (tgt := 116) (kX12_holds 24 rfl) (by decide) (by rw [hc2] <;> rfl) rfl ?_
      refine X_aload_n (n := 117) 3 (kX12_holds 34 rfl) rfl rfl rfl ?_
      refine X_iload (n := 119) 1 (kX12_holds 35 rfl) rfl rfl ?_
      refine X_iload_n (n := 120) 5 (kX12_holds 36 rfl) rfl rfl rfl ?_
      refine X_callVB (n := 123) (As := [.int (S.1 (rf a0 14) (((276 : Int32) + ((4 : Int32) * i1)) + (1 : Int32)).toNatClampNeg), .int i2]) (st := []) (kX12_holds 37 rfl) rfl (hr a0 (S.1 (rf a0 14) (((276 : Int32) + ((4 : Int32) * i1)) + (1 : Int32)).toNatClampNeg) i2 S hk0) (by omega) ml_X12_445 mf_X12_holds rfl hk0 xf_X12 rfl (Nat.le_of_ble_eq_true rfl) (fun r14 S15 hq => ?_)
      try dsimp only
      refine X_bz (n := 126) (tgt := 140) (kX12_holds 38 rfl) rfl rfl (fun h16 => ?_) (fun h16 => ?_)
      · refine X_aload_n (n := 127) 3 (kX12_holds 39 rfl) rfl rfl rfl ?_
        refine X_iload (n := 129) 0 (kX12_holds 40 rfl) rfl rfl ?_
        refine X_iload_n (n := 130) 5 (kX12_holds 41 rfl) rfl rfl rfl ?_
        refine X_callVB (n := 133) (As := [.int (S.1 (rf a0 14) (((276 : Int32) + ((4 : Int32) * i1)) + (2 : Int32)).toNatClampNeg), .int i2]) (st := []) (kX12_holds 42 rfl) rfl (hr a0 (S.1 (rf a0 14) (((276 : Int32) + ((4 : Int32) * i1)) + (2 : Int32)).toNatClampNeg) i2 S15 hk0) (by omega) ml_X12_445 mf_X12_holds rfl hk0 xf_X12 rfl (Nat.le_of_ble_eq_true rfl) (fun r17 S18 hq => ?_)
        try dsimp only
        refine X_bz (n := 136) (tgt := 140) (kX12_holds 43 rfl) rfl rfl (fun h19 => ?_) (fun h19 => ?_)
        · refine X_iconst (n := 137) (v := 1) (kX12_holds 44 rfl) rfl (by decide) ?_
          refine X_goto (tgt := 141) (kX12_holds 45 rfl) rfl ?_
          exact X_zret (b := true) rfl (kX12_holds 47 rfl)
        · refine X_iconst (n := 141) (v := 0) (kX12_holds 46 rfl) rfl (by decide) ?_
          exact X_zret (b := false) rfl (kX12_holds 47 rfl)
      · refine X_iconst (n := 141) (v := 0) (kX12_holds 46 rfl) rfl (by decide) ?_
        exact X_zret (b := false) rfl (kX12_holds 47 rfl)
    · refine X_ite (fun hc3 => ?_) (fun nc3 => ?_)
      · refine X_look (tgt := 142) (kX12_holds 24 rfl) (by decide) (by rw [hc3] <;> rfl) rfl ?_
        refine X_aload_n (n := 143) 3 (kX12_holds 48 rfl) rfl rfl rfl ?_
        refine X_iload (n := 145) 1 (kX12_holds 49 rfl) rfl rfl ?_
        refine X_iload_n (n := 146) 5 (kX12_holds 50 rfl) rfl rfl rfl ?_
        refine X_callVB (n := 149) (As := [.int (S.1 (rf a0 14) (((276 : Int32) + ((4 : Int32) * i1)) + (1 : Int32)).toNatClampNeg), .int i2]) (st := []) (kX12_holds 51 rfl) rfl (hr a0 (S.1 (rf a0 14) (((276 : Int32) + ((4 : Int32) * i1)) + (1 : Int32)).toNatClampNeg) i2 S hk0) (by omega) ml_X12_445 mf_X12_holds rfl hk0 xf_X12 rfl (Nat.le_of_ble_eq_true rfl) (fun r20 S21 hq => ?_)
        try dsimp only
        refine X_bn (n := 152) (tgt := 162) (kX12_holds 52 rfl) rfl rfl (fun h22 => ?_) (fun h22 => ?_)
        · refine X_iconst (n := 163) (v := 1) (kX12_holds 58 rfl) rfl (by decide) ?_
          refine X_goto (tgt := 167) (kX12_holds 59 rfl) rfl ?_
          exact X_zret (b := true) rfl (kX12_holds 61 rfl)
        · refine X_aload_n (n := 153) 3 (kX12_holds 53 rfl) rfl rfl rfl ?_
          refine X_iload (n := 155) 0 (kX12_holds 54 rfl) rfl rfl ?_
          refine X_iload_n (n := 156) 5 (kX12_holds 55 rfl) rfl rfl rfl ?_
          refine X_callVB (n := 159) (As := [.int (S.1 (rf a0 14) (((276 : Int32) + ((4 : Int32) * i1)) + (2 : Int32)).toNatClampNeg), .int i2]) (st := []) (kX12_holds 56 rfl) rfl (hr a0 (S.1 (rf a0 14) (((276 : Int32) + ((4 : Int32) * i1)) + (2 : Int32)).toNatClampNeg) i2 S21 hk0) (by omega) ml_X12_445 mf_X12_holds rfl hk0 xf_X12 rfl (Nat.le_of_ble_eq_true rfl) (fun r23 S24 hq => ?_)
          try dsimp only
          refine X_bz (n := 162) (tgt := 166) (kX12_holds 57 rfl) rfl rfl (fun h25 => ?_) (fun h25 => ?_)
          · refine X_iconst (n := 163) (v := 1) (kX12_holds 58 rfl) rfl (by decide) ?_
            refine X_goto (tgt := 167) (kX12_holds 59 rfl) rfl ?_
            exact X_zret (b := true) rfl (kX12_holds 61 rfl)
          · refine X_iconst (n := 167) (v := 0) (kX12_holds 60 rfl) rfl (by decide) ?_
            exact X_zret (b := false) rfl (kX12_holds 61 rfl)
      · refine X_ite (fun hc60 => ?_) (fun nc60 => ?_)
        · refine X_look (tgt := 168) (kX12_holds 24 rfl) (by decide) (by rw [hc60] <;> rfl) rfl ?_
          refine X_aload_n (n := 169) 3 (kX12_holds 62 rfl) rfl rfl rfl ?_
          refine X_aload_n (n := 170) 3 (kX12_holds 63 rfl) rfl rfl rfl ?_
          refine X_iload_n (n := 171) 5 (kX12_holds 64 rfl) rfl rfl rfl ?_
          refine X_callVI (n := 174) (As := [.int i2]) (st := [.ref a0]) (kX12_holds 65 rfl) rfl (w_X12_worn hk0) (by omega) ml_X12_266 mf_X12_worn rfl hk0 xf_X12 rfl (Nat.le_of_ble_eq_true rfl) (fun r26 S27 hq => ?_)
          try dsimp only
          refine X_callVI (n := 177) (As := [.int r26]) (st := []) (kX12_holds 66 rfl) rfl (w_X12_sumAt hk0) (by omega) ml_X12_269 mf_X12_sumAt rfl hk0 xf_X12 rfl (Nat.le_of_ble_eq_true rfl) (fun r28 S29 hq => ?_)
          try dsimp only
          refine X_if_ne (n := 180) (tgt := 184) (kX12_holds 67 rfl) rfl rfl (fun h30 => ?_) (fun h30 => ?_)
          · refine X_iconst (n := 181) (v := 1) (kX12_holds 68 rfl) rfl (by decide) ?_
            refine X_goto (tgt := 185) (kX12_holds 69 rfl) rfl ?_
            exact X_zret (b := true) rfl (kX12_holds 71 rfl)
          · refine X_iconst (n := 185) (v := 0) (kX12_holds 70 rfl) rfl (by decide) ?_
            exact X_zret (b := false) rfl (kX12_holds 71 rfl)
        · refine X_ite (fun hc61 => ?_) (fun nc61 => ?_)
          · refine X_look (tgt := 186) (kX12_holds 24 rfl) (by decide) (by rw [hc61] <;> rfl) rfl ?_
            refine X_aload_n (n := 187) 3 (kX12_holds 72 rfl) rfl rfl rfl ?_
            refine X_getR (n := 190) xf_X12 hk0 (by decide) fl_X12_13 rfl (kX12_holds 73 rfl) rfl ?_
            refine X_sipush (n := 193) (v := 151) (kX12_holds 74 rfl) rfl (by decide) ?_
            refine X_iload_n (n := 194) 5 (kX12_holds 75 rfl) rfl rfl rfl ?_
            refine X_iadd (n := 195) (kX12_holds 76 rfl) rfl ?_
            refine X_iald (n := 196) (kt_12_14 hk0) (kX12_holds 77 rfl) rfl (fun h32 => ?_)
            refine X_iload_n (n := 197) 5 (kX12_holds 78 rfl) rfl rfl rfl ?_
            refine X_ic_ne (n := 200) (tgt := 204) (kX12_holds 79 rfl) rfl rfl (fun h31 => ?_) (fun h31 => ?_)
            · refine X_iconst (n := 201) (v := 1) (kX12_holds 80 rfl) rfl (by decide) ?_
              refine X_goto (tgt := 205) (kX12_holds 81 rfl) rfl ?_
              exact X_zret (b := true) rfl (kX12_holds 83 rfl)
            · refine X_iconst (n := 205) (v := 0) (kX12_holds 82 rfl) rfl (by decide) ?_
              exact X_zret (b := false) rfl (kX12_holds 83 rfl)
          · refine X_ite (fun hc62 => ?_) (fun nc62 => ?_)
            · refine X_look (tgt := 206) (kX12_holds 24 rfl) (by decide) (by rw [hc62] <;> rfl) rfl ?_
              refine X_aload_n (n := 207) 3 (kX12_holds 84 rfl) rfl rfl rfl ?_
              refine X_getR (n := 210) xf_X12 hk0 (by decide) fl_X12_13 rfl (kX12_holds 85 rfl) rfl ?_
              refine X_sipush (n := 213) (v := 145) (kX12_holds 86 rfl) rfl (by decide) ?_
              refine X_iload_n (n := 214) 5 (kX12_holds 87 rfl) rfl rfl rfl ?_
              refine X_iadd (n := 215) (kX12_holds 88 rfl) rfl ?_
              refine X_iald (n := 216) (kt_12_14 hk0) (kX12_holds 89 rfl) rfl (fun h34 => ?_)
              refine X_iload (n := 218) 1 (kX12_holds 90 rfl) rfl rfl ?_
              refine X_ic_ne (n := 221) (tgt := 225) (kX12_holds 91 rfl) rfl rfl (fun h33 => ?_) (fun h33 => ?_)
              · refine X_iconst (n := 222) (v := 1) (kX12_holds 92 rfl) rfl (by decide) ?_
                refine X_goto (tgt := 226) (kX12_holds 93 rfl) rfl ?_
                exact X_zret (b := true) rfl (kX12_holds 95 rfl)
              · refine X_iconst (n := 226) (v := 0) (kX12_holds 94 rfl) rfl (by decide) ?_
                exact X_zret (b := false) rfl (kX12_holds 95 rfl)
            · refine X_ite (fun hc63 => ?_) (fun nc63 => ?_)
              · refine X_look (tgt := 227) (kX12_holds 24 rfl) (by decide) (by rw [hc63] <;> rfl) rfl ?_
                refine X_aload_n (n := 228) 3 (kX12_holds 96 rfl) rfl rfl rfl ?_
                refine X_getR (n := 231) xf_X12 hk0 (by decide) fl_X12_13 rfl (kX12_holds 97 rfl) rfl ?_
                refine X_aload_n (n := 232) 3 (kX12_holds 98 rfl) rfl rfl rfl ?_
                refine X_iload_n (n := 233) 5 (kX12_holds 99 rfl) rfl rfl rfl ?_
                refine X_callVI (n := 236) (As := [.int i2]) (st := [.ref (rf a0 14)]) (kX12_holds_1 0 rfl) rfl (w_X12_worn hk0) (by omega) ml_X12_266 mf_X12_worn rfl hk0 xf_X12 rfl (Nat.le_of_ble_eq_true rfl) (fun r35 S36 hq => ?_)
                try dsimp only
                refine X_iload (n := 238) 1 (kX12_holds_1 1 rfl) rfl rfl ?_
                refine X_iadd (n := 239) (kX12_holds_1 2 rfl) rfl ?_
                refine X_iald (n := 240) (kt_12_14 hk0) (kX12_holds_1 3 rfl) rfl (fun h38 => ?_)
                refine X_if_le (n := 243) (tgt := 247) (kX12_holds_1 4 rfl) rfl rfl (fun h37 => ?_) (fun h37 => ?_)
                · refine X_iconst (n := 248) (v := 0) (kX12_holds_1 7 rfl) rfl (by decide) ?_
                  exact X_zret (b := false) rfl (kX12_holds_1 8 rfl)
                · refine X_iconst (n := 244) (v := 1) (kX12_holds_1 5 rfl) rfl (by decide) ?_
                  refine X_goto (tgt := 248) (kX12_holds_1 6 rfl) rfl ?_
                  exact X_zret (b := true) rfl (kX12_holds_1 8 rfl)
              · refine X_look (tgt := 249) (kX12_holds 24 rfl) (by decide) (by show Op.lookupswitch.offset [(1, 66), (2, 82), (3, 108), (60, 134), (61, 152), (62, 172), (63, 193)] 215 _ = _; rw [lv_osw nc1 (by decide), lv_osw nc2 (by decide), lv_osw nc3 (by decide), lv_osw nc60 (by decide), lv_osw nc61 (by decide), lv_osw nc62 (by decide), lv_osw nc63 (by decide)] <;> rfl) rfl ?_
                refine X_aload_n (n := 250) 3 (kX12_holds_1 9 rfl) rfl rfl rfl ?_
                refine X_aload_n (n := 251) 3 (kX12_holds_1 10 rfl) rfl rfl rfl ?_
                refine X_getR (n := 254) xf_X12 hk0 (by decide) fl_X12_13 rfl (kX12_holds_1 11 rfl) rfl ?_
                refine X_iload_n (n := 255) 2 (kX12_holds_1 12 rfl) rfl rfl rfl ?_
                refine X_iald (n := 256) (kt_12_14 hk0) (kX12_holds_1 13 rfl) rfl (fun h10 => ?_)
                refine X_bipush (n := 258) (v := 50) (kX12_holds_1 14 rfl) rfl (by decide) ?_
                refine X_isub (n := 259) (kX12_holds_1 15 rfl) rfl ?_
                refine X_iload_n (n := 260) 5 (kX12_holds_1 16 rfl) rfl rfl rfl ?_
                refine X_callVI (n := 263) (As := [.int ((S.1 (rf a0 14) ((276 : Int32) + ((4 : Int32) * i1)).toNatClampNeg) - (50 : Int32)), .int i2]) (st := []) (kX12_holds_1 17 rfl) rfl (w_X12_valueOf hk0) (by omega) ml_X12_448 mf_X12_valueOf rfl hk0 xf_X12 rfl (Nat.le_of_ble_eq_true rfl) (fun r1 S2 hq => ?_)
                try dsimp only
                refine X_istore (n := 265) (L1 := [(6, .int r1), (5, .int (S.1 (rf a0 14) (((276 : Int32) + ((4 : Int32) * i1)) + (2 : Int32)).toNatClampNeg)), (4, .int (S.1 (rf a0 14) (((276 : Int32) + ((4 : Int32) * i1)) + (1 : Int32)).toNatClampNeg)), (3, .int ((276 : Int32) + ((4 : Int32) * i1))), (0, .ref a0), (1, .int i1), (2, .int i2)]) (kX12_holds_1 18 rfl) rfl (Nat.le_of_ble_eq_true rfl) rfl ?_
                refine X_aload_n (n := 266) 4 (kX12_holds_1 19 rfl) rfl rfl rfl ?_
                refine X_getR (n := 269) xf_X12 hk0 (by decide) fl_X12_13 rfl (kX12_holds_1 20 rfl) rfl ?_
                refine X_iload_n (n := 270) 3 (kX12_holds_1 21 rfl) rfl rfl rfl ?_
                refine X_iconst (n := 271) (v := 3) (kX12_holds_1 22 rfl) rfl (by decide) ?_
                refine X_iadd (n := 272) (kX12_holds_1 23 rfl) rfl ?_
                refine X_iald (n := 273) (kt_12_14 hk0) (kX12_holds_1 24 rfl) rfl (fun h9 => ?_)
                refine X_bipush (n := 275) (v := 60) (kX12_holds_1 25 rfl) rfl (by decide) ?_
                refine X_ic_ne (n := 278) (tgt := 293) (kX12_holds_1 26 rfl) rfl rfl (fun h3 => ?_) (fun h3 => ?_)
                · refine X_iload (n := 280) 0 (kX12_holds_1 27 rfl) rfl rfl ?_
                  refine X_iload (n := 282) 1 (kX12_holds_1 28 rfl) rfl rfl ?_
                  refine X_ic_ge (n := 285) (tgt := 289) (kX12_holds_1 29 rfl) rfl rfl (fun h4 => ?_) (fun h4 => ?_)
                  · refine X_iconst (n := 290) (v := 0) (kX12_holds_1 32 rfl) rfl (by decide) ?_
                    refine X_goto (tgt := 333) (kX12_holds_1 33 rfl) rfl ?_
                    exact X_zret (b := false) rfl (kX12_holds_1 55 rfl)
                  · refine X_iconst (n := 286) (v := 1) (kX12_holds_1 30 rfl) rfl (by decide) ?_
                    refine X_goto (tgt := 333) (kX12_holds_1 31 rfl) rfl ?_
                    exact X_zret (b := true) rfl (kX12_holds_1 55 rfl)
                · refine X_aload_n (n := 294) 4 (kX12_holds_1 34 rfl) rfl rfl rfl ?_
                  refine X_getR (n := 297) xf_X12 hk0 (by decide) fl_X12_13 rfl (kX12_holds_1 35 rfl) rfl ?_
                  refine X_iload_n (n := 298) 3 (kX12_holds_1 36 rfl) rfl rfl rfl ?_
                  refine X_iconst (n := 299) (v := 3) (kX12_holds_1 37 rfl) rfl (by decide) ?_
                  refine X_iadd (n := 300) (kX12_holds_1 38 rfl) rfl ?_
                  refine X_iald (n := 301) (kt_12_14 hk0) (kX12_holds_1 39 rfl) rfl (fun h8 => ?_)
                  refine X_bipush (n := 303) (v := 61) (kX12_holds_1 40 rfl) rfl (by decide) ?_
                  refine X_ic_ne (n := 306) (tgt := 321) (kX12_holds_1 41 rfl) rfl rfl (fun h5 => ?_) (fun h5 => ?_)
                  · refine X_iload (n := 308) 0 (kX12_holds_1 42 rfl) rfl rfl ?_
                    refine X_iload (n := 310) 1 (kX12_holds_1 43 rfl) rfl rfl ?_
                    refine X_ic_ne (n := 313) (tgt := 317) (kX12_holds_1 44 rfl) rfl rfl (fun h6 => ?_) (fun h6 => ?_)
                    · refine X_iconst (n := 314) (v := 1) (kX12_holds_1 45 rfl) rfl (by decide) ?_
                      refine X_goto (tgt := 333) (kX12_holds_1 46 rfl) rfl ?_
                      exact X_zret (b := true) rfl (kX12_holds_1 55 rfl)
                    · refine X_iconst (n := 318) (v := 0) (kX12_holds_1 47 rfl) rfl (by decide) ?_
                      refine X_goto (tgt := 333) (kX12_holds_1 48 rfl) rfl ?_
                      exact X_zret (b := false) rfl (kX12_holds_1 55 rfl)
                  · refine X_iload (n := 323) 0 (kX12_holds_1 49 rfl) rfl rfl ?_
                    refine X_iload (n := 325) 1 (kX12_holds_1 50 rfl) rfl rfl ?_
                    refine X_ic_le (n := 328) (tgt := 332) (kX12_holds_1 51 rfl) rfl rfl (fun h7 => ?_) (fun h7 => ?_)
                    · refine X_iconst (n := 333) (v := 0) (kX12_holds_1 54 rfl) rfl (by decide) ?_
                      exact X_zret (b := false) rfl (kX12_holds_1 55 rfl)
                    · refine X_iconst (n := 329) (v := 1) (kX12_holds_1 52 rfl) rfl (by decide) ?_
                      refine X_goto (tgt := 333) (kX12_holds_1 53 rfl) rfl ?_
                      exact X_zret (b := true) rfl (kX12_holds_1 55 rfl)
def rX12_holds : Nat → Nat → Int32 → Int32 → XS → Option (Bool × XS)
  | 0, _, _, _, _ => none
  | n + 1, a0, i1, i2, S => f_X12_holds (rX12_holds n) a0 i1 i2 S
theorem wr_X12_holds {l : Launch} {g : XG} : ∀ (n : Nat) (a0 : Nat) (i1 : Int32) (i2 : Int32) (S : XS), kd a0 = 12 → Cl φB l g (30 + 1 * n) mX12_holds [.ref a0, .int i1, .int i2] S (rX12_holds n a0 i1 i2 S) := by
  intro n
  induction n with
  | zero => intro a0 i1 i2 S h0 q hq; cases hq
  | succ n ih => intro a0 i1 i2 S h0; exact w_X12_holds (d := 30 + 1 * n) (by omega) ih h0
