/-! rows read and written with the index looked at first -/
def gat (S : XS) (a : Nat) (i : Int32) : Int32 := if i < 0 ∨ ln a ≤ i.toNatClampNeg then 0 else S.1 a i.toNatClampNeg
def pat (S : XS) (a : Nat) (i v : Int32) : XS := if i < 0 ∨ ln a ≤ i.toNatClampNeg then S else sI S a i.toNatClampNeg v
theorem ln_le (a : Nat) : ln a ≤ 4096 := by
  by_cases h : a < KK
  · have := (by decide +kernel : ∀ b, b < KK → ln b ≤ 4096) a h
    exact this
  · unfold ln
    rw [List.getD_eq_getElem?_getD, List.getElem?_eq_none (by exact Nat.le_of_not_lt h)]
    exact Nat.zero_le _
theorem i_nn {i : Int32} (h : ¬ i < 0) : i.toInt = (i.toNatClampNeg : Int) := by
  have h0 : (0 : Int) ≤ i.toInt := by
    have := Int32.not_lt.mp h
    simpa using Int32.le_iff_toInt_le.mp this
  show i.toInt = ((i.toInt.toNat : Nat) : Int)
  omega
theorem ln_cmp {a : Nat} {i : Int32} (h : ¬ i < 0) : Int32.ofNat (ln a) ≤ i ↔ ln a ≤ i.toNatClampNeg := by
  have h1 := ln_le a
  have h2 : (Int32.ofNat (ln a)).toInt = (ln a : Int) := Int32.toInt_ofNat_of_lt (by omega)
  rw [Int32.le_iff_toInt_le, h2, i_nn h]
  omega

def f_X11_at (a0 : Nat) (i1 : Int32) (S : XS) : Option (Int32 × XS) := (if i1 < 0 then some (0, S) else (if (Int32.ofNat (ln a0)) ≤ i1 then some (0, S) else (if i1 < 0 ∨ ln a0 ≤ i1.toNatClampNeg then none else some ((S.1 a0 i1.toNatClampNeg), S))))
set_option maxHeartbeats 4000000 in
set_option maxRecDepth 100000 in
theorem w_X11_at {l : Launch} {g : XG} {a0 : Nat} {i1 : Int32} {S : XS} (h0 : kd a0 = 20) : Cl φI l g 1 mX11_at [.ref a0, .int i1] S (f_X11_at a0 i1 S) := by
  refine Cl.of (by decide +kernel) (Nat.le_of_ble_eq_true rfl) ?_
  unfold f_X11_at
  show X _ _ _ _ _ 0 [(0, .ref a0), (1, .int i1)] [] S _
  refine X_iload_n (n := 1) 1 (kX11_at 0 rfl) rfl rfl rfl ?_
  refine X_if_lt (n := 4) (tgt := 16) (kX11_at 1 rfl) rfl rfl (fun h1 => ?_) (fun h1 => ?_)
  · refine X_iconst (n := 17) (v := 0) (kX11_at 10 rfl) rfl (by decide) ?_
    exact X_iret rfl (kX11_at 11 rfl)
  · refine X_iload_n (n := 5) 1 (kX11_at 2 rfl) rfl rfl rfl ?_
    refine X_aload_n (n := 6) 0 (kX11_at 3 rfl) rfl rfl rfl ?_
    refine X_alenI (n := 7) (v := (Int32.ofNat (ln a0))) h0 (kX11_at 4 rfl) rfl rfl ?_
    refine X_ic_ge (n := 10) (tgt := 16) (kX11_at 5 rfl) rfl rfl (fun h2 => ?_) (fun h2 => ?_)
    · refine X_iconst (n := 17) (v := 0) (kX11_at 10 rfl) rfl (by decide) ?_
      exact X_iret rfl (kX11_at 11 rfl)
    · refine X_aload_n (n := 11) 0 (kX11_at 6 rfl) rfl rfl rfl ?_
      refine X_iload_n (n := 12) 1 (kX11_at 7 rfl) rfl rfl rfl ?_
      refine X_iald (n := 13) h0 (kX11_at 8 rfl) rfl (fun h3 => ?_)
      refine X_goto (tgt := 17) (kX11_at 9 rfl) rfl ?_
      exact X_iret rfl (kX11_at 11 rfl)
def f_X11_put (a0 : Nat) (i1 : Int32) (i2 : Int32) (S : XS) : Option (XS) := (if i1 < 0 then some S else (if (Int32.ofNat (ln a0)) ≤ i1 then some S else (if i1 < 0 ∨ ln a0 ≤ i1.toNatClampNeg then none else some (sI S a0 i1.toNatClampNeg i2))))
set_option maxHeartbeats 4000000 in
set_option maxRecDepth 100000 in
theorem w_X11_put {l : Launch} {g : XG} {a0 : Nat} {i1 : Int32} {i2 : Int32} {S : XS} (h0 : kd a0 = 20) : Cl φV l g 1 mX11_put [.ref a0, .int i1, .int i2] S (f_X11_put a0 i1 i2 S) := by
  refine Cl.of (by decide +kernel) (Nat.le_of_ble_eq_true rfl) ?_
  unfold f_X11_put
  show X _ _ _ _ _ 0 [(0, .ref a0), (1, .int i1), (2, .int i2)] [] S _
  refine X_iload_n (n := 1) 1 (kX11_put 0 rfl) rfl rfl rfl ?_
  refine X_if_lt (n := 4) (tgt := 14) (kX11_put 1 rfl) rfl rfl (fun h1 => ?_) (fun h1 => ?_)
  · exact X_vret rfl (kX11_put 10 rfl)
  · refine X_iload_n (n := 5) 1 (kX11_put 2 rfl) rfl rfl rfl ?_
    refine X_aload_n (n := 6) 0 (kX11_put 3 rfl) rfl rfl rfl ?_
    refine X_alenI (n := 7) (v := (Int32.ofNat (ln a0))) h0 (kX11_put 4 rfl) rfl rfl ?_
    refine X_ic_ge (n := 10) (tgt := 14) (kX11_put 5 rfl) rfl rfl (fun h2 => ?_) (fun h2 => ?_)
    · exact X_vret rfl (kX11_put 10 rfl)
    · refine X_aload_n (n := 11) 0 (kX11_put 6 rfl) rfl rfl rfl ?_
      refine X_iload_n (n := 12) 1 (kX11_put 7 rfl) rfl rfl rfl ?_
      refine X_iload_n (n := 13) 2 (kX11_put 8 rfl) rfl rfl rfl ?_
      refine X_iast (n := 14) h0 (kX11_put 9 rfl) rfl (fun h3 => ?_)
      exact X_vret rfl (kX11_put 10 rfl)
def f_X11_copy (a0 : Nat) (a1 : Nat) (S : XS) : Option (XS) := (if (if (Int32.ofNat (ln a1)) < (Int32.ofNat (ln a0)) then (Int32.ofNat (ln a1)) else (Int32.ofNat (ln a0))) < 0 ∨ ln a0 < (if (Int32.ofNat (ln a1)) < (Int32.ofNat (ln a0)) then (Int32.ofNat (ln a1)) else (Int32.ofNat (ln a0))).toNatClampNeg ∨ ln a1 < (if (Int32.ofNat (ln a1)) < (Int32.ofNat (ln a0)) then (Int32.ofNat (ln a1)) else (Int32.ofNat (ln a0))).toNatClampNeg then none else some (cpI S a0 a1 (if (Int32.ofNat (ln a1)) < (Int32.ofNat (ln a0)) then (Int32.ofNat (ln a1)) else (Int32.ofNat (ln a0))).toNatClampNeg))
set_option maxHeartbeats 4000000 in
set_option maxRecDepth 100000 in
theorem w_X11_copy {l : Launch} {g : XG} {a0 : Nat} {a1 : Nat} {S : XS} (h0 : kd a0 = 20) (h1 : kd a1 = 20) : Cl φV l g 1 mX11_copy [.ref a0, .ref a1] S (f_X11_copy a0 a1 S) := by
  refine Cl.of (by decide +kernel) (Nat.le_of_ble_eq_true rfl) ?_
  unfold f_X11_copy
  show X _ _ _ _ _ 0 [(0, .ref a0), (1, .ref a1)] [] S _
  refine X_aload_n (n := 1) 0 (kX11_copy 0 rfl) rfl rfl rfl ?_
  refine X_iconst (n := 2) (v := 0) (kX11_copy 1 rfl) rfl (by decide) ?_
  refine X_aload_n (n := 3) 1 (kX11_copy 2 rfl) rfl rfl rfl ?_
  refine X_iconst (n := 4) (v := 0) (kX11_copy 3 rfl) rfl (by decide) ?_
  refine X_aload_n (n := 5) 0 (kX11_copy 4 rfl) rfl rfl rfl ?_
  refine X_alenI (n := 6) (v := (Int32.ofNat (ln a0))) h0 (kX11_copy 5 rfl) rfl rfl ?_
  refine X_aload_n (n := 7) 1 (kX11_copy 6 rfl) rfl rfl rfl ?_
  refine X_alenI (n := 8) (v := (Int32.ofNat (ln a1))) h1 (kX11_copy 7 rfl) rfl rfl ?_
  refine X_mmin (n := 11) (kX11_copy 8 rfl) rfl (by decide) ml_X11_371 ms1_min ms2 ms3_min (Nat.le_of_ble_eq_true rfl) ?_
  refine X_copyI (n := 14) h0 h1 (kX11_copy 9 rfl) rfl (by decide) ml_X11_378 mc_n mc_s mc_i (Nat.le_of_ble_eq_true rfl) (fun h1 => ?_)
  exact X_vret rfl (kX11_copy 10 rfl)
theorem at_spec (a : Nat) (i : Int32) (S : XS) : f_X11_at a i S = some (gat S a i, S) := by
  unfold f_X11_at gat
  by_cases h : i < 0
  · rw [if_pos h, if_pos (Or.inl h)]
  · rw [if_neg h]
    by_cases h2 : ln a ≤ i.toNatClampNeg
    · rw [if_pos ((ln_cmp h).mpr h2), if_pos (Or.inr h2)]
    · rw [if_neg (fun q => h2 ((ln_cmp h).mp q)), if_neg (fun q => q.elim h h2), if_neg (fun q => q.elim h h2)]
theorem p_X11_at {l : Launch} {g : XG} {a : Nat} {i : Int32} {S : XS} (h : kd a = 20) : Cl φI l g 1 mX11_at [.ref a, .int i] S (some (gat S a i, S)) := at_spec a i S ▸ w_X11_at h
theorem put_spec (a : Nat) (i v : Int32) (S : XS) : f_X11_put a i v S = some (pat S a i v) := by
  unfold f_X11_put pat
  by_cases h : i < 0
  · rw [if_pos h, if_pos (Or.inl h)]
  · rw [if_neg h]
    by_cases h2 : ln a ≤ i.toNatClampNeg
    · rw [if_pos ((ln_cmp h).mpr h2), if_pos (Or.inr h2)]
    · rw [if_neg (fun q => h2 ((ln_cmp h).mp q)), if_neg (fun q => q.elim h h2), if_neg (fun q => q.elim h h2)]
theorem p_X11_put {l : Launch} {g : XG} {a : Nat} {i v : Int32} {S : XS} (h : kd a = 20) : Cl φV l g 1 mX11_put [.ref a, .int i, .int v] S (some (pat S a i v)) := put_spec a i v S ▸ w_X11_put h
/-- the whole of the shorter row -/
def cpy (S : XS) (a b : Nat) : XS := cpI S a b (min (ln a) (ln b))
theorem min_i (a b : Nat) : (if Int32.ofNat (ln b) < Int32.ofNat (ln a) then Int32.ofNat (ln b) else Int32.ofNat (ln a)) = Int32.ofNat (min (ln a) (ln b)) := by
  have h1 := ln_le a
  have h2 := ln_le b
  have e1 : (Int32.ofNat (ln a)).toInt = (ln a : Int) := Int32.toInt_ofNat_of_lt (by omega)
  have e2 : (Int32.ofNat (ln b)).toInt = (ln b : Int) := Int32.toInt_ofNat_of_lt (by omega)
  by_cases h : ln b < ln a
  · rw [if_pos (by rw [Int32.lt_iff_toInt_lt, e1, e2]; omega), Nat.min_eq_right (by omega)]
  · rw [if_neg (by rw [Int32.lt_iff_toInt_lt, e1, e2]; omega), Nat.min_eq_left (by omega)]
theorem tn_of {n : Nat} (h : n < 2147483648) : (Int32.ofNat n).toNatClampNeg = n := by
  have e1 : (Int32.ofNat n).toInt = (n : Int) := Int32.toInt_ofNat_of_lt h
  show ((Int32.ofNat n).toInt).toNat = n
  rw [e1]; rfl
theorem nn_of {n : Nat} (h : n < 2147483648) : ¬ (Int32.ofNat n) < 0 := by
  have e1 : (Int32.ofNat n).toInt = (n : Int) := Int32.toInt_ofNat_of_lt h
  rw [Int32.lt_iff_toInt_lt, e1]
  have : (0 : Int32).toInt = 0 := by decide
  omega
theorem copy_spec (a b : Nat) (S : XS) : f_X11_copy a b S = some (cpy S a b) := by
  unfold f_X11_copy cpy
  have h1 := ln_le a
  have h2 := ln_le b
  simp only [min_i]
  rw [if_neg, tn_of (by omega)]
  rw [tn_of (by omega)]
  rintro (h | h | h)
  · exact nn_of (by omega) h
  · omega
  · omega
theorem p_X11_copy {l : Launch} {g : XG} {a b : Nat} {S : XS} (h : kd a = 20) (h' : kd b = 20) : Cl φV l g 1 mX11_copy [.ref a, .ref b] S (some (cpy S a b)) := copy_spec a b S ▸ w_X11_copy h h'
