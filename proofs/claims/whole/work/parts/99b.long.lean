/-! longs as naturals -/
def ll (n : Nat) : Int64 := Int64.ofNat n
def tn (x : Int64) : Nat := x.toBitVec.toNat
theorem tn_ll {n : Nat} (h : n < 18446744073709551616) : tn (ll n) = n := by
  unfold tn ll
  rw [Int64.toBitVec_ofNat', BitVec.toNat_ofNat]
  exact Nat.mod_eq_of_lt h
theorem tn_inj {x y : Int64} (h : tn x = tn y) : x = y := Int64.toBitVec_inj.1 (BitVec.eq_of_toNat_eq h)
theorem tn_lt (x : Int64) : tn x < 18446744073709551616 := x.toBitVec.isLt
theorem ll_of {x : Int64} {n : Nat} (h : tn x = n) : x = ll n := by
  have h1 := tn_lt x
  exact tn_inj (by rw [tn_ll (by omega)]; exact h)
theorem tn_or (x y : Int64) : tn (x ||| y) = tn x ||| tn y := by
  unfold tn
  rw [Int64.toBitVec_or, BitVec.toNat_or]
theorem tn_and (x y : Int64) : tn (x &&& y) = tn x &&& tn y := by
  unfold tn
  rw [Int64.toBitVec_and, BitVec.toNat_and]
theorem tn_xor (x y : Int64) : tn (x ^^^ y) = tn x ^^^ tn y := by
  unfold tn
  rw [Int64.toBitVec_xor, BitVec.toNat_xor]
theorem shl_amt : ∀ k, k < 64 → ((oo k).toInt64 &&& 63).toBitVec.smod 64 = BitVec.ofNat 64 k := by decide +kernel
theorem shr_amt : ∀ k, k < 64 → ((oo k).toInt64.toUInt64 &&& Int64.toUInt64 63).toNat = k := by decide +kernel
theorem tn_shl {x : Int64} {k : Nat} (hk : k < 64) : tn (shl64 x (oo k)) = tn x * 2 ^ k % 18446744073709551616 := by
  have e := shl_amt k hk
  unfold tn shl64
  rw [Int64.toBitVec_shiftLeft, e, BitVec.shiftLeft_eq', BitVec.toNat_shiftLeft, BitVec.toNat_ofNat, Nat.mod_eq_of_lt (show k < 2 ^ 64 by omega), Nat.shiftLeft_eq]
theorem tn_ushr {x : Int64} {k : Nat} (hk : k < 64) : tn (ushr64 x (oo k)) = tn x / 2 ^ k := by
  have e := shr_amt k hk
  show (x.toUInt64 >>> ((oo k).toInt64.toUInt64 &&& Int64.toUInt64 63)).toNat = _
  rw [UInt64.toNat_shiftRight, e, Nat.mod_eq_of_lt hk, Nat.shiftRight_eq_div_pow]
  rfl
theorem ll_oo {k : Nat} (h : k ≤ 2147483647) : (oo k).toInt64 = ll k := Int32.toInt64_ofNat' (by
  rw [Int32.toInt_maxValue]
  omega)
theorem oo_ll (n : Nat) : (ll n).toInt32 = oo n := Int64.toInt32_ofNat'
theorem ll_int {n : Nat} (h : n < 9223372036854775808) : (ll n).toInt = n := Int64.toInt_ofNat_of_lt h
theorem ll_eq {n m : Nat} (h1 : n < 9223372036854775808) (h2 : m < 9223372036854775808) : (ll n = ll m) = (n = m) := propext ⟨fun h => by
  have h3 := congrArg Int64.toInt h
  rw [ll_int h1, ll_int h2] at h3
  exact Int.ofNat.inj h3, fun h => by rw [h]⟩
theorem ll_le {n m : Nat} (h1 : n < 9223372036854775808) (h2 : m < 9223372036854775808) : (ll n ≤ ll m) = (n ≤ m) := propext (by
  rw [Int64.le_iff_toInt_le, ll_int h1, ll_int h2]
  omega)
theorem ll_add (n m : Nat) : ll n + ll m = ll (n + m) := (Int64.ofNat_add n m).symm
theorem ll_mul (n m : Nat) : ll n * ll m = ll (n * m) := (Int64.ofNat_mul n m).symm
theorem ll_sub {n m : Nat} (h : m ≤ n) : ll n - ll m = ll (n - m) := (Int64.ofNat_sub n m h).symm
theorem ll_div {n m : Nat} (h1 : n < 9223372036854775808) (h2 : m < 9223372036854775808) : ll n / ll m = ll (n / m) := (Int64.ofNat_div h1 h2).symm
theorem ll_rem {n m : Nat} (h1 : n < 9223372036854775808) (h2 : m < 9223372036854775808) : rem64 (ll n) (ll m) = ll (n % m) := by
  have h3 : n / m * m ≤ n := Nat.div_mul_le_self n m
  unfold rem64
  rw [ll_div h1 h2, ll_mul, ll_sub h3]
  congr 1
  have := Nat.div_add_mod n m
  rw [Nat.mul_comm] at this
  omega
theorem half_eq {x y : Nat} (h1 : x / 2 = y / 2) (h2 : x % 2 = y % 2) : x = y := by omega
theorem and1 (x : Nat) : x &&& 1 = x % 2 := Nat.and_two_pow_sub_one_eq_mod x 1
theorem and255 (x : Nat) : x &&& 255 = x % 256 := Nat.and_two_pow_sub_one_eq_mod x 8
/-! words -/
def k8 : List Nat → Nat
  | [] => 0
  | a :: l => k8 l * 256 + (96 + a)
def k27 : List Nat → Nat
  | [] => 0
  | a :: l => k27 l * 27 + a
def isLs (l : List Nat) : Prop := l.length ≤ 7 ∧ ∀ a ∈ l, 1 ≤ a ∧ a ≤ 26
theorem isWd.ls {l : List Nat} (h : isWd l) : isLs l := ⟨h.2.1, h.2.2⟩
theorem isLs.t {a : Nat} {l : List Nat} (h : isLs (a :: l)) : isLs l ∧ 1 ≤ a ∧ a ≤ 26 := ⟨⟨by have := h.1; rw [List.length_cons] at this; omega, fun b hb => h.2 b (List.mem_cons_of_mem a hb)⟩, h.2 a (List.mem_cons_self ..)⟩
theorem k8_lt : ∀ (l : List Nat) (n : Nat), l.length ≤ n → (∀ a ∈ l, 1 ≤ a ∧ a ≤ 26) → k8 l < 256 ^ n := by
  intro l
  induction l with
  | nil => intro n _ _; exact Nat.pow_pos (by decide)
  | cons a l ih =>
    intro n hn ha
    rw [List.length_cons] at hn
    obtain ⟨n, rfl⟩ : ∃ n', n = n' + 1 := ⟨n - 1, by omega⟩
    have h1 := ih n (by omega) (fun b hb => ha b (List.mem_cons_of_mem a hb))
    have h2 := ha a (List.mem_cons_self ..)
    rw [k8, Nat.pow_succ]
    omega
theorem k27_lt : ∀ (l : List Nat) (n : Nat), l.length ≤ n → (∀ a ∈ l, 1 ≤ a ∧ a ≤ 26) → k27 l < 27 ^ n := by
  intro l
  induction l with
  | nil => intro n _ _; exact Nat.pow_pos (by decide)
  | cons a l ih =>
    intro n hn ha
    rw [List.length_cons] at hn
    obtain ⟨n, rfl⟩ : ∃ n', n = n' + 1 := ⟨n - 1, by omega⟩
    have h1 := ih n (by omega) (fun b hb => ha b (List.mem_cons_of_mem a hb))
    have h2 := ha a (List.mem_cons_self ..)
    rw [k27, Nat.pow_succ]
    omega
theorem k8_b {l : List Nat} (h : isLs l) : k8 l < 72057594037927936 := k8_lt l 7 h.1 h.2
theorem k27_b {l : List Nat} (h : isLs l) : k27 l < 10460353203 := k27_lt l 7 h.1 h.2
theorem or_low {a b k : Nat} (h : b < 2 ^ k) : a * 2 ^ k ||| b = a * 2 ^ k + b := by
  rw [← Nat.shiftLeft_eq, Nat.shiftLeft_add_eq_or_of_lt h]
set_option maxRecDepth 100000 in
theorem pk8_k : ∀ l : List Nat, isLs l → pk8 l = ll (k8 l) := by
  intro l
  induction l with
  | nil => intro _; rfl
  | cons a l ih =>
    intro h
    obtain ⟨h1, h2, h3⟩ := h.t
    have h4 := k8_b h
    rw [k8] at h4
    apply ll_of
    rw [pk8, ih h1, k8, tn_or, show (8 : Int32) = oo 8 from rfl, tn_shl (show 8 < 64 by decide), tn_ll (show k8 l < 18446744073709551616 by omega), ll_oo (show 96 + a ≤ 2147483647 by omega), tn_ll (show 96 + a < 18446744073709551616 by omega)]
    have e0 : k8 l * 256 < 18446744073709551616 := by omega
    have e : k8 l * 2 ^ 8 % 18446744073709551616 = k8 l * 2 ^ 8 := Nat.mod_eq_of_lt e0
    exact (congrArg (fun z => z ||| (96 + a)) e).trans (or_low (k := 8) (show 96 + a < 2 ^ 8 by omega))
theorem pk27_k : ∀ l : List Nat, isLs l → pk27 l = ll (k27 l) := by
  intro l
  induction l with
  | nil => intro _; rfl
  | cons a l ih =>
    intro h
    obtain ⟨h1, h2, h3⟩ := h.t
    rw [pk27, ih h1, k27, ll_oo (by omega), show (27 : Int64) = ll 27 from rfl, show (96 : Int64) = ll 96 from rfl, ll_mul, ll_add, ll_sub (by omega)]
    congr 1
    omega
theorem k8_inj : ∀ (l m : List Nat), isLs l → isLs m → k8 l = k8 m → l = m := by
  intro l
  induction l with
  | nil =>
    intro m _ hm h
    cases m with
    | nil => rfl
    | cons b m =>
      rw [k8, k8] at h
      omega
  | cons a l ih =>
    intro m hl hm h
    obtain ⟨h1, h2, h3⟩ := hl.t
    cases m with
    | nil =>
      rw [k8, k8] at h
      omega
    | cons b m =>
      obtain ⟨g1, g2, g3⟩ := hm.t
      rw [k8, k8] at h
      rw [ih m h1 g1 (by omega), show a = b by omega]
theorem k27_inj : ∀ (l m : List Nat), isLs l → isLs m → k27 l = k27 m → l = m := by
  intro l
  induction l with
  | nil =>
    intro m _ hm h
    cases m with
    | nil => rfl
    | cons b m =>
      obtain ⟨g1, g2, g3⟩ := hm.t
      rw [k27, k27] at h
      omega
  | cons a l ih =>
    intro m hl hm h
    obtain ⟨h1, h2, h3⟩ := hl.t
    cases m with
    | nil =>
      rw [k27, k27] at h
      omega
    | cons b m =>
      obtain ⟨g1, g2, g3⟩ := hm.t
      rw [k27, k27] at h
      rw [ih m h1 g1 (by omega), show a = b by omega]
theorem pk8_eq {l m : List Nat} (h1 : isLs l) (h2 : isLs m) : (pk8 l = pk8 m) = (l = m) := by
  have a := k8_b h1
  have b := k8_b h2
  rw [pk8_k l h1, pk8_k m h2, ll_eq (by omega) (by omega)]
  exact propext ⟨k8_inj l m h1 h2, fun h => by rw [h]⟩
theorem pk27_eq {l m : List Nat} (h1 : isLs l) (h2 : isLs m) : (pk27 l = pk27 m) = (l = m) := by
  have a := k27_b h1
  have b := k27_b h2
  rw [pk27_k l h1, pk27_k m h2, ll_eq (by omega) (by omega)]
  exact propext ⟨k27_inj l m h1 h2, fun h => by rw [h]⟩
/-- the byte of a letter, counted from the last -/
def byN (l : List Nat) (m : Nat) : Nat := if m < l.length then 96 + l.getD m 0 else 0
theorem k8_by : ∀ (m : Nat) (l : List Nat), isLs l → k8 l / 256 ^ m % 256 = byN l m := by
  intro m
  induction m with
  | zero =>
    intro l h
    cases l with
    | nil => rfl
    | cons a l =>
      obtain ⟨h1, h2, h3⟩ := h.t
      rw [k8, Nat.pow_zero, Nat.div_one, byN, if_pos (by rw [List.length_cons]; omega)]
      show _ = 96 + a
      omega
  | succ m ih =>
    intro l h
    cases l with
    | nil =>
      rw [k8, Nat.zero_div]
      rfl
    | cons a l =>
      obtain ⟨h1, h2, h3⟩ := h.t
      rw [Nat.pow_succ, Nat.mul_comm, ← Nat.div_div_eq_div_mul, show k8 (a :: l) / 256 = k8 l by rw [k8]; omega, ih l h1]
      unfold byN
      rw [List.length_cons]
      by_cases hm : m < l.length
      · rw [if_pos hm, if_pos (by omega)]
        rfl
      · rw [if_neg hm, if_neg (by omega)]
theorem name_by {l : List Nat} (h : isLs l) {m : Nat} (hm : m < 7) : ((ushr64 (pk8 l) (oo 8 * oo m)) &&& 255).toInt32 = oo (byN l m) := by
  have h1 := k8_b h
  have e : (ushr64 (pk8 l) (oo 8 * oo m)) &&& 255 = ll (byN l m) := by
    apply ll_of
    rw [oo_mul, tn_and, tn_ushr (by omega), pk8_k l h, tn_ll (by omega), show (255 : Int64) = ll 255 from rfl, tn_ll (by decide), and255, Nat.pow_mul]
    exact k8_by m l h
  rw [e, oo_ll]
theorem oo_dec (m : Nat) : oo m + (-1 : Int32) = enc m := by
  cases m with
  | zero => rfl
  | succ m =>
    rw [enc_s]
    show oo (m + 1) + -(1 : Int32) = oo m
    rw [← Int32.sub_eq_add_neg, show (1 : Int32) = oo 1 from rfl, oo_sub (by omega), Nat.add_sub_cancel]
