/-! small naturals as ints -/
def oo (n : Nat) : Int32 := Int32.ofNat n
def nn : Int32 := -1
theorem oo_m1 : (-1 : Int32) = nn := rfl
theorem oo_0 : (0 : Int32) = oo 0 := rfl
theorem oo_1 : (1 : Int32) = oo 1 := rfl
theorem oo_2 : (2 : Int32) = oo 2 := rfl
theorem oo_3 : (3 : Int32) = oo 3 := rfl
theorem oo_4 : (4 : Int32) = oo 4 := rfl
theorem oo_5 : (5 : Int32) = oo 5 := rfl
theorem oo_6 : (6 : Int32) = oo 6 := rfl
theorem oo_7 : (7 : Int32) = oo 7 := rfl
theorem oo_8 : (8 : Int32) = oo 8 := rfl
theorem oo_9 : (9 : Int32) = oo 9 := rfl
theorem oo_10 : (10 : Int32) = oo 10 := rfl
theorem oo_12 : (12 : Int32) = oo 12 := rfl
theorem oo_13 : (13 : Int32) = oo 13 := rfl
theorem oo_14 : (14 : Int32) = oo 14 := rfl
theorem oo_15 : (15 : Int32) = oo 15 := rfl
theorem oo_16 : (16 : Int32) = oo 16 := rfl
theorem oo_17 : (17 : Int32) = oo 17 := rfl
theorem oo_18 : (18 : Int32) = oo 18 := rfl
theorem oo_20 : (20 : Int32) = oo 20 := rfl
theorem oo_24 : (24 : Int32) = oo 24 := rfl
theorem oo_30 : (30 : Int32) = oo 30 := rfl
theorem oo_32 : (32 : Int32) = oo 32 := rfl
theorem oo_36 : (36 : Int32) = oo 36 := rfl
theorem oo_40 : (40 : Int32) = oo 40 := rfl
theorem oo_41 : (41 : Int32) = oo 41 := rfl
theorem oo_48 : (48 : Int32) = oo 48 := rfl
theorem oo_50 : (50 : Int32) = oo 50 := rfl
theorem oo_57 : (57 : Int32) = oo 57 := rfl
theorem oo_59 : (59 : Int32) = oo 59 := rfl
theorem oo_60 : (60 : Int32) = oo 60 := rfl
theorem oo_61 : (61 : Int32) = oo 61 := rfl
theorem oo_62 : (62 : Int32) = oo 62 := rfl
theorem oo_63 : (63 : Int32) = oo 63 := rfl
theorem oo_64 : (64 : Int32) = oo 64 := rfl
theorem oo_66 : (66 : Int32) = oo 66 := rfl
theorem oo_72 : (72 : Int32) = oo 72 := rfl
theorem oo_78 : (78 : Int32) = oo 78 := rfl
theorem oo_96 : (96 : Int32) = oo 96 := rfl
theorem oo_97 : (97 : Int32) = oo 97 := rfl
theorem oo_99 : (99 : Int32) = oo 99 := rfl
theorem oo_100 : (100 : Int32) = oo 100 := rfl
theorem oo_101 : (101 : Int32) = oo 101 := rfl
theorem oo_105 : (105 : Int32) = oo 105 := rfl
theorem oo_107 : (107 : Int32) = oo 107 := rfl
theorem oo_108 : (108 : Int32) = oo 108 := rfl
theorem oo_109 : (109 : Int32) = oo 109 := rfl
theorem oo_110 : (110 : Int32) = oo 110 := rfl
theorem oo_111 : (111 : Int32) = oo 111 := rfl
theorem oo_112 : (112 : Int32) = oo 112 := rfl
theorem oo_114 : (114 : Int32) = oo 114 := rfl
theorem oo_115 : (115 : Int32) = oo 115 := rfl
theorem oo_116 : (116 : Int32) = oo 116 := rfl
theorem oo_117 : (117 : Int32) = oo 117 := rfl
theorem oo_119 : (119 : Int32) = oo 119 := rfl
theorem oo_122 : (122 : Int32) = oo 122 := rfl
theorem oo_128 : (128 : Int32) = oo 128 := rfl
theorem oo_130 : (130 : Int32) = oo 130 := rfl
theorem oo_134 : (134 : Int32) = oo 134 := rfl
theorem oo_135 : (135 : Int32) = oo 135 := rfl
theorem oo_136 : (136 : Int32) = oo 136 := rfl
theorem oo_137 : (137 : Int32) = oo 137 := rfl
theorem oo_138 : (138 : Int32) = oo 138 := rfl
theorem oo_139 : (139 : Int32) = oo 139 := rfl
theorem oo_140 : (140 : Int32) = oo 140 := rfl
theorem oo_141 : (141 : Int32) = oo 141 := rfl
theorem oo_142 : (142 : Int32) = oo 142 := rfl
theorem oo_143 : (143 : Int32) = oo 143 := rfl
theorem oo_144 : (144 : Int32) = oo 144 := rfl
theorem oo_145 : (145 : Int32) = oo 145 := rfl
theorem oo_151 : (151 : Int32) = oo 151 := rfl
theorem oo_157 : (157 : Int32) = oo 157 := rfl
theorem oo_194 : (194 : Int32) = oo 194 := rfl
theorem oo_200 : (200 : Int32) = oo 200 := rfl
theorem oo_240 : (240 : Int32) = oo 240 := rfl
theorem oo_255 : (255 : Int32) = oo 255 := rfl
theorem oo_256 : (256 : Int32) = oo 256 := rfl
theorem oo_274 : (274 : Int32) = oo 274 := rfl
theorem oo_276 : (276 : Int32) = oo 276 := rfl
theorem oo_300 : (300 : Int32) = oo 300 := rfl
theorem oo_516 : (516 : Int32) = oo 516 := rfl
theorem oo_900 : (900 : Int32) = oo 900 := rfl
theorem oo_940 : (940 : Int32) = oo 940 := rfl
theorem oo_941 : (941 : Int32) = oo 941 := rfl
theorem oo_999 : (999 : Int32) = oo 999 := rfl
theorem oo_1000 : (1000 : Int32) = oo 1000 := rfl
theorem oo_1040 : (1040 : Int32) = oo 1040 := rfl
theorem oo_10000 : (10000 : Int32) = oo 10000 := rfl
theorem oo_of (n : Nat) : Int32.ofNat n = oo n := rfl
theorem oo_int {k : Nat} (h : k < 2147483648) : (oo k).toInt = k := Int32.toInt_ofNat_of_lt h
theorem nn_int : nn.toInt = -1 := rfl
theorem oo_nat {k : Nat} (h : k < 2147483648) : (oo k).toNatClampNeg = k := Int32.toNatClampNeg_ofNat_of_lt h
theorem oo_add (k j : Nat) : oo k + oo j = oo (k + j) := (Int32.ofNat_add k j).symm
theorem oo_mul (k j : Nat) : oo k * oo j = oo (k * j) := (Int32.ofNat_mul k j).symm
theorem oo_sub {k j : Nat} (h : j ≤ k) : oo k - oo j = oo (k - j) := (Int32.ofNat_sub k j h).symm
theorem oo_lt {k j : Nat} (h1 : k < 2147483648) (h2 : j < 2147483648) : (oo k < oo j) = (k < j) := propext (Int32.ofNat_lt_iff_lt h1 h2)
theorem oo_le {k j : Nat} (h1 : k < 2147483648) (h2 : j < 2147483648) : (oo k ≤ oo j) = (k ≤ j) := propext (Int32.ofNat_le_iff_le h1 h2)
theorem oo_eq {k j : Nat} (h1 : k < 2147483648) (h2 : j < 2147483648) : (oo k = oo j) = (k = j) := propext ⟨fun h => by
  have h3 := congrArg Int32.toInt h
  rw [oo_int h1, oo_int h2] at h3
  exact Int.ofNat.inj h3, fun h => by rw [h]⟩
theorem oo_div {k j : Nat} (h1 : k < 2147483648) (h2 : j < 2147483648) : oo k / oo j = oo (k / j) := (Int32.ofNat_div h1 h2).symm
theorem oo_rem {k j : Nat} (h1 : k < 2147483648) (h2 : j < 2147483648) : rem32 (oo k) (oo j) = oo (k % j) := by
  have h3 : k / j * j ≤ k := Nat.div_mul_le_self k j
  unfold rem32
  rw [oo_div h1 h2, oo_mul, oo_sub h3]
  congr 1
  have := Nat.div_add_mod k j
  rw [Nat.mul_comm] at this
  omega
theorem oo_nn {k : Nat} (h : k < 2147483648) : (oo k = nn) = False := eq_false (fun q => by
  have h3 := congrArg Int32.toInt q
  rw [oo_int h, nn_int] at h3
  omega)
theorem nn_oo {k : Nat} (h : k < 2147483648) : (nn = oo k) = False := eq_false (fun q => by rw [eq_comm, oo_nn h] at q; exact q)
theorem oo_nnlt {k : Nat} (h : k < 2147483648) : (oo k < nn) = False := eq_false (fun q => by
  rw [Int32.lt_iff_toInt_lt, oo_int h, nn_int] at q
  omega)
theorem nn_oolt {k : Nat} (h : k < 2147483648) : (nn < oo k) = True := eq_true (by
  rw [Int32.lt_iff_toInt_lt, oo_int h, nn_int]
  omega)
theorem oo_nnle {k : Nat} (h : k < 2147483648) : (oo k ≤ nn) = False := eq_false (fun q => by
  rw [Int32.le_iff_toInt_le, oo_int h, nn_int] at q
  omega)
theorem nn_oole {k : Nat} (h : k < 2147483648) : (nn ≤ oo k) = True := eq_true (by
  rw [Int32.le_iff_toInt_le, oo_int h, nn_int]
  omega)
theorem oo_nng {i : Int32} (h : ¬ i < oo 0) : ∃ k, k < 2147483648 ∧ i = oo k := by
  have h1 : 0 ≤ i.toInt := by
    have : ¬ i.toInt < (oo 0).toInt := fun q => h (Int32.lt_iff_toInt_lt.mpr q)
    rw [oo_int (by decide)] at this
    omega
  have h0 : (0 : Int32) ≤ i := by
    rw [Int32.le_iff_toInt_le]
    exact h1
  exact ⟨i.toNatClampNeg, Int32.toNatClampNeg_lt i, (Int32.ofNat_toNatClampNeg i h0).symm⟩
theorem oo_neg {i : Int32} (h : i < oo 0) : i.toInt < 0 := by
  have := Int32.lt_iff_toInt_lt.mp h
  rw [oo_int (by decide)] at this
  exact this
/-! cells read and written -/
theorem sI_same (S : XS) (c k : Nat) (v : Int32) : (sI S c k v).1 c k = v := by simp [sI, up2]
theorem sI_place {S : XS} {c k j : Nat} {v : Int32} (h : j ≠ k) : (sI S c k v).1 c j = S.1 c j := by simp [sI, up2, h]
theorem sI_cell {S : XS} {c d k : Nat} {v : Int32} (h : d ≠ c) : (sI S c k v).1 d = S.1 d := by
  funext j
  simp [sI, up2, h]
theorem sI_long (S : XS) (c k : Nat) (v : Int32) : (sI S c k v).2 = S.2 := rfl
theorem sL_int (S : XS) (c k : Nat) (v : Int64) : (sL S c k v).1 = S.1 := rfl
theorem sL_same (S : XS) (c k : Nat) (v : Int64) : (sL S c k v).2 c k = v := by simp [sL, up2]
theorem sL_place {S : XS} {c k j : Nat} {v : Int64} (h : j ≠ k) : (sL S c k v).2 c j = S.2 c j := by simp [sL, up2, h]
theorem sL_cell {S : XS} {c d k : Nat} {v : Int64} (h : d ≠ c) : (sL S c k v).2 d = S.2 d := by
  funext j
  simp [sL, up2, h]
theorem oo_inb {k m : Nat} (h1 : k < 2147483648) (h : k < m) : ¬ (oo k < 0 ∨ m ≤ (oo k).toNatClampNeg) := by
  rintro (q | q)
  · rw [show (0 : Int32) = oo 0 from rfl, oo_lt h1 (by decide)] at q
    exact absurd q (Nat.not_lt_zero _)
  · rw [oo_nat h1] at q
    omega
theorem gat_of {S : XS} {c k n : Nat} (hn : ln c = n) (hb : n ≤ 2147483648) (h : k < n) : gat S c (oo k) = S.1 c k := by
  have h1 : k < 2147483648 := by omega
  unfold gat
  rw [if_neg (oo_inb h1 (by omega)), oo_nat h1]
theorem pat_of {S : XS} {c k n : Nat} {v : Int32} (hn : ln c = n) (hb : n ≤ 2147483648) (h : k < n) : pat S c (oo k) v = sI S c k v := by
  have h1 : k < 2147483648 := by omega
  unfold pat
  rw [if_neg (oo_inb h1 (by omega)), oo_nat h1]
/-- places that l names (9999: a whole row) may change, all others hold what they held -/
def tch (l : List (Nat × Nat)) (c j : Nat) : Bool := l.any (fun q => q.1 == c && (q.2 == j || q.2 == 9999))
def tcr (l : List (Nat × Nat)) (c : Nat) : Bool := l.any (fun q => q.1 == c)
def Fr (l : List (Nat × Nat)) (S T : XS) : Prop := ∀ c j, tch l c j = false → T.1 c j = S.1 c j ∧ T.2 c j = S.2 c j
theorem Fr.rf (l : List (Nat × Nat)) (S : XS) : Fr l S S := fun c j _ => ⟨rfl, rfl⟩
theorem tcr_tch {l : List (Nat × Nat)} {c : Nat} (h : tcr l c = false) (j : Nat) : tch l c j = false := by
  unfold tcr at h
  unfold tch
  rw [List.any_eq_false] at h ⊢
  intro q hq
  have := h q hq
  simp only [Bool.and_eq_true, not_and]
  intro h1
  exact absurd h1 this
theorem Fr.get {l : List (Nat × Nat)} {S T : XS} (h : Fr l S T) {c j : Nat} (hc : tch l c j = false) : T.1 c j = S.1 c j := (h c j hc).1
theorem Fr.row {l : List (Nat × Nat)} {S T : XS} (h : Fr l S T) {c : Nat} (hc : tcr l c = false) : T.1 c = S.1 c := funext fun j => (h c j (tcr_tch hc j)).1
theorem Fr.row2 {l : List (Nat × Nat)} {S T : XS} (h : Fr l S T) {c : Nat} (hc : tcr l c = false) : T.2 c = S.2 c := funext fun j => (h c j (tcr_tch hc j)).2
theorem Fr.trans {l : List (Nat × Nat)} {S T U : XS} (h1 : Fr l S T) (h2 : Fr l T U) : Fr l S U := fun c j hc => ⟨(h2 c j hc).1.trans (h1 c j hc).1, (h2 c j hc).2.trans (h1 c j hc).2⟩
theorem Fr.mono {l l' : List (Nat × Nat)} {S T : XS} (h : Fr l S T) (hs : l.all (fun q => l'.contains q) = true) : Fr l' S T := fun c j hc => h c j (by
  unfold tch at hc ⊢
  rw [List.any_eq_false] at hc ⊢
  intro q hq
  exact hc q (List.contains_iff_mem.mp (List.all_eq_true.mp hs q hq)))
theorem Fr.sIr {l : List (Nat × Nat)} {S T : XS} {c k : Nat} {v : Int32} (h : Fr l S T) (hc : l.contains (c, 9999) = true) : Fr l S (sI T c k v) := fun d j hd => by
  have hne : d ≠ c := fun q => by
    subst q
    unfold tch at hd
    rw [List.any_eq_false] at hd
    exact hd _ (List.contains_iff_mem.mp hc) (by simp)
  exact ⟨(by rw [sI_cell hne]; exact (h d j hd).1), (h d j hd).2⟩
theorem Fr.sIp {l : List (Nat × Nat)} {S T : XS} {c k : Nat} {v : Int32} (h : Fr l S T) (hc : l.contains (c, k) = true) : Fr l S (sI T c k v) := fun d j hd => by
  have hne : ¬ (d = c ∧ j = k) := fun q => by
    obtain ⟨rfl, rfl⟩ := q
    unfold tch at hd
    rw [List.any_eq_false] at hd
    exact hd _ (List.contains_iff_mem.mp hc) (by simp)
  refine ⟨?_, (h d j hd).2⟩
  rw [← (h d j hd).1]
  simp only [sI, up2]
  exact if_neg hne
theorem Fr.sLr {l : List (Nat × Nat)} {S T : XS} {c k : Nat} {v : Int64} (h : Fr l S T) (hc : l.contains (c, 9999) = true) : Fr l S (sL T c k v) := fun d j hd => by
  have hne : d ≠ c := fun q => by
    subst q
    unfold tch at hd
    rw [List.any_eq_false] at hd
    exact hd _ (List.contains_iff_mem.mp hc) (by simp)
  exact ⟨(h d j hd).1, (by rw [sL_cell hne]; exact (h d j hd).2)⟩
theorem Fr.sLp {l : List (Nat × Nat)} {S T : XS} {c k : Nat} {v : Int64} (h : Fr l S T) (hc : l.contains (c, k) = true) : Fr l S (sL T c k v) := fun d j hd => by
  have hne : ¬ (d = c ∧ j = k) := fun q => by
    obtain ⟨rfl, rfl⟩ := q
    unfold tch at hd
    rw [List.any_eq_false] at hd
    exact hd _ (List.contains_iff_mem.mp hc) (by simp)
  refine ⟨(h d j hd).1, ?_⟩
  rw [← (h d j hd).2]
  simp only [sL, up2]
  exact if_neg hne
/-- a cell's first n places hold the naturals v -/
def IsC (S : XS) (c n : Nat) (v : Nat → Nat) : Prop := ∀ k, k < n → S.1 c k = oo (v k)
def upN (v : Nat → Nat) (k x : Nat) : Nat → Nat := fun j => if j = k then x else v j
theorem upN_same (v : Nat → Nat) (k x : Nat) : upN v k x k = x := by simp [upN]
theorem upN_ne {v : Nat → Nat} {k x j : Nat} (h : j ≠ k) : upN v k x j = v j := by simp [upN, h]
theorem IsC.set {S : XS} {c n k x : Nat} {v : Nat → Nat} (h : IsC S c n v) : IsC (sI S c k (oo x)) c n (upN v k x) := fun j hj => by
  by_cases e : j = k
  · rw [e, sI_same, upN_same]
  · rw [sI_place e, upN_ne e]
    exact h j hj
theorem IsC.cell {S T : XS} {c n : Nat} {v : Nat → Nat} (h : IsC S c n v) (e : T.1 c = S.1 c) : IsC T c n v := fun j hj => by rw [e]; exact h j hj
theorem IsC.ne {S : XS} {c d n k : Nat} {v : Nat → Nat} {x : Int32} (h : IsC S c n v) (e : c ≠ d) : IsC (sI S d k x) c n v := h.cell (sI_cell e)
theorem IsC.ext {S : XS} {c n : Nat} {v w : Nat → Nat} (h : IsC S c n v) (e : ∀ k, k < n → v k = w k) : IsC S c n w := fun j hj => by rw [h j hj, e j hj]
