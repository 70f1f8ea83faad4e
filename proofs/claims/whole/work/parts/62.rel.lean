/-! what the two objects tell, tied to natural numbers: v is the reference's row 'now' -/
/-- half of what smokes to p bring of s, from the k-th smoke on, m smokes -/
def smkN (v : Nat → Nat) (p s : Nat) : Nat → Nat → Nat
  | _, 0 => 0
  | k, m + 1 => (if v (48 + 3 * k) = s ∧ v (48 + 3 * k + 2) = p then v (12 + 6 * v (48 + 3 * k + 1) + s) / 2 else 0) + smkN v p s (k + 1) m
def airN (v : Nat → Nat) (p s : Nat) : Nat := v (12 + 6 * p + s) + smkN v p s 0 (v 2)
/-- the place (and 1) to which w went at the hour t, by the first n rows; 0: none -/
def wtN (v : Nat → Nat) (w t : Nat) : Nat → Nat
  | 0 => 0
  | n + 1 => if v (78 + 3 * n) = w ∧ v (78 + 3 * n + 1) = t then v (78 + 3 * n + 2) + 1 else wtN v w t n
def rnN (v : Nat → Nat) (t : Nat) : Nat → Nat
  | 0 => 0
  | n + 1 => if v (138 + n) = t then 1 else rnN v t n
/-- what a hill keeps to -/
def HOK (v : Nat → Nat) : Prop :=
  (v 0 ≤ 6 ∧ v 1 ≤ 6 ∧ v 2 ≤ 6 ∧ v 3 ≤ 6 ∧ v 4 ≤ 20 ∧ v 5 ≤ 6) ∧
  (∀ s, s < 6 → v (6 + s) ≤ 9 ∧ (v 0 ≤ s → v (6 + s) = 0)) ∧
  (∀ p s, p < 6 → s < 6 → v (12 + 6 * p + s) ≤ 9 ∧ (v 0 ≤ s → v (12 + 6 * p + s) = 0)) ∧
  (∀ k, k < v 2 → v (48 + 3 * k) < v 0 ∧ v (48 + 3 * k + 1) < v 1 ∧ v (48 + 3 * k + 2) < v 1) ∧
  (∀ w, w < v 3 → 1 ≤ v (66 + w) ∧ v (66 + w) ≤ 9 ∧ v (72 + w) < v 1) ∧
  (∀ k, k < v 4 → v (78 + 3 * k) < v 3 ∧ 1 ≤ v (78 + 3 * k + 1) ∧ v (78 + 3 * k + 1) ≤ 60 ∧ v (78 + 3 * k + 2) < v 1) ∧
  (∀ k, k < v 5 → 1 ≤ v (138 + k) ∧ v (138 + k) ≤ 60) ∧
  (∀ k, k < 144 → v k ≤ 60)
/-- what a world keeps to -/
def SOK (v : Nat → Nat) : Prop :=
  v 144 ≤ 999 ∧
  (∀ w, w < v 3 → v (145 + w) < v 1 ∧ v (151 + w) < v 3) ∧
  (∀ w x, w < v 3 → x < v 3 → v (151 + w) = v (151 + x) → w = x) ∧
  (∀ c s, c < 6 → s < 6 → v (157 + 6 * c + s) ≤ 99 ∧ (v 0 ≤ s → v (157 + 6 * c + s) = 0)) ∧
  v 193 ≤ 8 ∧
  (∀ c, c < v 193 → v (194 + 10 * c) < v 3 ∧ v (194 + 10 * c + 1) < 3 ∧ v (194 + 10 * c + 2) ≤ 999 ∧ v (194 + 10 * c + 3) = v (66 + v (194 + 10 * c))) ∧
  (∀ c s, c < v 193 → s < 6 → v (194 + 10 * c + 4 + s) ≤ 99 ∧ (v 0 ≤ s → v (194 + 10 * c + 4 + s) = 0))
/-- the class's hill at the cell h -/
def IsHill (S : XS) (h : Nat) (v : Nat → Nat) : Prop :=
  (S.1 (h + 1) 0 = oo (v 0) ∧ S.1 (h + 1) 1 = oo (v 1) ∧ S.1 (h + 1) 2 = oo (v 3) ∧ S.1 (h + 1) 3 = oo (v 2) ∧ S.1 (h + 1) 4 = oo (v 4) ∧ S.1 (h + 1) 5 = oo (v 5)) ∧
  (∀ s, s < 6 → S.1 (h + 3) s = oo (v (6 + s))) ∧
  (∀ p s, p < 6 → s < 6 → S.1 (h + 4) (p * 6 + s) = oo (airN v p s)) ∧
  (∀ w, w < 6 → S.1 (h + 5) w = oo (v (66 + w))) ∧
  (∀ w, w < 6 → S.1 (h + 6) w = oo (v (72 + w))) ∧
  (∀ t w, t ≤ 60 → w < 6 → S.1 (h + 7) (t * 6 + w) = oo (wtN v w t (v 4))) ∧
  (∀ t, t ≤ 60 → S.1 (h + 8) t = oo (rnN v t (v 5)))
/-- the class's world at the cell w -/
def IsWd (S : XS) (w : Nat) (v : Nat → Nat) : Prop :=
  S.1 w 0 = oo (v 144) ∧
  (∀ i, i < 6 → S.1 (w + 1) i = oo (v (145 + i))) ∧
  (∀ i, i < 6 → S.1 (w + 2) i = oo (v (151 + i))) ∧
  (∀ c s, c < 6 → s < 6 → S.1 (w + 3) (c * 6 + s) = oo (v (157 + 6 * c + s))) ∧
  S.1 w 4 = oo (v 193) ∧
  (∀ c s, c < v 193 → s < 6 → S.1 (w + 4) (c * 6 + s) = oo (v (194 + 10 * c + 4 + s))) ∧
  (∀ c, c < v 193 → S.1 (w + 5) c = oo (v (194 + 10 * c)) ∧ S.1 (w + 6) c = oo (v (194 + 10 * c + 1)) ∧ S.1 (w + 7) c = oo (v (194 + 10 * c + 2)))
/-- words as the class packs them and as the reference does -/
def pk8 : List Nat → Int64
  | [] => 0
  | a :: l => (shl64 (pk8 l) 8) ||| (oo (96 + a)).toInt64
def pk27 : List Nat → Int64
  | [] => 0
  | a :: l => 27 * pk27 l + (oo (96 + a)).toInt64 - 96
/-- letters, last first -/
def isWd (l : List Nat) : Prop := l ≠ [] ∧ l.length ≤ 7 ∧ ∀ a ∈ l, 1 ≤ a ∧ a ≤ 26
def NmOK (x y : Nat → Int64) (v : Nat → Nat) : Prop :=
  ∃ d : Nat → List Nat, (∀ i, i < 18 → (i % 6 < v ([0, 1, 3].getD (i / 6) 0) → isWd (d i) ∧ x i = pk8 (d i) ∧ y i = pk27 (d i)) ∧ (v ([0, 1, 3].getD (i / 6) 0) ≤ i % 6 → x i = 0))
