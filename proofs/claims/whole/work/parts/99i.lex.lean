/-! questions of ints as questions of naturals -/
theorem ile {α : Type} {k j : Nat} {a b : α} [Decidable (oo k ≤ oo j)] (h1 : k < 2147483648) (h2 : j < 2147483648) : (if oo k ≤ oo j then a else b) = if k ≤ j then a else b := by
  by_cases h : k ≤ j
  · rw [if_pos h, if_pos (by rw [oo_le h1 h2]; exact h)]
  · rw [if_neg h, if_neg (by rw [oo_le h1 h2]; exact h)]
theorem ilt {α : Type} {k j : Nat} {a b : α} [Decidable (oo k < oo j)] (h1 : k < 2147483648) (h2 : j < 2147483648) : (if oo k < oo j then a else b) = if k < j then a else b := by
  by_cases h : k < j
  · rw [if_pos h, if_pos (by rw [oo_lt h1 h2]; exact h)]
  · rw [if_neg h, if_neg (by rw [oo_lt h1 h2]; exact h)]
theorem ieq {α : Type} {k j : Nat} {a b : α} [Decidable (oo k = oo j)] (h1 : k < 2147483648) (h2 : j < 2147483648) : (if oo k = oo j then a else b) = if k = j then a else b := by
  by_cases h : k = j
  · rw [if_pos h, if_pos (by rw [h])]
  · rw [if_neg h, if_neg (by rw [oo_eq h1 h2]; exact h)]
/-! the tokens of a text -/
abbrev TX : Type := (Nat → Nat) × Nat × Nat
def isBl (c : Nat) : Bool := c == 32 || c == 10
def isLe (c : Nat) : Bool := decide (97 ≤ c) && decide (c ≤ 122)
def isDi (c : Nat) : Bool := decide (48 ≤ c) && decide (c ≤ 57)
def isSg (c : Nat) : Bool := c == 59 || c == 60 || c == 61 || c == 62 || c == 40 || c == 41
theorem bl_c : ∀ c, c < 256 → t_X8_isBlank (oo c) = isBl c := by decide +kernel
theorem le_c : ∀ c, c < 256 → t_X8_isLetter (oo c) = isLe c := by decide +kernel
theorem di_c : ∀ c, c < 256 → t_X8_isDigit (oo c) = isDi c := by decide +kernel
theorem sg_c : ∀ c, c < 256 → t_X8_isSign (oo c) = isSg c := by decide +kernel
theorem le_n : ∀ c, c < 256 → t_X12_isLetter (oo c) = isLe c := le_c
theorem di_n : ∀ c, c < 256 → t_X12_isDigit (oo c) = isDi c := di_c
theorem isLe_b {c : Nat} (h : isLe c = true) : 97 ≤ c ∧ c ≤ 122 := by
  unfold isLe at h
  rw [Bool.and_eq_true, decide_eq_true_eq, decide_eq_true_eq] at h
  exact h
theorem isDi_b {c : Nat} (h : isDi c = true) : 48 ≤ c ∧ c ≤ 57 := by
  unfold isDi at h
  rw [Bool.and_eq_true, decide_eq_true_eq, decide_eq_true_eq] at h
  exact h
theorem isBl_b {c : Nat} (h : isBl c = false) : c ≠ 32 ∧ c ≠ 10 := by
  unfold isBl at h
  rw [Bool.or_eq_false_iff] at h
  exact ⟨fun q => by rw [q] at h; exact absurd h.1 (by decide), fun q => by rw [q] at h; exact absurd h.2 (by decide)⟩
theorem isSg_b {c : Nat} (h : isSg c = true) : c = 59 ∨ c = 60 ∨ c = 61 ∨ c = 62 ∨ c = 40 ∨ c = 41 := by
  unfold isSg at h
  simp only [Bool.or_eq_true, beq_iff_eq] at h
  omega
def skN (b : Nat → Nat) : Nat → Nat → Nat
  | 0, p => p
  | m + 1, p => if isBl (b p) = true then skN b m (p + 1) else p
def enN (b : Nat → Nat) : Nat → Nat → Nat
  | 0, p => p
  | m + 1, p => if isLe (b p) = true then enN b m (p + 1) else if isDi (b p) = true then enN b m (p + 1) else p
def lwN (b : Nat → Nat) (s : Nat) : Nat → List Nat
  | 0 => []
  | k + 1 => (b (s + k) - 96) :: lwN b s k
def nuN (b : Nat → Nat) (s : Nat) : Nat → Nat
  | 0 => 0
  | k + 1 => nuN b s k * 10 + (b (s + k) - 48)
def clN (b : Nat → Nat) (s : Nat) : Nat → Nat
  | 0 => 0
  | k + 1 => clN b s k + (if isLe (b (s + k)) = true then 1 else 0)
theorem clN_le {b : Nat → Nat} {s : Nat} : ∀ k, clN b s k ≤ k := by
  intro k
  induction k with
  | zero => exact Nat.le_refl _
  | succ k ih =>
    rw [clN]
    split <;> omega
theorem lwN_len {b : Nat → Nat} {s : Nat} : ∀ k, (lwN b s k).length = k := by
  intro k
  induction k with
  | zero => rfl
  | succ k ih => rw [lwN, List.length_cons, ih]
theorem skN_b {b : Nat → Nat} : ∀ m p, p ≤ skN b m p ∧ skN b m p ≤ p + m := by
  intro m
  induction m with
  | zero => intro p; exact ⟨Nat.le_refl _, Nat.le_refl _⟩
  | succ m ih =>
    intro p
    rw [skN]
    split
    · have := ih (p + 1)
      omega
    · omega
theorem skN_s {b : Nat → Nat} : ∀ m p, skN b m p < p + m → isBl (b (skN b m p)) = false := by
  intro m
  induction m with
  | zero =>
    intro p h
    rw [skN] at h
    omega
  | succ m ih =>
    intro p h
    rw [skN] at h ⊢
    by_cases hb : isBl (b p) = true
    · rw [if_pos hb] at h ⊢
      exact ih (p + 1) (by omega)
    · rw [if_neg hb]
      cases hq : isBl (b p) with
      | false => rfl
      | true => exact absurd hq hb
theorem enN_b {b : Nat → Nat} : ∀ m p, p ≤ enN b m p ∧ enN b m p ≤ p + m := by
  intro m
  induction m with
  | zero => intro p; exact ⟨Nat.le_refl _, Nat.le_refl _⟩
  | succ m ih =>
    intro p
    have := ih (p + 1)
    rw [enN]
    split
    · omega
    · split <;> omega
theorem enN_p {b : Nat → Nat} {m p : Nat} (hm : 0 < m) (h : isLe (b p) = true ∨ isDi (b p) = true) : p < enN b m p := by
  obtain ⟨m, rfl⟩ : ∃ m', m = m' + 1 := ⟨m - 1, by omega⟩
  have := (enN_b (b := b) m (p + 1)).1
  rw [enN]
  by_cases h1 : isLe (b p) = true
  · rw [if_pos h1]
    omega
  · rw [if_neg h1, if_pos (h.resolve_left h1)]
    omega
/-- the letters are letters, if all are -/
theorem lwN_is {b : Nat → Nat} {s : Nat} : ∀ k, clN b s k = k → ∀ a ∈ lwN b s k, 1 ≤ a ∧ a ≤ 26 := by
  intro k
  induction k with
  | zero => intro _ a ha; exact absurd ha (List.not_mem_nil)
  | succ k ih =>
    intro h a ha
    have h1 := clN_le (b := b) (s := s) k
    rw [clN] at h
    rw [lwN, List.mem_cons] at ha
    by_cases hl : isLe (b (s + k)) = true
    · rw [if_pos hl] at h
      have := isLe_b hl
      rcases ha with rfl | ha
      · omega
      · exact ih (by omega) a ha
    · rw [if_neg hl] at h
      omega
theorem lwN_ls {b : Nat → Nat} {s k : Nat} (h : clN b s k = k) (h7 : k ≤ 7) : isLs (lwN b s k) := ⟨by rw [lwN_len]; exact h7, lwN_is k h⟩
theorem clN_p {b : Nat → Nat} {s k j : Nat} (h : clN b s (k + j) = k + j) : clN b s k = k := by
  induction j with
  | zero => exact h
  | succ j ih =>
    apply ih
    have h1 := clN_le (b := b) (s := s) (k + j)
    have h2 : clN b s (k + j + 1) = k + j + 1 := h
    rw [clN] at h2
    split at h2 <;> omega
theorem clN_z {b : Nat → Nat} {s k j : Nat} (h : clN b s (k + j) = 0) : clN b s k = 0 := by
  induction j with
  | zero => exact h
  | succ j ih =>
    apply ih
    have h2 : clN b s (k + j + 1) = 0 := h
    rw [clN] at h2
    omega
theorem nuN_b {b : Nat → Nat} {s : Nat} : ∀ k, (∀ j, j < k → b (s + j) ≤ 57) → nuN b s k < 10 ^ k := by
  intro k
  induction k with
  | zero => intro _; exact Nat.one_pos
  | succ k ih =>
    intro h
    have h1 := ih (fun j hj => h j (by omega))
    have h2 := h k (by omega)
    rw [nuN, Nat.pow_succ]
    omega
/-! the words that are keys, last letter first, as the class counts them -/
def kyW : List (List Nat) := [[20, 14, 5, 3, 19], [5, 3, 1, 12, 16], [19, 19, 5, 14, 20, 9, 23], [5, 11, 15, 13, 19], [20, 14, 5, 23], [14, 9, 1, 18], [20, 1], [19, 12, 12, 5, 13, 19], [19, 18, 1, 5, 23], [18, 15], [4, 14, 1], [20, 15, 14], [14, 1, 5, 12, 3], [14, 23, 15], [13, 21, 19], [20, 19, 15, 13], [16, 5, 5, 11]]
/-- as the reference counts them -/
def kyR (k : Nat) : Nat := [0, 1, 3, 2, 4, 5, 8, 9, 10, 11, 12, 13, 6, 7, 14, 15, 16].getD k 0
def kyg (k : Nat) : List Nat := kyW.getD k []
def kyF (l : List Nat) : Nat → Nat → Nat
  | 0, _ => 17
  | m + 1, k => if l = kyg k then k else kyF l m (k + 1)
def kyN (l : List Nat) : Nat := kyF l 17 0
theorem kyg_ls {k : Nat} (hk : k < 17) : isLs (kyg k) := by
  have h : ∀ k, k < 17 → (kyg k).length ≤ 7 ∧ (kyg k).all (fun a => decide (1 ≤ a) && decide (a ≤ 26)) = true := by decide +kernel
  refine ⟨(h k hk).1, fun a ha => ?_⟩
  have := List.all_eq_true.mp (h k hk).2 a ha
  rw [Bool.and_eq_true, decide_eq_true_eq, decide_eq_true_eq] at this
  exact this
theorem kyF_lt (l : List Nat) : ∀ m k, k + m = 17 → kyF l m k < 17 → k ≤ kyF l m k ∧ l = kyg (kyF l m k) := by
  intro m
  induction m with
  | zero =>
    intro k _ h
    rw [kyF] at h
    omega
  | succ m ih =>
    intro k hk h
    rw [kyF] at h ⊢
    by_cases e : l = kyg k
    · rw [if_pos e]
      exact ⟨Nat.le_refl _, e⟩
    · rw [if_neg e] at h ⊢
      have := ih (k + 1) (by omega) h
      exact ⟨by omega, this.2⟩
theorem kyN_lt {l : List Nat} (h : kyN l < 17) : l = kyg (kyN l) := (kyF_lt l 17 0 rfl h).2
theorem kyF_le (l : List Nat) : ∀ m k, k + m = 17 → kyF l m k ≤ 17 := by
  intro m
  induction m with
  | zero => intro k _; exact Nat.le_refl _
  | succ m ih =>
    intro k hk
    rw [kyF]
    split
    · omega
    · exact ih (k + 1) (by omega)
theorem kyN_le (l : List Nat) : kyN l ≤ 17 := kyF_le l 17 0 rfl
theorem kyN_g : ∀ k, k < 17 → kyN (kyg k) = k := by decide +kernel
theorem kyN_eq {l : List Nat} {k : Nat} (hk : k < 17) : (l = kyg k) = (kyN l = k) := propext ⟨fun h => by rw [h]; exact kyN_g k hk, fun h => by
  have := kyN_lt (l := l) (by omega)
  rw [h] at this
  exact this⟩
theorem keys_k : ∀ k, k < 17 → keysL.getD k 0 = pk8 (kyg k) := by decide +kernel
theorem kyR_lt : ∀ k, k < 17 → kyR k < 17 := by decide
theorem kyR_inj : ∀ k, k < 17 → ∀ j, j < 17 → kyR k = kyR j → k = j := by decide
theorem spelt_n {a b c d e f : Int32} {S : XS} : f_X12_spelt a b c d e f S = some ((if f ≤ 0 then (if e ≤ 0 then (if d ≤ 0 then (if c ≤ 0 then 27 * (a.toInt64 - 96) + b.toInt64 - 96 else 27 * (27 * (a.toInt64 - 96) + b.toInt64 - 96) + c.toInt64 - 96) else 27 * (if c ≤ 0 then 27 * (a.toInt64 - 96) + b.toInt64 - 96 else 27 * (27 * (a.toInt64 - 96) + b.toInt64 - 96) + c.toInt64 - 96) + d.toInt64 - 96) else 27 * (if d ≤ 0 then (if c ≤ 0 then 27 * (a.toInt64 - 96) + b.toInt64 - 96 else 27 * (27 * (a.toInt64 - 96) + b.toInt64 - 96) + c.toInt64 - 96) else 27 * (if c ≤ 0 then 27 * (a.toInt64 - 96) + b.toInt64 - 96 else 27 * (27 * (a.toInt64 - 96) + b.toInt64 - 96) + c.toInt64 - 96) + d.toInt64 - 96) + e.toInt64 - 96) else 27 * (if e ≤ 0 then (if d ≤ 0 then (if c ≤ 0 then 27 * (a.toInt64 - 96) + b.toInt64 - 96 else 27 * (27 * (a.toInt64 - 96) + b.toInt64 - 96) + c.toInt64 - 96) else 27 * (if c ≤ 0 then 27 * (a.toInt64 - 96) + b.toInt64 - 96 else 27 * (27 * (a.toInt64 - 96) + b.toInt64 - 96) + c.toInt64 - 96) + d.toInt64 - 96) else 27 * (if d ≤ 0 then (if c ≤ 0 then 27 * (a.toInt64 - 96) + b.toInt64 - 96 else 27 * (27 * (a.toInt64 - 96) + b.toInt64 - 96) + c.toInt64 - 96) else 27 * (if c ≤ 0 then 27 * (a.toInt64 - 96) + b.toInt64 - 96 else 27 * (27 * (a.toInt64 - 96) + b.toInt64 - 96) + c.toInt64 - 96) + d.toInt64 - 96) + e.toInt64 - 96) + f.toInt64 - 96), S) := by
  unfold f_X12_spelt
  by_cases h1 : c ≤ 0 <;> by_cases h2 : d ≤ 0 <;> by_cases h3 : e ≤ 0 <;> by_cases h4 : f ≤ 0 <;> simp only [h1, h2, h3, h4, if_true, if_false, Option.bind_some]
theorem word_n {S : XS} : ∀ k, k < 17 → f_X12_wordOf (oo k) S = some (pk27 (kyg (kyR k)), S) := by
  intro k hk
  unfold f_X12_wordOf
  rcases (show k = 0 ∨ k = 1 ∨ k = 2 ∨ k = 3 ∨ k = 4 ∨ k = 5 ∨ k = 6 ∨ k = 7 ∨ k = 8 ∨ k = 9 ∨ k = 10 ∨ k = 11 ∨ k = 12 ∨ k = 13 ∨ k = 14 ∨ k = 15 ∨ k = 16 by omega) with rfl | rfl | rfl | rfl | rfl | rfl | rfl | rfl | rfl | rfl | rfl | rfl | rfl | rfl | rfl | rfl | rfl
  all_goals
    repeat rw [if_neg (by decide)]
    try rw [if_pos (by decide)]
    rw [spelt_n, Option.bind_some]
    rfl
