/-! rows of places by which a coat is as told; a row: the places of the hours, the last first -/
def ctR (v : Nat → Nat) (w : Nat) : List Nat → Nat → Nat
  | [], _ => 0
  | p :: R, s => hrN v w (R.length + 1) 0 p (ctR v w R s) s
abbrev WAc : Type := Nat × (Nat → Nat → Nat) × List Nat
def addN (n : Nat) (R : List Nat) (A : WAc) : WAc := (A.1 + 1, fun t x => A.2.1 t x + (if R.getD (n - t) 0 = x then 1 else 0), if A.1 = 0 then R else A.2.2)
def dgR (b : Nat) : Nat → Nat → List Nat
  | 0, _ => []
  | n + 1, c => (c % b) :: dgR b n (c / b)
theorem dgR_len {b : Nat} : ∀ n c, (dgR b n c).length = n := by
  intro n
  induction n with
  | zero => intro c; rfl
  | succ n ih => intro c; rw [dgR, List.length_cons, ih]
theorem dgR_lt {b : Nat} (hb : 1 ≤ b) : ∀ n c, ∀ p ∈ dgR b n c, p < b := by
  intro n
  induction n with
  | zero => intro c p hp; exact absurd hp (List.not_mem_nil)
  | succ n ih =>
    intro c p hp
    rw [dgR, List.mem_cons] at hp
    rcases hp with rfl | hp
    · exact Nat.mod_lt _ hb
    · exact ih _ p hp
/-- behind the hour of R nothing is out of reach (at the last hour: it is as told) -/
def canG (v : Nat → Nat) (w n : Nat) (tp mx : Nat → Nat) (R : List Nat) (s : Nat) : Prop := ctR v w R s ≤ tp s + (n / v (66 + w) - R.length / v (66 + w)) * v (6 + s) ∧ tp s ≤ ctR v w R s + (n - R.length) * mx s
def canN (v : Nat → Nat) (w n : Nat) (tp mx : Nat → Nat) (R : List Nat) : Bool := (List.range 6).all (fun s => decide (ctR v w R s ≤ tp s + (n / v (66 + w) - R.length / v (66 + w)) * v (6 + s)) && decide (tp s ≤ ctR v w R s + (n - R.length) * mx s))
theorem canN_iff {v : Nat → Nat} {w n : Nat} {tp mx : Nat → Nat} {R : List Nat} : canN v w n tp mx R = true ↔ ∀ s, s < 6 → canG v w n tp mx R s := by
  unfold canN canG
  rw [List.all_eq_true]
  constructor
  · intro h s hs
    have := h s (List.mem_range.mpr hs)
    rw [Bool.and_eq_true, decide_eq_true_eq, decide_eq_true_eq] at this
    exact this
  · intro h s hs
    rw [Bool.and_eq_true, decide_eq_true_eq, decide_eq_true_eq]
    exact h s (List.mem_range.mp hs)
def okN (v : Nat → Nat) (w : Nat) (tp : Nat → Nat) (R : List Nat) : Bool := (List.range 6).all (fun s => decide (ctR v w R s = tp s))
theorem okN_iff {v : Nat → Nat} {w : Nat} {tp : Nat → Nat} {R : List Nat} : okN v w tp R = true ↔ ∀ s, s < 6 → ctR v w R s = tp s := by
  unfold okN
  rw [List.all_eq_true]
  constructor
  · intro h s hs
    have := h s (List.mem_range.mpr hs)
    rw [decide_eq_true_eq] at this
    exact this
  · intro h s hs
    rw [decide_eq_true_eq]
    exact h s (List.mem_range.mp hs)
def foldP (f : Nat → WAc → WAc) : Nat → Nat → WAc → WAc
  | 0, _, A => A
  | m + 1, p, A => foldP f m (p + 1) (f p A)
theorem foldP_id {f : Nat → WAc → WAc} : ∀ m p A, (∀ x A, p ≤ x → x < p + m → f x A = A) → foldP f m p A = A := by
  intro m
  induction m with
  | zero => intro p A _; rfl
  | succ m ih => intro p A h; rw [foldP, h p A (by omega) (by omega), ih _ _ (fun x A h1 h2 => h x A (by omega) (by omega))]
theorem foldP_ext {f g : Nat → WAc → WAc} : ∀ m p A, (∀ x A, p ≤ x → x < p + m → f x A = g x A) → foldP f m p A = foldP g m p A := by
  intro m
  induction m with
  | zero => intro p A _; rfl
  | succ m ih => intro p A h; rw [foldP, foldP, h p A (by omega) (by omega), ih _ _ (fun x A h1 h2 => h x A (by omega) (by omega))]
theorem foldP_app {f : Nat → WAc → WAc} : ∀ m k p A, foldP f (m + k) p A = foldP f k (p + m) (foldP f m p A) := by
  intro m
  induction m with
  | zero => intro k p A; rw [Nat.zero_add]; rfl
  | succ m ih => intro k p A; rw [show m + 1 + k = (m + k) + 1 by omega, foldP, foldP, ih, show p + 1 + m = p + (m + 1) by omega]
/-- all rows -/
def dfN (n np : Nat) (ok : List Nat → Bool) : Nat → List Nat → WAc → WAc
  | 0, R, A => if ok R = true then addN n R A else A
  | m + 1, R, A => foldP (fun p A => dfN n np ok m (p :: R) A) np 0 A
/-- only rows that can still be as told -/
def dcN (n np : Nat) (can : List Nat → Bool) : Nat → List Nat → WAc → WAc
  | 0, R, A => addN n R A
  | m + 1, R, A => foldP (fun p A => if can (p :: R) = true then dcN n np can m (p :: R) A else A) np 0 A
theorem dfN_none {n np : Nat} {ok : List Nat → Bool} : ∀ m R A, (∀ L : List Nat, L.length = m → (∀ p ∈ L, p < np) → ¬ ok (L ++ R) = true) → dfN n np ok m R A = A := by
  intro m
  induction m with
  | zero =>
    intro R A h
    have h1 : ¬ ok R = true := h [] rfl (fun p hp => absurd hp (List.not_mem_nil))
    rw [dfN, if_neg h1]
  | succ m ih =>
    intro R A h
    rw [dfN]
    refine foldP_id _ _ _ (fun x A _ hx => ih _ _ (fun L hL hp => ?_))
    have := h (L ++ [x]) (by rw [List.length_append, List.length_singleton, hL]) (fun p hp2 => by
      rw [List.mem_append, List.mem_singleton] at hp2
      rcases hp2 with q | rfl
      · exact hp p q
      · omega)
    rw [List.append_assoc] at this
    exact this
theorem dfN_dcN {n np : Nat} {ok can : List Nat → Bool} (h0 : ∀ R : List Nat, R.length = n → can R = ok R) (h1 : ∀ (R L : List Nat), R.length + L.length = n → (∀ p ∈ L, p < np) → (∀ p ∈ R, p < np) → ok (L ++ R) = true → can R = true) : ∀ m R A, R.length + m = n → (∀ p ∈ R, p < np) → dfN n np ok m R A = if can R = true then dcN n np can m R A else A := by
  intro m
  induction m with
  | zero =>
    intro R A hR _
    rw [dfN, dcN, h0 R (by omega)]
  | succ m ih =>
    intro R A hR hp
    by_cases hc : can R = true
    · rw [if_pos hc, dfN, dcN]
      refine foldP_ext _ _ _ (fun x A _ hx => ih _ _ (by rw [List.length_cons]; omega) (fun p hq => ?_))
      rw [List.mem_cons] at hq
      rcases hq with rfl | hq
      · omega
      · exact hp p hq
    · rw [if_neg hc]
      exact dfN_none _ _ _ (fun L hL hq ho => hc (h1 R L (by omega) hq hp ho))
/-- all codes -/
theorem dfN_codes {n np : Nat} {ok : List Nat → Bool} (hnp : 1 ≤ np) : ∀ m h c A, h + m = n → dfN n np ok m (dgR np h c) A = foldP (fun x A => if ok (dgR np n x) = true then addN n (dgR np n x) A else A) (np ^ m) (c * np ^ m) A := by
  intro m
  induction m with
  | zero =>
    intro h c A hh
    obtain rfl : h = n := by omega
    rw [Nat.pow_zero, Nat.mul_one, dfN]
    rfl
  | succ m ih =>
    intro h c A hh
    rw [dfN]
    have key : ∀ k p A, p + k = np → foldP (fun p A => dfN n np ok m (p :: dgR np h c) A) k p A = foldP (fun x A => if ok (dgR np n x) = true then addN n (dgR np n x) A else A) (k * np ^ m) ((c * np + p) * np ^ m) A := by
      intro k
      induction k with
      | zero => intro p A _; rw [Nat.zero_mul]; rfl
      | succ k ik =>
        intro p A hk
        have e : p :: dgR np h c = dgR np (h + 1) (c * np + p) := by
          rw [dgR, Nat.mul_comm c np, Nat.mul_add_mod, Nat.mod_eq_of_lt (by omega), Nat.mul_add_div (by omega), Nat.div_eq_of_lt (by omega), Nat.add_zero]
        rw [foldP, e, ih (h + 1) (c * np + p) A (by omega), ik (p + 1) _ (by omega), Nat.succ_mul, Nat.add_comm (k * np ^ m) (np ^ m), foldP_app, ← Nat.succ_mul]
        rfl
    have := key np 0 A (by omega)
    rw [this, Nat.pow_succ, Nat.add_zero, Nat.mul_assoc, Nat.mul_comm np (np ^ m)]
section WP
variable {v : Nat → Nat} {w : Nat}
/-- in how many of the next j hours it fades -/
def fdc (k h : Nat) : Nat → Nat
  | 0 => 0
  | j + 1 => fdc k h j + (if (h + j + 1) % k = 0 then 1 else 0)
theorem div_step {k x : Nat} (hk : 1 ≤ k) (hk9 : k ≤ 9) : (x + 1) / k = x / k + (if (x + 1) % k = 0 then 1 else 0) := by
  rcases (show k = 1 ∨ k = 2 ∨ k = 3 ∨ k = 4 ∨ k = 5 ∨ k = 6 ∨ k = 7 ∨ k = 8 ∨ k = 9 by omega) with rfl | rfl | rfl | rfl | rfl | rfl | rfl | rfl | rfl <;> split <;> omega
theorem fdc_eq {k h : Nat} (hk : 1 ≤ k) (hk9 : k ≤ 9) : ∀ j, (h + j) / k = h / k + fdc k h j := by
  intro j
  induction j with
  | zero => rfl
  | succ j ih => rw [← Nat.add_assoc, div_step hk hk9, ih, fdc, Nat.add_assoc]
theorem ctR_le : ∀ (R : List Nat) s, ctR v w R s ≤ 99 := by
  intro R s
  cases R with
  | nil => exact Nat.zero_le _
  | cons p R => exact capN_le _
theorem ctR_0 (hO : HOK v) {s : Nat} (hs : s < 6) (h0 : v 0 ≤ s) : ∀ R : List Nat, (∀ p ∈ R, p < 6) → ctR v w R s = 0 := by
  intro R
  induction R with
  | nil => intro _; rfl
  | cons p R ih =>
    intro h
    rw [ctR, ih (fun q hq => h q (List.mem_cons_of_mem _ hq))]
    exact hrN_0 hO (h p (List.mem_cons_self ..)) hs h0
theorem reach (hk : 1 ≤ v (66 + w)) (hk9 : v (66 + w) ≤ 9) {mx : Nat → Nat} {s : Nat} (R : List Nat) : ∀ L : List Nat, (∀ p ∈ L, airN v p s ≤ mx s) → ctR v w (L ++ R) s ≤ ctR v w R s + L.length * mx s ∧ ctR v w R s ≤ ctR v w (L ++ R) s + fdc (v (66 + w)) R.length L.length * v (6 + s) := by
  intro L
  induction L with
  | nil => intro _; exact ⟨Nat.le_add_right _ _, Nat.le_add_right _ _⟩
  | cons p L ih =>
    intro h
    obtain ⟨i1, i2⟩ := ih (fun q hq => h q (List.mem_cons_of_mem _ hq))
    have hp := h p (List.mem_cons_self ..)
    have h99 := ctR_le (v := v) (w := w) R s
    have h98 := ctR_le (v := v) (w := w) (L ++ R) s
    rw [List.cons_append, ctR, List.length_append, List.length_cons, fdc, Nat.succ_mul, Nat.add_comm R.length L.length, Nat.add_mul]
    rw [Nat.add_comm L.length R.length]
    generalize ctR v w (L ++ R) s = x at *
    generalize fdc (v (66 + w)) R.length L.length * v (6 + s) = y at *
    generalize L.length * mx s = z at *
    unfold hrN capN
    by_cases hf : (R.length + L.length + 1) % v (66 + w) = 0
    · rw [if_pos hf, if_pos hf, Nat.one_mul]
      split <;> omega
    · rw [if_neg hf, if_neg hf, Nat.zero_mul]
      split <;> omega
theorem can_ok {n : Nat} {tp mx : Nat → Nat} {R : List Nat} (h : R.length = n) : canN v w n tp mx R = okN v w tp R := by
  have e : (canN v w n tp mx R = true) = (okN v w tp R = true) := propext (by
    rw [canN_iff, okN_iff]
    unfold canG
    rw [h, Nat.sub_self, Nat.sub_self]
    constructor
    · intro g s hs
      have := g s hs
      rw [Nat.zero_mul, Nat.zero_mul] at this
      omega
    · intro g s hs
      have := g s hs
      rw [Nat.zero_mul, Nat.zero_mul]
      omega)
  cases h1 : canN v w n tp mx R <;> cases h2 : okN v w tp R
  · rfl
  · rw [h1, h2] at e
    exact absurd (e.mpr rfl) (by decide)
  · rw [h1, h2] at e
    exact absurd (e.mp rfl) (by decide)
  · rfl
theorem ok_can (hk : 1 ≤ v (66 + w)) (hk9 : v (66 + w) ≤ 9) {n np : Nat} {tp mx : Nat → Nat} (hmx : ∀ p s, p < np → s < 6 → airN v p s ≤ mx s) (R L : List Nat) (hl : R.length + L.length = n) (hL : ∀ p ∈ L, p < np) (ho : okN v w tp (L ++ R) = true) : canN v w n tp mx R = true := by
  rw [okN_iff] at ho
  rw [canN_iff]
  intro s hs
  obtain ⟨a1, a2⟩ := reach (R := R) (s := s) hk hk9 L (fun p hp => hmx p s (hL p hp) hs)
  have a3 := fdc_eq (h := R.length) hk hk9 L.length
  have a4 := ho s hs
  unfold canG
  rw [a4] at a1 a2
  rw [← hl, a3, Nat.add_sub_cancel_left, Nat.add_sub_cancel_left]
  exact ⟨a2, a1⟩
/-- both searches come to the same -/
theorem was_eq (hk : 1 ≤ v (66 + w)) (hk9 : v (66 + w) ≤ 9) {n np : Nat} (hn : 1 ≤ n) (hnp : 1 ≤ np) {tp mx : Nat → Nat} (hmx : ∀ p s, p < np → s < 6 → airN v p s ≤ mx s) (A : WAc) : dcN n np (canN v w n tp mx) n [] A = foldP (fun x A => if okN v w tp (dgR np n x) = true then addN n (dgR np n x) A else A) (np ^ n) 0 A := by
  have h1 := dfN_codes (n := n) (ok := okN v w tp) hnp n 0 0 A (by omega)
  rw [Nat.zero_mul] at h1
  rw [← h1]
  obtain ⟨m, rfl⟩ : ∃ m, n = m + 1 := ⟨n - 1, by omega⟩
  show dcN (m + 1) np _ (m + 1) [] A = dfN (m + 1) np _ (m + 1) [] A
  rw [dcN, dfN]
  refine foldP_ext _ _ _ (fun x A _ hx => ?_)
  rw [dfN_dcN (can := canN v w (m + 1) tp mx) (fun R hR => can_ok hR) (fun R L hl hL _ ho => ok_can hk hk9 hmx R L hl hL ho) m [x] A (by rw [List.length_singleton]; omega) (fun p hp => by
    rw [List.mem_singleton] at hp
    omega)]
end WP
theorem foldP_b {f : Nat → WAc → WAc} (hf : ∀ x A, (f x A).1 ≤ A.1 + 1) : ∀ m p A, (foldP f m p A).1 ≤ A.1 + m := by
  intro m
  induction m with
  | zero => intro p A; exact Nat.le_refl _
  | succ m ih =>
    intro p A
    have h1 := ih (p + 1) (f p A)
    have h2 := hf p A
    rw [foldP]
    omega
