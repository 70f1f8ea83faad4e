/-! a run of places of one cell -/
def blk (S : XS) (a lo n : Nat) (f : Nat → Int32) : XS := (fun c j => if c = a ∧ lo ≤ j ∧ j < lo + n then f j else S.1 c j, S.2)
theorem blk_in {S : XS} {a lo n j : Nat} {f : Nat → Int32} (h : lo ≤ j ∧ j < lo + n) : (blk S a lo n f).1 a j = f j := if_pos ⟨rfl, h⟩
theorem blk_out {S : XS} {a lo n j : Nat} {f : Nat → Int32} (h : j < lo ∨ lo + n ≤ j) : (blk S a lo n f).1 a j = S.1 a j := if_neg (by omega)
theorem blk_cell {S : XS} {a lo n c : Nat} {f : Nat → Int32} (h : c ≠ a) : (blk S a lo n f).1 c = S.1 c := funext fun j => if_neg (fun q => h q.1)
theorem blk_long {S : XS} {a lo n : Nat} {f : Nat → Int32} : (blk S a lo n f).2 = S.2 := rfl
theorem blk_0 {S : XS} {a lo : Nat} {f : Nat → Int32} : blk S a lo 0 f = S := by
  refine Prod.ext (funext fun c => funext fun j => ?_) rfl
  exact if_neg (by omega)
theorem blk_s {S : XS} {a lo n : Nat} {f : Nat → Int32} : sI (blk S a lo n f) a (lo + n) (f (lo + n)) = blk S a lo (n + 1) f := by
  refine Prod.ext (funext fun c => funext fun j => ?_) rfl
  show (if c = a ∧ j = lo + n then f (lo + n) else if c = a ∧ lo ≤ j ∧ j < lo + n then f j else S.1 c j) = if c = a ∧ lo ≤ j ∧ j < lo + (n + 1) then f j else S.1 c j
  by_cases h1 : c = a
  · by_cases h2 : j = lo + n
    · rw [if_pos ⟨h1, h2⟩, if_pos ⟨h1, by omega, by omega⟩, h2]
    · rw [if_neg (fun q => h2 q.2)]
      by_cases h3 : lo ≤ j ∧ j < lo + n
      · rw [if_pos ⟨h1, h3⟩, if_pos ⟨h1, by omega, by omega⟩]
      · rw [if_neg (fun q => h3 q.2), if_neg (fun q => h3 (by omega))]
  · rw [if_neg (fun q => h1 q.1), if_neg (fun q => h1 q.1), if_neg (fun q => h1 q.1)]
theorem Fr.blk {l : List (Nat × Nat)} {S T : XS} {a lo n : Nat} {f : Nat → Int32} (h : Fr l S T) (hc : l.contains (a, 9999) = true) : Fr l S (blk T a lo n f) := fun d j hd => by
  have hne : d ≠ a := fun q => by
    subst q
    unfold tch at hd
    rw [List.any_eq_false] at hd
    exact hd _ (List.contains_iff_mem.mp hc) (by simp)
  exact ⟨(by rw [blk_cell hne]; exact (h d j hd).1), (h d j hd).2⟩
theorem loop_blk {β : Type} {L : Nat → Int32 → XS → Option β} {a lo st m : Nat} {f : Nat → Int32} {S : XS} {R : Option β} (hstep : ∀ n k, k < m → L (n + 1) (oo (st + k)) (blk S a lo k f) = L n (oo (st + k + 1)) (sI (blk S a lo k f) a (lo + k) (f (lo + k)))) (hend : ∀ n, L (n + 1) (oo (st + m)) (blk S a lo m f) = R) : ∀ n, m < n → L n (oo st) S = R := by
  have key : ∀ d k n, k + d = m → d < n → L n (oo (st + k)) (blk S a lo k f) = R := by
    intro d
    induction d with
    | zero =>
      intro k n hk hn
      obtain ⟨n, rfl⟩ : ∃ n', n = n' + 1 := ⟨n - 1, by omega⟩
      obtain rfl : k = m := by omega
      exact hend n
    | succ d ih =>
      intro k n hk hn
      obtain ⟨n, rfl⟩ : ∃ n', n = n' + 1 := ⟨n - 1, by omega⟩
      rw [hstep n k (by omega), blk_s]
      exact ih (k + 1) n (by omega) (by omega)
  intro n hn
  have := key m 0 n (by omega) hn
  rw [blk_0] at this
  exact this
/-- rows lo, lo + 1 .. as a frame -/
def rows (lo n : Nat) : List (Nat × Nat) := (List.range n).map (fun k => (lo + k, 9999))
theorem rows_in {lo n c j : Nat} (h1 : lo ≤ c) (h2 : c < lo + n) : tch (rows lo n) c j = true := by
  unfold tch rows
  rw [List.any_eq_true]
  exact ⟨(lo + (c - lo), 9999), List.mem_map.mpr ⟨c - lo, List.mem_range.mpr (by omega), rfl⟩, by simp; omega⟩
theorem rows_out {lo n c : Nat} (h : c < lo ∨ lo + n ≤ c) : tcr (rows lo n) c = false := by
  unfold tcr rows
  rw [List.any_eq_false]
  intro q hq
  obtain ⟨k, hk, rfl⟩ := List.mem_map.mp hq
  have := List.mem_range.mp hk
  simp
  omega
theorem tch_app {l1 l2 : List (Nat × Nat)} {c j : Nat} : tch (l1 ++ l2) c j = (tch l1 c j || tch l2 c j) := List.any_append
theorem tcr_app {l1 l2 : List (Nat × Nat)} {c : Nat} : tcr (l1 ++ l2) c = (tcr l1 c || tcr l2 c) := List.any_append
theorem Fr.appL {l1 l2 : List (Nat × Nat)} {S T : XS} (h : Fr l1 S T) : Fr (l1 ++ l2) S T := fun c j hc => h c j (by rw [tch_app, Bool.or_eq_false_iff] at hc; exact hc.1)
theorem Fr.appR {l1 l2 : List (Nat × Nat)} {S T : XS} (h : Fr l2 S T) : Fr (l1 ++ l2) S T := fun c j hc => h c j (by rw [tch_app, Bool.or_eq_false_iff] at hc; exact hc.2)
/-! worlds copied -/
def wlen : List Nat := [0, 6, 6, 36, 48, 8, 8, 8]
def WdObj (w : Nat) : Prop := (rf w 1 = w + 1 ∧ rf w 2 = w + 2 ∧ rf w 3 = w + 3 ∧ rf w 5 = w + 4 ∧ rf w 6 = w + 5 ∧ rf w 7 = w + 6 ∧ rf w 8 = w + 7) ∧ ln (w + 1) = 6 ∧ ln (w + 2) = 6 ∧ ln (w + 3) = 36 ∧ ln (w + 4) = 48 ∧ ln (w + 5) = 8 ∧ ln (w + 6) = 8 ∧ ln (w + 7) = 8
theorem wd_28 : WdObj 28 := by unfold WdObj; decide
theorem wd_179 : WdObj 179 := by unfold WdObj; decide
theorem wd_past : ∀ q, q < 8 → WdObj (47 + 8 * q) ∧ rf 46 q = 47 + 8 * q := by unfold WdObj; decide
theorem wd_kept : ∀ q, q < 2 → WdObj (123 + 21 * q) ∧ rf 112 q = 123 + 21 * q := by unfold WdObj; decide
theorem cpy_same {S : XS} {a b j n : Nat} (ha : ln a = n) (hb : ln b = n) (h : j < n) : (cpy S a b).1 b j = S.1 a j := by
  unfold cpy cpI
  rw [ha, hb, Nat.min_self]
  exact if_pos ⟨rfl, h⟩
theorem cpy_cell {S : XS} {a b c : Nat} (h : c ≠ b) : (cpy S a b).1 c = S.1 c := funext fun j => if_neg (fun q => h q.1)
theorem cpy_long {S : XS} {a b : Nat} : (cpy S a b).2 = S.2 := rfl
section CPW
variable {S : XS} {a b : Nat} {v : Nat → Nat}
theorem cpW_all (ha : WdObj a) (hb : WdObj b) (hne : a + 8 ≤ b ∨ b + 8 ≤ a) : ((t_X10_copyFrom a b S).1 a 0 = S.1 b 0 ∧ (t_X10_copyFrom a b S).1 a 4 = S.1 b 4) ∧ (∀ i, i < 6 → (t_X10_copyFrom a b S).1 (a + 1) i = S.1 (b + 1) i) ∧ (∀ i, i < 6 → (t_X10_copyFrom a b S).1 (a + 2) i = S.1 (b + 2) i) ∧ (∀ i, i < 36 → (t_X10_copyFrom a b S).1 (a + 3) i = S.1 (b + 3) i) ∧ (∀ i, i < 48 → (t_X10_copyFrom a b S).1 (a + 4) i = S.1 (b + 4) i) ∧ (∀ i, i < 8 → (t_X10_copyFrom a b S).1 (a + 5) i = S.1 (b + 5) i) ∧ (∀ i, i < 8 → (t_X10_copyFrom a b S).1 (a + 6) i = S.1 (b + 6) i) ∧ (∀ i, i < 8 → (t_X10_copyFrom a b S).1 (a + 7) i = S.1 (b + 7) i) ∧ (∀ c, c < a ∨ a + 8 ≤ c → (t_X10_copyFrom a b S).1 c = S.1 c) ∧ (t_X10_copyFrom a b S).2 = S.2 := by
  obtain ⟨⟨r1, r2, r3, r5, r6, r7, r8⟩, l1, l2, l3, l4, l5, l6, l7⟩ := ha
  obtain ⟨⟨q1, q2, q3, q5, q6, q7, q8⟩, m1, m2, m3, m4, m5, m6, m7⟩ := hb
  unfold t_X10_copyFrom
  rw [r1, r2, r3, r5, r6, r7, r8, q1, q2, q3, q5, q6, q7, q8]
  refine ⟨⟨?_, ?_⟩, fun i hi => ?_, fun i hi => ?_, fun i hi => ?_, fun i hi => ?_, fun i hi => ?_, fun i hi => ?_, fun i hi => ?_, fun c hc => ?_, ?_⟩
  · simp (disch := omega) only [cpy_cell, sI_same, sI_place, sI_cell, sI_long, sL_int, sL_same, sL_place, sL_cell]
  · simp (disch := omega) only [cpy_cell, sI_same, sI_place, sI_cell, sI_long, sL_int, sL_same, sL_place, sL_cell]
  · simp (disch := omega) only [cpy_cell, cpy_same m1 l1, sI_same, sI_place, sI_cell, sI_long, sL_int, sL_same, sL_place, sL_cell]
  · simp (disch := omega) only [cpy_cell, cpy_same m2 l2, sI_same, sI_place, sI_cell, sI_long, sL_int, sL_same, sL_place, sL_cell]
  · simp (disch := omega) only [cpy_cell, cpy_same m3 l3, sI_same, sI_place, sI_cell, sI_long, sL_int, sL_same, sL_place, sL_cell]
  · simp (disch := omega) only [cpy_cell, cpy_same m4 l4, sI_same, sI_place, sI_cell, sI_long, sL_int, sL_same, sL_place, sL_cell]
  · simp (disch := omega) only [cpy_cell, cpy_same m5 l5, sI_same, sI_place, sI_cell, sI_long, sL_int, sL_same, sL_place, sL_cell]
  · simp (disch := omega) only [cpy_cell, cpy_same m6 l6, sI_same, sI_place, sI_cell, sI_long, sL_int, sL_same, sL_place, sL_cell]
  · simp (disch := omega) only [cpy_cell, cpy_same m7 l7, sI_same, sI_place, sI_cell, sI_long, sL_int, sL_same, sL_place, sL_cell]
  · simp (disch := omega) only [cpy_cell, sI_same, sI_place, sI_cell, sI_long, sL_int, sL_same, sL_place, sL_cell]
  · rfl
theorem cpW_is (ha : WdObj a) (hb : WdObj b) (hne : a + 8 ≤ b ∨ b + 8 ≤ a) (h : IsWd S b v) (h8 : v 193 ≤ 8) : IsWd (t_X10_copyFrom a b S) a v := by
  obtain ⟨⟨e0, e4⟩, e1, e2, e3, e5, e6, e7, e8, -⟩ := cpW_all (S := S) ha hb hne
  obtain ⟨w0, w1, w2, w3, w4, w5, w6⟩ := h
  refine ⟨e0.trans w0, fun i hi => (e1 i hi).trans (w1 i hi), fun i hi => (e2 i hi).trans (w2 i hi), fun c s hc hs => (e3 _ (by omega)).trans (w3 c s hc hs), e4.trans w4, fun c s hc hs => (e5 _ (by omega)).trans (w5 c s hc hs), fun c hc => ?_⟩
  obtain ⟨g1, g2, g3⟩ := w6 c hc
  exact ⟨(e6 c (by omega)).trans g1, (e7 c (by omega)).trans g2, (e8 c (by omega)).trans g3⟩
theorem cpW_fr (ha : WdObj a) (hb : WdObj b) (hne : a + 8 ≤ b ∨ b + 8 ≤ a) : Fr (rows a 8) S (t_X10_copyFrom a b S) := fun c j hc => by
  obtain ⟨-, -, -, -, -, -, -, -, e9, e10⟩ := cpW_all (S := S) ha hb hne
  have : c < a ∨ a + 8 ≤ c := by
    rcases Nat.lt_or_ge c a with h | h
    · exact .inl h
    · rcases Nat.lt_or_ge c (a + 8) with h2 | h2
      · rw [rows_in h h2] at hc; cases hc
      · exact .inr h2
  exact ⟨by rw [e9 c this], by rw [e10]⟩
theorem IsWd.ext {w : Nat → Nat} (h : IsWd S a v) (e : ∀ k, 144 ≤ k → k < 274 → v k = w k) (h8 : v 193 ≤ 8) : IsWd S a w := by
  obtain ⟨w0, w1, w2, w3, w4, w5, w6⟩ := h
  have e93 := e 193 (by decide) (by decide)
  refine ⟨by rw [← e 144 (by decide) (by decide)]; exact w0, fun i hi => ?_, fun i hi => ?_, fun c s hc hs => ?_, by rw [← e93]; exact w4, fun c s hc hs => ?_, fun c hc => ?_⟩
  · rw [← e _ (by omega) (by omega)]; exact w1 i hi
  · rw [← e _ (by omega) (by omega)]; exact w2 i hi
  · rw [← e _ (by omega) (by omega)]; exact w3 c s hc hs
  · rw [← e93] at hc
    rw [← e _ (by omega) (by omega)]; exact w5 c s hc hs
  · rw [← e93] at hc
    obtain ⟨g1, g2, g3⟩ := w6 c hc
    rw [← e _ (by omega) (by omega), ← e _ (by omega) (by omega), ← e _ (by omega) (by omega)]
    exact ⟨g1, g2, g3⟩
end CPW
theorem SOK.ext {v w : Nat → Nat} (h : SOK v) (hO : HOK v) (e : ∀ k, k < 274 → v k = w k) : SOK w := by
  obtain ⟨⟨b0, b1, b2, b3, b4, b5⟩, -⟩ := id hO
  obtain ⟨a1, a2, a3, a4, a5, a6, a7⟩ := h
  have e3 := e 3 (by decide)
  have e1 := e 1 (by decide)
  have e0 := e 0 (by decide)
  have e93 := e 193 (by decide)
  refine ⟨by rw [← e 144 (by decide)]; exact a1, fun w hw => ?_, fun w x hw hx => ?_, fun c s hc hs => ?_, by rw [← e93]; exact a5, fun c hc => ?_, fun c s hc hs => ?_⟩
  · rw [← e3] at hw ⊢
    rw [← e1, ← e _ (by omega), ← e _ (by omega)]
    exact a2 w hw
  · rw [← e3] at hw hx
    rw [← e _ (by omega), ← e _ (by omega)]
    exact a3 w x hw hx
  · rw [← e0, ← e _ (by omega)]
    exact a4 c s hc hs
  · rw [← e93] at hc
    have := a6 c hc
    rw [← e3, ← e (194 + 10 * c) (by omega), ← e _ (by omega), ← e _ (by omega), ← e _ (by omega), ← e _ (by omega)]
    exact this
  · rw [← e93] at hc
    rw [← e0, ← e _ (by omega)]
    exact a7 c s hc hs
