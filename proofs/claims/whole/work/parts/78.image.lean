/-! a run of places of a row of longs -/
def blkL (S : XS) (a lo n : Nat) (f : Nat → Int64) : XS := (S.1, fun c j => if c = a ∧ lo ≤ j ∧ j < lo + n then f j else S.2 c j)
theorem blkL_in {S : XS} {a lo n j : Nat} {f : Nat → Int64} (h : lo ≤ j ∧ j < lo + n) : (blkL S a lo n f).2 a j = f j := if_pos ⟨rfl, h⟩
theorem blkL_out {S : XS} {a lo n j : Nat} {f : Nat → Int64} (h : j < lo ∨ lo + n ≤ j) : (blkL S a lo n f).2 a j = S.2 a j := if_neg (by omega)
theorem blkL_cell {S : XS} {a lo n c : Nat} {f : Nat → Int64} (h : c ≠ a) : (blkL S a lo n f).2 c = S.2 c := funext fun j => if_neg (fun q => h q.1)
theorem blkL_int {S : XS} {a lo n : Nat} {f : Nat → Int64} : (blkL S a lo n f).1 = S.1 := rfl
theorem blkL_0 {S : XS} {a lo : Nat} {f : Nat → Int64} : blkL S a lo 0 f = S := by
  refine Prod.ext rfl (funext fun c => funext fun j => ?_)
  exact if_neg (by omega)
theorem blkL_s {S : XS} {a lo n : Nat} {f : Nat → Int64} : sL (blkL S a lo n f) a (lo + n) (f (lo + n)) = blkL S a lo (n + 1) f := by
  refine Prod.ext rfl (funext fun c => funext fun j => ?_)
  show (if c = a ∧ j = lo + n then f (lo + n) else if c = a ∧ lo ≤ j ∧ j < lo + n then f j else S.2 c j) = if c = a ∧ lo ≤ j ∧ j < lo + (n + 1) then f j else S.2 c j
  by_cases h1 : c = a
  · by_cases h2 : j = lo + n
    · rw [if_pos ⟨h1, h2⟩, if_pos ⟨h1, by omega, by omega⟩, h2]
    · rw [if_neg (fun q => h2 q.2)]
      by_cases h3 : lo ≤ j ∧ j < lo + n
      · rw [if_pos ⟨h1, h3⟩, if_pos ⟨h1, by omega, by omega⟩]
      · rw [if_neg (fun q => h3 q.2), if_neg (fun q => h3 (by omega))]
  · rw [if_neg (fun q => h1 q.1), if_neg (fun q => h1 q.1), if_neg (fun q => h1 q.1)]
theorem Fr.blkL {l : List (Nat × Nat)} {S T : XS} {a lo n : Nat} {f : Nat → Int64} (h : Fr l S T) (hc : l.contains (a, 9999) = true) : Fr l S (blkL T a lo n f) := fun d j hd => by
  have hne : d ≠ a := fun q => by
    subst q
    unfold tch at hd
    rw [List.any_eq_false] at hd
    exact hd _ (List.contains_iff_mem.mp hc) (by simp)
  exact ⟨(h d j hd).1, (by rw [blkL_cell hne]; exact (h d j hd).2)⟩
theorem loop_blkL {β : Type} {L : Nat → Int32 → XS → Option β} {a lo st m : Nat} {f : Nat → Int64} {S : XS} {R : Option β} (hstep : ∀ n k, k < m → L (n + 1) (oo (st + k)) (blkL S a lo k f) = L n (oo (st + k + 1)) (sL (blkL S a lo k f) a (lo + k) (f (lo + k)))) (hend : ∀ n, L (n + 1) (oo (st + m)) (blkL S a lo m f) = R) : ∀ n, m < n → L n (oo st) S = R := by
  have key : ∀ d k n, k + d = m → d < n → L n (oo (st + k)) (blkL S a lo k f) = R := by
    intro d
    induction d with
    | zero =>
      intro k n hk hn
      obtain ⟨n, rfl⟩ : ∃ n', n = n' + 1 := ⟨n - 1, by omega⟩
      obtain rfl : k = m := by omega
      exact hend n
    | succ d ih =>
      intro k n hk hn
      obtain ⟨n, rfl⟩ : ∃ n', n = n' + 1 := ⟨n - 1, by omega⟩
      rw [hstep n k (by omega), blkL_s]
      exact ih (k + 1) n (by omega) (by omega)
  intro n hn
  have := key m 0 n (by omega) hn
  rw [blkL_0] at this
  exact this
/-! hills and sentences copied -/
def HlObj (h : Nat) : Prop := (rf h 0 = h + 1 ∧ rf h 1 = h + 2 ∧ rf h 2 = h + 3 ∧ rf h 3 = h + 4 ∧ rf h 4 = h + 5 ∧ rf h 5 = h + 6 ∧ rf h 6 = h + 7 ∧ rf h 7 = h + 8) ∧ ln (h + 1) = 6 ∧ ln (h + 2) = 18 ∧ ln (h + 3) = 6 ∧ ln (h + 4) = 36 ∧ ln (h + 5) = 6 ∧ ln (h + 6) = 6 ∧ ln (h + 7) = 366 ∧ ln (h + 8) = 61
def SnObj (s : Nat) : Prop := (rf s 0 = s + 1 ∧ rf s 1 = s + 2 ∧ rf s 2 = s + 3) ∧ ln (s + 1) = 40 ∧ ln (s + 2) = 40 ∧ ln (s + 3) = 40
theorem hl_7 : HlObj 7 := by unfold HlObj; decide
theorem hl_17 : HlObj 17 := by unfold HlObj; decide
theorem hl_kept : ∀ q, q < 2 → HlObj (114 + 21 * q) ∧ rf 111 q = 114 + 21 * q := by unfold HlObj; decide
theorem sn_36 : SnObj 36 := by unfold SnObj; decide
theorem sn_41 : SnObj 41 := by unfold SnObj; decide
theorem sn_kept : ∀ q, q < 2 → SnObj (131 + 21 * q) ∧ rf 113 q = 131 + 21 * q := by unfold SnObj; decide
theorem cpJ_same {S : XS} {a b j n : Nat} (h : j < n) : (cpJ S a b n).2 b j = S.2 a j := if_pos ⟨rfl, h⟩
theorem cpJ_cell {S : XS} {a b c n : Nat} (h : c ≠ b) : (cpJ S a b n).2 c = S.2 c := funext fun j => if_neg (fun q => h q.1)
theorem cpJ_int {S : XS} {a b n : Nat} : (cpJ S a b n).1 = S.1 := rfl
section CPH
variable {S : XS} {a b : Nat} {v : Nat → Nat}
theorem cpH_all (ha : HlObj a) (hb : HlObj b) (hne : a + 9 ≤ b ∨ b + 9 ≤ a) : ∃ T, f_X2_copyFrom a b S = some T ∧ (∀ i, i < 6 → T.1 (a + 1) i = S.1 (b + 1) i) ∧ (∀ i, i < 18 → T.2 (a + 2) i = S.2 (b + 2) i) ∧ (∀ i, i < 6 → T.1 (a + 3) i = S.1 (b + 3) i) ∧ (∀ i, i < 36 → T.1 (a + 4) i = S.1 (b + 4) i) ∧ (∀ i, i < 6 → T.1 (a + 5) i = S.1 (b + 5) i) ∧ (∀ i, i < 6 → T.1 (a + 6) i = S.1 (b + 6) i) ∧ (∀ i, i < 366 → T.1 (a + 7) i = S.1 (b + 7) i) ∧ (∀ i, i < 61 → T.1 (a + 8) i = S.1 (b + 8) i) ∧ (∀ c, c < a ∨ a + 9 ≤ c → T.1 c = S.1 c ∧ T.2 c = S.2 c) := by
  obtain ⟨⟨r0, r1, r2, r3, r4, r5, r6, r7⟩, l1, l2, l3, l4, l5, l6, l7, l8⟩ := ha
  obtain ⟨⟨q0, q1, q2, q3, q4, q5, q6, q7⟩, m1, m2, m3, m4, m5, m6, m7, m8⟩ := hb
  have e18 : (18 : Int32).toNatClampNeg = 18 := rfl
  have c18 : ¬ ((18 : Int32) < 0 ∨ ln (b + 2) < (18 : Int32).toNatClampNeg ∨ ln (a + 2) < (18 : Int32).toNatClampNeg) := by
    rw [e18, m2, l2]
    decide
  unfold f_X2_copyFrom
  rw [r0, r1, r2, r3, r4, r5, r6, r7, q0, q1, q2, q3, q4, q5, q6, q7, if_neg c18, e18]
  refine ⟨_, rfl, fun i hi => ?_, fun i hi => ?_, fun i hi => ?_, fun i hi => ?_, fun i hi => ?_, fun i hi => ?_, fun i hi => ?_, fun i hi => ?_, fun c hc => ⟨?_, ?_⟩⟩
  · simp (disch := omega) only [cpy_cell, cpJ_int, cpy_same m1 l1]
  · simp (disch := omega) only [cpy_long, cpJ_same]
  · simp (disch := omega) only [cpy_cell, cpJ_int, cpy_same m3 l3]
  · simp (disch := omega) only [cpy_cell, cpJ_int, cpy_same m4 l4]
  · simp (disch := omega) only [cpy_cell, cpJ_int, cpy_same m5 l5]
  · simp (disch := omega) only [cpy_cell, cpJ_int, cpy_same m6 l6]
  · simp (disch := omega) only [cpy_cell, cpJ_int, cpy_same m7 l7]
  · simp (disch := omega) only [cpy_cell, cpJ_int, cpy_same m8 l8]
  · simp (disch := omega) only [cpy_cell, cpJ_int]
  · simp (disch := omega) only [cpy_long, cpJ_cell]
theorem NmOK.eq {x x' y y' : Nat → Int64} (h : NmOK x y v) (e : ∀ i, i < 18 → x' i = x i) (e' : ∀ i, i < 18 → y' i = y i) : NmOK x' y' v := by
  obtain ⟨d, hd⟩ := h
  refine ⟨d, fun i hi => ?_⟩
  rw [e i hi, e' i hi]
  exact hd i hi
theorem cpH_is (ha : HlObj a) (hb : HlObj b) (hne : a + 9 ≤ b ∨ b + 9 ≤ a) : ∃ T, f_X2_copyFrom a b S = some T ∧ (∀ v, IsHill S b v → IsHill T a v) ∧ (∀ i, i < 18 → T.2 (a + 2) i = S.2 (b + 2) i) ∧ Fr (rows a 9) S T := by
  obtain ⟨T, h0, h1, h2, h3, h4, h5, h6, h7, h8, h9⟩ := cpH_all (S := S) ha hb hne
  refine ⟨T, h0, fun v h => ?_, h2, fun c j hc => ?_⟩
  · obtain ⟨⟨c0, c1, c2, c3, c4, c5⟩, a1, a2, a3, a4, a5, a6⟩ := h
    refine ⟨⟨(h1 0 (by decide)).trans c0, (h1 1 (by decide)).trans c1, (h1 2 (by decide)).trans c2, (h1 3 (by decide)).trans c3, (h1 4 (by decide)).trans c4, (h1 5 (by decide)).trans c5⟩, fun s hs => (h3 s hs).trans (a1 s hs), fun p s hp hs => (h4 _ (by omega)).trans (a2 p s hp hs), fun w hw => (h5 w hw).trans (a3 w hw), fun w hw => (h6 w hw).trans (a4 w hw), fun t w ht hw => (h7 _ (by omega)).trans (a5 t w ht hw), fun t ht => (h8 t (by omega)).trans (a6 t ht)⟩
  · have : c < a ∨ a + 9 ≤ c := by
      rcases Nat.lt_or_ge c a with h | h
      · exact .inl h
      · rcases Nat.lt_or_ge c (a + 9) with h2 | h2
        · rw [rows_in h h2] at hc; cases hc
        · exact .inr h2
    exact ⟨by rw [(h9 c this).1], by rw [(h9 c this).2]⟩
theorem cpS_is (ha : SnObj a) (hb : SnObj b) (hne : a + 4 ≤ b ∨ b + 4 ≤ a) : (∀ v, SenOK S b v → SenOK (t_X6_copyFrom a b S) a v) ∧ Fr (rows a 4) S (t_X6_copyFrom a b S) := by
  obtain ⟨⟨r0, r1, r2⟩, l1, l2, l3⟩ := ha
  obtain ⟨⟨q0, q1, q2⟩, m1, m2, m3⟩ := hb
  unfold t_X6_copyFrom
  rw [r0, r1, r2, q0, q1, q2]
  refine ⟨fun v h => ?_, fun c j hc => ?_⟩
  · rcases h with ⟨h1, h2⟩ | ⟨h1, h2, h3, h4, h5⟩
    · exact .inl ⟨h1, by simp (disch := omega) only [cpy_cell, sI_same, sI_place, sI_cell, sI_long, sL_int, sL_same, sL_place, sL_cell]; exact h2⟩
    · refine .inr ⟨h1, h2, h3, by simp (disch := omega) only [cpy_cell, sI_same, sI_place, sI_cell, sI_long, sL_int, sL_same, sL_place, sL_cell]; exact h4, fun i hi => ?_⟩
      obtain ⟨g1, g2, g3⟩ := h5 i hi
      refine ⟨?_, ?_, ?_⟩
      · simp (disch := omega) only [cpy_cell, cpy_same m1 l1, sI_same, sI_place, sI_cell, sI_long, sL_int, sL_same, sL_place, sL_cell]; exact g1
      · simp (disch := omega) only [cpy_cell, cpy_same m2 l2, sI_same, sI_place, sI_cell, sI_long, sL_int, sL_same, sL_place, sL_cell]; exact g2
      · simp (disch := omega) only [cpy_cell, cpy_same m3 l3, sI_same, sI_place, sI_cell, sI_long, sL_int, sL_same, sL_place, sL_cell]; exact g3
  · have : c < a ∨ a + 4 ≤ c := by
      rcases Nat.lt_or_ge c a with h | h
      · exact .inl h
      · rcases Nat.lt_or_ge c (a + 4) with h2 | h2
        · rw [rows_in h h2] at hc; cases hc
        · exact .inr h2
    exact ⟨by simp (disch := omega) only [cpy_cell, sI_same, sI_place, sI_cell, sI_long, sL_int, sL_same, sL_place, sL_cell], by simp (disch := omega) only [cpy_long, sI_same, sI_place, sI_cell, sI_long, sL_int, sL_same, sL_place, sL_cell]⟩
end CPH
theorem senX {v w : Nat → Nat} (e : ∀ j, j < 516 → v j = w j) : ∀ f k, wfN v f k → postN v f k = postN w f k ∧ wfN w f k := by
  intro f
  induction f with
  | zero => intro k h; exact h.elim
  | succ f ih =>
    intro k h
    rw [wfN] at h
    obtain ⟨hk, h⟩ := h
    rw [postN, postN, wfN, ← e (276 + 4 * k) (by omega), ← e (276 + 4 * k + 1) (by omega), ← e (276 + 4 * k + 2) (by omega), ← e (276 + 4 * k + 3) (by omega)]
    by_cases c1 : v (276 + 4 * k) = 1
    · rw [if_pos c1] at h ⊢
      obtain ⟨g1, g2⟩ := ih _ h
      rw [if_pos c1, if_pos c1, g1]
      exact ⟨rfl, hk, g2⟩
    · rw [if_neg c1] at h ⊢
      rw [if_neg c1, if_neg c1]
      by_cases c2 : v (276 + 4 * k) = 2
      · rw [if_pos c2] at h ⊢
        obtain ⟨g1, g2⟩ := ih _ h.1
        obtain ⟨g3, g4⟩ := ih _ h.2
        rw [if_pos c2, if_pos c2, g1, g3]
        exact ⟨rfl, hk, g2, g4⟩
      · rw [if_neg c2] at h ⊢
        rw [if_neg c2, if_neg c2]
        by_cases c3 : v (276 + 4 * k) = 3
        · rw [if_pos c3] at h ⊢
          obtain ⟨g1, g2⟩ := ih _ h.1
          obtain ⟨g3, g4⟩ := ih _ h.2
          rw [if_pos c3, if_pos c3, g1, g3]
          exact ⟨rfl, hk, g2, g4⟩
        · rw [if_neg c3] at h ⊢
          rw [if_neg c3, if_neg c3]
          exact ⟨rfl, hk, h⟩
theorem wfN_lt {v : Nat → Nat} {f k : Nat} (h : wfN v f k) : k < 60 := by
  cases f with
  | zero => exact h.elim
  | succ f => exact h.1
theorem SenOK.ext2 {S : XS} {h : Nat} {v w : Nat → Nat} (hh : SenOK S h v) (e : ∀ k, k < 516 → v k = w k) : SenOK S h w := by
  unfold SenOK at hh ⊢
  rw [← e 274 (by decide), ← e 275 (by decide)]
  rcases hh with hh | ⟨h1, h2, h3⟩
  · exact .inl hh
  · obtain ⟨g1, g2⟩ := senX e 64 _ h2
    rw [g1] at h3
    exact .inr ⟨h1, g2, h3⟩
theorem IsWd.fr2 {l : List (Nat × Nat)} {S T : XS} {v : Nat → Nat} {w : Nat} (hh : IsWd S w v) (hF : Fr l S T) (hl : ∀ c, w ≤ c → c < w + 8 → tcr l c = false) : IsWd T w v := hh.fr hF (by
  rw [List.all_eq_true]; intro j hj
  have := List.mem_range.mp hj
  rw [hl _ (by omega) (by omega)]; rfl)
theorem IsHill.fr2 {l : List (Nat × Nat)} {S T : XS} {v : Nat → Nat} {w : Nat} (hh : IsHill S w v) (hF : Fr l S T) (hl : ∀ c, w + 1 ≤ c → c < w + 9 → tcr l c = false) : IsHill T w v := hh.fr hF (by
  rw [List.all_eq_true]; intro j hj
  have := List.mem_range.mp hj
  rw [hl _ (by omega) (by omega)]; rfl)
theorem SenOK.fr2 {l : List (Nat × Nat)} {S T : XS} {v : Nat → Nat} {w : Nat} (hh : SenOK S w v) (hF : Fr l S T) (hl : ∀ c, w ≤ c → c < w + 4 → tcr l c = false) : SenOK T w v := hh.fr hF (by
  rw [List.all_eq_true]; intro j hj
  have := List.mem_range.mp hj
  rw [hl _ (by omega) (by omega)]; rfl)
theorem RKept1.fr2 {l : List (Nat × Nat)} {S T : XS} {k : Nat} {w : Nat → Nat} {nm : Nat → Int64} (h : RKept1 S k w nm) (hF : Fr l S T) (hl : ∀ c, 114 + 21 * k ≤ c → c < 135 + 21 * k → tcr l c = false) : RKept1 T k w nm := by
  obtain ⟨a1, a2, a3, a4, a5, a6⟩ := h
  refine ⟨a1, a2, a3.fr2 hF (fun c h1 h2 => hl c (by omega) (by omega)), a4.fr2 hF (fun c h1 h2 => hl c (by omega) (by omega)), ?_, a6.fr2 hF (fun c h1 h2 => hl c (by omega) (by omega))⟩
  rw [hF.row2 (hl _ (by omega) (by omega))]
  exact a5
theorem RKept1.ext {S : XS} {k : Nat} {w x : Nat → Nat} {nm nx : Nat → Int64} (h : RKept1 S k w nm) (e : ∀ i, i < 516 → w i = x i) (e2 : ∀ i, i < 18 → nx i = nm i) : RKept1 S k x nx := by
  obtain ⟨a1, a2, a3, a4, a5, a6⟩ := h
  exact ⟨a1.ext (fun i hi => e i (by omega)), a2.ext a1 (fun i hi => e i (by omega)), a3.ext a1 (fun i hi => e i (by omega)), a4.ext (fun i h1 h2 => e i (by omega)) a2.c8, (a5.eq (fun _ _ => rfl) e2).ext (fun i hi => e i (by omega)), a6.ext2 e⟩
def IMG : List (Nat × Nat) := rows 114 42 ++ [(156, 9999), (192, 9999), (197, 9999), (198, 9999), (188, 0)]
theorem ag_image : Ag_image Rel := by
  intro S hR i
  obtain ⟨hT, hFa, hK, ⟨v, hv, hP⟩, hKe, hNo, hWa, hC, hD, hX⟩ := id hR; obtain ⟨hN, hO, hS, hH, hW, hNm, hSe⟩ := id hv; obtain ⟨⟨b0, b1, b2, b3, b4, b5⟩, -⟩ := id hO
  rcases rng i 2 (by decide) with ⟨k, hk, rfl⟩ | h | ⟨h, h2⟩
  · obtain ⟨hl1, hl2⟩ := hl_kept k hk
    obtain ⟨wk1, wk2⟩ := wd_kept k hk
    obtain ⟨sk1, sk2⟩ := sn_kept k hk
    obtain ⟨kk, kf, hkk, hkf⟩ := id hKe
    obtain ⟨T1, a1, a2, a3, a4⟩ := cpH_is (S := S) hl1 hl_7 (by omega)
    have sub : ∀ {lo n : Nat}, 114 ≤ lo → lo + n ≤ 156 → ∀ {A B : XS}, Fr (rows lo n) A B → Fr (rows 114 42) A B := fun h1 h2 A B hF c j hc => hF c j (by
      refine tcr_tch (rows_out ?_) j
      rcases Nat.lt_or_ge c 114 with g | g
      · omega
      · rcases Nat.lt_or_ge c 156 with g2 | g2
        · rw [rows_in g (by omega)] at hc; cases hc
        · omega)
    have b1 := cpW_is (S := T1) (v := v) wk1 wd_28 (by omega) (hW.fr2 a4 (fun c h1 h2 => rows_out (by omega))) hS.c8
    have b2 := cpW_fr (S := T1) wk1 wd_28 (by omega)
    generalize hT2 : t_X10_copyFrom (123 + 21 * k) 28 T1 = T2 at b1 b2
    have b3 : SenOK T2 36 v := (hSe.fr2 a4 (fun c h1 h2 => rows_out (by omega))).fr2 b2 (fun c h1 h2 => rows_out (by omega))
    obtain ⟨c1, c2⟩ := cpS_is (S := T2) sk1 sn_36 (by omega)
    have c3 := c1 v b3
    generalize hT3 : t_X6_copyFrom (131 + 21 * k) 36 T2 = T3 at c1 c2 c3
    have r1 : RKept1 T3 k v (S.2 195) := ⟨hO, hS, ((a2 v hH).fr2 b2 (fun c h1 h2 => rows_out (by omega))).fr2 c2 (fun c h1 h2 => rows_out (by omega)), b1.fr2 c2 (fun c h1 h2 => rows_out (by omega)), hNm.eq (fun i hi => by
      rw [c2.row2 (rows_out (by omega)), b2.row2 (rows_out (by omega))]
      have := a3 i hi
      rw [show 114 + 21 * k + 2 = 116 + 21 * k by omega] at this
      exact this) (fun _ _ => rfl), c3⟩
    have hF3k : Fr (rows (114 + 21 * k) 21) S T3 := by
      have sub2 : ∀ {lo n : Nat}, 114 + 21 * k ≤ lo → lo + n ≤ 135 + 21 * k → ∀ {A B : XS}, Fr (rows lo n) A B → Fr (rows (114 + 21 * k) 21) A B := fun h1 h2 A B hF c j hc => hF c j (by
        refine tcr_tch (rows_out ?_) j
        rcases Nat.lt_or_ge c (114 + 21 * k) with g | g
        · omega
        · rcases Nat.lt_or_ge c (135 + 21 * k) with g2 | g2
          · rw [rows_in g (by omega)] at hc; cases hc
          · omega)
      exact Fr.trans (sub2 (by omega) (by omega) a4) (Fr.trans (sub2 (by omega) (by omega) b2) (sub2 (by omega) (by omega) c2))
    have hF3 : Fr (rows 114 42) S T3 := Fr.trans (sub (by omega) (by omega) a4) (Fr.trans (sub (by omega) (by omega) b2) (sub (by omega) (by omega) c2))
    have hF4 : Fr IMG S (sI (sI T3 156 k (oo 1)) 188 0 (oo 0)) := Fr.sIp (Fr.sIr (hF3.mono (by decide)) (by decide)) (by decide)
    generalize hU : sI (sI T3 156 k (oo 1)) 188 0 (oo 0) = U at hF4
    have hnU : IsC U 190 516 v := hN.cell (hF4.row rfl)
    have l1 := loop_blk (L := f_X12_image_L18 188 (oo k)) (a := 192) (lo := 516 * k) (st := 0) (m := 516) (f := fun j => U.1 190 (j - 516 * k)) (S := U) (R := some (blk U 192 (516 * k) 516 (fun j => U.1 190 (j - 516 * k)))) (fun n z hz => by
      simp (disch := omega) only [f_X12_image_L18, ↓oo_m1, oo_0, oo_1, oo_2, oo_3, oo_4, oo_5, oo_6, oo_7, oo_8, oo_9, oo_10, oo_12, oo_13, oo_14, oo_15, oo_16, oo_17, oo_18, oo_20, oo_24, oo_30, oo_32, oo_36, oo_40, oo_41, oo_48, oo_50, oo_57, oo_59, oo_60, oo_61, oo_62, oo_63, oo_64, oo_66, oo_72, oo_78, oo_96, oo_97, oo_99, oo_100, oo_101, oo_105, oo_107, oo_108, oo_109, oo_110, oo_111, oo_112, oo_114, oo_115, oo_116, oo_117, oo_119, oo_122, oo_128, oo_130, oo_134, oo_135, oo_136, oo_137, oo_138, oo_139, oo_140, oo_141, oo_142, oo_143, oo_144, oo_145, oo_151, oo_157, oo_194, oo_200, oo_240, oo_255, oo_256, oo_274, oo_276, oo_300, oo_516, oo_900, oo_940, oo_941, oo_999, oo_1000, oo_1040, oo_10000, oo_add, oo_mul, oo_sub, oo_lt, oo_le, oo_eq, oo_nat, oo_div, oo_rem, oo_nn, nn_oo, oo_nnlt, nn_oolt, oo_nnle, nn_oole, ↓reduceIte, if_pos, if_neg, or_false, false_or, or_true, true_or, and_true, true_and, and_false, false_and, not_true_eq_false, not_false_eq_true, Nat.not_lt_zero, Bool.false_eq_true, Bool.true_eq_false, rf_188_1, rf_188_14, rf_188_15, rf_188_16, rf_188_17, rf_188_18, rf_188_19, rf_188_20, rf_188_21, rf_188_22, rf_188_24, rf_188_25, rf_188_26, rf_188_27, rf_188_28, rf_188_31, rf_188_32, rf_188_34, rf_188_35, rf_188_36, rf_188_37, rf_188_38, rf_188_42, rf_188_43, rf_188_51, rf_188_52, rf_188_53, rf_188_55, ln_190, ln_192, blk_cell, Nat.zero_add, Nat.add_sub_cancel_left]) (fun n => by
      simp (disch := omega) only [f_X12_image_L18, ↓oo_m1, oo_0, oo_1, oo_2, oo_3, oo_4, oo_5, oo_6, oo_7, oo_8, oo_9, oo_10, oo_12, oo_13, oo_14, oo_15, oo_16, oo_17, oo_18, oo_20, oo_24, oo_30, oo_32, oo_36, oo_40, oo_41, oo_48, oo_50, oo_57, oo_59, oo_60, oo_61, oo_62, oo_63, oo_64, oo_66, oo_72, oo_78, oo_96, oo_97, oo_99, oo_100, oo_101, oo_105, oo_107, oo_108, oo_109, oo_110, oo_111, oo_112, oo_114, oo_115, oo_116, oo_117, oo_119, oo_122, oo_128, oo_130, oo_134, oo_135, oo_136, oo_137, oo_138, oo_139, oo_140, oo_141, oo_142, oo_143, oo_144, oo_145, oo_151, oo_157, oo_194, oo_200, oo_240, oo_255, oo_256, oo_274, oo_276, oo_300, oo_516, oo_900, oo_940, oo_941, oo_999, oo_1000, oo_1040, oo_10000, oo_add, oo_mul, oo_sub, oo_lt, oo_le, oo_eq, oo_nat, oo_div, oo_rem, oo_nn, nn_oo, oo_nnlt, nn_oolt, oo_nnle, nn_oole, ↓reduceIte, if_pos, if_neg, or_false, false_or, or_true, true_or, and_true, true_and, and_false, false_and, not_true_eq_false, not_false_eq_true, Nat.not_lt_zero, Bool.false_eq_true, Bool.true_eq_false, sI_same, sI_place, sI_cell, sI_long, sL_int, sL_same, sL_place, sL_cell, Option.bind_some, Option.bind_none, rf_0_0, rf_0_1, rf_0_2, rf_0_3, rf_0_4, rf_0_5, rf_0_6, rf_0_7, rf_0_10, rf_0_11, rf_0_12, rf_0_13, rf_0_14, rf_0_15, rf_0_16, rf_0_17, rf_0_18, rf_1_0, rf_1_4, rf_1_5, rf_1_6, rf_1_7, rf_7_0, rf_7_1, rf_7_2, rf_7_3, rf_7_4, rf_7_5, rf_7_6, rf_7_7, rf_28_1, rf_28_2, rf_28_3, rf_28_5, rf_28_6, rf_28_7, rf_28_8, rf_188_1, rf_188_14, rf_188_15, rf_188_16, rf_188_17, rf_188_18, rf_188_19, rf_188_20, rf_188_21, rf_188_22, rf_188_24, rf_188_25, rf_188_26, rf_188_27, rf_188_28, rf_188_31, rf_188_32, rf_188_34, rf_188_35, rf_188_36, rf_188_37, rf_188_38, rf_188_42, rf_188_43, rf_188_51, rf_188_52, rf_188_53, rf_188_55, ln_190]) 1000000 (by decide)
    generalize hU2 : blk U 192 (516 * k) 516 (fun j => U.1 190 (j - 516 * k)) = U2 at l1
    have l2 := loop_blkL (L := f_X12_image_L51 188 (oo k)) (a := 197) (lo := 18 * k) (st := 0) (m := 18) (f := fun j => U2.2 195 (j - 18 * k)) (S := U2) (R := some (blkL U2 197 (18 * k) 18 (fun j => U2.2 195 (j - 18 * k)))) (fun n z hz => by
      simp (disch := omega) only [f_X12_image_L51, ↓oo_m1, oo_0, oo_1, oo_2, oo_3, oo_4, oo_5, oo_6, oo_7, oo_8, oo_9, oo_10, oo_12, oo_13, oo_14, oo_15, oo_16, oo_17, oo_18, oo_20, oo_24, oo_30, oo_32, oo_36, oo_40, oo_41, oo_48, oo_50, oo_57, oo_59, oo_60, oo_61, oo_62, oo_63, oo_64, oo_66, oo_72, oo_78, oo_96, oo_97, oo_99, oo_100, oo_101, oo_105, oo_107, oo_108, oo_109, oo_110, oo_111, oo_112, oo_114, oo_115, oo_116, oo_117, oo_119, oo_122, oo_128, oo_130, oo_134, oo_135, oo_136, oo_137, oo_138, oo_139, oo_140, oo_141, oo_142, oo_143, oo_144, oo_145, oo_151, oo_157, oo_194, oo_200, oo_240, oo_255, oo_256, oo_274, oo_276, oo_300, oo_516, oo_900, oo_940, oo_941, oo_999, oo_1000, oo_1040, oo_10000, oo_add, oo_mul, oo_sub, oo_lt, oo_le, oo_eq, oo_nat, oo_div, oo_rem, oo_nn, nn_oo, oo_nnlt, nn_oolt, oo_nnle, nn_oole, ↓reduceIte, if_pos, if_neg, or_false, false_or, or_true, true_or, and_true, true_and, and_false, false_and, not_true_eq_false, not_false_eq_true, Nat.not_lt_zero, Bool.false_eq_true, Bool.true_eq_false, rf_188_1, rf_188_14, rf_188_15, rf_188_16, rf_188_17, rf_188_18, rf_188_19, rf_188_20, rf_188_21, rf_188_22, rf_188_24, rf_188_25, rf_188_26, rf_188_27, rf_188_28, rf_188_31, rf_188_32, rf_188_34, rf_188_35, rf_188_36, rf_188_37, rf_188_38, rf_188_42, rf_188_43, rf_188_51, rf_188_52, rf_188_53, rf_188_55, ln_195, ln_197, blkL_cell, Nat.zero_add, Nat.add_sub_cancel_left]) (fun n => by
      simp (disch := omega) only [f_X12_image_L51, ↓oo_m1, oo_0, oo_1, oo_2, oo_3, oo_4, oo_5, oo_6, oo_7, oo_8, oo_9, oo_10, oo_12, oo_13, oo_14, oo_15, oo_16, oo_17, oo_18, oo_20, oo_24, oo_30, oo_32, oo_36, oo_40, oo_41, oo_48, oo_50, oo_57, oo_59, oo_60, oo_61, oo_62, oo_63, oo_64, oo_66, oo_72, oo_78, oo_96, oo_97, oo_99, oo_100, oo_101, oo_105, oo_107, oo_108, oo_109, oo_110, oo_111, oo_112, oo_114, oo_115, oo_116, oo_117, oo_119, oo_122, oo_128, oo_130, oo_134, oo_135, oo_136, oo_137, oo_138, oo_139, oo_140, oo_141, oo_142, oo_143, oo_144, oo_145, oo_151, oo_157, oo_194, oo_200, oo_240, oo_255, oo_256, oo_274, oo_276, oo_300, oo_516, oo_900, oo_940, oo_941, oo_999, oo_1000, oo_1040, oo_10000, oo_add, oo_mul, oo_sub, oo_lt, oo_le, oo_eq, oo_nat, oo_div, oo_rem, oo_nn, nn_oo, oo_nnlt, nn_oolt, oo_nnle, nn_oole, ↓reduceIte, if_pos, if_neg, or_false, false_or, or_true, true_or, and_true, true_and, and_false, false_and, not_true_eq_false, not_false_eq_true, Nat.not_lt_zero, Bool.false_eq_true, Bool.true_eq_false, sI_same, sI_place, sI_cell, sI_long, sL_int, sL_same, sL_place, sL_cell, Option.bind_some, Option.bind_none, rf_0_0, rf_0_1, rf_0_2, rf_0_3, rf_0_4, rf_0_5, rf_0_6, rf_0_7, rf_0_10, rf_0_11, rf_0_12, rf_0_13, rf_0_14, rf_0_15, rf_0_16, rf_0_17, rf_0_18, rf_1_0, rf_1_4, rf_1_5, rf_1_6, rf_1_7, rf_7_0, rf_7_1, rf_7_2, rf_7_3, rf_7_4, rf_7_5, rf_7_6, rf_7_7, rf_28_1, rf_28_2, rf_28_3, rf_28_5, rf_28_6, rf_28_7, rf_28_8, rf_188_1, rf_188_14, rf_188_15, rf_188_16, rf_188_17, rf_188_18, rf_188_19, rf_188_20, rf_188_21, rf_188_22, rf_188_24, rf_188_25, rf_188_26, rf_188_27, rf_188_28, rf_188_31, rf_188_32, rf_188_34, rf_188_35, rf_188_36, rf_188_37, rf_188_38, rf_188_42, rf_188_43, rf_188_51, rf_188_52, rf_188_53, rf_188_55, ln_190]) 1000000 (by decide)
    generalize hU3 : blkL U2 197 (18 * k) 18 (fun j => U2.2 195 (j - 18 * k)) = U3 at l2
    have hFV : Fr [(192, 9999), (197, 9999), (198, 9999)] U (sI U3 198 k (oo 1)) := by
      rw [← hU3, ← hU2]
      exact Fr.sIr (Fr.blkL (Fr.blk (Fr.rf _ _) rfl) rfl) rfl
    have hFT : Fr [(156, 9999), (188, 0), (192, 9999), (197, 9999), (198, 9999)] T3 (sI U3 198 k (oo 1)) := Fr.trans (by rw [← hU]; exact Fr.sIp (Fr.sIr (Fr.rf _ _) rfl) rfl) (hFV.mono rfl)
    have hFS : Fr IMG S (sI U3 198 k (oo 1)) := Fr.trans hF4 (hFV.mono (by decide))
    have k192 : ∀ j, j < 1032 → (sI U3 198 k (oo 1)).1 192 j = oo (if 516 * k ≤ j ∧ j < 516 * k + 516 then v (j - 516 * k) else kk j) := fun j hj => by
      rw [sI_cell (by decide), ← hU3, blkL_int, ← hU2]
      by_cases h : 516 * k ≤ j ∧ j < 516 * k + 516
      · rw [blk_in h, if_pos h]
        exact hnU _ (by omega)
      · rw [blk_out (by omega), if_neg h, ← hU]
        simp (disch := omega) only [sI_same, sI_place, sI_cell, sI_long, sL_int, sL_same, sL_place, sL_cell]
        rw [hF3.row (c := 192) rfl]
        exact hkk j hj
    have k197 : ∀ j, (sI U3 198 k (oo 1)).2 197 j = if 18 * k ≤ j ∧ j < 18 * k + 18 then S.2 195 (j - 18 * k) else S.2 197 j := fun j => by
      rw [sI_long, ← hU3]
      by_cases h : 18 * k ≤ j ∧ j < 18 * k + 18
      · rw [blkL_in h, if_pos h, ← hU2, blk_long, hF4.row2 (c := 195) rfl]
      · rw [blkL_out (by omega), if_neg h, ← hU2, blk_long, ← hU]
        show T3.2 197 j = _
        rw [hF3.row2 (c := 197) rfl]
    refine ⟨true, sI T3 156 k (oo 1), sI U3 198 k (oo 1), ?_, ?_, hT.fr hFS rfl, hFa.fr hFS rfl, hK.fr hFS rfl, ⟨v, hv.fr hFS rfl rfl rfl rfl, hP.fr hFS rfl rfl⟩, ?_, hNo.fr hFS rfl, hWa.fr hFS rfl, hC.fr hFS rfl, hD.fr hFS rfl, hX.fr hFS rfl⟩
    · simp (disch := omega) only [f_X11_image, f_X11_isImage, ↓oo_m1, oo_0, oo_1, oo_2, oo_3, oo_4, oo_5, oo_6, oo_7, oo_8, oo_9, oo_10, oo_12, oo_13, oo_14, oo_15, oo_16, oo_17, oo_18, oo_20, oo_24, oo_30, oo_32, oo_36, oo_40, oo_41, oo_48, oo_50, oo_57, oo_59, oo_60, oo_61, oo_62, oo_63, oo_64, oo_66, oo_72, oo_78, oo_96, oo_97, oo_99, oo_100, oo_101, oo_105, oo_107, oo_108, oo_109, oo_110, oo_111, oo_112, oo_114, oo_115, oo_116, oo_117, oo_119, oo_122, oo_128, oo_130, oo_134, oo_135, oo_136, oo_137, oo_138, oo_139, oo_140, oo_141, oo_142, oo_143, oo_144, oo_145, oo_151, oo_157, oo_194, oo_200, oo_240, oo_255, oo_256, oo_274, oo_276, oo_300, oo_516, oo_900, oo_940, oo_941, oo_999, oo_1000, oo_1040, oo_10000, oo_add, oo_mul, oo_sub, oo_lt, oo_le, oo_eq, oo_nat, oo_div, oo_rem, oo_nn, nn_oo, oo_nnlt, nn_oolt, oo_nnle, nn_oole, ↓reduceIte, if_pos, if_neg, or_false, false_or, or_true, true_or, and_true, true_and, and_false, false_and, not_true_eq_false, not_false_eq_true, Nat.not_lt_zero, Bool.false_eq_true, Bool.true_eq_false, Option.bind_some, Option.bind_none, rf_0_0, rf_0_1, rf_0_2, rf_0_3, rf_0_4, rf_0_5, rf_0_6, rf_0_7, rf_0_10, rf_0_11, rf_0_12, rf_0_13, rf_0_14, rf_0_15, rf_0_16, rf_0_17, rf_0_18, ln_111, ln_112, ln_113, hl2, wk2, sk2, a1, hT2, hT3, g_156, p_156]
    · simp (disch := omega) only [f_X12_image, t_X12_isIn, ↓oo_m1, oo_0, oo_1, oo_2, oo_3, oo_4, oo_5, oo_6, oo_7, oo_8, oo_9, oo_10, oo_12, oo_13, oo_14, oo_15, oo_16, oo_17, oo_18, oo_20, oo_24, oo_30, oo_32, oo_36, oo_40, oo_41, oo_48, oo_50, oo_57, oo_59, oo_60, oo_61, oo_62, oo_63, oo_64, oo_66, oo_72, oo_78, oo_96, oo_97, oo_99, oo_100, oo_101, oo_105, oo_107, oo_108, oo_109, oo_110, oo_111, oo_112, oo_114, oo_115, oo_116, oo_117, oo_119, oo_122, oo_128, oo_130, oo_134, oo_135, oo_136, oo_137, oo_138, oo_139, oo_140, oo_141, oo_142, oo_143, oo_144, oo_145, oo_151, oo_157, oo_194, oo_200, oo_240, oo_255, oo_256, oo_274, oo_276, oo_300, oo_516, oo_900, oo_940, oo_941, oo_999, oo_1000, oo_1040, oo_10000, oo_add, oo_mul, oo_sub, oo_lt, oo_le, oo_eq, oo_nat, oo_div, oo_rem, oo_nn, nn_oo, oo_nnlt, nn_oolt, oo_nnle, nn_oole, ↓reduceIte, if_pos, if_neg, or_false, false_or, or_true, true_or, and_true, true_and, and_false, false_and, not_true_eq_false, not_false_eq_true, Nat.not_lt_zero, Bool.false_eq_true, Bool.true_eq_false, Option.bind_some, Option.bind_none, rf_188_1, rf_188_14, rf_188_15, rf_188_16, rf_188_17, rf_188_18, rf_188_19, rf_188_20, rf_188_21, rf_188_22, rf_188_24, rf_188_25, rf_188_26, rf_188_27, rf_188_28, rf_188_31, rf_188_32, rf_188_34, rf_188_35, rf_188_36, rf_188_37, rf_188_38, rf_188_42, rf_188_43, rf_188_51, rf_188_52, rf_188_53, rf_188_55, ln_198, hU, l1, l2]
      rw [show vp_nar FieldType.boolean (oo 1) = oo 1 from rfl]
    · refine ⟨fun j => if 516 * k ≤ j ∧ j < 516 * k + 516 then v (j - 516 * k) else kk j, fun z => if z = k then 1 else kf z, k192, fun z hz => ?_⟩
      obtain ⟨p1, p2, p3, p4⟩ := hkf z hz
      by_cases hzk : z = k
      · subst hzk
        dsimp only
        rw [if_pos rfl]
        refine ⟨by decide, ?_, sI_same _ _ _ _, fun _ => ?_⟩
        · rw [hFV.get (c := 156) rfl, ← hU]
          simp (disch := omega) only [sI_same, sI_place, sI_cell, sI_long, sL_int, sL_same, sL_place, sL_cell]
        · refine (r1.fr2 hFT (fun c h1 h2 => by simp [tcr]; omega)).ext (fun i hi => ?_) (fun i hi => ?_)
          · show v i = if 516 * z ≤ 516 * z + i ∧ 516 * z + i < 516 * z + 516 then v (516 * z + i - 516 * z) else kk (516 * z + i)
            rw [if_pos (by omega)]
            exact congrArg v (by omega)
          · show (sI U3 198 z (oo 1)).2 197 (18 * z + i) = _
            rw [k197, if_pos (by omega)]
            exact congrArg (S.2 195) (by omega)
      · dsimp only
        rw [if_neg hzk]
        refine ⟨p1, ?_, ?_, fun hq => ?_⟩
        · rw [hFV.get (c := 156) rfl, ← hU]
          simp (disch := omega) only [sI_same, sI_place, sI_cell, sI_long, sL_int, sL_same, sL_place, sL_cell]
          rw [hF3.row (c := 156) rfl]
          exact p2
        · rw [sI_place hzk, ← hU3, blkL_int, ← hU2]
          simp (disch := omega) only [blk_cell]
          rw [← hU]
          simp (disch := omega) only [sI_same, sI_place, sI_cell, sI_long, sL_int, sL_same, sL_place, sL_cell]
          rw [hF3.row (c := 198) rfl]
          exact p3
        · refine (((p4 hq).fr2 hF3k (fun c h1 h2 => rows_out (by omega))).fr2 hFT (fun c h1 h2 => by simp [tcr]; omega)).ext (fun i hi => ?_) (fun i hi => ?_)
          · show kk (516 * z + i) = if 516 * k ≤ 516 * z + i ∧ 516 * z + i < 516 * k + 516 then v (516 * z + i - 516 * k) else kk (516 * z + i)
            rw [if_neg (by omega)]
          · show (sI U3 198 k (oo 1)).2 197 (18 * z + i) = _
            rw [k197, if_neg (by omega)]
  · refine ⟨false, S, sI S 188 0 (oo 0), ?_, ?_, hR.fr (Fr.sIp (Fr.rf [(188, 0)] S) rfl) rfl rfl rfl rfl rfl⟩
    · simp (disch := omega) only [f_X11_image, f_X11_isImage, hH.n0, hH.n1, hH.n2, hH.n3, hH.n4, hH.n5, hH.fade, hH.air, hH.keep, hH.start, hH.went, hH.rain, hW.hr, hW.pl, hW.wn, hW.ct, hW.cn, hW.cl, hW.cf, hW.li, hW.ca, hN _, ↓oo_m1, oo_0, oo_1, oo_2, oo_3, oo_4, oo_5, oo_6, oo_7, oo_8, oo_9, oo_10, oo_12, oo_13, oo_14, oo_15, oo_16, oo_17, oo_18, oo_20, oo_24, oo_30, oo_32, oo_36, oo_40, oo_41, oo_48, oo_50, oo_57, oo_59, oo_60, oo_61, oo_62, oo_63, oo_64, oo_66, oo_72, oo_78, oo_96, oo_97, oo_99, oo_100, oo_101, oo_105, oo_107, oo_108, oo_109, oo_110, oo_111, oo_112, oo_114, oo_115, oo_116, oo_117, oo_119, oo_122, oo_128, oo_130, oo_134, oo_135, oo_136, oo_137, oo_138, oo_139, oo_140, oo_141, oo_142, oo_143, oo_144, oo_145, oo_151, oo_157, oo_194, oo_200, oo_240, oo_255, oo_256, oo_274, oo_276, oo_300, oo_516, oo_900, oo_940, oo_941, oo_999, oo_1000, oo_1040, oo_10000, oo_add, oo_mul, oo_sub, oo_lt, oo_le, oo_eq, oo_nat, oo_div, oo_rem, oo_nn, nn_oo, oo_nnlt, nn_oolt, oo_nnle, nn_oole, ↓reduceIte, if_pos, if_neg, or_false, false_or, or_true, true_or, and_true, true_and, and_false, false_and, not_true_eq_false, not_false_eq_true, Nat.not_lt_zero, Bool.false_eq_true, Bool.true_eq_false, sI_same, sI_place, sI_cell, sI_long, sL_int, sL_same, sL_place, sL_cell, Option.bind_some, Option.bind_none, rf_0_0, rf_0_1, rf_0_2, rf_0_3, rf_0_4, rf_0_5, rf_0_6, rf_0_7, rf_0_10, rf_0_11, rf_0_12, rf_0_13, rf_0_14, rf_0_15, rf_0_16, rf_0_17, rf_0_18, rf_1_0, rf_1_4, rf_1_5, rf_1_6, rf_1_7, rf_7_0, rf_7_1, rf_7_2, rf_7_3, rf_7_4, rf_7_5, rf_7_6, rf_7_7, rf_28_1, rf_28_2, rf_28_3, rf_28_5, rf_28_6, rf_28_7, rf_28_8, rf_188_1, rf_188_14, rf_188_15, rf_188_16, rf_188_17, rf_188_18, rf_188_19, rf_188_20, rf_188_21, rf_188_22, rf_188_24, rf_188_25, rf_188_26, rf_188_27, rf_188_28, rf_188_31, rf_188_32, rf_188_34, rf_188_35, rf_188_36, rf_188_37, rf_188_38, rf_188_42, rf_188_43, rf_188_51, rf_188_52, rf_188_53, rf_188_55, ln_190, h]
    · simp (disch := omega) only [f_X12_image, t_X12_isIn, hH.n0, hH.n1, hH.n2, hH.n3, hH.n4, hH.n5, hH.fade, hH.air, hH.keep, hH.start, hH.went, hH.rain, hW.hr, hW.pl, hW.wn, hW.ct, hW.cn, hW.cl, hW.cf, hW.li, hW.ca, hN _, ↓oo_m1, oo_0, oo_1, oo_2, oo_3, oo_4, oo_5, oo_6, oo_7, oo_8, oo_9, oo_10, oo_12, oo_13, oo_14, oo_15, oo_16, oo_17, oo_18, oo_20, oo_24, oo_30, oo_32, oo_36, oo_40, oo_41, oo_48, oo_50, oo_57, oo_59, oo_60, oo_61, oo_62, oo_63, oo_64, oo_66, oo_72, oo_78, oo_96, oo_97, oo_99, oo_100, oo_101, oo_105, oo_107, oo_108, oo_109, oo_110, oo_111, oo_112, oo_114, oo_115, oo_116, oo_117, oo_119, oo_122, oo_128, oo_130, oo_134, oo_135, oo_136, oo_137, oo_138, oo_139, oo_140, oo_141, oo_142, oo_143, oo_144, oo_145, oo_151, oo_157, oo_194, oo_200, oo_240, oo_255, oo_256, oo_274, oo_276, oo_300, oo_516, oo_900, oo_940, oo_941, oo_999, oo_1000, oo_1040, oo_10000, oo_add, oo_mul, oo_sub, oo_lt, oo_le, oo_eq, oo_nat, oo_div, oo_rem, oo_nn, nn_oo, oo_nnlt, nn_oolt, oo_nnle, nn_oole, ↓reduceIte, if_pos, if_neg, or_false, false_or, or_true, true_or, and_true, true_and, and_false, false_and, not_true_eq_false, not_false_eq_true, Nat.not_lt_zero, Bool.false_eq_true, Bool.true_eq_false, sI_same, sI_place, sI_cell, sI_long, sL_int, sL_same, sL_place, sL_cell, Option.bind_some, Option.bind_none, rf_0_0, rf_0_1, rf_0_2, rf_0_3, rf_0_4, rf_0_5, rf_0_6, rf_0_7, rf_0_10, rf_0_11, rf_0_12, rf_0_13, rf_0_14, rf_0_15, rf_0_16, rf_0_17, rf_0_18, rf_1_0, rf_1_4, rf_1_5, rf_1_6, rf_1_7, rf_7_0, rf_7_1, rf_7_2, rf_7_3, rf_7_4, rf_7_5, rf_7_6, rf_7_7, rf_28_1, rf_28_2, rf_28_3, rf_28_5, rf_28_6, rf_28_7, rf_28_8, rf_188_1, rf_188_14, rf_188_15, rf_188_16, rf_188_17, rf_188_18, rf_188_19, rf_188_20, rf_188_21, rf_188_22, rf_188_24, rf_188_25, rf_188_26, rf_188_27, rf_188_28, rf_188_31, rf_188_32, rf_188_34, rf_188_35, rf_188_36, rf_188_37, rf_188_38, rf_188_42, rf_188_43, rf_188_51, rf_188_52, rf_188_53, rf_188_55, ln_190, h]
  · refine ⟨false, S, sI S 188 0 (oo 0), ?_, ?_, hR.fr (Fr.sIp (Fr.rf [(188, 0)] S) rfl) rfl rfl rfl rfl rfl⟩
    · simp (disch := omega) only [f_X11_image, f_X11_isImage, hH.n0, hH.n1, hH.n2, hH.n3, hH.n4, hH.n5, hH.fade, hH.air, hH.keep, hH.start, hH.went, hH.rain, hW.hr, hW.pl, hW.wn, hW.ct, hW.cn, hW.cl, hW.cf, hW.li, hW.ca, hN _, ↓oo_m1, oo_0, oo_1, oo_2, oo_3, oo_4, oo_5, oo_6, oo_7, oo_8, oo_9, oo_10, oo_12, oo_13, oo_14, oo_15, oo_16, oo_17, oo_18, oo_20, oo_24, oo_30, oo_32, oo_36, oo_40, oo_41, oo_48, oo_50, oo_57, oo_59, oo_60, oo_61, oo_62, oo_63, oo_64, oo_66, oo_72, oo_78, oo_96, oo_97, oo_99, oo_100, oo_101, oo_105, oo_107, oo_108, oo_109, oo_110, oo_111, oo_112, oo_114, oo_115, oo_116, oo_117, oo_119, oo_122, oo_128, oo_130, oo_134, oo_135, oo_136, oo_137, oo_138, oo_139, oo_140, oo_141, oo_142, oo_143, oo_144, oo_145, oo_151, oo_157, oo_194, oo_200, oo_240, oo_255, oo_256, oo_274, oo_276, oo_300, oo_516, oo_900, oo_940, oo_941, oo_999, oo_1000, oo_1040, oo_10000, oo_add, oo_mul, oo_sub, oo_lt, oo_le, oo_eq, oo_nat, oo_div, oo_rem, oo_nn, nn_oo, oo_nnlt, nn_oolt, oo_nnle, nn_oole, ↓reduceIte, if_pos, if_neg, or_false, false_or, or_true, true_or, and_true, true_and, and_false, false_and, not_true_eq_false, not_false_eq_true, Nat.not_lt_zero, Bool.false_eq_true, Bool.true_eq_false, sI_same, sI_place, sI_cell, sI_long, sL_int, sL_same, sL_place, sL_cell, Option.bind_some, Option.bind_none, rf_0_0, rf_0_1, rf_0_2, rf_0_3, rf_0_4, rf_0_5, rf_0_6, rf_0_7, rf_0_10, rf_0_11, rf_0_12, rf_0_13, rf_0_14, rf_0_15, rf_0_16, rf_0_17, rf_0_18, rf_1_0, rf_1_4, rf_1_5, rf_1_6, rf_1_7, rf_7_0, rf_7_1, rf_7_2, rf_7_3, rf_7_4, rf_7_5, rf_7_6, rf_7_7, rf_28_1, rf_28_2, rf_28_3, rf_28_5, rf_28_6, rf_28_7, rf_28_8, rf_188_1, rf_188_14, rf_188_15, rf_188_16, rf_188_17, rf_188_18, rf_188_19, rf_188_20, rf_188_21, rf_188_22, rf_188_24, rf_188_25, rf_188_26, rf_188_27, rf_188_28, rf_188_31, rf_188_32, rf_188_34, rf_188_35, rf_188_36, rf_188_37, rf_188_38, rf_188_42, rf_188_43, rf_188_51, rf_188_52, rf_188_53, rf_188_55, ln_190, h, h2]
    · have h3 : oo 1 < i := by
        rw [Int32.lt_iff_toInt_lt, oo_int (by decide)]
        rw [Int32.le_iff_toInt_le, oo_int (by decide)] at h2
        omega
      simp (disch := omega) only [f_X12_image, t_X12_isIn, hH.n0, hH.n1, hH.n2, hH.n3, hH.n4, hH.n5, hH.fade, hH.air, hH.keep, hH.start, hH.went, hH.rain, hW.hr, hW.pl, hW.wn, hW.ct, hW.cn, hW.cl, hW.cf, hW.li, hW.ca, hN _, ↓oo_m1, oo_0, oo_1, oo_2, oo_3, oo_4, oo_5, oo_6, oo_7, oo_8, oo_9, oo_10, oo_12, oo_13, oo_14, oo_15, oo_16, oo_17, oo_18, oo_20, oo_24, oo_30, oo_32, oo_36, oo_40, oo_41, oo_48, oo_50, oo_57, oo_59, oo_60, oo_61, oo_62, oo_63, oo_64, oo_66, oo_72, oo_78, oo_96, oo_97, oo_99, oo_100, oo_101, oo_105, oo_107, oo_108, oo_109, oo_110, oo_111, oo_112, oo_114, oo_115, oo_116, oo_117, oo_119, oo_122, oo_128, oo_130, oo_134, oo_135, oo_136, oo_137, oo_138, oo_139, oo_140, oo_141, oo_142, oo_143, oo_144, oo_145, oo_151, oo_157, oo_194, oo_200, oo_240, oo_255, oo_256, oo_274, oo_276, oo_300, oo_516, oo_900, oo_940, oo_941, oo_999, oo_1000, oo_1040, oo_10000, oo_add, oo_mul, oo_sub, oo_lt, oo_le, oo_eq, oo_nat, oo_div, oo_rem, oo_nn, nn_oo, oo_nnlt, nn_oolt, oo_nnle, nn_oole, ↓reduceIte, if_pos, if_neg, or_false, false_or, or_true, true_or, and_true, true_and, and_false, false_and, not_true_eq_false, not_false_eq_true, Nat.not_lt_zero, Bool.false_eq_true, Bool.true_eq_false, sI_same, sI_place, sI_cell, sI_long, sL_int, sL_same, sL_place, sL_cell, Option.bind_some, Option.bind_none, rf_0_0, rf_0_1, rf_0_2, rf_0_3, rf_0_4, rf_0_5, rf_0_6, rf_0_7, rf_0_10, rf_0_11, rf_0_12, rf_0_13, rf_0_14, rf_0_15, rf_0_16, rf_0_17, rf_0_18, rf_1_0, rf_1_4, rf_1_5, rf_1_6, rf_1_7, rf_7_0, rf_7_1, rf_7_2, rf_7_3, rf_7_4, rf_7_5, rf_7_6, rf_7_7, rf_28_1, rf_28_2, rf_28_3, rf_28_5, rf_28_6, rf_28_7, rf_28_8, rf_188_1, rf_188_14, rf_188_15, rf_188_16, rf_188_17, rf_188_18, rf_188_19, rf_188_20, rf_188_21, rf_188_22, rf_188_24, rf_188_25, rf_188_26, rf_188_27, rf_188_28, rf_188_31, rf_188_32, rf_188_34, rf_188_35, rf_188_36, rf_188_37, rf_188_38, rf_188_42, rf_188_43, rf_188_51, rf_188_52, rf_188_53, rf_188_55, ln_190, h, h3]
