/-! a HILL read: what class and reference have of it while they read -/
def skF (v : Nat → Nat) (s a c : Nat) : Nat → Nat
  | 0 => 0
  | n + 1 => if v (48 + 3 * n) = s ∧ v (48 + 3 * n + 1) = a ∧ v (48 + 3 * n + 2) = c then 1 else skF v s a c n
def DOK (d : Nat → List Nat) (v : Nat → Nat) (S T : XS) : Prop := ∀ srt, srt < 3 → ∀ k, k < 6 → (k < v (mnI srt) → isLs (d (srt * 6 + k)) ∧ d (srt * 6 + k) ≠ [] ∧ S.2 19 (srt * 6 + k) = pk8 (d (srt * 6 + k)) ∧ T.2 196 (srt * 6 + k) = pk27 (d (srt * 6 + k))) ∧ (v (mnI srt) ≤ k → S.2 19 (srt * 6 + k) = 0)
def HRel (d : Nat → List Nat) (v : Nat → Nat) (S T : XS) : Prop := HOK v ∧ IsHill S 17 v ∧ IsC T 191 144 v ∧ DOK d v S T ∧ (∀ p s, p < 6 → s < 6 → S.1 26 (p * 6 + s) = oo (v (12 + 6 * p + s))) ∧ (∀ s a c, s < 6 → a < 6 → c < 6 → S.1 27 ((s * 6 + a) * 6 + c) = oo (skF v s a c (v 2))) ∧ (∀ p s, v 1 ≤ p → p < 6 → s < 6 → v (12 + 6 * p + s) = 0)
def FHC : List (Nat × Nat) := [(1, 9), (1, 10), (1, 11), (1, 2), (1, 3), (18, 9999), (19, 9999), (20, 9999), (21, 9999), (22, 9999), (23, 9999), (24, 9999), (25, 9999), (26, 9999), (27, 9999)]
def FHD : List (Nat × Nat) := [(1, 9), (1, 10), (1, 11), (18, 9999), (19, 9999), (20, 9999), (21, 9999), (22, 9999), (23, 9999), (24, 9999), (25, 9999), (26, 9999), (27, 9999)]
def FHN : List (Nat × Nat) := [(188, 5), (188, 6), (188, 7), (188, 8), (188, 9), (188, 12), (188, 13), (188, 10), (188, 11), (191, 9999), (196, 9999)]
def FHO : List (Nat × Nat) := [(188, 5), (188, 6), (188, 7), (188, 8), (188, 9), (188, 12), (188, 13), (191, 9999), (196, 9999)]
theorem skF_le (v : Nat → Nat) (s a c : Nat) : ∀ n, skF v s a c n ≤ 1 := by
  intro n
  induction n with
  | zero => exact Nat.zero_le _
  | succ n ih =>
    rw [skF]
    split
    · exact Nat.le_refl _
    · exact ih
theorem skF_iff {v : Nat → Nat} {s a c : Nat} : ∀ n, (skF v s a c n ≠ 0 ↔ ∃ j, j < n ∧ v (48 + 3 * j) = s ∧ v (48 + 3 * j + 1) = a ∧ v (48 + 3 * j + 2) = c) := by
  intro n
  induction n with
  | zero => exact ⟨fun h => absurd rfl h, fun ⟨j, h, _⟩ => absurd h (Nat.not_lt_zero _)⟩
  | succ n ih =>
    rw [skF]
    by_cases h : v (48 + 3 * n) = s ∧ v (48 + 3 * n + 1) = a ∧ v (48 + 3 * n + 2) = c
    · rw [if_pos h]
      exact ⟨fun _ => ⟨n, by omega, h⟩, fun _ => by decide⟩
    · rw [if_neg h, ih]
      exact ⟨fun ⟨j, j1, j2⟩ => ⟨j, by omega, j2⟩, fun ⟨j, j1, j2⟩ => ⟨j, by
        rcases Nat.lt_or_ge j n with q | q
        · exact q
        · obtain rfl : j = n := by omega
          exact absurd j2 h, j2⟩⟩
theorem wtF_iff {v : Nat → Nat} {w t : Nat} : ∀ n, (wtN v w t n ≠ 0 ↔ ∃ j, j < n ∧ v (78 + 3 * j) = w ∧ v (78 + 3 * j + 1) = t) := by
  intro n
  induction n with
  | zero => exact ⟨fun h => absurd rfl h, fun ⟨j, h, _⟩ => absurd h (Nat.not_lt_zero _)⟩
  | succ n ih =>
    rw [wtN]
    by_cases h : v (78 + 3 * n) = w ∧ v (78 + 3 * n + 1) = t
    · rw [if_pos h]
      exact ⟨fun _ => ⟨n, by omega, h⟩, fun _ => by omega⟩
    · rw [if_neg h, ih]
      exact ⟨fun ⟨j, j1, j2⟩ => ⟨j, by omega, j2⟩, fun ⟨j, j1, j2⟩ => ⟨j, by
        rcases Nat.lt_or_ge j n with q | q
        · exact q
        · obtain rfl : j = n := by omega
          exact absurd j2 h, j2⟩⟩
/-! what is told does not hang on what else is told -/
theorem smkN_cg {v w : Nat → Nat} {p s : Nat} (hs : s < 6) : ∀ m k, k + m ≤ 6 → (∀ j, k ≤ j → j < k + m → v (48 + 3 * j) = w (48 + 3 * j) ∧ v (48 + 3 * j + 1) = w (48 + 3 * j + 1) ∧ v (48 + 3 * j + 2) = w (48 + 3 * j + 2) ∧ v (12 + 6 * v (48 + 3 * j + 1) + s) = w (12 + 6 * v (48 + 3 * j + 1) + s)) → smkN v p s k m = smkN w p s k m := by
  intro m
  induction m with
  | zero => intro k _ _; rfl
  | succ m ih =>
    intro k hk h
    obtain ⟨a1, a2, a3, a4⟩ := h k (Nat.le_refl _) (by omega)
    rw [smkN, smkN, ih (k + 1) (by omega) (fun j h1 h2 => h j (by omega) (by omega)), a4, ← a1, ← a2, ← a3]
theorem smkN_snoc {v : Nat → Nat} {p s : Nat} : ∀ m k, smkN v p s k (m + 1) = smkN v p s k m + (if v (48 + 3 * (k + m)) = s ∧ v (48 + 3 * (k + m) + 2) = p then v (12 + 6 * v (48 + 3 * (k + m) + 1) + s) / 2 else 0) := by
  intro m
  induction m with
  | zero =>
    intro k
    simp only [smkN, Nat.add_zero, Nat.zero_add]
  | succ m ih =>
    intro k
    rw [smkN, ih (k + 1), smkN, show k + 1 + m = k + (m + 1) by omega]
    omega
theorem wtN_cg {v w : Nat → Nat} {x t : Nat} : ∀ n, (∀ j, j < n → v (78 + 3 * j) = w (78 + 3 * j) ∧ v (78 + 3 * j + 1) = w (78 + 3 * j + 1) ∧ v (78 + 3 * j + 2) = w (78 + 3 * j + 2)) → wtN v x t n = wtN w x t n := by
  intro n
  induction n with
  | zero => intro _; rfl
  | succ n ih =>
    intro h
    obtain ⟨a1, a2, a3⟩ := h n (by omega)
    rw [wtN, wtN, ih (fun j hj => h j (by omega)), a1, a2, a3]
theorem rnN_cg {v w : Nat → Nat} {t : Nat} : ∀ n, (∀ j, j < n → v (138 + j) = w (138 + j)) → rnN v t n = rnN w t n := by
  intro n
  induction n with
  | zero => intro _; rfl
  | succ n ih =>
    intro h
    rw [rnN, rnN, ih (fun j hj => h j (by omega)), h n (by omega)]
theorem skF_cg {v w : Nat → Nat} {s a c : Nat} : ∀ n, (∀ j, j < n → v (48 + 3 * j) = w (48 + 3 * j) ∧ v (48 + 3 * j + 1) = w (48 + 3 * j + 1) ∧ v (48 + 3 * j + 2) = w (48 + 3 * j + 2)) → skF v s a c n = skF w s a c n := by
  intro n
  induction n with
  | zero => intro _; rfl
  | succ n ih =>
    intro h
    obtain ⟨a1, a2, a3⟩ := h n (by omega)
    rw [skF, skF, ih (fun j hj => h j (by omega)), a1, a2, a3]
/-- all but what a line tells stays -/
theorem airN_cg {v w : Nat → Nat} (hv : HOK v) (h2 : w 2 = v 2) (h : ∀ j, 12 ≤ j → j < 66 → w j = v j) {p s : Nat} (hp : p < 6) (hs : s < 6) : airN w p s = airN v p s := by
  obtain ⟨⟨b0, b1, b2, b3, b4, b5⟩, -, -, hsm, -⟩ := hv
  unfold airN
  rw [h2, h _ (by omega) (by omega), ← smkN_cg (v := v) (w := w) hs (v 2) 0 (by omega) (fun j j1 j2 => by
    obtain ⟨c1, c2, c3⟩ := hsm j (by omega)
    exact ⟨(h _ (by omega) (by omega)).symm, (h _ (by omega) (by omega)).symm, (h _ (by omega) (by omega)).symm, (h _ (by omega) (by omega)).symm⟩)]
section HL
variable {x : TX} {L i : Nat} {S T : XS} {d : Nat → List Nat} {v : Nat → Nat}
theorem DOK.c (h : DOK d v S T) : ∀ srt, srt < 3 → ∀ k, k < 6 → (k < v (mnI srt) → isLs (d (srt * 6 + k)) ∧ S.2 19 (srt * 6 + k) = pk8 (d (srt * 6 + k))) ∧ (v (mnI srt) ≤ k → S.2 19 (srt * 6 + k) = 0) := fun srt hs k hk => ⟨fun q => ⟨((h srt hs k hk).1 q).1, ((h srt hs k hk).1 q).2.2.1⟩, (h srt hs k hk).2⟩
theorem mnI_b (hO : HOK v) {srt : Nat} (hs : srt < 3) : v (mnI srt) ≤ 6 := by
  obtain ⟨⟨b0, b1, b2, b3, b4, b5⟩, -⟩ := hO
  rcases (show srt = 0 ∨ srt = 1 ∨ srt = 2 by omega) with rfl | rfl | rfl
  · exact b0
  · exact b1
  · exact b3
theorem DOK.n (hO : HOK v) (h : DOK d v S T) : ∀ srt, srt < 3 → ∀ k, k < v (mnI srt) → T.2 196 (srt * 6 + k) = pk27 (d (srt * 6 + k)) := fun srt hs k hk => ((h srt hs k (by have := mnI_b hO hs; omega)).1 hk).2.2.2
theorem DOK.fr {l m : List (Nat × Nat)} {U V : XS} (h : DOK d v S T) (h1 : Fr l S U) (h2 : Fr m T V) (hl : tcr l 19 = false) (hm : tcr m 196 = false) : DOK d v U V := by
  unfold DOK at h ⊢
  rw [h1.row2 hl, h2.row2 hm]
  exact h
theorem HRel.fr {l m : List (Nat × Nat)} {U V : XS} (h : HRel d v S T) (h1 : Fr l S U) (h2 : Fr m T V) (hl : (List.range 10).all (fun j => !tcr l (18 + j)) = true) (hm : ntc m [] [191, 196] = true) : HRel d v U V := by
  have k : ∀ c, 18 ≤ c → c < 28 → tcr l c = false := fun c c1 c2 => by
    have := List.all_eq_true.mp hl (c - 18) (List.mem_range.mpr (by omega))
    rw [show 18 + (c - 18) = c by omega] at this
    simpa using this
  obtain ⟨a1, a2, a3, a4, a5, a6, a7⟩ := h
  refine ⟨a1, a2.eq (fun j j1 j2 _ => h1.row (k _ (by omega) (by omega))), a3.cell (h2.row (ntc_r hm (c := 191) rfl)), a4.fr h1 h2 (k 19 (by decide) (by decide)) (ntc_r hm (c := 196) rfl), ?_, ?_, a7⟩
  · rw [h1.row (k 26 (by decide) (by decide))]
    exact a5
  · rw [h1.row (k 27 (by decide) (by decide))]
    exact a6
/-- a name that is new -/
theorem new_p {srt : Nat} (hx : xok x L) (hS : AtC x L i S) (hT : AtN x i T) (hO : HOK v) (hs : srt < 3) (hD : DOK d v S T) (hm : v (mnI srt) < 6) (hmc : S.1 18 srt = oo (v (mnI srt))) (t0 : T.1 191 0 = oo (v 0)) (t1 : T.1 191 1 = oo (v 1)) (t3 : T.1 191 3 = oo (v 3)) :
    (∃ U V, f_X8_takeNew 1 17 (oo srt) S = some (false, U) ∧ f_X12_readNew 188 (oo (srt * 6 + v (mnI srt))) T = some (false, V) ∧ Bad U V ∧ Fr FFC S U ∧ Fr FFN T V) ∨
    (∃ U V l, i < L ∧ isLs l ∧ l ≠ [] ∧ f_X8_takeNew 1 17 (oo srt) S = some (true, U) ∧ f_X12_readNew 188 (oo (srt * 6 + v (mnI srt))) T = some (true, V) ∧ AtC x L (i + 1) U ∧ AtN x (i + 1) V ∧ U.1 1 11 = oo (v (mnI srt)) ∧ U.1 18 srt = oo (v (mnI srt) + 1) ∧ (∀ j, j ≠ srt → U.1 18 j = S.1 18 j) ∧ U.2 19 (srt * 6 + v (mnI srt)) = pk8 l ∧ (∀ j, j ≠ srt * 6 + v (mnI srt) → U.2 19 j = S.2 19 j) ∧ V.2 196 (srt * 6 + v (mnI srt)) = pk27 l ∧ (∀ j, j ≠ srt * 6 + v (mnI srt) → V.2 196 j = T.2 196 j) ∧ Fr [(1, 9), (1, 10), (1, 11), (18, 9999), (19, 9999)] S U ∧ Fr [(188, 5), (188, 6), (188, 7), (188, 8), (188, 9), (188, 12), (196, 9999)] T V) := by
  have hi : i ≤ L := hS.1
  have hlt := xK_lt hx hi
  have hnm := isName_n hx hT hi
  have e10 : S.1 1 10 = oo (xK x i) := hS.2.2.2
  by_cases hk : xK x i = 2
  · obtain ⟨l1, l2, l3⟩ := xK_2 hx hi hk
    have hiL := xlt hx hi (by omega) (by omega)
    have hcc := content_c hx hS hk
    have e12 : T.2 188 12 = pk27 (xW x i) := hT.2.2.2.2.2.2.2.1 (.inl hk)
    have n0 := number_c (S := S) (h := 17) (c := 19) (srt := 0) (many := v 0) (d := d) rfl ln_19 (by decide) (mnI_b hO (srt := 0) (by decide)) l1 l2 (hD.c 0 (by decide))
    have n1 := number_c (S := S) (h := 17) (c := 19) (srt := 1) (many := v 1) (d := d) rfl ln_19 (by decide) (mnI_b hO (srt := 1) (by decide)) l1 l2 (hD.c 1 (by decide))
    have n2 := number_c (S := S) (h := 17) (c := 19) (srt := 2) (many := v 3) (d := d) rfl ln_19 (by decide) (mnI_b hO (srt := 2) (by decide)) l1 l2 (hD.c 2 (by decide))
    have m0 := find_n (T := T) (c := 196) (base := 0) (many := v 0) (l := xW x i) (d := d) ln_196 (by have := mnI_b hO (srt := 0) (by decide); show 0 + v (mnI 0) ≤ 18; omega) l1 (fun k q => ⟨((hD 0 (by decide) k (by have := mnI_b hO (srt := 0) (by decide); exact Nat.lt_of_lt_of_le q this)).1 q).1, hD.n hO 0 (by decide) k q⟩)
    have m1 := find_n (T := T) (c := 196) (base := 6) (many := v 1) (l := xW x i) (d := d) ln_196 (by have := mnI_b hO (srt := 1) (by decide); show 6 + v (mnI 1) ≤ 18; omega) l1 (fun k q => ⟨((hD 1 (by decide) k (by have := mnI_b hO (srt := 1) (by decide); exact Nat.lt_of_lt_of_le q this)).1 q).1, hD.n hO 1 (by decide) k q⟩)
    have m2 := find_n (T := T) (c := 196) (base := 12) (many := v 3) (l := xW x i) (d := d) ln_196 (by have := mnI_b hO (srt := 2) (by decide); show 12 + v (mnI 2) ≤ 18; omega) l1 (fun k q => ⟨((hD 2 (by decide) k (by have := mnI_b hO (srt := 2) (by decide); exact Nat.lt_of_lt_of_le q this)).1 q).1, hD.n hO 2 (by decide) k q⟩)
    rw [show 0 * 6 = 0 from rfl] at n0
    rw [show 1 * 6 = 6 from rfl] at n1
    rw [show 2 * 6 = 12 from rfl] at n2
    have z0 := fnD_b (d := d) (base := 0) (l := xW x i) (v 0) 0
    have z1 := fnD_b (d := d) (base := 6) (l := xW x i) (v 1) 0
    have z2 := fnD_b (d := d) (base := 12) (l := xW x i) (v 3) 0
    have y0 := mnI_b hO (srt := 0) (by decide)
    have y1 := mnI_b hO (srt := 1) (by decide)
    have y2 := mnI_b hO (srt := 2) (by decide)
    have y0' : v 0 ≤ 6 := y0
    have y1' : v 1 ≤ 6 := y1
    have y2' : v 3 ≤ 6 := y2
    have eq1 : ∀ {α : Type} (X Y : α) (b : Nat), b ≤ 6 → (if enc b = (-1 : Int32) then X else Y) = if b = 0 then X else Y := fun X Y b hb => by
      by_cases q : b = 0
      · rw [if_pos q, if_pos (by rw [q]; rfl)]
      · rw [if_neg q, if_neg (by rw [show (-1 : Int32) = nn from rfl, enc_nn (by omega)]; exact q)]
    have n0' : f_X2_numberOf 17 (0 : Int32) (pk8 (xW x i)) S = some (enc (fnD d 0 (xW x i) (v 0) 0), S) := n0
    have n1' : f_X2_numberOf 17 (1 : Int32) (pk8 (xW x i)) S = some (enc (fnD d 6 (xW x i) (v 1) 0), S) := n1
    have n2' : f_X2_numberOf 17 (2 : Int32) (pk8 (xW x i)) S = some (enc (fnD d 12 (xW x i) (v 3) 0), S) := n2
    have hb0 : fnD d 0 (xW x i) (v 0) 0 ≤ 6 := by
      by_cases q : fnD d 0 (xW x i) (v 0) 0 = 0
      · omega
      · have := z0 q; omega
    have hb1 : fnD d 6 (xW x i) (v 1) 0 ≤ 6 := by
      by_cases q : fnD d 6 (xW x i) (v 1) 0 = 0
      · omega
      · have := z1 q; omega
    have hb2 : fnD d 12 (xW x i) (v 3) 0 ≤ 6 := by
      by_cases q : fnD d 12 (xW x i) (v 3) 0 = 0
      · omega
      · have := z2 q; omega
    have htold : f_X2_isTold 17 (pk8 (xW x i)) S = some (!(decide (fnD d 0 (xW x i) (v 0) 0 = 0) && decide (fnD d 6 (xW x i) (v 1) 0 = 0) && decide (fnD d 12 (xW x i) (v 3) 0 = 0)), S) := by
      unfold f_X2_isTold
      rw [n0', Option.bind_some]
      dsimp only
      rw [eq1 _ _ _ hb0, n1', Option.bind_some]
      dsimp only
      rw [eq1 _ _ _ hb1, n2', Option.bind_some]
      dsimp only
      rw [eq1 _ _ _ hb2]
      by_cases q0 : fnD d 0 (xW x i) (v 0) 0 = 0
      · rw [if_pos q0, decide_eq_true q0]
        by_cases q1 : fnD d 6 (xW x i) (v 1) 0 = 0
        · rw [if_pos q1, decide_eq_true q1]
          by_cases q2 : fnD d 12 (xW x i) (v 3) 0 = 0
          · rw [if_pos q2, decide_eq_true q2]; rfl
          · rw [if_neg q2, decide_eq_false q2]; rfl
        · rw [if_neg q1, decide_eq_false q1]; rfl
      · rw [if_neg q0, decide_eq_false q0]; rfl
    have hhad : ((f_X12_findIn 196 (oo 0) (oo (v 0)) (pk27 (xW x i)) T).bind (fun q => match q with | (r4, S5) => ((if r4 = (-1 : Int32) then ((f_X12_findIn 196 (6 : Int32) (S5.1 191 1) (S5.2 188 12) S5).bind (fun q => match q with | (r14, S15) => (if r14 = (-1 : Int32) then ((f_X12_findIn 196 (12 : Int32) (S15.1 191 3) (S15.2 188 12) S15).bind (fun q => match q with | (r17, S18) => (if r17 = (-1 : Int32) then some (false, S18) else some (true, S18)))) else some (true, S15)))) else some (true, S5)) : Option (Bool × XS)))) = some (!(decide (fnD d 0 (xW x i) (v 0) 0 = 0) && decide (fnD d 6 (xW x i) (v 1) 0 = 0) && decide (fnD d 12 (xW x i) (v 3) 0 = 0)), T) := by
      rw [m0, Option.bind_some]
      dsimp only
      rw [eq1 _ _ _ hb0, t1, e12, show (6 : Int32) = oo 6 from rfl, m1, Option.bind_some]
      dsimp only
      rw [eq1 _ _ _ hb1, t3, e12, show (12 : Int32) = oo 12 from rfl, m2, Option.bind_some]
      dsimp only
      rw [eq1 _ _ _ hb2]
      by_cases q0 : fnD d 0 (xW x i) (v 0) 0 = 0
      · rw [if_pos q0, decide_eq_true q0]
        by_cases q1 : fnD d 6 (xW x i) (v 1) 0 = 0
        · rw [if_pos q1, decide_eq_true q1]
          by_cases q2 : fnD d 12 (xW x i) (v 3) 0 = 0
          · rw [if_pos q2, decide_eq_true q2]; rfl
          · rw [if_neg q2, decide_eq_false q2]; rfl
        · rw [if_neg q1, decide_eq_false q1]; rfl
      · rw [if_neg q0, decide_eq_false q0]; rfl
    have href : ∀ (had : Bool) (W : Option (Bool × XS)), ((f_X12_findIn 196 (oo 0) (oo (v 0)) (pk27 (xW x i)) T).bind (fun q => match q with | (r4, S5) => ((if r4 = (-1 : Int32) then ((f_X12_findIn 196 (6 : Int32) (S5.1 191 1) (S5.2 188 12) S5).bind (fun q => match q with | (r14, S15) => (if r14 = (-1 : Int32) then ((f_X12_findIn 196 (12 : Int32) (S15.1 191 3) (S15.2 188 12) S15).bind (fun q => match q with | (r17, S18) => (if r17 = (-1 : Int32) then some (false, S18) else some (true, S18)))) else some (true, S15)))) else some (true, S5)) : Option (Bool × XS)))) = some (had, T) → (if had = true then ((f_X12_bad 188 (3 : Int32) T).bind (fun q => match q with | (r9, S10) => some (r9, S10))) else (if (oo (srt * 6 + v (mnI srt))) < 0 ∨ ln 196 ≤ (oo (srt * 6 + v (mnI srt))).toNatClampNeg then none else ((f_X12_go 188 (sL T 196 (oo (srt * 6 + v (mnI srt))).toNatClampNeg (T.2 188 12))).bind (fun S11 => some (true, S11))))) = W → f_X12_readNew 188 (oo (srt * 6 + v (mnI srt))) T = W := fun had W h1 h2 => by
      rw [← h2]
      unfold f_X12_readNew
      rw [hnm, decide_eq_true hk, Option.bind_some]
      dsimp only
      rw [if_pos rfl, show rf 188 20 = 196 from rfl, show rf 188 15 = 191 from rfl, t0, e12, show (0 : Int32) = oo 0 from rfl]
      rw [m0, Option.bind_some] at h1 ⊢
      dsimp only at h1 ⊢
      rw [h1, Option.bind_some]
      dsimp only
      rw [e12]
    have hsl : srt * 6 + v (mnI srt) < 18 := by omega
    cases hh : !(decide (fnD d 0 (xW x i) (v 0) 0 = 0) && decide (fnD d 6 (xW x i) (v 1) 0 = 0) && decide (fnD d 12 (xW x i) (v 3) 0 = 0)) with
    | true =>
      rw [hh] at htold hhad
      refine .inl ?_
      obtain ⟨U, u1, u2, u3, u4⟩ := fail_c hS hx (oo 3)
      obtain ⟨V, v1, v2, v3, v4⟩ := bad_n hx hT hi 3
      rw [bdK_ne (by omega)] at v2
      refine ⟨U, V, ?_, href true _ hhad ?_, ⟨3, xP x i, by decide, by decide, xP_le hx hi, u2, u3, v2, v3⟩, u4, v4.mono rfl⟩
      · unfold f_X8_takeNew
        rw [e10, hk, if_pos (show oo 2 = (2 : Int32) from rfl), hcc, Option.bind_some]
        dsimp only
        rw [htold, Option.bind_some]
        dsimp only
        rw [if_pos rfl, show (3 : Int32) = oo 3 from rfl, u1]
      · rw [if_pos rfl, show (3 : Int32) = oo 3 from rfl, v1, Option.bind_some]
    | false =>
      rw [hh] at htold hhad
      refine .inr ?_
      have FT : Fr [(196, 9999)] T (sL T 196 (srt * 6 + v (mnI srt)) (pk27 (xW x i))) := Fr.sLr (Fr.rf _ _) rfl
      obtain ⟨V, g1, g2, g3⟩ := goN hx (hT.fr FT rfl) hiL
      have F1 : Fr [(1, 11), (18, 9999), (19, 9999)] S (sI (sI (sL S 19 (srt * 6 + v (mnI srt)) (pk8 (xW x i))) 18 srt (oo (v (mnI srt) + 1))) 1 11 (oo (v (mnI srt)))) := Fr.sIp (Fr.sIr (Fr.sLr (Fr.rf _ _) rfl) rfl) rfl
      obtain ⟨s1, s2⟩ := step_c hx (hS.fr F1 rfl) hiL
      have htell : f_X2_tell 17 (oo srt) (pk8 (xW x i)) S = some (oo (v (mnI srt)), sI (sL S 19 (srt * 6 + v (mnI srt)) (pk8 (xW x i))) 18 srt (oo (v (mnI srt) + 1))) := by
        have e18 : gat S 18 (oo srt) = oo (v (mnI srt)) := by rw [g_18 (by omega), hmc]
        have ei := oo_inb (k := srt * 6 + v (mnI srt)) (m := 18) (by omega) hsl
        unfold f_X2_tell
        rw [show rf 17 0 = 18 from rfl, e18, show (6 : Int32) = oo 6 from rfl, oo_mul, oo_add, if_neg (fun q => ei (.inl q)), if_neg (by rw [show (18 : Int32) = oo 18 from rfl, oo_le (by omega) (by omega)]; omega), show rf 17 1 = 19 from rfl, if_neg (by rw [ln_19]; exact ei), oo_nat (by omega), Option.bind_some, show (1 : Int32) = oo 1 from rfl, oo_add, p_18 (by omega)]
      refine ⟨_, V, xW x i, hiL, l1, l2, ?_, href false _ hhad ?_, s1, g2, ?_, ?_, fun j hj => ?_, ?_, fun j hj => ?_, ?_, fun j hj => ?_, Fr.trans (F1.mono rfl) (s2.mono rfl), Fr.trans (FT.mono rfl) (g3.mono rfl)⟩
      · unfold f_X8_takeNew
        rw [e10, hk, if_pos (show oo 2 = (2 : Int32) from rfl), hcc, Option.bind_some]
        dsimp only
        rw [htold, Option.bind_some]
        dsimp only
        rw [if_neg (by decide), hcc, Option.bind_some]
        dsimp only
        rw [htell, Option.bind_some]
      · rw [if_neg (by decide), if_neg (by rw [ln_196]; exact oo_inb (by omega) hsl), oo_nat (by omega), e12, g1, Option.bind_some]
      · rw [s2.get rfl, sI_same]
      · rw [s2.get (c := 18) (j := srt) (by unfold tch; simp), sI_cell (by decide), sI_same]
      · rw [s2.row (c := 18) rfl, sI_cell (by decide), sI_place hj]
        rfl
      · rw [s2.row2 (c := 19) rfl, sI_long, sI_long, sL_same]
      · rw [s2.row2 (c := 19) rfl, sI_long, sI_long, sL_place hj]
      · rw [g3.row2 (c := 196) rfl, sL_same]
      · rw [g3.row2 (c := 196) rfl, sL_place hj]
  · refine .inl ?_
    rw [decide_eq_false hk] at hnm
    obtain ⟨U, u1, u2, u3, u4⟩ := fail_c hS hx (oo 1)
    obtain ⟨V, v1, v2, v3, v4⟩ := bad_n hx hT hi 1
    rw [bdK_1] at v2
    refine ⟨U, V, ?_, ?_, ⟨1, xP x i, by decide, by decide, xP_le hx hi, u2, u3, v2, v3⟩, u4, v4.mono rfl⟩
    · unfold f_X8_takeNew
      rw [e10, if_neg (by rw [show (2 : Int32) = oo 2 from rfl, oo_eq (by omega) (by decide)]; exact hk), show (1 : Int32) = oo 1 from rfl, u1]
    · unfold f_X12_readNew
      rw [hnm, Option.bind_some]
      dsimp only
      rw [if_neg (by decide), show (1 : Int32) = oo 1 from rfl, v1, Option.bind_some]
end HL
