/-! the sentence: the steps that a node of the reference comes to -/
def postN (v : Nat → Nat) : Nat → Nat → List (Nat × Nat × Nat)
  | 0, _ => []
  | f + 1, k =>
    if v (276 + 4 * k) = 1 then postN v f (v (276 + 4 * k + 1)) ++ [(139, 0, 0)]
    else if v (276 + 4 * k) = 2 then postN v f (v (276 + 4 * k + 1)) ++ (postN v f (v (276 + 4 * k + 2)) ++ [(138, 0, 0)])
    else if v (276 + 4 * k) = 3 then postN v f (v (276 + 4 * k + 1)) ++ (postN v f (v (276 + 4 * k + 2)) ++ [(137, 0, 0)])
    else if v (276 + 4 * k) = 60 then [(140, 0, 0)]
    else if v (276 + 4 * k) = 61 then [(141, 0, 0)]
    else if v (276 + 4 * k) = 62 then [(134, 0, v (276 + 4 * k + 1))]
    else if v (276 + 4 * k) = 63 then [(135, 0, v (276 + 4 * k + 1))]
    else [(v (276 + 4 * k) + 78, v (276 + 4 * k + 3), v (276 + 4 * k + 2))]
def wfN (v : Nat → Nat) : Nat → Nat → Prop
  | 0, _ => False
  | f + 1, k => k < 60 ∧ (
    if v (276 + 4 * k) = 1 then wfN v f (v (276 + 4 * k + 1))
    else if v (276 + 4 * k) = 2 then wfN v f (v (276 + 4 * k + 1)) ∧ wfN v f (v (276 + 4 * k + 2))
    else if v (276 + 4 * k) = 3 then wfN v f (v (276 + 4 * k + 1)) ∧ wfN v f (v (276 + 4 * k + 2))
    else if v (276 + 4 * k) = 60 then True
    else if v (276 + 4 * k) = 61 then True
    else if v (276 + 4 * k) = 62 then v (276 + 4 * k + 1) < 6
    else if v (276 + 4 * k) = 63 then v (276 + 4 * k + 1) < 6
    else 64 ≤ v (276 + 4 * k) ∧ v (276 + 4 * k) ≤ 66 ∧ v (276 + 4 * k + 2) ≤ 999 ∧ 60 ≤ v (276 + 4 * k + 3) ∧ v (276 + 4 * k + 3) ≤ 62)
def SenOK (S : XS) (w : Nat) (v : Nat → Nat) : Prop :=
  (v 274 = 0 ∧ S.1 w 3 = oo 0) ∨
  (v 274 = 1 ∧ wfN v 64 (v 275) ∧ (postN v 64 (v 275)).length ≤ 40 ∧ S.1 w 3 = oo (postN v 64 (v 275)).length ∧
    ∀ i, i < (postN v 64 (v 275)).length → S.1 (w + 1) i = oo ((postN v 64 (v 275)).getD i (0, 0, 0)).1 ∧ S.1 (w + 2) i = oo ((postN v 64 (v 275)).getD i (0, 0, 0)).2.1 ∧ S.1 (w + 3) i = oo ((postN v 64 (v 275)).getD i (0, 0, 0)).2.2)
/-! the relation between the two objects -/
def RTape (S : XS) : Prop := ∃ (n : Nat) (b : Nat → Nat), n ≤ 940 ∧ S.1 1 1 = oo n ∧ S.1 188 2 = oo n ∧ ∀ j, j < 940 → S.1 2 j = oo (b j) ∧ S.1 189 j = oo (b j) ∧ b j < 256
def RFault (S : XS) : Prop := S.1 1 2 = S.1 188 10
def RKeys (S : XS) : Prop := S.2 3 = fun j => keysL.getD j 0
def RNow (S : XS) (v : Nat → Nat) : Prop := IsC S 190 516 v ∧ HOK v ∧ SOK v ∧ IsHill S 7 v ∧ IsWd S 28 v ∧ NmOK (S.2 9) (S.2 195) v ∧ SenOK S 36 v
def snv (v sn : Nat → Nat) (j : Nat) : Nat → Nat := fun k => if k < 144 then v k else sn (130 * j + (k - 144))
def RPast (S : XS) (v : Nat → Nat) : Prop := ∃ (m q : Nat) (sn : Nat → Nat), m ≤ 8 ∧ q < 8 ∧ S.1 188 23 = oo m ∧ S.1 0 9 = oo m ∧ S.1 0 8 = oo q ∧ IsC S 193 1040 sn ∧ ∀ j, j < m → SOK (snv v sn j) ∧ IsWd S (47 + 8 * ((q + 8 - m + j) % 8)) (snv v sn j)
def RKept1 (S : XS) (k : Nat) (w : Nat → Nat) (nm : Nat → Int64) : Prop := HOK w ∧ SOK w ∧ IsHill S (114 + 21 * k) w ∧ IsWd S (123 + 21 * k) w ∧ NmOK (S.2 (116 + 21 * k)) nm w ∧ SenOK S (131 + 21 * k) w
def RKept (S : XS) : Prop := ∃ (kk kf : Nat → Nat), IsC S 192 1032 kk ∧ ∀ k, k < 2 → kf k ≤ 1 ∧ S.1 156 k = oo (kf k) ∧ S.1 198 k = oo (kf k) ∧ (kf k = 1 → RKept1 S k (fun i => kk (516 * k + i)) (fun i => S.2 197 (18 * k + i)))
def RNos (S : XS) : Prop := ∃ (n f : Nat), n ≤ 8 ∧ f ≤ 1 ∧ S.1 157 2 = oo n ∧ S.1 188 29 = oo n ∧ (∀ i, i < n → S.1 159 i = S.1 201 i) ∧ S.1 157 1 = oo f ∧ S.1 188 33 = oo f ∧ (∀ s, s < 6 → S.1 158 s = S.1 205 s) ∧ S.1 164 0 = oo 0 ∧ ∀ s, s < 6 → S.1 162 s = oo 0
def RWas (S : XS) : Prop := ∃ (h p f : Nat), h ≤ 6 ∧ p ≤ 6 ∧ f ≤ 6 ∧ S.1 165 0 = oo h ∧ S.1 165 1 = oo p ∧ S.1 165 3 = oo f ∧ S.1 188 39 = (if h = 0 then nn else oo h) ∧ S.1 188 40 = oo p ∧ S.1 188 41 = oo f ∧ (∀ t x, t < h → x < 6 → S.1 166 ((t + 1) * 6 + x) = S.1 207 (6 * t + x)) ∧ (∀ t, t < f → S.1 167 (t + 1) = S.1 208 t) ∧ (∀ s, s < 6 → S.1 171 s = oo 0)
def RChg (S : XS) : Prop := ∃ (n : Nat), n ≤ 900 ∧ S.1 172 0 = oo n ∧ S.1 188 44 = oo (min n 40) ∧ (∀ k, k < 40 → k < n → S.1 173 k = S.1 212 k) ∧ (∀ k, k < 36 → S.1 176 k = oo 0)
def RDrw (S : XS) : Prop := ∃ (f : Nat), f ≤ 1 ∧ S.1 178 0 = oo f ∧ (f = 0 → ∀ j, j < 3 → S.1 213 j = nn) ∧ (f = 1 → S.1 178 1 = S.1 213 0 ∧ S.1 178 2 = S.1 213 1 ∧ S.1 178 3 = S.1 213 2)
def RTxt (S : XS) : Prop := ∃ (n : Nat), n ≤ 66 ∧ S.1 0 19 = oo n ∧ S.1 188 54 = oo n ∧ ∀ j, j < n → S.1 187 j = S.1 214 j
def Rel (S : XS) : Prop := RTape S ∧ RFault S ∧ RKeys S ∧ (∃ v, RNow S v ∧ RPast S v) ∧ RKept S ∧ RNos S ∧ RWas S ∧ RChg S ∧ RDrw S ∧ RTxt S
/-! what stays where nothing is written -/
def ntc (l : List (Nat × Nat)) (cs : List (Nat × Nat)) (rs : List Nat) : Bool := cs.all (fun q => !tch l q.1 q.2) && rs.all (fun c => !tcr l c)
theorem ntc_c {l cs : List (Nat × Nat)} {rs : List Nat} (h : ntc l cs rs = true) {c j : Nat} (hc : cs.contains (c, j) = true) : tch l c j = false := by
  unfold ntc at h
  rw [Bool.and_eq_true] at h
  have := List.all_eq_true.mp h.1 _ (List.contains_iff_mem.mp hc)
  simpa using this
theorem ntc_r {l cs : List (Nat × Nat)} {rs : List Nat} (h : ntc l cs rs = true) {c : Nat} (hc : rs.contains c = true) : tcr l c = false := by
  unfold ntc at h
  rw [Bool.and_eq_true] at h
  have := List.all_eq_true.mp h.2 _ (List.contains_iff_mem.mp hc)
  simpa using this
section KP
variable {l : List (Nat × Nat)} {S T : XS} {v : Nat → Nat}
theorem RTape.fr (h : RTape S) (hF : Fr l S T) (hl : ntc l [(1, 1), (188, 2)] [2, 189] = true) : RTape T := by
  unfold RTape at h ⊢
  rw [hF.get (ntc_c hl (c := 1) (j := 1) rfl), hF.get (ntc_c hl (c := 188) (j := 2) rfl), hF.row (ntc_r hl (c := 2) rfl), hF.row (ntc_r hl (c := 189) rfl)]
  exact h
theorem RFault.fr (h : RFault S) (hF : Fr l S T) (hl : ntc l [(1, 2), (188, 10)] [] = true) : RFault T := by
  unfold RFault at h ⊢
  rw [hF.get (ntc_c hl (c := 1) (j := 2) rfl), hF.get (ntc_c hl (c := 188) (j := 10) rfl)]
  exact h
theorem RKeys.fr (h : RKeys S) (hF : Fr l S T) (hl : ntc l [] [3] = true) : RKeys T := by
  unfold RKeys at h ⊢
  rw [hF.row2 (ntc_r hl (c := 3) rfl)]
  exact h
theorem IsHill.eq {h : Nat} (hh : IsHill S h v) (e : ∀ j, 1 ≤ j → j ≤ 8 → j ≠ 2 → T.1 (h + j) = S.1 (h + j)) : IsHill T h v := by
  unfold IsHill at hh ⊢
  rw [e 1 (by decide) (by decide) (by decide), e 3 (by decide) (by decide) (by decide), e 4 (by decide) (by decide) (by decide), e 5 (by decide) (by decide) (by decide), e 6 (by decide) (by decide) (by decide), e 7 (by decide) (by decide) (by decide), e 8 (by decide) (by decide) (by decide)]
  exact hh
theorem IsWd.eq {w : Nat} (hh : IsWd S w v) (e : ∀ j, 1 ≤ j → j ≤ 7 → T.1 (w + j) = S.1 (w + j)) (e0 : T.1 w 0 = S.1 w 0) (e4 : T.1 w 4 = S.1 w 4) : IsWd T w v := by
  unfold IsWd at hh ⊢
  rw [e0, e4, e 1 (by decide) (by decide), e 2 (by decide) (by decide), e 3 (by decide) (by decide), e 4 (by decide) (by decide), e 5 (by decide) (by decide), e 6 (by decide) (by decide), e 7 (by decide) (by decide)]
  exact hh
theorem SenOK.eq {w : Nat} (hh : SenOK S w v) (e : ∀ j, 1 ≤ j → j ≤ 3 → T.1 (w + j) = S.1 (w + j)) (e3 : T.1 w 3 = S.1 w 3) : SenOK T w v := by
  unfold SenOK at hh ⊢
  rw [e3, e 1 (by decide) (by decide), e 2 (by decide) (by decide), e 3 (by decide) (by decide)]
  exact hh
theorem IsHill.fr {h : Nat} (hh : IsHill S h v) (hF : Fr l S T) (hl : (List.range 8).all (fun j => !tcr l (h + j + 1)) = true) : IsHill T h v := by
  refine hh.eq (fun j h1 h2 _ => hF.row ?_)
  have := List.all_eq_true.mp hl (j - 1) (List.mem_range.mpr (by omega))
  rw [show h + (j - 1) + 1 = h + j by omega] at this
  simpa using this
theorem IsWd.fr {w : Nat} (hh : IsWd S w v) (hF : Fr l S T) (hl : (List.range 8).all (fun j => !tcr l (w + j)) = true) : IsWd T w v := by
  have k : ∀ j, j < 8 → tcr l (w + j) = false := fun j hj => by
    have := List.all_eq_true.mp hl j (List.mem_range.mpr hj)
    simpa using this
  refine hh.eq (fun j h1 h2 => hF.row (k j (by omega))) (hF.get (tcr_tch (k 0 (by decide)) 0)) (hF.get (tcr_tch (k 0 (by decide)) 4))
theorem SenOK.fr {w : Nat} (hh : SenOK S w v) (hF : Fr l S T) (hl : (List.range 4).all (fun j => !tcr l (w + j)) = true) : SenOK T w v := by
  have k : ∀ j, j < 4 → tcr l (w + j) = false := fun j hj => by
    have := List.all_eq_true.mp hl j (List.mem_range.mpr hj)
    simpa using this
  refine hh.eq (fun j h1 h2 => hF.row (k j (by omega))) (hF.get (tcr_tch (k 0 (by decide)) 3))
theorem RNow.fr (h : RNow S v) (hF : Fr l S T) (hl : ntc l [] [190, 9, 195] = true) (h1 : (List.range 8).all (fun j => !tcr l (7 + j + 1)) = true) (h2 : (List.range 8).all (fun j => !tcr l (28 + j)) = true) (h3 : (List.range 4).all (fun j => !tcr l (36 + j)) = true) : RNow T v := by
  obtain ⟨a1, a2, a3, a4, a5, a6, a7⟩ := h
  refine ⟨a1.cell (hF.row (ntc_r hl (c := 190) rfl)), a2, a3, a4.fr hF h1, a5.fr hF h2, ?_, a7.fr hF h3⟩
  rw [hF.row2 (ntc_r hl (c := 9) rfl), hF.row2 (ntc_r hl (c := 195) rfl)]
  exact a6
theorem RPast.fr (h : RPast S v) (hF : Fr l S T) (hl : ntc l [(188, 23), (0, 9), (0, 8)] [193] = true) (h1 : (List.range 64).all (fun j => !tcr l (47 + j)) = true) : RPast T v := by
  obtain ⟨m, q, sn, a1, a2, a3, a4, a5, a6, a7⟩ := h
  refine ⟨m, q, sn, a1, a2, ?_, ?_, ?_, a6.cell (hF.row (ntc_r hl (c := 193) rfl)), fun j hj => ⟨(a7 j hj).1, (a7 j hj).2.fr hF ?_⟩⟩
  · rw [hF.get (ntc_c hl (c := 188) (j := 23) rfl)]; exact a3
  · rw [hF.get (ntc_c hl (c := 0) (j := 9) rfl)]; exact a4
  · rw [hF.get (ntc_c hl (c := 0) (j := 8) rfl)]; exact a5
  · rw [List.all_eq_true] at h1 ⊢
    intro i hi
    have hi := List.mem_range.mp hi
    have := h1 (8 * ((q + 8 - m + j) % 8) + i) (List.mem_range.mpr (by omega))
    rw [show 47 + (8 * ((q + 8 - m + j) % 8) + i) = 47 + 8 * ((q + 8 - m + j) % 8) + i by omega] at this
    exact this
theorem RKept1.fr {k : Nat} {w : Nat → Nat} {nm : Nat → Int64} (hk : k < 2) (h : RKept1 S k w nm) (hF : Fr l S T) (h1 : (List.range 42).all (fun j => !tcr l (114 + j)) = true) : RKept1 T k w nm := by
  have hr : ∀ c, 114 ≤ c → c < 156 → tcr l c = false := fun c h2 h3 => by
    have := List.all_eq_true.mp h1 (c - 114) (List.mem_range.mpr (by omega))
    rw [show 114 + (c - 114) = c by omega] at this
    simpa using this
  obtain ⟨a1, a2, a3, a4, a5, a6⟩ := h
  refine ⟨a1, a2, a3.fr hF ?_, a4.fr hF ?_, ?_, a6.fr hF ?_⟩
  · rw [List.all_eq_true]
    intro i hi
    have hi := List.mem_range.mp hi
    rw [hr _ (by omega) (by omega)]; rfl
  · rw [List.all_eq_true]
    intro i hi
    have hi := List.mem_range.mp hi
    rw [hr _ (by omega) (by omega)]; rfl
  · rw [hF.row2 (hr _ (by omega) (by omega))]
    exact a5
  · rw [List.all_eq_true]
    intro i hi
    have hi := List.mem_range.mp hi
    rw [hr _ (by omega) (by omega)]; rfl
theorem RKept.fr (h : RKept S) (hF : Fr l S T) (hl : ntc l [] [192, 156, 198, 197] = true) (h1 : (List.range 42).all (fun j => !tcr l (114 + j)) = true) : RKept T := by
  obtain ⟨kk, kf, a1, a2⟩ := h
  refine ⟨kk, kf, a1.cell (hF.row (ntc_r hl (c := 192) rfl)), fun k hk => ?_⟩
  obtain ⟨b1, b2, b3, b4⟩ := a2 k hk
  rw [hF.row (ntc_r hl (c := 156) rfl), hF.row (ntc_r hl (c := 198) rfl), hF.row2 (ntc_r hl (c := 197) rfl)]
  exact ⟨b1, b2, b3, fun e => (b4 e).fr hk hF h1⟩
theorem RNos.fr (h : RNos S) (hF : Fr l S T) (hl : ntc l [(157, 2), (188, 29), (157, 1), (188, 33), (164, 0)] [159, 201, 158, 205, 162] = true) : RNos T := by
  unfold RNos at h ⊢
  rw [hF.get (ntc_c hl (c := 157) (j := 2) rfl), hF.get (ntc_c hl (c := 188) (j := 29) rfl), hF.get (ntc_c hl (c := 157) (j := 1) rfl), hF.get (ntc_c hl (c := 188) (j := 33) rfl), hF.get (ntc_c hl (c := 164) (j := 0) rfl), hF.row (ntc_r hl (c := 159) rfl), hF.row (ntc_r hl (c := 201) rfl), hF.row (ntc_r hl (c := 158) rfl), hF.row (ntc_r hl (c := 205) rfl), hF.row (ntc_r hl (c := 162) rfl)]
  exact h
theorem RWas.fr (h : RWas S) (hF : Fr l S T) (hl : ntc l [(165, 0), (165, 1), (165, 3), (188, 39), (188, 40), (188, 41)] [166, 207, 167, 208, 171] = true) : RWas T := by
  unfold RWas at h ⊢
  rw [hF.get (ntc_c hl (c := 165) (j := 0) rfl), hF.get (ntc_c hl (c := 165) (j := 1) rfl), hF.get (ntc_c hl (c := 165) (j := 3) rfl), hF.get (ntc_c hl (c := 188) (j := 39) rfl), hF.get (ntc_c hl (c := 188) (j := 40) rfl), hF.get (ntc_c hl (c := 188) (j := 41) rfl), hF.row (ntc_r hl (c := 166) rfl), hF.row (ntc_r hl (c := 207) rfl), hF.row (ntc_r hl (c := 167) rfl), hF.row (ntc_r hl (c := 208) rfl), hF.row (ntc_r hl (c := 171) rfl)]
  exact h
theorem RChg.fr (h : RChg S) (hF : Fr l S T) (hl : ntc l [(172, 0), (188, 44)] [173, 212, 176] = true) : RChg T := by
  unfold RChg at h ⊢
  rw [hF.get (ntc_c hl (c := 172) (j := 0) rfl), hF.get (ntc_c hl (c := 188) (j := 44) rfl), hF.row (ntc_r hl (c := 173) rfl), hF.row (ntc_r hl (c := 212) rfl), hF.row (ntc_r hl (c := 176) rfl)]
  exact h
theorem RDrw.fr (h : RDrw S) (hF : Fr l S T) (hl : ntc l [(178, 0), (178, 1), (178, 2), (178, 3)] [213] = true) : RDrw T := by
  unfold RDrw at h ⊢
  rw [hF.get (ntc_c hl (c := 178) (j := 0) rfl), hF.get (ntc_c hl (c := 178) (j := 1) rfl), hF.get (ntc_c hl (c := 178) (j := 2) rfl), hF.get (ntc_c hl (c := 178) (j := 3) rfl), hF.row (ntc_r hl (c := 213) rfl)]
  exact h
theorem RTxt.fr (h : RTxt S) (hF : Fr l S T) (hl : ntc l [(0, 19), (188, 54)] [187, 214] = true) : RTxt T := by
  unfold RTxt at h ⊢
  rw [hF.get (ntc_c hl (c := 0) (j := 19) rfl), hF.get (ntc_c hl (c := 188) (j := 54) rfl), hF.row (ntc_r hl (c := 187) rfl), hF.row (ntc_r hl (c := 214) rfl)]
  exact h
end KP
/-- a call that writes nothing but what no other call reads -/
theorem Rel.fr {l : List (Nat × Nat)} {S T : XS} (h : Rel S) (hF : Fr l S T) (hl : ntc l [(1, 1), (188, 2), (1, 2), (188, 10), (188, 23), (0, 9), (0, 8), (157, 2), (188, 29), (157, 1), (188, 33), (164, 0), (165, 0), (165, 1), (165, 3), (188, 39), (188, 40), (188, 41), (172, 0), (188, 44), (178, 0), (178, 1), (178, 2), (178, 3), (0, 19), (188, 54)] [2, 189, 3, 190, 9, 195, 193, 192, 156, 198, 197, 159, 201, 158, 205, 162, 166, 207, 167, 208, 171, 173, 212, 176, 213, 187, 214] = true) (h0 : (List.range 8).all (fun j => !tcr l (7 + j + 1)) = true) (h1 : (List.range 12).all (fun j => !tcr l (28 + j)) = true) (h2 : (List.range 64).all (fun j => !tcr l (47 + j)) = true) (h3 : (List.range 42).all (fun j => !tcr l (114 + j)) = true) : Rel T := by
  have sub : ∀ (cs : List (Nat × Nat)) (rs : List Nat), cs.all (fun q => ([(1, 1), (188, 2), (1, 2), (188, 10), (188, 23), (0, 9), (0, 8), (157, 2), (188, 29), (157, 1), (188, 33), (164, 0), (165, 0), (165, 1), (165, 3), (188, 39), (188, 40), (188, 41), (172, 0), (188, 44), (178, 0), (178, 1), (178, 2), (178, 3), (0, 19), (188, 54)] : List (Nat × Nat)).contains q) = true → rs.all (fun q => ([2, 189, 3, 190, 9, 195, 193, 192, 156, 198, 197, 159, 201, 158, 205, 162, 166, 207, 167, 208, 171, 173, 212, 176, 213, 187, 214] : List Nat).contains q) = true → ntc l cs rs = true := by
    intro cs rs hc hr
    unfold ntc
    rw [Bool.and_eq_true]
    refine ⟨List.all_eq_true.mpr fun q hq => ?_, List.all_eq_true.mpr fun q hq => ?_⟩
    · rw [ntc_c hl (c := q.1) (j := q.2) (List.all_eq_true.mp hc q hq)]; rfl
    · rw [ntc_r hl (c := q) (List.all_eq_true.mp hr q hq)]; rfl
  have sub1 : ∀ (n k : Nat), k + n ≤ 12 → (List.range n).all (fun j => !tcr l (28 + k + j)) = true := by
    intro n k hk
    rw [List.all_eq_true]
    intro j hj
    have := List.all_eq_true.mp h1 (k + j) (List.mem_range.mpr (by have := List.mem_range.mp hj; omega))
    rw [show 28 + (k + j) = 28 + k + j by omega] at this
    exact this
  obtain ⟨a1, a2, a3, ⟨v, a4, a5⟩, a6, a7, a8, a9, a10, a11⟩ := h
  refine ⟨a1.fr hF (sub _ _ rfl rfl), a2.fr hF (sub _ _ rfl rfl), a3.fr hF (sub _ _ rfl rfl), ⟨v, a4.fr hF (sub _ _ rfl rfl) h0 (sub1 8 0 (by decide)) (sub1 4 8 (by decide)), a5.fr hF (sub _ _ rfl rfl) h2⟩, a6.fr hF (sub _ _ rfl rfl) h3, a7.fr hF (sub _ _ rfl rfl), a8.fr hF (sub _ _ rfl rfl), a9.fr hF (sub _ _ rfl rfl), a10.fr hF (sub _ _ rfl rfl), a11.fr hF (sub _ _ rfl rfl)⟩
