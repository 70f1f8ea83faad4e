/-! the row of tokens, and where both stand in it; x: bytes, how many, how many may be read -/
def xp (x : TX) : Nat → Nat
  | 0 => 0
  | i + 1 => tkX x.1 x.2.1 (xp x i)
def xK (x : TX) (i : Nat) : Nat := tkK x.1 x.2.1 x.2.2 (xp x i)
def xP (x : TX) (i : Nat) : Nat := tkP x.1 x.2.1 x.2.2 (xp x i)
def xW (x : TX) (i : Nat) : List Nat := tkW x.1 x.2.1 (xp x i)
def xV (x : TX) (i : Nat) : Nat := tkV x.1 x.2.1 (xp x i)
def xE (x : TX) (i : Nat) : Prop := xK x i = 0 ∨ xK x i = 1
def xok (x : TX) (L : Nat) : Prop := x.2.1 ≤ 940 ∧ x.2.2 ≤ 940 ∧ (∀ j, j < 940 → x.1 j < 256) ∧ L ≤ 940 ∧ xE x L ∧ ∀ j, j < L → ¬ xE x j
theorem tkX_b {b : Nat → Nat} {n lim p : Nat} (hp : p ≤ n) (h0 : tkK b n lim p ≠ 0) (h1 : tkK b n lim p ≠ 1) : p < tkX b n p ∧ tkX b n p ≤ n := by
  have hst := stN_b (b := b) hp
  have hed := edN_b (b := b) hp
  unfold tkK at h0 h1
  by_cases hL : lim < n ∧ lim ≤ stN b n p
  · rw [if_pos hL] at h1
    exact absurd rfl h1
  · rw [if_neg hL] at h0 h1
    by_cases hend : n ≤ stN b n p
    · rw [if_pos hend] at h0
      exact absurd rfl h0
    · unfold tkX
      by_cases hld : isLe (b (stN b n p)) = true ∨ isDi (b (stN b n p)) = true
      · have hse : stN b n p < edN b n p := enN_p (by omega) hld
        rw [if_pos hld]
        omega
      · rw [if_neg hld]
        omega
theorem xp_n {x : TX} {L : Nat} (h : ∀ j, j < L → ¬ xE x j) : ∀ i, i ≤ L → i ≤ xp x i ∧ xp x i ≤ x.2.1 := by
  intro i
  induction i with
  | zero => intro _; exact ⟨Nat.le_refl _, Nat.zero_le _⟩
  | succ i ih =>
    intro hi
    have h1 := ih (by omega)
    have h2 := h i (by omega)
    have := tkX_b (lim := x.2.2) h1.2 (fun q => h2 (.inl q)) (fun q => h2 (.inr q))
    rw [xp]
    omega
theorem xp_L (x : TX) (hn : x.2.1 ≤ 940) (hl : x.2.2 ≤ 940) (hb : ∀ j, j < 940 → x.1 j < 256) : ∃ L, xok x L := by
  have key : ∀ m i, x.2.1 ≤ xp x i + m → (∀ j, j < i → ¬ xE x j) → ∃ L, L ≤ x.2.1 ∧ xE x L ∧ ∀ j, j < L → ¬ xE x j := by
    intro m
    induction m with
    | zero =>
      intro i hi h
      have h1 := xp_n h i (Nat.le_refl _)
      refine ⟨i, by omega, ?_, h⟩
      have h2 := stN_b (b := x.1) h1.2
      unfold xE xK tkK
      by_cases hL : x.2.2 < x.2.1 ∧ x.2.2 ≤ stN x.1 x.2.1 (xp x i)
      · rw [if_pos hL]
        exact .inr rfl
      · rw [if_neg hL, if_pos (by omega)]
        exact .inl rfl
    | succ m ih =>
      intro i hi h
      have h1 := xp_n h i (Nat.le_refl _)
      by_cases he : xE x i
      · exact ⟨i, by omega, he, h⟩
      · have h2 := tkX_b (lim := x.2.2) h1.2 (fun q => he (.inl q)) (fun q => he (.inr q))
        exact ih (i + 1) (by rw [xp]; omega) (fun j hj => by
          by_cases q : j = i
          · rw [q]; exact he
          · exact h j (by omega))
  obtain ⟨L, l1, l2, l3⟩ := key x.2.1 0 (by omega) (fun j hj => absurd hj (Nat.not_lt_zero _))
  exact ⟨L, hn, hl, hb, by omega, l2, l3⟩
/-! what a token can be -/
theorem tkK_c {b : Nat → Nat} {n lim p : Nat} (hp : p ≤ n) (hn : n ≤ 940) (hb : ∀ j, j < 940 → b j < 256) : tkK b n lim p = 0 ∨ tkK b n lim p = 1 ∨ (tkK b n lim p = 3 ∧ tkV b n p ≤ 999) ∨ (tkK b n lim p = wdK (tkW b n p) ∧ isLs (tkW b n p) ∧ tkW b n p ≠ []) ∨ isSg (tkK b n lim p) = true := by
  have hst := stN_b (b := b) hp
  unfold tkK
  by_cases hL : lim < n ∧ lim ≤ stN b n p
  · rw [if_pos hL]
    exact .inr (.inl rfl)
  rw [if_neg hL]
  by_cases hend : n ≤ stN b n p
  · rw [if_pos hend]
    exact .inl rfl
  rw [if_neg hend]
  by_cases hld : isLe (b (stN b n p)) = true ∨ isDi (b (stN b n p)) = true
  · have hse : stN b n p < edN b n p := enN_p (by omega) hld
    rw [if_pos hld]
    unfold rkN
    by_cases h1 : clN b (stN b n p) (edN b n p - stN b n p) = edN b n p - stN b n p ∧ edN b n p - stN b n p ≤ 7
    · rw [if_pos h1]
      refine .inr (.inr (.inr (.inl ⟨rfl, lwN_ls h1.1 h1.2, fun q => ?_⟩)))
      have : (tkW b n p).length = 0 := by rw [q]; rfl
      unfold tkW at this
      rw [lwN_len] at this
      omega
    · rw [if_neg h1]
      by_cases h2 : clN b (stN b n p) (edN b n p - stN b n p) = 0 ∧ edN b n p - stN b n p ≤ 3
      · rw [if_pos h2]
        refine .inr (.inr (.inl ⟨rfl, ?_⟩))
        have hd : ∀ j, j < edN b n p - stN b n p → b (stN b n p + j) ≤ 57 := by
          have all : ∀ m q, (∀ j, q ≤ j → j < enN b m q → isLe (b j) = true ∨ isDi (b j) = true) := by
            intro m
            induction m with
            | zero => intro q j h1 h2; rw [enN] at h2; omega
            | succ m ih =>
              intro q j h1 h2
              rw [enN] at h2
              by_cases a1 : isLe (b q) = true
              · rw [if_pos a1] at h2
                by_cases e : j = q
                · rw [e]; exact .inl a1
                · exact ih (q + 1) j (by omega) h2
              · rw [if_neg a1] at h2
                by_cases a2 : isDi (b q) = true
                · rw [if_pos a2] at h2
                  by_cases e : j = q
                  · rw [e]; exact .inr a2
                  · exact ih (q + 1) j (by omega) h2
                · rw [if_neg a2] at h2
                  omega
          intro j hj
          rcases all (n - stN b n p) (stN b n p) (stN b n p + j) (by omega) (by
            show _ < edN b n p
            omega) with q | q
          · have hz : clN b (stN b n p) (j + 1) = 0 := clN_z (j := edN b n p - stN b n p - (j + 1)) (by rw [show j + 1 + (edN b n p - stN b n p - (j + 1)) = edN b n p - stN b n p by omega]; exact h2.1)
            rw [clN, if_pos q] at hz
            omega
          · exact (isDi_b q).2
        have := nuN_b (b := b) (s := stN b n p) _ hd
        have h3 : 10 ^ (edN b n p - stN b n p) ≤ 10 ^ 3 := Nat.pow_le_pow_right (by decide) h2.2
        unfold tkV
        omega
      · rw [if_neg h2]
        exact .inr (.inl rfl)
  · rw [if_neg hld]
    by_cases hs : isSg (b (stN b n p)) = true
    · rw [if_pos hs]
      exact .inr (.inr (.inr (.inr hs)))
    · rw [if_neg hs]
      exact .inr (.inl rfl)
theorem xK_c {x : TX} {L i : Nat} (h : xok x L) (hi : i ≤ L) : xK x i = 0 ∨ xK x i = 1 ∨ (xK x i = 3 ∧ xV x i ≤ 999) ∨ (xK x i = wdK (xW x i) ∧ isLs (xW x i) ∧ xW x i ≠ []) ∨ isSg (xK x i) = true := tkK_c (xp_n h.2.2.2.2.2 i hi).2 h.1 h.2.2.1
theorem xK_lt {x : TX} {L i : Nat} (h : xok x L) (hi : i ≤ L) : xK x i < 145 := by
  rcases xK_c h hi with q | q | q | q | q
  · omega
  · omega
  · omega
  · have := wdK_c (xW x i)
    omega
  · have := isSg_b q
    omega
theorem xP_le {x : TX} {L i : Nat} (h : xok x L) (hi : i ≤ L) : xP x i ≤ 940 := by
  have h1 := xp_n h.2.2.2.2.2 i hi
  have h2 := stN_b (b := x.1) h1.2
  have h3 := h.1
  have h4 := h.2.1
  unfold xP tkP
  split <;> omega
theorem xK_2 {x : TX} {L i : Nat} (h : xok x L) (hi : i ≤ L) (hk : xK x i = 2) : isLs (xW x i) ∧ xW x i ≠ [] ∧ kyN (xW x i) = 17 := by
  rcases xK_c h hi with q | q | q | q | q
  · omega
  · omega
  · omega
  · exact ⟨q.2.1, q.2.2, wdK_2 (by rw [← q.1]; exact hk)⟩
  · have := isSg_b q
    omega
theorem xK_128 {x : TX} {L i : Nat} (h : xok x L) (hi : i ≤ L) (hk : 128 ≤ xK x i) : isLs (xW x i) ∧ xK x i = 128 + kyN (xW x i) ∧ kyN (xW x i) < 17 := by
  rcases xK_c h hi with q | q | q | q | q
  · omega
  · omega
  · omega
  · have h1 := q.1
    unfold wdK at h1
    by_cases h2 : kyN (xW x i) < 17
    · rw [if_pos h2] at h1
      exact ⟨q.2.1, h1, h2⟩
    · rw [if_neg h2] at h1
      omega
  · have := isSg_b q
    omega
theorem xK_3 {x : TX} {L i : Nat} (h : xok x L) (hi : i ≤ L) (hk : xK x i = 3) : xV x i ≤ 999 := by
  rcases xK_c h hi with q | q | q | q | q
  · omega
  · omega
  · exact q.2
  · have := wdK_c (xW x i)
    omega
  · have := isSg_b q
    omega
theorem xlt {x : TX} {L i : Nat} (h : xok x L) (hi : i ≤ L) (h0 : xK x i ≠ 0) (h1 : xK x i ≠ 1) : i < L := by
  rcases Nat.lt_or_ge i L with q | q
  · exact q
  · have e : i = L := by omega
    rw [e] at h0 h1
    rcases h.2.2.2.2.1 with z | z
    · exact absurd z h0
    · exact absurd z h1
/-! the class -/
def xR (x : TX) (L : Nat) (S : XS) : Prop := ∀ j, j ≤ L → S.1 4 j = oo (xK x j) ∧ S.1 5 j = oo (xP x j) ∧ (xK x j = 3 → S.2 6 j = ll (xV x j)) ∧ (xK x j = 2 → S.2 6 j = pk8 (xW x j))
def AtC (x : TX) (L i : Nat) (S : XS) : Prop := i ≤ L ∧ xR x L S ∧ S.1 1 9 = oo i ∧ S.1 1 10 = oo (xK x i)
def AtN (x : TX) (i : Nat) (T : XS) : Prop := T.1 188 3 = oo x.2.1 ∧ T.1 188 4 = oo x.2.2 ∧ (∀ j, j < 940 → T.1 189 j = oo (x.1 j)) ∧ tkN x.1 x.2.1 x.2.2 (xp x i) T
def FBC : List (Nat × Nat) := [(4, 9999), (5, 9999), (6, 9999), (1, 8), (1, 2), (1, 3), (1, 9), (1, 10)]
def FBL : List (Nat × Nat) := [(4, 9999), (5, 9999), (6, 9999), (1, 8)]
theorem adX_fr {S : XS} {i k q : Nat} {c : Int64} : Fr FBL S (adX S i k q c) := Fr.sIp (Fr.sLr (Fr.sIr (Fr.sIr (Fr.rf _ _) rfl) rfl) rfl) rfl
theorem adX_4 {S : XS} {i k q j : Nat} {c : Int64} : (adX S i k q c).1 4 j = if j = i then oo k else S.1 4 j := by
  unfold adX
  rw [sI_cell (by decide), sL_int, sI_cell (by decide)]
  by_cases h : j = i
  · rw [if_pos h, h, sI_same]
  · rw [if_neg h, sI_place h]
theorem adX_5 {S : XS} {i k q j : Nat} {c : Int64} : (adX S i k q c).1 5 j = if j = i then oo q else S.1 5 j := by
  unfold adX
  rw [sI_cell (by decide), sL_int]
  by_cases h : j = i
  · rw [if_pos h, h, sI_same]
  · rw [if_neg h, sI_place h, sI_cell (by decide)]
theorem adX_6 {S : XS} {i k q j : Nat} {c : Int64} : (adX S i k q c).2 6 j = if j = i then c else S.2 6 j := by
  unfold adX
  rw [sI_long]
  by_cases h : j = i
  · rw [if_pos h, h, sL_same]
  · rw [if_neg h, sL_place h]
    rfl
theorem begL_c {x : TX} {L : Nat} (hx : xok x L) : ∀ m i f (S : XS), i + m = L → m < f → S.1 1 1 = oo x.2.1 → (∀ j, j < 940 → S.1 2 j = oo (x.1 j)) → RKeys S → S.1 1 8 = oo i → (∀ j, j < i → S.1 4 j = oo (xK x j) ∧ S.1 5 j = oo (xP x j) ∧ (xK x j = 3 → S.2 6 j = ll (xV x j)) ∧ (xK x j = 2 → S.2 6 j = pk8 (xW x j))) → ∃ U, f_X8_begin_L19 1 (oo x.2.2) f (oo (xp x i)) (oo i) S = some U ∧ xR x L U ∧ Fr FBL S U := by
  have hx2 := hx
  obtain ⟨x1, x2, x3, x4, x5, x6⟩ := hx2
  intro m
  induction m with
  | zero =>
    intro i f S hi hf h1 hb hK h8 hr
    obtain ⟨f, rfl⟩ : ∃ f', f = f' + 1 := ⟨f - 1, by omega⟩
    obtain ⟨c, z, r1, r2, r3, r4⟩ : ∃ c z, f_X8_readToken 1 (oo (xp x i)) (oo x.2.2) S = some (z, adX S i (xK x i) (xP x i) c) ∧ (xK x i ≠ 0 → xK x i ≠ 1 → z = oo (tkX x.1 x.2.1 (xp x i))) ∧ (xK x i = 3 → c = ll (xV x i)) ∧ (xK x i = 2 → c = pk8 (xW x i)) := token_c (b := x.1) (n := x.2.1) (lim := x.2.2) (p := xp x i) h1 x1 (fun j hj => ⟨hb j hj, x3 j hj⟩) hK (xp_n x6 i (by omega)).2 (by omega) x2 h8
    have e4 : gat (adX S i (xK x i) (xP x i) c) 4 (oo i) = oo (xK x i) := by rw [g_4 (by omega), adX_4, if_pos rfl]
    refine ⟨adX S i (xK x i) (xP x i) c, ?_, fun j hj => ?_, adX_fr⟩
    · rw [f_X8_begin_L19, if_neg (by rw [show (940 : Int32) = oo 940 from rfl, oo_lt (by decide) (by omega)]; omega), r1, Option.bind_some]
      dsimp only
      rw [show rf 1 5 = 4 from rfl, e4]
      obtain rfl : i = L := by omega
      rcases x5 with q | q
      · rw [if_pos (show oo (xK x i) = 0 by rw [q]; rfl)]
      · rw [if_neg (show ¬ oo (xK x i) = 0 by rw [q]; decide), if_pos (show oo (xK x i) = 1 by rw [q]; rfl)]
    · rw [adX_4, adX_5, adX_6]
      by_cases q : j = i
      · rw [if_pos q, if_pos q, if_pos q, q]
        exact ⟨rfl, rfl, r3, r4⟩
      · rw [if_neg q, if_neg q, if_neg q]
        exact hr j (by omega)
  | succ m ih =>
    intro i f S hi hf h1 hb hK h8 hr
    obtain ⟨f, rfl⟩ : ∃ f', f = f' + 1 := ⟨f - 1, by omega⟩
    obtain ⟨c, z, r1, r2, r3, r4⟩ : ∃ c z, f_X8_readToken 1 (oo (xp x i)) (oo x.2.2) S = some (z, adX S i (xK x i) (xP x i) c) ∧ (xK x i ≠ 0 → xK x i ≠ 1 → z = oo (tkX x.1 x.2.1 (xp x i))) ∧ (xK x i = 3 → c = ll (xV x i)) ∧ (xK x i = 2 → c = pk8 (xW x i)) := token_c (b := x.1) (n := x.2.1) (lim := x.2.2) (p := xp x i) h1 x1 (fun j hj => ⟨hb j hj, x3 j hj⟩) hK (xp_n x6 i (by omega)).2 (by omega) x2 h8
    have e4 : gat (adX S i (xK x i) (xP x i) c) 4 (oo i) = oo (xK x i) := by rw [g_4 (by omega), adX_4, if_pos rfl]
    have hne := x6 i (by omega)
    have hn0 : xK x i ≠ 0 := fun q => hne (.inl q)
    have hn1 : xK x i ≠ 1 := fun q => hne (.inr q)
    have hlt := xK_lt hx (show i ≤ L by omega)
    have F := adX_fr (S := S) (i := i) (k := xK x i) (q := xP x i) (c := c)
    obtain ⟨U, u1, u2, u3⟩ := ih (i + 1) f (adX S i (xK x i) (xP x i) c) (by omega) (by omega) (by rw [F.get rfl]; exact h1) (fun j hj => by rw [F.row (c := 2) rfl]; exact hb j hj) (hK.fr F rfl) (sI_same _ _ _ _) (fun j hj => by
      rw [adX_4, adX_5, adX_6]
      by_cases q : j = i
      · rw [if_pos q, if_pos q, if_pos q, q]
        exact ⟨rfl, rfl, r3, r4⟩
      · rw [if_neg q, if_neg q, if_neg q]
        exact hr j (by omega))
    refine ⟨U, ?_, u2, Fr.trans F u3⟩
    rw [f_X8_begin_L19, if_neg (by rw [show (940 : Int32) = oo 940 from rfl, oo_lt (by decide) (by omega)]; omega), r1, Option.bind_some]
    dsimp only
    rw [show rf 1 5 = 4 from rfl, e4, if_neg (by rw [show (0 : Int32) = oo 0 from rfl, oo_eq (by omega) (by decide)]; exact hn0), if_neg (by rw [show (1 : Int32) = oo 1 from rfl, oo_eq (by omega) (by decide)]; exact hn1), r2 hn0 hn1, show (1 : Int32) = oo 1 from rfl, oo_add]
    exact u1
theorem begin_c {x : TX} {L : Nat} (hx : xok x L) {S : XS} (h1 : S.1 1 1 = oo x.2.1) (hb : ∀ j, j < 940 → S.1 2 j = oo (x.1 j)) (hK : RKeys S) : ∃ U, f_X8_begin 1 (oo x.2.2) S = some U ∧ AtC x L 0 U ∧ U.1 1 2 = oo 0 ∧ Fr FBC S U := by
  have F1 : Fr FBC S (sI (sI (sI S 1 2 (oo 0)) 1 3 (oo 0)) 1 8 (oo 0)) := Fr.sIp (Fr.sIp (Fr.sIp (Fr.rf _ _) rfl) rfl) rfl
  have hL := hx.2.2.2.1
  obtain ⟨U, u1, u2, u3⟩ := begL_c hx L 0 1000000 (sI (sI (sI S 1 2 (oo 0)) 1 3 (oo 0)) 1 8 (oo 0)) (by omega) (by omega) (by rw [F1.get rfl]; exact h1) (fun j hj => by rw [F1.row (c := 2) rfl]; exact hb j hj) (hK.fr F1 rfl) (sI_same _ _ _ _) (fun j hj => absurd hj (Nat.not_lt_zero _))
  have u1' : f_X8_begin_L19 1 (oo x.2.2) 1000000 (oo 0) (oo 0) (sI (sI (sI S 1 2 (oo 0)) 1 3 (oo 0)) 1 8 (oo 0)) = some U := u1
  have e0 : gat (sI U 1 9 (oo 0)) 4 (oo 0) = oo (xK x 0) := by rw [g_4 (by decide), sI_cell (by decide), (u2 0 (Nat.zero_le _)).1]
  refine ⟨sI (sI U 1 9 (oo 0)) 1 10 (oo (xK x 0)), ?_, ⟨Nat.zero_le _, fun j hj => ?_, ?_, sI_same _ _ _ _⟩, ?_, Fr.sIp (Fr.sIp (Fr.trans F1 (u3.mono rfl)) rfl) rfl⟩
  · unfold f_X8_begin
    rw [show (0 : Int32) = oo 0 from rfl, u1', Option.bind_some, show rf 1 5 = 4 from rfl, e0]
  · rw [sI_cell (by decide), sI_cell (by decide), sI_cell (by decide), sI_cell (by decide)]
    exact u2 j hj
  · rw [sI_place (by decide), sI_same]
  · rw [sI_place (by decide), sI_place (by decide), u3.get rfl, sI_place (by decide), sI_place (by decide), sI_same]
theorem AtC.fr {x : TX} {L i : Nat} {l : List (Nat × Nat)} {S U : XS} (h : AtC x L i S) (hF : Fr l S U) (hl : ntc l [(1, 9), (1, 10)] [4, 5, 6] = true) : AtC x L i U := by
  unfold AtC xR at h ⊢
  rw [hF.get (ntc_c hl (c := 1) (j := 9) rfl), hF.get (ntc_c hl (c := 1) (j := 10) rfl), hF.row (ntc_r hl (c := 4) rfl), hF.row (ntc_r hl (c := 5) rfl), hF.row2 (ntc_r hl (c := 6) rfl)]
  exact h
theorem AtN.fr {x : TX} {i : Nat} {l : List (Nat × Nat)} {T U : XS} (h : AtN x i T) (hF : Fr l T U) (hl : ntc l [(188, 3), (188, 4), (188, 5), (188, 6), (188, 7), (188, 8), (188, 9), (188, 12)] [189] = true) : AtN x i U := by
  unfold AtN tkN at h ⊢
  rw [hF.get (ntc_c hl (c := 188) (j := 3) rfl), hF.get (ntc_c hl (c := 188) (j := 4) rfl), hF.get (ntc_c hl (c := 188) (j := 5) rfl), hF.get (ntc_c hl (c := 188) (j := 6) rfl), hF.get (ntc_c hl (c := 188) (j := 7) rfl), hF.get (ntc_c hl (c := 188) (j := 8) rfl), hF.get (ntc_c hl (c := 188) (j := 9) rfl), (hF 188 12 (ntc_c hl (c := 188) (j := 12) rfl)).2, hF.row (ntc_r hl (c := 189) rfl)]
  exact h
section TK
variable {x : TX} {L i : Nat} {S T : XS}
theorem step_c (hx : xok x L) (h : AtC x L i S) (hi : i < L) : AtC x L (i + 1) (t_X8_step 1 S) ∧ Fr [(1, 9), (1, 10)] S (t_X8_step 1 S) := by
  obtain ⟨h1, h2, h3, h4⟩ := h
  have hL := hx.2.2.2.1
  have e : t_X8_step 1 S = sI (sI S 1 9 (oo (i + 1))) 1 10 (oo (xK x (i + 1))) := by
    unfold t_X8_step
    have e1 : S.1 1 9 + (1 : Int32) = oo (i + 1) := by rw [h3]; exact oo_add _ 1
    rw [e1, if_neg (by rw [show (940 : Int32) = oo 940 from rfl, oo_lt (by decide) (by omega)]; omega), sI_same, show rf 1 5 = 4 from rfl, g_4 (by omega), sI_cell (by decide), (h2 (i + 1) (by omega)).1]
  rw [e]
  refine ⟨⟨by omega, fun j hj => ?_, ?_, sI_same _ _ _ _⟩, Fr.sIp (Fr.sIp (Fr.rf _ _) rfl) rfl⟩
  · rw [sI_cell (by decide), sI_cell (by decide), sI_cell (by decide), sI_cell (by decide)]
    exact h2 j hj
  · rw [sI_place (by decide), sI_same]
theorem fail_c (h : AtC x L i S) (hx : xok x L) (k : Int32) : ∃ U, t_X8_fail 1 k S = (false, U) ∧ U.1 1 2 = k ∧ U.1 1 3 = oo (xP x i) ∧ Fr [(1, 2), (1, 3)] S U := by
  obtain ⟨h1, h2, h3, h4⟩ := h
  have hL := hx.2.2.2.1
  refine ⟨_, rfl, ?_, ?_, Fr.sIp (Fr.sIp (Fr.rf _ _) rfl) rfl⟩
  · rw [sI_place (by decide), sI_same]
  · rw [sI_same, sI_place (by decide), h3, show rf 1 6 = 5 from rfl, g_5 (by omega), sI_cell (by decide), (h2 i h1).2.1]
theorem failT_c (h : AtC x L (i + 1) S) (hx : xok x L) (k : Int32) : ∃ U, t_X8_failAtTaken 1 k S = (false, U) ∧ U.1 1 2 = k ∧ U.1 1 3 = oo (xP x i) ∧ Fr [(1, 2), (1, 3)] S U := by
  obtain ⟨h1, h2, h3, h4⟩ := h
  have hL := hx.2.2.2.1
  refine ⟨_, rfl, ?_, ?_, Fr.sIp (Fr.sIp (Fr.rf _ _) rfl) rfl⟩
  · rw [sI_place (by decide), sI_same]
  · rw [sI_same, sI_place (by decide), h3, show (1 : Int32) = oo 1 from rfl, oo_sub (by omega), Nat.add_sub_cancel, show rf 1 6 = 5 from rfl, g_5 (by omega), sI_cell (by decide), (h2 i (by omega)).2.1]
def FGO : List (Nat × Nat) := [(188, 5), (188, 6), (188, 7), (188, 8), (188, 9), (188, 12)]
theorem goN (hx : xok x L) (h : AtN x i T) (hi : i < L) : ∃ U, f_X12_go 188 T = some U ∧ AtN x (i + 1) U ∧ Fr FGO T U := by
  obtain ⟨h1, h2, h3, h4⟩ := h
  have hn := xp_n hx.2.2.2.2.2 (i + 1) (by omega)
  have he := hx.2.2.2.2.2 i hi
  have e5 := h4.2.2.1 (fun q => he (.inl q)) (fun q => he (.inr q))
  obtain ⟨U, u1, u2, u3⟩ := go_n (b := x.1) (n := x.2.1) (lim := x.2.2) (p := xp x (i + 1)) hx.1 hx.2.1 hn.2 h1 h2 e5 (fun j hj => ⟨h3 j hj, hx.2.2.1 j hj⟩)
  exact ⟨U, u1, ⟨by rw [u3.get rfl]; exact h1, by rw [u3.get rfl]; exact h2, fun j hj => by rw [u3.row (c := 189) rfl]; exact h3 j hj, u2⟩, u3⟩
theorem begin_n (hx : xok x L) (h2 : T.1 188 2 = oo x.2.1) (hb : ∀ j, j < 940 → T.1 189 j = oo (x.1 j)) : ∃ U, f_X12_begin 188 (oo x.2.2) T = some U ∧ AtN x 0 U ∧ U.1 188 10 = oo 0 ∧ U.1 188 2 = oo 0 ∧ Fr [(188, 0), (188, 2), (188, 3), (188, 4), (188, 10), (188, 5), (188, 6), (188, 7), (188, 8), (188, 9), (188, 12)] T U := by
  have ht : t_X12_take 188 (sI T 188 0 (oo 0)) = (oo x.2.1, sI (sI T 188 0 (oo 0)) 188 2 (oo 0)) := by
    unfold t_X12_take
    rw [sI_place (by decide), h2]
    rfl
  have F1 : Fr [(188, 0), (188, 2), (188, 3), (188, 4), (188, 10), (188, 5), (188, 6), (188, 7), (188, 8), (188, 9), (188, 12)] T (sI (sI (sI (sI (sI (sI T 188 0 (oo 0)) 188 2 (oo 0)) 188 3 (oo x.2.1)) 188 4 (oo x.2.2)) 188 10 (oo 0)) 188 5 (oo 0)) := Fr.sIp (Fr.sIp (Fr.sIp (Fr.sIp (Fr.sIp (Fr.sIp (Fr.rf _ _) rfl) rfl) rfl) rfl) rfl) rfl
  have a3 : (sI (sI (sI (sI (sI (sI T 188 0 (oo 0)) 188 2 (oo 0)) 188 3 (oo x.2.1)) 188 4 (oo x.2.2)) 188 10 (oo 0)) 188 5 (oo 0)).1 188 3 = oo x.2.1 := by rw [sI_place (by decide), sI_place (by decide), sI_place (by decide), sI_same]
  have a4 : (sI (sI (sI (sI (sI (sI T 188 0 (oo 0)) 188 2 (oo 0)) 188 3 (oo x.2.1)) 188 4 (oo x.2.2)) 188 10 (oo 0)) 188 5 (oo 0)).1 188 4 = oo x.2.2 := by rw [sI_place (by decide), sI_place (by decide), sI_same]
  have a10 : (sI (sI (sI (sI (sI (sI T 188 0 (oo 0)) 188 2 (oo 0)) 188 3 (oo x.2.1)) 188 4 (oo x.2.2)) 188 10 (oo 0)) 188 5 (oo 0)).1 188 10 = oo 0 := by rw [sI_place (by decide), sI_same]
  have a2 : (sI (sI (sI (sI (sI (sI T 188 0 (oo 0)) 188 2 (oo 0)) 188 3 (oo x.2.1)) 188 4 (oo x.2.2)) 188 10 (oo 0)) 188 5 (oo 0)).1 188 2 = oo 0 := by rw [sI_place (by decide), sI_place (by decide), sI_place (by decide), sI_place (by decide), sI_same]
  have a5 : (sI (sI (sI (sI (sI (sI T 188 0 (oo 0)) 188 2 (oo 0)) 188 3 (oo x.2.1)) 188 4 (oo x.2.2)) 188 10 (oo 0)) 188 5 (oo 0)).1 188 5 = oo 0 := sI_same _ _ _ _
  have ha : ∀ j, j < 940 → (sI (sI (sI (sI (sI (sI T 188 0 (oo 0)) 188 2 (oo 0)) 188 3 (oo x.2.1)) 188 4 (oo x.2.2)) 188 10 (oo 0)) 188 5 (oo 0)).1 189 j = oo (x.1 j) ∧ x.1 j < 256 := fun j hj => ⟨by rw [F1.row (c := 189) rfl]; exact hb j hj, hx.2.2.1 j hj⟩
  have hu : f_X12_begin 188 (oo x.2.2) T = ((f_X12_go 188 (sI (sI (sI (sI (sI (sI T 188 0 (oo 0)) 188 2 (oo 0)) 188 3 (oo x.2.1)) 188 4 (oo x.2.2)) 188 10 (oo 0)) 188 5 (oo 0))).bind (fun S1 => some S1)) := by
    unfold f_X12_begin
    rw [show (0 : Int32) = oo 0 from rfl, ht]
  generalize sI (sI (sI (sI (sI (sI T 188 0 (oo 0)) 188 2 (oo 0)) 188 3 (oo x.2.1)) 188 4 (oo x.2.2)) 188 10 (oo 0)) 188 5 (oo 0) = V at F1 a3 a4 a10 a2 a5 ha hu
  obtain ⟨U, u1, u2, u3⟩ := go_n (b := x.1) (n := x.2.1) (lim := x.2.2) (p := 0) hx.1 hx.2.1 (Nat.zero_le _) a3 a4 a5 ha
  exact ⟨U, by rw [hu, u1]; rfl, ⟨by rw [u3.get rfl]; exact a3, by rw [u3.get rfl]; exact a4, fun j hj => by rw [u3.row (c := 189) rfl]; exact (ha j hj).1, u2⟩, by rw [u3.get rfl]; exact a10, by rw [u3.get rfl]; exact a2, Fr.trans F1 (u3.mono rfl)⟩
/-! the reference's looks at a token -/
theorem kind_n (hx : xok x L) (h : AtN x i T) (hi : i ≤ L) : (T.1 188 7 = 0 ↔ xK x i = 0) ∧ (T.1 188 7 = 1 ↔ xK x i = 1) ∧ (T.1 188 7 = 2 ↔ xK x i = 2 ∨ 128 ≤ xK x i) ∧ (T.1 188 7 = 3 ↔ xK x i = 3) ∧ (T.1 188 7 = 4 ↔ isSg (xK x i) = true) := by
  have h7 : T.1 188 7 = oo (rfK (xK x i)) := h.2.2.2.2.1
  rw [h7, show (0 : Int32) = oo 0 from rfl, show (1 : Int32) = oo 1 from rfl, show (2 : Int32) = oo 2 from rfl, show (3 : Int32) = oo 3 from rfl, show (4 : Int32) = oo 4 from rfl]
  have hlt := xK_lt hx hi
  have hr : rfK (xK x i) ≤ 4 := by unfold rfK; split <;> (try split) <;> (try split) <;> (try split) <;> omega
  rw [oo_eq (by omega) (by decide), oo_eq (by omega) (by decide), oo_eq (by omega) (by decide), oo_eq (by omega) (by decide), oo_eq (by omega) (by decide)]
  rcases xK_c hx hi with q | q | q | q | q
  · rw [q]; decide
  · rw [q]; decide
  · rw [q.1]; decide
  · have hr2 : rfK (xK x i) = 2 := by rw [q.1]; exact wdK_r _
    have hs : ¬ isSg (xK x i) = true := by rw [q.1]; exact wdK_sg _
    have hc := wdK_c (xW x i)
    rw [← q.1] at hc
    rw [hr2]
    refine ⟨by omega, by omega, ⟨fun _ => by omega, fun _ => rfl⟩, by omega, ⟨fun h => by omega, fun h => absurd h hs⟩⟩
  · have hb := isSg_b q
    have hr4 : rfK (xK x i) = 4 := by unfold rfK; rw [if_neg (by omega), if_neg (by omega), if_neg (by omega), if_neg (by omega)]
    rw [hr4]
    exact ⟨by omega, by omega, by omega, by omega, ⟨fun _ => q, fun _ => rfl⟩⟩
theorem sign_n (hx : xok x L) (h : AtN x i T) (hi : i ≤ L) {c : Nat} (hc : isSg c = true) : t_X12_isSign 188 (oo c) T = decide (xK x i = c) := by
  have hk := (kind_n hx h hi).2.2.2.2
  have hcb := sg_lt hc
  unfold t_X12_isSign
  by_cases h4 : isSg (xK x i) = true
  · have e9 : T.1 188 9 = oo (xK x i) := h.2.2.2.2.2.2.1 h4
    have := sg_lt h4
    rw [if_pos (hk.mpr h4), e9, ieq (by omega) (by omega)]
    by_cases q : xK x i = c
    · rw [if_pos q, decide_eq_true q]
    · rw [if_neg q, decide_eq_false q]
  · rw [if_neg (fun z => h4 (hk.mp z)), decide_eq_false (fun q => h4 (by rw [q]; exact hc))]
theorem isWord_n (hx : xok x L) (h : AtN x i T) (hi : i ≤ L) {k : Nat} (hk : k < 17) : f_X12_isWord 188 (oo k) T = some (decide (xK x i = 128 + kyR k), T) := by
  have h2 := (kind_n hx h hi).2.2.1
  have hkr := kyR_lt k hk
  unfold f_X12_isWord
  by_cases hw : xK x i = 2 ∨ 128 ≤ xK x i
  · have e12 : T.2 188 12 = pk27 (xW x i) := h.2.2.2.2.2.2.2.1 hw
    rw [if_pos (h2.mpr hw), word_n k hk, Option.bind_some]
    dsimp only
    rw [e12]
    rcases hw with hw | hw
    · obtain ⟨a1, a2, a3⟩ := xK_2 hx hi hw
      rw [if_neg (fun z => by
        have := (lg_cmp_eq _ _).mp z
        rw [pk27_eq a1 (kyg_ls hkr), kyN_eq hkr] at this
        omega), decide_eq_false (by omega)]
    · obtain ⟨a1, a2, a3⟩ := xK_128 hx hi hw
      by_cases q : kyN (xW x i) = kyR k
      · rw [if_pos ((lg_cmp_eq _ _).mpr (by rw [pk27_eq a1 (kyg_ls hkr), kyN_eq hkr]; exact q)), decide_eq_true (by omega)]
      · rw [if_neg (fun z => by
          have := (lg_cmp_eq _ _).mp z
          rw [pk27_eq a1 (kyg_ls hkr), kyN_eq hkr] at this
          exact q this), decide_eq_false (by omega)]
  · rw [if_neg (fun z => hw (h2.mp z)), decide_eq_false (by omega)]
theorem isName_n (hx : xok x L) (h : AtN x i T) (hi : i ≤ L) : f_X12_isName 188 T = some (decide (xK x i = 2), T) := by
  have h2 := (kind_n hx h hi).2.2.1
  unfold f_X12_isName
  by_cases hw : xK x i = 2 ∨ 128 ≤ xK x i
  · have e12 : T.2 188 12 = pk27 (xW x i) := h.2.2.2.2.2.2.2.1 hw
    have hls : isLs (xW x i) := by
      rcases hw with q | q
      · exact (xK_2 hx hi q).1
      · exact (xK_128 hx hi q).1
    have key : ∀ m k f, k + m = 17 → m < f → (∃ j, k ≤ j ∧ j < 17 ∧ xW x i = kyg (kyR j) ∧ f_X12_isName_L12 188 f (oo k) T = some (.inl (false, T))) ∨ ((∀ j, k ≤ j → j < 17 → xW x i ≠ kyg (kyR j)) ∧ f_X12_isName_L12 188 f (oo k) T = some (.inr T)) := by
      intro m
      induction m with
      | zero =>
        intro k f hk hf
        obtain ⟨f, rfl⟩ : ∃ f', f = f' + 1 := ⟨f - 1, by omega⟩
        obtain rfl : k = 17 := by omega
        exact .inr ⟨fun j j1 j2 => by omega, by rw [f_X12_isName_L12, if_pos (by decide)]⟩
      | succ m ih =>
        intro k f hk hf
        obtain ⟨f, rfl⟩ : ∃ f', f = f' + 1 := ⟨f - 1, by omega⟩
        rw [f_X12_isName_L12, if_neg (by rw [show (16 : Int32) = oo 16 from rfl, oo_lt (by decide) (by omega)]; omega), word_n k (by omega), Option.bind_some]
        dsimp only
        rw [e12, show (1 : Int32) = oo 1 from rfl, oo_add]
        by_cases q : xW x i = kyg (kyR k)
        · exact .inl ⟨k, Nat.le_refl _, by omega, q, by rw [if_pos ((lg_cmp_eq _ _).mpr (by rw [q]))]⟩
        · rw [if_neg (fun z => q (by
            have := (lg_cmp_eq _ _).mp z
            rwa [pk27_eq hls (kyg_ls (kyR_lt k (by omega)))] at this))]
          rcases ih (k + 1) f (by omega) (by omega) with ⟨j, j1, j2, j3, j4⟩ | ⟨j1, j2⟩
          · exact .inl ⟨j, by omega, j2, j3, j4⟩
          · refine .inr ⟨fun j a1 a2 => ?_, j2⟩
            rcases Nat.lt_or_ge k j with z | z
            · exact j1 j z a2
            · obtain rfl : j = k := by omega
              exact q
    rw [if_pos (h2.mpr hw), show (0 : Int32) = oo 0 from rfl]
    rcases key 17 0 1000000 rfl (by decide) with ⟨j, j1, j2, j3, j4⟩ | ⟨j1, j2⟩
    · rw [j4, Option.bind_some]
      dsimp only
      rw [kyN_eq (kyR_lt j j2)] at j3
      have := kyR_lt j j2
      rw [decide_eq_false (fun q => by
        have := (xK_2 hx hi q).2.2
        omega)]
    · rw [j2, Option.bind_some]
      dsimp only
      rw [decide_eq_true (hw.resolve_right (fun q => by
        obtain ⟨a1, a2, a3⟩ := xK_128 hx hi q
        have h : ∀ c, c < 17 → kyR ([0, 1, 3, 2, 4, 5, 12, 13, 6, 7, 8, 9, 10, 11, 14, 15, 16].getD c 0) = c ∧ [0, 1, 3, 2, 4, 5, 12, 13, 6, 7, 8, 9, 10, 11, 14, 15, 16].getD c 0 < 17 := by decide
        obtain ⟨h3, h4⟩ := h _ a3
        refine j1 _ (Nat.zero_le _) h4 ?_
        rw [kyN_eq (kyR_lt _ h4), h3]))]
  · rw [if_neg (fun z => hw (h2.mp z)), decide_eq_false (by omega)]
def bdK (x : TX) (i k : Nat) : Nat := if xK x i = 1 then 1 else k
theorem bad_n (hx : xok x L) (h : AtN x i T) (hi : i ≤ L) (k : Nat) : ∃ U, f_X12_bad 188 (oo k) T = some (false, U) ∧ U.1 188 10 = oo (bdK x i k) ∧ U.1 188 11 = oo (xP x i) ∧ Fr [(188, 10), (188, 11)] T U := by
  have h1 := (kind_n hx h hi).2.1
  have e6 : T.1 188 6 = oo (xP x i) := h.2.2.2.1
  have e : (if T.1 188 7 = (1 : Int32) then some (1 : Int32) else some (oo k)) = some (oo (bdK x i k)) := by
    unfold bdK
    by_cases q : xK x i = 1
    · rw [if_pos (h1.mpr q), if_pos q]
      rfl
    · rw [if_neg (fun z => q (h1.mp z)), if_neg q]
  unfold f_X12_bad
  rw [e, Option.bind_some]
  refine ⟨_, rfl, ?_, ?_, Fr.sIp (Fr.sIp (Fr.rf _ _) rfl) rfl⟩
  · rw [sI_place (by decide), sI_same]
  · rw [sI_same, sI_place (by decide)]
    exact e6
end TK
