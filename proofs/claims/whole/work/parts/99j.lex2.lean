/-! what token stands at p: its kind as the class counts them, its place, where it ends -/
def stN (b : Nat → Nat) (n p : Nat) : Nat := skN b (n - p) p
def edN (b : Nat → Nat) (n p : Nat) : Nat := enN b (n - stN b n p) (stN b n p)
def tkW (b : Nat → Nat) (n p : Nat) : List Nat := lwN b (stN b n p) (edN b n p - stN b n p)
def tkV (b : Nat → Nat) (n p : Nat) : Nat := nuN b (stN b n p) (edN b n p - stN b n p)
def wdK (l : List Nat) : Nat := if kyN l < 17 then 128 + kyN l else 2
def rkN (b : Nat → Nat) (n p : Nat) : Nat :=
  if clN b (stN b n p) (edN b n p - stN b n p) = edN b n p - stN b n p ∧ edN b n p - stN b n p ≤ 7 then wdK (tkW b n p)
  else if clN b (stN b n p) (edN b n p - stN b n p) = 0 ∧ edN b n p - stN b n p ≤ 3 then 3 else 1
def tkK (b : Nat → Nat) (n lim p : Nat) : Nat :=
  if lim < n ∧ lim ≤ stN b n p then 1
  else if n ≤ stN b n p then 0
  else if isLe (b (stN b n p)) = true ∨ isDi (b (stN b n p)) = true then rkN b n p
  else if isSg (b (stN b n p)) = true then b (stN b n p) else 1
def tkP (b : Nat → Nat) (n lim p : Nat) : Nat := if lim < n ∧ lim ≤ stN b n p then lim else stN b n p
def tkX (b : Nat → Nat) (n p : Nat) : Nat := if isLe (b (stN b n p)) = true ∨ isDi (b (stN b n p)) = true then edN b n p else stN b n p + 1
theorem stN_b {b : Nat → Nat} {n p : Nat} (h : p ≤ n) : p ≤ stN b n p ∧ stN b n p ≤ n := by
  have := skN_b (b := b) (n - p) p
  unfold stN
  omega
theorem edN_b {b : Nat → Nat} {n p : Nat} (h : p ≤ n) : stN b n p ≤ edN b n p ∧ edN b n p ≤ n := by
  have h1 := stN_b (b := b) h
  have := enN_b (b := b) (n - stN b n p) (stN b n p)
  unfold edN
  omega
theorem wdK_c (l : List Nat) : wdK l = 2 ∨ 128 ≤ wdK l ∧ wdK l < 145 := by
  unfold wdK
  split
  · exact .inr (by omega)
  · exact .inl rfl
theorem wdK_2 {l : List Nat} (h : wdK l = 2) : kyN l = 17 := by
  have := kyN_le l
  unfold wdK at h
  split at h
  · omega
  · omega
theorem wdK_k {l : List Nat} {k : Nat} (hk : k < 17) : (wdK l = 128 + k) = (kyN l = k) := propext (by
  unfold wdK
  split
  · constructor <;> intro h <;> omega
  · constructor <;> intro h <;> omega)
/-! the class: what it passes over -/
section LX
variable {b : Nat → Nat} {n lim : Nat} {S : XS}
theorem blank_c {i2 : Int32} (h1 : S.1 1 1 = oo n) (hn : n ≤ 940) (hb : ∀ j, j < 940 → S.1 2 j = oo (b j) ∧ b j < 256) : ∀ m p f, p + m = n → m < f → f_X8_readToken_L2 1 i2 f (oo p) S = some (oo (skN b m p)) := by
  intro m
  induction m with
  | zero =>
    intro p f hp hf
    obtain ⟨f, rfl⟩ : ∃ f', f = f' + 1 := ⟨f - 1, by omega⟩
    obtain rfl : p = n := by omega
    rw [f_X8_readToken_L2, h1, if_pos (Int32.le_refl _)]
    rfl
  | succ m ih =>
    intro p f hp hf
    obtain ⟨f, rfl⟩ : ∃ f', f = f' + 1 := ⟨f - 1, by omega⟩
    obtain ⟨e1, e2⟩ := hb p (by omega)
    rw [f_X8_readToken_L2, h1, if_neg (by rw [oo_le (by omega) (by omega)]; omega), show rf 1 0 = 2 from rfl, g_2 (by omega), e1, bl_c _ e2, skN, show (1 : Int32) = oo 1 from rfl, oo_add, ih (p + 1) f (by omega) (by omega)]
    split <;> rfl
theorem run_c {i1 : Int32} {s : Nat} (h1 : S.1 1 1 = oo n) (hn : n ≤ 940) (hb : ∀ j, j < 940 → S.1 2 j = oo (b j) ∧ b j < 256) : ∀ m k f (w : Int64) (u : Int64), s + k + m = n → m < f → (clN b s k = k → k ≤ 7 → w = pk8 (lwN b s k)) → (clN b s k = 0 → k ≤ 3 → u = ll (nuN b s k)) → ∃ w' u', f_X8_readRun_L10 1 i1 f (oo (s + k)) (oo (clN b s k)) w u S = some (oo (enN b m (s + k)), oo (clN b s (enN b m (s + k) - s)), w', u') ∧ (clN b s (enN b m (s + k) - s) = enN b m (s + k) - s → enN b m (s + k) - s ≤ 7 → w' = pk8 (lwN b s (enN b m (s + k) - s))) ∧ (clN b s (enN b m (s + k) - s) = 0 → enN b m (s + k) - s ≤ 3 → u' = ll (nuN b s (enN b m (s + k) - s))) := by
  intro m
  induction m with
  | zero =>
    intro k f w u hk hf hw hu
    obtain ⟨f, rfl⟩ : ∃ f', f = f' + 1 := ⟨f - 1, by omega⟩
    refine ⟨w, u, ?_, ?_, ?_⟩
    · rw [f_X8_readRun_L10, h1, if_pos (by rw [oo_le (by omega) (by omega)]; omega), enN, Nat.add_sub_cancel_left]
    · rw [enN, Nat.add_sub_cancel_left]; exact hw
    · rw [enN, Nat.add_sub_cancel_left]; exact hu
  | succ m ih =>
    intro k f w u hk hf hw hu
    obtain ⟨f, rfl⟩ : ∃ f', f = f' + 1 := ⟨f - 1, by omega⟩
    obtain ⟨e1, e2⟩ := hb (s + k) (by omega)
    have hcl := clN_le (b := b) (s := s) k
    have e0 : gat S (rf 1 0) (oo (s + k)) = oo (b (s + k)) := by rw [show rf 1 0 = 2 from rfl, g_2 (by omega), e1]
    rw [f_X8_readRun_L10, h1, if_neg (by rw [oo_le (by omega) (by omega)]; omega), e0, le_c _ e2, di_c _ e2, enN]
    by_cases hl : isLe (b (s + k)) = true
    · have hlb := isLe_b hl
      have hc : clN b s (k + 1) = clN b s k + 1 := by rw [clN, if_pos hl]
      rw [if_pos hl, if_pos hl, show (1 : Int32) = oo 1 from rfl, oo_add, oo_add, ← hc]
      refine ih (k + 1) f _ _ (by omega) (by omega) (fun h h7 => ?_) (fun h h3 => by omega)
      rw [hw (by omega) (by omega), lwN, pk8, show 96 + (b (s + k) - 96) = b (s + k) by omega]
    · rw [if_neg hl, if_neg hl]
      have hc : clN b s (k + 1) = clN b s k := by rw [clN, if_neg hl]; rfl
      by_cases hd : isDi (b (s + k)) = true
      · have hdb := isDi_b hd
        rw [if_pos hd, if_pos hd, show (1 : Int32) = oo 1 from rfl, oo_add, ← hc]
        refine ih (k + 1) f _ _ (by omega) (by omega) (fun h h7 => by omega) (fun h h3 => ?_)
        rw [hu (by omega) (by omega), nuN, ll_oo (by omega), show (10 : Int64) = ll 10 from rfl, show (48 : Int64) = ll 48 from rfl, ll_mul, ll_add, ll_sub (by omega)]
        congr 1
        omega
      · rw [if_neg hd, if_neg hd]
        refine ⟨w, u, ?_, ?_, ?_⟩
        · rw [Nat.add_sub_cancel_left]
        · rw [Nat.add_sub_cancel_left]; exact hw
        · rw [Nat.add_sub_cancel_left]; exact hu
theorem kind_c {l : List Nat} (hl : isLs l) (hK : RKeys S) : f_X8_kindOfWord 1 (pk8 l) S = some (oo (wdK l), S) := by
  have key : ∀ m k f, k + m = 17 → m < f → f_X8_kindOfWord_L2 1 (pk8 l) f (oo k) S = some (if kyF l m k < 17 then .inl (oo (128 + kyF l m k), S) else .inr ()) := by
    intro m
    induction m with
    | zero =>
      intro k f hk hf
      obtain ⟨f, rfl⟩ : ∃ f', f = f' + 1 := ⟨f - 1, by omega⟩
      obtain rfl : k = 17 := by omega
      rw [f_X8_kindOfWord_L2, if_pos (by decide)]
      rfl
    | succ m ih =>
      intro k f hk hf
      obtain ⟨f, rfl⟩ : ∃ f', f = f' + 1 := ⟨f - 1, by omega⟩
      have e : S.2 3 k = pk8 (kyg k) := by rw [hK]; exact keys_k k (by omega)
      rw [f_X8_kindOfWord_L2, if_neg (by rw [show (17 : Int32) = oo 17 from rfl, oo_le (by omega) (by omega)]; omega), show rf 1 4 = 3 from rfl, if_neg (by rw [ln_3]; exact oo_inb (by omega) (by omega)), oo_nat (by omega), e, show (128 : Int32) = oo 128 from rfl, show (1 : Int32) = oo 1 from rfl, oo_add, oo_add, ih (k + 1) f (by omega) (by omega), kyF]
      by_cases q : l = kyg k
      · rw [if_pos q, if_pos ((lg_cmp_eq _ _).mpr (by rw [q])), if_pos (by omega)]
      · rw [if_neg q, if_neg (fun z => q (by
          have := (lg_cmp_eq _ _).mp z
          rwa [pk8_eq hl (kyg_ls (by omega))] at this))]
  have h := key 17 0 1000000 rfl (by decide)
  unfold f_X8_kindOfWord
  rw [show (0 : Int32) = oo 0 from rfl, h, Option.bind_some]
  unfold wdK kyN
  by_cases q : kyF l 17 0 < 17
  · rw [if_pos q, if_pos q]
  · rw [if_neg q, if_neg q]
    rfl
def adX (S : XS) (i k q : Nat) (c : Int64) : XS := sI (sL (sI (sI S 4 i (oo k)) 5 i (oo q)) 6 i c) 1 8 (oo (i + 1))
theorem addT_c {i k q : Nat} {c : Int64} (hi : i ≤ 940) (h : S.1 1 8 = oo i) : f_X8_addToken 1 (oo k) (oo q) c S = some (adX S i k q c) := by
  have e1 : pat S (rf 1 5) (S.1 1 8) (oo k) = sI S 4 i (oo k) := by rw [h, show rf 1 5 = 4 from rfl, p_4 (by omega)]
  have e2 : (sI S 4 i (oo k)).1 1 8 = oo i := by rw [sI_cell (by decide)]; exact h
  have e3 : pat (sI S 4 i (oo k)) (rf 1 6) (oo i) (oo q) = sI (sI S 4 i (oo k)) 5 i (oo q) := by rw [show rf 1 6 = 5 from rfl, p_5 (by omega)]
  have e4 : (sI (sI S 4 i (oo k)) 5 i (oo q)).1 1 8 = oo i := by rw [sI_cell (by decide)]; exact e2
  unfold f_X8_addToken
  rw [e1, e2, e3, e4, if_neg (by rw [show (0 : Int32) = oo 0 from rfl, oo_lt (by omega) (by decide)]; omega), if_neg (by rw [show (941 : Int32) = oo 941 from rfl, oo_le (by decide) (by omega)]; omega), show rf 1 7 = 6 from rfl, if_neg (by rw [ln_6]; exact oo_inb (by omega) (by omega)), oo_nat (by omega), sL_int, e4, show (1 : Int32) = oo 1 from rfl, oo_add]
  rfl
theorem readRun_c {s i : Nat} (h1 : S.1 1 1 = oo n) (hn : n ≤ 940) (hb : ∀ j, j < 940 → S.1 2 j = oo (b j) ∧ b j < 256) (hK : RKeys S) (hs : s < n) (hi : i ≤ 940) (h8 : S.1 1 8 = oo i) (e : Nat) (he : e = enN b (n - s) s) (hse : s < e) (K : Nat) (hk : K = if clN b s (e - s) = e - s ∧ e - s ≤ 7 then wdK (lwN b s (e - s)) else if clN b s (e - s) = 0 ∧ e - s ≤ 3 then 3 else 1) : ∃ c, f_X8_readRun 1 (oo s) S = some (oo e, adX S i K s c) ∧ (K = 3 → c = ll (nuN b s (e - s))) ∧ (K = 2 → c = pk8 (lwN b s (e - s))) := by
  obtain ⟨w, u, r1, r2, r3⟩ := run_c (i1 := oo s) (s := s) h1 hn hb (n - s) 0 1000000 0 0 (by omega) (by omega) (fun _ _ => rfl) (fun _ _ => rfl)
  rw [Nat.add_zero, ← he] at r1 r2 r3
  have hcl := clN_le (b := b) (s := s) (e - s)
  have hen := (enN_b (b := b) (n - s) s).2
  rw [← he] at hen
  unfold f_X8_readRun
  rw [show (0 : Int32) = oo (clN b s 0) from rfl, r1, Option.bind_some]
  dsimp only
  rw [oo_sub (by omega)]
  by_cases ha : clN b s (e - s) = e - s
  · rw [if_pos (by rw [ha])]
    by_cases h7 : e - s ≤ 7
    · rw [if_pos ⟨ha, h7⟩] at hk
      rw [if_neg (by rw [show (7 : Int32) = oo 7 from rfl, oo_lt (by decide) (by omega)]; omega), r2 ha h7, kind_c (lwN_ls ha h7) hK, Option.bind_some]
      dsimp only
      rw [addT_c hi h8, Option.bind_some, ← hk]
      refine ⟨_, rfl, fun h3 => ?_, fun _ => rfl⟩
      have := wdK_c (lwN b s (e - s))
      omega
    · rw [if_neg (fun z => h7 z.2), if_neg (fun z => by omega)] at hk
      rw [if_pos (by rw [show (7 : Int32) = oo 7 from rfl, oo_lt (by decide) (by omega)]; omega), if_neg (by rw [show (clN b s 0 : Nat) = 0 from rfl, oo_eq (by omega) (by decide)]; omega), Option.bind_some, if_neg (by decide), Option.bind_some, show (1 : Int32) = oo 1 from rfl, addT_c hi h8, Option.bind_some, ← hk]
      exact ⟨_, rfl, fun h3 => by omega, fun h3 => by omega⟩
  · rw [if_neg (fun z => ha z.1)] at hk
    rw [if_neg (by rw [oo_eq (by omega) (by omega)]; exact ha)]
    by_cases hz : clN b s (e - s) = 0
    · rw [if_pos (by rw [hz]; rfl)]
      by_cases h3 : e - s ≤ 3
      · rw [if_pos ⟨hz, h3⟩] at hk
        rw [if_neg (by rw [show (3 : Int32) = oo 3 from rfl, oo_lt (by decide) (by omega)]; omega), Option.bind_some, if_pos rfl, Option.bind_some, show (3 : Int32) = oo 3 from rfl, addT_c hi h8, Option.bind_some, ← hk]
        exact ⟨_, rfl, fun _ => r3 hz h3, fun h => by omega⟩
      · rw [if_neg (fun z => h3 z.2)] at hk
        rw [if_pos (by rw [show (3 : Int32) = oo 3 from rfl, oo_lt (by decide) (by omega)]; omega), Option.bind_some, if_neg (by decide), Option.bind_some, show (1 : Int32) = oo 1 from rfl, addT_c hi h8, Option.bind_some, ← hk]
        exact ⟨_, rfl, fun h => by omega, fun h => by omega⟩
    · rw [if_neg (fun z => hz z.1)] at hk
      rw [if_neg (by rw [show (clN b s 0 : Nat) = 0 from rfl, oo_eq (by omega) (by decide)]; exact hz), Option.bind_some, if_neg (by decide), Option.bind_some, show (1 : Int32) = oo 1 from rfl, addT_c hi h8, Option.bind_some, ← hk]
      exact ⟨_, rfl, fun h => by omega, fun h => by omega⟩
theorem sg_lt {c : Nat} (h : isSg c = true) : 40 ≤ c ∧ c ≤ 62 := by
  have := isSg_b h
  omega
theorem token_c {p i : Nat} (h1 : S.1 1 1 = oo n) (hn : n ≤ 940) (hb : ∀ j, j < 940 → S.1 2 j = oo (b j) ∧ b j < 256) (hK : RKeys S) (hp : p ≤ n) (hi : i ≤ 940) (hlim : lim ≤ 940) (h8 : S.1 1 8 = oo i) : ∃ c z, f_X8_readToken 1 (oo p) (oo lim) S = some (z, adX S i (tkK b n lim p) (tkP b n lim p) c) ∧ (tkK b n lim p ≠ 0 → tkK b n lim p ≠ 1 → z = oo (tkX b n p)) ∧ (tkK b n lim p = 3 → c = ll (tkV b n p)) ∧ (tkK b n lim p = 2 → c = pk8 (tkW b n p)) := by
  have hst := stN_b (b := b) hp
  have hsk := blank_c (i2 := oo lim) h1 hn hb (n - p) p 1000000 (by omega) (by omega)
  rw [show skN b (n - p) p = stN b n p from rfl] at hsk
  unfold tkK tkP tkX
  have core : ¬ (lim < n ∧ lim ≤ stN b n p) → ∃ c z, (if oo (stN b n p) < S.1 1 1 then (if (t_X8_isLetter (gat S (rf 1 0) (oo (stN b n p)))) = true then ((f_X8_readRun 1 (oo (stN b n p)) S).bind (fun q => match q with | (r7, S8) => some (r7, S8))) else (if (t_X8_isDigit (gat S (rf 1 0) (oo (stN b n p)))) = true then ((f_X8_readRun 1 (oo (stN b n p)) S).bind (fun q => match q with | (r10, S11) => some (r10, S11))) else ((if (t_X8_isSign (gat S (rf 1 0) (oo (stN b n p)))) = true then some (gat S (rf 1 0) (oo (stN b n p))) else some (1 : Int32)).bind (fun x12 => ((f_X8_addToken 1 x12 (oo (stN b n p)) 0 S).bind (fun S13 => some (((oo (stN b n p)) + (1 : Int32)), S13))))))) else ((f_X8_addToken 1 (0 : Int32) (oo (stN b n p)) 0 S).bind (fun S15 => some (((oo (stN b n p)) + (1 : Int32)), S15)))) = some (z, adX S i (if n ≤ stN b n p then 0 else if isLe (b (stN b n p)) = true ∨ isDi (b (stN b n p)) = true then rkN b n p else if isSg (b (stN b n p)) = true then b (stN b n p) else 1) (stN b n p) c) ∧ ((if n ≤ stN b n p then 0 else if isLe (b (stN b n p)) = true ∨ isDi (b (stN b n p)) = true then rkN b n p else if isSg (b (stN b n p)) = true then b (stN b n p) else 1) ≠ 0 → (if n ≤ stN b n p then 0 else if isLe (b (stN b n p)) = true ∨ isDi (b (stN b n p)) = true then rkN b n p else if isSg (b (stN b n p)) = true then b (stN b n p) else 1) ≠ 1 → z = oo (if isLe (b (stN b n p)) = true ∨ isDi (b (stN b n p)) = true then edN b n p else stN b n p + 1)) ∧ ((if n ≤ stN b n p then 0 else if isLe (b (stN b n p)) = true ∨ isDi (b (stN b n p)) = true then rkN b n p else if isSg (b (stN b n p)) = true then b (stN b n p) else 1) = 3 → c = ll (tkV b n p)) ∧ ((if n ≤ stN b n p then 0 else if isLe (b (stN b n p)) = true ∨ isDi (b (stN b n p)) = true then rkN b n p else if isSg (b (stN b n p)) = true then b (stN b n p) else 1) = 2 → c = pk8 (tkW b n p)) := by
    intro _
    by_cases hend : n ≤ stN b n p
    · rw [if_pos hend, h1, if_neg (by rw [oo_lt (by omega) (by omega)]; omega), show (0 : Int32) = oo 0 from rfl, addT_c hi h8, Option.bind_some]
      exact ⟨_, _, rfl, fun h => absurd rfl h, fun h => absurd h (by decide), fun h => absurd h (by decide)⟩
    · obtain ⟨e1, e2⟩ := hb (stN b n p) (by omega)
      have e0 : gat S (rf 1 0) (oo (stN b n p)) = oo (b (stN b n p)) := by rw [show rf 1 0 = 2 from rfl, g_2 (by omega), e1]
      rw [if_neg hend, h1, if_pos (by rw [oo_lt (by omega) (by omega)]; omega), e0, le_c _ e2, di_c _ e2, sg_c _ e2]
      by_cases hld : isLe (b (stN b n p)) = true ∨ isDi (b (stN b n p)) = true
      · obtain ⟨c, r1, r2, r3⟩ := readRun_c h1 hn hb hK (s := stN b n p) (by omega) hi h8 (edN b n p) rfl (enN_p (by omega) hld) (rkN b n p) rfl
        rw [if_pos hld, if_pos hld, r1, Option.bind_some]
        refine ⟨c, oo (edN b n p), ?_, fun _ _ => rfl, r2, r3⟩
        by_cases hl : isLe (b (stN b n p)) = true
        · rw [if_pos hl]
        · rw [if_neg hl, if_pos (hld.resolve_left hl)]
      · rw [if_neg hld, if_neg hld, if_neg (fun z => hld (.inl z)), if_neg (fun z => hld (.inr z)), show (1 : Int32) = oo 1 from rfl, oo_add]
        by_cases hs : isSg (b (stN b n p)) = true
        · have := sg_lt hs
          rw [if_pos hs, if_pos hs, Option.bind_some, addT_c hi h8, Option.bind_some]
          exact ⟨_, _, rfl, fun _ _ => rfl, fun h => by omega, fun h => by omega⟩
        · rw [if_neg hs, if_neg hs, Option.bind_some, addT_c hi h8, Option.bind_some]
          exact ⟨_, _, rfl, fun _ h => absurd rfl h, fun h => absurd h (by decide), fun h => absurd h (by decide)⟩
  unfold f_X8_readToken
  rw [hsk, Option.bind_some]
  by_cases hL : lim < n ∧ lim ≤ stN b n p
  · rw [if_pos hL, if_pos hL]
    rw [if_neg (by rw [h1, oo_le (by omega) (by omega)]; omega), if_neg (by rw [oo_lt (by omega) (by omega)]; omega), show (1 : Int32) = oo 1 from rfl, addT_c hi h8, Option.bind_some]
    exact ⟨_, _, rfl, fun _ h => absurd rfl h, fun h => absurd h (by decide), fun h => absurd h (by decide)⟩
  · rw [if_neg hL, if_neg hL]
    obtain ⟨c, z, r1, r2⟩ := core hL
    refine ⟨c, z, ?_, r2⟩
    rw [← r1]
    by_cases hl : n ≤ lim
    · rw [if_pos (by rw [h1, oo_le (by omega) (by omega)]; exact hl)]
    · rw [if_neg (by rw [h1, oo_le (by omega) (by omega)]; exact hl), if_pos (by rw [oo_lt (by omega) (by omega)]; omega)]
end LX
