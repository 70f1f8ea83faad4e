/-! a SENTENCE read: ONE by ONE -/
def wiF (K : Nat) : Nat → Nat → Nat
  | 0, _ => 17
  | m + 1, k => if K = 128 + kyR k then k else wiF K m (k + 1)
theorem wiF_no {K : Nat} : ∀ m k, k + m = 17 → (∀ j, k ≤ j → j < 17 → K ≠ 128 + kyR j) → wiF K m k = 17 := by
  intro m
  induction m with
  | zero => intro k _ _; rfl
  | succ m ih =>
    intro k hk h
    rw [wiF, if_neg (h k (Nat.le_refl _) (by omega))]
    exact ih (k + 1) (by omega) (fun j h1 h2 => h j (by omega) h2)
theorem bg_c : ∀ K, K < 145 → t_X7_beginsOne (oo K) = decide (K = 40 ∨ K = 134 ∨ K = 135 ∨ 139 ≤ K) := by decide +kernel
theorem kyR_9 : ∀ j, 9 ≤ j → j < 17 → 128 + kyR j = 134 ∨ 128 + kyR j = 135 ∨ 139 ≤ 128 + kyR j := by
  have h : ∀ j, j < 17 → 9 ≤ j → 128 + kyR j = 134 ∨ 128 + kyR j = 135 ∨ 139 ≤ 128 + kyR j := by decide
  exact fun j h1 h2 => h j h2 h1
theorem addC_p {S : XS} {st : List (Nat × Nat × Nat)} (h7 : S.1 41 3 = oo st.length) (h9 : stD S st) (hl : st.length < 40) (p s n : Nat) : stD (t_X6_add 41 (oo p) (oo s) (oo n) S) (st ++ [(p, s, n)]) ∧ (t_X6_add 41 (oo p) (oo s) (oo n) S).1 41 3 = oo (st ++ [(p, s, n)]).length ∧ Fr [(41, 3), (42, 9999), (43, 9999), (44, 9999)] S (t_X6_add 41 (oo p) (oo s) (oo n) S) := by
  have eS : t_X6_add 41 (oo p) (oo s) (oo n) S = sI (sI (sI (sI S 42 st.length (oo p)) 43 st.length (oo s)) 44 st.length (oo n)) 41 3 (oo (st.length + 1)) := by
    have c1 : pat S (rf 41 0) (S.1 41 3) (oo p) = sI S 42 st.length (oo p) := by rw [h7, show rf 41 0 = 42 from rfl, p_42 (by omega)]
    have c2 : (sI S 42 st.length (oo p)).1 41 3 = oo st.length := by rw [sI_cell (by decide)]; exact h7
    have c3 : pat (sI S 42 st.length (oo p)) (rf 41 1) (oo st.length) (oo s) = sI (sI S 42 st.length (oo p)) 43 st.length (oo s) := by rw [show rf 41 1 = 43 from rfl, p_43 (by omega)]
    have c4 : (sI (sI S 42 st.length (oo p)) 43 st.length (oo s)).1 41 3 = oo st.length := by rw [sI_cell (by decide)]; exact c2
    have c5 : pat (sI (sI S 42 st.length (oo p)) 43 st.length (oo s)) (rf 41 2) (oo st.length) (oo n) = sI (sI (sI S 42 st.length (oo p)) 43 st.length (oo s)) 44 st.length (oo n) := by rw [show rf 41 2 = 44 from rfl, p_44 (by omega)]
    have c6 : (sI (sI (sI S 42 st.length (oo p)) 43 st.length (oo s)) 44 st.length (oo n)).1 41 3 = oo st.length := by rw [sI_cell (by decide)]; exact c4
    have c7 : (if oo st.length + (1 : Int32) < (40 : Int32) then oo st.length + (1 : Int32) else (40 : Int32)) = oo (st.length + 1) := by
      rw [show (1 : Int32) = oo 1 from rfl, oo_add, show (40 : Int32) = oo 40 from rfl, ilt (by omega) (by decide)]
      by_cases q : st.length + 1 < 40
      · rw [if_pos q]
      · rw [if_neg q, show st.length + 1 = 40 by omega]
    unfold t_X6_add
    rw [c1, c2, c3, c4, c5, c6, c7]
  have F1 : Fr [(41, 3), (42, 9999), (43, 9999), (44, 9999)] S (t_X6_add 41 (oo p) (oo s) (oo n) S) := by
    rw [eS]
    exact Fr.sIp (Fr.sIr (Fr.sIr (Fr.sIr (Fr.rf _ _) rfl) rfl) rfl) rfl
  refine ⟨fun j hj => ?_, ?_, F1⟩
  · rw [List.length_append, List.length_singleton] at hj
    have r42 : (t_X6_add 41 (oo p) (oo s) (oo n) S).1 42 j = if j = st.length then oo p else S.1 42 j := by
      rw [eS, sI_cell (by decide), sI_cell (by decide), sI_cell (by decide)]
      by_cases e : j = st.length
      · rw [if_pos e, e, sI_same]
      · rw [if_neg e, sI_place e]
    have r43 : (t_X6_add 41 (oo p) (oo s) (oo n) S).1 43 j = if j = st.length then oo s else S.1 43 j := by
      rw [eS, sI_cell (by decide), sI_cell (by decide)]
      by_cases e : j = st.length
      · rw [if_pos e, e, sI_same]
      · rw [if_neg e, sI_place e, sI_cell (by decide)]
    have r44 : (t_X6_add 41 (oo p) (oo s) (oo n) S).1 44 j = if j = st.length then oo n else S.1 44 j := by
      rw [eS, sI_cell (by decide)]
      by_cases e : j = st.length
      · rw [if_pos e, e, sI_same]
      · rw [if_neg e, sI_place e, sI_cell (by decide), sI_cell (by decide)]
    rw [r42, r43, r44]
    by_cases e : j = st.length
    · rw [if_pos e, if_pos e, if_pos e, e, gq_e]
      exact ⟨rfl, rfl, rfl⟩
    · rw [if_neg e, if_neg e, if_neg e, gq_l (by omega)]
      exact h9 j (by omega)
  · rw [eS, sI_same, List.length_append]
    rfl
section TRM
variable {x : TX} {L i wi : Nat} {st : List (Nat × Nat × Nat)} {nv : Nat → Nat} {q : Nat} {S T : XS} {d : Nat → List Nat} {v : Nat → Nat} {rc : Nat → Nat → Int32 → XS → Option (Bool × XS)} {rn : Nat → XS → Option (Bool × XS)}
theorem idx_n (hx : xok x L) (hT : AtN x i T) (hi : i ≤ L) {b : Bool} : ∀ m k f, k + m = 17 → m < f → f_X12_readTerm_L10 rn b 188 f (oo k) T = some (oo (wiF (xK x i) m k), T) := by
  intro m
  induction m with
  | zero =>
    intro k f hk hf
    obtain ⟨f, rfl⟩ : ∃ f', f = f' + 1 := ⟨f - 1, by omega⟩
    obtain rfl : k = 17 := by omega
    rw [f_X12_readTerm_L10, if_pos (by decide)]
    rfl
  | succ m ih =>
    intro k f hk hf
    obtain ⟨f, rfl⟩ : ∃ f', f = f' + 1 := ⟨f - 1, by omega⟩
    rw [f_X12_readTerm_L10, if_neg (by rw [show (16 : Int32) = oo 16 from rfl, oo_lt (by decide) (by omega)]; omega), isWord_n hx hT hi (k := k) (by omega), Option.bind_some]
    dsimp only
    rw [show (1 : Int32) = oo 1 from rfl, oo_add, ih (k + 1) f (by omega) (by omega), wiF]
    by_cases e : xK x i = 128 + kyR k
    · rw [if_pos e, decide_eq_true e, if_pos rfl]
    · rw [if_neg e, decide_eq_false e, if_neg (by decide)]
theorem wrap_p {i0 : Nat} {S1 T1 : XS} {c r : Option (Bool × XS)} (h : SOut x L i0 (wi + 1) st nv q S1 T1 c r) (h1 : Fr FSC S S1) (h2 : Fr FSN T T1) : SOut x L i0 wi st nv q S T (c.bind (fun q => match q with | (r4, S5) => some (r4, S5))) (r.bind (fun q => match q with | (x15, S16) => some (x15, (sI S16 188 58 ((S16.1 188 58) - (1 : Int32)))))) := by
  rcases h with ⟨U, V, u1, u2, u3, u4, u5⟩ | ⟨U, V, i', o', l, nv', k, u1, u2, u3, u4, u5, u6, u7, u8, u9, u10, u11⟩
  · have FX : Fr [(188, 58)] V (sI V 188 58 (V.1 188 58 - 1)) := Fr.sIp (Fr.rf _ _) rfl
    refine .inl ⟨U, sI V 188 58 (V.1 188 58 - 1), by rw [u1]; rfl, by rw [u2]; rfl, ?_, Fr.trans (h1.mono rfl) u4, Fr.trans (h2.mono rfl) (Fr.trans u5 (FX.mono rfl))⟩
    obtain ⟨e, p, a1, a2, a3, a4, a5, a6, a7⟩ := u3
    exact ⟨e, p, a1, a2, a3, a4, a5, by rw [FX.get rfl]; exact a6, by rw [FX.get rfl]; exact a7⟩
  · obtain ⟨a1, a2, a3, a4, a5, a6, a7, a8, a9, a10⟩ := u3
    have e58 : V.1 188 58 - 1 = oo wi := by rw [a6, show (1 : Int32) = oo 1 from rfl, oo_sub (by omega), Nat.add_sub_cancel]
    have FX : Fr [(188, 58)] V (sI V 188 58 (V.1 188 58 - 1)) := Fr.sIp (Fr.rf _ _) rfl
    refine .inr ⟨U, sI V 188 58 (V.1 188 58 - 1), i', o', l, nv', k, by rw [u1]; rfl, by rw [u2]; rfl, ⟨a1, a2.fr FX rfl, a3, by rw [FX.get rfl]; exact a4, a5, by rw [sI_same, e58], a7, by rw [FX.get rfl]; exact a8, a9, by rw [FX.row (c := 216) rfl]; exact a10⟩, by rw [FX.get rfl]; exact u4, u5, u6, u7, u8, u9, Fr.trans h1 u10, Fr.trans h2 (Fr.trans u11 (FX.mono rfl))⟩
/-- a leaf: a step and a node -/
theorem leaf_p {o p s n w a b r : Nat} (hR : SR x L i o wi st nv S T) (hq : st.length + q + 2 ≤ 2 * o) (h : w = 60 ∧ (p, s, n) = (140, 0, 0) ∨ w = 61 ∧ (p, s, n) = (141, 0, 0) ∨ w = 62 ∧ a < 6 ∧ (p, s, n) = (134, 0, a) ∨ w = 63 ∧ a < 6 ∧ (p, s, n) = (135, 0, a) ∨ (64 ≤ w ∧ w ≤ 66 ∧ b ≤ 999 ∧ 60 ≤ r ∧ r ≤ 62) ∧ (p, s, n) = (w + 78, r, b)) : ∃ V, f_X12_saysOne 188 (oo w) (oo a) (oo b) (oo r) T = some (oo st.length, V) ∧ SR x L i o wi (st ++ [(p, s, n)]) (ndN nv st.length w a b r) (t_X6_add 41 (oo p) (oo s) (oo n) S) (sI V 188 59 (oo st.length)) ∧ TR (ndN nv st.length w a b r) st.length [(p, s, n)] ∧ (st ++ [(p, s, n)]).length + q + 1 ≤ 2 * o ∧ st.length < (st ++ [(p, s, n)]).length ∧ Fr FSC S (t_X6_add 41 (oo p) (oo s) (oo n) S) ∧ Fr FSN T (sI V 188 59 (oo st.length)) ∧ Fr [(188, 56), (216, 9999)] T V := by
  have ho := hR.2.2.2.2.1
  have hlen : (st ++ [(p, s, n)]).length = st.length + 1 := by rw [List.length_append]; rfl
  obtain ⟨V, v1, v2, v3, v4⟩ := add_p hR (by omega) p s n w a b r
  have FX : Fr [(188, 59)] V (sI V 188 59 (oo st.length)) := Fr.sIp (Fr.rf _ _) rfl
  exact ⟨V, v1, v2.fr (Fr.rf [] _) FX rfl rfl, TR.leaf (by omega) h, by rw [hlen]; omega, by rw [hlen]; exact Nat.lt_succ_self _, v3.mono rfl, Fr.trans (v4.mono rfl) (FX.mono rfl), v4⟩
/-- what needs nothing more -/
theorem plain_p {o K w : Nat} (hR : SR x L i o wi st nv S T) (hq : st.length + q + 2 ≤ 2 * o) (h : w = 60 ∧ K = 140 ∨ w = 61 ∧ K = 141) : SOut x L i wi st nv q S T (some (true, t_X6_add 41 (oo K) (oo 0) (oo 0) S)) ((f_X12_saysOne 188 (oo w) (oo 0) (oo 0) (oo 0) T).bind (fun q => match q with | (r32, S33) => some (true, (sI S33 188 59 r32)))) := by
  obtain ⟨V, v1, v2, v3, v4, v5, v6, v7, v8⟩ := leaf_p (p := K) (s := 0) (n := 0) (w := w) (a := 0) (b := 0) (r := 0) hR hq (by
    rcases h with ⟨rfl, rfl⟩ | ⟨rfl, rfl⟩
    · exact .inl ⟨rfl, rfl⟩
    · exact .inr (.inl ⟨rfl, rfl⟩))
  exact .inr ⟨_, _, i, o, [(K, 0, 0)], _, st.length, rfl, by rw [v1]; rfl, v2, sI_same _ _ _ _, v5, v3, fun j hj => ndN_lo hj, v4, Nat.le_refl _, v6, v7⟩
/-- a place or a scent -/
theorem named_p {o K w srt base wd : Nat} (hx : xok x L) (hR : SR x L i o wi st nv S T) (hE : Env d v S T) (hq : st.length + q + 2 ≤ 2 * o) (hs : srt < 3) (hb : base = srt * 6) (hm : v (mnI srt) ≤ 6) (hwd : 50 + wd = w) (h : w = 62 ∧ K = 134 ∨ w = 63 ∧ K = 135) : SOut x L i wi st nv q S T ((f_X8_takeTold 1 7 (oo srt) S).bind (fun q => match q with | (r7, S8) => (if r7 = true then some (true, t_X6_add 41 (oo K) (oo 0) (S8.1 1 11) S8) else some (false, S8)))) (f_X12_readNamed 188 (oo wd) (oo base) (oo (v (mnI srt))) T) := by
  obtain ⟨hc, hn, e0, e1, b0, b1⟩ := hE
  rcases told_p (h := 7) (ch := 9) (cn := 195) (srt := srt) (base := base) (many := v (mnI srt)) (d := d) hx hR.1 hR.2.1 rfl ln_9 ln_195 hs hm hb (hc srt hs) (fun k hk => by rw [hb]; exact hn srt hs k hk) with ⟨U, V, u1, u2, u3, u4, u5⟩ | ⟨k, U, k1, k2, k3, k4, u1, u2, u3, u4, u5, u6⟩
  · refine .inl ⟨U, V, ?_, ?_, u3, u4.mono rfl, u5.mono rfl⟩
    · rw [u1, Option.bind_some]
      dsimp only
      rw [if_neg (by decide)]
    · unfold f_X12_readNamed
      rw [show rf 188 19 = 195 from rfl, u2, Option.bind_some]
      dsimp only
      rw [if_neg (by decide)]
  · have F1 : Fr [(188, 13)] T (sI T 188 13 (oo k)) := Fr.sIp (Fr.rf _ _) rfl
    -- the node is made before the token is left
    have hR1 : SR x L i o wi st nv S (sI T 188 13 (oo k)) := hR.fr (Fr.rf [] _) F1 rfl rfl
    obtain ⟨h1, h2, h3, h4, h5, h6, h7, h8, h9, h10⟩ := hR1
    obtain ⟨V, v1, v2, v3, v4, v5, v6, v7, v8⟩ := leaf_p (p := K) (s := 0) (n := k) (w := w) (a := k) (b := 0) (r := 0) (hR.fr (Fr.rf [] _) F1 rfl rfl) hq (by
      rcases h with ⟨rfl, rfl⟩ | ⟨rfl, rfl⟩
      · exact .inr (.inr (.inl ⟨rfl, by omega, rfl⟩))
      · exact .inr (.inr (.inr (.inl ⟨rfl, by omega, rfl⟩))))
    obtain ⟨Z, z1, z2, z3⟩ := goN hx v2.2.1 k3
    -- the class leaves the token first: the same step on what it then has
    have hA : stD (t_X6_add 41 (oo K) (oo 0) (oo k) U) (st ++ [(K, 0, k)]) ∧ (t_X6_add 41 (oo K) (oo 0) (oo k) U).1 41 3 = oo (st ++ [(K, 0, k)]).length ∧ Fr [(41, 3), (42, 9999), (43, 9999), (44, 9999)] U (t_X6_add 41 (oo K) (oo 0) (oo k) U) := by
      have ho := h5
      have hl : st.length < 40 := by omega
      exact addC_p (by rw [u6.get rfl]; exact h7) (by
        unfold stD at h9 ⊢
        rw [u6.row (c := 42) rfl, u6.row (c := 43) rfl, u6.row (c := 44) rfl]
        exact h9) hl K 0 k
    obtain ⟨a1, a2, a3⟩ := hA
    obtain ⟨w1, w2, w3, w4, w5, w6, w7, w8, w9, w10⟩ := v2
    refine .inr ⟨t_X6_add 41 (oo K) (oo 0) (oo k) U, Z, i + 1, o, [(K, 0, k)], _, st.length, ?_, ?_, ⟨u3.fr a3 rfl, z2, ?_, ?_, h5, ?_, a2, ?_, a1, ?_⟩, ?_, v5, v3, fun j hj => ndN_lo hj, v4, by omega, Fr.trans (u6.mono rfl) (a3.mono rfl), Fr.trans (F1.mono rfl) (Fr.trans v7 (z3.mono rfl))⟩
    · rw [u1, Option.bind_some]
      dsimp only
      rw [if_pos rfl, u5]
    · unfold f_X12_readNamed
      rw [show rf 188 19 = 195 from rfl, u2, Option.bind_some]
      dsimp only
      rw [if_pos rfl, sI_same, show (50 : Int32) = oo 50 from rfl, oo_add, hwd, show (0 : Int32) = oo 0 from rfl, v1, Option.bind_some]
      dsimp only
      rw [z1, Option.bind_some]
    · rw [a3.get rfl, u6.get rfl]; exact h3
    · rw [z3.get rfl]; exact w4
    · rw [z3.get rfl]; exact w6
    · rw [z3.get rfl]; exact w8
    · rw [z3.row (c := 216) rfl]; exact w10
    · rw [z3.get rfl, sI_same]
end TRM
