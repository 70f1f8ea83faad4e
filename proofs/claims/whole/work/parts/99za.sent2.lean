/-! a SENTENCE read: what stands between ONES -/
def Env (d : Nat → List Nat) (v : Nat → Nat) (S T : XS) : Prop := (∀ srt, srt < 3 → ∀ k, k < 6 → (k < v (mnI srt) → isLs (d (srt * 6 + k)) ∧ S.2 9 (srt * 6 + k) = pk8 (d (srt * 6 + k))) ∧ (v (mnI srt) ≤ k → S.2 9 (srt * 6 + k) = 0)) ∧ (∀ srt, srt < 3 → ∀ k, k < v (mnI srt) → T.2 195 (srt * 6 + k) = pk27 (d (srt * 6 + k))) ∧ T.1 190 0 = oo (v 0) ∧ T.1 190 1 = oo (v 1) ∧ v 0 ≤ 6 ∧ v 1 ≤ 6
theorem Env.fr {d : Nat → List Nat} {v : Nat → Nat} {l m : List (Nat × Nat)} {S T U V : XS} (h : Env d v S T) (h1 : Fr l S U) (h2 : Fr m T V) (hl : tcr l 9 = false) (hm : ntc m [] [190, 195] = true) : Env d v U V := by
  unfold Env at h ⊢
  rw [h1.row2 hl, h2.row2 (ntc_r hm (c := 195) rfl), h2.row (ntc_r hm (c := 190) rfl)]
  exact h
def SOut (x : TX) (L i0 wi : Nat) (st : List (Nat × Nat × Nat)) (nv : Nat → Nat) (q : Nat) (S T : XS) (c r : Option (Bool × XS)) : Prop :=
  (∃ U V, c = some (false, U) ∧ r = some (false, V) ∧ Bad U V ∧ Fr FSX S U ∧ Fr FSY T V) ∨
  (∃ (U V : XS) (i' o' : Nat) (l : List (Nat × Nat × Nat)) (nv' : Nat → Nat) (k : Nat), c = some (true, U) ∧ r = some (true, V) ∧ SR x L i' o' wi (st ++ l) nv' U V ∧ V.1 188 59 = oo k ∧ k < (st ++ l).length ∧ TR nv' k l ∧ (∀ j, j < 276 + 4 * st.length → nv' j = nv j) ∧ (st ++ l).length + q + 1 ≤ 2 * o' ∧ i0 ≤ i' ∧ Fr FSC S U ∧ Fr FSN T V)
def Sp (x : TX) (L : Nat) (d : Nat → List Nat) (v : Nat → Nat) (wi : Nat) (c r : XS → Option (Bool × XS)) : Prop := ∀ (i o : Nat) (st : List (Nat × Nat × Nat)) (nv : Nat → Nat) (q : Nat) (S T : XS), SR x L i o wi st nv S T → Env d v S T → st.length + q ≤ 2 * o → SOut x L (i + 1) wi st nv q S T (c S) (r T)
theorem SR.at' {x : TX} {L i j o wi : Nat} {st : List (Nat × Nat × Nat)} {nv : Nat → Nat} {S T U V : XS} {l m : List (Nat × Nat)} (h : SR x L i o wi st nv S T) (hU : AtC x L j U) (hV : AtN x j V) (h1 : Fr l S U) (h2 : Fr m T V) (hl : ntc l [(40, 2), (41, 3)] [42, 43, 44] = true) (hm : ntc m [(188, 56), (188, 57), (188, 58)] [216] = true) : SR x L j o wi st nv U V := by
  obtain ⟨-, -, a3, a4, a5, a6, a7, a8, a9, a10⟩ := h
  refine ⟨hU, hV, ?_, ?_, a5, ?_, ?_, ?_, ?_, ?_⟩
  · rw [h1.get (ntc_c hl (c := 40) (j := 2) rfl)]; exact a3
  · rw [h2.get (ntc_c hm (c := 188) (j := 57) rfl)]; exact a4
  · rw [h2.get (ntc_c hm (c := 188) (j := 58) rfl)]; exact a6
  · rw [h1.get (ntc_c hl (c := 41) (j := 3) rfl)]; exact a7
  · rw [h2.get (ntc_c hm (c := 188) (j := 56) rfl)]; exact a8
  · unfold stD at a9 ⊢
    rw [h1.row (ntc_r hl (c := 42) rfl), h1.row (ntc_r hl (c := 43) rfl), h1.row (ntc_r hl (c := 44) rfl)]
    exact a9
  · rw [h2.row (ntc_r hm (c := 216) rfl)]; exact a10
section SLP
variable {x : TX} {L wi : Nat} {d : Nat → List Nat} {v : Nat → Nat} {rc : Nat → Nat → Int32 → XS → Option (Bool × XS)} {rn : Nat → XS → Option (Bool × XS)} {dp : Int32}
theorem allL_p (hx : xok x L) (hsp : Sp x L d v wi (fun S => rc 40 7 dp S) (fun T => rn 188 T)) : ∀ (m i o cnt fc fn : Nat) (st : List (Nat × Nat × Nat)) (nv : Nat → Nat) (q : Nat) (S T : XS) (st0 la : List (Nat × Nat × Nat)) (a : Nat), L ≤ i + m → cnt ≤ i → m < fc → m < fn → SR x L i o wi st nv S T → Env d v S T → st = st0 ++ la → TR nv a la → a < st.length → st.length + q + 1 ≤ 2 * o →
    (∃ U V, f_X7_readAll_L13 rc 40 7 dp fc (oo cnt) S = some (.inl (false, U)) ∧ f_X12_readAnd_L14 rn 188 fn (oo a) T = some (.inl (false, V)) ∧ Bad U V ∧ Fr FSX S U ∧ Fr FSY T V) ∨
    (∃ (U V : XS) (i' o' : Nat) (l : List (Nat × Nat × Nat)) (nv' : Nat → Nat) (k : Nat), f_X7_readAll_L13 rc 40 7 dp fc (oo cnt) S = some (.inr U) ∧ f_X12_readAnd_L14 rn 188 fn (oo a) T = some (.inr (oo k, V)) ∧ SR x L i' o' wi (st0 ++ l) nv' U V ∧ k < (st0 ++ l).length ∧ TR nv' k l ∧ (∀ j, j < 276 + 4 * st0.length → nv' j = nv j) ∧ (st0 ++ l).length + q + 1 ≤ 2 * o' ∧ i ≤ i' ∧ Fr FSC S U ∧ Fr FSN T V) := by
  have out : ∀ (i o cnt fc fn : Nat) (st : List (Nat × Nat × Nat)) (nv : Nat → Nat) (q : Nat) (S T : XS) (st0 la : List (Nat × Nat × Nat)) (a : Nat), xK x i ≠ 138 → SR x L i o wi st nv S T → st = st0 ++ la → TR nv a la → a < st.length → st.length + q + 1 ≤ 2 * o →
    (∃ (U V : XS) (i' o' : Nat) (l : List (Nat × Nat × Nat)) (nv' : Nat → Nat) (k : Nat), f_X7_readAll_L13 rc 40 7 dp (fc + 1) (oo cnt) S = some (.inr U) ∧ f_X12_readAnd_L14 rn 188 (fn + 1) (oo a) T = some (.inr (oo k, V)) ∧ SR x L i' o' wi (st0 ++ l) nv' U V ∧ k < (st0 ++ l).length ∧ TR nv' k l ∧ (∀ j, j < 276 + 4 * st0.length → nv' j = nv j) ∧ (st0 ++ l).length + q + 1 ≤ 2 * o' ∧ i ≤ i' ∧ Fr FSC S U ∧ Fr FSN T V) := by
    intro i o cnt fc fn st nv q S T st0 la a hK hR hst hT ha hq
    have hi : i ≤ L := hR.1.1
    have hlt := xK_lt hx hi
    have e10 : S.1 1 10 = oo (xK x i) := hR.1.2.2.2
    have w := isWord_n hx hR.2.1 hi (k := 8) (by decide)
    rw [decide_eq_false (show ¬ xK x i = 128 + kyR 8 from hK)] at w
    refine ⟨S, T, i, o, la, nv, a, ?_, ?_, by rw [← hst]; exact hR, by rw [← hst]; exact ha, hT, fun j _ => rfl, by rw [← hst]; exact hq, Nat.le_refl _, Fr.rf _ _, Fr.rf _ _⟩
    · rw [f_X7_readAll_L13, show rf 40 0 = 1 from rfl, e10, if_neg (show ¬ oo (xK x i) = (138 : Int32) by rw [show (138 : Int32) = oo 138 from rfl, oo_eq (by omega) (by decide)]; exact hK), ite_self]
    · rw [f_X12_readAnd_L14, show (8 : Int32) = oo 8 from rfl, w, Option.bind_some]
      dsimp only
      rw [if_neg (by decide)]
  intro m
  induction m with
  | zero =>
    intro i o cnt fc fn st nv q S T st0 la a hL hc hfc hfn hR hE hst hT ha hq
    obtain ⟨fc, rfl⟩ : ∃ f', fc = f' + 1 := ⟨fc - 1, by omega⟩
    obtain ⟨fn, rfl⟩ : ∃ f', fn = f' + 1 := ⟨fn - 1, by omega⟩
    have hi : i ≤ L := hR.1.1
    have hK : xK x i ≠ 138 := fun e => by
      have := xlt hx hi (by omega) (by omega)
      omega
    exact .inr (out i o cnt fc fn st nv q S T st0 la a hK hR hst hT ha hq)
  | succ m ih =>
    intro i o cnt fc fn st nv q S T st0 la a hL hc hfc hfn hR hE hst hT ha hq
    obtain ⟨fc, rfl⟩ : ∃ f', fc = f' + 1 := ⟨fc - 1, by omega⟩
    obtain ⟨fn, rfl⟩ : ∃ f', fn = f' + 1 := ⟨fn - 1, by omega⟩
    by_cases hK : xK x i = 138
    · have hi : i ≤ L := hR.1.1
      have hL9 := hx.2.2.2.1
      have hiL := xlt hx hi (by omega) (by omega)
      have e10 : S.1 1 10 = oo (xK x i) := hR.1.2.2.2
      have w := isWord_n hx hR.2.1 hi (k := 8) (by decide)
      rw [decide_eq_true (show xK x i = 128 + kyR 8 from hK)] at w
      obtain ⟨s1, s2⟩ := step_c hx hR.1 hiL
      obtain ⟨T1, g1, g2, g3⟩ := goN hx hR.2.1 hiL
      have hR1 := hR.at' s1 g2 s2 g3 rfl rfl
      have hE1 := hE.fr s2 g3 rfl rfl
      have ec : f_X7_readAll_L13 rc 40 7 dp (fc + 1) (oo cnt) S = ((rc 40 7 dp (t_X8_step 1 S)).bind (fun q => match q with | (r6, S7) => (if r6 = true then f_X7_readAll_L13 rc 40 7 dp fc (oo (cnt + 1)) (t_X6_add 41 (138 : Int32) (0 : Int32) (0 : Int32) S7) else some (.inl (false, S7))))) := by
        rw [f_X7_readAll_L13, if_neg (by rw [show (940 : Int32) = oo 940 from rfl, oo_le (by decide) (by omega)]; omega), show rf 40 0 = 1 from rfl, e10, hK, if_pos (show oo 138 = (138 : Int32) from rfl), show rf 40 1 = 41 from rfl, show (1 : Int32) = oo 1 from rfl, oo_add]
      have er : f_X12_readAnd_L14 rn 188 (fn + 1) (oo a) T = ((rn 188 T1).bind (fun q => match q with | (r8, S9) => (if r8 = true then ((f_X12_saysOne 188 (2 : Int32) (oo a) (S9.1 188 59) (0 : Int32) S9).bind (fun q => match q with | (r11, S12) => f_X12_readAnd_L14 rn 188 fn r11 S12)) else some (.inl (false, S9))))) := by
        rw [f_X12_readAnd_L14, show (8 : Int32) = oo 8 from rfl, w, Option.bind_some]
        dsimp only
        rw [if_pos rfl, g1, Option.bind_some]
      rcases hsp (i + 1) o st nv (q + 1) _ _ hR1 hE1 (by omega) with ⟨U, V, u1, u2, u3, u4, u5⟩ | ⟨U, V, i', o', l, nv', k, u1, u2, u3, u4, u5, u6, u7, u8, u9, u10, u11⟩
      · refine .inl ⟨U, V, ?_, ?_, u3, Fr.trans (s2.mono rfl) u4, Fr.trans (g3.mono rfl) u5⟩
        · rw [ec, show rc 40 7 dp (t_X8_step 1 S) = some (false, U) from u1, Option.bind_some]
          dsimp only
          rw [if_neg (by decide)]
        · rw [er, show rn 188 T1 = some (false, V) from u2, Option.bind_some]
          dsimp only
          rw [if_neg (by decide)]
      · have ho := u3.2.2.2.2.1
        have hkl := u5
        have hu8 := u8
        have hlen : (st ++ l ++ [(138, 0, 0)]).length = (st ++ l).length + 1 := by rw [List.length_append]; rfl
        have hal : a < (st ++ l).length := by rw [List.length_append]; omega
        rw [List.length_append] at u8 u5
        have h60 : (st ++ l).length < 60 := by rw [List.length_append]; omega
        obtain ⟨V2, v1, v2, v3, v4⟩ := add_p u3 (by rw [List.length_append]; omega) 138 0 0 2 a k 0
        have hT2 := TR.two (w := 2) (s := 138) (r := 0) (hT.ag (nw := nv') (fun j hj => u7 j (by omega))) u6 hal hkl h60 (.inl ⟨rfl, rfl⟩)
        have hr := ih i' o' (cnt + 1) fc fn (st ++ l ++ [(138, 0, 0)]) _ q _ V2 st0 (la ++ (l ++ [(138, 0, 0)])) (st ++ l).length (by omega) (by omega) (by omega) (by omega) v2 ((hE1.fr u10 u11 rfl rfl).fr v3 v4 rfl rfl) (by rw [hst, List.append_assoc, List.append_assoc]) hT2 (by rw [hlen]; exact Nat.lt_succ_self _) (by rw [hlen]; omega)
        have hst0 : st0.length ≤ st.length := by rw [hst, List.length_append]; omega
        have ec2 : f_X7_readAll_L13 rc 40 7 dp (fc + 1) (oo cnt) S = f_X7_readAll_L13 rc 40 7 dp fc (oo (cnt + 1)) (t_X6_add 41 (oo 138) (oo 0) (oo 0) U) := by
          rw [ec, show rc 40 7 dp (t_X8_step 1 S) = some (true, U) from u1, Option.bind_some]
          dsimp only
          rw [if_pos rfl]
          rfl
        have er2 : f_X12_readAnd_L14 rn 188 (fn + 1) (oo a) T = f_X12_readAnd_L14 rn 188 fn (oo (st ++ l).length) V2 := by
          rw [er, show rn 188 T1 = some (true, V) from u2, Option.bind_some]
          dsimp only
          rw [if_pos rfl, u4, show (2 : Int32) = oo 2 from rfl, show (0 : Int32) = oo 0 from rfl, v1, Option.bind_some]
        rw [ec2, er2]
        have FC : Fr FSC S (t_X6_add 41 (oo 138) (oo 0) (oo 0) U) := Fr.trans (s2.mono rfl) (Fr.trans u10 (v3.mono rfl))
        have FN : Fr FSN T V2 := Fr.trans (g3.mono rfl) (Fr.trans u11 (v4.mono rfl))
        rcases hr with ⟨U', V', r1, r2, r3, r4, r5⟩ | ⟨U', V', i2, o2, l2, nv2, k2, r1, r2, r3, r4, r5, r6, r7, r8, r9, r10⟩
        · exact .inl ⟨U', V', r1, r2, r3, Fr.trans (FC.mono rfl) r4, Fr.trans (FN.mono rfl) r5⟩
        · exact .inr ⟨U', V', i2, o2, l2, nv2, k2, r1, r2, r3, r4, r5, fun j hj => by rw [r6 j hj, ndN_lo (by rw [List.length_append]; omega), u7 j (by omega)], r7, by omega, Fr.trans FC r9, Fr.trans FN r10⟩
    · exact .inr (out i o cnt fc fn st nv q S T st0 la a hK hR hst hT ha hq)
theorem all_p (hx : xok x L) (hsp : Sp x L d v wi (fun S => rc 40 7 dp S) (fun T => rn 188 T)) : Sp x L d v wi (fun S => f_X7_readAll rc 40 7 dp S) (fun T => f_X12_readAnd rn 188 T) := by
  intro i o st nv q S T hR hE hq
  have hL9 := hx.2.2.2.1
  rcases hsp i o st nv q S T hR hE hq with ⟨U, V, u1, u2, u3, u4, u5⟩ | ⟨U, V, i', o', l, nv', k, u1, u2, u3, u4, u5, u6, u7, u8, u9, u10, u11⟩
  · refine .inl ⟨U, V, ?_, ?_, u3, u4, u5⟩
    · show f_X7_readAll rc 40 7 dp S = _
      unfold f_X7_readAll
      rw [show rc 40 7 dp S = some (false, U) from u1, Option.bind_some]
      dsimp only
      rw [if_neg (by decide)]
    · show f_X12_readAnd rn 188 T = _
      unfold f_X12_readAnd
      rw [show rn 188 T = some (false, V) from u2, Option.bind_some]
      dsimp only
      rw [if_neg (by decide)]
  · rcases allL_p (dp := dp) hx hsp L i' o' 0 1000000 1000000 (st ++ l) nv' q U V st l k (by omega) (by omega) (by omega) (by omega) u3 (hE.fr u10 u11 rfl rfl) rfl u6 u5 (by omega) with ⟨U', V', r1, r2, r3, r4, r5⟩ | ⟨U', V', i2, o2, l2, nv2, k2, r1, r2, r3, r4, r5, r6, r7, r8, r9, r10⟩
    · refine .inl ⟨U', V', ?_, ?_, r3, Fr.trans (u10.mono rfl) r4, Fr.trans (u11.mono rfl) r5⟩
      · show f_X7_readAll rc 40 7 dp S = _
        unfold f_X7_readAll
        rw [show rc 40 7 dp S = some (true, U) from u1, Option.bind_some]
        dsimp only
        rw [if_pos rfl, show (0 : Int32) = oo 0 from rfl, r1, Option.bind_some]
      · show f_X12_readAnd rn 188 T = _
        unfold f_X12_readAnd
        rw [show rn 188 T = some (true, V) from u2, Option.bind_some]
        dsimp only
        rw [if_pos rfl, u4, r2, Option.bind_some]
    · have FX : Fr [(188, 59)] V' (sI V' 188 59 (oo k2)) := Fr.sIp (Fr.rf _ _) rfl
      refine .inr ⟨U', sI V' 188 59 (oo k2), i2, o2, l2, nv2, k2, ?_, ?_, r3.fr (Fr.rf [] _) FX rfl rfl, sI_same _ _ _ _, r4, r5, fun j hj => by rw [r6 j hj, u7 j hj], r7, by omega, Fr.trans u10 r9, Fr.trans u11 (Fr.trans r10 (FX.mono rfl))⟩
      · show f_X7_readAll rc 40 7 dp S = _
        unfold f_X7_readAll
        rw [show rc 40 7 dp S = some (true, U) from u1, Option.bind_some]
        dsimp only
        rw [if_pos rfl, show (0 : Int32) = oo 0 from rfl, r1, Option.bind_some]
      · show f_X12_readAnd rn 188 T = _
        unfold f_X12_readAnd
        rw [show rn 188 T = some (true, V) from u2, Option.bind_some]
        dsimp only
        rw [if_pos rfl, u4, r2, Option.bind_some]
theorem condL_p (hx : xok x L) (hsp : Sp x L d v wi (fun S => f_X7_readAll rc 40 7 dp S) (fun T => f_X12_readAnd rn 188 T)) : ∀ (m i o cnt fc fn : Nat) (st : List (Nat × Nat × Nat)) (nv : Nat → Nat) (q : Nat) (S T : XS) (st0 la : List (Nat × Nat × Nat)) (a : Nat), L ≤ i + m → cnt ≤ i → m < fc → m < fn → SR x L i o wi st nv S T → Env d v S T → st = st0 ++ la → TR nv a la → a < st.length → st.length + q + 1 ≤ 2 * o →
    (∃ U V, f_X7_readCond_L13 rc 40 7 dp fc (oo cnt) S = some (.inl (false, U)) ∧ f_X12_readOr_L14 rn 188 fn (oo a) T = some (.inl (false, V)) ∧ Bad U V ∧ Fr FSX S U ∧ Fr FSY T V) ∨
    (∃ (U V : XS) (i' o' : Nat) (l : List (Nat × Nat × Nat)) (nv' : Nat → Nat) (k : Nat), f_X7_readCond_L13 rc 40 7 dp fc (oo cnt) S = some (.inr U) ∧ f_X12_readOr_L14 rn 188 fn (oo a) T = some (.inr (oo k, V)) ∧ SR x L i' o' wi (st0 ++ l) nv' U V ∧ k < (st0 ++ l).length ∧ TR nv' k l ∧ (∀ j, j < 276 + 4 * st0.length → nv' j = nv j) ∧ (st0 ++ l).length + q + 1 ≤ 2 * o' ∧ i ≤ i' ∧ Fr FSC S U ∧ Fr FSN T V) := by
  have out : ∀ (i o cnt fc fn : Nat) (st : List (Nat × Nat × Nat)) (nv : Nat → Nat) (q : Nat) (S T : XS) (st0 la : List (Nat × Nat × Nat)) (a : Nat), xK x i ≠ 137 → SR x L i o wi st nv S T → st = st0 ++ la → TR nv a la → a < st.length → st.length + q + 1 ≤ 2 * o →
    (∃ (U V : XS) (i' o' : Nat) (l : List (Nat × Nat × Nat)) (nv' : Nat → Nat) (k : Nat), f_X7_readCond_L13 rc 40 7 dp (fc + 1) (oo cnt) S = some (.inr U) ∧ f_X12_readOr_L14 rn 188 (fn + 1) (oo a) T = some (.inr (oo k, V)) ∧ SR x L i' o' wi (st0 ++ l) nv' U V ∧ k < (st0 ++ l).length ∧ TR nv' k l ∧ (∀ j, j < 276 + 4 * st0.length → nv' j = nv j) ∧ (st0 ++ l).length + q + 1 ≤ 2 * o' ∧ i ≤ i' ∧ Fr FSC S U ∧ Fr FSN T V) := by
    intro i o cnt fc fn st nv q S T st0 la a hK hR hst hT ha hq
    have hi : i ≤ L := hR.1.1
    have hlt := xK_lt hx hi
    have e10 : S.1 1 10 = oo (xK x i) := hR.1.2.2.2
    have w := isWord_n hx hR.2.1 hi (k := 7) (by decide)
    rw [decide_eq_false (show ¬ xK x i = 128 + kyR 7 from hK)] at w
    refine ⟨S, T, i, o, la, nv, a, ?_, ?_, by rw [← hst]; exact hR, by rw [← hst]; exact ha, hT, fun j _ => rfl, by rw [← hst]; exact hq, Nat.le_refl _, Fr.rf _ _, Fr.rf _ _⟩
    · rw [f_X7_readCond_L13, show rf 40 0 = 1 from rfl, e10, if_neg (show ¬ oo (xK x i) = (137 : Int32) by rw [show (137 : Int32) = oo 137 from rfl, oo_eq (by omega) (by decide)]; exact hK), ite_self]
    · rw [f_X12_readOr_L14, show (7 : Int32) = oo 7 from rfl, w, Option.bind_some]
      dsimp only
      rw [if_neg (by decide)]
  intro m
  induction m with
  | zero =>
    intro i o cnt fc fn st nv q S T st0 la a hL hc hfc hfn hR hE hst hT ha hq
    obtain ⟨fc, rfl⟩ : ∃ f', fc = f' + 1 := ⟨fc - 1, by omega⟩
    obtain ⟨fn, rfl⟩ : ∃ f', fn = f' + 1 := ⟨fn - 1, by omega⟩
    have hi : i ≤ L := hR.1.1
    have hK : xK x i ≠ 137 := fun e => by
      have := xlt hx hi (by omega) (by omega)
      omega
    exact .inr (out i o cnt fc fn st nv q S T st0 la a hK hR hst hT ha hq)
  | succ m ih =>
    intro i o cnt fc fn st nv q S T st0 la a hL hc hfc hfn hR hE hst hT ha hq
    obtain ⟨fc, rfl⟩ : ∃ f', fc = f' + 1 := ⟨fc - 1, by omega⟩
    obtain ⟨fn, rfl⟩ : ∃ f', fn = f' + 1 := ⟨fn - 1, by omega⟩
    by_cases hK : xK x i = 137
    · have hi : i ≤ L := hR.1.1
      have hL9 := hx.2.2.2.1
      have hiL := xlt hx hi (by omega) (by omega)
      have e10 : S.1 1 10 = oo (xK x i) := hR.1.2.2.2
      have w := isWord_n hx hR.2.1 hi (k := 7) (by decide)
      rw [decide_eq_true (show xK x i = 128 + kyR 7 from hK)] at w
      obtain ⟨s1, s2⟩ := step_c hx hR.1 hiL
      obtain ⟨T1, g1, g2, g3⟩ := goN hx hR.2.1 hiL
      have hR1 := hR.at' s1 g2 s2 g3 rfl rfl
      have hE1 := hE.fr s2 g3 rfl rfl
      have ec : f_X7_readCond_L13 rc 40 7 dp (fc + 1) (oo cnt) S = ((f_X7_readAll rc 40 7 dp (t_X8_step 1 S)).bind (fun q => match q with | (r6, S7) => (if r6 = true then f_X7_readCond_L13 rc 40 7 dp fc (oo (cnt + 1)) (t_X6_add 41 (137 : Int32) (0 : Int32) (0 : Int32) S7) else some (.inl (false, S7))))) := by
        rw [f_X7_readCond_L13, if_neg (by rw [show (940 : Int32) = oo 940 from rfl, oo_le (by decide) (by omega)]; omega), show rf 40 0 = 1 from rfl, e10, hK, if_pos (show oo 137 = (137 : Int32) from rfl), show rf 40 1 = 41 from rfl, show (1 : Int32) = oo 1 from rfl, oo_add]
      have er : f_X12_readOr_L14 rn 188 (fn + 1) (oo a) T = ((f_X12_readAnd rn 188 T1).bind (fun q => match q with | (r8, S9) => (if r8 = true then ((f_X12_saysOne 188 (3 : Int32) (oo a) (S9.1 188 59) (0 : Int32) S9).bind (fun q => match q with | (r11, S12) => f_X12_readOr_L14 rn 188 fn r11 S12)) else some (.inl (false, S9))))) := by
        rw [f_X12_readOr_L14, show (7 : Int32) = oo 7 from rfl, w, Option.bind_some]
        dsimp only
        rw [if_pos rfl, g1, Option.bind_some]
      rcases hsp (i + 1) o st nv (q + 1) _ _ hR1 hE1 (by omega) with ⟨U, V, u1, u2, u3, u4, u5⟩ | ⟨U, V, i', o', l, nv', k, u1, u2, u3, u4, u5, u6, u7, u8, u9, u10, u11⟩
      · refine .inl ⟨U, V, ?_, ?_, u3, Fr.trans (s2.mono rfl) u4, Fr.trans (g3.mono rfl) u5⟩
        · rw [ec, show f_X7_readAll rc 40 7 dp (t_X8_step 1 S) = some (false, U) from u1, Option.bind_some]
          dsimp only
          rw [if_neg (by decide)]
        · rw [er, show f_X12_readAnd rn 188 T1 = some (false, V) from u2, Option.bind_some]
          dsimp only
          rw [if_neg (by decide)]
      · have ho := u3.2.2.2.2.1
        have hkl := u5
        have hu8 := u8
        have hlen : (st ++ l ++ [(137, 0, 0)]).length = (st ++ l).length + 1 := by rw [List.length_append]; rfl
        have hal : a < (st ++ l).length := by rw [List.length_append]; omega
        rw [List.length_append] at u8 u5
        have h60 : (st ++ l).length < 60 := by rw [List.length_append]; omega
        obtain ⟨V2, v1, v2, v3, v4⟩ := add_p u3 (by rw [List.length_append]; omega) 137 0 0 3 a k 0
        have hT2 := TR.two (w := 3) (s := 137) (r := 0) (hT.ag (nw := nv') (fun j hj => u7 j (by omega))) u6 hal hkl h60 (.inr ⟨rfl, rfl⟩)
        have hr := ih i' o' (cnt + 1) fc fn (st ++ l ++ [(137, 0, 0)]) _ q _ V2 st0 (la ++ (l ++ [(137, 0, 0)])) (st ++ l).length (by omega) (by omega) (by omega) (by omega) v2 ((hE1.fr u10 u11 rfl rfl).fr v3 v4 rfl rfl) (by rw [hst, List.append_assoc, List.append_assoc]) hT2 (by rw [hlen]; exact Nat.lt_succ_self _) (by rw [hlen]; omega)
        have hst0 : st0.length ≤ st.length := by rw [hst, List.length_append]; omega
        have ec2 : f_X7_readCond_L13 rc 40 7 dp (fc + 1) (oo cnt) S = f_X7_readCond_L13 rc 40 7 dp fc (oo (cnt + 1)) (t_X6_add 41 (oo 137) (oo 0) (oo 0) U) := by
          rw [ec, show f_X7_readAll rc 40 7 dp (t_X8_step 1 S) = some (true, U) from u1, Option.bind_some]
          dsimp only
          rw [if_pos rfl]
          rfl
        have er2 : f_X12_readOr_L14 rn 188 (fn + 1) (oo a) T = f_X12_readOr_L14 rn 188 fn (oo (st ++ l).length) V2 := by
          rw [er, show f_X12_readAnd rn 188 T1 = some (true, V) from u2, Option.bind_some]
          dsimp only
          rw [if_pos rfl, u4, show (3 : Int32) = oo 3 from rfl, show (0 : Int32) = oo 0 from rfl, v1, Option.bind_some]
        rw [ec2, er2]
        have FC : Fr FSC S (t_X6_add 41 (oo 137) (oo 0) (oo 0) U) := Fr.trans (s2.mono rfl) (Fr.trans u10 (v3.mono rfl))
        have FN : Fr FSN T V2 := Fr.trans (g3.mono rfl) (Fr.trans u11 (v4.mono rfl))
        rcases hr with ⟨U', V', r1, r2, r3, r4, r5⟩ | ⟨U', V', i2, o2, l2, nv2, k2, r1, r2, r3, r4, r5, r6, r7, r8, r9, r10⟩
        · exact .inl ⟨U', V', r1, r2, r3, Fr.trans (FC.mono rfl) r4, Fr.trans (FN.mono rfl) r5⟩
        · exact .inr ⟨U', V', i2, o2, l2, nv2, k2, r1, r2, r3, r4, r5, fun j hj => by rw [r6 j hj, ndN_lo (by rw [List.length_append]; omega), u7 j (by omega)], r7, by omega, Fr.trans FC r9, Fr.trans FN r10⟩
    · exact .inr (out i o cnt fc fn st nv q S T st0 la a hK hR hst hT ha hq)
theorem cond_p (hx : xok x L) (hsp : Sp x L d v wi (fun S => f_X7_readAll rc 40 7 dp S) (fun T => f_X12_readAnd rn 188 T)) : Sp x L d v wi (fun S => f_X7_readCond rc 40 7 dp S) (fun T => f_X12_readOr rn 188 T) := by
  intro i o st nv q S T hR hE hq
  have hL9 := hx.2.2.2.1
  rcases hsp i o st nv q S T hR hE hq with ⟨U, V, u1, u2, u3, u4, u5⟩ | ⟨U, V, i', o', l, nv', k, u1, u2, u3, u4, u5, u6, u7, u8, u9, u10, u11⟩
  · refine .inl ⟨U, V, ?_, ?_, u3, u4, u5⟩
    · show f_X7_readCond rc 40 7 dp S = _
      unfold f_X7_readCond
      rw [show f_X7_readAll rc 40 7 dp S = some (false, U) from u1, Option.bind_some]
      dsimp only
      rw [if_neg (by decide)]
    · show f_X12_readOr rn 188 T = _
      unfold f_X12_readOr
      rw [show f_X12_readAnd rn 188 T = some (false, V) from u2, Option.bind_some]
      dsimp only
      rw [if_neg (by decide)]
  · rcases condL_p (dp := dp) hx hsp L i' o' 0 1000000 1000000 (st ++ l) nv' q U V st l k (by omega) (by omega) (by omega) (by omega) u3 (hE.fr u10 u11 rfl rfl) rfl u6 u5 (by omega) with ⟨U', V', r1, r2, r3, r4, r5⟩ | ⟨U', V', i2, o2, l2, nv2, k2, r1, r2, r3, r4, r5, r6, r7, r8, r9, r10⟩
    · refine .inl ⟨U', V', ?_, ?_, r3, Fr.trans (u10.mono rfl) r4, Fr.trans (u11.mono rfl) r5⟩
      · show f_X7_readCond rc 40 7 dp S = _
        unfold f_X7_readCond
        rw [show f_X7_readAll rc 40 7 dp S = some (true, U) from u1, Option.bind_some]
        dsimp only
        rw [if_pos rfl, show (0 : Int32) = oo 0 from rfl, r1, Option.bind_some]
      · show f_X12_readOr rn 188 T = _
        unfold f_X12_readOr
        rw [show f_X12_readAnd rn 188 T = some (true, V) from u2, Option.bind_some]
        dsimp only
        rw [if_pos rfl, u4, r2, Option.bind_some]
    · have FX : Fr [(188, 59)] V' (sI V' 188 59 (oo k2)) := Fr.sIp (Fr.rf _ _) rfl
      refine .inr ⟨U', sI V' 188 59 (oo k2), i2, o2, l2, nv2, k2, ?_, ?_, r3.fr (Fr.rf [] _) FX rfl rfl, sI_same _ _ _ _, r4, r5, fun j hj => by rw [r6 j hj, u7 j hj], r7, by omega, Fr.trans u10 r9, Fr.trans u11 (Fr.trans r10 (FX.mono rfl))⟩
      · show f_X7_readCond rc 40 7 dp S = _
        unfold f_X7_readCond
        rw [show f_X7_readAll rc 40 7 dp S = some (true, U) from u1, Option.bind_some]
        dsimp only
        rw [if_pos rfl, show (0 : Int32) = oo 0 from rfl, r1, Option.bind_some]
      · show f_X12_readOr rn 188 T = _
        unfold f_X12_readOr
        rw [show f_X12_readAnd rn 188 T = some (true, V) from u2, Option.bind_some]
        dsimp only
        rw [if_pos rfl, u4, r2, Option.bind_some]
end SLP
