/-! a SENTENCE read: ONES that hold others, measures -/
section TRN
variable {x : TX} {L i wi : Nat} {st : List (Nat × Nat × Nat)} {nv : Nat → Nat} {q : Nat} {S T : XS} {d : Nat → List Nat} {v : Nat → Nat} {rc : Nat → Nat → Int32 → XS → Option (Bool × XS)} {rn : Nat → XS → Option (Bool × XS)} {dp : Int32}
theorem meas_p {o K wd : Nat} (hx : xok x L) (hR : SR x L i o wi st nv S T) (hq : st.length + q + 2 ≤ 2 * o) (h : wd = 14 ∧ K = 142 ∨ wd = 15 ∧ K = 143 ∨ wd = 16 ∧ K = 144) : SOut x L i wi st nv q S T (f_X7_readMeasure 40 (oo K) S) (f_X12_readCompare 188 (oo wd) T) := by
  have hi : i ≤ L := hR.1.1
  have hlt := xK_lt hx hi
  have e10 : S.1 1 10 = oo (xK x i) := hR.1.2.2.2
  have g60 := sign_n hx hR.2.1 hi (c := 60) rfl
  have g61 := sign_n hx hR.2.1 hi (c := 61) rfl
  have g62 := sign_n hx hR.2.1 hi (c := 62) rfl
  have hK78 : K = 50 + wd + 78 := by omega
  by_cases hs : xK x i = 60 ∨ xK x i = 61 ∨ xK x i = 62
  · have hiL := xlt hx hi (by omega) (by omega)
    have hsg : isSg (xK x i) = true := by rcases hs with e | e | e <;> rw [e] <;> rfl
    have e9 : T.1 188 9 = oo (xK x i) := hR.2.1.2.2.2.2.2.2.1 hsg
    obtain ⟨s1, s2⟩ := step_c hx hR.1 hiL
    obtain ⟨T1, g1, g2, g3⟩ := goN hx hR.2.1 hiL
    have hcls : ∀ z, f_X8_takeNumber 1 (oo 0) (oo 999) (t_X8_step 1 S) = z → f_X7_readMeasure 40 (oo K) S = z.bind (fun q => match q with | (r2, S3) => (if r2 = true then some (true, t_X6_add 41 (oo K) (oo (xK x i)) (S3.1 1 11) S3) else some (false, S3))) := fun z hz => by
      unfold f_X7_readMeasure
      rw [show rf 40 0 = 1 from rfl, e10, show (0 : Int32) = oo 0 from rfl, show (999 : Int32) = oo 999 from rfl, hz]
      have had : ∀ (A : XS), (if (t_X7_added 40 (oo K) (oo (xK x i)) (A.1 1 11) A).1 = true then some (true, (t_X7_added 40 (oo K) (oo (xK x i)) (A.1 1 11) A).2) else some (false, (t_X7_added 40 (oo K) (oo (xK x i)) (A.1 1 11) A).2)) = some (true, t_X6_add 41 (oo K) (oo (xK x i)) (A.1 1 11) A) := fun A => rfl
      rcases hs with e | e | e
      · rw [if_pos (show oo (xK x i) = (60 : Int32) by rw [e]; rfl)]
        rfl
      · rw [if_neg (show ¬ oo (xK x i) = (60 : Int32) by rw [e]; decide), if_pos (show oo (xK x i) = (61 : Int32) by rw [e]; rfl)]
        rfl
      · rw [if_neg (show ¬ oo (xK x i) = (60 : Int32) by rw [e]; decide), if_neg (show ¬ oo (xK x i) = (61 : Int32) by rw [e]; decide), if_pos (show oo (xK x i) = (62 : Int32) by rw [e]; rfl)]
        rfl
    have href : ∀ z, f_X12_readNumber 188 (oo 0) (oo 999) T1 = z → f_X12_readCompare 188 (oo wd) T = z.bind (fun q => match q with | (r3, S4) => (if r3 = true then ((f_X12_saysOne 188 (oo (50 + wd)) (oo 0) (S4.1 188 13) (oo (xK x i)) S4).bind (fun q => match q with | (r6, S7) => some (true, (sI S7 188 59 r6)))) else some (false, S4))) := fun z hz => by
      unfold f_X12_readCompare
      rw [e9, show (0 : Int32) = oo 0 from rfl, show (999 : Int32) = oo 999 from rfl, show (50 : Int32) = oo 50 from rfl, oo_add, show (60 : Int32) = oo 60 from rfl, show (61 : Int32) = oo 61 from rfl, show (62 : Int32) = oo 62 from rfl, g60, g61, g62, g1, Option.bind_some, hz]
      rcases hs with e | e | e
      · rw [decide_eq_true e, if_pos rfl]
      · rw [decide_eq_false (show ¬ xK x i = 60 by omega), decide_eq_true e, if_neg (by decide), if_pos rfl]
      · rw [decide_eq_false (show ¬ xK x i = 60 by omega), decide_eq_false (show ¬ xK x i = 61 by omega), decide_eq_true e, if_neg (by decide), if_neg (by decide), if_pos rfl]
    rcases num_p (lo := 0) (hi := 999) hx s1 g2 (by decide) (by decide) with ⟨U, V, u1, u2, u3, u4, u5⟩ | ⟨k, U, k1, k2, k3, hL1, u1, u2, u3, u4, u5, u6⟩
    · refine .inl ⟨U, V, ?_, ?_, u3, Fr.trans (s2.mono rfl) (u4.mono rfl), Fr.trans (g3.mono rfl) (u5.mono rfl)⟩
      · rw [hcls _ u1, Option.bind_some]
        dsimp only
        rw [if_neg (by decide)]
      · have e : f_X12_readNumber 188 (oo 0) (oo 999) T1 = some (false, V) := by
          unfold f_X12_readNumber
          rw [u2, Option.bind_some]
          dsimp only
          rw [if_neg (by decide)]
        rw [href _ e, Option.bind_some]
        dsimp only
        rw [if_neg (by decide)]
    · obtain ⟨Z, z1, z2, z3⟩ := goN hx u4 hL1
      have e13 : Z.1 188 13 = oo k := by rw [z3.get rfl, sI_same]
      have FC : Fr [(1, 9), (1, 10), (1, 11)] S U := Fr.trans (s2.mono rfl) u6
      have FN : Fr [(188, 5), (188, 6), (188, 7), (188, 8), (188, 9), (188, 12), (188, 13)] T Z := Fr.trans (g3.mono rfl) (Fr.trans (Fr.sIp (Fr.rf [(188, 13)] _) rfl |>.mono rfl) (z3.mono rfl))
      have hR2 := hR.at' u3 z2 FC FN rfl rfl
      obtain ⟨V, v1, v2, v3, v4, v5, v6, v7, v8⟩ := leaf_p (p := K) (s := xK x i) (n := k) (w := 50 + wd) (a := 0) (b := k) (r := xK x i) hR2 hq (.inr (.inr (.inr (.inr ⟨⟨by omega, by omega, k2, by omega, by omega⟩, by rw [hK78]⟩))))
      refine .inr ⟨_, _, i + 2, o, [(K, xK x i, k)], _, st.length, ?_, ?_, v2, sI_same _ _ _ _, v5, v3, fun j hj => ndN_lo hj, v4, by omega, Fr.trans (FC.mono rfl) v6, Fr.trans (FN.mono rfl) v7⟩
      · rw [hcls _ u1, Option.bind_some]
        dsimp only
        rw [if_pos rfl, u5]
      · have e : f_X12_readNumber 188 (oo 0) (oo 999) T1 = some (true, Z) := by
          unfold f_X12_readNumber
          rw [u2, Option.bind_some]
          dsimp only
          rw [if_pos rfl, z1, Option.bind_some]
        rw [href _ e, Option.bind_some]
        dsimp only
        rw [if_pos rfl, e13, v1, Option.bind_some]
  · obtain ⟨U, u1, u2, u3, u4⟩ := fail_c hR.1 hx (oo 1)
    obtain ⟨V, v1, v2, v3, v4⟩ := bad_n hx hR.2.1 hi 1
    rw [bdK_1] at v2
    refine .inl ⟨U, V, ?_, ?_, ⟨1, xP x i, by decide, by decide, xP_le hx hi, u2, u3, v2, v3⟩, u4.mono rfl, v4.mono rfl⟩
    · unfold f_X7_readMeasure
      rw [show rf 40 0 = 1 from rfl, e10, if_neg (show ¬ oo (xK x i) = (60 : Int32) by rw [show (60 : Int32) = oo 60 from rfl, oo_eq (by omega) (by decide)]; omega), if_neg (show ¬ oo (xK x i) = (61 : Int32) by rw [show (61 : Int32) = oo 61 from rfl, oo_eq (by omega) (by decide)]; omega), if_neg (show ¬ oo (xK x i) = (62 : Int32) by rw [show (62 : Int32) = oo 62 from rfl, oo_eq (by omega) (by decide)]; omega), show (1 : Int32) = oo 1 from rfl, u1]
    · unfold f_X12_readCompare
      rw [show (60 : Int32) = oo 60 from rfl, show (61 : Int32) = oo 61 from rfl, show (62 : Int32) = oo 62 from rfl, g60, g61, g62, decide_eq_false (show ¬ xK x i = 60 by omega), decide_eq_false (show ¬ xK x i = 61 by omega), decide_eq_false (show ¬ xK x i = 62 by omega), if_neg (by decide), if_neg (by decide), if_neg (by decide), show (1 : Int32) = oo 1 from rfl, v1, Option.bind_some]
theorem not_p {o : Nat} (hsp : Sp x L d v wi (fun S => rc 40 7 dp S) (fun T => rn 188 T)) (hR : SR x L i o wi st nv S T) (hE : Env d v S T) (hq : st.length + q + 2 ≤ 2 * o) : SOut x L i wi st nv q S T ((rc 40 7 dp S).bind (fun q => match q with | (r15, S16) => (if r15 = true then some (true, t_X6_add 41 (oo 139) (oo 0) (oo 0) S16) else some (false, S16)))) (f_X12_readNot rn 188 T) := by
  rcases hsp i o st nv (q + 1) S T hR hE (by omega) with ⟨U, V, u1, u2, u3, u4, u5⟩ | ⟨U, V, i', o', l, nv', k, u1, u2, u3, u4, u5, u6, u7, u8, u9, u10, u11⟩
  · refine .inl ⟨U, V, ?_, ?_, u3, u4, u5⟩
    · rw [show rc 40 7 dp S = some (false, U) from u1, Option.bind_some]
      dsimp only
      rw [if_neg (by decide)]
    · unfold f_X12_readNot
      rw [show rn 188 T = some (false, V) from u2, Option.bind_some]
      dsimp only
      rw [if_neg (by decide)]
  · have ho := u3.2.2.2.2.1
    obtain ⟨V2, v1, v2, v3, v4⟩ := add_p u3 (by omega) 139 0 0 1 k 0 0
    have hT2 := TR.one (b := 0) (r := 0) u6 u5 (show (st ++ l).length < 60 by omega)
    have hlen : (st ++ l ++ [(139, 0, 0)]).length = (st ++ l).length + 1 := by rw [List.length_append]; rfl
    have FX : Fr [(188, 59)] V2 (sI V2 188 59 (oo (st ++ l).length)) := Fr.sIp (Fr.rf _ _) rfl
    refine .inr ⟨t_X6_add 41 (oo 139) (oo 0) (oo 0) U, sI V2 188 59 (oo (st ++ l).length), i', o', l ++ [(139, 0, 0)], _, (st ++ l).length, ?_, ?_, ?_, sI_same _ _ _ _, ?_, hT2, fun j hj => ?_, ?_, by omega, Fr.trans u10 (v3.mono rfl), Fr.trans u11 (Fr.trans (v4.mono rfl) (FX.mono rfl))⟩
    · rw [show rc 40 7 dp S = some (true, U) from u1, Option.bind_some]
      dsimp only
      rw [if_pos rfl]
    · unfold f_X12_readNot
      rw [show rn 188 T = some (true, V) from u2, Option.bind_some]
      dsimp only
      rw [if_pos rfl, u4, show (1 : Int32) = oo 1 from rfl, show (0 : Int32) = oo 0 from rfl, v1, Option.bind_some]
    · rw [← List.append_assoc]
      exact v2.fr (Fr.rf [] _) FX rfl rfl
    · rw [← List.append_assoc, hlen]
      exact Nat.lt_succ_self _
    · rw [ndN_lo (by rw [List.length_append]; omega), u7 j hj]
    · rw [← List.append_assoc, hlen]
      omega
theorem par_p {o : Nat} (hx : xok x L) (hsp : Sp x L d v wi (fun S => rc 40 7 dp S) (fun T => rn 188 T)) (hR : SR x L i o wi st nv S T) (hE : Env d v S T) (hq : st.length + q + 2 ≤ 2 * o) : SOut x L i wi st nv q S T ((f_X7_readCond rc 40 7 dp S).bind (fun q => match q with | (r3, S4) => (if r3 = true then (if (t_X8_take 1 (41 : Int32) S4).1 = true then some (true, (t_X8_take 1 (41 : Int32) S4).2) else some (false, (t_X8_take 1 (41 : Int32) S4).2)) else some (false, S4)))) (f_X12_readBracket rn 188 T) := by
  rcases cond_p hx (all_p hx hsp) i o st nv q S T hR hE (by omega) with ⟨U, V, u1, u2, u3, u4, u5⟩ | ⟨U, V, i', o', l, nv', k, u1, u2, u3, u4, u5, u6, u7, u8, u9, u10, u11⟩
  · refine .inl ⟨U, V, ?_, ?_, u3, u4, u5⟩
    · rw [show f_X7_readCond rc 40 7 dp S = some (false, U) from u1, Option.bind_some]
      dsimp only
      rw [if_neg (by decide)]
    · unfold f_X12_readBracket
      rw [show f_X12_readOr rn 188 T = some (false, V) from u2, Option.bind_some]
      dsimp only
      rw [if_neg (by decide)]
  · have hi : i' ≤ L := u3.1.1
    have hlt := xK_lt hx hi
    have e10 : U.1 1 10 = oo (xK x i') := u3.1.2.2.2
    have g41 := sign_n hx u3.2.1 hi (c := 41) rfl
    by_cases hk : xK x i' = 41
    · have hiL := xlt hx hi (by omega) (by omega)
      obtain ⟨s1, s2⟩ := step_c hx u3.1 hiL
      obtain ⟨Z, z1, z2, z3⟩ := goN hx u3.2.1 hiL
      refine .inr ⟨t_X8_step 1 U, Z, i' + 1, o', l, nv', k, ?_, ?_, u3.at' s1 z2 s2 z3 rfl rfl, by rw [z3.get rfl]; exact u4, u5, u6, u7, u8, by omega, Fr.trans u10 (s2.mono rfl), Fr.trans u11 (z3.mono rfl)⟩
      · rw [show f_X7_readCond rc 40 7 dp S = some (true, U) from u1, Option.bind_some]
        dsimp only
        unfold t_X8_take
        rw [if_pos rfl, e10, hk, if_pos (show oo 41 = (41 : Int32) from rfl), if_pos rfl]
      · unfold f_X12_readBracket
        rw [show f_X12_readOr rn 188 T = some (true, V) from u2, Option.bind_some]
        dsimp only
        rw [if_pos rfl, show (41 : Int32) = oo 41 from rfl, g41, decide_eq_true hk, if_pos rfl, z1, Option.bind_some]
    · obtain ⟨W, w1, w2, w3, w4⟩ := fail_c u3.1 hx (oo 1)
      obtain ⟨Z, z1, z2, z3, z4⟩ := bad_n hx u3.2.1 hi 1
      rw [bdK_1] at z2
      have et : t_X8_take 1 (41 : Int32) U = (false, W) := by
        unfold t_X8_take
        rw [e10, if_neg (show ¬ oo (xK x i') = (41 : Int32) by rw [show (41 : Int32) = oo 41 from rfl, oo_eq (by omega) (by decide)]; exact hk), show (1 : Int32) = oo 1 from rfl, w1]
      refine .inl ⟨W, Z, ?_, ?_, ⟨1, xP x i', by decide, by decide, xP_le hx hi, w2, w3, z2, z3⟩, Fr.trans (u10.mono rfl) (w4.mono rfl), Fr.trans (u11.mono rfl) (z4.mono rfl)⟩
      · rw [show f_X7_readCond rc 40 7 dp S = some (true, U) from u1, Option.bind_some]
        dsimp only
        rw [if_pos rfl, et]
        rfl
      · unfold f_X12_readBracket
        rw [show f_X12_readOr rn 188 T = some (true, V) from u2, Option.bind_some]
        dsimp only
        rw [if_pos rfl, show (41 : Int32) = oo 41 from rfl, g41, decide_eq_false hk, if_neg (by decide), show (1 : Int32) = oo 1 from rfl, z1, Option.bind_some]
end TRN
