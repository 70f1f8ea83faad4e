/-! a line of a HILL -/
section LN1
variable {x : TX} {L i : Nat} {S T : XS} {d : Nat → List Nat} {v : Nat → Nat}
/-- behind what a line tells: its end -/
theorem tail_p (hx : xok x L) {c r : Option (Bool × XS)} (h : LnS x L i S T c r) :
    (∃ U V, (c.bind (fun q => match q with | (r4, S5) => (if r4 = true then (if (t_X8_take 1 (59 : Int32) S5).1 = true then some (true, (t_X8_take 1 (59 : Int32) S5).2) else some (false, (t_X8_take 1 (59 : Int32) S5).2)) else some (false, S5)))) = some (false, U) ∧ (r.bind (fun q => match q with | (x3, S4) => (if x3 = true then ((f_X12_readEnd 188 S4).bind (fun q => match q with | (r6, S7) => (if r6 = true then some (true, S7) else some (false, S7)))) else some (false, S4)))) = some (false, V) ∧ Bad U V ∧ Fr FHC S U ∧ Fr FHN T V) ∨
    (∃ U V j d' v', i + 2 ≤ j ∧ (c.bind (fun q => match q with | (r4, S5) => (if r4 = true then (if (t_X8_take 1 (59 : Int32) S5).1 = true then some (true, (t_X8_take 1 (59 : Int32) S5).2) else some (false, (t_X8_take 1 (59 : Int32) S5).2)) else some (false, S5)))) = some (true, U) ∧ (r.bind (fun q => match q with | (x3, S4) => (if x3 = true then ((f_X12_readEnd 188 S4).bind (fun q => match q with | (r6, S7) => (if r6 = true then some (true, S7) else some (false, S7)))) else some (false, S4)))) = some (true, V) ∧ AtC x L j U ∧ AtN x j V ∧ HRel d' v' U V ∧ Fr FHD S U ∧ Fr FHO T V) := by
  rcases h with (⟨U, V, u1, u2, u3, u4, u5⟩ | ⟨U, V, j, d', v', hj, u1, u2, u3, u4, u5, u6, u7⟩) | ⟨U, V, j, u1, u2, u3, u4, u5, u6, u7, u8, u9⟩
  · refine .inl ⟨U, V, ?_, ?_, u3, u4, u5⟩
    · rw [u1, Option.bind_some]
      dsimp only
      rw [if_neg (by decide)]
    · rw [u2, Option.bind_some]
      dsimp only
      rw [if_neg (by decide)]
  · rcases end_p hx u3 u4 with ⟨U2, V2, q1, q2, q3, q4, q5⟩ | ⟨U2, V2, q1, q2, q3, q4, q5, q6, q7⟩
    · refine .inl ⟨U2, V2, ?_, ?_, q3, Fr.trans (u6.mono rfl) (q4.mono rfl), Fr.trans (u7.mono rfl) (q5.mono rfl)⟩
      · rw [u1, Option.bind_some]
        dsimp only
        rw [if_pos rfl, show (59 : Int32) = oo 59 from rfl, q1, if_neg (show ¬ (false, U2).1 = true from (by decide : ¬ (false = true)))]
      · rw [u2, Option.bind_some]
        dsimp only
        rw [if_pos rfl, q2, Option.bind_some]
        dsimp only
        rw [if_neg (by decide)]
    · refine .inr ⟨U2, V2, j + 1, d', v', by omega, ?_, ?_, q4, q5, u5.fr q6 q7 rfl rfl, Fr.trans u6 (q6.mono rfl), Fr.trans u7 (q7.mono rfl)⟩
      · rw [u1, Option.bind_some]
        dsimp only
        rw [if_pos rfl, show (59 : Int32) = oo 59 from rfl, q1, if_pos rfl]
      · rw [u2, Option.bind_some]
        dsimp only
        rw [if_pos rfl, q2, Option.bind_some]
        dsimp only
        rw [if_pos rfl]
  · have hsg := sign_n hx u4 u3 (c := 59) rfl
    obtain ⟨V2, v1, v2, v3, v4⟩ := bad_n hx u4 u3 1
    rw [bdK_1] at v2
    refine .inl ⟨U, V2, ?_, ?_, ⟨1, xP x j, by decide, by decide, xP_le hx u3, u6, u7, v2, v3⟩, u8, Fr.trans (u9.mono rfl) (v4.mono rfl)⟩
    · rw [u1, Option.bind_some]
      dsimp only
      rw [if_neg (by decide)]
    · rw [u2, Option.bind_some]
      dsimp only
      unfold f_X12_readEnd
      rw [if_pos rfl, show (59 : Int32) = oo 59 from rfl, hsg, decide_eq_false u5, if_neg (by decide), show (1 : Int32) = oo 1 from rfl, v1, Option.bind_some, Option.bind_some]
      dsimp only
      rw [if_neg (by decide)]
theorem neg128 {k : Nat} (h : k < 128) : oo k - 128 < (0 : Int32) := by
  have h1 : ∀ k, k < 128 → oo k - 128 < (0 : Int32) := by decide +kernel
  exact h1 k h
theorem hline_p (hx : xok x L) (hS : AtC x L i S) (hT : AtN x i T) (hR : HRel d v S T) (h0 : xK x i ≠ 0) :
    (∃ U V, ((f_X3_readLine 16 S).bind (fun q => match q with | (r4, S5) => (if r4 = true then (if (t_X8_take 1 (59 : Int32) S5).1 = true then some (true, (t_X8_take 1 (59 : Int32) S5).2) else some (false, (t_X8_take 1 (59 : Int32) S5).2)) else some (false, S5)))) = some (false, U) ∧ f_X12_readLine 188 T = some (false, V) ∧ Bad U V ∧ Fr FHC S U ∧ Fr FHN T V) ∨
    (∃ U V j d' v', i + 2 ≤ j ∧ ((f_X3_readLine 16 S).bind (fun q => match q with | (r4, S5) => (if r4 = true then (if (t_X8_take 1 (59 : Int32) S5).1 = true then some (true, (t_X8_take 1 (59 : Int32) S5).2) else some (false, (t_X8_take 1 (59 : Int32) S5).2)) else some (false, S5)))) = some (true, U) ∧ f_X12_readLine 188 T = some (true, V) ∧ AtC x L j U ∧ AtN x j V ∧ HRel d' v' U V ∧ Fr FHD S U ∧ Fr FHO T V) := by
  have hi : i ≤ L := hS.1
  have hlt := xK_lt hx hi
  have e10 : S.1 1 10 = oo (xK x i) := hS.2.2.2
  obtain ⟨⟨b0, b1, b2, b3, b4, b5⟩, -⟩ := id hR.1
  obtain ⟨⟨n0, n1, n2, n3, n4, n5⟩, -⟩ := id hR.2.1
  have hN : IsC T 191 144 v := hR.2.2.1
  have w0 := isWord_n hx hT hi (k := 0) (by decide)
  have w1 := isWord_n hx hT hi (k := 1) (by decide)
  have w2 := isWord_n hx hT hi (k := 2) (by decide)
  have w3 := isWord_n hx hT hi (k := 3) (by decide)
  have w4 := isWord_n hx hT hi (k := 4) (by decide)
  have w5 := isWord_n hx hT hi (k := 5) (by decide)
  obtain ⟨Uf, f1, f2, f3, f4⟩ := fail_c hS hx (oo 1)
  obtain ⟨U4, f5, f6, f7, f8⟩ := fail_c hS hx (oo 4)
  by_cases hk : 128 ≤ xK x i ∧ xK x i ≤ 133
  · have hiL : i < L := xlt hx hi (by omega) (by omega)
    obtain ⟨V4, v1, v2, v3, v4⟩ := bad_n hx hT hi 4
    rw [bdK_ne (by omega)] at v2
    have e128 : oo (xK x i) - 128 = oo (xK x i - 128) := oo_sub hk.1
    rcases (show xK x i = 128 ∨ xK x i = 129 ∨ xK x i = 130 ∨ xK x i = 131 ∨ xK x i = 132 ∨ xK x i = 133 by omega) with hK | hK | hK | hK | hK | hK
    · -- scent
      rw [hK] at w0 w1 w2 w3 w4 w5 e10 e128
      have eC : gat S 18 (oo 0) = oo (v 0) := by rw [g_18 (by decide), n0]
      have eN : T.1 191 0 = oo (v 0) := hN 0 (by decide)
      by_cases hm : v 0 < 6
      · have hl := scent_p hx hS hT hiL hR hm
        have hl2 : LnS x L i S T (f_X3_readScent 16 (t_X8_step 1 S)) (f_X12_readScent 188 T) := .inl hl
        have ec : f_X3_readLine 16 S = f_X3_readScent 16 (t_X8_step 1 S) := by
          unfold f_X3_readLine
          rw [show rf 16 0 = 1 from rfl, show rf (rf 16 1) 0 = 18 from rfl, e10, e128, if_neg (by decide), if_pos (by decide), eC, if_pos (show oo (v 0) < mostI (oo 0) by rw [show mostI (oo 0) = oo 6 from by decide, oo_lt (by omega) (by decide)]; exact hm), if_pos (show oo 0 = (0 : Int32) from rfl)]
          cases f_X3_readScent 16 (t_X8_step 1 S) <;> rfl
        have er : f_X12_readLine 188 T = ((f_X12_readScent 188 T).bind (fun q => match q with | (x3, S4) => (if x3 = true then ((f_X12_readEnd 188 S4).bind (fun q => match q with | (r6, S7) => (if r6 = true then some (true, S7) else some (false, S7)))) else some (false, S4)))) := by
          unfold f_X12_readLine
          rw [show (0 : Int32) = oo 0 from rfl, show (1 : Int32) = oo 1 from rfl, show (2 : Int32) = oo 2 from rfl, show (3 : Int32) = oo 3 from rfl, show (4 : Int32) = oo 4 from rfl, show (5 : Int32) = oo 5 from rfl]
          rw [w0, Option.bind_some]
          dsimp only
          rw [if_pos (by decide)]
          cases f_X12_readScent 188 T <;> rfl
        rw [ec, er]
        exact tail_p hx hl2
      · have hM : v 0 = 6 := by omega
        refine .inl ⟨U4, V4, ?_, ?_, ⟨4, xP x i, by decide, by decide, xP_le hx hi, f6, f7, v2, v3⟩, f8.mono rfl, v4.mono rfl⟩
        · have ec : f_X3_readLine 16 S = some (false, U4) := by
            unfold f_X3_readLine
            rw [show rf 16 0 = 1 from rfl, show rf (rf 16 1) 0 = 18 from rfl, e10, e128, if_neg (by decide), if_pos (by decide), eC, if_neg (show ¬ oo (v 0) < mostI (oo 0) by rw [hM]; decide), show (4 : Int32) = oo 4 from rfl, f5]
          rw [ec, Option.bind_some]
          dsimp only
          rw [if_neg (by decide)]
        · have er : f_X12_readScent 188 T = some (false, V4) := by
            unfold f_X12_readScent
            rw [show rf 188 15 = 191 from rfl, eN, if_pos (show oo (v 0) = (6 : Int32) by rw [hM]; rfl), show (4 : Int32) = oo 4 from rfl, v1, Option.bind_some]
          unfold f_X12_readLine
          rw [show (0 : Int32) = oo 0 from rfl, show (1 : Int32) = oo 1 from rfl, show (2 : Int32) = oo 2 from rfl, show (3 : Int32) = oo 3 from rfl, show (4 : Int32) = oo 4 from rfl, show (5 : Int32) = oo 5 from rfl]
          rw [w0, Option.bind_some]
          dsimp only
          rw [if_pos (by decide), er, Option.bind_some]
          rfl
    · -- place
      rw [hK] at w0 w1 w2 w3 w4 w5 e10 e128
      have eC : gat S 18 (oo 1) = oo (v 1) := by rw [g_18 (by decide), n1]
      have eN : T.1 191 1 = oo (v 1) := hN 1 (by decide)
      by_cases hm : v 1 < 6
      · have hl := place_p hx hS hT hiL hR hm
        have hl2 : LnS x L i S T (f_X3_readPlace 16 (t_X8_step 1 S)) (f_X12_readPlace 188 T) := hl
        have ec : f_X3_readLine 16 S = f_X3_readPlace 16 (t_X8_step 1 S) := by
          unfold f_X3_readLine
          rw [show rf 16 0 = 1 from rfl, show rf (rf 16 1) 0 = 18 from rfl, e10, e128, if_neg (by decide), if_pos (by decide), eC, if_pos (show oo (v 1) < mostI (oo 1) by rw [show mostI (oo 1) = oo 6 from by decide, oo_lt (by omega) (by decide)]; exact hm), if_neg (show ¬ oo 1 = (0 : Int32) by decide), if_pos (show oo 1 = (1 : Int32) from rfl)]
          cases f_X3_readPlace 16 (t_X8_step 1 S) <;> rfl
        have er : f_X12_readLine 188 T = ((f_X12_readPlace 188 T).bind (fun q => match q with | (x3, S4) => (if x3 = true then ((f_X12_readEnd 188 S4).bind (fun q => match q with | (r6, S7) => (if r6 = true then some (true, S7) else some (false, S7)))) else some (false, S4)))) := by
          unfold f_X12_readLine
          rw [show (0 : Int32) = oo 0 from rfl, show (1 : Int32) = oo 1 from rfl, show (2 : Int32) = oo 2 from rfl, show (3 : Int32) = oo 3 from rfl, show (4 : Int32) = oo 4 from rfl, show (5 : Int32) = oo 5 from rfl]
          rw [w0, Option.bind_some]
          dsimp only
          rw [if_neg (by decide)]
          rw [w1, Option.bind_some]
          dsimp only
          rw [if_pos (by decide)]
          cases f_X12_readPlace 188 T <;> rfl
        rw [ec, er]
        exact tail_p hx hl2
      · have hM : v 1 = 6 := by omega
        refine .inl ⟨U4, V4, ?_, ?_, ⟨4, xP x i, by decide, by decide, xP_le hx hi, f6, f7, v2, v3⟩, f8.mono rfl, v4.mono rfl⟩
        · have ec : f_X3_readLine 16 S = some (false, U4) := by
            unfold f_X3_readLine
            rw [show rf 16 0 = 1 from rfl, show rf (rf 16 1) 0 = 18 from rfl, e10, e128, if_neg (by decide), if_pos (by decide), eC, if_neg (show ¬ oo (v 1) < mostI (oo 1) by rw [hM]; decide), show (4 : Int32) = oo 4 from rfl, f5]
          rw [ec, Option.bind_some]
          dsimp only
          rw [if_neg (by decide)]
        · have er : f_X12_readPlace 188 T = some (false, V4) := by
            unfold f_X12_readPlace
            rw [show rf 188 15 = 191 from rfl, eN, if_pos (show oo (v 1) = (6 : Int32) by rw [hM]; rfl), show (4 : Int32) = oo 4 from rfl, v1, Option.bind_some]
          unfold f_X12_readLine
          rw [show (0 : Int32) = oo 0 from rfl, show (1 : Int32) = oo 1 from rfl, show (2 : Int32) = oo 2 from rfl, show (3 : Int32) = oo 3 from rfl, show (4 : Int32) = oo 4 from rfl, show (5 : Int32) = oo 5 from rfl]
          rw [w0, Option.bind_some]
          dsimp only
          rw [if_neg (by decide)]
          rw [w1, Option.bind_some]
          dsimp only
          rw [if_pos (by decide), er, Option.bind_some]
          rfl
    · -- witness
      rw [hK] at w0 w1 w2 w3 w4 w5 e10 e128
      have eC : gat S 18 (oo 2) = oo (v 3) := by rw [g_18 (by decide), n2]
      have eN : T.1 191 3 = oo (v 3) := hN 3 (by decide)
      by_cases hm : v 3 < 6
      · have hl := witness_p hx hS hT hiL hR hm
        have hl2 : LnS x L i S T (f_X3_readWitness 16 (t_X8_step 1 S)) (f_X12_readWitness 188 T) := .inl hl
        have ec : f_X3_readLine 16 S = f_X3_readWitness 16 (t_X8_step 1 S) := by
          unfold f_X3_readLine
          rw [show rf 16 0 = 1 from rfl, show rf (rf 16 1) 0 = 18 from rfl, e10, e128, if_neg (by decide), if_pos (by decide), eC, if_pos (show oo (v 3) < mostI (oo 2) by rw [show mostI (oo 2) = oo 6 from by decide, oo_lt (by omega) (by decide)]; exact hm), if_neg (show ¬ oo 2 = (0 : Int32) by decide), if_neg (show ¬ oo 2 = (1 : Int32) by decide), if_pos (show oo 2 = (2 : Int32) from rfl)]
          cases f_X3_readWitness 16 (t_X8_step 1 S) <;> rfl
        have er : f_X12_readLine 188 T = ((f_X12_readWitness 188 T).bind (fun q => match q with | (x3, S4) => (if x3 = true then ((f_X12_readEnd 188 S4).bind (fun q => match q with | (r6, S7) => (if r6 = true then some (true, S7) else some (false, S7)))) else some (false, S4)))) := by
          unfold f_X12_readLine
          rw [show (0 : Int32) = oo 0 from rfl, show (1 : Int32) = oo 1 from rfl, show (2 : Int32) = oo 2 from rfl, show (3 : Int32) = oo 3 from rfl, show (4 : Int32) = oo 4 from rfl, show (5 : Int32) = oo 5 from rfl]
          rw [w0, Option.bind_some]
          dsimp only
          rw [if_neg (by decide)]
          rw [w1, Option.bind_some]
          dsimp only
          rw [if_neg (by decide)]
          rw [w2, Option.bind_some]
          dsimp only
          rw [if_neg (by decide)]
          rw [w3, Option.bind_some]
          dsimp only
          rw [if_pos (by decide)]
          cases f_X12_readWitness 188 T <;> rfl
        rw [ec, er]
        exact tail_p hx hl2
      · have hM : v 3 = 6 := by omega
        refine .inl ⟨U4, V4, ?_, ?_, ⟨4, xP x i, by decide, by decide, xP_le hx hi, f6, f7, v2, v3⟩, f8.mono rfl, v4.mono rfl⟩
        · have ec : f_X3_readLine 16 S = some (false, U4) := by
            unfold f_X3_readLine
            rw [show rf 16 0 = 1 from rfl, show rf (rf 16 1) 0 = 18 from rfl, e10, e128, if_neg (by decide), if_pos (by decide), eC, if_neg (show ¬ oo (v 3) < mostI (oo 2) by rw [hM]; decide), show (4 : Int32) = oo 4 from rfl, f5]
          rw [ec, Option.bind_some]
          dsimp only
          rw [if_neg (by decide)]
        · have er : f_X12_readWitness 188 T = some (false, V4) := by
            unfold f_X12_readWitness
            rw [show rf 188 15 = 191 from rfl, eN, if_pos (show oo (v 3) = (6 : Int32) by rw [hM]; rfl), show (4 : Int32) = oo 4 from rfl, v1, Option.bind_some]
          unfold f_X12_readLine
          rw [show (0 : Int32) = oo 0 from rfl, show (1 : Int32) = oo 1 from rfl, show (2 : Int32) = oo 2 from rfl, show (3 : Int32) = oo 3 from rfl, show (4 : Int32) = oo 4 from rfl, show (5 : Int32) = oo 5 from rfl]
          rw [w0, Option.bind_some]
          dsimp only
          rw [if_neg (by decide)]
          rw [w1, Option.bind_some]
          dsimp only
          rw [if_neg (by decide)]
          rw [w2, Option.bind_some]
          dsimp only
          rw [if_neg (by decide)]
          rw [w3, Option.bind_some]
          dsimp only
          rw [if_pos (by decide), er, Option.bind_some]
          rfl
    · -- smoke
      rw [hK] at w0 w1 w2 w3 w4 w5 e10 e128
      have eC : gat S 18 (oo 3) = oo (v 2) := by rw [g_18 (by decide), n3]
      have eN : T.1 191 2 = oo (v 2) := hN 2 (by decide)
      by_cases hm : v 2 < 6
      · have hl := smoke_p hx hS hT hiL hR hm
        have hl2 : LnS x L i S T (f_X3_readSmoke 16 (t_X8_step 1 S)) (f_X12_readSmoke 188 T) := .inl hl
        have ec : f_X3_readLine 16 S = f_X3_readSmoke 16 (t_X8_step 1 S) := by
          unfold f_X3_readLine
          rw [show rf 16 0 = 1 from rfl, show rf (rf 16 1) 0 = 18 from rfl, e10, e128, if_neg (by decide), if_pos (by decide), eC, if_pos (show oo (v 2) < mostI (oo 3) by rw [show mostI (oo 3) = oo 6 from by decide, oo_lt (by omega) (by decide)]; exact hm), if_neg (show ¬ oo 3 = (0 : Int32) by decide), if_neg (show ¬ oo 3 = (1 : Int32) by decide), if_neg (show ¬ oo 3 = (2 : Int32) by decide), if_pos (show oo 3 = (3 : Int32) from rfl)]
          cases f_X3_readSmoke 16 (t_X8_step 1 S) <;> rfl
        have er : f_X12_readLine 188 T = ((f_X12_readSmoke 188 T).bind (fun q => match q with | (x3, S4) => (if x3 = true then ((f_X12_readEnd 188 S4).bind (fun q => match q with | (r6, S7) => (if r6 = true then some (true, S7) else some (false, S7)))) else some (false, S4)))) := by
          unfold f_X12_readLine
          rw [show (0 : Int32) = oo 0 from rfl, show (1 : Int32) = oo 1 from rfl, show (2 : Int32) = oo 2 from rfl, show (3 : Int32) = oo 3 from rfl, show (4 : Int32) = oo 4 from rfl, show (5 : Int32) = oo 5 from rfl]
          rw [w0, Option.bind_some]
          dsimp only
          rw [if_neg (by decide)]
          rw [w1, Option.bind_some]
          dsimp only
          rw [if_neg (by decide)]
          rw [w2, Option.bind_some]
          dsimp only
          rw [if_pos (by decide)]
          cases f_X12_readSmoke 188 T <;> rfl
        rw [ec, er]
        exact tail_p hx hl2
      · have hM : v 2 = 6 := by omega
        refine .inl ⟨U4, V4, ?_, ?_, ⟨4, xP x i, by decide, by decide, xP_le hx hi, f6, f7, v2, v3⟩, f8.mono rfl, v4.mono rfl⟩
        · have ec : f_X3_readLine 16 S = some (false, U4) := by
            unfold f_X3_readLine
            rw [show rf 16 0 = 1 from rfl, show rf (rf 16 1) 0 = 18 from rfl, e10, e128, if_neg (by decide), if_pos (by decide), eC, if_neg (show ¬ oo (v 2) < mostI (oo 3) by rw [hM]; decide), show (4 : Int32) = oo 4 from rfl, f5]
          rw [ec, Option.bind_some]
          dsimp only
          rw [if_neg (by decide)]
        · have er : f_X12_readSmoke 188 T = some (false, V4) := by
            unfold f_X12_readSmoke
            rw [show rf 188 15 = 191 from rfl, eN, if_pos (show oo (v 2) = (6 : Int32) by rw [hM]; rfl), show (4 : Int32) = oo 4 from rfl, v1, Option.bind_some]
          unfold f_X12_readLine
          rw [show (0 : Int32) = oo 0 from rfl, show (1 : Int32) = oo 1 from rfl, show (2 : Int32) = oo 2 from rfl, show (3 : Int32) = oo 3 from rfl, show (4 : Int32) = oo 4 from rfl, show (5 : Int32) = oo 5 from rfl]
          rw [w0, Option.bind_some]
          dsimp only
          rw [if_neg (by decide)]
          rw [w1, Option.bind_some]
          dsimp only
          rw [if_neg (by decide)]
          rw [w2, Option.bind_some]
          dsimp only
          rw [if_pos (by decide), er, Option.bind_some]
          rfl
    · -- went
      rw [hK] at w0 w1 w2 w3 w4 w5 e10 e128
      have eC : gat S 18 (oo 4) = oo (v 4) := by rw [g_18 (by decide), n4]
      have eN : T.1 191 4 = oo (v 4) := hN 4 (by decide)
      by_cases hm : v 4 < 20
      · have hl := went_p hx hS hT hiL hR hm
        have hl2 : LnS x L i S T (f_X3_readWent 16 (t_X8_step 1 S)) (f_X12_readWent 188 T) := .inl hl
        have ec : f_X3_readLine 16 S = f_X3_readWent 16 (t_X8_step 1 S) := by
          unfold f_X3_readLine
          rw [show rf 16 0 = 1 from rfl, show rf (rf 16 1) 0 = 18 from rfl, e10, e128, if_neg (by decide), if_pos (by decide), eC, if_pos (show oo (v 4) < mostI (oo 4) by rw [show mostI (oo 4) = oo 20 from by decide, oo_lt (by omega) (by decide)]; exact hm), if_neg (show ¬ oo 4 = (0 : Int32) by decide), if_neg (show ¬ oo 4 = (1 : Int32) by decide), if_neg (show ¬ oo 4 = (2 : Int32) by decide), if_neg (show ¬ oo 4 = (3 : Int32) by decide), if_pos (show oo 4 = (4 : Int32) from rfl)]
          cases f_X3_readWent 16 (t_X8_step 1 S) <;> rfl
        have er : f_X12_readLine 188 T = ((f_X12_readWent 188 T).bind (fun q => match q with | (x3, S4) => (if x3 = true then ((f_X12_readEnd 188 S4).bind (fun q => match q with | (r6, S7) => (if r6 = true then some (true, S7) else some (false, S7)))) else some (false, S4)))) := by
          unfold f_X12_readLine
          rw [show (0 : Int32) = oo 0 from rfl, show (1 : Int32) = oo 1 from rfl, show (2 : Int32) = oo 2 from rfl, show (3 : Int32) = oo 3 from rfl, show (4 : Int32) = oo 4 from rfl, show (5 : Int32) = oo 5 from rfl]
          rw [w0, Option.bind_some]
          dsimp only
          rw [if_neg (by decide)]
          rw [w1, Option.bind_some]
          dsimp only
          rw [if_neg (by decide)]
          rw [w2, Option.bind_some]
          dsimp only
          rw [if_neg (by decide)]
          rw [w3, Option.bind_some]
          dsimp only
          rw [if_neg (by decide)]
          rw [w4, Option.bind_some]
          dsimp only
          rw [if_pos (by decide)]
          cases f_X12_readWent 188 T <;> rfl
        rw [ec, er]
        exact tail_p hx hl2
      · have hM : v 4 = 20 := by omega
        refine .inl ⟨U4, V4, ?_, ?_, ⟨4, xP x i, by decide, by decide, xP_le hx hi, f6, f7, v2, v3⟩, f8.mono rfl, v4.mono rfl⟩
        · have ec : f_X3_readLine 16 S = some (false, U4) := by
            unfold f_X3_readLine
            rw [show rf 16 0 = 1 from rfl, show rf (rf 16 1) 0 = 18 from rfl, e10, e128, if_neg (by decide), if_pos (by decide), eC, if_neg (show ¬ oo (v 4) < mostI (oo 4) by rw [hM]; decide), show (4 : Int32) = oo 4 from rfl, f5]
          rw [ec, Option.bind_some]
          dsimp only
          rw [if_neg (by decide)]
        · have er : f_X12_readWent 188 T = some (false, V4) := by
            unfold f_X12_readWent
            rw [show rf 188 15 = 191 from rfl, eN, if_pos (show oo (v 4) = (20 : Int32) by rw [hM]; rfl), show (4 : Int32) = oo 4 from rfl, v1, Option.bind_some]
          unfold f_X12_readLine
          rw [show (0 : Int32) = oo 0 from rfl, show (1 : Int32) = oo 1 from rfl, show (2 : Int32) = oo 2 from rfl, show (3 : Int32) = oo 3 from rfl, show (4 : Int32) = oo 4 from rfl, show (5 : Int32) = oo 5 from rfl]
          rw [w0, Option.bind_some]
          dsimp only
          rw [if_neg (by decide)]
          rw [w1, Option.bind_some]
          dsimp only
          rw [if_neg (by decide)]
          rw [w2, Option.bind_some]
          dsimp only
          rw [if_neg (by decide)]
          rw [w3, Option.bind_some]
          dsimp only
          rw [if_neg (by decide)]
          rw [w4, Option.bind_some]
          dsimp only
          rw [if_pos (by decide), er, Option.bind_some]
          rfl
    · -- rain
      rw [hK] at w0 w1 w2 w3 w4 w5 e10 e128
      have eC : gat S 18 (oo 5) = oo (v 5) := by rw [g_18 (by decide), n5]
      have eN : T.1 191 5 = oo (v 5) := hN 5 (by decide)
      by_cases hm : v 5 < 6
      · have hl := rain_p hx hS hT hiL hR hm
        have hl2 : LnS x L i S T (f_X3_readRain 16 (t_X8_step 1 S)) (f_X12_readRain 188 T) := .inl hl
        have ec : f_X3_readLine 16 S = f_X3_readRain 16 (t_X8_step 1 S) := by
          unfold f_X3_readLine
          rw [show rf 16 0 = 1 from rfl, show rf (rf 16 1) 0 = 18 from rfl, e10, e128, if_neg (by decide), if_pos (by decide), eC, if_pos (show oo (v 5) < mostI (oo 5) by rw [show mostI (oo 5) = oo 6 from by decide, oo_lt (by omega) (by decide)]; exact hm), if_neg (show ¬ oo 5 = (0 : Int32) by decide), if_neg (show ¬ oo 5 = (1 : Int32) by decide), if_neg (show ¬ oo 5 = (2 : Int32) by decide), if_neg (show ¬ oo 5 = (3 : Int32) by decide), if_neg (show ¬ oo 5 = (4 : Int32) by decide)]
          cases f_X3_readRain 16 (t_X8_step 1 S) <;> rfl
        have er : f_X12_readLine 188 T = ((f_X12_readRain 188 T).bind (fun q => match q with | (x3, S4) => (if x3 = true then ((f_X12_readEnd 188 S4).bind (fun q => match q with | (r6, S7) => (if r6 = true then some (true, S7) else some (false, S7)))) else some (false, S4)))) := by
          unfold f_X12_readLine
          rw [show (0 : Int32) = oo 0 from rfl, show (1 : Int32) = oo 1 from rfl, show (2 : Int32) = oo 2 from rfl, show (3 : Int32) = oo 3 from rfl, show (4 : Int32) = oo 4 from rfl, show (5 : Int32) = oo 5 from rfl]
          rw [w0, Option.bind_some]
          dsimp only
          rw [if_neg (by decide)]
          rw [w1, Option.bind_some]
          dsimp only
          rw [if_neg (by decide)]
          rw [w2, Option.bind_some]
          dsimp only
          rw [if_neg (by decide)]
          rw [w3, Option.bind_some]
          dsimp only
          rw [if_neg (by decide)]
          rw [w4, Option.bind_some]
          dsimp only
          rw [if_neg (by decide)]
          rw [w5, Option.bind_some]
          dsimp only
          rw [if_pos (by decide)]
          cases f_X12_readRain 188 T <;> rfl
        rw [ec, er]
        exact tail_p hx hl2
      · have hM : v 5 = 6 := by omega
        refine .inl ⟨U4, V4, ?_, ?_, ⟨4, xP x i, by decide, by decide, xP_le hx hi, f6, f7, v2, v3⟩, f8.mono rfl, v4.mono rfl⟩
        · have ec : f_X3_readLine 16 S = some (false, U4) := by
            unfold f_X3_readLine
            rw [show rf 16 0 = 1 from rfl, show rf (rf 16 1) 0 = 18 from rfl, e10, e128, if_neg (by decide), if_pos (by decide), eC, if_neg (show ¬ oo (v 5) < mostI (oo 5) by rw [hM]; decide), show (4 : Int32) = oo 4 from rfl, f5]
          rw [ec, Option.bind_some]
          dsimp only
          rw [if_neg (by decide)]
        · have er : f_X12_readRain 188 T = some (false, V4) := by
            unfold f_X12_readRain
            rw [show rf 188 15 = 191 from rfl, eN, if_pos (show oo (v 5) = (6 : Int32) by rw [hM]; rfl), show (4 : Int32) = oo 4 from rfl, v1, Option.bind_some]
          unfold f_X12_readLine
          rw [show (0 : Int32) = oo 0 from rfl, show (1 : Int32) = oo 1 from rfl, show (2 : Int32) = oo 2 from rfl, show (3 : Int32) = oo 3 from rfl, show (4 : Int32) = oo 4 from rfl, show (5 : Int32) = oo 5 from rfl]
          rw [w0, Option.bind_some]
          dsimp only
          rw [if_neg (by decide)]
          rw [w1, Option.bind_some]
          dsimp only
          rw [if_neg (by decide)]
          rw [w2, Option.bind_some]
          dsimp only
          rw [if_neg (by decide)]
          rw [w3, Option.bind_some]
          dsimp only
          rw [if_neg (by decide)]
          rw [w4, Option.bind_some]
          dsimp only
          rw [if_neg (by decide)]
          rw [w5, Option.bind_some]
          dsimp only
          rw [if_pos (by decide), er, Option.bind_some]
          rfl
  · obtain ⟨V, v1, v2, v3, v4⟩ := bad_n hx hT hi 1
    rw [bdK_1] at v2
    have d0 : decide (xK x i = 128 + kyR 0) = false := decide_eq_false (by rw [show kyR 0 = 0 from rfl]; omega)
    have d1 : decide (xK x i = 128 + kyR 1) = false := decide_eq_false (by rw [show kyR 1 = 1 from rfl]; omega)
    have d2 : decide (xK x i = 128 + kyR 2) = false := decide_eq_false (by rw [show kyR 2 = 3 from rfl]; omega)
    have d3 : decide (xK x i = 128 + kyR 3) = false := decide_eq_false (by rw [show kyR 3 = 2 from rfl]; omega)
    have d4 : decide (xK x i = 128 + kyR 4) = false := decide_eq_false (by rw [show kyR 4 = 4 from rfl]; omega)
    have d5 : decide (xK x i = 128 + kyR 5) = false := decide_eq_false (by rw [show kyR 5 = 5 from rfl]; omega)
    rw [d0] at w0
    rw [d1] at w1
    rw [d2] at w2
    rw [d3] at w3
    rw [d4] at w4
    rw [d5] at w5
    refine .inl ⟨Uf, V, ?_, ?_, ⟨1, xP x i, by decide, by decide, xP_le hx hi, f2, f3, v2, v3⟩, f4.mono rfl, v4.mono rfl⟩
    · have ec : f_X3_readLine 16 S = some (false, Uf) := by
        unfold f_X3_readLine
        rw [show rf 16 0 = 1 from rfl, e10]
        by_cases h128 : xK x i < 128
        · rw [if_pos (neg128 h128), show (1 : Int32) = oo 1 from rfl, f1]
        · have e128 : oo (xK x i) - 128 = oo (xK x i - 128) := oo_sub (Nat.le_of_not_lt h128)
          rw [e128, if_neg (by rw [show (0 : Int32) = oo 0 from rfl, oo_lt (by omega) (by decide)]; omega), if_neg (by rw [show (5 : Int32) = oo 5 from rfl, oo_le (by omega) (by decide)]; omega), show (1 : Int32) = oo 1 from rfl, f1]
      rw [ec, Option.bind_some]
      dsimp only
      rw [if_neg (by decide)]
    · unfold f_X12_readLine
      rw [show (0 : Int32) = oo 0 from rfl, show (1 : Int32) = oo 1 from rfl, show (2 : Int32) = oo 2 from rfl, show (3 : Int32) = oo 3 from rfl, show (4 : Int32) = oo 4 from rfl, show (5 : Int32) = oo 5 from rfl]
      rw [w0, Option.bind_some]
      dsimp only
      rw [if_neg (by decide), w1, Option.bind_some]
      dsimp only
      rw [if_neg (by decide), w2, Option.bind_some]
      dsimp only
      rw [if_neg (by decide), w3, Option.bind_some]
      dsimp only
      rw [if_neg (by decide), w4, Option.bind_some]
      dsimp only
      rw [if_neg (by decide), w5, Option.bind_some]
      dsimp only
      rw [if_neg (by decide), v1, Option.bind_some]
      rfl
end LN1
