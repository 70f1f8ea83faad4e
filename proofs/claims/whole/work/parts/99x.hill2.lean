/-! HILL, line by line -/
theorem filc_cell {S : XS} {a c : Nat} {x : Int32} (h : c ≠ a) : (filI S a x).1 c = S.1 c := funext fun j => if_neg (fun q => h q.1)
theorem filc_long {S : XS} {a : Nat} {x : Int32} : (filI S a x).2 = S.2 := rfl
theorem filj_in {S : XS} {a j : Nat} {x : Int64} (h : j < ln a) : (filJ S a x).2 a j = x := if_pos ⟨rfl, h⟩
theorem filj_int {S : XS} {a : Nat} {x : Int64} : (filJ S a x).1 = S.1 := rfl
theorem filj_fr {l : List (Nat × Nat)} {S : XS} {a : Nat} {x : Int64} (hc : l.contains (a, 9999) = true) : Fr l S (filJ S a x) := fun d j hd => by
  have hne : d ≠ a := fun q => by
    subst q
    unfold tch at hd
    rw [List.any_eq_false] at hd
    exact hd _ (List.contains_iff_mem.mp hc) (by simp)
  exact ⟨rfl, if_neg (fun q => hne q.1)⟩
theorem Fr.fil {l : List (Nat × Nat)} {S T : XS} {a : Nat} {x : Int32} (h : Fr l S T) (hc : l.contains (a, 9999) = true) : Fr l S (filI T a x) := Fr.trans h (fil_fr hc)
theorem Fr.filj {l : List (Nat × Nat)} {S T : XS} {a : Nat} {x : Int64} (h : Fr l S T) (hc : l.contains (a, 9999) = true) : Fr l S (filJ T a x) := Fr.trans h (filj_fr hc)
def FCL : List (Nat × Nat) := [(18, 9999), (19, 9999), (20, 9999), (21, 9999), (22, 9999), (23, 9999), (24, 9999), (25, 9999), (26, 9999), (27, 9999)]
theorem clr_c (S : XS) : ∃ U, filI (filI (t_X2_clear 17 S) 26 (0 : Int32)) 27 (0 : Int32) = U ∧ (∀ j, j < 6 → U.1 18 j = oo 0) ∧ (∀ j, j < 18 → U.2 19 j = 0) ∧ (∀ j, j < 6 → U.1 20 j = oo 0) ∧ (∀ j, j < 36 → U.1 21 j = oo 0) ∧ (∀ j, j < 6 → U.1 22 j = oo 0) ∧ (∀ j, j < 6 → U.1 23 j = oo 0) ∧ (∀ j, j < 366 → U.1 24 j = oo 0) ∧ (∀ j, j < 61 → U.1 25 j = oo 0) ∧ (∀ j, j < 36 → U.1 26 j = oo 0) ∧ (∀ j, j < 216 → U.1 27 j = oo 0) ∧ Fr FCL S U := by
  refine ⟨filI (filI (filI (filI (filI (filI (filI (filI (filJ (filI S 18 0) 19 0) 20 0) 21 0) 22 0) 23 0) 24 0) 25 0) 26 0) 27 0, rfl, fun j hj => ?_, fun j hj => ?_, fun j hj => ?_, fun j hj => ?_, fun j hj => ?_, fun j hj => ?_, fun j hj => ?_, fun j hj => ?_, fun j hj => ?_, fun j hj => ?_, ?_⟩
  · rw [filc_cell (by decide), filc_cell (by decide), filc_cell (by decide), filc_cell (by decide), filc_cell (by decide), filc_cell (by decide), filc_cell (by decide), filc_cell (by decide), filj_int]
    exact fil_in (by rw [ln_18]; exact hj)
  · rw [filc_long, filc_long, filc_long, filc_long, filc_long, filc_long, filc_long, filc_long]
    exact filj_in (by rw [ln_19]; exact hj)
  · rw [filc_cell (by decide), filc_cell (by decide), filc_cell (by decide), filc_cell (by decide), filc_cell (by decide), filc_cell (by decide), filc_cell (by decide)]
    exact fil_in (by rw [ln_20]; exact hj)
  · rw [filc_cell (by decide), filc_cell (by decide), filc_cell (by decide), filc_cell (by decide), filc_cell (by decide), filc_cell (by decide)]
    exact fil_in (by rw [ln_21]; exact hj)
  · rw [filc_cell (by decide), filc_cell (by decide), filc_cell (by decide), filc_cell (by decide), filc_cell (by decide)]
    exact fil_in (by rw [ln_22]; exact hj)
  · rw [filc_cell (by decide), filc_cell (by decide), filc_cell (by decide), filc_cell (by decide)]
    exact fil_in (by rw [ln_23]; exact hj)
  · rw [filc_cell (by decide), filc_cell (by decide), filc_cell (by decide)]
    exact fil_in (by rw [ln_24]; exact hj)
  · rw [filc_cell (by decide), filc_cell (by decide)]
    exact fil_in (by rw [ln_25]; exact hj)
  · rw [filc_cell (by decide)]
    exact fil_in (by rw [ln_26]; exact hj)
  · exact fil_in (by rw [ln_27]; exact hj)
  · exact Fr.fil (Fr.fil (Fr.fil (Fr.fil (Fr.fil (Fr.fil (Fr.fil (Fr.fil (Fr.filj (fil_fr rfl) rfl) rfl) rfl) rfl) rfl) rfl) rfl) rfl) rfl
def z0N : Nat → Nat := fun _ => 0
theorem HOK_0 : HOK z0N := by
  unfold HOK z0N
  refine ⟨⟨by decide, by decide, by decide, by decide, by decide, by decide⟩, fun s _ => ⟨by decide, fun _ => rfl⟩, fun p s _ _ => ⟨by decide, fun _ => rfl⟩, fun k h => absurd h (Nat.not_lt_zero _), fun k h => absurd h (Nat.not_lt_zero _), fun k h => absurd h (Nat.not_lt_zero _), fun k h => absurd h (Nat.not_lt_zero _), fun k _ => by decide⟩
theorem HRel_0 {U V : XS} (h18 : ∀ j, j < 6 → U.1 18 j = oo 0) (h19 : ∀ j, j < 18 → U.2 19 j = 0) (h20 : ∀ j, j < 6 → U.1 20 j = oo 0) (h21 : ∀ j, j < 36 → U.1 21 j = oo 0) (h22 : ∀ j, j < 6 → U.1 22 j = oo 0) (h23 : ∀ j, j < 6 → U.1 23 j = oo 0) (h24 : ∀ j, j < 366 → U.1 24 j = oo 0) (h25 : ∀ j, j < 61 → U.1 25 j = oo 0) (h26 : ∀ j, j < 36 → U.1 26 j = oo 0) (h27 : ∀ j, j < 216 → U.1 27 j = oo 0) (hV : ∀ j, j < 144 → V.1 191 j = oo 0) : HRel (fun _ => []) z0N U V := by
  refine ⟨HOK_0, ⟨⟨h18 0 (by decide), h18 1 (by decide), h18 2 (by decide), h18 3 (by decide), h18 4 (by decide), h18 5 (by decide)⟩, h20, fun p s hp hs => h21 _ (by omega), h22, h23, fun t w ht hw => h24 _ (by omega), fun t ht => h25 _ (by omega)⟩, hV, fun srt hs k hk => ⟨fun q => absurd q (Nat.not_lt_zero _), fun _ => h19 _ (by omega)⟩, fun p s hp hs => h26 _ (by omega), fun s a c hs ha hc => h27 _ (by omega), fun p s _ _ _ => rfl⟩
section HLL
variable {x : TX} {L : Nat}
theorem L35_eq {f lines : Nat} {S : XS} (h9 : lines < 940) (h0 : S.1 1 10 ≠ 0) : f_X3_read_L35 16 (f + 1) (oo lines) S = (((f_X3_readLine 16 S).bind (fun q => match q with | (r4, S5) => (if r4 = true then (if (t_X8_take 1 (59 : Int32) S5).1 = true then some (true, (t_X8_take 1 (59 : Int32) S5).2) else some (false, (t_X8_take 1 (59 : Int32) S5).2)) else some (false, S5)))).bind (fun q => match q with | (r, U) => (if r = true then f_X3_read_L35 16 f (oo (lines + 1)) U else some (.inl ((-1 : Int32), U))))) := by
  rw [f_X3_read_L35, if_neg (by rw [show (940 : Int32) = oo 940 from rfl, oo_le (by decide) (by omega)]; omega), show rf 16 0 = 1 from rfl, if_neg h0, show (1 : Int32) = oo 1 from rfl, oo_add]
  cases f_X3_readLine 16 S with
  | none => rfl
  | some q =>
    obtain ⟨r4, S5⟩ := q
    rw [Option.bind_some, Option.bind_some]
    dsimp only
    cases r4 with
    | false => rfl
    | true =>
      rw [if_pos rfl, if_pos rfl]
      cases (t_X8_take 1 59 S5).1 with
      | true => rfl
      | false => rfl
theorem hill_L (hx : xok x L) : ∀ m i lines fc fn (S T : XS) (d : Nat → List Nat) (v : Nat → Nat), L ≤ i + m → 2 * lines ≤ i → m < fc → m < fn → AtC x L i S → AtN x i T → HRel d v S T →
    (∃ U V k d' v', k ≤ 940 ∧ f_X3_read_L35 16 fc (oo lines) S = some (.inl (oo k, U)) ∧ f_X12_hill_L31 188 fn (oo lines) T = some (.inr (oo k, V)) ∧ HRel d' v' U V ∧ Fr FHD S U ∧ Fr FHO T V) ∨
    (∃ U V, f_X3_read_L35 16 fc (oo lines) S = some (.inl (-1, U)) ∧ f_X12_hill_L31 188 fn (oo lines) T = some (.inl ((-1 : Int32) - V.1 188 11, V)) ∧ Bad U V ∧ Fr FHC S U ∧ Fr FHN T V) := by
  intro m
  induction m with
  | zero =>
    intro i lines fc fn S T d v hL h2 hfc hfn hS hT hR
    obtain ⟨fc, rfl⟩ : ∃ f', fc = f' + 1 := ⟨fc - 1, by omega⟩
    obtain ⟨fn, rfl⟩ : ∃ f', fn = f' + 1 := ⟨fn - 1, by omega⟩
    have hi : i ≤ L := hS.1
    have hL9 := hx.2.2.2.1
    have e10 : S.1 1 10 = oo (xK x i) := hS.2.2.2
    have hk := (kind_n hx hT hi).1
    by_cases h0 : xK x i = 0
    · refine .inl ⟨S, T, lines, d, v, by omega, ?_, ?_, hR, Fr.rf _ _, Fr.rf _ _⟩
      · rw [f_X3_read_L35, if_neg (by rw [show (940 : Int32) = oo 940 from rfl, oo_le (by decide) (by omega)]; omega), show rf 16 0 = 1 from rfl, e10, h0, if_pos (show oo 0 = (0 : Int32) from rfl)]
      · rw [f_X12_hill_L31, if_pos (hk.mpr h0)]
    · have hlt := xK_lt hx hi
      have ne : S.1 1 10 ≠ 0 := by rw [e10]; intro q; rw [show (0 : Int32) = oo 0 from rfl, oo_eq (by omega) (by decide)] at q; exact h0 q
      rcases hline_p hx hS hT hR h0 with ⟨U, V, u1, u2, u3, u4, u5⟩ | ⟨U, V, j, d', v', hj, u1, u2, u3, u4, u5, u6, u7⟩
      · refine .inr ⟨U, V, ?_, ?_, u3, u4, u5⟩
        · rw [L35_eq (by omega) ne, u1, Option.bind_some]
          dsimp only
          rw [if_neg (by decide)]
        · rw [f_X12_hill_L31, if_neg (fun q => h0 (hk.mp q)), u2, Option.bind_some]
          dsimp only
          rw [if_neg (by decide)]
      · have := u3.1
        omega
  | succ m ih =>
    intro i lines fc fn S T d v hL h2 hfc hfn hS hT hR
    obtain ⟨fc, rfl⟩ : ∃ f', fc = f' + 1 := ⟨fc - 1, by omega⟩
    obtain ⟨fn, rfl⟩ : ∃ f', fn = f' + 1 := ⟨fn - 1, by omega⟩
    have hi : i ≤ L := hS.1
    have hL9 := hx.2.2.2.1
    have e10 : S.1 1 10 = oo (xK x i) := hS.2.2.2
    have hk := (kind_n hx hT hi).1
    by_cases h0 : xK x i = 0
    · refine .inl ⟨S, T, lines, d, v, by omega, ?_, ?_, hR, Fr.rf _ _, Fr.rf _ _⟩
      · rw [f_X3_read_L35, if_neg (by rw [show (940 : Int32) = oo 940 from rfl, oo_le (by decide) (by omega)]; omega), show rf 16 0 = 1 from rfl, e10, h0, if_pos (show oo 0 = (0 : Int32) from rfl)]
      · rw [f_X12_hill_L31, if_pos (hk.mpr h0)]
    · have hlt := xK_lt hx hi
      have ne : S.1 1 10 ≠ 0 := by rw [e10]; intro q; rw [show (0 : Int32) = oo 0 from rfl, oo_eq (by omega) (by decide)] at q; exact h0 q
      rcases hline_p hx hS hT hR h0 with ⟨U, V, u1, u2, u3, u4, u5⟩ | ⟨U, V, j, d', v', hj, u1, u2, u3, u4, u5, u6, u7⟩
      · refine .inr ⟨U, V, ?_, ?_, u3, u4, u5⟩
        · rw [L35_eq (by omega) ne, u1, Option.bind_some]
          dsimp only
          rw [if_neg (by decide)]
        · rw [f_X12_hill_L31, if_neg (fun q => h0 (hk.mp q)), u2, Option.bind_some]
          dsimp only
          rw [if_neg (by decide)]
      · have hr := ih j (lines + 1) fc fn U V d' v' (by omega) (by omega) (by omega) (by omega) u3 u4 u5
        rw [L35_eq (by omega) ne, u1, Option.bind_some, f_X12_hill_L31, if_neg (fun q => h0 (hk.mp q)), u2, Option.bind_some]
        dsimp only
        rw [if_pos rfl, if_pos rfl, show (1 : Int32) = oo 1 from rfl, oo_add]
        rcases hr with ⟨U', V', k, d2, v2, a1, a2, a3, a4, a5, a6⟩ | ⟨U', V', a1, a2, a3, a4, a5⟩
        · exact .inl ⟨U', V', k, d2, v2, a1, a2, a3, a4, Fr.trans u6 a5, Fr.trans u7 a6⟩
        · exact .inr ⟨U', V', a1, a2, a3, Fr.trans (u6.mono rfl) a4, Fr.trans (u7.mono rfl) a5⟩
end HLL
/-! the reference starts anew -/
def newN (v : Nat → Nat) (j : Nat) : Nat := if 145 ≤ j ∧ j < 151 then v (72 + (j - 145)) else if 151 ≤ j ∧ j < 157 then j - 151 else if 144 ≤ j ∧ j < 274 then 0 else v j
theorem anew_n {T : XS} {v : Nat → Nat} (h : IsC T 190 516 v) : ∃ U, f_X12_startAnew 188 T = some U ∧ IsC U 190 516 (newN v) ∧ Fr [(190, 9999)] T U := by
  have l1 := loop_blk (L := f_X12_startAnew_L4 188) (a := 190) (lo := 144) (st := 144) (m := 130) (f := fun _ => oo 0) (S := T) (R := some (blk T 190 144 130 (fun _ => oo 0))) (fun i k hk => by
    rw [f_X12_startAnew_L4, if_neg (by rw [show (274 : Int32) = oo 274 from rfl, oo_le (by decide) (by omega)]; omega), show rf 188 14 = 190 from rfl, if_neg (by rw [ln_190]; exact oo_inb (by omega) (by omega)), oo_nat (by omega), show (1 : Int32) = oo 1 from rfl, oo_add]
    rfl) (fun i => by
    rw [f_X12_startAnew_L4, if_pos (by decide)]) 1000000 (by decide)
  have F1 : Fr [(190, 9999)] T (blk T 190 144 130 (fun _ => oo 0)) := Fr.blk (Fr.rf _ _) rfl
  have hin : ∀ j, 144 ≤ j → j < 274 → (blk T 190 144 130 (fun _ => oo 0)).1 190 j = oo 0 := fun j h1 h2 => blk_in (by omega)
  have hout : ∀ j, j < 516 → ¬ (144 ≤ j ∧ j < 274) → (blk T 190 144 130 (fun _ => oo 0)).1 190 j = oo (v j) := fun j h1 h2 => by
    rw [blk_out (by omega)]
    exact h j h1
  generalize blk T 190 144 130 (fun _ => oo 0) = B at l1 F1 hin hout
  have key : ∀ m k f (W : XS), k + m = 6 → m < f → (∀ j, j < 516 → W.1 190 j = if 145 ≤ j ∧ j < 145 + k then oo (v (72 + (j - 145))) else if 151 ≤ j ∧ j < 151 + k then oo (j - 151) else B.1 190 j) → ∃ U, f_X12_startAnew_L26 188 f (oo k) W = some U ∧ (∀ j, j < 516 → U.1 190 j = if 145 ≤ j ∧ j < 151 then oo (v (72 + (j - 145))) else if 151 ≤ j ∧ j < 157 then oo (j - 151) else B.1 190 j) ∧ Fr [(190, 9999)] W U := by
    intro m
    induction m with
    | zero =>
      intro k f W hk hf hW
      obtain ⟨f, rfl⟩ : ∃ f', f = f' + 1 := ⟨f - 1, by omega⟩
      obtain rfl : k = 6 := by omega
      exact ⟨W, by rw [f_X12_startAnew_L26, if_pos (by decide)], hW, Fr.rf _ _⟩
    | succ m ih =>
      intro k f W hk hf hW
      obtain ⟨f, rfl⟩ : ∃ f', f = f' + 1 := ⟨f - 1, by omega⟩
      have e72 : W.1 190 (72 + k) = oo (v (72 + k)) := by
        rw [hW _ (by omega), if_neg (by omega), if_neg (by omega)]
        exact hout _ (by omega) (by omega)
      have FW : Fr [(190, 9999)] W (sI (sI W 190 (145 + k) (oo (v (72 + k)))) 190 (151 + k) (oo k)) := Fr.sIr (Fr.sIr (Fr.rf _ _) rfl) rfl
      obtain ⟨U, u1, u2, u3⟩ := ih (k + 1) f (sI (sI W 190 (145 + k) (oo (v (72 + k)))) 190 (151 + k) (oo k)) (by omega) (by omega) (fun j hj => by
        by_cases e : j = 151 + k
        · rw [e, sI_same, if_neg (by omega), if_pos (by omega), Nat.add_sub_cancel_left]
        · rw [sI_place e]
          by_cases e2 : j = 145 + k
          · rw [e2, sI_same, if_pos (by omega), Nat.add_sub_cancel_left]
          · rw [sI_place e2, hW j hj]
            by_cases c1 : 145 ≤ j ∧ j < 145 + k
            · rw [if_pos c1, if_pos (by omega)]
            · rw [if_neg c1, if_neg (show ¬ (145 ≤ j ∧ j < 145 + (k + 1)) by omega)]
              by_cases c2 : 151 ≤ j ∧ j < 151 + k
              · rw [if_pos c2, if_pos (by omega)]
              · rw [if_neg c2, if_neg (by omega)])
      refine ⟨U, ?_, u2, Fr.trans FW u3⟩
      rw [f_X12_startAnew_L26, if_neg (by rw [show (6 : Int32) = oo 6 from rfl, oo_le (by decide) (by omega)]; omega), show rf 188 14 = 190 from rfl, show (72 : Int32) = oo 72 from rfl, show (145 : Int32) = oo 145 from rfl, show (151 : Int32) = oo 151 from rfl, oo_add, oo_add, oo_add, if_neg (by rw [ln_190]; exact oo_inb (by omega) (by omega)), if_neg (by rw [ln_190]; exact oo_inb (by omega) (by omega)), if_neg (by rw [ln_190]; exact oo_inb (by omega) (by omega)), oo_nat (by omega), oo_nat (by omega), oo_nat (by omega), e72, show (1 : Int32) = oo 1 from rfl, oo_add, u1]
  obtain ⟨U, u1, u2, u3⟩ := key 6 0 1000000 B rfl (by decide) (fun j hj => by rw [if_neg (by omega), if_neg (by omega)])
  refine ⟨U, ?_, fun j hj => ?_, Fr.trans F1 u3⟩
  · unfold f_X12_startAnew
    rw [show (144 : Int32) = oo 144 from rfl, l1, Option.bind_some, show (0 : Int32) = oo 0 from rfl, u1, Option.bind_some]
  · rw [u2 j hj]
    unfold newN
    by_cases c1 : 145 ≤ j ∧ j < 151
    · rw [if_pos c1, if_pos c1]
    · rw [if_neg c1, if_neg c1]
      by_cases c2 : 151 ≤ j ∧ j < 157
      · rw [if_pos c2, if_pos c2]
      · rw [if_neg c2, if_neg c2]
        by_cases c3 : 144 ≤ j ∧ j < 274
        · rw [if_pos c3, hin j c3.1 c3.2]
        · rw [if_neg c3, hout j hj c3]
