/-! a SENTENCE read: steps with the one, nodes with the other -/
def FSC : List (Nat × Nat) := [(1, 9), (1, 10), (1, 11), (40, 2), (41, 3), (42, 9999), (43, 9999), (44, 9999)]
def FSX : List (Nat × Nat) := [(1, 9), (1, 10), (1, 11), (40, 2), (41, 3), (42, 9999), (43, 9999), (44, 9999), (1, 2), (1, 3)]
def FSN : List (Nat × Nat) := [(188, 5), (188, 6), (188, 7), (188, 8), (188, 9), (188, 12), (188, 13), (188, 56), (188, 57), (188, 58), (188, 59), (216, 9999)]
def FSY : List (Nat × Nat) := [(188, 5), (188, 6), (188, 7), (188, 8), (188, 9), (188, 12), (188, 13), (188, 56), (188, 57), (188, 58), (188, 59), (216, 9999), (188, 10), (188, 11)]
def stD (S : XS) (st : List (Nat × Nat × Nat)) : Prop := ∀ j, j < st.length → S.1 42 j = oo (st.getD j (0, 0, 0)).1 ∧ S.1 43 j = oo (st.getD j (0, 0, 0)).2.1 ∧ S.1 44 j = oo (st.getD j (0, 0, 0)).2.2
def SR (x : TX) (L i o wi : Nat) (st : List (Nat × Nat × Nat)) (nv : Nat → Nat) (S T : XS) : Prop := AtC x L i S ∧ AtN x i T ∧ S.1 40 2 = oo o ∧ T.1 188 57 = oo o ∧ o ≤ 20 ∧ T.1 188 58 = oo wi ∧ S.1 41 3 = oo st.length ∧ T.1 188 56 = oo st.length ∧ stD S st ∧ (∀ j, j < 4 * st.length → T.1 216 j = oo (nv (276 + j)))
def TR (nv : Nat → Nat) (k : Nat) (l : List (Nat × Nat × Nat)) : Prop := ∀ w : Nat → Nat, (∀ j, 276 ≤ j → j < 276 + 4 * (k + 1) → w j = nv j) → ∀ f, k < f → wfN w f k ∧ postN w f k = l
theorem TR.ag {nv nw : Nat → Nat} {k : Nat} {l : List (Nat × Nat × Nat)} (h : TR nv k l) (e : ∀ j, j < 276 + 4 * (k + 1) → nw j = nv j) : TR nw k l := fun w hw f hf => h w (fun j h0 hj => (hw j h0 hj).trans (e j hj)) f hf
def ndN (nv : Nat → Nat) (k w a b r j : Nat) : Nat := if j = 276 + 4 * k then w else if j = 276 + 4 * k + 1 then a else if j = 276 + 4 * k + 2 then b else if j = 276 + 4 * k + 3 then r else nv j
theorem ndN_lo {nv : Nat → Nat} {k w a b r j : Nat} (h : j < 276 + 4 * k) : ndN nv k w a b r j = nv j := by
  unfold ndN
  rw [if_neg (by omega), if_neg (by omega), if_neg (by omega), if_neg (by omega)]
theorem ndN_0 {nv : Nat → Nat} {k w a b r : Nat} : ndN nv k w a b r (276 + 4 * k) = w := by
  unfold ndN
  rw [if_pos rfl]
theorem ndN_1 {nv : Nat → Nat} {k w a b r : Nat} : ndN nv k w a b r (276 + 4 * k + 1) = a := by
  unfold ndN
  rw [if_neg (by omega), if_pos rfl]
theorem ndN_2 {nv : Nat → Nat} {k w a b r : Nat} : ndN nv k w a b r (276 + 4 * k + 2) = b := by
  unfold ndN
  rw [if_neg (by omega), if_neg (by omega), if_pos rfl]
theorem ndN_3 {nv : Nat → Nat} {k w a b r : Nat} : ndN nv k w a b r (276 + 4 * k + 3) = r := by
  unfold ndN
  rw [if_neg (by omega), if_neg (by omega), if_neg (by omega), if_pos rfl]
theorem gq_e {l : List (Nat × Nat × Nat)} {b : Nat × Nat × Nat} : (l ++ [b]).getD l.length (0, 0, 0) = b := by
  have := gq_r (l := l) (m := [b]) (j := 0)
  rw [Nat.add_zero] at this
  exact this
/-- a node of two -/
theorem TR.two {nv : Nat → Nat} {k a b w s r : Nat} {la lb : List (Nat × Nat × Nat)} (ha : TR nv a la) (hb : TR nv b lb) (hka : a < k) (hkb : b < k) (hk : k < 60) (hw : w = 2 ∧ s = 138 ∨ w = 3 ∧ s = 137) : TR (ndN nv k w a b r) k (la ++ (lb ++ [(s, 0, 0)])) := by
  intro u hu f hf
  obtain ⟨f, rfl⟩ : ∃ f', f = f' + 1 := ⟨f - 1, by omega⟩
  have u0 : u (276 + 4 * k) = w := by rw [hu _ (by omega) (by omega), ndN_0]
  have u1 : u (276 + 4 * k + 1) = a := by rw [hu _ (by omega) (by omega), ndN_1]
  have u2 : u (276 + 4 * k + 2) = b := by rw [hu _ (by omega) (by omega), ndN_2]
  obtain ⟨a1, a2⟩ := ha u (fun j h0 hj => by rw [hu j h0 (by omega), ndN_lo (by omega)]) f (by omega)
  obtain ⟨b1, b2⟩ := hb u (fun j h0 hj => by rw [hu j h0 (by omega), ndN_lo (by omega)]) f (by omega)
  rw [wfN, postN, u0, u1, u2]
  rcases hw with ⟨rfl, rfl⟩ | ⟨rfl, rfl⟩
  · rw [if_neg (by decide), if_pos rfl, if_neg (by decide), if_pos rfl, a2, b2]
    exact ⟨⟨hk, a1, b1⟩, rfl⟩
  · rw [if_neg (by decide), if_neg (by decide), if_pos rfl, if_neg (by decide), if_neg (by decide), if_pos rfl, a2, b2]
    exact ⟨⟨hk, a1, b1⟩, rfl⟩
theorem TR.one {nv : Nat → Nat} {k a b r : Nat} {la : List (Nat × Nat × Nat)} (ha : TR nv a la) (hka : a < k) (hk : k < 60) : TR (ndN nv k 1 a b r) k (la ++ [(139, 0, 0)]) := by
  intro u hu f hf
  obtain ⟨f, rfl⟩ : ∃ f', f = f' + 1 := ⟨f - 1, by omega⟩
  have u0 : u (276 + 4 * k) = 1 := by rw [hu _ (by omega) (by omega), ndN_0]
  have u1 : u (276 + 4 * k + 1) = a := by rw [hu _ (by omega) (by omega), ndN_1]
  obtain ⟨a1, a2⟩ := ha u (fun j h0 hj => by rw [hu j h0 (by omega), ndN_lo (by omega)]) f (by omega)
  rw [wfN, postN, u0, u1, if_pos rfl, if_pos rfl, a2]
  exact ⟨⟨hk, a1⟩, rfl⟩
theorem TR.leaf {nv : Nat → Nat} {k w a b r : Nat} {q : Nat × Nat × Nat} (hk : k < 60) (h : w = 60 ∧ q = (140, 0, 0) ∨ w = 61 ∧ q = (141, 0, 0) ∨ w = 62 ∧ a < 6 ∧ q = (134, 0, a) ∨ w = 63 ∧ a < 6 ∧ q = (135, 0, a) ∨ (64 ≤ w ∧ w ≤ 66 ∧ b ≤ 999 ∧ 60 ≤ r ∧ r ≤ 62) ∧ q = (w + 78, r, b)) : TR (ndN nv k w a b r) k [q] := by
  intro u hu f hf
  obtain ⟨f, rfl⟩ : ∃ f', f = f' + 1 := ⟨f - 1, by omega⟩
  have u0 : u (276 + 4 * k) = w := by rw [hu _ (by omega) (by omega), ndN_0]
  have u1 : u (276 + 4 * k + 1) = a := by rw [hu _ (by omega) (by omega), ndN_1]
  have u2 : u (276 + 4 * k + 2) = b := by rw [hu _ (by omega) (by omega), ndN_2]
  have u3 : u (276 + 4 * k + 3) = r := by rw [hu _ (by omega) (by omega), ndN_3]
  rw [wfN, postN, u0, u1, u2, u3]
  rcases h with ⟨rfl, rfl⟩ | ⟨rfl, rfl⟩ | ⟨rfl, h1, rfl⟩ | ⟨rfl, h1, rfl⟩ | ⟨⟨h1, h2, h3, h4, h5⟩, rfl⟩
  · exact ⟨⟨hk, trivial⟩, rfl⟩
  · exact ⟨⟨hk, trivial⟩, rfl⟩
  · exact ⟨⟨hk, h1⟩, rfl⟩
  · exact ⟨⟨hk, h1⟩, rfl⟩
  · rw [if_neg (by omega), if_neg (by omega), if_neg (by omega), if_neg (by omega), if_neg (by omega), if_neg (by omega), if_neg (by omega), if_neg (by omega), if_neg (by omega), if_neg (by omega), if_neg (by omega), if_neg (by omega), if_neg (by omega), if_neg (by omega)]
    exact ⟨⟨hk, h1, h2, h3, h4, h5⟩, rfl⟩
section SNT
variable {x : TX} {L i o wi : Nat} {st : List (Nat × Nat × Nat)} {nv : Nat → Nat} {S T : XS}
theorem SR.fr {l m : List (Nat × Nat)} {U V : XS} (h : SR x L i o wi st nv S T) (h1 : Fr l S U) (h2 : Fr m T V) (hl : ntc l [(1, 9), (1, 10), (40, 2), (41, 3)] [4, 5, 6, 42, 43, 44] = true) (hm : ntc m [(188, 3), (188, 4), (188, 5), (188, 6), (188, 7), (188, 8), (188, 9), (188, 12), (188, 56), (188, 57), (188, 58)] [189, 216] = true) : SR x L i o wi st nv U V := by
  unfold SR AtC xR AtN tkN stD at h ⊢
  rw [h1.get (ntc_c hl (c := 1) (j := 9) rfl), h1.get (ntc_c hl (c := 1) (j := 10) rfl), h1.get (ntc_c hl (c := 40) (j := 2) rfl), h1.get (ntc_c hl (c := 41) (j := 3) rfl), h1.row (ntc_r hl (c := 4) rfl), h1.row (ntc_r hl (c := 5) rfl), h1.row2 (ntc_r hl (c := 6) rfl), h1.row (ntc_r hl (c := 42) rfl), h1.row (ntc_r hl (c := 43) rfl), h1.row (ntc_r hl (c := 44) rfl), h2.get (ntc_c hm (c := 188) (j := 3) rfl), h2.get (ntc_c hm (c := 188) (j := 4) rfl), h2.get (ntc_c hm (c := 188) (j := 5) rfl), h2.get (ntc_c hm (c := 188) (j := 6) rfl), h2.get (ntc_c hm (c := 188) (j := 7) rfl), h2.get (ntc_c hm (c := 188) (j := 8) rfl), h2.get (ntc_c hm (c := 188) (j := 9) rfl), (h2 188 12 (ntc_c hm (c := 188) (j := 12) rfl)).2, h2.get (ntc_c hm (c := 188) (j := 56) rfl), h2.get (ntc_c hm (c := 188) (j := 57) rfl), h2.get (ntc_c hm (c := 188) (j := 58) rfl), h2.row (ntc_r hm (c := 189) rfl), h2.row (ntc_r hm (c := 216) rfl)]
  exact h
/-- one step and one node more -/
theorem add_p (h : SR x L i o wi st nv S T) (hl : st.length < 40) (p s n w a b r : Nat) : ∃ V, f_X12_saysOne 188 (oo w) (oo a) (oo b) (oo r) T = some (oo st.length, V) ∧ SR x L i o wi (st ++ [(p, s, n)]) (ndN nv st.length w a b r) (t_X6_add 41 (oo p) (oo s) (oo n) S) V ∧ Fr [(41, 3), (42, 9999), (43, 9999), (44, 9999)] S (t_X6_add 41 (oo p) (oo s) (oo n) S) ∧ Fr [(188, 56), (216, 9999)] T V := by
  obtain ⟨h1, h2, h3, h4, h5, h6, h7, h8, h9, h10⟩ := h
  have eS : t_X6_add 41 (oo p) (oo s) (oo n) S = sI (sI (sI (sI S 42 st.length (oo p)) 43 st.length (oo s)) 44 st.length (oo n)) 41 3 (oo (st.length + 1)) := by
    have c1 : pat S (rf 41 0) (S.1 41 3) (oo p) = sI S 42 st.length (oo p) := by rw [h7, show rf 41 0 = 42 from rfl, p_42 (by omega)]
    have c2 : (sI S 42 st.length (oo p)).1 41 3 = oo st.length := by rw [sI_cell (by decide)]; exact h7
    have c3 : pat (sI S 42 st.length (oo p)) (rf 41 1) (oo st.length) (oo s) = sI (sI S 42 st.length (oo p)) 43 st.length (oo s) := by rw [show rf 41 1 = 43 from rfl, p_43 (by omega)]
    have c4 : (sI (sI S 42 st.length (oo p)) 43 st.length (oo s)).1 41 3 = oo st.length := by rw [sI_cell (by decide)]; exact c2
    have c5 : pat (sI (sI S 42 st.length (oo p)) 43 st.length (oo s)) (rf 41 2) (oo st.length) (oo n) = sI (sI (sI S 42 st.length (oo p)) 43 st.length (oo s)) 44 st.length (oo n) := by rw [show rf 41 2 = 44 from rfl, p_44 (by omega)]
    have c6 : (sI (sI (sI S 42 st.length (oo p)) 43 st.length (oo s)) 44 st.length (oo n)).1 41 3 = oo st.length := by rw [sI_cell (by decide)]; exact c4
    have c7 : (if oo st.length + (1 : Int32) < (40 : Int32) then oo st.length + (1 : Int32) else (40 : Int32)) = oo (st.length + 1) := by
      rw [show (1 : Int32) = oo 1 from rfl, oo_add, show (40 : Int32) = oo 40 from rfl, ilt (by omega) (by decide)]
      by_cases q : st.length + 1 < 40
      · rw [if_pos q]
      · rw [if_neg q, show st.length + 1 = 40 by omega]
    unfold t_X6_add
    rw [c1, c2, c3, c4, c5, c6, c7]
  have eT : f_X12_saysOne 188 (oo w) (oo a) (oo b) (oo r) T = some (oo st.length, sI (sI (sI (sI (sI T 216 (4 * st.length) (oo w)) 216 (4 * st.length + 1) (oo a)) 216 (4 * st.length + 2) (oo b)) 216 (4 * st.length + 3) (oo r)) 188 56 (oo (st.length + 1))) := by
    unfold f_X12_saysOne
    rw [h8, show (4 : Int32) = oo 4 from rfl, show (1 : Int32) = oo 1 from rfl, show (2 : Int32) = oo 2 from rfl, show (3 : Int32) = oo 3 from rfl, oo_mul, oo_add, oo_add, oo_add, show rf 188 55 = 216 from rfl, if_neg (by rw [ln_216]; exact oo_inb (by omega) (by omega)), if_neg (by rw [ln_216]; exact oo_inb (by omega) (by omega)), if_neg (by rw [ln_216]; exact oo_inb (by omega) (by omega)), if_neg (by rw [ln_216]; exact oo_inb (by omega) (by omega)), oo_nat (by omega), oo_nat (by omega), oo_nat (by omega), oo_nat (by omega), sI_same, sI_cell (by decide), sI_cell (by decide), sI_cell (by decide), sI_cell (by decide), h8, oo_add, oo_sub (by omega), Nat.add_sub_cancel]
  have F1 : Fr [(41, 3), (42, 9999), (43, 9999), (44, 9999)] S (t_X6_add 41 (oo p) (oo s) (oo n) S) := by
    rw [eS]
    exact Fr.sIp (Fr.sIr (Fr.sIr (Fr.sIr (Fr.rf _ _) rfl) rfl) rfl) rfl
  have F2 : Fr [(188, 56), (216, 9999)] T (sI (sI (sI (sI (sI T 216 (4 * st.length) (oo w)) 216 (4 * st.length + 1) (oo a)) 216 (4 * st.length + 2) (oo b)) 216 (4 * st.length + 3) (oo r)) 188 56 (oo (st.length + 1))) := Fr.sIp (Fr.sIr (Fr.sIr (Fr.sIr (Fr.sIr (Fr.rf _ _) rfl) rfl) rfl) rfl) rfl
  refine ⟨_, eT, ⟨h1.fr F1 rfl, h2.fr F2 rfl, by rw [F1.get rfl]; exact h3, by rw [F2.get rfl]; exact h4, h5, by rw [F2.get rfl]; exact h6, ?_, ?_, fun j hj => ?_, fun j hj => ?_⟩, F1, F2⟩
  · rw [eS, sI_same, List.length_append]
    rfl
  · rw [sI_same, List.length_append]
    rfl
  · rw [List.length_append, List.length_singleton] at hj
    have r42 : (t_X6_add 41 (oo p) (oo s) (oo n) S).1 42 j = if j = st.length then oo p else S.1 42 j := by
      rw [eS, sI_cell (by decide), sI_cell (by decide), sI_cell (by decide)]
      by_cases e : j = st.length
      · rw [if_pos e, e, sI_same]
      · rw [if_neg e, sI_place e]
    have r43 : (t_X6_add 41 (oo p) (oo s) (oo n) S).1 43 j = if j = st.length then oo s else S.1 43 j := by
      rw [eS, sI_cell (by decide), sI_cell (by decide)]
      by_cases e : j = st.length
      · rw [if_pos e, e, sI_same]
      · rw [if_neg e, sI_place e, sI_cell (by decide)]
    have r44 : (t_X6_add 41 (oo p) (oo s) (oo n) S).1 44 j = if j = st.length then oo n else S.1 44 j := by
      rw [eS, sI_cell (by decide)]
      by_cases e : j = st.length
      · rw [if_pos e, e, sI_same]
      · rw [if_neg e, sI_place e, sI_cell (by decide), sI_cell (by decide)]
    rw [r42, r43, r44]
    by_cases e : j = st.length
    · rw [if_pos e, if_pos e, if_pos e, e, gq_e]
      exact ⟨rfl, rfl, rfl⟩
    · rw [if_neg e, if_neg e, if_neg e, gq_l (by omega)]
      exact h9 j (by omega)
  · rw [List.length_append, List.length_singleton] at hj
    rw [sI_cell (by decide)]
    unfold ndN
    by_cases e3 : j = 4 * st.length + 3
    · rw [e3, sI_same, if_neg (by omega), if_neg (by omega), if_neg (by omega), if_pos (by omega)]
    · rw [sI_place e3]
      by_cases e2 : j = 4 * st.length + 2
      · rw [e2, sI_same, if_neg (by omega), if_neg (by omega), if_pos (by omega)]
      · rw [sI_place e2]
        by_cases e1 : j = 4 * st.length + 1
        · rw [e1, sI_same, if_neg (by omega), if_pos (by omega)]
        · rw [sI_place e1]
          by_cases e0 : j = 4 * st.length
          · rw [e0, sI_same, if_pos (by omega)]
          · rw [sI_place e0, if_neg (by omega), if_neg (by omega), if_neg (by omega), if_neg (by omega)]
            exact h10 j (by omega)
end SNT
