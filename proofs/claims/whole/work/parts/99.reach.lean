theorem RS_self {v : Nat → Nat} {k set : Nat} {l : Nat → Nat} : RS v k set l set = true := by
  cases k with
  | zero => rw [RS]; simp
  | succ k => rw [RS]; simp
theorem lpA_in {p : Nat → Bool} {x : Nat} (h : p x = true) : ∀ m c, c ≤ x → x < c + m → lpA p m c = true := by
  intro m
  induction m with
  | zero => intro c h1 h2; omega
  | succ m ih =>
    intro c h1 h2
    rw [lpA_s, Bool.or_eq_true]
    by_cases hx : x = c
    · exact .inl (by rw [← hx]; exact h)
    · exact .inr (ih (c + 1) (by omega) (by omega))
theorem lpF_ex {p : Nat → Option (Nat → Nat)} {q : Nat → Nat} : ∀ m c, lpF p m c = some q → ∃ x, c ≤ x ∧ x < c + m ∧ p x = some q := by
  intro m
  induction m with
  | zero => intro c h; cases h
  | succ m ih =>
    intro c h
    rw [lpF] at h
    cases hp : p c with
    | some r =>
      rw [hp] at h
      exact ⟨c, Nat.le_refl _, by omega, by rw [hp]; exact h⟩
    | none =>
      rw [hp] at h
      obtain ⟨x, h1, h2, h3⟩ := ih (c + 1) h
      exact ⟨x, by omega, by omega, h3⟩
theorem RS_clean {v : Nat → Nat} {c0 : Nat} (hcl : sgF (clothG v c0) 6 = 0) : ∀ k set l x, RS v k set l x = true → ¬ set.testBit c0 = true → ¬ x.testBit c0 = true := by
  intro k
  induction k with
  | zero =>
    intro set l x h ht
    rw [RS, beq_iff_eq] at h
    rw [h]; exact ht
  | succ k ih =>
    intro set l x h ht
    rw [RS, Bool.or_eq_true, beq_iff_eq] at h
    rcases h with h | h
    · rw [h]; exact ht
    · obtain ⟨c, -, -, h3⟩ := lpA_ex _ _ h
      rw [Bool.and_eq_true, Bool.and_eq_true, Bool.not_eq_true', Bool.not_eq_true'] at h3
      refine ih _ _ _ h3.2.2 ?_
      rw [Nat.testBit_or, Nat.testBit_two_pow, Bool.or_eq_true, decide_eq_true_eq]
      rintro (q | q)
      · exact ht q
      · have hd : dnN v c l = true := by
          unfold dnN
          rw [q]
          exact decide_eq_true (.inl hcl)
        rw [hd] at h3
        cases h3.2.1
theorem RS_one {v : Nat → Nat} {c : Nat} (hc : c < v 193) (hcl : sgF (clothG v c) 6 ≠ 0) : RSv v (2 ^ c) = true := by
  unfold RSv
  obtain ⟨k, hk⟩ : ∃ k, v 193 = k + 1 := ⟨v 193 - 1, by omega⟩
  have e : RS v (v 193) 0 (fun _ => 0) (2 ^ c) = RS v (k + 1) 0 (fun _ => 0) (2 ^ c) := by rw [hk]
  rw [e, RS, Bool.or_eq_true]
  refine .inr (lpA_in (x := c) ?_ _ _ (Nat.zero_le _) (by omega))
  have hd : dnN v c (fun _ => 0) = false := by
    have := sgF_pos 6 hcl
    unfold dnN
    exact decide_eq_false (fun z => by
      rcases z with z | z
      · exact hcl z
      · have z2 : clothG v c (sgF (clothG v c) 6 - 1) ≤ 0 := z
        omega)
  rw [hd, Nat.zero_testBit, Nat.zero_or, RS_self]
  rfl
theorem RS_all {v : Nat → Nat} (h8 : v 193 ≤ 8) {q : Nat → Nat} : ∀ k d set l o, FO v k d set l o = some q → d + k = v 193 → PI (v 193) o d set → RS v k set l (2 ^ v 193 - 1) = true := by
  intro k
  induction k with
  | zero =>
    intro d set l o _ hd hP
    obtain rfl : d = v 193 := by omega
    rw [RS, beq_iff_eq]
    apply Nat.eq_of_testBit_eq
    intro i
    rw [Nat.testBit_two_pow_sub_one]
    by_cases hi : i < v 193
    · rw [decide_eq_true hi, PI_full hP h8 hi]
    · rw [decide_eq_false hi]
      symm
      by_cases hi8 : i < 8
      · cases hz : set.testBit i with
        | false => rfl
        | true =>
          obtain ⟨j, hj, hj2⟩ := (hP.2.2.2.1 i hi8).mp hz
          have := hP.2.1 j hj
          omega
      · exact Nat.testBit_lt_two_pow (Nat.lt_of_lt_of_le (show set < 2 ^ 8 from hP.2.2.2.2) (Nat.pow_le_pow_right (n := 2) (i := 8) (by decide) (by omega)))
  | succ k ih =>
    intro d set l o h hd hP
    rw [FO] at h
    obtain ⟨c, -, h2, h3⟩ := lpF_ex _ _ h
    by_cases a : set.testBit c = true
    · rw [if_pos a] at h3; cases h3
    · rw [if_neg a] at h3
      by_cases b : dnN v c l = true
      · rw [if_pos b] at h3; cases h3
      · rw [if_neg b] at h3
        have hr := ih _ _ _ _ h3 (by omega) (PI_step hP h8 (by omega) a)
        rw [RS, Bool.or_eq_true]
        refine .inr (lpA_in (x := c) ?_ _ _ (Nat.zero_le _) h2)
        try dsimp only
        rw [hr]
        revert a b
        cases set.testBit c <;> cases dnN v c l <;> simp
