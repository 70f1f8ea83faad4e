theorem rv_spec {M : Nat → Bool} {F : Nat → Nat} {s : Nat} : ∀ (l : List Nat) (b : Nat), (∀ p, p ∈ l → M p = true → F (s &&& (255 ^^^ p)) ≠ 0 → l.foldl (rvS M F s) b ≠ 0 ∧ l.foldl (rvS M F s) b ≤ F (s &&& (255 ^^^ p)) + 1) ∧ (b ≠ 0 → l.foldl (rvS M F s) b ≠ 0 ∧ l.foldl (rvS M F s) b ≤ b) ∧ (l.foldl (rvS M F s) b = b ∨ ∃ p, p ∈ l ∧ M p = true ∧ F (s &&& (255 ^^^ p)) ≠ 0 ∧ l.foldl (rvS M F s) b = F (s &&& (255 ^^^ p)) + 1) := by
  intro l
  induction l with
  | nil => intro b; exact ⟨fun p hp => absurd hp (by simp), fun h => ⟨h, Nat.le_refl _⟩, .inl rfl⟩
  | cons a l ih =>
    intro b
    rw [List.foldl_cons]
    have hst : (M a = true → F (s &&& (255 ^^^ a)) ≠ 0 → rvS M F s b a ≠ 0 ∧ rvS M F s b a ≤ F (s &&& (255 ^^^ a)) + 1) ∧ (b ≠ 0 → rvS M F s b a ≠ 0 ∧ rvS M F s b a ≤ b) ∧ (rvS M F s b a = b ∨ (M a = true ∧ F (s &&& (255 ^^^ a)) ≠ 0 ∧ rvS M F s b a = F (s &&& (255 ^^^ a)) + 1)) := by
      unfold rvS
      by_cases h1 : M a = true
      · rw [if_pos h1]
        by_cases h2 : F (s &&& (255 ^^^ a)) = 0
        · rw [if_pos h2]
          exact ⟨fun _ q => absurd h2 q, fun h => ⟨h, Nat.le_refl _⟩, .inl rfl⟩
        · rw [if_neg h2]
          by_cases h3 : b = 0
          · rw [if_pos h3]
            exact ⟨fun _ _ => ⟨by omega, by omega⟩, fun h => absurd h3 h, .inr ⟨h1, h2, rfl⟩⟩
          · rw [if_neg h3]
            by_cases h4 : b ≤ F (s &&& (255 ^^^ a)) + 1
            · rw [if_pos h4]
              exact ⟨fun _ _ => ⟨h3, h4⟩, fun h => ⟨h, Nat.le_refl _⟩, .inl rfl⟩
            · rw [if_neg h4]
              exact ⟨fun _ _ => ⟨by omega, by omega⟩, fun h => ⟨by omega, by omega⟩, .inr ⟨h1, h2, rfl⟩⟩
      · rw [if_neg h1]
        exact ⟨fun q => absurd q h1, fun h => ⟨h, Nat.le_refl _⟩, .inl rfl⟩
    obtain ⟨g1, g2, g3⟩ := hst
    obtain ⟨i1, i2, i3⟩ := ih (rvS M F s b a)
    refine ⟨fun p hp hM hF => ?_, fun h => ?_, ?_⟩
    · rcases List.mem_cons.mp hp with q | q
      · subst q
        obtain ⟨q1, q2⟩ := g1 hM hF
        obtain ⟨q3, q4⟩ := i2 q1
        exact ⟨q3, by omega⟩
      · exact i1 p q hM hF
    · obtain ⟨q1, q2⟩ := g2 h
      obtain ⟨q3, q4⟩ := i2 q1
      exact ⟨q3, by omega⟩
    · rcases i3 with q | ⟨p, q1, q2, q3, q4⟩
      · rcases g3 with r | ⟨r1, r2, r3⟩
        · exact .inl (by rw [q, r])
        · exact .inr ⟨a, List.mem_cons_self .., r1, r2, by rw [q, r3]⟩
      · exact .inr ⟨p, List.mem_cons_of_mem _ q1, q2, q3, q4⟩
theorem cv_spec {M : Nat → Bool} {G : Nat → Nat} {s : Nat} : ∀ (l : List Nat) (b : Nat), (∀ p, p ∈ l → M p = true → l.foldl (cvS M G s) b ≤ G (s ^^^ p) + 1) ∧ l.foldl (cvS M G s) b ≤ b ∧ (l.foldl (cvS M G s) b = b ∨ ∃ p, p ∈ l ∧ M p = true ∧ l.foldl (cvS M G s) b = G (s ^^^ p) + 1) := by
  intro l
  induction l with
  | nil => intro b; exact ⟨fun p hp => absurd hp (by simp), Nat.le_refl _, .inl rfl⟩
  | cons a l ih =>
    intro b
    rw [List.foldl_cons]
    have hst : (M a = true → cvS M G s b a ≤ G (s ^^^ a) + 1) ∧ cvS M G s b a ≤ b ∧ (cvS M G s b a = b ∨ (M a = true ∧ cvS M G s b a = G (s ^^^ a) + 1)) := by
      unfold cvS
      by_cases h1 : M a = true
      · rw [if_pos h1]
        by_cases h4 : G (s ^^^ a) + 1 < b
        · rw [if_pos h4]
          exact ⟨fun _ => Nat.le_refl _, by omega, .inr ⟨h1, rfl⟩⟩
        · rw [if_neg h4]
          exact ⟨fun _ => by omega, Nat.le_refl _, .inl rfl⟩
      · rw [if_neg h1]
        exact ⟨fun q => absurd q h1, Nat.le_refl _, .inl rfl⟩
    obtain ⟨g1, g2, g3⟩ := hst
    obtain ⟨i1, i2, i3⟩ := ih (cvS M G s b a)
    refine ⟨fun p hp hM => ?_, by omega, ?_⟩
    · rcases List.mem_cons.mp hp with q | q
      · subst q
        have := g1 hM
        omega
      · exact i1 p q hM
    · rcases i3 with q | ⟨p, q1, q2, q4⟩
      · rcases g3 with r | ⟨r1, r3⟩
        · exact .inl (by rw [q, r])
        · exact .inr ⟨a, List.mem_cons_self .., r1, by rw [q, r3]⟩
      · exact .inr ⟨p, List.mem_cons_of_mem _ q1, q2, q4⟩
theorem dl_of_al {s p : Nat} (hs : s < 256) : p ∈ dl 256 s s ↔ p ∈ al s := by
  rw [← dl_al s hs, List.mem_reverse]
theorem bits_le (s : Nat) : bitsN s ≤ 8 := by unfold bitsN; omega
/-- no CLOTH clean: both tables tell the same -/
theorem tables_eq {M : Nat → Bool} {F G : Nat → Nat} {A : Nat} (hA : A < 256) (hM : ∀ c s, c < 8 → s ≤ A → s.testBit c = true → M (2 ^ c) = true) (hF0 : F 0 = 1) (hG0 : G 0 = 0) (hF : ∀ x, 1 ≤ x → x ≤ A → F x = rvN M F x) (hG : ∀ x, 1 ≤ x → x ≤ A → G x = cvN M G x) : ∀ n x, x ≤ n → x ≤ A → F x = G x + 1 ∧ G x ≤ bitsN x := by
  intro n
  induction n with
  | zero =>
    intro x hx _
    obtain rfl : x = 0 := by omega
    rw [hF0, hG0]
    exact ⟨rfl, Nat.zero_le _⟩
  | succ n ih =>
    intro x hx hxA
    by_cases h0 : x = 0
    · subst h0
      rw [hF0, hG0]
      exact ⟨rfl, Nat.zero_le _⟩
    · have hx256 : x < 256 := by omega
      obtain ⟨c, hc, ht⟩ := al_bit (by omega) hx256
      obtain ⟨a1, a2⟩ := al_one x hx256 c hc ht
      have hmem : 2 ^ c ∈ al x := List.contains_iff_mem.mp a1
      have hMc := hM c x hc hxA ht
      have e1 := hF x (by omega) hxA
      have e2 := hG x (by omega) hxA
      have hr : ∀ p, p ∈ al x → F (x &&& (255 ^^^ p)) = G (x ^^^ p) + 1 ∧ G (x ^^^ p) ≤ bitsN (x ^^^ p) := fun p hp => by
        obtain ⟨d1, d2, -⟩ := dl_mem hx256 ((dl_of_al hx256).mpr hp)
        rw [d1]
        exact ih _ (by omega) (by omega)
      obtain ⟨r1, -, r3⟩ := rv_spec (M := M) (F := F) (s := x) (dl 256 x x) 0
      obtain ⟨c1, c2, c3⟩ := cv_spec (M := M) (G := G) (s := x) (al x) 8
      change (∀ p, p ∈ dl 256 x x → M p = true → F (x &&& (255 ^^^ p)) ≠ 0 → rvN M F x ≠ 0 ∧ rvN M F x ≤ F (x &&& (255 ^^^ p)) + 1) at r1
      change rvN M F x = 0 ∨ ∃ p, p ∈ dl 256 x x ∧ M p = true ∧ F (x &&& (255 ^^^ p)) ≠ 0 ∧ rvN M F x = F (x &&& (255 ^^^ p)) + 1 at r3
      change (∀ p, p ∈ al x → M p = true → cvN M G x ≤ G (x ^^^ p) + 1) at c1
      change cvN M G x ≤ 8 at c2
      change cvN M G x = 8 ∨ ∃ p, p ∈ al x ∧ M p = true ∧ cvN M G x = G (x ^^^ p) + 1 at c3
      rw [← e1] at r1 r3
      rw [← e2] at c1 c2 c3
      obtain ⟨h1, h2⟩ := hr _ hmem
      obtain ⟨h3, h4⟩ := r1 _ ((dl_of_al hx256).mpr hmem) hMc (by omega)
      have hb := bits_le x
      have hlo : F x ≤ G x + 1 := by
        rcases c3 with q | ⟨p, q1, q2, q3⟩
        · omega
        · obtain ⟨k1, k2⟩ := hr p q1
          obtain ⟨k3, k4⟩ := r1 p ((dl_of_al hx256).mpr q1) q2 (by omega)
          omega
      have hhi : G x + 1 ≤ F x := by
        rcases r3 with q | ⟨p, q1, q2, q3, q4⟩
        · exact absurd q h3
        · obtain ⟨k1, k2⟩ := hr p ((dl_of_al hx256).mp q1)
          have := c1 p ((dl_of_al hx256).mp q1) q2
          omega
      exact ⟨by omega, by omega⟩
/-- a clean CLOTH: no set that holds it is told -/
theorem table_clean {M : Nat → Bool} {F : Nat → Nat} {A c0 : Nat} (hA : A < 256) (hM : ∀ x, M x = true → ¬ x.testBit c0 = true) (hF : ∀ x, 1 ≤ x → x ≤ A → F x = rvN M F x) : ∀ n x, x ≤ n → x ≤ A → x.testBit c0 = true → F x = 0 := by
  intro n
  induction n with
  | zero =>
    intro x hx _ ht
    obtain rfl : x = 0 := by omega
    rw [Nat.zero_testBit] at ht
    cases ht
  | succ n ih =>
    intro x hx hxA ht
    have h0 : x ≠ 0 := fun q => by
      subst q
      rw [Nat.zero_testBit] at ht
      cases ht
    obtain ⟨-, -, r3⟩ := rv_spec (M := M) (F := F) (s := x) (dl 256 x x) 0
    rw [hF x (by omega) hxA]
    rcases r3 with q | ⟨p, q1, q2, q3, q4⟩
    · exact q
    · obtain ⟨d1, d2, d3, d4⟩ := dl_mem (s := x) (by omega) q1
      refine absurd ?_ q3
      rw [d1]
      refine ih _ (by omega) (by omega) ?_
      rw [Nat.testBit_xor, ht]
      have := hM p q2
      revert this
      cases p.testBit c0 <;> simp
