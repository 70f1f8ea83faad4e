/-! small sums: closed forms of the class's rows of six -/
def totV (a : Nat) (r : Int32) (S : XS) : Int32 := 0 + gat S a (r * 6 + 0) + gat S a (r * 6 + (0 + 1)) + gat S a (r * 6 + (0 + 1 + 1)) + gat S a (r * 6 + (0 + 1 + 1 + 1)) + gat S a (r * 6 + (0 + 1 + 1 + 1 + 1)) + gat S a (r * 6 + (0 + 1 + 1 + 1 + 1 + 1))
theorem total_L (a : Nat) (r : Int32) (S : XS) (n : Nat) : f_X11_total_L4 a r (n + 1 + 1 + 1 + 1 + 1 + 1 + 1) 0 0 S = some (totV a r S) := by
  simp only [f_X11_total_L4]
  rw [if_neg (by decide), if_neg (by decide), if_neg (by decide), if_neg (by decide), if_neg (by decide), if_neg (by decide), if_pos (by decide)]
  rfl
theorem total_spec (a : Nat) (r : Int32) (S : XS) : f_X11_total a r S = some (totV a r S, S) := by
  unfold f_X11_total
  rw [show (1000000 : Nat) = 999993 + 1 + 1 + 1 + 1 + 1 + 1 + 1 from rfl, total_L]
  rfl
/-- one step of the search for the strongest: the best place, how much, behind the place i -/
def strS (S : XS) (a : Nat) (r : Int32) (q : Int32 × Int32) (i : Int32) : Int32 × Int32 := if gat S a (r * 6 + i) ≤ q.2 then q else (i, gat S a (r * 6 + i))
def strV (a : Nat) (r : Int32) (S : XS) : Int32 := (strS S a r (strS S a r (strS S a r (strS S a r (strS S a r (strS S a r (-1, 0) 0) (0 + 1)) (0 + 1 + 1)) (0 + 1 + 1 + 1)) (0 + 1 + 1 + 1 + 1)) (0 + 1 + 1 + 1 + 1 + 1)).1
theorem str_L (a : Nat) (r : Int32) (S : XS) (n : Nat) (q : Int32 × Int32) (i : Int32) (hi : ¬ (6 : Int32) ≤ i) : f_X11_strongest_L7 a r (n + 1) q.1 q.2 i S = f_X11_strongest_L7 a r n (strS S a r q i).1 (strS S a r q i).2 (i + 1) S := by
  rw [f_X11_strongest_L7, if_neg hi]
  unfold strS
  by_cases h : gat S a (r * 6 + i) ≤ q.2
  · rw [if_pos h, if_pos h]
  · rw [if_neg h, if_neg h]
theorem str_spec (a : Nat) (r : Int32) (S : XS) : f_X11_strongest a r S = some (strV a r S, S) := by
  unfold f_X11_strongest
  rw [show (1000000 : Nat) = 999993 + 1 + 1 + 1 + 1 + 1 + 1 + 1 from rfl]
  rw [show f_X11_strongest_L7 a r (999993 + 1 + 1 + 1 + 1 + 1 + 1 + 1) (-1) 0 0 S = f_X11_strongest_L7 a r (999993 + 1 + 1 + 1 + 1 + 1 + 1 + 1) ((-1 : Int32), (0 : Int32)).1 ((-1 : Int32), (0 : Int32)).2 0 S from rfl]
  rw [str_L _ _ _ _ _ _ (by decide), str_L _ _ _ _ _ _ (by decide), str_L _ _ _ _ _ _ (by decide), str_L _ _ _ _ _ _ (by decide), str_L _ _ _ _ _ _ (by decide), str_L _ _ _ _ _ _ (by decide), f_X11_strongest_L7, if_pos (by decide)]
  rfl
