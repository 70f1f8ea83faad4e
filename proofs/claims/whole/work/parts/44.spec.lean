/-! small sums: closed forms of the class's rows of six -/
def totV (a : Nat) (r : Int32) (S : XS) : Int32 := 0 + gat S a (r * 6 + 0) + gat S a (r * 6 + 1) + gat S a (r * 6 + 2) + gat S a (r * 6 + 3) + gat S a (r * 6 + 4) + gat S a (r * 6 + 5)
theorem total_spec (a : Nat) (r : Int32) (S : XS) : f_X11_total a r S = some (totV a r S, S) := by
  unfold f_X11_total
  rw [show (1000000 : Nat) = 999992 + 1 + 1 + 1 + 1 + 1 + 1 + 1 + 1 from rfl]
  simp only [f_X11_total_L4]
  rw [if_neg (by decide), if_neg (by decide), if_neg (by decide), if_neg (by decide), if_neg (by decide), if_neg (by decide), if_pos (by decide)]
  rfl
