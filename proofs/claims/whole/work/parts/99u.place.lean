/-! the lines of a HILL: places -/
def LnS (x : TX) (L i : Nat) (S T : XS) (c r : Option (Bool × XS)) : Prop := LnR x L i S T c r ∨ ∃ U V j, c = some (false, U) ∧ r = some (true, V) ∧ j ≤ L ∧ AtN x j V ∧ xK x j ≠ 59 ∧ U.1 1 2 = oo 1 ∧ U.1 1 3 = oo (xP x j) ∧ Fr FHC S U ∧ Fr FHO T V
def cgN (g : Nat → Nat) : Nat → Nat
  | 0 => 0
  | n + 1 => cgN g n + (if g n = 0 then 0 else 1)
theorem cgN_le (g : Nat → Nat) : ∀ n, cgN g n ≤ n := by
  intro n
  induction n with
  | zero => exact Nat.le_refl _
  | succ n ih =>
    rw [cgN]
    split <;> omega
theorem cgN_ne {g : Nat → Nat} {s k : Nat} : ∀ n, n ≤ s → cgN (upN g s k) n = cgN g n := by
  intro n
  induction n with
  | zero => intro _; rfl
  | succ n ih =>
    intro h
    rw [cgN, cgN, ih (by omega), upN_ne (by omega)]
theorem cgN_up {g : Nat → Nat} {s k : Nat} (h0 : g s = 0) (hk : k ≠ 0) : ∀ n, s < n → cgN (upN g s k) n = cgN g n + 1 := by
  intro n
  induction n with
  | zero => intro h; exact absurd h (Nat.not_lt_zero _)
  | succ n ih =>
    intro h
    rw [cgN, cgN]
    by_cases e : s = n
    · subst e
      rw [cgN_ne s (Nat.le_refl _), upN_same, if_neg hk, if_pos h0]
    · rw [ih (by omega), upN_ne (by omega)]
      omega
theorem smkN_z {v : Nat → Nat} {p s : Nat} : ∀ m k, (∀ j, k ≤ j → j < k + m → v (48 + 3 * j + 2) ≠ p) → smkN v p s k m = 0 := by
  intro m
  induction m with
  | zero => intro k _; rfl
  | succ m ih =>
    intro k h
    rw [smkN, ih (k + 1) (fun j h1 h2 => h j (by omega) (by omega)), if_neg (fun q => h k (Nat.le_refl _) (by omega) q.2)]
def FPL : List (Nat × Nat) := [(1, 9), (1, 10), (1, 11), (26, 9999), (21, 9999)]
def FPF : List (Nat × Nat) := [(1, 9), (1, 10), (1, 11), (26, 9999), (21, 9999), (1, 2), (1, 3)]
def FPM : List (Nat × Nat) := [(188, 5), (188, 6), (188, 7), (188, 8), (188, 9), (188, 12), (188, 13), (191, 9999)]
def FPG : List (Nat × Nat) := [(188, 5), (188, 6), (188, 7), (188, 8), (188, 9), (188, 12), (188, 13), (191, 9999), (188, 10), (188, 11)]
section PLS
variable {x : TX} {L : Nat} {v : Nat → Nat} {d : Nat → List Nat} {p : Nat}
theorem smell_1 (hx : xok x L) (b0 : v 0 ≤ 6) (hp : p < 6) {j i hb : Nat} {S T : XS} {g : Nat → Nat} (hj : j ≤ 6) (hcg : cgN g 6 = j) (hg : ∀ s, s < 6 → g s ≤ 9 ∧ (v 0 ≤ s → g s = 0)) (hS : AtC x L i S) (hT : AtN x i T) (h26 : ∀ s, s < 6 → S.1 26 (p * 6 + s) = oo (g s) ∧ S.1 21 (p * 6 + s) = oo (g s)) (h191 : ∀ s, s < 6 → T.1 191 (12 + 6 * p + s) = oo (g s)) (t0 : T.1 191 0 = oo (v 0))
    (hdc : ∀ k, k < 6 → (k < v 0 → isLs (d (0 * 6 + k)) ∧ S.2 19 (0 * 6 + k) = pk8 (d (0 * 6 + k))) ∧ (v 0 ≤ k → S.2 19 (0 * 6 + k) = 0)) (hdn : ∀ k, k < v 0 → T.2 196 (0 + k) = pk27 (d (0 + k))) (hb8 : hb < 256) (hbt : ∀ s, s < 6 → hb.testBit s = decide (g s ≠ 0)) :
    (∃ U V, (∀ f, f_X3_readPlace_L27 (oo p) 16 (f + 1) (oo j) S = some (.inl (false, U))) ∧ (∀ f, f_X12_readPlace_L67 (oo p) 188 (f + 1) (oo hb) T = some (.inl (false, V))) ∧ Bad U V ∧ Fr FPF S U ∧ Fr FPG T V) ∨
    (∃ U, (∀ f, f_X3_readPlace_L27 (oo p) 16 (f + 1) (oo j) S = some (.inl (false, U))) ∧ (∀ f, f_X12_readPlace_L67 (oo p) 188 (f + 1) (oo hb) T = some (.inr T)) ∧ xK x i ≠ 59 ∧ U.1 1 2 = oo 1 ∧ U.1 1 3 = oo (xP x i) ∧ Fr FPF S U) ∨
    ((∀ f, f_X3_readPlace_L27 (oo p) 16 (f + 1) (oo j) S = some (.inr S)) ∧ (∀ f, f_X12_readPlace_L67 (oo p) 188 (f + 1) (oo hb) T = some (.inr T))) ∨
    (∃ U V s k hb', s < 6 ∧ s < v 0 ∧ 1 ≤ k ∧ k ≤ 9 ∧ g s = 0 ∧ (∀ f, f_X3_readPlace_L27 (oo p) 16 (f + 1) (oo j) S = f_X3_readPlace_L27 (oo p) 16 f (oo (j + 1)) U) ∧ (∀ f, f_X12_readPlace_L67 (oo p) 188 (f + 1) (oo hb) T = f_X12_readPlace_L67 (oo p) 188 f (oo hb') V) ∧ AtC x L (i + 2) U ∧ AtN x (i + 2) V ∧ (∀ q, U.1 26 q = if q = p * 6 + s then oo k else S.1 26 q) ∧ (∀ q, U.1 21 q = if q = p * 6 + s then oo k else S.1 21 q) ∧ (∀ q, V.1 191 q = if q = 12 + 6 * p + s then oo k else T.1 191 q) ∧ hb' < 256 ∧ (∀ t, t < 6 → hb'.testBit t = decide (upN g s k t ≠ 0)) ∧ Fr FPL S U ∧ Fr FPM T V) := by
  have hi : i ≤ L := hS.1
  have hlt := xK_lt hx hi
  have hkn := (kind_n hx hT hi).2.2.1
  have e10 : S.1 1 10 = oo (xK x i) := hS.2.2.2
  have n6 : ¬ (6 : Int32) < oo j := by rw [show (6 : Int32) = oo 6 from rfl, oo_lt (by decide) (by omega)]; omega
  by_cases h59 : xK x i = 59
  · refine .inr (.inr (.inl ⟨fun f => ?_, fun f => ?_⟩))
    · rw [f_X3_readPlace_L27, if_neg n6, show rf 16 0 = 1 from rfl, e10, h59, if_pos (show oo 59 = (59 : Int32) from rfl)]
    · rw [f_X12_readPlace_L67, if_neg (fun q => by have := hkn.mp q; omega)]
  have n59 : ¬ S.1 1 10 = (59 : Int32) := by rw [e10, show (59 : Int32) = oo 59 from rfl, oo_eq (by omega) (by decide)]; exact h59
  by_cases hw : xK x i = 2 ∨ 128 ≤ xK x i
  · rcases told_p (h := 17) (ch := 19) (cn := 196) (srt := 0) (base := 0) (many := v 0) (d := d) hx hS hT rfl ln_19 ln_196 (by decide) b0 rfl hdc hdn with ⟨U, V, u1, u2, u3, u4, u5⟩ | ⟨s, U, hs, hk1, hL1, hw1, u1, u2, u3, u4, u5, u6⟩
    · refine .inl ⟨U, V, fun f => ?_, fun f => ?_, u3, u4.mono rfl, u5.mono rfl⟩
      · rw [f_X3_readPlace_L27, if_neg n6, show rf 16 0 = 1 from rfl, if_neg n59]
        unfold f_X3_readSmell
        rw [show rf 16 0 = 1 from rfl, show rf 16 1 = 17 from rfl, show (0 : Int32) = oo 0 from rfl, u1, Option.bind_some]
        dsimp only
        rw [if_neg (by decide), Option.bind_some]
        dsimp only
        rw [if_neg (by decide)]
      · rw [f_X12_readPlace_L67, if_pos (hkn.mpr hw), show rf 188 20 = 196 from rfl, show rf 188 15 = 191 from rfl, t0, show (0 : Int32) = oo 0 from rfl, u2, Option.bind_some]
        dsimp only
        rw [if_neg (by decide)]
    have hs6 : s < 6 := by omega
    have eg : gat U 26 (oo (p * 6 + s)) = oo (g s) := by rw [g_26 (by omega), u6.row (c := 26) rfl, (h26 s hs6).1]
    have hgs := (hg s hs6).1
    have F1 : Fr FPL S U := u6.mono rfl
    have FT1 : Fr FPM T (sI T 188 13 (oo s)) := Fr.sIp (Fr.rf _ _) rfl
    by_cases h0 : g s = 0
    · have hbf : t_X12_has (oo hb) (oo s) = false := bt_f hb8 (by omega) (by rw [hbt s hs6, h0]; decide)
      obtain ⟨T2, g1, g2, g3⟩ := goN hx u4 hL1
      have FT2 : Fr FPM T T2 := Fr.trans FT1 (g3.mono rfl)
      rcases num_p (lo := 1) (hi := 9) hx u3 g2 (by decide) (by decide) with ⟨U2, V2, p1, p2, p3, p4, p5⟩ | ⟨k, U2, k1, k2, k3, hL2, p1, p2, p3, p4, p5, p6⟩
      · refine .inl ⟨U2, V2, fun f => ?_, fun f => ?_, p3, Fr.trans (F1.mono rfl) (p4.mono rfl), Fr.trans (FT2.mono rfl) (p5.mono rfl)⟩
        · rw [f_X3_readPlace_L27, if_neg n6, show rf 16 0 = 1 from rfl, if_neg n59]
          unfold f_X3_readSmell
          rw [show rf 16 0 = 1 from rfl, show rf 16 1 = 17 from rfl, show (0 : Int32) = oo 0 from rfl, u1, Option.bind_some]
          dsimp only
          rw [if_pos rfl, show rf 16 2 = 26 from rfl, u5, show (6 : Int32) = oo 6 from rfl, oo_mul, oo_add, eg, h0, if_pos rfl, show (1 : Int32) = oo 1 from rfl, show (9 : Int32) = oo 9 from rfl, p1, Option.bind_some]
          dsimp only
          rw [if_neg (by decide), Option.bind_some]
          dsimp only
          rw [if_neg (by decide)]
        · rw [f_X12_readPlace_L67, if_pos (hkn.mpr hw), show rf 188 20 = 196 from rfl, show rf 188 15 = 191 from rfl, t0, show (0 : Int32) = oo 0 from rfl, u2, Option.bind_some]
          dsimp only
          rw [if_pos rfl, sI_same, hbf, if_neg (by decide), g1, Option.bind_some]
          unfold f_X12_readNumber
          rw [show (1 : Int32) = oo 1 from rfl, show (9 : Int32) = oo 9 from rfl, p2, Option.bind_some]
          dsimp only
          rw [if_neg (by decide), Option.bind_some]
          dsimp only
          rw [if_neg (by decide)]
      · obtain ⟨T3, z1, z2, z3⟩ := goN hx p4 hL2
        have z13 : T3.1 188 13 = oo k := by rw [z3.get rfl, sI_same]
        have F2 : Fr FPL S U2 := Fr.trans F1 (p6.mono rfl)
        have F2k : Fr FKC S U2 := Fr.trans u6 p6
        have FT3 : Fr [(188, 5), (188, 6), (188, 7), (188, 8), (188, 9), (188, 12), (188, 13)] T T3 := Fr.trans (Fr.sIp (Fr.rf [(188, 13)] _) rfl |>.mono rfl) (Fr.trans (g3.mono rfl) (Fr.trans (Fr.sIp (Fr.rf [(188, 13)] _) rfl |>.mono rfl) (z3.mono rfl)))
        have FU : Fr [(26, 9999), (21, 9999)] U2 (sI (sI U2 26 (p * 6 + s) (oo k)) 21 (p * 6 + s) (oo k)) := Fr.sIr (Fr.sIr (Fr.rf _ _) rfl) rfl
        have FV : Fr [(191, 9999)] T3 (sI T3 191 (12 + 6 * p + s) (oo k)) := Fr.sIr (Fr.rf _ _) rfl
        refine .inr (.inr (.inr ⟨sI (sI U2 26 (p * 6 + s) (oo k)) 21 (p * 6 + s) (oo k), sI T3 191 (12 + 6 * p + s) (oo k), s, k, hb ||| 2 ^ s, hs6, hs, k1, k2, h0, fun f => ?_, fun f => ?_, p3.fr FU rfl, z2.fr FV rfl, fun q => ?_, fun q => ?_, fun q => ?_, bt_lt hb hb8 s (by omega), fun t ht => ?_, Fr.trans F2 (FU.mono rfl), Fr.trans (FT3.mono rfl) (FV.mono rfl)⟩))
        · rw [f_X3_readPlace_L27, if_neg n6, show rf 16 0 = 1 from rfl, if_neg n59]
          unfold f_X3_readSmell
          rw [show rf 16 0 = 1 from rfl, show rf 16 1 = 17 from rfl, show (0 : Int32) = oo 0 from rfl, u1, Option.bind_some]
          dsimp only
          rw [if_pos rfl, show rf 16 2 = 26 from rfl, show rf 17 3 = 21 from rfl, u5, show (6 : Int32) = oo 6 from rfl, oo_mul, oo_add, eg, h0, if_pos rfl, show (1 : Int32) = oo 1 from rfl, show (9 : Int32) = oo 9 from rfl, p1, Option.bind_some]
          dsimp only
          rw [if_pos rfl, p5, p_26 (by omega), sI_cell (by decide), p5, p_21 (by omega), Option.bind_some]
          dsimp only
          rw [if_pos rfl, oo_add]
        · rw [f_X12_readPlace_L67, if_pos (hkn.mpr hw), show rf 188 20 = 196 from rfl, show rf 188 15 = 191 from rfl, t0, show (0 : Int32) = oo 0 from rfl, u2, Option.bind_some]
          dsimp only
          rw [if_pos rfl, sI_same, hbf, if_neg (by decide), g1, Option.bind_some]
          unfold f_X12_readNumber
          rw [show (1 : Int32) = oo 1 from rfl, show (9 : Int32) = oo 9 from rfl, p2, Option.bind_some]
          dsimp only
          rw [if_pos rfl, z1, Option.bind_some, Option.bind_some]
          dsimp only
          rw [if_pos rfl, show (12 : Int32) = oo 12 from rfl, show (6 : Int32) = oo 6 from rfl, oo_mul, oo_add, oo_add, if_neg (by rw [ln_191]; exact oo_inb (by omega) (by omega)), oo_nat (by omega), z13, bt_or hb hb8 s (by omega)]
        · rw [sI_cell (by decide)]
          by_cases e : q = p * 6 + s
          · rw [if_pos e, e, sI_same]
          · rw [if_neg e, sI_place e, F2k.row (c := 26) rfl]
        · by_cases e : q = p * 6 + s
          · rw [if_pos e, e, sI_same]
          · rw [if_neg e, sI_place e, sI_cell (by decide), F2k.row (c := 21) rfl]
        · by_cases e : q = 12 + 6 * p + s
          · rw [if_pos e, e, sI_same]
          · rw [if_neg e, sI_place e, FT3.row (c := 191) rfl]
        · rw [Nat.testBit_or, Nat.testBit_two_pow, hbt t ht]
          by_cases e : s = t
          · rw [← e, upN_same, decide_eq_true rfl, Bool.or_true, decide_eq_true (show k ≠ 0 by omega)]
          · rw [upN_ne (fun q => e q.symm), decide_eq_false e, Bool.or_false]
    · have hbf : t_X12_has (oo hb) (oo s) = true := bt_t hb8 (by omega) (by rw [hbt s hs6]; exact decide_eq_true h0)
      obtain ⟨V, v1, v2, v3, v4⟩ := bad_n hx u4 (by omega) 3
      rw [bdK_ne (by omega)] at v2
      obtain ⟨Y, f1, f2, f3, f4⟩ := failT_c u3 hx (oo 3)
      refine .inl ⟨Y, V, fun f => ?_, fun f => ?_, ⟨3, xP x i, by decide, by decide, xP_le hx hi, f2, f3, v2, v3⟩, Fr.trans (F1.mono rfl) (f4.mono rfl), Fr.trans (FT1.mono rfl) (v4.mono rfl)⟩
      · rw [f_X3_readPlace_L27, if_neg n6, show rf 16 0 = 1 from rfl, if_neg n59]
        unfold f_X3_readSmell
        rw [show rf 16 0 = 1 from rfl, show rf 16 1 = 17 from rfl, show (0 : Int32) = oo 0 from rfl, u1, Option.bind_some]
        dsimp only
        rw [if_pos rfl, show rf 16 2 = 26 from rfl, u5, show (6 : Int32) = oo 6 from rfl, oo_mul, oo_add, eg, if_neg (by rw [oo_eq (by omega) (by decide)]; exact h0), show (3 : Int32) = oo 3 from rfl, f1, Option.bind_some]
        dsimp only
        rw [if_neg (by decide)]
      · rw [f_X12_readPlace_L67, if_pos (hkn.mpr hw), show rf 188 20 = 196 from rfl, show rf 188 15 = 191 from rfl, t0, show (0 : Int32) = oo 0 from rfl, u2, Option.bind_some]
        dsimp only
        rw [if_pos rfl, sI_same, hbf, if_pos rfl, show (3 : Int32) = oo 3 from rfl, v1, Option.bind_some]
  · obtain ⟨U, u1, u2, u3, u4⟩ := fail_c hS hx (oo 1)
    refine .inr (.inl ⟨U, fun f => ?_, fun f => ?_, h59, u2, u3, u4.mono rfl⟩)
    · rw [f_X3_readPlace_L27, if_neg n6, show rf 16 0 = 1 from rfl, if_neg n59]
      unfold f_X3_readSmell f_X8_takeTold
      rw [show rf 16 0 = 1 from rfl, e10, if_neg (by rw [show (2 : Int32) = oo 2 from rfl, oo_eq (by omega) (by decide)]; omega), show (1 : Int32) = oo 1 from rfl, u1, Option.bind_some]
      dsimp only
      rw [if_neg (by decide), Option.bind_some]
      dsimp only
      rw [if_neg (by decide)]
    · rw [f_X12_readPlace_L67, if_neg (fun q => hw (hkn.mp q))]
theorem smells_p (hx : xok x L) (b0 : v 0 ≤ 6) (hp : p < 6) : ∀ m j i fc fn (S T : XS) (g : Nat → Nat) (hb : Nat), j + m = 6 → m < fc → m < fn → cgN g 6 = j → (∀ s, s < 6 → g s ≤ 9 ∧ (v 0 ≤ s → g s = 0)) → AtC x L i S → AtN x i T → (∀ s, s < 6 → S.1 26 (p * 6 + s) = oo (g s) ∧ S.1 21 (p * 6 + s) = oo (g s)) → (∀ s, s < 6 → T.1 191 (12 + 6 * p + s) = oo (g s)) → T.1 191 0 = oo (v 0) →
    (∀ k, k < 6 → (k < v 0 → isLs (d (0 * 6 + k)) ∧ S.2 19 (0 * 6 + k) = pk8 (d (0 * 6 + k))) ∧ (v 0 ≤ k → S.2 19 (0 * 6 + k) = 0)) → (∀ k, k < v 0 → T.2 196 (0 + k) = pk27 (d (0 + k))) → hb < 256 → (∀ s, s < 6 → hb.testBit s = decide (g s ≠ 0)) →
    (∃ U V, f_X3_readPlace_L27 (oo p) 16 fc (oo j) S = some (.inl (false, U)) ∧ f_X12_readPlace_L67 (oo p) 188 fn (oo hb) T = some (.inl (false, V)) ∧ Bad U V ∧ Fr FPF S U ∧ Fr FPG T V) ∨
    (∃ U V i', f_X3_readPlace_L27 (oo p) 16 fc (oo j) S = some (.inl (false, U)) ∧ f_X12_readPlace_L67 (oo p) 188 fn (oo hb) T = some (.inr V) ∧ i' ≤ L ∧ AtN x i' V ∧ xK x i' ≠ 59 ∧ U.1 1 2 = oo 1 ∧ U.1 1 3 = oo (xP x i') ∧ Fr FPF S U ∧ Fr FPM T V) ∨
    (∃ (U V : XS) (i' : Nat) (g' : Nat → Nat), i ≤ i' ∧ f_X3_readPlace_L27 (oo p) 16 fc (oo j) S = some (.inr U) ∧ f_X12_readPlace_L67 (oo p) 188 fn (oo hb) T = some (.inr V) ∧ AtC x L i' U ∧ AtN x i' V ∧ (∀ s, s < 6 → g' s ≤ 9 ∧ (v 0 ≤ s → g' s = 0)) ∧ (∀ s, s < 6 → U.1 26 (p * 6 + s) = oo (g' s) ∧ U.1 21 (p * 6 + s) = oo (g' s)) ∧ (∀ s, s < 6 → V.1 191 (12 + 6 * p + s) = oo (g' s)) ∧ (∀ q, ¬ (p * 6 ≤ q ∧ q < p * 6 + 6) → U.1 26 q = S.1 26 q ∧ U.1 21 q = S.1 21 q) ∧ (∀ q, ¬ (12 + 6 * p ≤ q ∧ q < 18 + 6 * p) → V.1 191 q = T.1 191 q) ∧ Fr FPL S U ∧ Fr FPM T V) := by
  have one : ∀ m, (∀ j i fc fn (S T : XS) (g : Nat → Nat) (hb : Nat), j + m = 6 → m < fc → m < fn → cgN g 6 = j → (∀ s, s < 6 → g s ≤ 9 ∧ (v 0 ≤ s → g s = 0)) → AtC x L i S → AtN x i T → (∀ s, s < 6 → S.1 26 (p * 6 + s) = oo (g s) ∧ S.1 21 (p * 6 + s) = oo (g s)) → (∀ s, s < 6 → T.1 191 (12 + 6 * p + s) = oo (g s)) → T.1 191 0 = oo (v 0) →
    (∀ k, k < 6 → (k < v 0 → isLs (d (0 * 6 + k)) ∧ S.2 19 (0 * 6 + k) = pk8 (d (0 * 6 + k))) ∧ (v 0 ≤ k → S.2 19 (0 * 6 + k) = 0)) → (∀ k, k < v 0 → T.2 196 (0 + k) = pk27 (d (0 + k))) → hb < 256 → (∀ s, s < 6 → hb.testBit s = decide (g s ≠ 0)) →
    (∃ U V, f_X3_readPlace_L27 (oo p) 16 fc (oo j) S = some (.inl (false, U)) ∧ f_X12_readPlace_L67 (oo p) 188 fn (oo hb) T = some (.inl (false, V)) ∧ Bad U V ∧ Fr FPF S U ∧ Fr FPG T V) ∨
    (∃ U V i', f_X3_readPlace_L27 (oo p) 16 fc (oo j) S = some (.inl (false, U)) ∧ f_X12_readPlace_L67 (oo p) 188 fn (oo hb) T = some (.inr V) ∧ i' ≤ L ∧ AtN x i' V ∧ xK x i' ≠ 59 ∧ U.1 1 2 = oo 1 ∧ U.1 1 3 = oo (xP x i') ∧ Fr FPF S U ∧ Fr FPM T V) ∨
    (∃ (U V : XS) (i' : Nat) (g' : Nat → Nat), i ≤ i' ∧ f_X3_readPlace_L27 (oo p) 16 fc (oo j) S = some (.inr U) ∧ f_X12_readPlace_L67 (oo p) 188 fn (oo hb) T = some (.inr V) ∧ AtC x L i' U ∧ AtN x i' V ∧ (∀ s, s < 6 → g' s ≤ 9 ∧ (v 0 ≤ s → g' s = 0)) ∧ (∀ s, s < 6 → U.1 26 (p * 6 + s) = oo (g' s) ∧ U.1 21 (p * 6 + s) = oo (g' s)) ∧ (∀ s, s < 6 → V.1 191 (12 + 6 * p + s) = oo (g' s)) ∧ (∀ q, ¬ (p * 6 ≤ q ∧ q < p * 6 + 6) → U.1 26 q = S.1 26 q ∧ U.1 21 q = S.1 21 q) ∧ (∀ q, ¬ (12 + 6 * p ≤ q ∧ q < 18 + 6 * p) → V.1 191 q = T.1 191 q) ∧ Fr FPL S U ∧ Fr FPM T V)) := by
    intro m
    induction m with
    | zero =>
      intro j i fc fn S T g hb hj hfc hfn hcg hg hS hT h26 h191 t0 hdc hdn hb8 hbt
      obtain ⟨fc, rfl⟩ : ∃ f', fc = f' + 1 := ⟨fc - 1, by omega⟩
      obtain ⟨fn, rfl⟩ : ∃ f', fn = f' + 1 := ⟨fn - 1, by omega⟩
      rcases smell_1 hx b0 hp (by omega) hcg hg hS hT h26 h191 t0 hdc hdn hb8 hbt with ⟨U, V, a1, a2, a3, a4, a5⟩ | ⟨U, a1, a2, a3, a4, a5, a6⟩ | ⟨a1, a2⟩ | ⟨U, V, s, k, hb', c1, c2, c3, c4, c5, a1⟩
      · exact .inl ⟨U, V, a1 fc, a2 fn, a3, a4, a5⟩
      · exact .inr (.inl ⟨U, T, i, a1 fc, a2 fn, hS.1, hT, a3, a4, a5, a6, Fr.rf _ _⟩)
      · exact .inr (.inr ⟨S, T, i, g, Nat.le_refl _, a1 fc, a2 fn, hS, hT, hg, h26, h191, fun q _ => ⟨rfl, rfl⟩, fun q _ => rfl, Fr.rf _ _, Fr.rf _ _⟩)
      · have h1 := cgN_up (k := k) c5 (by omega) 6 c1
        have h2 := cgN_le (upN g s k) 6
        omega
    | succ m ih =>
      intro j i fc fn S T g hb hj hfc hfn hcg hg hS hT h26 h191 t0 hdc hdn hb8 hbt
      obtain ⟨fc, rfl⟩ : ∃ f', fc = f' + 1 := ⟨fc - 1, by omega⟩
      obtain ⟨fn, rfl⟩ : ∃ f', fn = f' + 1 := ⟨fn - 1, by omega⟩
      rcases smell_1 hx b0 hp (by omega) hcg hg hS hT h26 h191 t0 hdc hdn hb8 hbt with ⟨U, V, a1, a2, a3, a4, a5⟩ | ⟨U, a1, a2, a3, a4, a5, a6⟩ | ⟨a1, a2⟩ | ⟨U, V, s, k, hb', c1, c2, c3, c4, c5, a1, a2, a3, a4, a5, a6, a7, a8, a9, a10, a11⟩
      · exact .inl ⟨U, V, a1 fc, a2 fn, a3, a4, a5⟩
      · exact .inr (.inl ⟨U, T, i, a1 fc, a2 fn, hS.1, hT, a3, a4, a5, a6, Fr.rf _ _⟩)
      · exact .inr (.inr ⟨S, T, i, g, Nat.le_refl _, a1 fc, a2 fn, hS, hT, hg, h26, h191, fun q _ => ⟨rfl, rfl⟩, fun q _ => rfl, Fr.rf _ _, Fr.rf _ _⟩)
      · have h1 := cgN_up (k := k) c5 (by omega) 6 c1
        have hr := ih (j + 1) (i + 2) fc fn U V (upN g s k) hb' (by omega) (by omega) (by omega) (by omega) (fun t ht => by
          by_cases e : t = s
          · rw [e, upN_same]; omega
          · rw [upN_ne e]; exact hg t ht) a3 a4 (fun t ht => by
          rw [a5, a6]
          by_cases e : t = s
          · rw [if_pos (by omega), if_pos (by omega), e, upN_same]
            exact ⟨rfl, rfl⟩
          · rw [if_neg (by omega), if_neg (by omega), upN_ne e]
            exact h26 t ht) (fun t ht => by
          rw [a7]
          by_cases e : t = s
          · rw [if_pos (by omega), e, upN_same]
          · rw [if_neg (by omega), upN_ne e]
            exact h191 t ht) (by rw [a7, if_neg (by omega)]; exact t0) (fun q hq => by rw [a10.row2 (c := 19) rfl]; exact hdc q hq) (fun q hq => by rw [a11.row2 (c := 196) rfl]; exact hdn q hq) a8 a9
        rw [a1, a2]
        rcases hr with ⟨U', V', r1, r2, r3, r4, r5⟩ | ⟨U', V', i', r1, r2, r3, r4, r5, r6, r7, r8, r9⟩ | ⟨U', V', i', g', r0, r1, r2, r3, r4, r5, r6, r7, r8, r9, r10, r11⟩
        · exact .inl ⟨U', V', r1, r2, r3, Fr.trans (a10.mono rfl) r4, Fr.trans (a11.mono rfl) r5⟩
        · exact .inr (.inl ⟨U', V', i', r1, r2, r3, r4, r5, r6, r7, Fr.trans (a10.mono rfl) r8, Fr.trans a11 r9⟩)
        · refine .inr (.inr ⟨U', V', i', g', by omega, r1, r2, r3, r4, r5, r6, r7, fun q hq => ?_, fun q hq => ?_, Fr.trans a10 r10, Fr.trans a11 r11⟩)
          · rw [(r8 q hq).1, (r8 q hq).2, a5, a6, if_neg (by omega), if_neg (by omega)]
            exact ⟨rfl, rfl⟩
          · rw [r9 q hq, a7, if_neg (by omega)]
  exact one
end PLS
