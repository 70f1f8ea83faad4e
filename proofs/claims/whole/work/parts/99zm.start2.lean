/-! THE START'S FACTS out of the tables and the narrowing -/
def nr_all : List Cond := flatC (Jvm.Cond.and given_1 narrow_1)
def kw_tm : Term := .string "ScentCourt$Tape" 15
def kw_ws : List Cond := (List.range 119).map (fun j => Cond.eq (.elem (.field kw_tm "java/lang/String" "value" "[B") (.int (Int32.ofNat j))) (.int (keyBytes.getD j 0)))
theorem kw_at : kw_ws = (nr_all.drop 82).take 119 := by decide +kernel
theorem kw_in {j : Nat} (h : j < 119) : Cond.eq (.elem (.field kw_tm "java/lang/String" "value" "[B") (.int (Int32.ofNat j))) (.int (keyBytes.getD j 0)) ∈ nr_all := by
  have h1 : Cond.eq (.elem (.field kw_tm "java/lang/String" "value" "[B") (.int (Int32.ofNat j))) (.int (keyBytes.getD j 0)) ∈ kw_ws := List.mem_map.mpr ⟨j, List.mem_range.mpr h, rfl⟩
  rw [kw_at] at h1
  exact List.mem_of_mem_drop (List.mem_of_mem_take h1)
def ms_tm : Term := .static "ScentCourt" "MOST_LINES" "[I"
section ST0
variable {args : Array Value} {s : State}
theorem st_arr {ty : FieldType} (h : (Cond.arrayClass ty).before args s = true) (hn : ∀ C, ty ≠ .object C) : ∃ c : ClassId, ArrOfT s c ty ∧ va_RA s c ty := by
  obtain ⟨c, k, comp, h1, h2, h3⟩ := Cond.arrayClass_spec (args := args) (first := s) (o := none) (s := s) (idx := []) h
  refine ⟨c, fun n z => ⟨(fun k h => by cases h), k, h2, comp, h3⟩, ?_⟩
  cases ty with
  | object C => exact absurd rfl (hn C)
  | _ => exact h1
theorem st_ovr {C : String} (h : va_AO C s) : ∃ c : ClassId, ArrOfT s c (.object C) ∧ va_RA s c (.object C) := by
  obtain ⟨comp, c, k, h1, h2, h3, h4, h5⟩ := Cond.arrayOver_spec h
  exact ⟨c, fun n z => ⟨fun k h => (by cases h), k, h3, comp, h4⟩, k, comp, h3, h4, h1, h5⟩
theorem st_cls (hT : ∀ w ∈ TT, w.before args s = true) : ∃ (dC : Nat → ClassId) (dI : Nat → Nat → Nat), ∀ (k : Nat) (q : vw_C), xcl[k]? = some q → u_Kn s q.1 q.2.1 q.2.2 (dC k) (dI k) := by
  obtain ⟨c0, i0, h0⟩ := u_known (ws := TT) (C := RX0) (T := TX0) (N := 8) (n := 8) hT uw_X0 (hT _ it_X0)
  obtain ⟨c1, i1, h1⟩ := u_known (ws := TT) (C := RX1) (T := TX1) (N := 6) (n := 6) hT uw_X1 (hT _ it_X1)
  obtain ⟨c2, i2, h2⟩ := u_known (ws := TT) (C := RX2) (T := TX2) (N := 8) (n := 8) hT uw_X2 (hT _ it_X2)
  obtain ⟨c3, i3, h3⟩ := u_known (ws := TT) (C := RX3) (T := TX3) (N := 4) (n := 4) hT uw_X3 (hT _ it_X3)
  obtain ⟨c4, i4, h4⟩ := u_known (ws := TT) (C := RX4) (T := TX4) (N := 9) (n := 9) hT uw_X4 (hT _ it_X4)
  obtain ⟨c5, i5, h5⟩ := u_known (ws := TT) (C := RX5) (T := TX5) (N := 1) (n := 1) hT uw_X5 (hT _ it_X5)
  obtain ⟨c6, i6, h6⟩ := u_known (ws := TT) (C := RX6) (T := TX6) (N := 4) (n := 4) hT uw_X6 (hT _ it_X6)
  obtain ⟨c7, i7, h7⟩ := u_known (ws := TT) (C := RX7) (T := TX7) (N := 3) (n := 3) hT uw_X7 (hT _ it_X7)
  obtain ⟨c8, i8, h8⟩ := u_known (ws := TT) (C := RX8) (T := TX8) (N := 12) (n := 12) hT uw_X8 (hT _ it_X8)
  obtain ⟨c9, i9, h9⟩ := u_known (ws := TT) (C := RX9) (T := TX9) (N := 10) (n := 10) hT uw_X9 (hT _ it_X9)
  obtain ⟨c10, i10, h10⟩ := u_known (ws := TT) (C := RX10) (T := TX10) (N := 9) (n := 9) hT uw_X10 (hT _ it_X10)
  obtain ⟨c11, i11, h11⟩ := u_known (ws := TT) (C := RX11) (T := TX11) (N := 20) (n := 20) hT uw_X11 (hT _ it_X11)
  obtain ⟨c12, i12, h12⟩ := u_known (ws := TT) (C := RX12) (T := TX12) (N := 60) (n := 60) hT uw_X12 (hT _ it_X12)
  refine ⟨fun k => [c0, c1, c2, c3, c4, c5, c6, c7, c8, c9, c10, c11, c12].getD k c0, fun k => [i0, i1, i2, i3, i4, i5, i6, i7, i8, i9, i10, i11, i12].getD k i0, fun k q hq => ?_⟩
  match k, hq with
  | 0, hq => cases hq; exact h0
  | 1, hq => cases hq; exact h1
  | 2, hq => cases hq; exact h2
  | 3, hq => cases hq; exact h3
  | 4, hq => cases hq; exact h4
  | 5, hq => cases hq; exact h5
  | 6, hq => cases hq; exact h6
  | 7, hq => cases hq; exact h7
  | 8, hq => cases hq; exact h8
  | 9, hq => cases hq; exact h9
  | 10, hq => cases hq; exact h10
  | 11, hq => cases hq; exact h11
  | 12, hq => cases hq; exact h12
  | k + 13, hq => simp at hq
theorem st_aw {i : Nat} {w : Cond} (hts : ∀ w ∈ lw_tbl, w.before args s = true) (h : tables_1[i]? = some w) : w.before args s = true := hts _ (List.mem_append_right _ (List.mem_of_getElem? h))
theorem st_KA (hts : ∀ w ∈ lw_tbl, w.before args s = true) (hgv : (Jvm.Cond.and given_1 narrow_1).before args s = true) (b : Nat) : ∃ g : XG, g.2.2.2.1 = s.heap.size ∧ g.2.2.2.2.2 = b ∧ KA g s ∧ EX (zA g) s.heap s := by
  have hT : ∀ w ∈ TT, w.before args s = true := fun w h => hts w (TT_lw h)
  have hs : ∀ w ∈ nr_all, w.before args s = true := flat_of_before _ hgv
  have hA : ∀ a : Nat, a < s.heap.size → ¬ (fun q : Nat => s.heap.size ≤ q) a := fun a h1 h2 => Nat.lt_irrefl _ (Nat.lt_of_lt_of_le h1 h2)
  obtain ⟨dC, dI, hC⟩ := st_cls hT
  have o3 : va_AO "ScentCourt$World" s := va_AO.of (st_aw (i := 325) hts (by decide +kernel))
  have o4 : va_AO "ScentCourt$Hill" s := va_AO.of (st_aw (i := 326) hts (by decide +kernel))
  have o5 : va_AO "ScentCourt$Sentence" s := va_AO.of (st_aw (i := 327) hts (by decide +kernel))
  obtain ⟨a0, p0⟩ := st_arr (hT _ ac_int) (fun C h => by cases h)
  obtain ⟨a1, p1⟩ := st_arr (hT _ ac_long) (fun C h => by cases h)
  obtain ⟨a2, p2⟩ := st_arr (hT _ ac_boolean) (fun C h => by cases h)
  obtain ⟨a3, p3⟩ := st_ovr o3
  obtain ⟨a4, p4⟩ := st_ovr o4
  obtain ⟨a5, p5⟩ := st_ovr o5
  have wL : (Term.length ms_tm).eval args s none [] s = some (.int (Int32.ofNat 6)) := va_eqt (hs _ (by decide +kernel))
  obtain ⟨t, ht, hMT⟩ := va_Tof (tm := ms_tm) (ty := .int) (N := 6) (f := mostF) (A := fun q : Nat => s.heap.size ≤ q) (by decide) (hs _ (by decide +kernel)) wL (fun j hj => by
    have hw : Cond.eq (.elem ms_tm (.int (Int32.ofNat j))) (.int (([6, 6, 6, 6, 20, 6] : List Int32).getD j 0)) ∈ nr_all := by
      match j, hj with
      | 0, _ => decide +kernel
      | 1, _ => decide +kernel
      | 2, _ => decide +kernel
      | 3, _ => decide +kernel
      | 4, _ => decide +kernel
      | 5, _ => decide +kernel
      | j + 6, hj => exact absurd hj (by omega)
    exact va_eqt (hs _ hw)) hA
  have hMZ : va_Z "ScentCourt" "MOST_LINES" "[I" (.ref t) (fun q : Nat => s.heap.size ≤ q) s s.heap := va_Zof (st_aw (i := 152) hts (by decide +kernel)) (st_aw (i := 1) hts (by decide +kernel)) ht hA
  have hCS : va_Z "java/lang/String" "COMPACT_STRINGS" "Z" (.int 1) (fun q : Nat => s.heap.size ≤ q) s s.heap := va_Zof (st_aw (i := 49) hts (by decide +kernel)) (st_aw (i := 3) hts (by decide +kernel)) (va_eqi (hs _ (by decide +kernel))) hA
  have hSF : va_Zq "jdk/internal/util/Preconditions" "SIOOBE_FORMATTER" "Ljava/util/function/BiFunction;" (fun q : Nat => s.heap.size ≤ q) s s.heap := va_Zqof (st_aw (i := 68) hts (by decide +kernel)) (st_aw (i := 5) hts (by decide +kernel)) (hs _ (by decide +kernel)) hA
  have hUS : vx_Zq Bundle.tN "UNASSIGNED_STACK" Bundle.steD (fun q : Nat => s.heap.size ≤ q) s s.heap := vx_Zqof (st_aw (i := 1285) hts (by decide +kernel)) (st_aw (i := 21) hts (by decide +kernel)) (hs _ (by decide +kernel)) hA
  have hSS : vx_Zq Bundle.tN "SUPPRESSED_SENTINEL" Bundle.listD (fun q : Nat => s.heap.size ≤ q) s s.heap := vx_Zqof (st_aw (i := 1287) hts (by decide +kernel)) (st_aw (i := 21) hts (by decide +kernel)) (hs _ (by decide +kernel)) hA
  obtain ⟨adK, adV, hKS, hKe⟩ := vk_Sof (args := args) (s := s) (N := 1) (tm := fun _ => kw_tm) (len := [119]) (byt := [keyBytes]) (A := fun q : Nat => s.heap.size ≤ q) (fun i hi => by match i, hi with | 0, _ => decide | i + 1, hi => exact absurd hi (by omega)) (fun i _ => hs _ (by decide +kernel)) (fun i _ => hs _ (by decide +kernel)) (fun i _ => hs _ (by decide +kernel)) (fun i hi => by match i, hi with | 0, _ => exact hs _ (by decide +kernel) | i + 1, hi => exact absurd hi (by omega)) (fun i hi j hj => by match i, hi, hj with | 0, _, hj => exact hs _ (kw_in hj) | i + 1, hi, _ => exact absurd hi (by omega)) (fun i j hi hj hne => absurd (show i = j by omega) hne) hA
  have hR : vk_R RX8 15 keyText (adK 0) s := vk_R.of (st_aw (i := 39) hts (by decide +kernel)) (hKe 0 (by decide))
  have hKS : vk_S 1 [119] [keyBytes] (fun _ => adK 0) (fun _ => adV 0) (fun q : Nat => s.heap.size ≤ q) s s.heap := ⟨fun i hi => by match i, hi with | 0, hi => exact hKS.1 0 hi | i + 1, hi => exact absurd hi (by omega), fun i j hi hj _ => by omega⟩
  refine ⟨(dC, dI, fun k => [a0, a1, a2, a3, a4, a5].getD k a0, s.heap.size, t, b), rfl, rfl, ⟨⟨adK 0, adV 0, hR, hKS, hCS, hSF⟩, ⟨hC, fun k q hq => ?_⟩, fun w hw => ?_, hMZ, hMT, Nat.le_refl _, fun Cn hCn => ?_⟩, fun w hw => ?_, hUS, hSS⟩
  · match k, hq with
    | 0, hq => cases hq; exact p0
    | 1, hq => cases hq; exact p1
    | 2, hq => cases hq; exact p2
    | 3, hq => cases hq; exact p3
    | 4, hq => cases hq; exact p4
    | 5, hq => cases hq; exact p5
    | k + 6, hq => simp [xtys] at hq
  · have hg := (List.mem_filter.mp hw).2
    have hb := hts w (List.mem_append_right _ (List.mem_filter.mp hw).1)
    cases w with
    | methodLinkNest a b c d => exact va_Nw.of rfl hb
    | fieldLinkNest a b c d e f => exact va_Nw.of rfl hb
    | _ => exact absurd hg (by simp [isNest])
  · rcases List.mem_cons.mp hCn with rfl | hCn
    · exact o3
    rcases List.mem_cons.mp hCn with rfl | hCn
    · exact o4
    rcases List.mem_cons.mp hCn with rfl | hCn
    · exact o5
    cases hCn
  · exact va_Nw.of (bad_ot hw) (hts w (List.mem_append_right _ (vxA_in w (List.mem_filter.mp hw).1)))
end ST0
