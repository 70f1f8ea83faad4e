theorem S0z {n : Nat} (h : n ≠ 45 ∧ n ≠ 188 ∧ n ≠ 213) : S0.1 n = fun _ => 0 := by
  funext j
  show (if n = 45 ∧ j = 0 then (-1 : Int32) else if n = 188 ∧ j = 39 then -1 else if n = 213 ∧ j < 3 then -1 else 0) = 0
  rw [if_neg (fun q => h.1 q.1), if_neg (fun q => h.2.1 q.1), if_neg (fun q => h.2.2 q.1)]
theorem S0zJ {n : Nat} (h : n ≠ 3) : S0.2 n = fun _ => 0 := by
  funext j
  show (if n = 3 then keysL.getD j 0 else 0) = 0
  rw [if_neg h]
theorem lk_c {o : XO} {a k : Nat} {e : va_E} (h : a ≠ k) (h2 : lk o k = none) : lk ((a, e) :: o) k = none := by
  show (if a = k then some e else lk o k) = none
  rw [if_neg h]; exact h2
theorem at_q {D : va_G} {cl : List vw_C} {q N : Nat} {cA : ClassId} {f f1 : Nat → Option Nat} {H : Heap} (hf : ∀ j, j < N → f j = f1 j) (h : va_at D cl (q, .inl (cA, N, .inr (.inr (.inr (.inr f))))) H) : va_at D cl (q, .inl (cA, N, .inr (.inr (.inr (.inr f1))))) H := by
  have h : H[q]? = some (arrV cA N (fun j => va_rf (f j))) := h
  show H[q]? = some (arrV cA N (fun j => va_rf (f1 j)))
  rw [h, arrV_ext (fun j hj => by rw [hf j hj])]
theorem at_i {D : va_G} {cl : List vw_C} {q N : Nat} {cA : ClassId} {f f1 : Nat → Int32} {H : Heap} (hf : ∀ j, j < N → f j = f1 j) (h : va_at D cl (q, .inl (cA, N, .inl f)) H) : va_at D cl (q, .inl (cA, N, .inl f1)) H := by
  have h : H[q]? = some (arrV cA N (fun j => .int (f j))) := h
  show H[q]? = some (arrV cA N (fun j => .int (f1 j)))
  rw [h, arrV_ext (fun j hj => by rw [hf j hj])]
def chr (i : Int32) : Int32 := keyBytes.getD i.toNatClampNeg 0
def f_kw_L (i0 : Int32) : Nat → Int64 → Int32 → Option Int64
  | 0, _, _ => none
  | n + 1, j1, i3 => if (i0 + 1) * 7 ≤ i3 then some j1 else (if i3 < 0 then f_kw_L i0 n j1 (i3 + 1) else (if (119 : Int32) ≤ i3 then f_kw_L i0 n j1 (i3 + 1) else (if chr i3 = 32 then f_kw_L i0 n j1 (i3 + 1) else f_kw_L i0 n (shl64 j1 8 ||| (chr i3).toInt64) (i3 + 1))))
theorem w_kw_L {l : Launch} {sk sv : Nat} (i0 : Int32) : ∀ (n : Nat) (j1 : Int64) (i3 : Int32), T ψJ l sk sv 5 mX8_keyWord 7 [(3, .int i3), (1, .long j1), (0, .int i0)] [] (f_kw_L i0 n j1 i3) := by
  intro n
  induction n with
  | zero => intro j1 i3; exact T_none
  | succ n ih =>
    intro j1 i3
    rw [f_kw_L]
    refine T_iload_n (n := 8) 0 (kX8_keyWord 6 rfl) rfl rfl rfl ?_
    refine T_iload_n (n := 9) 2 (kX8_keyWord 7 rfl) rfl rfl rfl ?_
    refine T_iconst (n := 10) (v := 1) (kX8_keyWord 8 rfl) rfl (by decide) ?_
    refine T_iadd (n := 11) (kX8_keyWord 9 rfl) rfl ?_
    refine T_bipush (n := 13) (v := 7) (kX8_keyWord 10 rfl) rfl (by decide) ?_
    refine T_imul (n := 14) (kX8_keyWord 11 rfl) rfl ?_
    refine T_ic_ge (n := 17) (tgt := 60) (kX8_keyWord 12 rfl) rfl rfl (fun _ => ?_) (fun _ => ?_)
    · refine T_lload_n (n := 61) 1 (kX8_keyWord 35 rfl) rfl rfl rfl ?_
      exact T_lret rfl (kX8_keyWord 36 rfl)
    · have back : T ψJ l sk sv 5 mX8_keyWord 54 [(3, .int i3), (1, .long j1), (0, .int i0)] [] (f_kw_L i0 n j1 (i3 + 1)) := by
        refine T_iinc (n := 57) 0 (v := i3 + 1) (L1 := [(3, .int (i3 + 1)), (1, .long j1), (0, .int i0)]) (kX8_keyWord 33 rfl) rfl rfl rfl (Nat.le_of_ble_eq_true rfl) rfl ?_
        refine T_goto (tgt := 7) (kX8_keyWord 34 rfl) rfl ?_
        exact ih _ _
      refine T_iload_n (n := 18) 0 (kX8_keyWord 13 rfl) rfl rfl rfl ?_
      refine T_if_lt (n := 21) (tgt := 54) (kX8_keyWord 14 rfl) rfl rfl (fun _ => back) (fun h1 => ?_)
      refine T_iload_n (n := 22) 0 (kX8_keyWord 15 rfl) rfl rfl rfl ?_
      refine T_ldcS (n := 24) (kX8_keyWord 16 rfl) rfl rfl ?_
      refine T_callV (n := 27) (As := []) (st := [.int i3]) (kX8_keyWord 17 rfl) rfl w_length rfl (by decide) ml_X8_17 mf_J0_length_8abf5 rfl rfl (Nat.le_of_ble_eq_true rfl) ?_
      refine T_ic_ge (n := 30) (tgt := 54) (kX8_keyWord 18 rfl) rfl rfl (fun _ => back) (fun h2 => ?_)
      have h2 : i3 < 119 := Int32.not_le.mp h2
      refine T_ldcS (n := 32) (kX8_keyWord 19 rfl) rfl rfl ?_
      refine T_iload_n (n := 33) 0 (kX8_keyWord 20 rfl) rfl rfl rfl ?_
      refine T_callV (n := 36) (As := [.int i3]) (st := []) (kX8_keyWord 21 rfl) rfl (w_charAt h1 h2) rfl (by decide) ml_X8_104 mf_J0_charAt_5068e rfl rfl (Nat.le_of_ble_eq_true rfl) ?_
      refine T_bipush (n := 38) (v := 32) (kX8_keyWord 22 rfl) rfl (by decide) ?_
      refine T_ic_eq (n := 41) (tgt := 54) (kX8_keyWord 23 rfl) rfl rfl (fun _ => back) (fun _ => ?_)
      refine T_lload_n (n := 42) 1 (kX8_keyWord 24 rfl) rfl rfl rfl ?_
      refine T_bipush (n := 44) (v := 8) (kX8_keyWord 25 rfl) rfl (by decide) ?_
      refine T_lshl (n := 45) (kX8_keyWord 26 rfl) rfl ?_
      refine T_ldcS (n := 47) (kX8_keyWord 27 rfl) rfl rfl ?_
      refine T_iload_n (n := 48) 0 (kX8_keyWord 28 rfl) rfl rfl rfl ?_
      refine T_callV (n := 51) (As := [.int i3]) (st := [.long (shl64 j1 8)]) (kX8_keyWord 29 rfl) rfl (w_charAt h1 h2) rfl (by decide) ml_X8_104 mf_J0_charAt_5068e rfl rfl (Nat.le_of_ble_eq_true rfl) ?_
      refine T_i2l (n := 52) (kX8_keyWord 30 rfl) rfl ?_
      refine T_lor (n := 53) (kX8_keyWord 31 rfl) rfl ?_
      refine T_lstore_n (n := 54) (L1 := [(1, .long (shl64 j1 8 ||| (chr i3).toInt64)), (3, .int i3), (0, .int i0)]) (kX8_keyWord 32 rfl) rfl rfl (Nat.le_of_ble_eq_true rfl) rfl ?_
      refine T_iinc (n := 57) 1 (v := i3 + 1) (L1 := [(3, .int (i3 + 1)), (1, .long (shl64 j1 8 ||| (chr i3).toInt64)), (0, .int i0)]) (kX8_keyWord 33 rfl) rfl rfl rfl (Nat.le_of_ble_eq_true rfl) rfl ?_
      refine T_goto (tgt := 7) (kX8_keyWord 34 rfl) rfl ?_
      exact ih _ _
theorem w_kw {l : Launch} {sk sv : Nat} (i0 : Int32) : ClT ψJ l sk sv 5 mX8_keyWord [.int i0] (f_kw_L i0 9 0 (i0 * 7)) := by
  refine ClT.of (by decide +kernel) (Nat.le_of_ble_eq_true rfl) ?_
  show T _ _ _ _ _ _ 0 [(0, .int i0)] [] _
  refine T_lconst (n := 1) (v := 0) (kX8_keyWord 0 rfl) rfl (by decide) ?_
  refine T_lstore_n (n := 2) (L1 := [(1, .long 0), (0, .int i0)]) (kX8_keyWord 1 rfl) rfl rfl (Nat.le_of_ble_eq_true rfl) rfl ?_
  refine T_iload_n (n := 3) 1 (kX8_keyWord 2 rfl) rfl rfl rfl ?_
  refine T_bipush (n := 5) (v := 7) (kX8_keyWord 3 rfl) rfl (by decide) ?_
  refine T_imul (n := 6) (kX8_keyWord 4 rfl) rfl ?_
  refine T_istore_n (n := 7) (L1 := [(3, .int (i0 * 7)), (1, .long 0), (0, .int i0)]) (kX8_keyWord 5 rfl) rfl rfl (Nat.le_of_ble_eq_true rfl) rfl ?_
  exact w_kw_L i0 9 0 (i0 * 7)
theorem kw_all : ∀ k, k < 17 → f_kw_L (Int32.ofNat k) 9 0 (Int32.ofNat k * 7) = some (keysL.getD k 0) := by decide +kernel
theorem kwc {l : Launch} (k : Nat) (h : k < 17) : ∀ sk sv, ClT ψJ l sk sv 5 mX8_keyWord [.int (Int32.ofNat k)] (some (keysL.getD k 0)) := fun sk sv => kw_all k h ▸ w_kw (Int32.ofNat k)
section BT
variable {l : Launch} {g : XG} {d d1 MC MS : Nat} {M N : XM} {pc n9 n idx k0 : Nat} {L : List (Nat × Value)} {st stk As : List Value} {o : XO} {c sl n1 : Nat} {o1 : XO}
theorem B_runT {p : Program} {e : Env} {s : State} {m : MethodId} {args : Array Value} {below : List Frame} {meth : Method} {c0 : Code} {R : Room} {H : Heap} {locs : List Loc} {ls : Array Slot} {st0 rest : List Value} {av : Array Value} {v : Option Value} {Q : State → Prop}
    (hr : va_Run p l e R s m args below meth c0 H locs c sl 0 0 (F0 m pc ls st0) rest (QT v av) (fun _ => False))
    (kk : W p l e R s m args below meth c0 H locs c sl Q (F0 m (pc + 3) ls (v.toList ++ rest))) : W p l e R s m args below meth c0 H locs c sl Q (F0 m pc ls st0) := by
  intro T hT X
  obtain ⟨v', st₀, t, T', Ls, h0, X', hL, e1, e2, ⟨hv, hb⟩, st⟩ := hr T hT X
  have hv : v' = v := by cases hv; rfl
  subst hv
  have hLs : Ls = [] := by
    cases Ls with
    | nil => rfl
    | cons q t => exact absurd (hL q List.mem_cons_self) (fun h => h)
  subst hLs
  rw [List.append_nil] at X'
  obtain ⟨t2, a1, b1⟩ := kk T' (by rw [e1, hb, h0]) X'
  exact ⟨t2, st t2 a1, b1⟩
theorem KT_of {sk sv : Nat} {s U : State} {H : Heap} {locs : List Loc} (K : KS (zA g) sk sv s.heap s) (hS : va_S (zA g) s.heap H locs) (hU : U.heap = H) (hW : s.WarmedH U.vm) : KT sk sv U := by
  show KS _ sk sv U.heap U
  rw [hU]
  exact K.to (fun _ h => h.elim) hW hS.2.1
theorem B_callTS {r : Int64} (hC : ∀ sk sv, ClT ψJ l sk sv d1 N As (some r)) (hAs : As.map (cv g) = As) (hdd : d1 + 1 ≤ d) (hlk : Cond.methodLink M.1.cls idx N.1 ∈ TT) (hf : MFs N k0) (hlen : As.length = k0) (hstk : As.reverse ++ st = stk) (hcat : (st.map fun v => v.category).sum ≤ 8) (hc1 : c ≤ MC) (hs1 : sl ≤ MS) (hd : decode M.2.1 pc = .ok (.invokestatic idx, 3)) (hn : pc + 3 = n9) (k : B l g d MC MS M n9 L (.long r :: st) n o c sl n1 o1) : B l g d MC MS M pc L (stk) n o c sl n1 o1 := by
  subst hn; subst hstk
  intro p e s m args below meth c0 C K hin H locs ls hH hS hl
  obtain ⟨sk, sv, hks⟩ := K.1
  have hM := hC sk sv r rfl
  obtain ⟨f1, f3, f4, f5, f6, f7⟩ := hf
  have r1 : (xrm d1).frames + 1 ≤ (rmA d MC MS).frames := hdd
  have r2 : 8 + (N.2.2.1 + 11) + (xrm d1).locals ≤ (rmA d MC MS).locals := by show 8 + (N.2.2.1 + 11) + 40 * d1 ≤ 40 * d; omega
  refine B_runT (rest := st.map (cv g)) (va_runS (Ts := mws M) (own := M.1.cls) (As := As) (bytes := N.2.1) (maxL := N.2.2.1) (ret := N.2.2.2) ⟨C.1, C.2.1, C.2.2.1, C.2.2.2.2.1, C.2.2.2.2.2.1⟩ hM
    ⟨⟨rfl, rfl, r1, r2, mws_pay C f4, List.mem_cons_self, TTs C f4, TTs C f3, f5, par_n f6, TTs C hlk⟩, TTs C f1⟩
    ⟨PT_blind, fun U hU hW => ⟨rfl, KT_of hks hS hU hW⟩⟩ rfl hlen hl.1 (by show (As.reverse ++ st).map (cv g) = _; rw [List.map_append, List.map_reverse, hAs]) (lv_room (by rw [cv_sum]; exact hcat)) hd ⟨hc1, hs1⟩) ?_
  exact k _ _ _ _ _ _ _ _ C K hin _ _ _ hH hS hl
theorem B_keysLen (hM : M.1.cls = RX8) (hdd : 3 ≤ d) (hd0 : decode M.2.1 pc = .ok (.ldc 15, 2)) (hd : decode M.2.1 (pc + 2) = .ok (.invokevirtual 17, 3)) (hn : pc + 5 = n9) (hcat : (st.map fun v => v.category).sum ≤ 8) (hc1 : c ≤ MC) (hs1 : sl ≤ MS) (k : B l g d MC MS M n9 L (.int 119 :: st) n o c sl n1 o1) : B l g d MC MS M pc L (st) n o c sl n1 o1 := by
  subst hn
  intro p e s m args below meth c0 C K hin H locs ls hH hS hl
  obtain ⟨sk, sv, hks⟩ := K.1
  refine va_ldcS C.1 C.2.1 (hM ▸ C.2.2.2.2.1) hks.1 hd0 ?_
  have hMt := w_length (l := l) (sk := sk) (sv := sv) 119 rfl
  obtain ⟨f1, f2, f3, f4, f5, f6, f7⟩ := mf_J0_length_8abf5
  have hlk : Cond.methodLink M.1.cls 17 yJ0_length_8abf5 ∈ TT := by rw [hM]; exact ml_X8_17
  refine B_runT (rest := st.map (cv g)) (va_runV (Ts := mws M) (own := M.1.cls) (C := "java/lang/String") (b := sk) (As := []) (bytes := cJ0_length_8abf5) (maxL := 1) (ret := some .int) ⟨C.1, C.2.1, C.2.2.1, C.2.2.2.2.1, C.2.2.2.2.2.1⟩ hMt
    ⟨⟨rfl, rfl, (by show 2 + 1 ≤ d; omega), (by show 8 + (1 + 11) + 80 ≤ 40 * d; omega), mws_pay C f4, List.mem_cons_self, TTs C f4, TTs C f3, f5, par_n f6, TTs C hlk⟩, TTs C f1, TTs C f2⟩
    ⟨PT_blind, vk_recv hks.2.1 (i := 0) (by decide) hS, fun U hU hW => ⟨rfl, KT_of hks hS hU hW⟩⟩ rfl rfl hl.1 rfl (lv_room (by rw [cv_sum]; exact hcat)) hd ⟨hc1, hs1⟩) ?_
  exact k _ _ _ _ _ _ _ _ C K hin _ _ _ hH hS hl
theorem B_idiv {x y : Int32} (hne : ¬ y = 0) (hd : decode M.2.1 pc = .ok (.idiv, 1)) (hn : pc + 1 = n9) (k : B l g d MC MS M n9 L (.int (x / y) :: st) n o c sl n1 o1) : B l g d MC MS M pc L (.int y :: .int x :: st) n o c sl n1 o1 := by
  subst hn
  intro p e s m args below meth c0 C K hin H locs ls hH hS hl
  exact lv_idiv C.1 C.2.1 hd hne (k _ _ _ _ _ _ _ _ C K hin _ _ _ hH hS hl)
end BT
theorem at_l {D : va_G} {cl : List vw_C} {q N : Nat} {cA : ClassId} {f f1 : Nat → Int64} {H : Heap} (hf : ∀ j, j < N → f j = f1 j) (h : va_at D cl (q, .inl (cA, N, .inr (.inl f))) H) : va_at D cl (q, .inl (cA, N, .inr (.inl f1))) H := by
  have h : H[q]? = some (arrV cA N (fun j => .long (f j))) := h
  show H[q]? = some (arrV cA N (fun j => .long (f1 j)))
  rw [h, arrV_ext (fun j hj => by rw [hf j hj])]
set_option maxHeartbeats 4000000 in
set_option maxRecDepth 100000 in
theorem C_X8_init_1 {l : Launch} {g : XG} {o' : XO} (ho : ∀ k, 1 ≤ k → lk o' k = none) : ClA l g 8 5 3780 mX8_init [.ref 1] 2 ((1, .inr (8, [.null, .int 0, .int 0, .int 0, .null, .null, .null, .null, .int 0, .int 0, .int 0, .int 0])) :: o') 7 o' := by
  refine ClA.of (by decide +kernel) rfl (Nat.le_of_ble_eq_true rfl) ?_
  show B _ _ _ _ _ _ 0 [(0, .ref 1)] [] _ _ _ _ _ _
  refine B_aload_n (n9 := 1) 0 (kX8_init 0 rfl) rfl rfl rfl ?_
  refine B_obj (n9 := 4) (st := []) ol_X8_3 ob_1 ob_2 (Nat.le_of_ble_eq_true rfl) (Nat.le_of_ble_eq_true rfl) (kX8_init 1 rfl) rfl ?_
  refine B_aload_n (n9 := 5) 0 (kX8_init 2 rfl) rfl rfl rfl ?_
  refine B_sipush (n9 := 8) (v := 940) (kX8_init 3 rfl) rfl (by decide) ?_
  refine B_newaI (n9 := 10) (N := 940) (by decide) ac_int (by decide) (by decide) (Nat.le_of_ble_eq_true rfl) (Nat.le_of_ble_eq_true rfl) (Nat.le_of_ble_eq_true rfl) (kX8_init 4 rfl) rfl rfl rfl (S0z (by decide)) (lk_c (by decide) (ho 2 (by decide))) ?_
  refine B_putF (n9 := 13) (o' := ((1, .inr (8, [.ref (ad g 2), .int 0, .int 0, .int 0, .null, .null, .null, .null, .int 0, .int 0, .int 0, .int 0])) :: o')) xf_X8 rfl (by decide) (by decide) (Nat.le_of_ble_eq_true rfl) rfl rfl rfl rfl rfl rfl fl_X8_9 (kX8_init 5 rfl) rfl ?_
  refine B_aload_n (n9 := 14) 0 (kX8_init 6 rfl) rfl rfl rfl ?_
  refine B_keysLen (n9 := 19) rfl (Nat.le_of_ble_eq_true rfl) (kX8_init 7 rfl) (kX8_init 8 rfl) rfl (Nat.le_of_ble_eq_true rfl) (Nat.le_of_ble_eq_true rfl) (Nat.le_of_ble_eq_true rfl) ?_
  refine B_bipush (n9 := 21) (v := 7) (kX8_init 9 rfl) rfl (by decide) ?_
  refine B_idiv (n9 := 22) (by decide) (kX8_init 10 rfl) rfl ?_
  refine B_newaJo (n9 := 24) (N := 17) (by decide) ac_long (by decide) (by decide) (Nat.le_of_ble_eq_true rfl) (Nat.le_of_ble_eq_true rfl) (Nat.le_of_ble_eq_true rfl) (kX8_init 11 rfl) rfl ?_
  refine B_putF (n9 := 27) (o' := ((3, .inl (g.2.2.1 1, 17, .inr (.inl (fun _ => 0)))) :: (1, .inr (8, [.ref (ad g 2), .int 0, .int 0, .int 0, .ref (ad g 3), .null, .null, .null, .int 0, .int 0, .int 0, .int 0])) :: o')) xf_X8 rfl (by decide) (by decide) (Nat.le_of_ble_eq_true rfl) rfl rfl rfl rfl rfl rfl fl_X8_23 (kX8_init 12 rfl) rfl ?_
  refine B_aload_n (n9 := 28) 0 (kX8_init 13 rfl) rfl rfl rfl ?_
  refine B_sipush (n9 := 31) (v := 941) (kX8_init 14 rfl) rfl (by decide) ?_
  refine B_newaI (n9 := 33) (N := 941) (by decide) ac_int (by decide) (by decide) (Nat.le_of_ble_eq_true rfl) (Nat.le_of_ble_eq_true rfl) (Nat.le_of_ble_eq_true rfl) (kX8_init 15 rfl) rfl rfl rfl (S0z (by decide)) (lk_c (by decide) (lk_c (by decide) (ho 4 (by decide)))) ?_
  refine B_putF (n9 := 36) (o' := ((3, .inl (g.2.2.1 1, 17, .inr (.inl (fun _ => 0)))) :: (1, .inr (8, [.ref (ad g 2), .int 0, .int 0, .int 0, .ref (ad g 3), .ref (ad g 4), .null, .null, .int 0, .int 0, .int 0, .int 0])) :: o')) xf_X8 rfl (by decide) (by decide) (Nat.le_of_ble_eq_true rfl) rfl rfl rfl rfl rfl rfl fl_X8_27 (kX8_init 16 rfl) rfl ?_
  refine B_aload_n (n9 := 37) 0 (kX8_init 17 rfl) rfl rfl rfl ?_
  refine B_sipush (n9 := 40) (v := 941) (kX8_init 18 rfl) rfl (by decide) ?_
  refine B_newaI (n9 := 42) (N := 941) (by decide) ac_int (by decide) (by decide) (Nat.le_of_ble_eq_true rfl) (Nat.le_of_ble_eq_true rfl) (Nat.le_of_ble_eq_true rfl) (kX8_init 19 rfl) rfl rfl rfl (S0z (by decide)) (lk_c (by decide) (lk_c (by decide) (ho 5 (by decide)))) ?_
  refine B_putF (n9 := 45) (o' := ((3, .inl (g.2.2.1 1, 17, .inr (.inl (fun _ => 0)))) :: (1, .inr (8, [.ref (ad g 2), .int 0, .int 0, .int 0, .ref (ad g 3), .ref (ad g 4), .ref (ad g 5), .null, .int 0, .int 0, .int 0, .int 0])) :: o')) xf_X8 rfl (by decide) (by decide) (Nat.le_of_ble_eq_true rfl) rfl rfl rfl rfl rfl rfl fl_X8_30 (kX8_init 20 rfl) rfl ?_
  refine B_aload_n (n9 := 46) 0 (kX8_init 21 rfl) rfl rfl rfl ?_
  refine B_sipush (n9 := 49) (v := 941) (kX8_init 22 rfl) rfl (by decide) ?_
  refine B_newaJ (n9 := 51) (N := 941) (by decide) ac_long (by decide) (by decide) (Nat.le_of_ble_eq_true rfl) (Nat.le_of_ble_eq_true rfl) (Nat.le_of_ble_eq_true rfl) (kX8_init 23 rfl) rfl rfl rfl (S0zJ (by decide)) (lk_c (by decide) (lk_c (by decide) (ho 6 (by decide)))) ?_
  refine B_putF (n9 := 54) (o' := ((3, .inl (g.2.2.1 1, 17, .inr (.inl (fun _ => 0)))) :: (1, .inr (8, [.ref (ad g 2), .int 0, .int 0, .int 0, .ref (ad g 3), .ref (ad g 4), .ref (ad g 5), .ref (ad g 6), .int 0, .int 0, .int 0, .int 0])) :: o')) xf_X8 rfl (by decide) (by decide) (Nat.le_of_ble_eq_true rfl) rfl rfl rfl rfl rfl rfl fl_X8_33 (kX8_init 24 rfl) rfl ?_
  refine B_iconst (n9 := 55) (v := 0) (kX8_init 25 rfl) rfl (by decide) ?_
  refine B_istore_n (n9 := 56) (L1 := [(1, .int 0), (0, .ref 1)]) (kX8_init 26 rfl) rfl rfl (Nat.le_of_ble_eq_true rfl) rfl ?_
  refine B_iload_n (n9 := 57) 0 (kX8_init 27 rfl) rfl rfl rfl ?_
  refine B_aload_n (n9 := 58) 1 (kX8_init 28 rfl) rfl rfl rfl ?_
  refine B_get (n9 := 61) (v := .ref 3) xf_X8 rfl (by decide) (by decide) rfl fl_X8_23 (kX8_init 29 rfl) rfl ?_
  refine B_alen (n9 := 62) (v := 17) (t0 := 1) (N := 17) rfl (by decide) rfl rfl (kX8_init 30 rfl) rfl ?_
  refine B_ge_f (n9 := 65) (tgt := 81) (by decide) (kX8_init 31 rfl) rfl rfl ?_
  refine B_aload_n (n9 := 66) 1 (kX8_init 32 rfl) rfl rfl rfl ?_
  refine B_get (n9 := 69) (v := .ref 3) xf_X8 rfl (by decide) (by decide) rfl fl_X8_23 (kX8_init 33 rfl) rfl ?_
  refine B_iload_n (n9 := 70) 0 (kX8_init 34 rfl) rfl rfl rfl ?_
  refine B_iload_n (n9 := 71) 0 (kX8_init 35 rfl) rfl rfl rfl ?_
  refine B_callTS (n9 := 74) (r := keysL.getD 0 0) (As := [.int 0]) (st := [.int 0, .ref 3]) (N := mX8_keyWord) (d1 := 5) (kwc 0 (by decide)) rfl (by decide) ml_X8_36 mf_X8_keyWord rfl rfl (Nat.le_of_ble_eq_true rfl) (Nat.le_of_ble_eq_true rfl) (Nat.le_of_ble_eq_true rfl) (kX8_init 36 rfl) rfl ?_
  refine B_last (n9 := 75) (o' := ((3, .inl (g.2.2.1 1, 17, .inr (.inl (vp_updL (fun _ => 0) (Int32.toNatClampNeg 0) (keysL.getD 0 0))))) :: (1, .inr (8, [.ref (ad g 2), .int 0, .int 0, .int 0, .ref (ad g 3), .ref (ad g 4), .ref (ad g 5), .ref (ad g 6), .int 0, .int 0, .int 0, .int 0])) :: o')) rfl (by decide) (show ¬ ((0 : Int32) < 0 ∨ 17 ≤ (0 : Int32).toNatClampNeg) from by decide) rfl (kX8_init 37 rfl) rfl ?_
  refine B_iinc (n9 := 78) 0 (v := 1) (L1 := [(1, .int 1), (0, .ref 1)]) (kX8_init 38 rfl) rfl rfl (by decide) (Nat.le_of_ble_eq_true rfl) rfl ?_
  refine B_goto (tgt := 56) (kX8_init 39 rfl) rfl ?_
  refine B_iload_n (n9 := 57) 0 (kX8_init 27 rfl) rfl rfl rfl ?_
  refine B_aload_n (n9 := 58) 1 (kX8_init 28 rfl) rfl rfl rfl ?_
  refine B_get (n9 := 61) (v := .ref 3) xf_X8 rfl (by decide) (by decide) rfl fl_X8_23 (kX8_init 29 rfl) rfl ?_
  refine B_alen (n9 := 62) (v := 17) (t0 := 1) (N := 17) rfl (by decide) rfl rfl (kX8_init 30 rfl) rfl ?_
  refine B_ge_f (n9 := 65) (tgt := 81) (by decide) (kX8_init 31 rfl) rfl rfl ?_
  refine B_aload_n (n9 := 66) 1 (kX8_init 32 rfl) rfl rfl rfl ?_
  refine B_get (n9 := 69) (v := .ref 3) xf_X8 rfl (by decide) (by decide) rfl fl_X8_23 (kX8_init 33 rfl) rfl ?_
  refine B_iload_n (n9 := 70) 0 (kX8_init 34 rfl) rfl rfl rfl ?_
  refine B_iload_n (n9 := 71) 0 (kX8_init 35 rfl) rfl rfl rfl ?_
  refine B_callTS (n9 := 74) (r := keysL.getD 1 0) (As := [.int 1]) (st := [.int 1, .ref 3]) (N := mX8_keyWord) (d1 := 5) (kwc 1 (by decide)) rfl (by decide) ml_X8_36 mf_X8_keyWord rfl rfl (Nat.le_of_ble_eq_true rfl) (Nat.le_of_ble_eq_true rfl) (Nat.le_of_ble_eq_true rfl) (kX8_init 36 rfl) rfl ?_
  refine B_last (n9 := 75) (o' := ((3, .inl (g.2.2.1 1, 17, .inr (.inl (vp_updL (vp_updL (fun _ => 0) (Int32.toNatClampNeg 0) (keysL.getD 0 0)) (Int32.toNatClampNeg 1) (keysL.getD 1 0))))) :: (1, .inr (8, [.ref (ad g 2), .int 0, .int 0, .int 0, .ref (ad g 3), .ref (ad g 4), .ref (ad g 5), .ref (ad g 6), .int 0, .int 0, .int 0, .int 0])) :: o')) rfl (by decide) (show ¬ ((1 : Int32) < 0 ∨ 17 ≤ (1 : Int32).toNatClampNeg) from by decide) rfl (kX8_init 37 rfl) rfl ?_
  refine B_iinc (n9 := 78) 0 (v := 2) (L1 := [(1, .int 2), (0, .ref 1)]) (kX8_init 38 rfl) rfl rfl (by decide) (Nat.le_of_ble_eq_true rfl) rfl ?_
  refine B_goto (tgt := 56) (kX8_init 39 rfl) rfl ?_
  refine B_iload_n (n9 := 57) 0 (kX8_init 27 rfl) rfl rfl rfl ?_
  refine B_aload_n (n9 := 58) 1 (kX8_init 28 rfl) rfl rfl rfl ?_
  refine B_get (n9 := 61) (v := .ref 3) xf_X8 rfl (by decide) (by decide) rfl fl_X8_23 (kX8_init 29 rfl) rfl ?_
  refine B_alen (n9 := 62) (v := 17) (t0 := 1) (N := 17) rfl (by decide) rfl rfl (kX8_init 30 rfl) rfl ?_
  refine B_ge_f (n9 := 65) (tgt := 81) (by decide) (kX8_init 31 rfl) rfl rfl ?_
  refine B_aload_n (n9 := 66) 1 (kX8_init 32 rfl) rfl rfl rfl ?_
  refine B_get (n9 := 69) (v := .ref 3) xf_X8 rfl (by decide) (by decide) rfl fl_X8_23 (kX8_init 33 rfl) rfl ?_
  refine B_iload_n (n9 := 70) 0 (kX8_init 34 rfl) rfl rfl rfl ?_
  refine B_iload_n (n9 := 71) 0 (kX8_init 35 rfl) rfl rfl rfl ?_
  refine B_callTS (n9 := 74) (r := keysL.getD 2 0) (As := [.int 2]) (st := [.int 2, .ref 3]) (N := mX8_keyWord) (d1 := 5) (kwc 2 (by decide)) rfl (by decide) ml_X8_36 mf_X8_keyWord rfl rfl (Nat.le_of_ble_eq_true rfl) (Nat.le_of_ble_eq_true rfl) (Nat.le_of_ble_eq_true rfl) (kX8_init 36 rfl) rfl ?_
  refine B_last (n9 := 75) (o' := ((3, .inl (g.2.2.1 1, 17, .inr (.inl (vp_updL (vp_updL (vp_updL (fun _ => 0) (Int32.toNatClampNeg 0) (keysL.getD 0 0)) (Int32.toNatClampNeg 1) (keysL.getD 1 0)) (Int32.toNatClampNeg 2) (keysL.getD 2 0))))) :: (1, .inr (8, [.ref (ad g 2), .int 0, .int 0, .int 0, .ref (ad g 3), .ref (ad g 4), .ref (ad g 5), .ref (ad g 6), .int 0, .int 0, .int 0, .int 0])) :: o')) rfl (by decide) (show ¬ ((2 : Int32) < 0 ∨ 17 ≤ (2 : Int32).toNatClampNeg) from by decide) rfl (kX8_init 37 rfl) rfl ?_
  refine B_iinc (n9 := 78) 0 (v := 3) (L1 := [(1, .int 3), (0, .ref 1)]) (kX8_init 38 rfl) rfl rfl (by decide) (Nat.le_of_ble_eq_true rfl) rfl ?_
  refine B_goto (tgt := 56) (kX8_init 39 rfl) rfl ?_
  refine B_iload_n (n9 := 57) 0 (kX8_init 27 rfl) rfl rfl rfl ?_
  refine B_aload_n (n9 := 58) 1 (kX8_init 28 rfl) rfl rfl rfl ?_
  refine B_get (n9 := 61) (v := .ref 3) xf_X8 rfl (by decide) (by decide) rfl fl_X8_23 (kX8_init 29 rfl) rfl ?_
  refine B_alen (n9 := 62) (v := 17) (t0 := 1) (N := 17) rfl (by decide) rfl rfl (kX8_init 30 rfl) rfl ?_
  refine B_ge_f (n9 := 65) (tgt := 81) (by decide) (kX8_init 31 rfl) rfl rfl ?_
  refine B_aload_n (n9 := 66) 1 (kX8_init 32 rfl) rfl rfl rfl ?_
  refine B_get (n9 := 69) (v := .ref 3) xf_X8 rfl (by decide) (by decide) rfl fl_X8_23 (kX8_init 33 rfl) rfl ?_
  refine B_iload_n (n9 := 70) 0 (kX8_init 34 rfl) rfl rfl rfl ?_
  refine B_iload_n (n9 := 71) 0 (kX8_init 35 rfl) rfl rfl rfl ?_
  refine B_callTS (n9 := 74) (r := keysL.getD 3 0) (As := [.int 3]) (st := [.int 3, .ref 3]) (N := mX8_keyWord) (d1 := 5) (kwc 3 (by decide)) rfl (by decide) ml_X8_36 mf_X8_keyWord rfl rfl (Nat.le_of_ble_eq_true rfl) (Nat.le_of_ble_eq_true rfl) (Nat.le_of_ble_eq_true rfl) (kX8_init 36 rfl) rfl ?_
  refine B_last (n9 := 75) (o' := ((3, .inl (g.2.2.1 1, 17, .inr (.inl (vp_updL (vp_updL (vp_updL (vp_updL (fun _ => 0) (Int32.toNatClampNeg 0) (keysL.getD 0 0)) (Int32.toNatClampNeg 1) (keysL.getD 1 0)) (Int32.toNatClampNeg 2) (keysL.getD 2 0)) (Int32.toNatClampNeg 3) (keysL.getD 3 0))))) :: (1, .inr (8, [.ref (ad g 2), .int 0, .int 0, .int 0, .ref (ad g 3), .ref (ad g 4), .ref (ad g 5), .ref (ad g 6), .int 0, .int 0, .int 0, .int 0])) :: o')) rfl (by decide) (show ¬ ((3 : Int32) < 0 ∨ 17 ≤ (3 : Int32).toNatClampNeg) from by decide) rfl (kX8_init 37 rfl) rfl ?_
  refine B_iinc (n9 := 78) 0 (v := 4) (L1 := [(1, .int 4), (0, .ref 1)]) (kX8_init 38 rfl) rfl rfl (by decide) (Nat.le_of_ble_eq_true rfl) rfl ?_
  refine B_goto (tgt := 56) (kX8_init 39 rfl) rfl ?_
  refine B_iload_n (n9 := 57) 0 (kX8_init 27 rfl) rfl rfl rfl ?_
  refine B_aload_n (n9 := 58) 1 (kX8_init 28 rfl) rfl rfl rfl ?_
  refine B_get (n9 := 61) (v := .ref 3) xf_X8 rfl (by decide) (by decide) rfl fl_X8_23 (kX8_init 29 rfl) rfl ?_
  refine B_alen (n9 := 62) (v := 17) (t0 := 1) (N := 17) rfl (by decide) rfl rfl (kX8_init 30 rfl) rfl ?_
  refine B_ge_f (n9 := 65) (tgt := 81) (by decide) (kX8_init 31 rfl) rfl rfl ?_
  refine B_aload_n (n9 := 66) 1 (kX8_init 32 rfl) rfl rfl rfl ?_
  refine B_get (n9 := 69) (v := .ref 3) xf_X8 rfl (by decide) (by decide) rfl fl_X8_23 (kX8_init 33 rfl) rfl ?_
  refine B_iload_n (n9 := 70) 0 (kX8_init 34 rfl) rfl rfl rfl ?_
  refine B_iload_n (n9 := 71) 0 (kX8_init 35 rfl) rfl rfl rfl ?_
  refine B_callTS (n9 := 74) (r := keysL.getD 4 0) (As := [.int 4]) (st := [.int 4, .ref 3]) (N := mX8_keyWord) (d1 := 5) (kwc 4 (by decide)) rfl (by decide) ml_X8_36 mf_X8_keyWord rfl rfl (Nat.le_of_ble_eq_true rfl) (Nat.le_of_ble_eq_true rfl) (Nat.le_of_ble_eq_true rfl) (kX8_init 36 rfl) rfl ?_
  refine B_last (n9 := 75) (o' := ((3, .inl (g.2.2.1 1, 17, .inr (.inl (vp_updL (vp_updL (vp_updL (vp_updL (vp_updL (fun _ => 0) (Int32.toNatClampNeg 0) (keysL.getD 0 0)) (Int32.toNatClampNeg 1) (keysL.getD 1 0)) (Int32.toNatClampNeg 2) (keysL.getD 2 0)) (Int32.toNatClampNeg 3) (keysL.getD 3 0)) (Int32.toNatClampNeg 4) (keysL.getD 4 0))))) :: (1, .inr (8, [.ref (ad g 2), .int 0, .int 0, .int 0, .ref (ad g 3), .ref (ad g 4), .ref (ad g 5), .ref (ad g 6), .int 0, .int 0, .int 0, .int 0])) :: o')) rfl (by decide) (show ¬ ((4 : Int32) < 0 ∨ 17 ≤ (4 : Int32).toNatClampNeg) from by decide) rfl (kX8_init 37 rfl) rfl ?_
  refine B_iinc (n9 := 78) 0 (v := 5) (L1 := [(1, .int 5), (0, .ref 1)]) (kX8_init 38 rfl) rfl rfl (by decide) (Nat.le_of_ble_eq_true rfl) rfl ?_
  refine B_goto (tgt := 56) (kX8_init 39 rfl) rfl ?_
  refine B_iload_n (n9 := 57) 0 (kX8_init 27 rfl) rfl rfl rfl ?_
  refine B_aload_n (n9 := 58) 1 (kX8_init 28 rfl) rfl rfl rfl ?_
  refine B_get (n9 := 61) (v := .ref 3) xf_X8 rfl (by decide) (by decide) rfl fl_X8_23 (kX8_init 29 rfl) rfl ?_
  refine B_alen (n9 := 62) (v := 17) (t0 := 1) (N := 17) rfl (by decide) rfl rfl (kX8_init 30 rfl) rfl ?_
  refine B_ge_f (n9 := 65) (tgt := 81) (by decide) (kX8_init 31 rfl) rfl rfl ?_
  refine B_aload_n (n9 := 66) 1 (kX8_init 32 rfl) rfl rfl rfl ?_
  refine B_get (n9 := 69) (v := .ref 3) xf_X8 rfl (by decide) (by decide) rfl fl_X8_23 (kX8_init 33 rfl) rfl ?_
  refine B_iload_n (n9 := 70) 0 (kX8_init 34 rfl) rfl rfl rfl ?_
  refine B_iload_n (n9 := 71) 0 (kX8_init 35 rfl) rfl rfl rfl ?_
  refine B_callTS (n9 := 74) (r := keysL.getD 5 0) (As := [.int 5]) (st := [.int 5, .ref 3]) (N := mX8_keyWord) (d1 := 5) (kwc 5 (by decide)) rfl (by decide) ml_X8_36 mf_X8_keyWord rfl rfl (Nat.le_of_ble_eq_true rfl) (Nat.le_of_ble_eq_true rfl) (Nat.le_of_ble_eq_true rfl) (kX8_init 36 rfl) rfl ?_
  refine B_last (n9 := 75) (o' := ((3, .inl (g.2.2.1 1, 17, .inr (.inl (vp_updL (vp_updL (vp_updL (vp_updL (vp_updL (vp_updL (fun _ => 0) (Int32.toNatClampNeg 0) (keysL.getD 0 0)) (Int32.toNatClampNeg 1) (keysL.getD 1 0)) (Int32.toNatClampNeg 2) (keysL.getD 2 0)) (Int32.toNatClampNeg 3) (keysL.getD 3 0)) (Int32.toNatClampNeg 4) (keysL.getD 4 0)) (Int32.toNatClampNeg 5) (keysL.getD 5 0))))) :: (1, .inr (8, [.ref (ad g 2), .int 0, .int 0, .int 0, .ref (ad g 3), .ref (ad g 4), .ref (ad g 5), .ref (ad g 6), .int 0, .int 0, .int 0, .int 0])) :: o')) rfl (by decide) (show ¬ ((5 : Int32) < 0 ∨ 17 ≤ (5 : Int32).toNatClampNeg) from by decide) rfl (kX8_init 37 rfl) rfl ?_
  refine B_iinc (n9 := 78) 0 (v := 6) (L1 := [(1, .int 6), (0, .ref 1)]) (kX8_init 38 rfl) rfl rfl (by decide) (Nat.le_of_ble_eq_true rfl) rfl ?_
  refine B_goto (tgt := 56) (kX8_init 39 rfl) rfl ?_
  refine B_iload_n (n9 := 57) 0 (kX8_init 27 rfl) rfl rfl rfl ?_
  refine B_aload_n (n9 := 58) 1 (kX8_init 28 rfl) rfl rfl rfl ?_
  refine B_get (n9 := 61) (v := .ref 3) xf_X8 rfl (by decide) (by decide) rfl fl_X8_23 (kX8_init 29 rfl) rfl ?_
  refine B_alen (n9 := 62) (v := 17) (t0 := 1) (N := 17) rfl (by decide) rfl rfl (kX8_init 30 rfl) rfl ?_
  refine B_ge_f (n9 := 65) (tgt := 81) (by decide) (kX8_init 31 rfl) rfl rfl ?_
  refine B_aload_n (n9 := 66) 1 (kX8_init 32 rfl) rfl rfl rfl ?_
  refine B_get (n9 := 69) (v := .ref 3) xf_X8 rfl (by decide) (by decide) rfl fl_X8_23 (kX8_init 33 rfl) rfl ?_
  refine B_iload_n (n9 := 70) 0 (kX8_init 34 rfl) rfl rfl rfl ?_
  refine B_iload_n (n9 := 71) 0 (kX8_init 35 rfl) rfl rfl rfl ?_
  refine B_callTS (n9 := 74) (r := keysL.getD 6 0) (As := [.int 6]) (st := [.int 6, .ref 3]) (N := mX8_keyWord) (d1 := 5) (kwc 6 (by decide)) rfl (by decide) ml_X8_36 mf_X8_keyWord rfl rfl (Nat.le_of_ble_eq_true rfl) (Nat.le_of_ble_eq_true rfl) (Nat.le_of_ble_eq_true rfl) (kX8_init 36 rfl) rfl ?_
  refine B_last (n9 := 75) (o' := ((3, .inl (g.2.2.1 1, 17, .inr (.inl (vp_updL (vp_updL (vp_updL (vp_updL (vp_updL (vp_updL (vp_updL (fun _ => 0) (Int32.toNatClampNeg 0) (keysL.getD 0 0)) (Int32.toNatClampNeg 1) (keysL.getD 1 0)) (Int32.toNatClampNeg 2) (keysL.getD 2 0)) (Int32.toNatClampNeg 3) (keysL.getD 3 0)) (Int32.toNatClampNeg 4) (keysL.getD 4 0)) (Int32.toNatClampNeg 5) (keysL.getD 5 0)) (Int32.toNatClampNeg 6) (keysL.getD 6 0))))) :: (1, .inr (8, [.ref (ad g 2), .int 0, .int 0, .int 0, .ref (ad g 3), .ref (ad g 4), .ref (ad g 5), .ref (ad g 6), .int 0, .int 0, .int 0, .int 0])) :: o')) rfl (by decide) (show ¬ ((6 : Int32) < 0 ∨ 17 ≤ (6 : Int32).toNatClampNeg) from by decide) rfl (kX8_init 37 rfl) rfl ?_
  refine B_iinc (n9 := 78) 0 (v := 7) (L1 := [(1, .int 7), (0, .ref 1)]) (kX8_init 38 rfl) rfl rfl (by decide) (Nat.le_of_ble_eq_true rfl) rfl ?_
  refine B_goto (tgt := 56) (kX8_init 39 rfl) rfl ?_
  refine B_iload_n (n9 := 57) 0 (kX8_init 27 rfl) rfl rfl rfl ?_
  refine B_aload_n (n9 := 58) 1 (kX8_init 28 rfl) rfl rfl rfl ?_
  refine B_get (n9 := 61) (v := .ref 3) xf_X8 rfl (by decide) (by decide) rfl fl_X8_23 (kX8_init 29 rfl) rfl ?_
  refine B_alen (n9 := 62) (v := 17) (t0 := 1) (N := 17) rfl (by decide) rfl rfl (kX8_init 30 rfl) rfl ?_
  refine B_ge_f (n9 := 65) (tgt := 81) (by decide) (kX8_init 31 rfl) rfl rfl ?_
  refine B_aload_n (n9 := 66) 1 (kX8_init 32 rfl) rfl rfl rfl ?_
  refine B_get (n9 := 69) (v := .ref 3) xf_X8 rfl (by decide) (by decide) rfl fl_X8_23 (kX8_init 33 rfl) rfl ?_
  refine B_iload_n (n9 := 70) 0 (kX8_init 34 rfl) rfl rfl rfl ?_
  refine B_iload_n (n9 := 71) 0 (kX8_init 35 rfl) rfl rfl rfl ?_
  refine B_callTS (n9 := 74) (r := keysL.getD 7 0) (As := [.int 7]) (st := [.int 7, .ref 3]) (N := mX8_keyWord) (d1 := 5) (kwc 7 (by decide)) rfl (by decide) ml_X8_36 mf_X8_keyWord rfl rfl (Nat.le_of_ble_eq_true rfl) (Nat.le_of_ble_eq_true rfl) (Nat.le_of_ble_eq_true rfl) (kX8_init 36 rfl) rfl ?_
  refine B_last (n9 := 75) (o' := ((3, .inl (g.2.2.1 1, 17, .inr (.inl (vp_updL (vp_updL (vp_updL (vp_updL (vp_updL (vp_updL (vp_updL (vp_updL (fun _ => 0) (Int32.toNatClampNeg 0) (keysL.getD 0 0)) (Int32.toNatClampNeg 1) (keysL.getD 1 0)) (Int32.toNatClampNeg 2) (keysL.getD 2 0)) (Int32.toNatClampNeg 3) (keysL.getD 3 0)) (Int32.toNatClampNeg 4) (keysL.getD 4 0)) (Int32.toNatClampNeg 5) (keysL.getD 5 0)) (Int32.toNatClampNeg 6) (keysL.getD 6 0)) (Int32.toNatClampNeg 7) (keysL.getD 7 0))))) :: (1, .inr (8, [.ref (ad g 2), .int 0, .int 0, .int 0, .ref (ad g 3), .ref (ad g 4), .ref (ad g 5), .ref (ad g 6), .int 0, .int 0, .int 0, .int 0])) :: o')) rfl (by decide) (show ¬ ((7 : Int32) < 0 ∨ 17 ≤ (7 : Int32).toNatClampNeg) from by decide) rfl (kX8_init 37 rfl) rfl ?_
  refine B_iinc (n9 := 78) 0 (v := 8) (L1 := [(1, .int 8), (0, .ref 1)]) (kX8_init 38 rfl) rfl rfl (by decide) (Nat.le_of_ble_eq_true rfl) rfl ?_
  refine B_goto (tgt := 56) (kX8_init 39 rfl) rfl ?_
  refine B_iload_n (n9 := 57) 0 (kX8_init 27 rfl) rfl rfl rfl ?_
  refine B_aload_n (n9 := 58) 1 (kX8_init 28 rfl) rfl rfl rfl ?_
  refine B_get (n9 := 61) (v := .ref 3) xf_X8 rfl (by decide) (by decide) rfl fl_X8_23 (kX8_init 29 rfl) rfl ?_
  refine B_alen (n9 := 62) (v := 17) (t0 := 1) (N := 17) rfl (by decide) rfl rfl (kX8_init 30 rfl) rfl ?_
  refine B_ge_f (n9 := 65) (tgt := 81) (by decide) (kX8_init 31 rfl) rfl rfl ?_
  refine B_aload_n (n9 := 66) 1 (kX8_init 32 rfl) rfl rfl rfl ?_
  refine B_get (n9 := 69) (v := .ref 3) xf_X8 rfl (by decide) (by decide) rfl fl_X8_23 (kX8_init 33 rfl) rfl ?_
  refine B_iload_n (n9 := 70) 0 (kX8_init 34 rfl) rfl rfl rfl ?_
  refine B_iload_n (n9 := 71) 0 (kX8_init 35 rfl) rfl rfl rfl ?_
  refine B_callTS (n9 := 74) (r := keysL.getD 8 0) (As := [.int 8]) (st := [.int 8, .ref 3]) (N := mX8_keyWord) (d1 := 5) (kwc 8 (by decide)) rfl (by decide) ml_X8_36 mf_X8_keyWord rfl rfl (Nat.le_of_ble_eq_true rfl) (Nat.le_of_ble_eq_true rfl) (Nat.le_of_ble_eq_true rfl) (kX8_init 36 rfl) rfl ?_
  refine B_last (n9 := 75) (o' := ((3, .inl (g.2.2.1 1, 17, .inr (.inl (vp_updL (vp_updL (vp_updL (vp_updL (vp_updL (vp_updL (vp_updL (vp_updL (vp_updL (fun _ => 0) (Int32.toNatClampNeg 0) (keysL.getD 0 0)) (Int32.toNatClampNeg 1) (keysL.getD 1 0)) (Int32.toNatClampNeg 2) (keysL.getD 2 0)) (Int32.toNatClampNeg 3) (keysL.getD 3 0)) (Int32.toNatClampNeg 4) (keysL.getD 4 0)) (Int32.toNatClampNeg 5) (keysL.getD 5 0)) (Int32.toNatClampNeg 6) (keysL.getD 6 0)) (Int32.toNatClampNeg 7) (keysL.getD 7 0)) (Int32.toNatClampNeg 8) (keysL.getD 8 0))))) :: (1, .inr (8, [.ref (ad g 2), .int 0, .int 0, .int 0, .ref (ad g 3), .ref (ad g 4), .ref (ad g 5), .ref (ad g 6), .int 0, .int 0, .int 0, .int 0])) :: o')) rfl (by decide) (show ¬ ((8 : Int32) < 0 ∨ 17 ≤ (8 : Int32).toNatClampNeg) from by decide) rfl (kX8_init 37 rfl) rfl ?_
  refine B_iinc (n9 := 78) 0 (v := 9) (L1 := [(1, .int 9), (0, .ref 1)]) (kX8_init 38 rfl) rfl rfl (by decide) (Nat.le_of_ble_eq_true rfl) rfl ?_
  refine B_goto (tgt := 56) (kX8_init 39 rfl) rfl ?_
  refine B_iload_n (n9 := 57) 0 (kX8_init 27 rfl) rfl rfl rfl ?_
  refine B_aload_n (n9 := 58) 1 (kX8_init 28 rfl) rfl rfl rfl ?_
  refine B_get (n9 := 61) (v := .ref 3) xf_X8 rfl (by decide) (by decide) rfl fl_X8_23 (kX8_init 29 rfl) rfl ?_
  refine B_alen (n9 := 62) (v := 17) (t0 := 1) (N := 17) rfl (by decide) rfl rfl (kX8_init 30 rfl) rfl ?_
  refine B_ge_f (n9 := 65) (tgt := 81) (by decide) (kX8_init 31 rfl) rfl rfl ?_
  refine B_aload_n (n9 := 66) 1 (kX8_init 32 rfl) rfl rfl rfl ?_
  refine B_get (n9 := 69) (v := .ref 3) xf_X8 rfl (by decide) (by decide) rfl fl_X8_23 (kX8_init 33 rfl) rfl ?_
  refine B_iload_n (n9 := 70) 0 (kX8_init 34 rfl) rfl rfl rfl ?_
  refine B_iload_n (n9 := 71) 0 (kX8_init 35 rfl) rfl rfl rfl ?_
  refine B_callTS (n9 := 74) (r := keysL.getD 9 0) (As := [.int 9]) (st := [.int 9, .ref 3]) (N := mX8_keyWord) (d1 := 5) (kwc 9 (by decide)) rfl (by decide) ml_X8_36 mf_X8_keyWord rfl rfl (Nat.le_of_ble_eq_true rfl) (Nat.le_of_ble_eq_true rfl) (Nat.le_of_ble_eq_true rfl) (kX8_init 36 rfl) rfl ?_
  refine B_last (n9 := 75) (o' := ((3, .inl (g.2.2.1 1, 17, .inr (.inl (vp_updL (vp_updL (vp_updL (vp_updL (vp_updL (vp_updL (vp_updL (vp_updL (vp_updL (vp_updL (fun _ => 0) (Int32.toNatClampNeg 0) (keysL.getD 0 0)) (Int32.toNatClampNeg 1) (keysL.getD 1 0)) (Int32.toNatClampNeg 2) (keysL.getD 2 0)) (Int32.toNatClampNeg 3) (keysL.getD 3 0)) (Int32.toNatClampNeg 4) (keysL.getD 4 0)) (Int32.toNatClampNeg 5) (keysL.getD 5 0)) (Int32.toNatClampNeg 6) (keysL.getD 6 0)) (Int32.toNatClampNeg 7) (keysL.getD 7 0)) (Int32.toNatClampNeg 8) (keysL.getD 8 0)) (Int32.toNatClampNeg 9) (keysL.getD 9 0))))) :: (1, .inr (8, [.ref (ad g 2), .int 0, .int 0, .int 0, .ref (ad g 3), .ref (ad g 4), .ref (ad g 5), .ref (ad g 6), .int 0, .int 0, .int 0, .int 0])) :: o')) rfl (by decide) (show ¬ ((9 : Int32) < 0 ∨ 17 ≤ (9 : Int32).toNatClampNeg) from by decide) rfl (kX8_init 37 rfl) rfl ?_
  refine B_iinc (n9 := 78) 0 (v := 10) (L1 := [(1, .int 10), (0, .ref 1)]) (kX8_init 38 rfl) rfl rfl (by decide) (Nat.le_of_ble_eq_true rfl) rfl ?_
  refine B_goto (tgt := 56) (kX8_init 39 rfl) rfl ?_
  refine B_iload_n (n9 := 57) 0 (kX8_init 27 rfl) rfl rfl rfl ?_
  refine B_aload_n (n9 := 58) 1 (kX8_init 28 rfl) rfl rfl rfl ?_
  refine B_get (n9 := 61) (v := .ref 3) xf_X8 rfl (by decide) (by decide) rfl fl_X8_23 (kX8_init 29 rfl) rfl ?_
  refine B_alen (n9 := 62) (v := 17) (t0 := 1) (N := 17) rfl (by decide) rfl rfl (kX8_init 30 rfl) rfl ?_
  refine B_ge_f (n9 := 65) (tgt := 81) (by decide) (kX8_init 31 rfl) rfl rfl ?_
  refine B_aload_n (n9 := 66) 1 (kX8_init 32 rfl) rfl rfl rfl ?_
  refine B_get (n9 := 69) (v := .ref 3) xf_X8 rfl (by decide) (by decide) rfl fl_X8_23 (kX8_init 33 rfl) rfl ?_
  refine B_iload_n (n9 := 70) 0 (kX8_init 34 rfl) rfl rfl rfl ?_
  refine B_iload_n (n9 := 71) 0 (kX8_init 35 rfl) rfl rfl rfl ?_
  refine B_callTS (n9 := 74) (r := keysL.getD 10 0) (As := [.int 10]) (st := [.int 10, .ref 3]) (N := mX8_keyWord) (d1 := 5) (kwc 10 (by decide)) rfl (by decide) ml_X8_36 mf_X8_keyWord rfl rfl (Nat.le_of_ble_eq_true rfl) (Nat.le_of_ble_eq_true rfl) (Nat.le_of_ble_eq_true rfl) (kX8_init 36 rfl) rfl ?_
  refine B_last (n9 := 75) (o' := ((3, .inl (g.2.2.1 1, 17, .inr (.inl (vp_updL (vp_updL (vp_updL (vp_updL (vp_updL (vp_updL (vp_updL (vp_updL (vp_updL (vp_updL (vp_updL (fun _ => 0) (Int32.toNatClampNeg 0) (keysL.getD 0 0)) (Int32.toNatClampNeg 1) (keysL.getD 1 0)) (Int32.toNatClampNeg 2) (keysL.getD 2 0)) (Int32.toNatClampNeg 3) (keysL.getD 3 0)) (Int32.toNatClampNeg 4) (keysL.getD 4 0)) (Int32.toNatClampNeg 5) (keysL.getD 5 0)) (Int32.toNatClampNeg 6) (keysL.getD 6 0)) (Int32.toNatClampNeg 7) (keysL.getD 7 0)) (Int32.toNatClampNeg 8) (keysL.getD 8 0)) (Int32.toNatClampNeg 9) (keysL.getD 9 0)) (Int32.toNatClampNeg 10) (keysL.getD 10 0))))) :: (1, .inr (8, [.ref (ad g 2), .int 0, .int 0, .int 0, .ref (ad g 3), .ref (ad g 4), .ref (ad g 5), .ref (ad g 6), .int 0, .int 0, .int 0, .int 0])) :: o')) rfl (by decide) (show ¬ ((10 : Int32) < 0 ∨ 17 ≤ (10 : Int32).toNatClampNeg) from by decide) rfl (kX8_init 37 rfl) rfl ?_
  refine B_iinc (n9 := 78) 0 (v := 11) (L1 := [(1, .int 11), (0, .ref 1)]) (kX8_init 38 rfl) rfl rfl (by decide) (Nat.le_of_ble_eq_true rfl) rfl ?_
  refine B_goto (tgt := 56) (kX8_init 39 rfl) rfl ?_
  refine B_iload_n (n9 := 57) 0 (kX8_init 27 rfl) rfl rfl rfl ?_
  refine B_aload_n (n9 := 58) 1 (kX8_init 28 rfl) rfl rfl rfl ?_
  refine B_get (n9 := 61) (v := .ref 3) xf_X8 rfl (by decide) (by decide) rfl fl_X8_23 (kX8_init 29 rfl) rfl ?_
  refine B_alen (n9 := 62) (v := 17) (t0 := 1) (N := 17) rfl (by decide) rfl rfl (kX8_init 30 rfl) rfl ?_
  refine B_ge_f (n9 := 65) (tgt := 81) (by decide) (kX8_init 31 rfl) rfl rfl ?_
  refine B_aload_n (n9 := 66) 1 (kX8_init 32 rfl) rfl rfl rfl ?_
  refine B_get (n9 := 69) (v := .ref 3) xf_X8 rfl (by decide) (by decide) rfl fl_X8_23 (kX8_init 33 rfl) rfl ?_
  refine B_iload_n (n9 := 70) 0 (kX8_init 34 rfl) rfl rfl rfl ?_
  refine B_iload_n (n9 := 71) 0 (kX8_init 35 rfl) rfl rfl rfl ?_
  refine B_callTS (n9 := 74) (r := keysL.getD 11 0) (As := [.int 11]) (st := [.int 11, .ref 3]) (N := mX8_keyWord) (d1 := 5) (kwc 11 (by decide)) rfl (by decide) ml_X8_36 mf_X8_keyWord rfl rfl (Nat.le_of_ble_eq_true rfl) (Nat.le_of_ble_eq_true rfl) (Nat.le_of_ble_eq_true rfl) (kX8_init 36 rfl) rfl ?_
  refine B_last (n9 := 75) (o' := ((3, .inl (g.2.2.1 1, 17, .inr (.inl (vp_updL (vp_updL (vp_updL (vp_updL (vp_updL (vp_updL (vp_updL (vp_updL (vp_updL (vp_updL (vp_updL (vp_updL (fun _ => 0) (Int32.toNatClampNeg 0) (keysL.getD 0 0)) (Int32.toNatClampNeg 1) (keysL.getD 1 0)) (Int32.toNatClampNeg 2) (keysL.getD 2 0)) (Int32.toNatClampNeg 3) (keysL.getD 3 0)) (Int32.toNatClampNeg 4) (keysL.getD 4 0)) (Int32.toNatClampNeg 5) (keysL.getD 5 0)) (Int32.toNatClampNeg 6) (keysL.getD 6 0)) (Int32.toNatClampNeg 7) (keysL.getD 7 0)) (Int32.toNatClampNeg 8) (keysL.getD 8 0)) (Int32.toNatClampNeg 9) (keysL.getD 9 0)) (Int32.toNatClampNeg 10) (keysL.getD 10 0)) (Int32.toNatClampNeg 11) (keysL.getD 11 0))))) :: (1, .inr (8, [.ref (ad g 2), .int 0, .int 0, .int 0, .ref (ad g 3), .ref (ad g 4), .ref (ad g 5), .ref (ad g 6), .int 0, .int 0, .int 0, .int 0])) :: o')) rfl (by decide) (show ¬ ((11 : Int32) < 0 ∨ 17 ≤ (11 : Int32).toNatClampNeg) from by decide) rfl (kX8_init 37 rfl) rfl ?_
  refine B_iinc (n9 := 78) 0 (v := 12) (L1 := [(1, .int 12), (0, .ref 1)]) (kX8_init 38 rfl) rfl rfl (by decide) (Nat.le_of_ble_eq_true rfl) rfl ?_
  refine B_goto (tgt := 56) (kX8_init 39 rfl) rfl ?_
  refine B_iload_n (n9 := 57) 0 (kX8_init 27 rfl) rfl rfl rfl ?_
  refine B_aload_n (n9 := 58) 1 (kX8_init 28 rfl) rfl rfl rfl ?_
  refine B_get (n9 := 61) (v := .ref 3) xf_X8 rfl (by decide) (by decide) rfl fl_X8_23 (kX8_init 29 rfl) rfl ?_
  refine B_alen (n9 := 62) (v := 17) (t0 := 1) (N := 17) rfl (by decide) rfl rfl (kX8_init 30 rfl) rfl ?_
  refine B_ge_f (n9 := 65) (tgt := 81) (by decide) (kX8_init 31 rfl) rfl rfl ?_
  refine B_aload_n (n9 := 66) 1 (kX8_init 32 rfl) rfl rfl rfl ?_
  refine B_get (n9 := 69) (v := .ref 3) xf_X8 rfl (by decide) (by decide) rfl fl_X8_23 (kX8_init 33 rfl) rfl ?_
  refine B_iload_n (n9 := 70) 0 (kX8_init 34 rfl) rfl rfl rfl ?_
  refine B_iload_n (n9 := 71) 0 (kX8_init 35 rfl) rfl rfl rfl ?_
  refine B_callTS (n9 := 74) (r := keysL.getD 12 0) (As := [.int 12]) (st := [.int 12, .ref 3]) (N := mX8_keyWord) (d1 := 5) (kwc 12 (by decide)) rfl (by decide) ml_X8_36 mf_X8_keyWord rfl rfl (Nat.le_of_ble_eq_true rfl) (Nat.le_of_ble_eq_true rfl) (Nat.le_of_ble_eq_true rfl) (kX8_init 36 rfl) rfl ?_
  refine B_last (n9 := 75) (o' := ((3, .inl (g.2.2.1 1, 17, .inr (.inl (vp_updL (vp_updL (vp_updL (vp_updL (vp_updL (vp_updL (vp_updL (vp_updL (vp_updL (vp_updL (vp_updL (vp_updL (vp_updL (fun _ => 0) (Int32.toNatClampNeg 0) (keysL.getD 0 0)) (Int32.toNatClampNeg 1) (keysL.getD 1 0)) (Int32.toNatClampNeg 2) (keysL.getD 2 0)) (Int32.toNatClampNeg 3) (keysL.getD 3 0)) (Int32.toNatClampNeg 4) (keysL.getD 4 0)) (Int32.toNatClampNeg 5) (keysL.getD 5 0)) (Int32.toNatClampNeg 6) (keysL.getD 6 0)) (Int32.toNatClampNeg 7) (keysL.getD 7 0)) (Int32.toNatClampNeg 8) (keysL.getD 8 0)) (Int32.toNatClampNeg 9) (keysL.getD 9 0)) (Int32.toNatClampNeg 10) (keysL.getD 10 0)) (Int32.toNatClampNeg 11) (keysL.getD 11 0)) (Int32.toNatClampNeg 12) (keysL.getD 12 0))))) :: (1, .inr (8, [.ref (ad g 2), .int 0, .int 0, .int 0, .ref (ad g 3), .ref (ad g 4), .ref (ad g 5), .ref (ad g 6), .int 0, .int 0, .int 0, .int 0])) :: o')) rfl (by decide) (show ¬ ((12 : Int32) < 0 ∨ 17 ≤ (12 : Int32).toNatClampNeg) from by decide) rfl (kX8_init 37 rfl) rfl ?_
  refine B_iinc (n9 := 78) 0 (v := 13) (L1 := [(1, .int 13), (0, .ref 1)]) (kX8_init 38 rfl) rfl rfl (by decide) (Nat.le_of_ble_eq_true rfl) rfl ?_
  refine B_goto (tgt := 56) (kX8_init 39 rfl) rfl ?_
  refine B_iload_n (n9 := 57) 0 (kX8_init 27 rfl) rfl rfl rfl ?_
  refine B_aload_n (n9 := 58) 1 (kX8_init 28 rfl) rfl rfl rfl ?_
  refine B_get (n9 := 61) (v := .ref 3) xf_X8 rfl (by decide) (by decide) rfl fl_X8_23 (kX8_init 29 rfl) rfl ?_
  refine B_alen (n9 := 62) (v := 17) (t0 := 1) (N := 17) rfl (by decide) rfl rfl (kX8_init 30 rfl) rfl ?_
  refine B_ge_f (n9 := 65) (tgt := 81) (by decide) (kX8_init 31 rfl) rfl rfl ?_
  refine B_aload_n (n9 := 66) 1 (kX8_init 32 rfl) rfl rfl rfl ?_
  refine B_get (n9 := 69) (v := .ref 3) xf_X8 rfl (by decide) (by decide) rfl fl_X8_23 (kX8_init 33 rfl) rfl ?_
  refine B_iload_n (n9 := 70) 0 (kX8_init 34 rfl) rfl rfl rfl ?_
  refine B_iload_n (n9 := 71) 0 (kX8_init 35 rfl) rfl rfl rfl ?_
  refine B_callTS (n9 := 74) (r := keysL.getD 13 0) (As := [.int 13]) (st := [.int 13, .ref 3]) (N := mX8_keyWord) (d1 := 5) (kwc 13 (by decide)) rfl (by decide) ml_X8_36 mf_X8_keyWord rfl rfl (Nat.le_of_ble_eq_true rfl) (Nat.le_of_ble_eq_true rfl) (Nat.le_of_ble_eq_true rfl) (kX8_init 36 rfl) rfl ?_
  refine B_last (n9 := 75) (o' := ((3, .inl (g.2.2.1 1, 17, .inr (.inl (vp_updL (vp_updL (vp_updL (vp_updL (vp_updL (vp_updL (vp_updL (vp_updL (vp_updL (vp_updL (vp_updL (vp_updL (vp_updL (vp_updL (fun _ => 0) (Int32.toNatClampNeg 0) (keysL.getD 0 0)) (Int32.toNatClampNeg 1) (keysL.getD 1 0)) (Int32.toNatClampNeg 2) (keysL.getD 2 0)) (Int32.toNatClampNeg 3) (keysL.getD 3 0)) (Int32.toNatClampNeg 4) (keysL.getD 4 0)) (Int32.toNatClampNeg 5) (keysL.getD 5 0)) (Int32.toNatClampNeg 6) (keysL.getD 6 0)) (Int32.toNatClampNeg 7) (keysL.getD 7 0)) (Int32.toNatClampNeg 8) (keysL.getD 8 0)) (Int32.toNatClampNeg 9) (keysL.getD 9 0)) (Int32.toNatClampNeg 10) (keysL.getD 10 0)) (Int32.toNatClampNeg 11) (keysL.getD 11 0)) (Int32.toNatClampNeg 12) (keysL.getD 12 0)) (Int32.toNatClampNeg 13) (keysL.getD 13 0))))) :: (1, .inr (8, [.ref (ad g 2), .int 0, .int 0, .int 0, .ref (ad g 3), .ref (ad g 4), .ref (ad g 5), .ref (ad g 6), .int 0, .int 0, .int 0, .int 0])) :: o')) rfl (by decide) (show ¬ ((13 : Int32) < 0 ∨ 17 ≤ (13 : Int32).toNatClampNeg) from by decide) rfl (kX8_init 37 rfl) rfl ?_
  refine B_iinc (n9 := 78) 0 (v := 14) (L1 := [(1, .int 14), (0, .ref 1)]) (kX8_init 38 rfl) rfl rfl (by decide) (Nat.le_of_ble_eq_true rfl) rfl ?_
  refine B_goto (tgt := 56) (kX8_init 39 rfl) rfl ?_
  refine B_iload_n (n9 := 57) 0 (kX8_init 27 rfl) rfl rfl rfl ?_
  refine B_aload_n (n9 := 58) 1 (kX8_init 28 rfl) rfl rfl rfl ?_
  refine B_get (n9 := 61) (v := .ref 3) xf_X8 rfl (by decide) (by decide) rfl fl_X8_23 (kX8_init 29 rfl) rfl ?_
  refine B_alen (n9 := 62) (v := 17) (t0 := 1) (N := 17) rfl (by decide) rfl rfl (kX8_init 30 rfl) rfl ?_
  refine B_ge_f (n9 := 65) (tgt := 81) (by decide) (kX8_init 31 rfl) rfl rfl ?_
  refine B_aload_n (n9 := 66) 1 (kX8_init 32 rfl) rfl rfl rfl ?_
  refine B_get (n9 := 69) (v := .ref 3) xf_X8 rfl (by decide) (by decide) rfl fl_X8_23 (kX8_init 33 rfl) rfl ?_
  refine B_iload_n (n9 := 70) 0 (kX8_init 34 rfl) rfl rfl rfl ?_
  refine B_iload_n (n9 := 71) 0 (kX8_init 35 rfl) rfl rfl rfl ?_
  refine B_callTS (n9 := 74) (r := keysL.getD 14 0) (As := [.int 14]) (st := [.int 14, .ref 3]) (N := mX8_keyWord) (d1 := 5) (kwc 14 (by decide)) rfl (by decide) ml_X8_36 mf_X8_keyWord rfl rfl (Nat.le_of_ble_eq_true rfl) (Nat.le_of_ble_eq_true rfl) (Nat.le_of_ble_eq_true rfl) (kX8_init 36 rfl) rfl ?_
  refine B_last (n9 := 75) (o' := ((3, .inl (g.2.2.1 1, 17, .inr (.inl (vp_updL (vp_updL (vp_updL (vp_updL (vp_updL (vp_updL (vp_updL (vp_updL (vp_updL (vp_updL (vp_updL (vp_updL (vp_updL (vp_updL (vp_updL (fun _ => 0) (Int32.toNatClampNeg 0) (keysL.getD 0 0)) (Int32.toNatClampNeg 1) (keysL.getD 1 0)) (Int32.toNatClampNeg 2) (keysL.getD 2 0)) (Int32.toNatClampNeg 3) (keysL.getD 3 0)) (Int32.toNatClampNeg 4) (keysL.getD 4 0)) (Int32.toNatClampNeg 5) (keysL.getD 5 0)) (Int32.toNatClampNeg 6) (keysL.getD 6 0)) (Int32.toNatClampNeg 7) (keysL.getD 7 0)) (Int32.toNatClampNeg 8) (keysL.getD 8 0)) (Int32.toNatClampNeg 9) (keysL.getD 9 0)) (Int32.toNatClampNeg 10) (keysL.getD 10 0)) (Int32.toNatClampNeg 11) (keysL.getD 11 0)) (Int32.toNatClampNeg 12) (keysL.getD 12 0)) (Int32.toNatClampNeg 13) (keysL.getD 13 0)) (Int32.toNatClampNeg 14) (keysL.getD 14 0))))) :: (1, .inr (8, [.ref (ad g 2), .int 0, .int 0, .int 0, .ref (ad g 3), .ref (ad g 4), .ref (ad g 5), .ref (ad g 6), .int 0, .int 0, .int 0, .int 0])) :: o')) rfl (by decide) (show ¬ ((14 : Int32) < 0 ∨ 17 ≤ (14 : Int32).toNatClampNeg) from by decide) rfl (kX8_init 37 rfl) rfl ?_
  refine B_iinc (n9 := 78) 0 (v := 15) (L1 := [(1, .int 15), (0, .ref 1)]) (kX8_init 38 rfl) rfl rfl (by decide) (Nat.le_of_ble_eq_true rfl) rfl ?_
  refine B_goto (tgt := 56) (kX8_init 39 rfl) rfl ?_
  refine B_iload_n (n9 := 57) 0 (kX8_init 27 rfl) rfl rfl rfl ?_
  refine B_aload_n (n9 := 58) 1 (kX8_init 28 rfl) rfl rfl rfl ?_
  refine B_get (n9 := 61) (v := .ref 3) xf_X8 rfl (by decide) (by decide) rfl fl_X8_23 (kX8_init 29 rfl) rfl ?_
  refine B_alen (n9 := 62) (v := 17) (t0 := 1) (N := 17) rfl (by decide) rfl rfl (kX8_init 30 rfl) rfl ?_
  refine B_ge_f (n9 := 65) (tgt := 81) (by decide) (kX8_init 31 rfl) rfl rfl ?_
  refine B_aload_n (n9 := 66) 1 (kX8_init 32 rfl) rfl rfl rfl ?_
  refine B_get (n9 := 69) (v := .ref 3) xf_X8 rfl (by decide) (by decide) rfl fl_X8_23 (kX8_init 33 rfl) rfl ?_
  refine B_iload_n (n9 := 70) 0 (kX8_init 34 rfl) rfl rfl rfl ?_
  refine B_iload_n (n9 := 71) 0 (kX8_init 35 rfl) rfl rfl rfl ?_
  refine B_callTS (n9 := 74) (r := keysL.getD 15 0) (As := [.int 15]) (st := [.int 15, .ref 3]) (N := mX8_keyWord) (d1 := 5) (kwc 15 (by decide)) rfl (by decide) ml_X8_36 mf_X8_keyWord rfl rfl (Nat.le_of_ble_eq_true rfl) (Nat.le_of_ble_eq_true rfl) (Nat.le_of_ble_eq_true rfl) (kX8_init 36 rfl) rfl ?_
  refine B_last (n9 := 75) (o' := ((3, .inl (g.2.2.1 1, 17, .inr (.inl (vp_updL (vp_updL (vp_updL (vp_updL (vp_updL (vp_updL (vp_updL (vp_updL (vp_updL (vp_updL (vp_updL (vp_updL (vp_updL (vp_updL (vp_updL (vp_updL (fun _ => 0) (Int32.toNatClampNeg 0) (keysL.getD 0 0)) (Int32.toNatClampNeg 1) (keysL.getD 1 0)) (Int32.toNatClampNeg 2) (keysL.getD 2 0)) (Int32.toNatClampNeg 3) (keysL.getD 3 0)) (Int32.toNatClampNeg 4) (keysL.getD 4 0)) (Int32.toNatClampNeg 5) (keysL.getD 5 0)) (Int32.toNatClampNeg 6) (keysL.getD 6 0)) (Int32.toNatClampNeg 7) (keysL.getD 7 0)) (Int32.toNatClampNeg 8) (keysL.getD 8 0)) (Int32.toNatClampNeg 9) (keysL.getD 9 0)) (Int32.toNatClampNeg 10) (keysL.getD 10 0)) (Int32.toNatClampNeg 11) (keysL.getD 11 0)) (Int32.toNatClampNeg 12) (keysL.getD 12 0)) (Int32.toNatClampNeg 13) (keysL.getD 13 0)) (Int32.toNatClampNeg 14) (keysL.getD 14 0)) (Int32.toNatClampNeg 15) (keysL.getD 15 0))))) :: (1, .inr (8, [.ref (ad g 2), .int 0, .int 0, .int 0, .ref (ad g 3), .ref (ad g 4), .ref (ad g 5), .ref (ad g 6), .int 0, .int 0, .int 0, .int 0])) :: o')) rfl (by decide) (show ¬ ((15 : Int32) < 0 ∨ 17 ≤ (15 : Int32).toNatClampNeg) from by decide) rfl (kX8_init 37 rfl) rfl ?_
  refine B_iinc (n9 := 78) 0 (v := 16) (L1 := [(1, .int 16), (0, .ref 1)]) (kX8_init 38 rfl) rfl rfl (by decide) (Nat.le_of_ble_eq_true rfl) rfl ?_
  refine B_goto (tgt := 56) (kX8_init 39 rfl) rfl ?_
  refine B_iload_n (n9 := 57) 0 (kX8_init 27 rfl) rfl rfl rfl ?_
  refine B_aload_n (n9 := 58) 1 (kX8_init 28 rfl) rfl rfl rfl ?_
  refine B_get (n9 := 61) (v := .ref 3) xf_X8 rfl (by decide) (by decide) rfl fl_X8_23 (kX8_init 29 rfl) rfl ?_
  refine B_alen (n9 := 62) (v := 17) (t0 := 1) (N := 17) rfl (by decide) rfl rfl (kX8_init 30 rfl) rfl ?_
  refine B_ge_f (n9 := 65) (tgt := 81) (by decide) (kX8_init 31 rfl) rfl rfl ?_
  refine B_aload_n (n9 := 66) 1 (kX8_init 32 rfl) rfl rfl rfl ?_
  refine B_get (n9 := 69) (v := .ref 3) xf_X8 rfl (by decide) (by decide) rfl fl_X8_23 (kX8_init 33 rfl) rfl ?_
  refine B_iload_n (n9 := 70) 0 (kX8_init 34 rfl) rfl rfl rfl ?_
  refine B_iload_n (n9 := 71) 0 (kX8_init 35 rfl) rfl rfl rfl ?_
  refine B_callTS (n9 := 74) (r := keysL.getD 16 0) (As := [.int 16]) (st := [.int 16, .ref 3]) (N := mX8_keyWord) (d1 := 5) (kwc 16 (by decide)) rfl (by decide) ml_X8_36 mf_X8_keyWord rfl rfl (Nat.le_of_ble_eq_true rfl) (Nat.le_of_ble_eq_true rfl) (Nat.le_of_ble_eq_true rfl) (kX8_init 36 rfl) rfl ?_
  refine B_last (n9 := 75) (o' := ((3, .inl (g.2.2.1 1, 17, .inr (.inl (vp_updL (vp_updL (vp_updL (vp_updL (vp_updL (vp_updL (vp_updL (vp_updL (vp_updL (vp_updL (vp_updL (vp_updL (vp_updL (vp_updL (vp_updL (vp_updL (vp_updL (fun _ => 0) (Int32.toNatClampNeg 0) (keysL.getD 0 0)) (Int32.toNatClampNeg 1) (keysL.getD 1 0)) (Int32.toNatClampNeg 2) (keysL.getD 2 0)) (Int32.toNatClampNeg 3) (keysL.getD 3 0)) (Int32.toNatClampNeg 4) (keysL.getD 4 0)) (Int32.toNatClampNeg 5) (keysL.getD 5 0)) (Int32.toNatClampNeg 6) (keysL.getD 6 0)) (Int32.toNatClampNeg 7) (keysL.getD 7 0)) (Int32.toNatClampNeg 8) (keysL.getD 8 0)) (Int32.toNatClampNeg 9) (keysL.getD 9 0)) (Int32.toNatClampNeg 10) (keysL.getD 10 0)) (Int32.toNatClampNeg 11) (keysL.getD 11 0)) (Int32.toNatClampNeg 12) (keysL.getD 12 0)) (Int32.toNatClampNeg 13) (keysL.getD 13 0)) (Int32.toNatClampNeg 14) (keysL.getD 14 0)) (Int32.toNatClampNeg 15) (keysL.getD 15 0)) (Int32.toNatClampNeg 16) (keysL.getD 16 0))))) :: (1, .inr (8, [.ref (ad g 2), .int 0, .int 0, .int 0, .ref (ad g 3), .ref (ad g 4), .ref (ad g 5), .ref (ad g 6), .int 0, .int 0, .int 0, .int 0])) :: o')) rfl (by decide) (show ¬ ((16 : Int32) < 0 ∨ 17 ≤ (16 : Int32).toNatClampNeg) from by decide) rfl (kX8_init 37 rfl) rfl ?_
  refine B_iinc (n9 := 78) 0 (v := 17) (L1 := [(1, .int 17), (0, .ref 1)]) (kX8_init 38 rfl) rfl rfl (by decide) (Nat.le_of_ble_eq_true rfl) rfl ?_
  refine B_goto (tgt := 56) (kX8_init 39 rfl) rfl ?_
  refine B_iload_n (n9 := 57) 0 (kX8_init 27 rfl) rfl rfl rfl ?_
  refine B_aload_n (n9 := 58) 1 (kX8_init 28 rfl) rfl rfl rfl ?_
  refine B_get (n9 := 61) (v := .ref 3) xf_X8 rfl (by decide) (by decide) rfl fl_X8_23 (kX8_init 29 rfl) rfl ?_
  refine B_alen (n9 := 62) (v := 17) (t0 := 1) (N := 17) rfl (by decide) rfl rfl (kX8_init 30 rfl) rfl ?_
  refine B_ge_t (tgt := 81) (by decide) (kX8_init 31 rfl) rfl ?_
  refine B_closeA (fun H h => at_l (N := 17) (f1 := S0.2 3) (fun j hj => by rcases (show j = 0 ∨ j = 1 ∨ j = 2 ∨ j = 3 ∨ j = 4 ∨ j = 5 ∨ j = 6 ∨ j = 7 ∨ j = 8 ∨ j = 9 ∨ j = 10 ∨ j = 11 ∨ j = 12 ∨ j = 13 ∨ j = 14 ∨ j = 15 ∨ j = 16 by omega) with rfl | rfl | rfl | rfl | rfl | rfl | rfl | rfl | rfl | rfl | rfl | rfl | rfl | rfl | rfl | rfl | rfl <;> rfl) h) (lk_c (by decide) (ho 3 (by decide))) ?_
  refine B_close rfl (ho 1 (by decide)) ?_
  exact B_ret rfl (kX8_init 40 rfl)
