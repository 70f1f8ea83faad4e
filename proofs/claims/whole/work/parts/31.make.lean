theorem arrV_ext {c : ClassId} {N : Nat} {f f' : Nat → Value} (h : ∀ j, j < N → f j = f' j) : arrV c N f = arrV c N f' := by
  unfold arrV
  congr 2
  funext j
  exact h j.val j.isLt
def MFi (N : XM) (k : Nat) : Prop := N.1.name = "<init>" ∧ Cond.instanceMethod N.1 ∈ TT ∧ Cond.initialized N.1.cls ∈ TT ∧ Cond.code N.1 N.2.1 N.2.2.1 none ∈ TT ∧ (N.1.cls ≠ "java/lang/invoke/MethodHandle" ∧ N.1.cls ≠ "java/lang/invoke/VarHandle") ∧ (parseMethodDescriptor N.1.desc).map (fun d => d.parameters.length) = some k ∧ N.2.2.1 ≤ 21 ∧ N.2.2.2 = none
section BR2
variable {l : Launch} {g : XG} {d d1 MC MS mc ms k0 : Nat} {M N : XM} {pc n9 n nA tgt idx a : Nat} {L L1 : List (Nat × Value)} {st stk As : List Value} {o o' o1 oA : XO} {c sl n1 : Nat}
/-- a row whose places stand as the picture has them -/
theorem B_closeA {e0 : va_E} (he : ∀ H : Heap, va_at (g.1, g.2.1) xcl (ad g a, e0) H → va_at (g.1, g.2.1) xcl (ad g a, cellE g S0 a) H) (hno : lk o a = none) (k : B l g d MC MS M n9 L (st) n o c sl n1 o1) : B l g d MC MS M n9 L st n ((a, e0) :: o) c sl n1 o1 := by
  intro p e s m args below meth c0 C K hin H locs ls hH hS hl
  refine k _ _ _ _ _ _ _ _ C K hin _ _ _ ⟨hH.1, hH.2.1, fun j q hq => ?_⟩ hS hl
  obtain ⟨hj, rfl⟩ := wlA_of hq
  have h1 := hH.2.2 j _ (wlA_at g _ hj)
  by_cases h : j = a
  · subst h
    rw [cellA_eq] at h1
    show va_at _ _ (ad g j, cellA g o j) H
    rw [cellA_no hno]
    exact he H h1
  · rw [cellA_ne h] at h1
    exact h1
theorem B_alen {N : Nat} {f : (Nat → Int32) ⊕ (Nat → Int64) ⊕ (Nat → UInt32) ⊕ (Nat → UInt64) ⊕ (Nat → Option Nat)} {t0 : Nat} {ty : FieldType} {v : Int32} (ho : lk o a = some (.inl (g.2.2.1 t0, N, f))) (ha : a < n) (ht : (xtys g)[t0]? = some (g.2.2.1 t0, ty)) (hv : Int32.ofNat N = v) (hd : decode M.2.1 pc = .ok (.arraylength, 1)) (hn : pc + 1 = n9) (k : B l g d MC MS M n9 L (.int v :: st) n o c sl n1 o1) : B l g d MC MS M pc L (.ref a :: st) n o c sl n1 o1 := by
  subst hn
  intro p e s m args below meth c0 C K hin H locs ls hH hS hl
  exact va_alen (D := (g.1, g.2.1)) C.1 C.2.1 K.2.1 hH.2.2 a t0 (by rw [wlA_at g o ha, cellA_so ho]) ht hv hd (k _ _ _ _ _ _ _ _ C K hin _ _ _ hH hS hl)
theorem B_getM (hlk : Cond.fieldLinkNest M.1.cls idx "ScentCourt" "MOST_LINES" "[I" "ScentCourt" ∈ NW) (hd : decode M.2.1 pc = .ok (.getstatic idx, 3)) (hn : pc + 3 = n9) (k : B l g d MC MS M n9 L (.ref KK :: st) n o c sl n1 o1) : B l g d MC MS M pc L (st) n o c sl n1 o1 := by
  subst hn
  intro p e s m args below meth c0 C K hin H locs ls hH hS hl
  exact va_getsN C.1 C.2.1 K.2.2.2.1 hS C.2.2.2.2.1 (va_Nw.use rfl (K.2.2.1 _ hlk)) (fun _ h => h) hd (k _ _ _ _ _ _ _ _ C K hin _ _ _ hH hS hl)
theorem B_alenM (hd : decode M.2.1 pc = .ok (.arraylength, 1)) (hn : pc + 1 = n9) (k : B l g d MC MS M n9 L (.int 6 :: st) n o c sl n1 o1) : B l g d MC MS M pc L (.ref KK :: st) n o c sl n1 o1 := by
  subst hn
  intro p e s m args below meth c0 C K hin H locs ls hH hS hl
  exact va_tlen (v := 6) C.1 C.2.1 K.2.2.2.2.1 hS rfl hd (k _ _ _ _ _ _ _ _ C K hin _ _ _ hH hS hl)
theorem B_iast {N : Nat} {f : Nat → Int32} {i x : Int32} (ho : lk o a = some (.inl (g.2.2.1 0, N, .inl f))) (ha : a < n) (hin9 : vp_in i N) (ho' : oset o a (.inl (g.2.2.1 0, N, .inl (upd f i.toNatClampNeg x))) = o') (hd : decode M.2.1 pc = .ok (.iastore, 1)) (hn : pc + 1 = n9) (k : B l g d MC MS M n9 L (st) n o' c sl n1 o1) : B l g d MC MS M pc L (.int x :: .int i :: .ref a :: st) n o c sl n1 o1 := by
  subst hn
  intro p e s m args below meth c0 C K hin H locs ls hH hS hl
  have hw : (wlA g n o)[a]? = some (ad g a, .inl (g.2.2.1 0, N, .inl f)) := by rw [wlA_at g o ha, cellA_so ho]
  refine W.iast C.1 C.2.1 (hH.2.2 a _ hw) ((K.2.1.2 0 _ rfl).1 N (fun j => .int (f j))) (fun q => by cases q) (by show ¬ (i < 0 ∨ (arrV _ _ _).slots.size ≤ _); rw [arrV_size]; exact hin9) rfl rfl hd fun H1 e z oq => ?_
  have hP1 := hH.2.2.set (e := .inl (g.2.2.1 0, N, .inl (upd f i.toNatClampNeg x))) (wlD g hH.1 o) hw (by
    show H1[ad g a]? = some (vp_cell _ _)
    rw [e, vp_cell_i, vp_cell_i, arrV_store]
    congr 2
    funext q
    by_cases hq : q = i.toNatClampNeg
    · subst hq
      simp [updV, upd]
    · simp [updV, upd, hq]) oq
  rw [wlA_set ho, ho'] at hP1
  exact k _ _ _ _ _ _ _ _ C K hin _ _ _ ⟨hH.1, z.trans hH.2.1, hP1⟩ (hS.put z oq (by show zA g (ad g a); rw [ad_lt (by have := hH.1; omega)]; exact Nat.le_add_right _ _)) hl
theorem B_last {N : Nat} {f : Nat → Int64} {i : Int32} {x : Int64} (ho : lk o a = some (.inl (g.2.2.1 1, N, .inr (.inl f)))) (ha : a < n) (hin9 : vp_in i N) (ho' : oset o a (.inl (g.2.2.1 1, N, .inr (.inl (vp_updL f i.toNatClampNeg x)))) = o') (hd : decode M.2.1 pc = .ok (.lastore, 1)) (hn : pc + 1 = n9) (k : B l g d MC MS M n9 L (st) n o' c sl n1 o1) : B l g d MC MS M pc L (.long x :: .int i :: .ref a :: st) n o c sl n1 o1 := by
  subst hn
  intro p e s m args below meth c0 C K hin H locs ls hH hS hl
  have hw : (wlA g n o)[a]? = some (ad g a, .inl (g.2.2.1 1, N, .inr (.inl f))) := by rw [wlA_at g o ha, cellA_so ho]
  refine W.last C.1 C.2.1 (hH.2.2 a _ hw) ((K.2.1.2 1 _ rfl).1 N (fun j => .long (f j))) (fun q => by cases q) (by show ¬ (i < 0 ∨ (arrV _ _ _).slots.size ≤ _); rw [arrV_size]; exact hin9) rfl rfl hd fun H1 e z oq => ?_
  have hP1 := hH.2.2.set (e := .inl (g.2.2.1 1, N, .inr (.inl (vp_updL f i.toNatClampNeg x)))) (wlD g hH.1 o) hw (by
    show H1[ad g a]? = some (vp_cell _ _)
    rw [e, vp_cell_l, vp_cell_l, arrV_store]
    congr 2
    funext q
    by_cases hq : q = i.toNatClampNeg
    · subst hq
      simp [updV, vp_updL]
    · simp [updV, vp_updL, hq]) oq
  rw [wlA_set ho, ho'] at hP1
  exact k _ _ _ _ _ _ _ _ C K hin _ _ _ ⟨hH.1, z.trans hH.2.1, hP1⟩ (hS.put z oq (by show zA g (ad g a); rw [ad_lt (by have := hH.1; omega)]; exact Nat.le_add_right _ _)) hl
theorem B_anew {Cn : String} {t0 N : Nat} {z : Int32} (hKK : n < KK) (ht : (xtys g)[t0]? = some (g.2.2.1 t0, .object Cn)) (hcl : Cond.classLink M.1.cls idx Cn ∈ TT) (hov : Cn ∈ (["ScentCourt$World", "ScentCourt$Hill", "ScentCourt$Sentence"] : List String)) (hz9 : ¬ z < 0) (hN : z.toNatClampNeg = N) (hb : N * 4 ≤ 536870912) (hc1 : c + 1 ≤ MC) (hs1 : sl + N ≤ MS) (hd : decode M.2.1 pc = .ok (.anewarray idx, 3)) (hn : pc + 3 = n9) (k : B l g d MC MS M n9 L (.ref n :: st) (n + 1) ((n, .inl (g.2.2.1 t0, N, .inr (.inr (.inr (.inr (fun _ => none)))))) :: o) (c + 1) (sl + N) n1 o1) : B l g d MC MS M pc L (.int z :: st) n o c sl n1 o1 := by
  subst hn
  subst hN
  intro p e s m args below meth c0 C K hin H locs ls hH hS hl
  refine W.anew C.1 C.2.1 C.2.2.2.2.1 (TTs C hcl) (va_AO.use (K.2.2.2.2.2.2 _ hov)) rfl hd rfl hz9 hb (by show c + 1 ≤ MC; exact hc1) (by show sl + _ ≤ MS; exact hs1) fun cA kA comp f1 f2 f3 f4 => ?_
  have hcA : cA = g.2.2.1 t0 := by
    have h2 := (K.2.1.2 t0 _ ht).2
    obtain ⟨kA', comp', -, -, -, h3⟩ := h2
    exact Option.some.inj (f1.symm.trans h3)
  subst hcA
  generalize hH1 : H.push ({ cls := g.2.2.1 t0, slots := Array.replicate z.toNatClampNeg .null, vm := .none } : Cell) = H1
  have z1 : H1.size = H.size + 1 := by rw [← hH1, Array.size_push]
  have e1 : H1[H.size]? = some (arrV (g.2.2.1 t0) z.toNatClampNeg (fun _ => .null)) := by rw [← hH1, Array.getElem?_push_size, ← arrV_new]
  have o1 : ∀ q : Nat, q < H.size → H1[q]? = H[q]? := fun q hq => by rw [← hH1, Array.getElem?_push, if_neg (Nat.ne_of_lt hq)]
  have hS1 : va_S (zA g) s.heap H1 locs := ⟨Nat.le_trans hS.1 (by omega), fun x h1 h2 => (o1 x (Nat.lt_of_lt_of_le h1 hS.1)).trans (hS.2.1 x h1 h2), hS.2.2⟩
  have hk9 : va_P (g.1, g.2.1) xcl (wlA g n o) H1 := hH.2.2.kept (fun k x hx => o1 x.1 ((hH.2.2 k x hx).lt))
  have had : ad g n = H.size := by rw [ad_lt hKK, hH.2.1]
  have hP1 := hk9.app (w2 := [(ad g n, .inl (g.2.2.1 t0, z.toNatClampNeg, .inr (.inr (.inr (.inr (fun _ => none))))))]) (fun k x hx => by
    have hz : k < 1 := (List.getElem?_eq_some_iff.mp hx).1
    rw [show k = 0 by omega] at hx
    cases hx
    show H1[ad g n]? = some _
    rw [had]
    exact e1)
  rw [wlA_push (o1 := ((n, .inl (g.2.2.1 t0, z.toNatClampNeg, .inr (.inr (.inr (.inr (fun _ => none)))))) :: o)) cellA_eq (fun k hk => cellA_ne (by omega))] at hP1
  show W _ _ _ _ _ _ _ _ _ _ _ _ _ _ _ (F0 m (pc + 3) ls (Value.ref H.size :: st.map (cv g)))
  have hst : (Value.ref H.size :: st.map (cv g)) = (Value.ref n :: st).map (cv g) := by show _ = Value.ref (ad g n) :: _; rw [had]
  rw [hst]
  exact k _ _ _ _ _ _ _ _ C K hin _ _ _ ⟨hKK, z1.trans (by rw [hH.2.1]; omega), hP1⟩ hS1 hl
theorem B_aast {N t0 ci x : Nat} {r : vw_C} {vs : List Value} {f : Nat → Option Nat} {i : Int32} (ho : lk o a = some (.inl (g.2.2.1 t0, N, .inr (.inr (.inr (.inr f)))))) (ha : a < n) (hx : x < n) (ht : (xtys g)[t0]? = some (g.2.2.1 t0, .object r.1)) (hv : cellA g o x = .inr (ci, vs)) (hc : xcl[ci]? = some r) (hin9 : vp_in i N) (ho' : oset o a (.inl (g.2.2.1 t0, N, .inr (.inr (.inr (.inr (va_up f i.toNatClampNeg (some (ad g x)))))))) = o') (hd : decode M.2.1 pc = .ok (.aastore, 1)) (hn : pc + 1 = n9) (k : B l g d MC MS M n9 L (st) n o' c sl n1 o1) : B l g d MC MS M pc L (.ref x :: .int i :: .ref a :: st) n o c sl n1 o1 := by
  subst hn
  intro p e s m args below meth c0 C K hin H locs ls hH hS hl
  have hw : (wlA g n o)[a]? = some (ad g a, .inl (g.2.2.1 t0, N, .inr (.inr (.inr (.inr f))))) := by rw [wlA_at g o ha, cellA_so ho]
  have hlt : i.toNatClampNeg < N := Nat.not_le.mp fun q => hin9 (Or.inr q)
  have h0 : ¬ i < 0 := fun q => hin9 (Or.inl q)
  obtain ⟨r', hr', cellV, g1, g2, g3, -⟩ := hH.2.2 x _ (by rw [wlA_at g o hx, hv])
  have hcls := (K.2.1.1 ci r hc).2
  obtain ⟨kA, comp, k1, k2, k3, -⟩ := (K.2.1.2 t0 _ ht).2
  have hcomp : comp = g.1 ci := Option.some.inj (k3.symm.trans hcls.1)
  subst hcomp
  obtain ⟨kC, hkC, -⟩ := hcls.2
  refine W.aast C.1 C.2.1 (hH.2.2 a _ hw) (fun q h => by cases h) (fun h => by cases h) k1 k2 rfl hkC ⟨h0, by show _ < (arrV _ _ _).slots.size; rw [arrV_size]; exact hlt⟩ g1 (fun q h => by rw [g3] at h; cases h) (by rw [g2]; exact hkC) (by rw [g2]; exact va_assign hcls) rfl rfl hd fun H1 e z oq => ?_
  have hP1 := hH.2.2.set (e := .inl (g.2.2.1 t0, N, .inr (.inr (.inr (.inr (va_up f i.toNatClampNeg (some (ad g x)))))))) (wlD g hH.1 o) hw (by
    show H1[ad g a]? = some (vp_cell _ _)
    rw [e, vp_cell_q, vp_cell_q, arrV_store]
    congr 2
    funext q
    by_cases hq : q = i.toNatClampNeg
    · subst hq
      simp [updV, va_up, va_rf]
    · simp [updV, va_up, hq]) oq
  rw [wlA_set ho, ho'] at hP1
  exact k _ _ _ _ _ _ _ _ C K hin _ _ _ ⟨hH.1, z.trans hH.2.1, hP1⟩ (hS.put z oq (by show zA g (ad g a); rw [ad_lt (by have := hH.1; omega)]; exact Nat.le_add_right _ _)) hl
theorem B_run {p : Program} {e : Env} {s : State} {m : MethodId} {args : Array Value} {below : List Frame} {meth : Method} {c0 : Code} {H : Heap} {locs : List Loc} {ls : Array Slot} {st0 rest : List Value} {av : Array Value} {Q : State → Prop}
    (hr : va_Run p l e (rmA d MC MS) s m args below meth c0 H locs c sl mc ms (F0 m pc ls st0) rest (QA g nA oA av) (zA g)) (hS : va_S (zA g) s.heap H locs)
    (kk : ∀ (H1 : Heap) (locs1 : List Loc), HA g nA oA H1 → va_S (zA g) s.heap H1 locs1 → W p l e (rmA d MC MS) s m args below meth c0 H1 locs1 (c + mc) (sl + ms) Q (F0 m (pc + 3) ls rest)) : W p l e (rmA d MC MS) s m args below meth c0 H locs c sl Q (F0 m pc ls st0) := by
  intro T hT X
  obtain ⟨v, st₀, t, T', Ls, h0, X', hL, e1, e2, ⟨⟨hv, hb⟩, hz, hk⟩, st⟩ := hr T hT X
  have hv : v = none := by cases hv; rfl
  subst hv
  rw [h0] at hz hk
  obtain ⟨t2, a1, b1⟩ := kk T'.heap (locs ++ Ls) (by rw [e1]; exact hb)
    ⟨Nat.le_trans hS.1 (by rw [e1]; exact hz), fun q h1 h2 => by rw [e1, hk q (Nat.lt_of_lt_of_le h1 hS.1) h2]; exact hS.2.1 q h1 h2, fun q hq => by
      rcases List.mem_append.mp hq with h | h
      · exact hS.2.2 q h
      · exact hL q h⟩ T' rfl X'
  exact ⟨t2, st t2 a1, b1⟩
theorem B_callIN {host : String} (hC : ClA l g d1 mc ms N (.ref a :: As) n o nA oA) (hdd : d1 + 1 ≤ d) (hlk : Cond.methodLinkNest M.1.cls idx N.1 host ∈ NW) (hf : MFi N k0) (hlen : As.length = k0) (ha : a < KK) (hstk : As.reverse ++ .ref a :: st = stk) (hcat : (st.map fun v => v.category).sum ≤ 8) (hc1 : c + mc ≤ MC) (hs1 : sl + ms ≤ MS) (hd : decode M.2.1 pc = .ok (.invokespecial idx, 3)) (hn : pc + 3 = n9) (k : B l g d MC MS M n9 L (st) nA oA (c + mc) (sl + ms) n1 o1) : B l g d MC MS M pc L (stk) n o c sl n1 o1 := by
  subst hn; subst hstk
  intro p e s m args below meth c0 C K hin H locs ls hH hS hl
  obtain ⟨f0, f1, f3, f4, f5, f6, f7, f8⟩ := hf
  have hcode : Cond.code N.1 N.2.1 N.2.2.1 N.2.2.2 ∈ TT := by rw [f8]; exact f4
  have hpay := mws_pay C hcode
  have r1 : (rmA d1 mc ms).frames + 1 ≤ (rmA d MC MS).frames := hdd
  have r2 : 8 + (N.2.2.1 + 11) + (rmA d1 mc ms).locals ≤ (rmA d MC MS).locals := by show 8 + (N.2.2.1 + 11) + 40 * d1 ≤ 40 * d; omega
  refine B_run (nA := nA) (oA := oA) (rest := st.map (cv g)) (va_runIN (host := host) (Ts := mws M) (own := M.1.cls) (b := ad g a) (As := As.map (cv g)) (bytes := N.2.1) (maxL := N.2.2.1) ⟨C.1, C.2.1, C.2.2.1, C.2.2.2.2.1, C.2.2.2.2.2.1⟩ hC
    ⟨⟨⟨rfl, rfl, r1, r2, hpay, by rw [← f8]; exact List.mem_cons_self⟩, TTs C f4, TTs C f3, f5, par_n f6, va_Nw.use rfl (K.2.2.1 _ hlk)⟩, f0, TTs C f1⟩
    ⟨PA_blind, fun U hU hW => ⟨rfl, by rw [hU]; exact hH, KA_call K hS hU hW⟩⟩ rfl (by rw [List.length_map]; exact hlen) hl.1 (by show (As.reverse ++ Value.ref a :: st).map (cv g) = _; rw [List.map_append, List.map_reverse, List.map_cons]; rfl) (lv_room (by rw [cv_sum]; exact hcat)) hd ⟨hc1, hs1⟩) hS (fun H1 locs1 hH1 hS1 => ?_)
  exact k _ _ _ _ _ _ _ _ C K hin _ _ _ hH1 hS1 hl
theorem B_callI (hC : ClA l g d1 mc ms N (.ref a :: As) n o nA oA) (hdd : d1 + 1 ≤ d) (hlk : Cond.methodLink M.1.cls idx N.1 ∈ TT) (hf : MFi N k0) (hlen : As.length = k0) (ha : a < KK) (hstk : As.reverse ++ .ref a :: st = stk) (hcat : (st.map fun v => v.category).sum ≤ 8) (hc1 : c + mc ≤ MC) (hs1 : sl + ms ≤ MS) (hd : decode M.2.1 pc = .ok (.invokespecial idx, 3)) (hn : pc + 3 = n9) (k : B l g d MC MS M n9 L (st) nA oA (c + mc) (sl + ms) n1 o1) : B l g d MC MS M pc L (stk) n o c sl n1 o1 := by
  subst hn; subst hstk
  intro p e s m args below meth c0 C K hin H locs ls hH hS hl
  obtain ⟨f0, f1, f3, f4, f5, f6, f7, f8⟩ := hf
  have hcode : Cond.code N.1 N.2.1 N.2.2.1 N.2.2.2 ∈ TT := by rw [f8]; exact f4
  have hpay := mws_pay C hcode
  have r1 : (rmA d1 mc ms).frames + 1 ≤ (rmA d MC MS).frames := hdd
  have r2 : 8 + (N.2.2.1 + 11) + (rmA d1 mc ms).locals ≤ (rmA d MC MS).locals := by show 8 + (N.2.2.1 + 11) + 40 * d1 ≤ 40 * d; omega
  refine B_run (nA := nA) (oA := oA) (rest := st.map (cv g)) (va_runI (Ts := mws M) (own := M.1.cls) (b := ad g a) (As := As.map (cv g)) (bytes := N.2.1) (maxL := N.2.2.1) ⟨C.1, C.2.1, C.2.2.1, C.2.2.2.2.1, C.2.2.2.2.2.1⟩ hC
    ⟨⟨rfl, rfl, r1, r2, hpay, by rw [← f8]; exact List.mem_cons_self, TTs C f4, TTs C f3, f5, par_n f6, TTs C hlk⟩, f0, TTs C f1⟩
    ⟨PA_blind, fun U hU hW => ⟨rfl, by rw [hU]; exact hH, KA_call K hS hU hW⟩⟩ rfl (by rw [List.length_map]; exact hlen) hl.1 (by show (As.reverse ++ Value.ref a :: st).map (cv g) = _; rw [List.map_append, List.map_reverse, List.map_cons]; rfl) (lv_room (by rw [cv_sum]; exact hcat)) hd ⟨hc1, hs1⟩) hS (fun H1 locs1 hH1 hS1 => ?_)
  exact k _ _ _ _ _ _ _ _ C K hin _ _ _ hH1 hS1 hl
end BR2
theorem in_X11 : Cond.initialized RX11 ∈ TT := (TQ1 1 rfl rfl)
theorem in_X8 : Cond.initialized RX8 ∈ TT := (TQ1 2 rfl rfl)
theorem in_X2 : Cond.initialized RX2 ∈ TT := (TQ1 7 rfl rfl)
theorem in_X3 : Cond.initialized RX3 ∈ TT := (TQ1 8 rfl rfl)
theorem in_X10 : Cond.initialized RX10 ∈ TT := (TQ1 9 rfl rfl)
theorem in_X6 : Cond.initialized RX6 ∈ TT := (TQ1 10 rfl rfl)
theorem in_X7 : Cond.initialized RX7 ∈ TT := (TQ1 11 rfl rfl)
theorem in_X5 : Cond.initialized RX5 ∈ TT := (TQ1 12 rfl rfl)
theorem in_X4 : Cond.initialized RX4 ∈ TT := (TQ1 13 rfl rfl)
theorem in_X9 : Cond.initialized RX9 ∈ TT := (TQ1 14 rfl rfl)
theorem in_X0 : Cond.initialized RX0 ∈ TT := (TQ1 15 rfl rfl)
theorem in_X1 : Cond.initialized RX1 ∈ TT := (TQ1 16 rfl rfl)
theorem in_X12 : Cond.initialized RX12 ∈ TT := (TQ1 17 rfl rfl)
theorem cc_L_8 : Cond.classLink RL 8 "ScentCourt" ∈ TT := (TQ1 25 rfl rfl)
theorem it_X11 : Cond.instantiable RX11 20 ∈ TT := (TQ1 26 rfl rfl)
theorem ol_X11_3 : Cond.methodLink RX11 3 objectInit ∈ TT := (TQ1 30 rfl rfl)
theorem ob_1 : Cond.instanceMethod objectInit ∈ TT := (TQ1 31 rfl rfl)
theorem ob_2 : Cond.code objectInit ⟨#[0xb1]⟩ 1 none ∈ TT := (TQ1 32 rfl rfl)
theorem cc_X11_9 : Cond.classLink RX11 9 "ScentCourt$Tape" ∈ TT := (TQ1 33 rfl rfl)
theorem it_X8 : Cond.instantiable RX8 12 ∈ TT := (TQ1 34 rfl rfl)
theorem ol_X8_3 : Cond.methodLink RX8 3 objectInit ∈ TT := (TQ1 38 rfl rfl)
theorem ac_int : Cond.arrayClass .int ∈ TT := (TQ1 142 rfl rfl)
theorem ac_long : Cond.arrayClass .long ∈ TT := (TQ1 144 rfl rfl)
theorem cc_X11_16 : Cond.classLink RX11 16 "ScentCourt$Hill" ∈ TT := (TQ1 145 rfl rfl)
theorem it_X2 : Cond.instantiable RX2 8 ∈ TT := (TQ1 146 rfl rfl)
theorem ol_X2_3 : Cond.methodLink RX2 3 objectInit ∈ TT := (TQ1 150 rfl rfl)
theorem cc_X11_23 : Cond.classLink RX11 23 "ScentCourt$HillText" ∈ TT := (TQ1 201 rfl rfl)
theorem it_X3 : Cond.instantiable RX3 4 ∈ TT := (TQ1 202 rfl rfl)
theorem ol_X3_3 : Cond.methodLink RX3 3 objectInit ∈ TT := (TQ1 206 rfl rfl)
theorem cc_X3_9 : Cond.classLink RX3 9 "ScentCourt$Hill" ∈ TT := (TQ1 207 rfl rfl)
theorem cc_X11_32 : Cond.classLink RX11 32 "ScentCourt$World" ∈ TT := (TQ1 223 rfl rfl)
theorem it_X10 : Cond.instantiable RX10 9 ∈ TT := (TQ1 224 rfl rfl)
theorem ol_X10_3 : Cond.methodLink RX10 3 objectInit ∈ TT := (TQ1 228 rfl rfl)
theorem cc_X11_39 : Cond.classLink RX11 39 "ScentCourt$Sentence" ∈ TT := (TQ2 36 rfl rfl)
theorem it_X6 : Cond.instantiable RX6 4 ∈ TT := (TQ2 37 rfl rfl)
theorem ol_X6_3 : Cond.methodLink RX6 3 objectInit ∈ TT := (TQ2 41 rfl rfl)
theorem cc_X11_46 : Cond.classLink RX11 46 "ScentCourt$SentenceText" ∈ TT := (TQ2 55 rfl rfl)
theorem it_X7 : Cond.instantiable RX7 3 ∈ TT := (TQ2 56 rfl rfl)
theorem ol_X7_3 : Cond.methodLink RX7 3 objectInit ∈ TT := (TQ2 60 rfl rfl)
theorem cc_X7_9 : Cond.classLink RX7 9 "ScentCourt$Sentence" ∈ TT := (TQ2 61 rfl rfl)
theorem cc_X11_53 : Cond.classLink RX11 53 "ScentCourt$Pleas" ∈ TT := (TQ2 74 rfl rfl)
theorem it_X5 : Cond.instantiable RX5 1 ∈ TT := (TQ2 75 rfl rfl)
theorem ol_X5_3 : Cond.methodLink RX5 3 objectInit ∈ TT := (TQ2 79 rfl rfl)
theorem cc_X11_79 : Cond.classLink RX11 79 "ScentCourt$Noses" ∈ TT := (TQ2 88 rfl rfl)
theorem it_X4 : Cond.instantiable RX4 9 ∈ TT := (TQ2 89 rfl rfl)
theorem ol_X4_3 : Cond.methodLink RX4 3 objectInit ∈ TT := (TQ2 93 rfl rfl)
theorem cc_X11_86 : Cond.classLink RX11 86 "ScentCourt$Was" ∈ TT := (TQ2 124 rfl rfl)
theorem it_X9 : Cond.instantiable RX9 10 ∈ TT := (TQ2 125 rfl rfl)
theorem ol_X9_3 : Cond.methodLink RX9 3 objectInit ∈ TT := (TQ2 129 rfl rfl)
theorem cc_X11_93 : Cond.classLink RX11 93 "ScentCourt$Changed" ∈ TT := (TQ2 166 rfl rfl)
theorem it_X0 : Cond.instantiable RX0 8 ∈ TT := (TQ2 167 rfl rfl)
theorem ol_X0_3 : Cond.methodLink RX0 3 objectInit ∈ TT := (TQ2 171 rfl rfl)
theorem cc_X11_100 : Cond.classLink RX11 100 "ScentCourt$Draws" ∈ TT := (TQ2 199 rfl rfl)
theorem it_X1 : Cond.instantiable RX1 6 ∈ TT := (TQ2 200 rfl rfl)
theorem ol_X1_3 : Cond.methodLink RX1 3 objectInit ∈ TT := (TQ2 204 rfl rfl)
theorem cc_X1_9 : Cond.classLink RX1 9 "ScentCourt$World" ∈ TT := (TQ2 205 rfl rfl)
theorem cc_L_13 : Cond.classLink RL 13 "java/util/NoSuchElementException" ∈ TT := (TQ6 53 rfl rfl)
theorem cc_X11_148 : Cond.classLink RX11 148 "java/util/NoSuchElementException" ∈ TT := (TQ6 58 rfl rfl)
theorem cc_L_19 : Cond.classLink RL 19 "ScentCourtModel" ∈ TT := (TQ6 126 rfl rfl)
theorem it_X12 : Cond.instantiable RX12 60 ∈ TT := (TQ6 127 rfl rfl)
theorem ol_X12_1 : Cond.methodLink RX12 1 objectInit ∈ TT := (TQ6 131 rfl rfl)
theorem ac_boolean : Cond.arrayClass .boolean ∈ TT := (TQ7 73 rfl rfl)
theorem mi_X0 : MFi mX0_init 0 := ⟨rfl, (TQ2 169 rfl rfl), (TQ1 15 rfl rfl), (TQ2 170 rfl rfl), ⟨by decide +kernel, by decide +kernel⟩, by decide +kernel, by decide, rfl⟩
theorem mi_X1 : MFi mX1_init 0 := ⟨rfl, (TQ2 202 rfl rfl), (TQ1 16 rfl rfl), (TQ2 203 rfl rfl), ⟨by decide +kernel, by decide +kernel⟩, by decide +kernel, by decide, rfl⟩
theorem mi_X2 : MFi mX2_init 0 := ⟨rfl, (TQ1 148 rfl rfl), (TQ1 7 rfl rfl), (TQ1 149 rfl rfl), ⟨by decide +kernel, by decide +kernel⟩, by decide +kernel, by decide, rfl⟩
theorem mi_X3 : MFi mX3_init 1 := ⟨rfl, (TQ1 204 rfl rfl), (TQ1 8 rfl rfl), (TQ1 205 rfl rfl), ⟨by decide +kernel, by decide +kernel⟩, by decide +kernel, by decide, rfl⟩
theorem mi_X4 : MFi mX4_init 0 := ⟨rfl, (TQ2 91 rfl rfl), (TQ1 13 rfl rfl), (TQ2 92 rfl rfl), ⟨by decide +kernel, by decide +kernel⟩, by decide +kernel, by decide, rfl⟩
theorem mi_X5 : MFi mX5_init 0 := ⟨rfl, (TQ2 77 rfl rfl), (TQ1 12 rfl rfl), (TQ2 78 rfl rfl), ⟨by decide +kernel, by decide +kernel⟩, by decide +kernel, by decide, rfl⟩
theorem mi_X6 : MFi mX6_init 0 := ⟨rfl, (TQ2 39 rfl rfl), (TQ1 10 rfl rfl), (TQ2 40 rfl rfl), ⟨by decide +kernel, by decide +kernel⟩, by decide +kernel, by decide, rfl⟩
theorem mi_X7 : MFi mX7_init 1 := ⟨rfl, (TQ2 58 rfl rfl), (TQ1 11 rfl rfl), (TQ2 59 rfl rfl), ⟨by decide +kernel, by decide +kernel⟩, by decide +kernel, by decide, rfl⟩
theorem mi_X8 : MFi mX8_init 0 := ⟨rfl, (TQ1 36 rfl rfl), (TQ1 2 rfl rfl), (TQ1 37 rfl rfl), ⟨by decide +kernel, by decide +kernel⟩, by decide +kernel, by decide, rfl⟩
theorem mi_X9 : MFi mX9_init 0 := ⟨rfl, (TQ2 127 rfl rfl), (TQ1 14 rfl rfl), (TQ2 128 rfl rfl), ⟨by decide +kernel, by decide +kernel⟩, by decide +kernel, by decide, rfl⟩
theorem mi_X10 : MFi mX10_init 0 := ⟨rfl, (TQ1 226 rfl rfl), (TQ1 9 rfl rfl), (TQ1 227 rfl rfl), ⟨by decide +kernel, by decide +kernel⟩, by decide +kernel, by decide, rfl⟩
theorem mi_X11 : MFi mX11_init 0 := ⟨rfl, (TQ1 28 rfl rfl), (TQ1 1 rfl rfl), (TQ1 29 rfl rfl), ⟨by decide +kernel, by decide +kernel⟩, by decide +kernel, by decide, rfl⟩
theorem mi_X12 : MFi mX12_init 0 := ⟨rfl, (TQ6 129 rfl rfl), (TQ1 17 rfl rfl), (TQ6 130 rfl rfl), ⟨by decide +kernel, by decide +kernel⟩, by decide +kernel, by decide, rfl⟩
