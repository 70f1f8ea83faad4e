def YB (p : Program) (l : Launch) (e : Env) (R : Room) (s : State) (m : MethodId) (args : Array Value) (below : List Frame) (meth : Method) (c : Code) (g : XG) (cells slots : Nat) (Q : State → Prop) (M : XM) (pc : Nat) (L : List (Nat × Value)) (st : List Value) (n : Nat) (o : XO) : Prop := ∀ (H : Heap) (locs : List Loc) (ls : Array Slot), HA g n o H → va_S (zA g) s.heap H locs → lv_has ls M.2.2.1 (L.map (fun q => (q.1, cv g q.2))) → W p l e R s m args below meth c H locs cells slots Q (F0 m pc ls (st.map (cv g)))
section YB1
variable {p : Program} {l : Launch} {e : Env} {R : Room} {s : State} {m : MethodId} {args : Array Value} {below : List Frame} {meth : Method} {c : Code} {g : XG} {cells slots : Nat} {Q : State → Prop} {M N : XM} {pc n9 n idx d1 mc ms k0 a : Nat} {L L1 : List (Nat × Value)} {st stk As : List Value} {o o1 oA : XO} {nA : Nat} {Cn : String} {T : u_T} {NN ci : Nat} {tyf : Nat → FieldType}
theorem YB_iconst (C : CY M p s m args meth c) (K : KA g s) {z : Int} {v : Int32} (hd : decode M.2.1 pc = .ok (.iconst z, 1)) (hn : pc + 1 = n9) (hv : Int32.ofInt z = v) (k : YB p l e R s m args below meth c g cells slots Q M n9 L (.int v :: st) n o) : YB p l e R s m args below meth c g cells slots Q M pc L (st) n o := by
  subst hn
  intro H locs ls hH hS hl
  exact lv_iconst C.1 C.2.1 hd hv (k _ _ _ hH hS hl)
theorem YB_dup (C : CY M p s m args meth c) (K : KA g s) {v : Value} (hd : decode M.2.1 pc = .ok (.dup, 1)) (hn : pc + 1 = n9) (hv : v.category = 1) (k : YB p l e R s m args below meth c g cells slots Q M n9 L (v :: v :: st) n o) : YB p l e R s m args below meth c g cells slots Q M pc L (v :: st) n o := by
  subst hn
  intro H locs ls hH hS hl
  exact lv_dup C.1 C.2.1 hd (by rw [cv_cat]; exact hv) (k _ _ _ hH hS hl)
theorem YB_astore_n (C : CY M p s m args meth c) (K : KA g s) {i x : Nat} {f : Fin 4} (hd : decode M.2.1 pc = .ok (.astore_n f, 1)) (hn : pc + 1 = n9) (hi : (f : Nat) = i) (hlt : i < M.2.2.1) (hL : (i, Value.ref x) :: L.filter (fun q => !(q.1 == i) && !(q.1 + 1 == i && q.2.category == 2)) = L1) (k : YB p l e R s m args below meth c g cells slots Q M n9 L1 (st) n o) : YB p l e R s m args below meth c g cells slots Q M pc L (.ref x :: st) n o := by
  subst hn
  intro H locs ls hH hS hl
  exact lv_astore_n C.1 C.2.1 hd hi hl hlt (L_f1 g i (.ref x) L) (fun ls hl => k _ _ _ hH hS (by rw [← hL]; exact hl))
theorem YB_newaJ (C : CY M p s m args meth c) (K : KA g s) {z : Int32} {N9 : Nat} (hKK : n < KK) (harr : Cond.arrayClass .long ∈ TT) (hz9 : ¬ z < 0) (hN : z.toNatClampNeg = N9) (hb : N9 * componentBytes .long ≤ 536870912) (hc1 : cells + 1 ≤ R.cells) (hs1 : slots + N9 ≤ R.slots) (hd : decode M.2.1 pc = .ok (.newarray .long, 2)) (hn : pc + 2 = n9) (hkd : kd n = 21) (hln : ln n = N9) (hz0 : S0.2 n = fun _ => 0) (hno : lk o n = none) (k : YB p l e R s m args below meth c g (cells + 1) (slots + N9) Q M n9 L (.ref n :: st) (n + 1) o) : YB p l e R s m args below meth c g cells slots Q M pc L (.int z :: st) n o := by
  subst hn
  intro H locs ls hH hS hl
  refine va_newaK C.1 C.2.1 (atype := .long) (C.2.2.2.2.2.1 _ harr) rfl hd rfl hz9 hN (by show N9 * componentBytes .long ≤ 536870912; exact hb) hc1 hs1 rfl fun H1 cA e1 z1 o1 hAr hNm => ?_
  have hcA : cA = g.2.2.1 1 := by
    have h2 := (K.2.1.2 1 _ rfl).2
    exact Option.some.inj (hNm.symm.trans h2)
  subst hcA
  have hS1 : va_S (zA g) s.heap H1 locs := ⟨Nat.le_trans hS.1 (by omega), fun x h1 h2 => (o1 x (Nat.lt_of_lt_of_le h1 hS.1)).trans (hS.2.1 x h1 h2), hS.2.2⟩
  have hk9 : va_P (g.1, g.2.1) xcl (wlA g n o) H1 := hH.2.2.kept (fun k x hx => o1 x.1 ((hH.2.2 k x hx).lt))
  have had : ad g n = H.size := by rw [ad_lt hKK, hH.2.1]
  have hP1 := hk9.app (w2 := [(ad g n, cellE g S0 n)]) (fun k x hx => by
    have hz : k < 1 := (List.getElem?_eq_some_iff.mp hx).1
    rw [show k = 0 by omega] at hx
    cases hx
    show va_at _ _ (ad g n, cellE g S0 n) H1
    rw [cellE_J hkd, hln, hz0, had]
    exact e1)
  rw [wlA_push (o1 := o) (cellA_no hno) (fun _ _ => rfl)] at hP1
  have hst : (Value.ref H.size :: st.map (cv g)) = (Value.ref n :: st).map (cv g) := by show _ = Value.ref (ad g n) :: _; rw [had]
  rw [hst]
  exact k _ _ _ ⟨hKK, z1.trans (by rw [hH.2.1]; omega), hP1⟩ hS1 hl
theorem YB_new (C : CY M p s m args meth c) (K : KA g s) {fs : List Value} (hX : XF ci Cn T NN tyf) (hKK : n < KK) (hcl : Cond.classLink M.1.cls idx Cn ∈ TT) (hinst : Cond.instantiable Cn NN ∈ TT) (hini : Cond.initialized Cn ∈ TT) (hfs : ∀ j, j < NN → defaultValue (tyf j) = vp_V fs j) (hc1 : cells + 1 ≤ R.cells) (hs1 : slots + NN ≤ R.slots) (hd : decode M.2.1 pc = .ok (.new idx, 3)) (hn : pc + 3 = n9) (k : YB p l e R s m args below meth c g (cells + 1) (slots + NN) Q M n9 L (.ref n :: st) (n + 1) ((n, .inr (ci, fs)) :: o)) : YB p l e R s m args below meth c g cells slots Q M pc L (st) n o := by
  subst hn
  obtain ⟨h1, h2, h3, h4, h5, h6, h7⟩ := hX
  intro H locs ls hH hS hl
  have hT := C.2.2.2.2.2.1
  have hKn := K.2.1.1 ci _ h2
  refine W.newcK C.1 C.2.1 C.2.2.2.2.1 (hT _ hcl) (hT _ hinst) (hT _ hini) rfl hd hc1 hs1 hKn.2.1 rfl fun H1 kC hkC e1 z1 o1 => ?_
  have hS1 : va_S (zA g) s.heap H1 locs := ⟨Nat.le_trans hS.1 (by omega), fun x h1 h2 => (o1 x (Nat.lt_of_lt_of_le h1 hS.1)).trans (hS.2.1 x h1 h2), hS.2.2⟩
  have hk9 : va_P (g.1, g.2.1) xcl (wlA g n o) H1 := hH.2.2.kept (fun k x hx => o1 x.1 ((hH.2.2 k x hx).lt))
  have had : ad g n = H.size := by rw [ad_lt hKK, hH.2.1]
  have hP1 := hk9.app (w2 := [(ad g n, .inr (ci, fs))]) (fun k x hx => by
    have hz : k < 1 := (List.getElem?_eq_some_iff.mp hx).1
    rw [show k = 0 by omega] at hx
    cases hx
    refine ⟨_, h2, ?_⟩
    show t_OB (ad g n) _ _ _ H1 _
    rw [had]
    exact (u_born tyf hT (fun w hw => h4 w hw) hKn hkC e1 h5).to hfs)
  rw [wlA_push (o1 := ((n, .inr (ci, fs)) :: o)) cellA_eq (fun k hk => cellA_ne (by omega))] at hP1
  have hst : (Value.ref H.size :: st.map (cv g)) = (Value.ref n :: st).map (cv g) := by show _ = Value.ref (ad g n) :: _; rw [had]
  show W _ _ _ _ _ _ _ _ _ _ _ _ _ _ _ (F0 m (pc + 3) ls (Value.ref H.size :: st.map (cv g)))
  rw [hst]
  exact k _ _ _ ⟨hKK, z1.trans (by rw [hH.2.1]; omega), hP1⟩ hS1 hl
end YB1
section YB2
variable {p : Program} {l : Launch} {e : Env} {R : Room} {s : State} {m : MethodId} {args : Array Value} {below : List Frame} {meth : Method} {c : Code} {g : XG} {cells slots : Nat} {Q : State → Prop} {M N : XM} {pc n9 n idx d1 mc ms k0 a : Nat} {L L1 : List (Nat × Value)} {st stk As : List Value} {o o1 oA : XO} {nA : Nat} {Cn : String} {T : u_T} {NN ci : Nat} {tyf : Nat → FieldType}
theorem YB_callI (C : CY M p s m args meth c) (K : KA g s) (hC : ClA l g d1 mc ms N (.ref a :: As) n o nA oA) (hd1 : d1 + 1 ≤ R.frames) (hd2 : 40 + 40 * d1 ≤ R.locals) (hlk : Cond.methodLink M.1.cls idx N.1 ∈ TT) (hf : MFi N k0) (hlen : As.length = k0) (ha : a < KK) (hstk : As.reverse ++ .ref a :: st = stk) (hcat : (st.map fun v => v.category).sum ≤ 8) (hc1 : cells + mc ≤ R.cells) (hs1 : slots + ms ≤ R.slots) (hd : decode M.2.1 pc = .ok (.invokespecial idx, 3)) (hn : pc + 3 = n9) (k : YB p l e R s m args below meth c g (cells + mc) (slots + ms) Q M n9 L (st) nA oA) : YB p l e R s m args below meth c g cells slots Q M pc L (stk) n o := by
  subst hn; subst hstk
  intro H locs ls hH hS hl
  obtain ⟨f0, f1, f3, f4, f5, f6, f7, f8⟩ := hf
  have hT := C.2.2.2.2.2.1
  have hcode : Cond.code N.1 N.2.1 N.2.2.1 N.2.2.2 ∈ TT := by rw [f8]; exact f4
  have r2 : 8 + (N.2.2.1 + 11) + (rmA d1 mc ms).locals ≤ R.locals := by show 8 + (N.2.2.1 + 11) + 40 * d1 ≤ R.locals; omega
  have hr := va_runI (Ts := TT) (own := M.1.cls) (b := ad g a) (As := As.map (cv g)) (bytes := N.2.1) (maxL := N.2.2.1) (locs := locs) (cells := cells) (slots := slots) (rest := st.map (cv g)) (g := F0 m pc ls ((As.reverse ++ Value.ref a :: st).map (cv g))) (below := below) (e := e) (meth := meth) ⟨C.1, C.2.1, C.2.2.1, C.2.2.2.2.1, hT⟩ hC
    ⟨⟨rfl, rfl, hd1, r2, mws_payT hT hcode, by rw [← f8]; exact List.mem_cons_self, hT _ f4, hT _ f3, f5, par_n f6, hT _ hlk⟩, f0, hT _ f1⟩
    ⟨PA_blind, fun U hU hW => ⟨rfl, by rw [hU]; exact hH, KA_call K hS hU hW⟩⟩ rfl (by rw [List.length_map]; exact hlen) hl.1 (by show (As.reverse ++ Value.ref a :: st).map (cv g) = _; rw [List.map_append, List.map_reverse, List.map_cons]; rfl) (lv_room (by rw [cv_sum]; exact hcat)) hd ⟨hc1, hs1⟩
  intro T hT X
  obtain ⟨v, st₀, t, T', Ls, h0, X', hL, e1, e2, ⟨⟨hv, hb⟩, hz, hk⟩, hst⟩ := hr T hT X
  have hv : v = none := by cases hv; rfl
  subst hv
  rw [h0] at hz hk
  obtain ⟨t2, a1, b1⟩ := k T'.heap (locs ++ Ls) ls (by rw [e1]; exact hb)
    ⟨Nat.le_trans hS.1 (by rw [e1]; exact hz), fun q h1 h2 => by rw [e1, hk q (Nat.lt_of_lt_of_le h1 hS.1) h2]; exact hS.2.1 q h1 h2, fun q hq => by
      rcases List.mem_append.mp hq with h | h
      · exact hS.2.2 q h
      · exact hL q h⟩ hl T' rfl X'
  exact ⟨t2, hst t2 a1, b1⟩
end YB2
