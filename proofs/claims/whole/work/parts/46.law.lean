def rmL : Room := { frames := 13, cells := 1, slots := 6, locals := 560 }
def hhL : List (Nat × Nat × Nat × Nat) := [(0, 10, 13, 13)]
def lwv (R : Option Int32) : Int32 := match R with
  | none => 1
  | some _ => 0
def lws (S : XS) (R : Option Int32) : XS := match R with
  | none => S
  | some v => sL S 217 0 v.toInt64
def QL (g : XG) (S : XS) (R : Option Int32) : Array Value → State → Outcome → State → Prop := fun _ st oc t => oc = .returned (some (.int (lwv R))) ∧ XH g (lws S R) t.heap ∧ va_F (wA g) st t
def PW (g : XG) (S : XS) (av : List Value) : Array Value → State → Prop := va_Pc (av.map (cv g)) (fun U => XH g S U.heap ∧ KX g U ∧ EX (wA g) U.heap U)
theorem PW_blind {g : XG} {S : XS} {av : List Value} : FrameBlind (PW g S av) := by
  intro a U g' mk h
  obtain ⟨h1, h2, ⟨h3, h4, h5, h6⟩, h7⟩ := h
  exact ⟨h1, h2, ⟨va_K.moved (u := U) (U := U.calling g' mk a) (Vm.Alike.refl U.vm) h3, fun w hw => NW_same (u := U) (U := U.calling g' mk a) hw rfl (h4 w hw), va_Z.moved (u := U) (U := U.calling g' mk a) (Vm.Alike.refl U.vm) h5, va_T.moved (u := U) (U := U.calling g' mk a) (Vm.Alike.refl U.vm) h6⟩, EX.blind h7⟩
def cws (M : XM) : List Cond := .codeWith M.1 M.2.1 M.2.2.1 M.2.2.2 hhL :: TT
/-- a method of the law that catches what is thrown: it answers 1 where R is none; else 0, and what R holds lies in the law's long row -/
def ClL (l : Launch) (g : XG) (M : XM) (av : List Value) (S : XS) (R : Option Int32) : Prop := Met l M.1 (cws M) rmL (PW g S av) (QL g S R) 1 6 (wA g)
section YL
variable {p : Program} {l : Launch} {e : Env} {R : Room} {s : State} {m : MethodId} {args : Array Value} {below : List Frame} {meth : Method} {c : Code} {g : XG} {A : Nat → Prop} {cells slots : Nat} {Q : State → Prop} {M N : XM} {pc n idx k0 : Nat} {L : List (Nat × Value)} {st stk As : List Value} {S : XS} {Ro : Option Int32} {Cn : String} {T : u_T} {NN ci b : Nat} {tyf : Nat → FieldType}
theorem Y_callW (C : YC p R s m args meth c g A M) (hE : EX A s.heap s) (hd : decode M.2.1 pc = .ok (.invokevirtual idx, 3)) (hn : pc + 3 = n) (hC : ClW l g N (.ref b :: As) S Ro) (hd1 : 13 ≤ R.frames) (hd2 : 560 ≤ R.locals) (hlk : Cond.methodLink M.1.cls idx N.1 ∈ TT) (hf : MFv N k0) (hlen : As.length = k0) (hk : kd b = ci) (hX : XF ci N.1.cls T NN tyf) (hstk : As.reverse ++ .ref b :: st = stk) (hcat : (st.map fun v => v.category).sum ≤ 8) (hc1 : cells + 1 ≤ R.cells) (hc2 : slots + 6 ≤ R.slots)
    (kk : ∀ v, Ro = some v → Y p l e R s m args below meth c g A (cells + 1) (slots + 6) Q M n L (.int v :: st) S)
    (kt : Ro = none → ∀ (H : Heap) (locs : List Loc) (ls : Array Slot) (q : Nat) (ce : Cell), XH g S H → va_S A s.heap H locs → lv_has ls M.2.2.1 (L.map (fun q => (q.1, cv g q.2))) → H[q]? = some ce → ce.vm = .none → s.vm.findClass NSE = some ce.cls → vx_W p l e R s m args below meth c H locs (cells + 1) (slots + 6) Q (F0 m pc ls (st.map (cv g))) q) :
    Y p l e R s m args below meth c g A cells slots Q M pc L stk S := by
  subst hn; subst hstk
  intro H locs ls hH hS hl
  obtain ⟨f1, f2, f3, f4, f5, f6, f7⟩ := hf
  obtain ⟨g1, g2, g3, g4, -⟩ := hX
  have hlt := kd_lt hk (by omega)
  have hr := vx_runV (Ts := TT) (own := M.1.cls) (C := N.1.cls) (b := ad g b) (As := As.map (cv g)) (bytes := N.2.1) (maxL := N.2.2.1) (ret := N.2.2.2) (locs := locs) (cells := cells) (slots := slots) (rest := st.map (cv g)) (g := F0 m pc ls ((As.reverse ++ Value.ref b :: st).map (cv g))) (below := below) (e := e) (meth := meth) ⟨C.1.1, C.1.2.1, C.1.2.2.1, C.1.2.2.2.2.1, C.1.2.2.2.2.2.1⟩ hC
    ⟨⟨rfl, rfl, hd1, (by show 8 + (N.2.2.1 + 11) + 480 ≤ R.locals; omega), mws_payT C.1.2.2.2.2.2.1 f4, List.mem_cons_self, C.1.2.2.2.2.2.1 _ f4, C.1.2.2.2.2.2.1 _ f3, f5, par_n f6, C.1.2.2.2.2.2.1 _ hlk⟩, C.1.2.2.2.2.2.1 _ f1, C.1.2.2.2.2.2.1 _ f2⟩
    ⟨PW_blind (av := .ref b :: As), va_recv C.2.1.1 hH g2 (q0 := b) (by rw [wl_at g S hlt, cellE_o hk g1]), fun U hU hW => ⟨rfl, by rw [hU]; exact hH, KX_callA C.2.2.1 C.2.1 C.2.2.2.1 C.2.2.2.2.1 hS hU hW, EX.to hE C.2.2.1 hW (fun a ha hna => by rw [hU]; exact hS.2.1 a ha hna)⟩⟩ rfl (by rw [List.length_map]; exact hlen) hl.1 (by show (As.reverse ++ Value.ref b :: st).map (cv g) = _; rw [List.map_append, List.map_reverse, List.map_cons]; rfl) (lv_room (by rw [cv_sum]; exact hcat)) hd ⟨hc1, hc2⟩
  have hS2 : ∀ (st₀ t T' : State) (Ls : List Loc), st₀.heap = H → T'.heap = t.heap → va_F (wA g) st₀ t → (∀ q ∈ Ls, wA g q.base) → va_S A s.heap T'.heap (locs ++ Ls) := by
    intro st₀ t T' Ls h0 e1 hF hL
    obtain ⟨hz, hk⟩ := hF
    rw [h0] at hz hk
    exact ⟨Nat.le_trans hS.1 (by rw [e1]; exact hz), fun q h1 h2 => by rw [e1, hk q (Nat.lt_of_lt_of_le h1 hS.1) (fun z => h2 (C.2.2.1 q z))]; exact hS.2.1 q h1 h2, fun q hq => by
      rcases List.mem_append.mp hq with h | h
      · exact hS.2.2 q h
      · exact C.2.2.1 _ (hL q h)⟩
  intro T hT X
  rcases hr T hT X with ⟨v, st₀, t, T', Ls, h0, X', hL, e1, e2, ⟨⟨w, hR, hv, hb⟩, hF⟩, hgo⟩ | ⟨q, st₀, t, T', Ls, E, ce, h0, X', hL, e1, e2, ⟨hR, hE1, hb, hF⟩, hce, hvm, hcl, hst⟩
  · have hv : v = some (.int w) := by cases hv; rfl
    subst hv
    obtain ⟨t2, a1, b1⟩ := kk w hR T'.heap (locs ++ Ls) ls (by rw [e1]; exact hb) (hS2 st₀ t T' Ls h0 e1 hF hL) hl T' rfl X'
    exact ⟨t2, hgo t2 a1, b1⟩
  · subst hE1
    obtain ⟨t2, a1, b1⟩ := kt hR T'.heap (locs ++ Ls) ls q ce (by rw [e1]; exact hb) (hS2 st₀ t T' Ls h0 e1 hF hL) hl (by rw [e1]; exact hce) hvm hcl T' rfl X'
    exact ⟨t2, hst.trans a1, b1⟩
end YL
theorem Met.ofWH {l : Launch} {y : MethodName} {ws ws' : List Cond} {rm : Room} {Pc : Array Value → State → Prop} {Qc : Array Value → State → Outcome → State → Prop} {mc ms : Nat} {free : Addr → Prop} {cc : ByteArray} {maxL : Nat} {ret : Option FieldType} {hh : List (Nat × Nat × Nat × Nat)}
    (hy : plainName y.cls = true) (hw : ws = Cond.codeWith y cc maxL ret hh :: ws')
    (body : ∀ p e s m args below meth c s₁, BodyLoose p l y (headSpec ws rm) cc maxL ret e s m args below meth c s₁ → c.maxLocals = maxL → Pc args s →
      W p l e (headSpec ws rm).room s m args below meth c s.heap [] 0 0 (MQ below Qc args s mc ms free) (entryFrame m args maxL)) : Met l y ws rm Pc Qc mc ms free := by
  refine MetFree.of_bodyS (code := cc) (maxLocals := maxL) (ret := ret) hy ?_ ?_
  · intro args s m h hn
    obtain ⟨m9, meth, c, hn9, h1, h2, h3, h4, -, h5, h6, -⟩ := Cond.codeWith_spec (atoms_spec (ws := ws) h _ (by rw [hw]; exact List.mem_cons_self))
    cases hn.symm.trans hn9
    exact ⟨meth, c, h1, h2, h3, h4, h5, h6⟩
  · intro p e s m args below meth c s₁ B hml hP _
    have hh0 : s₁.heap = s.heap := by rw [B.state]; rfl
    obtain ⟨t, a1, o, b1, b2, b3⟩ := body p e s m args below meth c s₁ B hml hP s₁ hh0 (Stand.of_body B)
    exact ⟨t, o, a1, b1, b2, b3⟩
theorem ClL.of {l : Launch} {g : XG} {M : XM} {S : XS} {R : Option Int32} {av : List Value} (hp : plainName M.1.cls = true) (hn : (lg_sl av).length ≤ M.2.2.1) (h : ∀ (p : Program) (e : Env) (s : State) (m : MethodId) (args : Array Value) (below : List Frame) (meth : Method) (c : Code), YC p rmL s m args meth c g (wA g) M → EX (wA g) s.heap s → c.exceptionTable.toList = tableOf hhL → Y p l e rmL s m args below meth c g (wA g) 0 0 (MQ below (QL g S R) args s 1 6 (wA g)) M 0 (lv_args 0 av) [] S) : ClL l g M av S R := by
  refine Met.ofWH (cc := M.2.1) (maxL := M.2.2.1) (ret := M.2.2.2) (ws' := TT) hp rfl ?_
  intro p e s m args below meth c s1 B hml hv
  obtain ⟨rfl, hH, hK, hE⟩ := hv
  have hts := atoms_spec (ws := cws M) B.pre
  have htab := vx_table (x := M.1) B (hts _ List.mem_cons_self)
  have hl := lv_entry (av.map (cv g)) (n := M.2.2.1) (by rw [lg_slmap]; exact hn)
  rw [lg_entry_eq]
  generalize (lg_sl (av.map (cv g)) ++ List.replicate (M.2.2.1 - (lg_sl (av.map (cv g))).length) Slot.unset).toArray = ls at hl ⊢
  rw [lv_argsmap] at hl
  exact h p e s m _ below meth c ⟨⟨B.exec, B.bytes, hml, B.returns, findClass_of_methodNamed B.named, fun w hw => hts w (List.mem_cons_of_mem _ hw), B.notSynchronized⟩, hK, fun _ h => h, hK.2.2.1, hK.2.2.2, by decide, by decide⟩ hE htab _ _ _ hH va_S.rf hl
theorem cast_NSE : Cond.castable NSE NSE ∈ vxBad := by decide +kernel
theorem cl_L13 : Cond.classLink RL 13 NSE ∈ TT := (TQ6 53 rfl rfl)
theorem YL_iret {p : Program} {l : Launch} {e : Env} {s : State} {m : MethodId} {args : Array Value} {below : List Frame} {meth : Method} {c : Code} {g : XG} {M : XM} {pc : Nat} {L : List (Nat × Value)} {S S0 : XS} {R : Option Int32} {v : Int32} (C : YC p rmL s m args meth c g (wA g) M) (hv : lwv R = v) (hR : lws S0 R = S) (hr : M.2.2.2 = some .int) (hd : decode M.2.1 pc = .ok (.ireturn, 1)) : Y p l e rmL s m args below meth c g (wA g) 1 6 (MQ below (QL g S0 R) args s 1 6 (wA g)) M pc L [.int v] S := by
  intro H locs ls hH hS hl
  subst hv; subst hR
  exact W.iret C.1.1 C.1.2.1 (C.1.2.2.2.1.trans hr) (fun t ht hW => ⟨rfl, by rw [ht]; exact hH, hS.F ht⟩) hS.2.2 hd C.1.2.2.2.2.2.2
abbrev mL_air : MethodName × ByteArray × Nat × Option FieldType := (yL_air, cL_air, 5, (some .int))
theorem w_L_air {l : Launch} (hst : l.stackTraces = false) {g : XG} {a0 : Nat} {i1 i2 : Int32} {S : XS} (hk : kd a0 = 11) : ClL l g mL_air [.ref a0, .int i1, .int i2, .ref 217] S (airR a0 i1 i2 S) := by
  refine ClL.of (by decide +kernel) (Nat.le_of_ble_eq_true rfl) ?_
  intro p e s m args below meth c C hE htab
  show Y _ _ _ _ _ _ _ _ _ _ _ _ _ _ _ _ 0 [(0, .ref a0), (1, .int i1), (2, .int i2), (3, .ref 217)] [] S
  refine Y_aload_n C (n := 1) 3 (kL_air 0 rfl) rfl rfl rfl ?_
  refine Y_iconst C (n := 2) (v := 0) (kL_air 1 rfl) rfl (by decide) ?_
  refine Y_aload_n C (n := 3) 0 (kL_air 2 rfl) rfl rfl rfl ?_
  refine Y_iload_n C (n := 4) 1 (kL_air 3 rfl) rfl rfl rfl ?_
  refine Y_iload_n C (n := 5) 2 (kL_air 4 rfl) rfl rfl rfl ?_
  refine Y_callW C hE (n := 8) (As := [.int i1, .int i2]) (st := [.int 0, .ref 217]) (kL_air 5 rfl) rfl (w_X11_air hst hk) (by decide) (by decide) ml_L_7 mf_X11_air rfl hk xf_X11 rfl (Nat.le_of_ble_eq_true rfl) (by decide) (by decide) (fun v hv => ?_) (fun hv H locs ls q ce hH hS hl hce hvm hcl => ?_)
  · refine Y_i2l C (n := 9) (kL_air 6 rfl) rfl ?_
    refine Y_last C (n := 10) (show kd 217 = 21 from rfl) (kL_air 7 rfl) rfl (by decide) ?_
    refine Y_goto C (tgt := 17) (kL_air 8 rfl) rfl ?_
    refine Y_iconst C (n := 18) (v := 0) (kL_air 12 rfl) rfl (by decide) ?_
    exact YL_iret C (by rw [hv]; rfl) (by rw [hv]; rfl) rfl (kL_air 13 rfl)
  · refine vx_catch (own := RL) (name := NSE) (E := NSE) C.1.2.2.2.2.1 [] ⟨0, 10, 13, 13⟩ [] htab (fun z hz => absurd hz List.not_mem_nil) (by decide) (by decide) (C.1.2.2.2.2.2.1 _ cl_L13) (va_Nw.use (bad_ot cast_NSE) (hE.1 _ cast_NSE)) hce hvm hcl ?_
    refine lv_astore C.1.1 C.1.2.1 (kL_air 9 rfl) hl (by decide) (congrArg (List.cons _) (List.cons.inj (L_f1 g 4 (.int 0) [(0, .ref a0), (1, .int i1), (2, .int i2), (3, .ref 217)])).2) (fun ls2 hl2 => ?_)
    refine (?_ : Y p l e rmL s m args below meth c g (wA g) 1 6 (MQ below (QL g S (airR a0 i1 i2 S)) args s 1 6 (wA g)) mL_air 15 [(0, .ref a0), (1, .int i1), (2, .int i2), (3, .ref 217)] [] S) H locs ls2 hH hS ⟨hl2.1, hl2.2.1, fun q hq => hl2.2.2 q (List.mem_cons_of_mem _ hq)⟩
    refine Y_iconst C (n := 16) (v := 1) (kL_air 10 rfl) rfl (by decide) ?_
    exact YL_iret C (by rw [hv]; rfl) (by rw [hv]; rfl) rfl (kL_air 11 rfl)
abbrev mL_witness : MethodName × ByteArray × Nat × Option FieldType := (yL_witness, cL_witness, 5, (some .int))
theorem w_L_witness {l : Launch} (hst : l.stackTraces = false) {g : XG} {a0 : Nat} {i1 i2 : Int32} {S : XS} (hk : kd a0 = 11) : ClL l g mL_witness [.ref a0, .int i1, .int i2, .ref 217] S (witR a0 i1 i2 S) := by
  refine ClL.of (by decide +kernel) (Nat.le_of_ble_eq_true rfl) ?_
  intro p e s m args below meth c C hE htab
  show Y _ _ _ _ _ _ _ _ _ _ _ _ _ _ _ _ 0 [(0, .ref a0), (1, .int i1), (2, .int i2), (3, .ref 217)] [] S
  refine Y_aload_n C (n := 1) 3 (kL_witness 0 rfl) rfl rfl rfl ?_
  refine Y_iconst C (n := 2) (v := 0) (kL_witness 1 rfl) rfl (by decide) ?_
  refine Y_aload_n C (n := 3) 0 (kL_witness 2 rfl) rfl rfl rfl ?_
  refine Y_iload_n C (n := 4) 1 (kL_witness 3 rfl) rfl rfl rfl ?_
  refine Y_iload_n C (n := 5) 2 (kL_witness 4 rfl) rfl rfl rfl ?_
  refine Y_callW C hE (n := 8) (As := [.int i1, .int i2]) (st := [.int 0, .ref 217]) (kL_witness 5 rfl) rfl (w_X11_witness hst hk) (by decide) (by decide) ml_L_15 mf_X11_witness rfl hk xf_X11 rfl (Nat.le_of_ble_eq_true rfl) (by decide) (by decide) (fun v hv => ?_) (fun hv H locs ls q ce hH hS hl hce hvm hcl => ?_)
  · refine Y_i2l C (n := 9) (kL_witness 6 rfl) rfl ?_
    refine Y_last C (n := 10) (show kd 217 = 21 from rfl) (kL_witness 7 rfl) rfl (by decide) ?_
    refine Y_goto C (tgt := 17) (kL_witness 8 rfl) rfl ?_
    refine Y_iconst C (n := 18) (v := 0) (kL_witness 12 rfl) rfl (by decide) ?_
    exact YL_iret C (by rw [hv]; rfl) (by rw [hv]; rfl) rfl (kL_witness 13 rfl)
  · refine vx_catch (own := RL) (name := NSE) (E := NSE) C.1.2.2.2.2.1 [] ⟨0, 10, 13, 13⟩ [] htab (fun z hz => absurd hz List.not_mem_nil) (by decide) (by decide) (C.1.2.2.2.2.2.1 _ cl_L13) (va_Nw.use (bad_ot cast_NSE) (hE.1 _ cast_NSE)) hce hvm hcl ?_
    refine lv_astore C.1.1 C.1.2.1 (kL_witness 9 rfl) hl (by decide) (congrArg (List.cons _) (List.cons.inj (L_f1 g 4 (.int 0) [(0, .ref a0), (1, .int i1), (2, .int i2), (3, .ref 217)])).2) (fun ls2 hl2 => ?_)
    refine (?_ : Y p l e rmL s m args below meth c g (wA g) 1 6 (MQ below (QL g S (witR a0 i1 i2 S)) args s 1 6 (wA g)) mL_witness 15 [(0, .ref a0), (1, .int i1), (2, .int i2), (3, .ref 217)] [] S) H locs ls2 hH hS ⟨hl2.1, hl2.2.1, fun q hq => hl2.2.2 q (List.mem_cons_of_mem _ hq)⟩
    refine Y_iconst C (n := 16) (v := 1) (kL_witness 10 rfl) rfl (by decide) ?_
    exact YL_iret C (by rw [hv]; rfl) (by rw [hv]; rfl) rfl (kL_witness 11 rfl)
theorem cw_air : Cond.codeWith yL_air cL_air 5 (some .int) hhL ∈ TT := (TQ6 52 rfl rfl)
theorem cw_witness : Cond.codeWith yL_witness cL_witness 5 (some .int) hhL ∈ TT := (TQ6 121 rfl rfl)
theorem st_air : Cond.static yL_air ∈ TT := (TQ6 51 rfl rfl)
theorem st_witness : Cond.static yL_witness ∈ TT := (TQ6 120 rfl rfl)
section YL2
variable {p : Program} {l : Launch} {e : Env} {R : Room} {s : State} {m : MethodId} {args : Array Value} {below : List Frame} {meth : Method} {c : Code} {g : XG} {A : Nat → Prop} {cells slots : Nat} {Q : State → Prop} {M N : XM} {pc n idx : Nat} {L : List (Nat × Value)} {st stk As : List Value} {S : XS} {Ro : Option Int32}
theorem cws_pay (hT : ∀ w ∈ TT, w.before args s = true) (hcode : Cond.codeWith N.1 N.2.1 N.2.2.1 N.2.2.2 hhL ∈ TT) : ∀ w ∈ cws N, ∀ (a' : Array Value) (U : State), s.WarmedH U.vm → w.before a' U = true := by
  intro w hw a' U hW
  have hT2 : w ∈ TT := by
    rcases List.mem_cons.mp hw with h | h
    · rw [h]; exact hcode
    · exact h
  exact word_at hW (good_of_word (TT_good hT2)) (hT w hT2)
theorem Y_callL (C : YC p R s m args meth c g A M) (hE : EX A s.heap s) (hd : decode M.2.1 pc = .ok (.invokestatic idx, 3)) (hn : pc + 3 = n) (hC : ClL l g N As S Ro) (hd1 : 14 ≤ R.frames) (hd2 : 600 ≤ R.locals) (hlk : Cond.methodLink M.1.cls idx N.1 ∈ TT) (hs : Cond.static N.1 ∈ TT) (hi : Cond.initialized N.1.cls ∈ TT) (hcw : Cond.codeWith N.1 N.2.1 N.2.2.1 N.2.2.2 hhL ∈ TT) (hy : N.1.cls ≠ "java/lang/invoke/MethodHandle" ∧ N.1.cls ≠ "java/lang/invoke/VarHandle") (hp : (parseMethodDescriptor N.1.desc).map (fun d => d.parameters.length) = some As.length) (hL : N.2.2.1 ≤ 21) (hstk : As.reverse ++ st = stk) (hcat : (st.map fun v => v.category).sum ≤ 8) (hc1 : cells + 1 ≤ R.cells) (hc2 : slots + 6 ≤ R.slots)
    (kk : Y p l e R s m args below meth c g A (cells + 1) (slots + 6) Q M n L (.int (lwv Ro) :: st) (lws S Ro)) :
    Y p l e R s m args below meth c g A cells slots Q M pc L stk S := by
  subst hn; subst hstk
  intro H locs ls hH hS hl
  have hT := C.1.2.2.2.2.2.1
  have hr := vx_runSW (Ts := TT) (own := M.1.cls) (As := As.map (cv g)) (n := As.length) (bytes := N.2.1) (maxL := N.2.2.1) (ret := N.2.2.2) (hh := hhL) (locs := locs) (cells := cells) (slots := slots) (rest := st.map (cv g)) (g := F0 m pc ls ((As.reverse ++ st).map (cv g))) (below := below) (e := e) (meth := meth) ⟨C.1.1, C.1.2.1, C.1.2.2.1, C.1.2.2.2.2.1, hT⟩ hC
    ⟨⟨rfl, rfl, hd1, (by show 8 + (N.2.2.1 + 11) + 560 ≤ R.locals; omega), cws_pay hT hcw, List.mem_cons_self⟩, hT _ hcw, hT _ hi, hy, par_n hp, hT _ hlk, hT _ hs⟩
    ⟨PW_blind (av := As), fun U hU hW => ⟨rfl, by rw [hU]; exact hH, KX_callA C.2.2.1 C.2.1 C.2.2.2.1 C.2.2.2.2.1 hS hU hW, EX.to hE C.2.2.1 hW (fun a ha hna => by rw [hU]; exact hS.2.1 a ha hna)⟩⟩ rfl (List.length_map _) hl.1 (by show (As.reverse ++ st).map (cv g) = _; rw [List.map_append, List.map_reverse]) (lv_room (by rw [cv_sum]; exact hcat)) hd ⟨hc1, hc2⟩
  intro T hT X
  obtain ⟨v, st₀, t, T', Ls, h0, X', hL, e1, e2, ⟨hv, hb, hz, hk⟩, hst⟩ := hr T hT X
  have hv : v = some (.int (lwv Ro)) := by cases hv; rfl
  subst hv
  rw [h0] at hz hk
  obtain ⟨t2, a1, b1⟩ := kk T'.heap (locs ++ Ls) ls (by rw [e1]; exact hb)
    ⟨Nat.le_trans hS.1 (by rw [e1]; exact hz), fun q h1 h2 => by rw [e1, hk q (Nat.lt_of_lt_of_le h1 hS.1) (fun z => h2 (C.2.2.1 q z))]; exact hS.2.1 q h1 h2, fun q hq => by
      rcases List.mem_append.mp hq with h | h
      · exact hS.2.2 q h
      · exact C.2.2.1 _ (hL q h)⟩ hl T' rfl X'
  exact ⟨t2, hst t2 a1, b1⟩
end YL2
