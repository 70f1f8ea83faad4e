/-- what the tables say of a method that is called by its class (MFv) or without an object (MFs) -/
def MFv (N : XM) (k : Nat) : Prop := Cond.instanceMethod N.1 ∈ TT ∧ Cond.selects N.1.cls N.1 N.1 ∈ TT ∧ Cond.initialized N.1.cls ∈ TT ∧ Cond.code N.1 N.2.1 N.2.2.1 N.2.2.2 ∈ TT ∧ (N.1.cls ≠ "java/lang/invoke/MethodHandle" ∧ N.1.cls ≠ "java/lang/invoke/VarHandle") ∧ (parseMethodDescriptor N.1.desc).map (fun d => d.parameters.length) = some k ∧ N.2.2.1 ≤ 21
def MFs (N : XM) (k : Nat) : Prop := Cond.static N.1 ∈ TT ∧ Cond.initialized N.1.cls ∈ TT ∧ Cond.code N.1 N.2.1 N.2.2.1 N.2.2.2 ∈ TT ∧ (N.1.cls ≠ "java/lang/invoke/MethodHandle" ∧ N.1.cls ≠ "java/lang/invoke/VarHandle") ∧ (parseMethodDescriptor N.1.desc).map (fun d => d.parameters.length) = some k ∧ N.2.2.1 ≤ 21
section XCalls
variable {β γ : Type} {φ : β → Option Value × XS} {ψ : γ → Option Value × XS} {l : Launch} {g : XG} {d d1 : Nat} {M N : XM} {pc n idx k0 : Nat} {L : List (Nat × Value)} {st stk As : List Value} {S : XS} {R : Option β}
theorem mws_pay {p : Program} {s : State} {m : MethodId} {args : Array Value} {meth : Method} {c : Code} (C : CX M p s m args meth c) (hcode : Cond.code N.1 N.2.1 N.2.2.1 N.2.2.2 ∈ TT) : ∀ w ∈ mws N, ∀ (a' : Array Value) (U : State), s.WarmedH U.vm → w.before a' U = true := by
  intro w hw a' U hW
  have hT : w ∈ TT := by
    rcases List.mem_cons.mp hw with h | h
    · rw [h]; exact hcode
    · exact h
  exact word_at hW (good_of_word (TT_good hT)) (TTs C hT)
theorem par_n {y : MethodName} {k : Nat} (h : (parseMethodDescriptor y.desc).map (fun d => d.parameters.length) = some k) : ∀ sig, parseMethodDescriptor y.desc = some sig → k = sig.parameters.length := by
  intro sig hs
  rw [hs] at h
  exact (Option.some.inj h).symm
/-- behind a call -/
theorem X_run {p : Program} {e : Env} {s : State} {m : MethodId} {args : Array Value} {below : List Frame} {meth : Method} {c : Code} {H : Heap} {locs : List Loc} {ls : Array Slot} {st0 rest : List Value} {a : Array Value} {q : Option Value × XS} {Q : State → Prop}
    (hr : va_Run p l e (xrm d) s m args below meth c H locs 0 0 0 0 (F0 m pc ls st0) rest (QX g q a) (wA g)) (hS : va_S (wA g) s.heap H locs)
    (kk : ∀ (H1 : Heap) (locs1 : List Loc), XH g q.2 H1 → va_S (wA g) s.heap H1 locs1 → W p l e (xrm d) s m args below meth c H1 locs1 0 0 Q (F0 m (pc + 3) ls ((q.1.map (cv g)).toList ++ rest))) : W p l e (xrm d) s m args below meth c H locs 0 0 Q (F0 m pc ls st0) := by
  intro T hT X
  obtain ⟨v, st₀, t, T', Ls, h0, X', hL, e1, e2, ⟨⟨hv, hb⟩, hz, hk⟩, st⟩ := hr T hT X
  have hv : v = q.1.map (cv g) := by cases hv; rfl
  subst hv
  rw [h0] at hz hk
  obtain ⟨t2, a1, b1⟩ := kk T'.heap (locs ++ Ls) (by rw [e1]; exact hb)
    ⟨Nat.le_trans hS.1 (by rw [e1]; exact hz), fun q h1 h2 => by rw [e1, hk q (Nat.lt_of_lt_of_le h1 hS.1) h2]; exact hS.2.1 q h1 h2, fun q hq => by
      rcases List.mem_append.mp hq with h | h
      · exact hS.2.2 q h
      · exact hL q h⟩ T' rfl X'
  exact ⟨t2, st t2 a1, b1⟩
theorem PX_at {s : State} {H : Heap} {locs : List Loc} {av : List Value} (K : KX g s) (hS : va_S (wA g) s.heap H locs) (hH : XH g S H) : ∀ U : State, U.heap = H → s.WarmedH U.vm → va_Pc (av.map (cv g)) (fun U => XH g S U.heap ∧ KX g U) (av.map (cv g)).toArray U := fun U hU hW => ⟨rfl, by rw [hU]; exact hH, KX_call K hS hU hW⟩
theorem rm_ok (hd : d1 + 1 ≤ d) {k : Nat} (hk : k ≤ 21) : (xrm d1).frames + 1 ≤ (xrm d).frames ∧ 8 + (k + 11) + (xrm d1).locals ≤ (xrm d).locals := by
  unfold xrm
  exact ⟨hd, by show 8 + (k + 11) + 40 * d1 ≤ 40 * d; omega⟩
theorem toL (g : XG) (v : Option Value) (st : List Value) : (v.map (cv g)).toList ++ st.map (cv g) = (v.toList ++ st).map (cv g) := by cases v <;> rfl
theorem X_callV {G : γ → Option β} {Rc : Option γ} {a ci Nn : Nat} {T : u_T} {tyf : Nat → FieldType} (hd : decode M.2.1 pc = .ok (.invokevirtual idx, 3)) (hn : pc + 3 = n) (hC : Cl ψ l g d1 N (.ref a :: As) S Rc) (hdd : d1 + 1 ≤ d) (hlk : Cond.methodLink M.1.cls idx N.1 ∈ TT) (hf : MFv N k0) (hlen : As.length = k0) (hk : kd a = ci) (hX : XF ci N.1.cls T Nn tyf) (hstk : As.reverse ++ .ref a :: st = stk) (hcat : (st.map fun v => v.category).sum ≤ 8)
    (kk : ∀ q, Rc = some q → X φ l g d M n L ((ψ q).1.toList ++ st) (ψ q).2 (G q)) : X φ l g d M pc L stk S (Rc.bind G) := by
  subst hn; subst hstk
  intro q hq p e s m args below meth c C K H locs ls hH hS hl
  cases Rc with
  | none => cases hq
  | some r =>
    have hM := hC r rfl
    obtain ⟨f1, f2, f3, f4, f5, f6, f7⟩ := hf
    obtain ⟨g1, g2, g3, g4, -⟩ := hX
    have hlt := kd_lt hk (by omega)
    obtain ⟨r1, r2⟩ := rm_ok hdd f7
    refine X_run (q := ψ r) (rest := st.map (cv g)) (va_runV (Ts := mws M) (own := M.1.cls) (C := N.1.cls) (b := ad g a) (As := As.map (cv g)) (bytes := N.2.1) (maxL := N.2.2.1) (ret := N.2.2.2) ⟨C.1, C.2.1, C.2.2.1, C.2.2.2.2.1, C.2.2.2.2.2.1⟩ hM
      ⟨⟨rfl, rfl, r1, r2, mws_pay C f4, List.mem_cons_self, TTs C f4, TTs C f3, f5, par_n f6, TTs C hlk⟩, TTs C f1, TTs C f2⟩
      ⟨PX_blind, va_recv K.1 hH g2 (q0 := a) (by rw [wl_at g S hlt, cellE_o hk g1]), PX_at (av := .ref a :: As) K hS hH⟩ rfl (by rw [List.length_map]; exact hlen) hl.1 (by show (As.reverse ++ Value.ref a :: st).map (cv g) = _; rw [List.map_append, List.map_reverse, List.map_cons]; rfl) (lv_room (by rw [cv_sum]; exact hcat)) hd ⟨Nat.zero_le _, Nat.zero_le _⟩) hS (fun H1 locs1 hH1 hS1 => ?_)
    rw [toL]
    exact kk r rfl q hq _ _ _ _ _ _ _ _ C K _ _ _ hH1 hS1 hl
theorem X_callS {G : γ → Option β} {Rc : Option γ} (hd : decode M.2.1 pc = .ok (.invokestatic idx, 3)) (hn : pc + 3 = n) (hC : Cl ψ l g d1 N As S Rc) (hdd : d1 + 1 ≤ d) (hlk : Cond.methodLink M.1.cls idx N.1 ∈ TT) (hf : MFs N k0) (hlen : As.length = k0) (hstk : As.reverse ++ st = stk) (hcat : (st.map fun v => v.category).sum ≤ 8)
    (kk : ∀ q, Rc = some q → X φ l g d M n L ((ψ q).1.toList ++ st) (ψ q).2 (G q)) : X φ l g d M pc L stk S (Rc.bind G) := by
  subst hn; subst hstk
  intro q hq p e s m args below meth c C K H locs ls hH hS hl
  cases Rc with
  | none => cases hq
  | some r =>
    have hM := hC r rfl
    obtain ⟨f1, f3, f4, f5, f6, f7⟩ := hf
    obtain ⟨r1, r2⟩ := rm_ok hdd f7
    refine X_run (q := ψ r) (rest := st.map (cv g)) (va_runS (Ts := mws M) (own := M.1.cls) (As := As.map (cv g)) (bytes := N.2.1) (maxL := N.2.2.1) (ret := N.2.2.2) ⟨C.1, C.2.1, C.2.2.1, C.2.2.2.2.1, C.2.2.2.2.2.1⟩ hM
      ⟨⟨rfl, rfl, r1, r2, mws_pay C f4, List.mem_cons_self, TTs C f4, TTs C f3, f5, par_n f6, TTs C hlk⟩, TTs C f1⟩
      ⟨PX_blind, PX_at K hS hH⟩ rfl (by rw [List.length_map]; exact hlen) hl.1 (by show (As.reverse ++ st).map (cv g) = _; rw [List.map_append, List.map_reverse]) (lv_room (by rw [cv_sum]; exact hcat)) hd ⟨Nat.zero_le _, Nat.zero_le _⟩) hS (fun H1 locs1 hH1 hS1 => ?_)
    rw [toL]
    exact kk r rfl q hq _ _ _ _ _ _ _ _ C K _ _ _ hH1 hS1 hl
theorem X_callN {G : γ → Option β} {Rc : Option γ} {host : String} (hd : decode M.2.1 pc = .ok (.invokestatic idx, 3)) (hn : pc + 3 = n) (hC : Cl ψ l g d1 N As S Rc) (hdd : d1 + 1 ≤ d) (hlk : Cond.methodLinkNest M.1.cls idx N.1 host ∈ NW) (hf : MFs N k0) (hlen : As.length = k0) (hstk : As.reverse ++ st = stk) (hcat : (st.map fun v => v.category).sum ≤ 8)
    (kk : ∀ q, Rc = some q → X φ l g d M n L ((ψ q).1.toList ++ st) (ψ q).2 (G q)) : X φ l g d M pc L stk S (Rc.bind G) := by
  subst hn; subst hstk
  intro q hq p e s m args below meth c C K H locs ls hH hS hl
  cases Rc with
  | none => cases hq
  | some r =>
    have hM := hC r rfl
    obtain ⟨f1, f3, f4, f5, f6, f7⟩ := hf
    obtain ⟨r1, r2⟩ := rm_ok hdd f7
    refine X_run (q := ψ r) (rest := st.map (cv g)) (va_runSN (host := host) (Ts := mws M) (own := M.1.cls) (As := As.map (cv g)) (bytes := N.2.1) (maxL := N.2.2.1) (ret := N.2.2.2) ⟨C.1, C.2.1, C.2.2.1, C.2.2.2.2.1, C.2.2.2.2.2.1⟩ hM
      ⟨⟨⟨rfl, rfl, r1, r2, mws_pay C f4, List.mem_cons_self⟩, TTs C f4, TTs C f3, f5, par_n f6, va_Nw.use rfl (K.2.1 _ hlk)⟩, TTs C f1, trivial⟩
      ⟨PX_blind, PX_at K hS hH⟩ rfl (by rw [List.length_map]; exact hlen) hl.1 (by show (As.reverse ++ st).map (cv g) = _; rw [List.map_append, List.map_reverse]) (lv_room (by rw [cv_sum]; exact hcat)) hd ⟨Nat.zero_le _, Nat.zero_le _⟩) hS (fun H1 locs1 hH1 hS1 => ?_)
    rw [toL]
    exact kk r rfl q hq _ _ _ _ _ _ _ _ C K _ _ _ hH1 hS1 hl
end XCalls
section XMath
variable {β : Type} {φ : β → Option Value × XS} {l : Launch} {g : XG} {d : Nat} {M : XM} {pc n idx : Nat} {L : List (Nat × Value)} {st : List Value} {S : XS} {R : Option β}
theorem X_mmax {x y : Int32} (hd : decode M.2.1 pc = .ok (.invokestatic idx, 3)) (hn : pc + 3 = n) (hdd : 1 ≤ d) (hlk : Cond.methodLink M.1.cls idx Lib.Math.max.name ∈ TT) (h1 : Cond.static Lib.Math.max.name ∈ TT) (h2 : Cond.initialized "java/lang/Math" ∈ TT) (h3 : Cond.code Lib.Math.max.name Lib.Math.max.code 2 (some .int) ∈ TT) (hcat : (st.map fun v => v.category).sum ≤ 8) (k : X φ l g d M n L (.int (if x < y then y else x) :: st) S R) : X φ l g d M pc L (.int y :: .int x :: st) S R := by
  subst hn
  intro q hq p e s m args below meth c C K H locs ls hH hS hl
  exact va_mmax C.1 C.2.1 (C.2.2.1.trans hl.1.symm) C.2.2.2.2.1 (TTs C hlk) (TTs C h1) (TTs C h2) (TTs C h3) hdd (by rw [cv_sum]; show _ + 13 ≤ 40 * d; omega) (Nat.zero_le _) (Nat.zero_le _) hd (k q hq _ _ _ _ _ _ _ _ C K _ _ _ hH hS hl)
theorem X_mmin {x y : Int32} (hd : decode M.2.1 pc = .ok (.invokestatic idx, 3)) (hn : pc + 3 = n) (hdd : 1 ≤ d) (hlk : Cond.methodLink M.1.cls idx Lib.Math.min.name ∈ TT) (h1 : Cond.static Lib.Math.min.name ∈ TT) (h2 : Cond.initialized "java/lang/Math" ∈ TT) (h3 : Cond.code Lib.Math.min.name Lib.Math.min.code 2 (some .int) ∈ TT) (hcat : (st.map fun v => v.category).sum ≤ 8) (k : X φ l g d M n L (.int (if y < x then y else x) :: st) S R) : X φ l g d M pc L (.int y :: .int x :: st) S R := by
  subst hn
  intro q hq p e s m args below meth c C K H locs ls hH hS hl
  exact va_mmin C.1 C.2.1 (C.2.2.1.trans hl.1.symm) C.2.2.2.2.1 (TTs C hlk) (TTs C h1) (TTs C h2) (TTs C h3) hdd (by rw [cv_sum]; show _ + 13 ≤ 40 * d; omega) (Nat.zero_le _) (Nat.zero_le _) hd (k q hq _ _ _ _ _ _ _ _ C K _ _ _ hH hS hl)
theorem X_mabs {x : Int32} (hd : decode M.2.1 pc = .ok (.invokestatic idx, 3)) (hn : pc + 3 = n) (hdd : 1 ≤ d) (hlk : Cond.methodLink M.1.cls idx Lib.Math.abs.name ∈ TT) (h1 : Cond.static Lib.Math.abs.name ∈ TT) (h2 : Cond.initialized "java/lang/Math" ∈ TT) (h3 : Cond.code Lib.Math.abs.name Lib.Math.abs.code 1 (some .int) ∈ TT) (hcat : (st.map fun v => v.category).sum ≤ 8) (k : X φ l g d M n L (.int (if 0 ≤ x then x else 0 - x) :: st) S R) : X φ l g d M pc L (.int x :: st) S R := by
  subst hn
  intro q hq p e s m args below meth c C K H locs ls hH hS hl
  exact va_mabs C.1 C.2.1 (C.2.2.1.trans hl.1.symm) C.2.2.2.2.1 (TTs C hlk) (TTs C h1) (TTs C h2) (TTs C h3) hdd (by rw [cv_sum]; show _ + 13 ≤ 40 * d; omega) (Nat.zero_le _) (Nat.zero_le _) hd (k q hq _ _ _ _ _ _ _ _ C K _ _ _ hH hS hl)
end XMath
section XMore
variable {β γ δ : Type} {φ : β → Option Value × XS} {ψ : γ → Option Value × XS} {l : Launch} {g : XG} {d d1 : Nat} {M N : XM} {pc n idx k0 J tgt : Nat} {L L1 : List (Nat × Value)} {st stk As : List Value} {S : XS} {R : Option β}
theorem X_itebind {c : Prop} {hdc : Decidable c} {A B : Option γ} {G : γ → Option β} (k : X φ l g d M pc L st S (@ite _ c hdc (A.bind G) (B.bind G))) : X φ l g d M pc L st S ((@ite _ c hdc A B).bind G) := by
  by_cases h : c
  · rw [if_pos h] at k ⊢; exact k
  · rw [if_neg h] at k ⊢; exact k
theorem X_assoc {A : Option γ} {F : γ → Option δ} {G : δ → Option β} (k : X φ l g d M pc L st S (A.bind (fun q => (F q).bind G))) : X φ l g d M pc L st S ((A.bind F).bind G) := by
  cases A <;> exact k
theorem X_L (ks : List Nat) (hL : lv_pick L ks = L1) (k : X φ l g d M pc L1 st S R) : X φ l g d M pc L st S R := by
  intro q hq p e s m args below meth c C K H locs ls hH hS hl
  refine k q hq _ _ _ _ _ _ _ _ C K _ _ _ hH hS (lv_sub hl ks ?_)
  rw [← hL]
  unfold lv_pick
  rw [List.map_filterMap]
  congr 1
  funext i
  rw [List.getElem?_map]
theorem X_join {A : Option γ} {G : γ → Option β} (J : Nat) (Lq : γ → List (Nat × Value)) (sq : γ → List Value) (Sq : γ → XS) (kJ : ∀ q, X φ l g d M J (Lq q) (sq q) (Sq q) (G q)) (kr : (∀ q, X φ l g d M J (Lq q) (sq q) (Sq q) (G q)) → X φ l g d M pc L st S (A.bind G)) : X φ l g d M pc L st S (A.bind G) := kr kJ
theorem X_callV1 {r : γ} {a ci Nn : Nat} {T : u_T} {tyf : Nat → FieldType} (hd : decode M.2.1 pc = .ok (.invokevirtual idx, 3)) (hn : pc + 3 = n) (hC : Cl ψ l g d1 N (.ref a :: As) S (some r)) (hdd : d1 + 1 ≤ d) (hlk : Cond.methodLink M.1.cls idx N.1 ∈ TT) (hf : MFv N k0) (hlen : As.length = k0) (hk : kd a = ci) (hX : XF ci N.1.cls T Nn tyf) (hstk : As.reverse ++ .ref a :: st = stk) (hcat : (st.map fun v => v.category).sum ≤ 8)
    (kk : X φ l g d M n L ((ψ r).1.toList ++ st) (ψ r).2 R) : X φ l g d M pc L stk S R := X_callV (G := fun _ => R) hd hn hC hdd hlk hf hlen hk hX hstk hcat (fun q hq => by cases hq; exact kk)
theorem X_callS1 {r : γ} (hd : decode M.2.1 pc = .ok (.invokestatic idx, 3)) (hn : pc + 3 = n) (hC : Cl ψ l g d1 N As S (some r)) (hdd : d1 + 1 ≤ d) (hlk : Cond.methodLink M.1.cls idx N.1 ∈ TT) (hf : MFs N k0) (hlen : As.length = k0) (hstk : As.reverse ++ st = stk) (hcat : (st.map fun v => v.category).sum ≤ 8)
    (kk : X φ l g d M n L ((ψ r).1.toList ++ st) (ψ r).2 R) : X φ l g d M pc L stk S R := X_callS (G := fun _ => R) hd hn hC hdd hlk hf hlen hstk hcat (fun q hq => by cases hq; exact kk)
theorem X_callN1 {r : γ} {host : String} (hd : decode M.2.1 pc = .ok (.invokestatic idx, 3)) (hn : pc + 3 = n) (hC : Cl ψ l g d1 N As S (some r)) (hdd : d1 + 1 ≤ d) (hlk : Cond.methodLinkNest M.1.cls idx N.1 host ∈ NW) (hf : MFs N k0) (hlen : As.length = k0) (hstk : As.reverse ++ st = stk) (hcat : (st.map fun v => v.category).sum ≤ 8)
    (kk : X φ l g d M n L ((ψ r).1.toList ++ st) (ψ r).2 R) : X φ l g d M pc L stk S R := X_callN (G := fun _ => R) hd hn hC hdd hlk hf hlen hstk hcat (fun q hq => by cases hq; exact kk)
theorem X_tabIn {dflt lo hi : Int} {offs : Array Int} {len : Nat} {x : Int32} {off : Int} (x0 : Int) (hx : x.toInt = x0) (hd : decode M.2.1 pc = .ok (.tableswitch dflt lo hi offs, len)) (h1 : ¬ x0 < lo) (h2 : ¬ hi < x0) (ho : offs[(x0 - lo).toNat]? = some off) (ht : (pc : Int) + off = (tgt : Int)) (k : X φ l g d M tgt L st S R) : X φ l g d M pc L (.int x :: st) S R := by
  intro q hq p e s m args below meth c C K H locs ls hH hS hl
  exact lv_tableIn C.1 C.2.1 hd (by rw [hx]; exact h1) (by rw [hx]; exact h2) (by rw [hx]; exact ho) ht (k q hq _ _ _ _ _ _ _ _ C K _ _ _ hH hS hl)
theorem X_tabOut {dflt lo hi : Int} {offs : Array Int} {len : Nat} {x : Int32} (h : x.toInt < lo ∨ hi < x.toInt) (hd : decode M.2.1 pc = .ok (.tableswitch dflt lo hi offs, len)) (ht : (pc : Int) + dflt = (tgt : Int)) (k : X φ l g d M tgt L st S R) : X φ l g d M pc L (.int x :: st) S R := by
  intro q hq p e s m args below meth c C K H locs ls hH hS hl
  exact lv_tableOut C.1 C.2.1 hd h ht (k q hq _ _ _ _ _ _ _ _ C K _ _ _ hH hS hl)
theorem X_look {dflt : Int} {ps : Array (Int × Int)} {len : Nat} {x : Int32} {off : Int} (hd : decode M.2.1 pc = .ok (.lookupswitch dflt ps, len)) (hp : (ps.toList.zip (ps.toList.drop 1)).all (fun (a, next) => a.1 < next.1) = true) (ho : Op.lookupswitch.offset ps.toList dflt x.toInt = off) (ht : (pc : Int) + off = (tgt : Int)) (k : X φ l g d M tgt L st S R) : X φ l g d M pc L (.int x :: st) S R := by
  intro q hq p e s m args below meth c C K H locs ls hH hS hl
  exact lv_lookup C.1 C.2.1 hd hp ho ht (k q hq _ _ _ _ _ _ _ _ C K _ _ _ hH hS hl)
theorem xI_of {x : Int32} {z : Int} (y : Int32) (h : x = y) (hy : y.toInt = z) : x.toInt = z := by rw [h]; exact hy
theorem xI_ne {x : Int32} {z : Int} (y : Int32) (h : ¬ x = y) (hy : y.toInt = z) : x.toInt ≠ z := fun q => h (Int32.toInt_inj.mp (by rw [hy]; exact q))
theorem kt_of {c j c' : Nat} {a : Nat} (h : kd a = c) (hc : c < 99) (hall : ∀ b, b < KK → kd b = c → kd (rf b j) = c') : kd (rf a j) = c' := hall a (kd_lt h hc) h
theorem lt_of {c j n : Nat} {a : Nat} (h : kd a = c) (hc : c < 99) (hall : ∀ b, b < KK → kd b = c → ln (rf b j) = n) : ln (rf a j) = n := hall a (kd_lt h hc) h
end XMore
def cpI (S : XS) (a b n : Nat) : XS := (fun k j => if k = b ∧ j < n then S.1 a j else S.1 k j, S.2)
def cpJ (S : XS) (a b n : Nat) : XS := (S.1, fun k j => if k = b ∧ j < n then S.2 a j else S.2 k j)
theorem ite_p {α σ : Type} {c : Prop} {hdc : Decidable c} (a b : α) (S : σ) : (@ite _ c hdc (some (a, S)) (some (b, S))) = some (@ite _ c hdc a b, S) := by
  by_cases h : c
  · rw [if_pos h, if_pos h]
  · rw [if_neg h, if_neg h]
theorem ite_u {α : Type} {c : Prop} {hdc : Decidable c} (a b : α) : (@ite _ c hdc (some a) (some b)) = some (@ite _ c hdc a b) := by
  by_cases h : c
  · rw [if_pos h, if_pos h]
  · rw [if_neg h, if_neg h]
theorem ka_of {c c' : Nat} (hall : ∀ a, a < KK → kd a = c → ∀ j, j < ln a → kd (rf a j) = c') {a : Nat} {i : Int32} (hc : c < 99) (h : kd a = c) (hi : ¬ (i < 0 ∨ ln a ≤ i.toNatClampNeg)) : kd (rf a i.toNatClampNeg) = c' := hall a (kd_lt h hc) h _ (Nat.not_le.mp fun q => hi (Or.inr q))
theorem ka_23 {a : Nat} {i : Int32} (h : kd a = 23) (hi : ¬ (i < 0 ∨ ln a ≤ i.toNatClampNeg)) : kd (rf a i.toNatClampNeg) = 10 := ka_of (by decide +kernel) (by decide) h hi
theorem ka_24 {a : Nat} {i : Int32} (h : kd a = 24) (hi : ¬ (i < 0 ∨ ln a ≤ i.toNatClampNeg)) : kd (rf a i.toNatClampNeg) = 2 := ka_of (by decide +kernel) (by decide) h hi
theorem ka_25 {a : Nat} {i : Int32} (h : kd a = 25) (hi : ¬ (i < 0 ∨ ln a ≤ i.toNatClampNeg)) : kd (rf a i.toNatClampNeg) = 6 := ka_of (by decide +kernel) (by decide) h hi
section XArr
variable {β : Type} {φ : β → Option Value × XS} {l : Launch} {g : XG} {d : Nat} {M : XM} {pc n idx : Nat} {L : List (Nat × Value)} {st : List Value} {S : XS} {R : Option β} {a b : Nat}
theorem X_aaldW {i : Int32} (hk : kd a = 23) (hd : decode M.2.1 pc = .ok (.aaload, 1)) (hn : pc + 1 = n) (k : ¬ (i < 0 ∨ ln a ≤ i.toNatClampNeg) → X φ l g d M n L (.ref (rf a i.toNatClampNeg) :: st) S R) : X φ l g d M pc L (.int i :: .ref a :: st) S (if i < 0 ∨ ln a ≤ i.toNatClampNeg then none else R) := by
  by_cases h : i < 0 ∨ ln a ≤ i.toNatClampNeg
  · rw [if_pos h]; intro q hq; cases hq
  · rw [if_neg h]; exact X_aaldW' hk hd hn h (k h)
theorem X_aaldH {i : Int32} (hk : kd a = 24) (hd : decode M.2.1 pc = .ok (.aaload, 1)) (hn : pc + 1 = n) (k : ¬ (i < 0 ∨ ln a ≤ i.toNatClampNeg) → X φ l g d M n L (.ref (rf a i.toNatClampNeg) :: st) S R) : X φ l g d M pc L (.int i :: .ref a :: st) S (if i < 0 ∨ ln a ≤ i.toNatClampNeg then none else R) := by
  by_cases h : i < 0 ∨ ln a ≤ i.toNatClampNeg
  · rw [if_pos h]; intro q hq; cases hq
  · rw [if_neg h]; exact X_aaldH' hk hd hn h (k h)
theorem X_aaldS {i : Int32} (hk : kd a = 25) (hd : decode M.2.1 pc = .ok (.aaload, 1)) (hn : pc + 1 = n) (k : ¬ (i < 0 ∨ ln a ≤ i.toNatClampNeg) → X φ l g d M n L (.ref (rf a i.toNatClampNeg) :: st) S R) : X φ l g d M pc L (.int i :: .ref a :: st) S (if i < 0 ∨ ln a ≤ i.toNatClampNeg then none else R) := by
  by_cases h : i < 0 ∨ ln a ≤ i.toNatClampNeg
  · rw [if_pos h]; intro q hq; cases hq
  · rw [if_neg h]; exact X_aaldS' hk hd hn h (k h)
theorem X_copyI {z : Int32} (hka : kd a = 20) (hkb : kd b = 20) (hd : decode M.2.1 pc = .ok (.invokestatic idx, 3)) (hn : pc + 3 = n) (hdd : 1 ≤ d) (hlk : Cond.methodLink M.1.cls idx arraycopyName ∈ TT) (h1 : Cond.native arraycopyName ∈ TT) (h2 : Cond.static arraycopyName ∈ TT) (h3 : Cond.initialized "java/lang/System" ∈ TT) (hcat : (st.map fun v => v.category).sum ≤ 8)
    (k : ¬ (z < 0 ∨ ln a < z.toNatClampNeg ∨ ln b < z.toNatClampNeg) → X φ l g d M n L st (cpI S a b z.toNatClampNeg) R) : X φ l g d M pc L (.int z :: .int 0 :: .ref b :: .int 0 :: .ref a :: st) S (if z < 0 ∨ ln a < z.toNatClampNeg ∨ ln b < z.toNatClampNeg then none else R) := by
  by_cases h : z < 0 ∨ ln a < z.toNatClampNeg ∨ ln b < z.toNatClampNeg
  · rw [if_pos h]; intro q hq; cases hq
  · rw [if_neg h]
    subst hn
    intro q hq p e s m args below meth c C K H locs ls hH hS hl
    have hla := kd_lt hka (by decide)
    have hlb := kd_lt hkb (by decide)
    have z0 : (0 : Int32).toNatClampNeg = 0 := by decide
    refine va_copyi (D := (g.1, g.2.1)) C.1 C.2.1 (C.2.2.1.trans hl.1.symm) C.2.2.2.2.1 (TTs C hlk) (TTs C h1) (TTs C h2) (TTs C h3) K.1 hH (wD g S) hS a b 0 0 (by rw [wl_at g S hla, cellE_I hka]) (by rw [wl_at g S hlb, cellE_I hkb]) rfl rfl rfl (by decide) (by decide) (fun q => h (Or.inl q)) (by rw [z0]; omega) (by rw [z0]; omega) (fun _ _ => rfl) hdd (by rw [cv_sum]; show _ + (7 + 11) ≤ 40 * d; omega) hd (fun H1 locs1 hH1 _ hS1 => ?_)
    rw [wl_set (S1 := cpI S a b z.toNatClampNeg) hlb ?_ ?_] at hH1
    · exact k h q hq _ _ _ _ _ _ _ _ C K _ _ _ hH1 hS1 hl
    · rw [cellE_I hkb]
      congr 4
      funext j
      unfold va_cpy
      rw [z0]
      show (if b = b ∧ j < z.toNatClampNeg then S.1 a j else S.1 b j) = _
      by_cases hj : j < z.toNatClampNeg
      · rw [if_pos ⟨rfl, hj⟩, if_pos ⟨Nat.zero_le _, by omega⟩, Nat.sub_zero, Nat.zero_add]
      · rw [if_neg (fun q => hj q.2), if_neg (fun q => hj (by omega))]
    · intro k2 _ hk2
      refine cellE_ne ?_ ?_
      · funext j; show (if k2 = b ∧ _ then _ else _) = _; rw [if_neg (fun q => hk2 q.1)]
      · rfl
theorem X_copyJ {z : Int32} (hka : kd a = 21) (hkb : kd b = 21) (hd : decode M.2.1 pc = .ok (.invokestatic idx, 3)) (hn : pc + 3 = n) (hdd : 1 ≤ d) (hlk : Cond.methodLink M.1.cls idx arraycopyName ∈ TT) (h1 : Cond.native arraycopyName ∈ TT) (h2 : Cond.static arraycopyName ∈ TT) (h3 : Cond.initialized "java/lang/System" ∈ TT) (hcat : (st.map fun v => v.category).sum ≤ 8)
    (k : ¬ (z < 0 ∨ ln a < z.toNatClampNeg ∨ ln b < z.toNatClampNeg) → X φ l g d M n L st (cpJ S a b z.toNatClampNeg) R) : X φ l g d M pc L (.int z :: .int 0 :: .ref b :: .int 0 :: .ref a :: st) S (if z < 0 ∨ ln a < z.toNatClampNeg ∨ ln b < z.toNatClampNeg then none else R) := by
  by_cases h : z < 0 ∨ ln a < z.toNatClampNeg ∨ ln b < z.toNatClampNeg
  · rw [if_pos h]; intro q hq; cases hq
  · rw [if_neg h]
    subst hn
    intro q hq p e s m args below meth c C K H locs ls hH hS hl
    have hla := kd_lt hka (by decide)
    have hlb := kd_lt hkb (by decide)
    have z0 : (0 : Int32).toNatClampNeg = 0 := by decide
    refine va_copyl (D := (g.1, g.2.1)) C.1 C.2.1 (C.2.2.1.trans hl.1.symm) C.2.2.2.2.1 (TTs C hlk) (TTs C h1) (TTs C h2) (TTs C h3) K.1 hH (wD g S) hS a b 1 1 (by rw [wl_at g S hla, cellE_J hka]) (by rw [wl_at g S hlb, cellE_J hkb]) rfl rfl rfl (by decide) (by decide) (fun q => h (Or.inl q)) (by rw [z0]; omega) (by rw [z0]; omega) (fun _ _ => rfl) hdd (by rw [cv_sum]; show _ + (7 + 11) ≤ 40 * d; omega) hd (fun H1 locs1 hH1 _ hS1 => ?_)
    rw [wl_set (S1 := cpJ S a b z.toNatClampNeg) hlb ?_ ?_] at hH1
    · exact k h q hq _ _ _ _ _ _ _ _ C K _ _ _ hH1 hS1 hl
    · rw [cellE_J hkb]
      congr 5
      funext j
      unfold va_cpy
      rw [z0]
      show (if b = b ∧ j < z.toNatClampNeg then S.2 a j else S.2 b j) = _
      by_cases hj : j < z.toNatClampNeg
      · rw [if_pos ⟨rfl, hj⟩, if_pos ⟨Nat.zero_le _, by omega⟩, Nat.sub_zero, Nat.zero_add]
      · rw [if_neg (fun q => hj q.2), if_neg (fun q => hj (by omega))]
    · intro k2 _ hk2
      refine cellE_ne ?_ ?_
      · rfl
      · funext j; show (if k2 = b ∧ _ then _ else _) = _; rw [if_neg (fun q => hk2 q.1)]
end XArr
