def rmV : Room := { frames := 12, cells := 1, slots := 6, locals := 480 }
def QcW (g : XG) (S : XS) (R : Option Int32) : Array Value → State → Outcome → State → Prop := fun _ st oc t => (∃ v, R = some v ∧ oc = .returned (some (.int v)) ∧ XH g S t.heap) ∧ va_F (wA g) st t
def XcW (g : XG) (S : XS) (R : Option Int32) : String → State → State → Prop := fun E st t => R = none ∧ E = NSE ∧ XH g S t.heap ∧ va_F (wA g) st t
/-- it answers R, or throws where R is none -/
def ClW (l : Launch) (g : XG) (M : XM) (av : List Value) (S : XS) (R : Option Int32) : Prop := vx_Met l M.1 (mws M) rmV (va_Pc (av.map (cv g)) (fun U => XH g S U.heap ∧ KX g U ∧ EX (wA g) U.heap U)) (QcW g S R) (XcW g S R) 1 6 (wA g)
section YW
variable {p : Program} {l : Launch} {e : Env} {s : State} {m : MethodId} {args : Array Value} {below : List Frame} {meth : Method} {c : Code} {g : XG} {M : XM} {pc : Nat} {L : List (Nat × Value)} {S : XS} {R : Option Int32}
abbrev YV (p : Program) (l : Launch) (e : Env) (s : State) (m : MethodId) (args : Array Value) (below : List Frame) (meth : Method) (c : Code) (g : XG) (M : XM) (pc : Nat) (L : List (Nat × Value)) (st : List Value) (S : XS) (R : Option Int32) : Prop := Y p l e rmV s m args below meth c g (wA g) 0 0 (vx_MQ below (QcW g S R) (XcW g S R) args s 1 6 (wA g)) M pc L st S
theorem YV_iret {v : Int32} (C : YC p rmV s m args meth c g (wA g) M) (hR : R = some v) (hr : M.2.2.2 = some .int) (hd : decode M.2.1 pc = .ok (.ireturn, 1)) : YV p l e s m args below meth c g M pc L [.int v] S R := by
  intro H locs ls hH hS hl
  refine W.widen (k := 1) (n := 6) (by omega) (by omega) ?_
  refine vx_ret ?_
  exact W.iret C.1.1 C.1.2.1 (C.1.2.2.2.1.trans hr) (fun t ht hW => ⟨⟨v, hR, rfl, by rw [ht]; exact hH⟩, hS.F ht⟩) hS.2.2 hd C.1.2.2.2.2.2.2
theorem YV_throw (C : YC p rmV s m args meth c g (wA g) M) (hM : M.1.cls = RX11) (hE : EX (wA g) s.heap s) (hst : l.stackTraces = false) (htab : ∀ x ∈ c.exceptionTable.toList, False) (hR : R = none) (d0 : decode M.2.1 pc = .ok (.new 148, 3)) (d3 : decode M.2.1 (pc + 3) = .ok (.dup, 1)) (d4 : decode M.2.1 (pc + 4) = .ok (.invokespecial 150, 3)) (d7 : decode M.2.1 (pc + 7) = .ok (.athrow, 1)) : YV p l e s m args below meth c g M pc L [] S R := by
  intro H locs ls hH hS hl
  have hT : ∀ w ∈ TT, w.before args s = true := C.1.2.2.2.2.2.1
  refine vx_throw0 (A := wA g) (own := RX11) (cls := NSE) (names := ["java/lang/RuntimeException", "java/lang/Exception"]) (ik := 148) (ic := 150) C.1.1 C.1.2.1 hst (by rw [← hM]; exact C.1.2.2.2.2.1) (by decide +kernel) (by decide +kernel) (hT _ cl_NSE) (hT _ in_NSE) (vxA_at hT hE.1) vx_ots hE.2.1 hE.2.2 hS (hl.1.trans C.1.2.2.1.symm) d0 d3 d4 d7 (fun x hx => (htab x hx).elim) (by decide) (Nat.le_of_ble_eq_true rfl) (by decide) (by decide) C.1.2.2.2.2.2.2 (fun t _ hz hk => ⟨hR, rfl, ?_, ?_⟩) hS.2.2 (by omega) (by omega)
  · exact hH.kept (fun k q hq => hk q.1 ((hH k q hq).lt))
  · exact ⟨Nat.le_trans hS.1 hz, fun q h1 h2 => (hk q (Nat.lt_of_lt_of_le h1 hS.1)).trans (hS.2.1 q h1 h2)⟩
theorem ClW.of {av : List Value} (hp : plainName M.1.cls = true) (hn : (lg_sl av).length ≤ M.2.2.1) (h : ∀ (p : Program) (e : Env) (s : State) (m : MethodId) (args : Array Value) (below : List Frame) (meth : Method) (c : Code), YC p rmV s m args meth c g (wA g) M → EX (wA g) s.heap s → (∀ x ∈ c.exceptionTable.toList, False) → YV p l e s m args below meth c g M 0 (lv_args 0 av) [] S R) : ClW l g M av S R := by
  refine vx_ofW (cc := M.2.1) (maxL := M.2.2.1) (ret := M.2.2.2) (ws' := TT) hp rfl ?_
  intro p e s m args below meth c s1 B hml htab hv
  obtain ⟨rfl, hH, hK, hE⟩ := hv
  have hts := atoms_spec (ws := mws M) B.pre
  have hl := lv_entry (av.map (cv g)) (n := M.2.2.1) (by rw [lg_slmap]; exact hn)
  rw [lg_entry_eq]
  generalize (lg_sl (av.map (cv g)) ++ List.replicate (M.2.2.1 - (lg_sl (av.map (cv g))).length) Slot.unset).toArray = ls at hl ⊢
  rw [lv_argsmap] at hl
  exact h p e s m _ below meth c ⟨⟨B.exec, B.bytes, hml, B.returns, findClass_of_methodNamed B.named, fun w hw => hts w (List.mem_cons_of_mem _ hw), B.notSynchronized⟩, hK, fun _ h => h, hK.2.2.1, hK.2.2.2, by decide, by decide⟩ hE htab _ _ _ hH va_S.rf hl
theorem bi_f {b : Bool} (h : bi b = 0) : b = false := by cases b with
  | false => rfl
  | true => exact absurd h (by decide)
theorem bi_t {b : Bool} (h : ¬ bi b = 0) : b = true := by cases b with
  | false => exact absurd rfl h
  | true => rfl
end YW
def airR (a0 : Nat) (i1 i2 : Int32) (S : XS) : Option Int32 := if t_X2_has (rf a0 1) 1 i1 S = true then (if t_X2_has (rf a0 1) 0 i2 S = true then some (gat S (rf (rf a0 1) 3) (i1 * 6 + i2)) else none) else none
theorem w_X11_air {l : Launch} (hst : l.stackTraces = false) {g : XG} {a0 : Nat} {i1 i2 : Int32} {S : XS} (hk : kd a0 = 11) : ClW l g mX11_air [.ref a0, .int i1, .int i2] S (airR a0 i1 i2 S) := by
  refine ClW.of (by decide +kernel) (Nat.le_of_ble_eq_true rfl) ?_
  intro p e s m args below meth c C hE htab
  show YV _ _ _ _ _ _ _ _ _ _ _ 0 [(0, .ref a0), (1, .int i1), (2, .int i2)] [] _ _
  have thr : airR a0 i1 i2 S = none → YV p l e s m args below meth c g mX11_air 24 [(0, .ref a0), (1, .int i1), (2, .int i2)] [] S (airR a0 i1 i2 S) := fun h => YV_throw C rfl hE hst htab h (kX11_air 12 rfl) (kX11_air 13 rfl) (kX11_air 14 rfl) (kX11_air 15 rfl)
  refine Y_aload_n C (n := 1) 0 (kX11_air 0 rfl) rfl rfl rfl ?_
  refine Y_getR C (n := 4) xf_X11 hk (by decide) fl_X11_19 rfl (kX11_air 1 rfl) rfl ?_
  refine Y_iconst C (n := 5) (v := 1) (kX11_air 2 rfl) rfl (by decide) ?_
  refine Y_iload_n C (n := 6) 1 (kX11_air 3 rfl) rfl rfl rfl ?_
  refine Y_callV C (n := 9) (As := [.int 1, .int i1]) (st := []) (kX11_air 4 rfl) rfl (p_X2_has (kt_11_1 hk)) (by decide) (by decide) ml_X11_144 mf_X2_has rfl (kt_11_1 hk) xf_X2 rfl (Nat.le_of_ble_eq_true rfl) (by decide) (by decide) ?_
  refine Y_if_eq C (n := 12) (tgt := 24) (kX11_air 5 rfl) rfl rfl (fun h => thr (by unfold airR; rw [if_neg (by rw [show t_X2_has (rf a0 1) 1 i1 S = false from bi_f h]; decide)])) (fun h1 => ?_)
  refine Y_aload_n C (n := 13) 0 (kX11_air 6 rfl) rfl rfl rfl ?_
  refine Y_getR C (n := 16) xf_X11 hk (by decide) fl_X11_19 rfl (kX11_air 7 rfl) rfl ?_
  refine Y_iconst C (n := 17) (v := 0) (kX11_air 8 rfl) rfl (by decide) ?_
  refine Y_iload_n C (n := 18) 2 (kX11_air 9 rfl) rfl rfl rfl ?_
  refine Y_callV C (n := 21) (As := [.int 0, .int i2]) (st := []) (kX11_air 10 rfl) rfl (p_X2_has (kt_11_1 hk)) (by decide) (by decide) ml_X11_144 mf_X2_has rfl (kt_11_1 hk) xf_X2 rfl (Nat.le_of_ble_eq_true rfl) (by decide) (by decide) ?_
  refine Y_if_ne C (n := 24) (tgt := 32) (kX11_air 11 rfl) rfl rfl (fun h2 => ?_) (fun h => thr (by unfold airR; rw [if_pos (show t_X2_has (rf a0 1) 1 i1 S = true from bi_t h1), if_neg (by rw [show t_X2_has (rf a0 1) 0 i2 S = false from bi_f h]; decide)]))
  refine Y_aload_n C (n := 33) 0 (kX11_air 16 rfl) rfl rfl rfl ?_
  refine Y_getR C (n := 36) xf_X11 hk (by decide) fl_X11_19 rfl (kX11_air 17 rfl) rfl ?_
  refine Y_getR C (n := 39) xf_X2 (kt_11_1 hk) (by decide) fl_X11_151 rfl (kX11_air 18 rfl) rfl ?_
  refine Y_iload_n C (n := 40) 1 (kX11_air 19 rfl) rfl rfl rfl ?_
  refine Y_bipush C (n := 42) (v := 6) (kX11_air 20 rfl) rfl (by decide) ?_
  refine Y_imul C (n := 43) (kX11_air 21 rfl) rfl ?_
  refine Y_iload_n C (n := 44) 2 (kX11_air 22 rfl) rfl rfl rfl ?_
  refine Y_iadd C (n := 45) (kX11_air 23 rfl) rfl ?_
  refine Y_callS C (n := 48) (As := [.ref (rf (rf a0 1) 3), .int (i1 * 6 + i2)]) (st := []) (kX11_air 24 rfl) rfl (p_X11_at (kt_2_3 (kt_11_1 hk))) (by decide) (by decide) ml_X11_154 mf_X11_at rfl rfl (Nat.le_of_ble_eq_true rfl) (by decide) (by decide) ?_
  exact YV_iret C (by unfold airR; rw [if_pos (show t_X2_has (rf a0 1) 1 i1 S = true from bi_t h1), if_pos (show t_X2_has (rf a0 1) 0 i2 S = true from bi_t h2)]) rfl (kX11_air 25 rfl)
