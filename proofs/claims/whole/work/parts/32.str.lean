def QT (v : Option Value) : Array Value → State → Outcome → State → Prop := fun _ st oc t => oc = .returned v ∧ t.heap = st.heap
abbrev KT (sk sv : Nat) (U : State) : Prop := KS (fun _ => False) sk sv U.heap U
def ClT {β : Type} (ψ : β → Option Value) (l : Launch) (sk sv d : Nat) (M : XM) (av : List Value) (R : Option β) : Prop := ∀ q, R = some q → Met l M.1 (mws M) (xrm d) (va_Pc av (fun U => KT sk sv U)) (QT (ψ q)) 0 0 (fun _ => False)
def T {β : Type} (ψ : β → Option Value) (l : Launch) (sk sv d : Nat) (M : XM) (pc : Nat) (L : List (Nat × Value)) (st : List Value) (R : Option β) : Prop := ∀ q, R = some q → ∀ (p : Program) (e : Env) (s : State) (m : MethodId) (args : Array Value) (below : List Frame) (meth : Method) (c : Code), CX M p s m args meth c → KT sk sv s → ∀ (ls : Array Slot), lv_has ls M.2.2.1 L → W p l e (xrm d) s m args below meth c s.heap [] 0 0 (MQ below (QT (ψ q)) args s 0 0 (fun _ => False)) (F0 m pc ls st)
abbrev ψI : Int32 → Option Value := fun v => some (.int v)
abbrev ψJ : Int64 → Option Value := fun v => some (.long v)
abbrev ψV : Unit → Option Value := fun _ => none
abbrev fF : Nat → Prop := fun _ => False
section TR
variable {β γ : Type} {ψ : β → Option Value} {ξ : γ → Option Value} {l : Launch} {sk sv d d1 : Nat} {M N : XM} {pc n tgt idx k0 : Nat} {L L1 : List (Nat × Value)} {st stk As : List Value} {R R1 R2 : Option β}
theorem ClT.of {av : List Value} (hp : plainName M.1.cls = true) (hn : (lg_sl av).length ≤ M.2.2.1) (h : T ψ l sk sv d M 0 (lv_args 0 av) [] R) : ClT ψ l sk sv d M av R := by
  intro q hq
  refine Met.ofW (cc := M.2.1) (maxL := M.2.2.1) (ret := M.2.2.2) (ws' := TT) hp rfl ?_
  intro p e s m args below meth c s1 B hml hv
  obtain ⟨rfl, hK⟩ := hv
  have hts := atoms_spec (ws := mws M) B.pre
  have hl := lv_entry av (n := M.2.2.1) hn
  rw [lg_entry_eq]
  generalize (lg_sl av ++ List.replicate (M.2.2.1 - (lg_sl av).length) Slot.unset).toArray = ls at hl ⊢
  exact h q hq p e s m _ below meth c ⟨B.exec, B.bytes, hml, B.returns, findClass_of_methodNamed B.named, hts, B.notSynchronized⟩ hK _ hl
theorem T_iconst {z : Int} {v : Int32} (hd : decode M.2.1 pc = .ok (.iconst z, 1)) (hn : pc + 1 = n) (hv : Int32.ofInt z = v) (k : T ψ l sk sv d M n L (.int v :: st) R) : T ψ l sk sv d M pc L (st) R := by
  subst hn
  intro q hq p e s m args below meth c C K ls hl
  exact lv_iconst C.1 C.2.1 hd hv (k q hq _ _ _ _ _ _ _ _ C K _ hl)
theorem T_bipush {z : Int} {v : Int32} (hd : decode M.2.1 pc = .ok (.bipush z, 2)) (hn : pc + 2 = n) (hv : (Int8.ofInt z).toInt32 = v) (k : T ψ l sk sv d M n L (.int v :: st) R) : T ψ l sk sv d M pc L (st) R := by
  subst hn
  intro q hq p e s m args below meth c C K ls hl
  exact lv_bipush C.1 C.2.1 hd hv (k q hq _ _ _ _ _ _ _ _ C K _ hl)
theorem T_sipush {z : Int} {v : Int32} (hd : decode M.2.1 pc = .ok (.sipush z, 3)) (hn : pc + 3 = n) (hv : (Int16.ofInt z).toInt32 = v) (k : T ψ l sk sv d M n L (.int v :: st) R) : T ψ l sk sv d M pc L (st) R := by
  subst hn
  intro q hq p e s m args below meth c C K ls hl
  exact lv_sipush C.1 C.2.1 hd hv (k q hq _ _ _ _ _ _ _ _ C K _ hl)
theorem T_lconst {z : Fin 2} {v : Int64} (hd : decode M.2.1 pc = .ok (.lconst z, 1)) (hn : pc + 1 = n) (hv : Int64.ofNat (z : Nat) = v) (k : T ψ l sk sv d M n L (.long v :: st) R) : T ψ l sk sv d M pc L (st) R := by
  subst hn
  intro q hq p e s m args below meth c C K ls hl
  exact lv_lconst C.1 C.2.1 hd hv (k q hq _ _ _ _ _ _ _ _ C K _ hl)
theorem T_iload_n (j : Nat) {f : Fin 4} {i : Nat} {x : Int32} (hd : decode M.2.1 pc = .ok (.iload_n f, 1)) (hn : pc + 1 = n) (hi : (f : Nat) = i) (hj : L[j]? = some (i, .int x)) (k : T ψ l sk sv d M n L (.int x :: st) R) : T ψ l sk sv d M pc L (st) R := by
  subst hn
  intro q hq p e s m args below meth c C K ls hl
  exact lv_iload_n C.1 C.2.1 hd hi (lv_at hl j hj) (k q hq _ _ _ _ _ _ _ _ C K _ hl)
theorem T_lload_n (j : Nat) {f : Fin 4} {i : Nat} {x : Int64} (hd : decode M.2.1 pc = .ok (.lload_n f, 1)) (hn : pc + 1 = n) (hi : (f : Nat) = i) (hj : L[j]? = some (i, .long x)) (k : T ψ l sk sv d M n L (.long x :: st) R) : T ψ l sk sv d M pc L (st) R := by
  subst hn
  intro q hq p e s m args below meth c C K ls hl
  exact lv_lload_n C.1 C.2.1 hd hi (lv_at hl j hj) (k q hq _ _ _ _ _ _ _ _ C K _ hl)
theorem T_aload_n (j : Nat) {f : Fin 4} {i : Nat} {x : Nat} (hd : decode M.2.1 pc = .ok (.aload_n f, 1)) (hn : pc + 1 = n) (hi : (f : Nat) = i) (hj : L[j]? = some (i, .ref x)) (k : T ψ l sk sv d M n L (.ref x :: st) R) : T ψ l sk sv d M pc L (st) R := by
  subst hn
  intro q hq p e s m args below meth c C K ls hl
  exact lv_aload_n C.1 C.2.1 hd hi (lv_at hl j hj) (k q hq _ _ _ _ _ _ _ _ C K _ hl)
theorem T_istore_n {f : Fin 4} {i : Nat} {x : Int32} (hd : decode M.2.1 pc = .ok (.istore_n f, 1)) (hn : pc + 1 = n) (hi : (f : Nat) = i) (hlt : i < M.2.2.1) (hL : (i, Value.int x) :: L.filter (fun q => !(q.1 == i) && !(q.1 + 1 == i && q.2.category == 2)) = L1) (k : T ψ l sk sv d M n L1 (st) R) : T ψ l sk sv d M pc L (.int x :: st) R := by
  subst hn
  intro q hq p e s m args below meth c C K ls hl
  exact lv_istore_n C.1 C.2.1 hd hi hl hlt hL (fun ls hl => k q hq _ _ _ _ _ _ _ _ C K _ hl)
theorem T_lstore_n {f : Fin 4} {i : Nat} {x : Int64} (hd : decode M.2.1 pc = .ok (.lstore_n f, 1)) (hn : pc + 1 = n) (hi : (f : Nat) = i) (hlt : i + 1 < M.2.2.1) (hL : (i, Value.long x) :: L.filter (fun q => !(q.1 == i) && (!(q.1 == i + 1) && !(q.1 + 1 == i && q.2.category == 2))) = L1) (k : T ψ l sk sv d M n L1 (st) R) : T ψ l sk sv d M pc L (.long x :: st) R := by
  subst hn
  intro q hq p e s m args below meth c C K ls hl
  exact lv_lstore_n C.1 C.2.1 hd hi hl hlt hL (fun ls hl => k q hq _ _ _ _ _ _ _ _ C K _ hl)
theorem T_iinc (j : Nat) {i : Nat} {z : Int} {x v : Int32} (hd : decode M.2.1 pc = .ok (.iinc i z, 3)) (hn : pc + 3 = n) (hj : L[j]? = some (i, .int x)) (hv : x + Int32.ofInt z = v) (hlt : i < M.2.2.1) (hL : (i, Value.int v) :: L.filter (fun q => !(q.1 == i) && !(q.1 + 1 == i && q.2.category == 2)) = L1) (k : T ψ l sk sv d M n L1 (st) R) : T ψ l sk sv d M pc L (st) R := by
  subst hn
  intro q hq p e s m args below meth c C K ls hl
  exact lv_iinc C.1 C.2.1 hd hl (k := j) hj hv hlt hL (fun ls hl => k q hq _ _ _ _ _ _ _ _ C K _ hl)
theorem T_iadd {x y : Int32} (hd : decode M.2.1 pc = .ok (.iadd, 1)) (hn : pc + 1 = n) (k : T ψ l sk sv d M n L (.int (x + y) :: st) R) : T ψ l sk sv d M pc L (.int y :: .int x :: st) R := by
  subst hn
  intro q hq p e s m args below meth c C K ls hl
  exact lv_iadd C.1 C.2.1 hd (k q hq _ _ _ _ _ _ _ _ C K _ hl)
theorem T_imul {x y : Int32} (hd : decode M.2.1 pc = .ok (.imul, 1)) (hn : pc + 1 = n) (k : T ψ l sk sv d M n L (.int (x * y) :: st) R) : T ψ l sk sv d M pc L (.int y :: .int x :: st) R := by
  subst hn
  intro q hq p e s m args below meth c C K ls hl
  exact lv_imul C.1 C.2.1 hd (k q hq _ _ _ _ _ _ _ _ C K _ hl)
theorem T_iand {x y : Int32} (hd : decode M.2.1 pc = .ok (.iand, 1)) (hn : pc + 1 = n) (k : T ψ l sk sv d M n L (.int (x &&& y) :: st) R) : T ψ l sk sv d M pc L (.int y :: .int x :: st) R := by
  subst hn
  intro q hq p e s m args below meth c C K ls hl
  exact lv_iand C.1 C.2.1 hd (k q hq _ _ _ _ _ _ _ _ C K _ hl)
theorem T_lor {x y : Int64} (hd : decode M.2.1 pc = .ok (.lor, 1)) (hn : pc + 1 = n) (k : T ψ l sk sv d M n L (.long (x ||| y) :: st) R) : T ψ l sk sv d M pc L (.long y :: .long x :: st) R := by
  subst hn
  intro q hq p e s m args below meth c C K ls hl
  exact lv_lor C.1 C.2.1 hd (k q hq _ _ _ _ _ _ _ _ C K _ hl)
theorem T_ishr {x y : Int32} (hd : decode M.2.1 pc = .ok (.ishr, 1)) (hn : pc + 1 = n) (k : T ψ l sk sv d M n L (.int (shr32 x y) :: st) R) : T ψ l sk sv d M pc L (.int y :: .int x :: st) R := by
  subst hn
  intro q hq p e s m args below meth c C K ls hl
  exact lv_ishr C.1 C.2.1 hd (k q hq _ _ _ _ _ _ _ _ C K _ hl)
theorem T_lshl {x : Int64} {y : Int32} (hd : decode M.2.1 pc = .ok (.lshl, 1)) (hn : pc + 1 = n) (k : T ψ l sk sv d M n L (.long (shl64 x y) :: st) R) : T ψ l sk sv d M pc L (.int y :: .long x :: st) R := by
  subst hn
  intro q hq p e s m args below meth c C K ls hl
  exact lv_lshl C.1 C.2.1 hd rfl (k q hq _ _ _ _ _ _ _ _ C K _ hl)
theorem T_i2l {x : Int32} (hd : decode M.2.1 pc = .ok (.i2l, 1)) (hn : pc + 1 = n) (k : T ψ l sk sv d M n L (.long x.toInt64 :: st) R) : T ψ l sk sv d M pc L (.int x :: st) R := by
  subst hn
  intro q hq p e s m args below meth c C K ls hl
  exact lv_i2l C.1 C.2.1 hd rfl (k q hq _ _ _ _ _ _ _ _ C K _ hl)
theorem T_i2c {x v : Int32} (hd : decode M.2.1 pc = .ok (.i2c, 1)) (hn : pc + 1 = n) (hv : (x.toUInt32 % 65536).toInt32 = v) (k : T ψ l sk sv d M n L (.int v :: st) R) : T ψ l sk sv d M pc L (.int x :: st) R := by
  subst hn
  intro q hq p e s m args below meth c C K ls hl
  exact lv_i2c C.1 C.2.1 hd hv (k q hq _ _ _ _ _ _ _ _ C K _ hl)
theorem T_pop {v : Value} (hd : decode M.2.1 pc = .ok (.pop, 1)) (hn : pc + 1 = n) (hv : v.category = 1) (k : T ψ l sk sv d M n L (st) R) : T ψ l sk sv d M pc L (v :: st) R := by
  subst hn
  intro q hq p e s m args below meth c C K ls hl
  exact lv_pop C.1 C.2.1 hd hv (k q hq _ _ _ _ _ _ _ _ C K _ hl)
theorem T_goto {off : Int} (hd : decode M.2.1 pc = .ok (.goto off, 3)) (ht : (pc : Int) + off = (tgt : Int)) (k : T ψ l sk sv d M tgt L (st) R) : T ψ l sk sv d M pc L (st) R := by
  intro q hq p e s m args below meth c C K ls hl
  exact lv_goto C.1 C.2.1 hd ht (k q hq _ _ _ _ _ _ _ _ C K _ hl)
theorem T_none : T ψ l sk sv d M pc L st none := by
  intro q hq; cases hq
theorem T_if_lt {x : Int32} {off : Int} (hd : decode M.2.1 pc = .ok (.ifCond .lt off, 3)) (hn : pc + 3 = n) (ht : (pc : Int) + off = (tgt : Int)) (k1 : x < 0 → T ψ l sk sv d M tgt L (st) R1) (k2 : ¬ x < 0 → T ψ l sk sv d M n L (st) R2) : T ψ l sk sv d M pc L (.int x :: st) (if x < 0 then R1 else R2) := by
  subst hn
  by_cases h : x < 0
  · rw [if_pos h]
    intro q hq p e s m args below meth c C K ls hl
    exact lv_if_lt C.1 C.2.1 hd ht (fun h' => k1 h q hq _ _ _ _ _ _ _ _ C K _ hl) (fun h' => absurd h h')
  · rw [if_neg h]
    intro q hq p e s m args below meth c C K ls hl
    exact lv_if_lt C.1 C.2.1 hd ht (fun h' => absurd h' h) (fun h' => k2 h q hq _ _ _ _ _ _ _ _ C K _ hl)
theorem T_if_eq {x : Int32} {off : Int} (hd : decode M.2.1 pc = .ok (.ifCond .eq off, 3)) (hn : pc + 3 = n) (ht : (pc : Int) + off = (tgt : Int)) (k1 : x = 0 → T ψ l sk sv d M tgt L (st) R1) (k2 : ¬ x = 0 → T ψ l sk sv d M n L (st) R2) : T ψ l sk sv d M pc L (.int x :: st) (if x = 0 then R1 else R2) := by
  subst hn
  by_cases h : x = 0
  · rw [if_pos h]
    intro q hq p e s m args below meth c C K ls hl
    exact lv_if_eq C.1 C.2.1 hd ht (fun h' => k1 h q hq _ _ _ _ _ _ _ _ C K _ hl) (fun h' => absurd h h')
  · rw [if_neg h]
    intro q hq p e s m args below meth c C K ls hl
    exact lv_if_eq C.1 C.2.1 hd ht (fun h' => absurd h' h) (fun h' => k2 h q hq _ _ _ _ _ _ _ _ C K _ hl)
theorem T_if_ne {x : Int32} {off : Int} (hd : decode M.2.1 pc = .ok (.ifCond .ne off, 3)) (hn : pc + 3 = n) (ht : (pc : Int) + off = (tgt : Int)) (k1 : x = 0 → T ψ l sk sv d M n L (st) R1) (k2 : ¬ x = 0 → T ψ l sk sv d M tgt L (st) R2) : T ψ l sk sv d M pc L (.int x :: st) (if x = 0 then R1 else R2) := by
  subst hn
  by_cases h : x = 0
  · rw [if_pos h]
    intro q hq p e s m args below meth c C K ls hl
    exact lv_if_ne C.1 C.2.1 hd ht (fun h' => absurd h h') (fun h' => k1 h q hq _ _ _ _ _ _ _ _ C K _ hl)
  · rw [if_neg h]
    intro q hq p e s m args below meth c C K ls hl
    exact lv_if_ne C.1 C.2.1 hd ht (fun h' => k2 h q hq _ _ _ _ _ _ _ _ C K _ hl) (fun h' => absurd h' h)
theorem T_ic_ge {x y : Int32} {off : Int} (hd : decode M.2.1 pc = .ok (.if_icmp .ge off, 3)) (hn : pc + 3 = n) (ht : (pc : Int) + off = (tgt : Int)) (k1 : y ≤ x → T ψ l sk sv d M tgt L (st) R1) (k2 : ¬ y ≤ x → T ψ l sk sv d M n L (st) R2) : T ψ l sk sv d M pc L (.int y :: .int x :: st) (if y ≤ x then R1 else R2) := by
  subst hn
  by_cases h : y ≤ x
  · rw [if_pos h]
    intro q hq p e s m args below meth c C K ls hl
    exact lv_icmp_ge C.1 C.2.1 hd ht (fun h' => k1 h q hq _ _ _ _ _ _ _ _ C K _ hl) (fun h' => absurd h h')
  · rw [if_neg h]
    intro q hq p e s m args below meth c C K ls hl
    exact lv_icmp_ge C.1 C.2.1 hd ht (fun h' => absurd h' h) (fun h' => k2 h q hq _ _ _ _ _ _ _ _ C K _ hl)
theorem T_ic_eq {x y : Int32} {off : Int} (hd : decode M.2.1 pc = .ok (.if_icmp .eq off, 3)) (hn : pc + 3 = n) (ht : (pc : Int) + off = (tgt : Int)) (k1 : x = y → T ψ l sk sv d M tgt L (st) R1) (k2 : ¬ x = y → T ψ l sk sv d M n L (st) R2) : T ψ l sk sv d M pc L (.int y :: .int x :: st) (if x = y then R1 else R2) := by
  subst hn
  by_cases h : x = y
  · rw [if_pos h]
    intro q hq p e s m args below meth c C K ls hl
    exact lv_icmp_eq C.1 C.2.1 hd ht (fun h' => k1 h q hq _ _ _ _ _ _ _ _ C K _ hl) (fun h' => absurd h h')
  · rw [if_neg h]
    intro q hq p e s m args below meth c C K ls hl
    exact lv_icmp_eq C.1 C.2.1 hd ht (fun h' => absurd h' h) (fun h' => k2 h q hq _ _ _ _ _ _ _ _ C K _ hl)
theorem T_ic_lt {x y : Int32} {off : Int} (hd : decode M.2.1 pc = .ok (.if_icmp .lt off, 3)) (hn : pc + 3 = n) (ht : (pc : Int) + off = (tgt : Int)) (k1 : x < y → T ψ l sk sv d M tgt L (st) R1) (k2 : ¬ x < y → T ψ l sk sv d M n L (st) R2) : T ψ l sk sv d M pc L (.int y :: .int x :: st) (if x < y then R1 else R2) := by
  subst hn
  by_cases h : x < y
  · rw [if_pos h]
    intro q hq p e s m args below meth c C K ls hl
    exact lv_icmp_lt C.1 C.2.1 hd ht (fun h' => k1 h q hq _ _ _ _ _ _ _ _ C K _ hl) (fun h' => absurd h h')
  · rw [if_neg h]
    intro q hq p e s m args below meth c C K ls hl
    exact lv_icmp_lt C.1 C.2.1 hd ht (fun h' => absurd h' h) (fun h' => k2 h q hq _ _ _ _ _ _ _ _ C K _ hl)
theorem T_ldcS (hd : decode M.2.1 pc = .ok (.ldc 15, 2)) (hn : pc + 2 = n) (hM : M.1.cls = RX8) (k : T ψ l sk sv d M n L (.ref sk :: st) R) : T ψ l sk sv d M pc L (st) R := by
  subst hn
  intro q hq p e s m args below meth c C K ls hl
  exact va_ldcS C.1 C.2.1 (hM ▸ C.2.2.2.2.1) K.1 hd (k q hq _ _ _ _ _ _ _ _ C K _ hl)
theorem T_value (hd : decode M.2.1 pc = .ok (.getfield idx, 3)) (hn : pc + 3 = n) (hlk : Cond.fieldLink M.1.cls idx "java/lang/String" "value" "[B" ∈ TT) (k : T ψ l sk sv d M n L (.ref sv :: st) R) : T ψ l sk sv d M pc L (.ref sk :: st) R := by
  subst hn
  intro q hq p e s m args below meth c C K ls hl
  exact vk_getf C.1 C.2.1 (K.2.1.1 0 (by decide)).2.2.1 va_S.rf C.2.2.2.2.1 (TTs C hlk) (fun _ h => h) hd (k q hq _ _ _ _ _ _ _ _ C K _ hl)
theorem T_coder (hd : decode M.2.1 pc = .ok (.getfield idx, 3)) (hn : pc + 3 = n) (hlk : Cond.fieldLink M.1.cls idx "java/lang/String" "coder" "B" ∈ TT) (k : T ψ l sk sv d M n L (.int 0 :: st) R) : T ψ l sk sv d M pc L (.ref sk :: st) R := by
  subst hn
  intro q hq p e s m args below meth c C K ls hl
  exact vk_getf C.1 C.2.1 (K.2.1.1 0 (by decide)).2.1 va_S.rf C.2.2.2.2.1 (TTs C hlk) (fun _ h => h) hd (k q hq _ _ _ _ _ _ _ _ C K _ hl)
theorem T_vlen (hd : decode M.2.1 pc = .ok (.arraylength, 1)) (hn : pc + 1 = n) (k : T ψ l sk sv d M n L (.int 119 :: st) R) : T ψ l sk sv d M pc L (.ref sv :: st) R := by
  subst hn
  intro q hq p e s m args below meth c C K ls hl
  exact va_tlen (v := 119) C.1 C.2.1 (K.2.1.1 0 (by decide)).2.2.2 va_S.rf rfl hd (k q hq _ _ _ _ _ _ _ _ C K _ hl)
theorem T_vld {i : Int32} (hd : decode M.2.1 pc = .ok (.baload, 1)) (hn : pc + 1 = n) (hin : vp_in i 119) (k : T ψ l sk sv d M n L (.int (keyBytes.getD i.toNatClampNeg 0) :: st) R) : T ψ l sk sv d M pc L (.int i :: .ref sv :: st) R := by
  subst hn
  intro q hq p e s m args below meth c C K ls hl
  exact va_tb C.1 C.2.1 (K.2.1.1 0 (by decide)).2.2.2 va_S.rf hin rfl hd (k q hq _ _ _ _ _ _ _ _ C K _ hl)
theorem T_compact (hd : decode M.2.1 pc = .ok (.getstatic idx, 3)) (hn : pc + 3 = n) (hlk : Cond.fieldLink M.1.cls idx "java/lang/String" "COMPACT_STRINGS" "Z" ∈ TT) (k : T ψ l sk sv d M n L (.int 1 :: st) R) : T ψ l sk sv d M pc L (st) R := by
  subst hn
  intro q hq p e s m args below meth c C K ls hl
  exact va_gets C.1 C.2.1 K.2.2.1 va_S.rf C.2.2.2.2.1 (TTs C hlk) (fun _ h => h) hd (k q hq _ _ _ _ _ _ _ _ C K _ hl)
theorem T_sioobe (hd : decode M.2.1 pc = .ok (.getstatic idx, 3)) (hn : pc + 3 = n) (hlk : Cond.fieldLink M.1.cls idx "jdk/internal/util/Preconditions" "SIOOBE_FORMATTER" "Ljava/util/function/BiFunction;" ∈ TT) (k : ∀ v : Value, v.category = 1 → T ψ l sk sv d M n L (v :: st) R) : T ψ l sk sv d M pc L (st) R := by
  subst hn
  intro q hq p e s m args below meth c C K ls hl
  rcases K.2.2.2 with h | ⟨t, h⟩
  · exact va_gets C.1 C.2.1 h va_S.rf C.2.2.2.2.1 (TTs C hlk) (fun _ h => h) hd (k .null rfl q hq _ _ _ _ _ _ _ _ C K _ hl)
  · exact va_gets C.1 C.2.1 h va_S.rf C.2.2.2.2.1 (TTs C hlk) (fun _ h => h) hd (k (.ref t) rfl q hq _ _ _ _ _ _ _ _ C K _ hl)
theorem T_ret {x : Int32} {ty : FieldType} (hr : M.2.2.2 = some ty) (hnr : narrow ty (.int x) = .int x) (hd : decode M.2.1 pc = .ok (.ireturn, 1)) : T ψI l sk sv d M pc L [.int x] (some x) := by
  intro q hq p e s m args below meth c C K ls hl
  cases hq
  exact W.zret C.1 C.2.1 (C.2.2.2.1.trans hr) hnr (fun t ht hW => ⟨rfl, ht⟩) (fun _ h => by cases h) hd C.2.2.2.2.2.2
theorem T_lret {x : Int64} (hr : M.2.2.2 = some .long) (hd : decode M.2.1 pc = .ok (.lreturn, 1)) : T ψJ l sk sv d M pc L [.long x] (some x) := by
  intro q hq p e s m args below meth c C K ls hl
  cases hq
  exact W.lret C.1 C.2.1 (C.2.2.2.1.trans hr) (fun t ht hW => ⟨rfl, ht⟩) (fun _ h => by cases h) hd C.2.2.2.2.2.2
theorem T_vret (hr : M.2.2.2 = none) (hd : decode M.2.1 pc = .ok (.return_, 1)) : T ψV l sk sv d M pc L [] (some ()) := by
  intro q hq p e s m args below meth c C K ls hl
  cases hq
  exact W.vret C.1 C.2.1 (C.2.2.2.1.trans hr) (fun t ht hW => ⟨rfl, ht⟩) (fun _ h => by cases h) hd C.2.2.2.2.2.2
theorem T_run {p : Program} {e : Env} {s : State} {m : MethodId} {args : Array Value} {below : List Frame} {meth : Method} {c : Code} {ls : Array Slot} {st0 rest : List Value} {av : Array Value} {v : Option Value} {Q : State → Prop}
    (hr : va_Run p l e (xrm d) s m args below meth c s.heap [] 0 0 0 0 (F0 m pc ls st0) rest (QT v av) (fun _ => False))
    (kk : W p l e (xrm d) s m args below meth c s.heap [] 0 0 Q (F0 m (pc + 3) ls (v.toList ++ rest))) : W p l e (xrm d) s m args below meth c s.heap [] 0 0 Q (F0 m pc ls st0) := by
  intro T hT X
  obtain ⟨v', st₀, t, T', Ls, h0, X', hL, e1, e2, ⟨hv, hb⟩, st⟩ := hr T hT X
  have hv : v' = v := by cases hv; rfl
  subst hv
  have hLs : Ls = [] := by
    cases Ls with
    | nil => rfl
    | cons q t => exact absurd (hL q List.mem_cons_self) (fun h => h)
  subst hLs
  obtain ⟨t2, a1, b1⟩ := kk T' (by rw [e1, hb, h0]) X'
  exact ⟨t2, st t2 a1, b1⟩
theorem PT_at {s : State} {av : List Value} (K : KT sk sv s) : ∀ U : State, U.heap = s.heap → s.WarmedH U.vm → va_Pc av (fun U => KT sk sv U) av.toArray U := fun U hU hW => ⟨rfl, by show KS _ sk sv U.heap U; rw [hU]; exact KS.to K (fun _ h => h) hW (fun _ _ _ => rfl)⟩
theorem PT_blind {av : List Value} : FrameBlind (va_Pc av (fun U => KT sk sv U)) := fun a U g' mk h => ⟨h.1, KS.blind h.2⟩
theorem T_callV {r : γ} (hd : decode M.2.1 pc = .ok (.invokevirtual idx, 3)) (hn : pc + 3 = n) (hC : ClT ξ l sk sv d1 N (.ref sk :: As) (some r)) (hN : N.1.cls = "java/lang/String") (hdd : d1 + 1 ≤ d) (hlk : Cond.methodLink M.1.cls idx N.1 ∈ TT) (hf : MFv N k0) (hlen : As.length = k0) (hstk : As.reverse ++ .ref sk :: st = stk) (hcat : (st.map fun v => v.category).sum ≤ 8) (kk : T ψ l sk sv d M n L ((ξ r).toList ++ st) R) : T ψ l sk sv d M pc L stk R := by
  subst hn; subst hstk
  intro q hq p e s m args below meth c C K ls hl
  have hM := hC r rfl
  obtain ⟨f1, f2, f3, f4, f5, f6, f7⟩ := hf
  obtain ⟨r1, r2⟩ := rm_ok hdd f7
  exact T_run (va_runV (Ts := mws M) (own := M.1.cls) (C := N.1.cls) (b := sk) (As := As) (bytes := N.2.1) (maxL := N.2.2.1) (ret := N.2.2.2) ⟨C.1, C.2.1, C.2.2.1, C.2.2.2.2.1, C.2.2.2.2.2.1⟩ hM
    ⟨⟨rfl, rfl, r1, r2, mws_pay C f4, List.mem_cons_self, TTs C f4, TTs C f3, f5, par_n f6, TTs C hlk⟩, TTs C f1, TTs C f2⟩
    ⟨PT_blind, by rw [hN]; exact vk_recv K.2.1 (i := 0) (by decide) va_S.rf, PT_at (av := .ref sk :: As) K⟩ rfl hlen hl.1 rfl (lv_room hcat) hd ⟨Nat.zero_le _, Nat.zero_le _⟩) (kk q hq _ _ _ _ _ _ _ _ C K _ hl)
theorem T_callS {r : γ} (hd : decode M.2.1 pc = .ok (.invokestatic idx, 3)) (hn : pc + 3 = n) (hC : ClT ξ l sk sv d1 N As (some r)) (hdd : d1 + 1 ≤ d) (hlk : Cond.methodLink M.1.cls idx N.1 ∈ TT) (hf : MFs N k0) (hlen : As.length = k0) (hstk : As.reverse ++ st = stk) (hcat : (st.map fun v => v.category).sum ≤ 8) (kk : T ψ l sk sv d M n L ((ξ r).toList ++ st) R) : T ψ l sk sv d M pc L stk R := by
  subst hn; subst hstk
  intro q hq p e s m args below meth c C K ls hl
  have hM := hC r rfl
  obtain ⟨f1, f3, f4, f5, f6, f7⟩ := hf
  obtain ⟨r1, r2⟩ := rm_ok hdd f7
  exact T_run (va_runS (Ts := mws M) (own := M.1.cls) (As := As) (bytes := N.2.1) (maxL := N.2.2.1) (ret := N.2.2.2) ⟨C.1, C.2.1, C.2.2.1, C.2.2.2.2.1, C.2.2.2.2.2.1⟩ hM
    ⟨⟨rfl, rfl, r1, r2, mws_pay C f4, List.mem_cons_self, TTs C f4, TTs C f3, f5, par_n f6, TTs C hlk⟩, TTs C f1⟩
    ⟨PT_blind, PT_at K⟩ rfl hlen hl.1 rfl (lv_room hcat) hd ⟨Nat.zero_le _, Nat.zero_le _⟩) (kk q hq _ _ _ _ _ _ _ _ C K _ hl)
end TR
theorem mf_J0_length_8abf5 : MFv mJ0_length_8abf5 0 := ⟨(TQ1 41 rfl rfl), (TQ1 42 rfl rfl), (TQ1 3 rfl rfl), (TQ1 43 rfl rfl), ⟨by decide +kernel, by decide +kernel⟩, by decide +kernel, by decide⟩
theorem mf_J0_coder_7d493 : MFv mJ0_coder_7d493 0 := ⟨(TQ1 45 rfl rfl), (TQ1 46 rfl rfl), (TQ1 3 rfl rfl), (TQ1 47 rfl rfl), ⟨by decide +kernel, by decide +kernel⟩, by decide +kernel, by decide⟩
theorem mf_J0_charAt_5068e : MFv mJ0_charAt_5068e 1 := ⟨(TQ1 54 rfl rfl), (TQ1 55 rfl rfl), (TQ1 3 rfl rfl), (TQ1 56 rfl rfl), ⟨by decide +kernel, by decide +kernel⟩, by decide +kernel, by decide⟩
theorem mf_J0_isLatin1_aae02 : MFv mJ0_isLatin1_aae02 0 := ⟨(TQ1 58 rfl rfl), (TQ1 59 rfl rfl), (TQ1 3 rfl rfl), (TQ1 60 rfl rfl), ⟨by decide +kernel, by decide +kernel⟩, by decide +kernel, by decide⟩
theorem mf_J1_charAt_3b067 : MFs mJ1_charAt_3b067 2 := ⟨(TQ1 62 rfl rfl), (TQ1 4 rfl rfl), (TQ1 63 rfl rfl), ⟨by decide +kernel, by decide +kernel⟩, by decide +kernel, by decide⟩
theorem mf_J0_checkIndex_df160 : MFs mJ0_checkIndex_df160 2 := ⟨(TQ1 65 rfl rfl), (TQ1 3 rfl rfl), (TQ1 66 rfl rfl), ⟨by decide +kernel, by decide +kernel⟩, by decide +kernel, by decide⟩
theorem fl_J0_38 : Cond.fieldLink RJ0 38 "java/lang/String" "COMPACT_STRINGS" "Z" ∈ TT := (TQ1 48 rfl rfl)
theorem fl_J0_1053 : Cond.fieldLink RJ0 1053 "jdk/internal/util/Preconditions" "SIOOBE_FORMATTER" "Ljava/util/function/BiFunction;" ∈ TT := (TQ1 67 rfl rfl)
theorem fl_J0_9 : Cond.fieldLink RJ0 9 "java/lang/String" "value" "[B" ∈ TT := (TQ9 109 rfl rfl)
theorem fl_J0_15 : Cond.fieldLink RJ0 15 "java/lang/String" "coder" "B" ∈ TT := (TQ9 110 rfl rfl)
section TJ
variable {l : Launch} {sk sv : Nat}
theorem w_coder : ClT ψI l sk sv 1 mJ0_coder_7d493 [.ref sk] (some 0) := by
  refine ClT.of (by decide +kernel) (Nat.le_of_ble_eq_true rfl) ?_
  show T _ _ _ _ _ _ 0 [(0, .ref sk)] [] (if (1 : Int32) = 0 then none else some 0)
  refine T_compact (n := 3) (kJ0_coder_7d493 0 rfl) rfl fl_J0_38 ?_
  refine T_if_eq (n := 6) (tgt := 13) (kJ0_coder_7d493 1 rfl) rfl rfl (fun h => absurd h (by decide)) (fun _ => ?_)
  refine T_aload_n (n := 7) 0 (kJ0_coder_7d493 2 rfl) rfl rfl rfl ?_
  refine T_coder (n := 10) (kJ0_coder_7d493 3 rfl) rfl fl_J0_15 ?_
  refine T_goto (tgt := 14) (kJ0_coder_7d493 4 rfl) rfl ?_
  exact T_ret rfl rfl (kJ0_coder_7d493 6 rfl)
theorem w_isLatin1 : ClT ψI l sk sv 1 mJ0_isLatin1_aae02 [.ref sk] (some 1) := by
  refine ClT.of (by decide +kernel) (Nat.le_of_ble_eq_true rfl) ?_
  show T _ _ _ _ _ _ 0 [(0, .ref sk)] [] (if (1 : Int32) = 0 then none else (if (0 : Int32) = 0 then some 1 else none))
  refine T_compact (n := 3) (kJ0_isLatin1_aae02 0 rfl) rfl fl_J0_38 ?_
  refine T_if_eq (n := 6) (tgt := 17) (kJ0_isLatin1_aae02 1 rfl) rfl rfl (fun h => absurd h (by decide)) (fun _ => ?_)
  refine T_aload_n (n := 7) 0 (kJ0_isLatin1_aae02 2 rfl) rfl rfl rfl ?_
  refine T_coder (n := 10) (kJ0_isLatin1_aae02 3 rfl) rfl fl_J0_15 ?_
  refine T_if_ne (n := 13) (tgt := 17) (kJ0_isLatin1_aae02 4 rfl) rfl rfl (fun _ => ?_) (fun h => absurd rfl h)
  refine T_iconst (n := 14) (v := 1) (kJ0_isLatin1_aae02 5 rfl) rfl (by decide) ?_
  refine T_goto (tgt := 18) (kJ0_isLatin1_aae02 6 rfl) rfl ?_
  exact T_ret rfl rfl (kJ0_isLatin1_aae02 8 rfl)
theorem w_length : ClT ψI l sk sv 2 mJ0_length_8abf5 [.ref sk] (some 119) := by
  refine ClT.of (by decide +kernel) (Nat.le_of_ble_eq_true rfl) ?_
  show T _ _ _ _ _ _ 0 [(0, .ref sk)] [] (some (shr32 119 0))
  refine T_aload_n (n := 1) 0 (kJ0_length_8abf5 0 rfl) rfl rfl rfl ?_
  refine T_value (n := 4) (kJ0_length_8abf5 1 rfl) rfl fl_J0_9 ?_
  refine T_vlen (n := 5) (kJ0_length_8abf5 2 rfl) rfl ?_
  refine T_aload_n (n := 6) 0 (kJ0_length_8abf5 3 rfl) rfl rfl rfl ?_
  refine T_callV (n := 9) (As := []) (st := [.int 119]) (kJ0_length_8abf5 4 rfl) rfl w_coder rfl (by decide) ml_J0_335 mf_J0_coder_7d493 rfl rfl (by decide) ?_
  refine T_ishr (n := 10) (kJ0_length_8abf5 5 rfl) rfl ?_
  exact T_ret rfl rfl (kJ0_length_8abf5 6 rfl)
theorem w_pcheck {i : Int32} {v : Value} (hv : v.category = 1) (h1 : ¬ i < 0) (h2 : i < 119) : ClT ψI l sk sv 1 mJ3_checkIndex_8e157 [.int i, .int 119, v] (some i) := by
  refine ClT.of (by decide +kernel) (by cases v <;> first | exact Nat.le_of_ble_eq_true rfl | cases hv) ?_
  show T _ _ _ _ _ _ 0 [(0, .int i), (1, .int 119), (2, v)] [] (some i)
  rw [show (some i) = (if i < 0 then none else (if i < 119 then some i else none)) from by rw [if_neg h1, if_pos h2]]
  refine T_iload_n (n := 1) 0 (kJ3_checkIndex_8e157 0 rfl) rfl rfl rfl ?_
  refine T_if_lt (n := 4) (tgt := 9) (kJ3_checkIndex_8e157 1 rfl) rfl rfl (fun h => absurd h h1) (fun _ => ?_)
  refine T_iload_n (n := 5) 0 (kJ3_checkIndex_8e157 2 rfl) rfl rfl rfl ?_
  refine T_iload_n (n := 6) 1 (kJ3_checkIndex_8e157 3 rfl) rfl rfl rfl ?_
  refine T_ic_lt (n := 9) (tgt := 16) (kJ3_checkIndex_8e157 4 rfl) rfl rfl (fun _ => ?_) (fun h => absurd h2 h)
  refine T_iload_n (n := 17) 0 (kJ3_checkIndex_8e157 10 rfl) rfl rfl rfl ?_
  exact T_ret rfl rfl (kJ3_checkIndex_8e157 11 rfl)
theorem w_check {i : Int32} (h1 : ¬ i < 0) (h2 : i < 119) : ClT ψV l sk sv 2 mJ0_checkIndex_df160 [.int i, .int 119] (some ()) := by
  refine ClT.of (by decide +kernel) (Nat.le_of_ble_eq_true rfl) ?_
  show T _ _ _ _ _ _ 0 [(0, .int i), (1, .int 119)] [] (some ())
  refine T_iload_n (n := 1) 0 (kJ0_checkIndex_df160 0 rfl) rfl rfl rfl ?_
  refine T_iload_n (n := 2) 1 (kJ0_checkIndex_df160 1 rfl) rfl rfl rfl ?_
  refine T_sioobe (n := 5) (kJ0_checkIndex_df160 2 rfl) rfl fl_J0_1053 (fun v hv => ?_)
  refine T_callS (n := 8) (As := [.int i, .int 119, v]) (st := []) (kJ0_checkIndex_df160 3 rfl) rfl (w_pcheck hv h1 h2) (by decide) ml_J0_1059 mf_J3_checkIndex_8e157 rfl rfl (by decide) ?_
  refine T_pop (n := 9) (kJ0_checkIndex_df160 4 rfl) rfl rfl ?_
  exact T_vret rfl (kJ0_checkIndex_df160 5 rfl)
theorem key_b : ∀ k, k < 119 → ((keyBytes.getD k 0 &&& 255).toUInt32 % 65536).toInt32 = keyBytes.getD k 0 ∧ narrow .char (.int (keyBytes.getD k 0)) = .int (keyBytes.getD k 0) := by decide +kernel
theorem i_119 {i : Int32} (h1 : ¬ i < 0) (h2 : i < 119) : i.toNatClampNeg < 119 := by
  have := i_nn h1
  rw [Int32.lt_iff_toInt_lt] at h2
  have e : (119 : Int32).toInt = 119 := by decide
  omega
theorem w_lcharAt {i : Int32} (h1 : ¬ i < 0) (h2 : i < 119) : ClT ψI l sk sv 3 mJ1_charAt_3b067 [.ref sv, .int i] (some (keyBytes.getD i.toNatClampNeg 0)) := by
  have h3 := i_119 h1 h2
  obtain ⟨k1, k2⟩ := key_b _ h3
  refine ClT.of (by decide +kernel) (Nat.le_of_ble_eq_true rfl) ?_
  show T _ _ _ _ _ _ 0 [(0, .ref sv), (1, .int i)] [] _
  refine T_iload_n (n := 1) 1 (kJ1_charAt_3b067 0 rfl) rfl rfl rfl ?_
  refine T_aload_n (n := 2) 0 (kJ1_charAt_3b067 1 rfl) rfl rfl rfl ?_
  refine T_vlen (n := 3) (kJ1_charAt_3b067 2 rfl) rfl ?_
  refine T_callS (n := 6) (As := [.int i, .int 119]) (st := []) (kJ1_charAt_3b067 3 rfl) rfl (w_check h1 h2) (by decide) ml_J1_9 mf_J0_checkIndex_df160 rfl rfl (by decide) ?_
  refine T_aload_n (n := 7) 0 (kJ1_charAt_3b067 4 rfl) rfl rfl rfl ?_
  refine T_iload_n (n := 8) 1 (kJ1_charAt_3b067 5 rfl) rfl rfl rfl ?_
  refine T_vld (n := 9) (kJ1_charAt_3b067 6 rfl) rfl (fun q => q.elim h1 (fun q => by omega)) ?_
  refine T_sipush (n := 12) (v := 255) (kJ1_charAt_3b067 7 rfl) rfl (by decide) ?_
  refine T_iand (n := 13) (kJ1_charAt_3b067 8 rfl) rfl ?_
  refine T_i2c (n := 14) (kJ1_charAt_3b067 9 rfl) rfl k1 ?_
  exact T_ret rfl k2 (kJ1_charAt_3b067 10 rfl)
theorem w_charAt {i : Int32} (h1 : ¬ i < 0) (h2 : i < 119) : ClT ψI l sk sv 4 mJ0_charAt_5068e [.ref sk, .int i] (some (keyBytes.getD i.toNatClampNeg 0)) := by
  have h3 := i_119 h1 h2
  obtain ⟨k1, k2⟩ := key_b _ h3
  refine ClT.of (by decide +kernel) (Nat.le_of_ble_eq_true rfl) ?_
  show T _ _ _ _ _ _ 0 [(0, .ref sk), (1, .int i)] [] (if (1 : Int32) = 0 then none else some (keyBytes.getD i.toNatClampNeg 0))
  refine T_aload_n (n := 1) 0 (kJ0_charAt_5068e 0 rfl) rfl rfl rfl ?_
  refine T_callV (n := 4) (As := []) (st := []) (kJ0_charAt_5068e 1 rfl) rfl w_isLatin1 rfl (by decide) ml_J0_492 mf_J0_isLatin1_aae02 rfl rfl (by decide) ?_
  refine T_if_eq (n := 7) (tgt := 16) (kJ0_charAt_5068e 2 rfl) rfl rfl (fun h => absurd h (by decide)) (fun _ => ?_)
  refine T_aload_n (n := 8) 0 (kJ0_charAt_5068e 3 rfl) rfl rfl rfl ?_
  refine T_value (n := 11) (kJ0_charAt_5068e 4 rfl) rfl fl_J0_9 ?_
  refine T_iload_n (n := 12) 1 (kJ0_charAt_5068e 5 rfl) rfl rfl rfl ?_
  refine T_callS (n := 15) (As := [.ref sv, .int i]) (st := []) (kJ0_charAt_5068e 6 rfl) rfl (w_lcharAt h1 h2) (by decide) ml_J0_495 mf_J1_charAt_3b067 rfl rfl (by decide) ?_
  exact T_ret rfl k2 (kJ0_charAt_5068e 7 rfl)
end TJ
