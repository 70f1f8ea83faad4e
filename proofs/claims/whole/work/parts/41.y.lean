/-- X with any room, any count of cells made, any end -/
def Y (p : Program) (l : Launch) (e : Env) (R : Room) (s : State) (m : MethodId) (args : Array Value) (below : List Frame) (meth : Method) (c : Code) (g : XG) (A : Nat → Prop) (cells slots : Nat) (Q : State → Prop) (M : XM) (pc : Nat) (L : List (Nat × Value)) (st : List Value) (S : XS) : Prop := ∀ (H : Heap) (locs : List Loc) (ls : Array Slot), XH g S H → va_S A s.heap H locs → lv_has ls M.2.2.1 (L.map (fun q => (q.1, cv g q.2))) → W p l e R s m args below meth c H locs cells slots Q (F0 m pc ls (st.map (cv g)))
section YR
variable {p : Program} {l : Launch} {e : Env} {R : Room} {s : State} {m : MethodId} {args : Array Value} {below : List Frame} {meth : Method} {c : Code} {g : XG} {A : Nat → Prop} {cells slots : Nat} {Q : State → Prop} {M N : XM} {pc n tgt idx k0 d1 : Nat} {L L1 : List (Nat × Value)} {st stk As : List Value} {S : XS}
/-- the picture's facts at a state whose heap grew elsewhere -/
theorem KX_callA {H : Heap} {locs : List Loc} {U : State} (hA : ∀ q, wA g q → A q) (K : KX g s) (hZ : va_Z "ScentCourt" "MOST_LINES" "[I" (.ref g.2.2.2.2.1) A s s.heap) (hT : va_T .int g.2.2.2.2.1 6 mostF A s s.heap) (hS : va_S A s.heap H locs) (hU : U.heap = H) (hW : s.WarmedH U.vm) : KX g U := by
  refine ⟨va_K.moved hW.alike K.1, fun w hw => NW_warm hw hW (K.2.1 w hw), ?_, ?_⟩
  · rw [hU]
    exact ((va_Z.moved hW.alike hZ).kept hS.2.1).narrow hA
  · rw [hU]
    exact ((va_T.moved hW.alike hT).kept hS.2.1).narrow hA
/-- CX without the method's own code word -/
def CY (M : XM) (p : Program) (s : State) (m : MethodId) (args : Array Value) (meth : Method) (c : Code) : Prop := p.tables.exec = Jvm.exec ∧ c.code = M.2.1 ∧ c.maxLocals = M.2.2.1 ∧ meth.sig.returnType = M.2.2.2 ∧ s.vm.findClass M.1.cls = some m.cls ∧ (∀ w ∈ TT, w.before args s = true) ∧ meth.locks = false
theorem mws_payT (hT : ∀ w ∈ TT, w.before args s = true) (hcode : Cond.code N.1 N.2.1 N.2.2.1 N.2.2.2 ∈ TT) : ∀ w ∈ mws N, ∀ (a' : Array Value) (U : State), s.WarmedH U.vm → w.before a' U = true := by
  intro w hw a' U hW
  have hT2 : w ∈ TT := by
    rcases List.mem_cons.mp hw with h | h
    · rw [h]; exact hcode
    · exact h
  exact word_at hW (good_of_word (TT_good hT2)) (hT w hT2)
/-- what stands at every place of such a method -/
def YC (p : Program) (R : Room) (s : State) (m : MethodId) (args : Array Value) (meth : Method) (c : Code) (g : XG) (A : Nat → Prop) (M : XM) : Prop := CY M p s m args meth c ∧ KX g s ∧ (∀ q, wA g q → A q) ∧ va_Z "ScentCourt" "MOST_LINES" "[I" (.ref g.2.2.2.2.1) A s s.heap ∧ va_T .int g.2.2.2.2.1 6 mostF A s s.heap ∧ 1 ≤ R.frames ∧ 40 ≤ R.locals
theorem Y_iconst (C : YC p R s m args meth c g A M) {z : Int} {v : Int32} (hd : decode M.2.1 pc = .ok (.iconst z, 1)) (hn : pc + 1 = n) (hv : Int32.ofInt z = v) (k : Y p l e R s m args below meth c g A cells slots Q M n L (.int v :: st) S) : Y p l e R s m args below meth c g A cells slots Q M pc L (st) S := by
  subst hn
  intro H locs ls hH hS hl
  exact lv_iconst C.1.1 C.1.2.1 hd hv (k _ _ _ hH hS hl)
theorem Y_bipush (C : YC p R s m args meth c g A M) {z : Int} {v : Int32} (hd : decode M.2.1 pc = .ok (.bipush z, 2)) (hn : pc + 2 = n) (hv : (Int8.ofInt z).toInt32 = v) (k : Y p l e R s m args below meth c g A cells slots Q M n L (.int v :: st) S) : Y p l e R s m args below meth c g A cells slots Q M pc L (st) S := by
  subst hn
  intro H locs ls hH hS hl
  exact lv_bipush C.1.1 C.1.2.1 hd hv (k _ _ _ hH hS hl)
theorem Y_iload (C : YC p R s m args meth c g A M) (j : Nat) {i : Nat} {x : Int32} (hd : decode M.2.1 pc = .ok (.iload i, 2)) (hn : pc + 2 = n) (hj : L[j]? = some (i, .int x)) (k : Y p l e R s m args below meth c g A cells slots Q M n L (.int x :: st) S) : Y p l e R s m args below meth c g A cells slots Q M pc L (st) S := by
  subst hn
  intro H locs ls hH hS hl
  exact lv_iload C.1.1 C.1.2.1 hd (L_at hl j hj) (k _ _ _ hH hS hl)
theorem Y_iload_n (C : YC p R s m args meth c g A M) (j : Nat) {f : Fin 4} {i : Nat} {x : Int32} (hd : decode M.2.1 pc = .ok (.iload_n f, 1)) (hn : pc + 1 = n) (hi : (f : Nat) = i) (hj : L[j]? = some (i, .int x)) (k : Y p l e R s m args below meth c g A cells slots Q M n L (.int x :: st) S) : Y p l e R s m args below meth c g A cells slots Q M pc L (st) S := by
  subst hn
  intro H locs ls hH hS hl
  exact lv_iload_n C.1.1 C.1.2.1 hd hi (L_at hl j hj) (k _ _ _ hH hS hl)
theorem Y_aload (C : YC p R s m args meth c g A M) (j : Nat) {i : Nat} {x : Nat} (hd : decode M.2.1 pc = .ok (.aload i, 2)) (hn : pc + 2 = n) (hj : L[j]? = some (i, .ref x)) (k : Y p l e R s m args below meth c g A cells slots Q M n L (.ref x :: st) S) : Y p l e R s m args below meth c g A cells slots Q M pc L (st) S := by
  subst hn
  intro H locs ls hH hS hl
  exact lv_aload C.1.1 C.1.2.1 hd (L_at hl j hj) (k _ _ _ hH hS hl)
theorem Y_aload_n (C : YC p R s m args meth c g A M) (j : Nat) {f : Fin 4} {i : Nat} {x : Nat} (hd : decode M.2.1 pc = .ok (.aload_n f, 1)) (hn : pc + 1 = n) (hi : (f : Nat) = i) (hj : L[j]? = some (i, .ref x)) (k : Y p l e R s m args below meth c g A cells slots Q M n L (.ref x :: st) S) : Y p l e R s m args below meth c g A cells slots Q M pc L (st) S := by
  subst hn
  intro H locs ls hH hS hl
  exact lv_aload_n C.1.1 C.1.2.1 hd hi (L_at hl j hj) (k _ _ _ hH hS hl)
theorem Y_istore (C : YC p R s m args meth c g A M) {i : Nat} {x : Int32} (hd : decode M.2.1 pc = .ok (.istore i, 2)) (hn : pc + 2 = n) (hlt : i < M.2.2.1) (hL : (i, Value.int x) :: L.filter (fun q => !(q.1 == i) && !(q.1 + 1 == i && q.2.category == 2)) = L1) (k : Y p l e R s m args below meth c g A cells slots Q M n L1 (st) S) : Y p l e R s m args below meth c g A cells slots Q M pc L (.int x :: st) S := by
  subst hn
  intro H locs ls hH hS hl
  exact lv_istore C.1.1 C.1.2.1 hd hl hlt (L_f1 g i (.int x) L) (fun ls hl => k _ _ _ hH hS (by rw [← hL]; exact hl))
theorem Y_istore_n (C : YC p R s m args meth c g A M) {i : Nat} {x : Int32} {f : Fin 4} (hd : decode M.2.1 pc = .ok (.istore_n f, 1)) (hn : pc + 1 = n) (hi : (f : Nat) = i) (hlt : i < M.2.2.1) (hL : (i, Value.int x) :: L.filter (fun q => !(q.1 == i) && !(q.1 + 1 == i && q.2.category == 2)) = L1) (k : Y p l e R s m args below meth c g A cells slots Q M n L1 (st) S) : Y p l e R s m args below meth c g A cells slots Q M pc L (.int x :: st) S := by
  subst hn
  intro H locs ls hH hS hl
  exact lv_istore_n C.1.1 C.1.2.1 hd hi hl hlt (L_f1 g i (.int x) L) (fun ls hl => k _ _ _ hH hS (by rw [← hL]; exact hl))
theorem Y_astore (C : YC p R s m args meth c g A M) {i : Nat} {x : Nat} (hd : decode M.2.1 pc = .ok (.astore i, 2)) (hn : pc + 2 = n) (hlt : i < M.2.2.1) (hL : (i, Value.ref x) :: L.filter (fun q => !(q.1 == i) && !(q.1 + 1 == i && q.2.category == 2)) = L1) (k : Y p l e R s m args below meth c g A cells slots Q M n L1 (st) S) : Y p l e R s m args below meth c g A cells slots Q M pc L (.ref x :: st) S := by
  subst hn
  intro H locs ls hH hS hl
  exact lv_astore C.1.1 C.1.2.1 hd hl hlt (L_f1 g i (.ref x) L) (fun ls hl => k _ _ _ hH hS (by rw [← hL]; exact hl))
theorem Y_astore_n (C : YC p R s m args meth c g A M) {i : Nat} {x : Nat} {f : Fin 4} (hd : decode M.2.1 pc = .ok (.astore_n f, 1)) (hn : pc + 1 = n) (hi : (f : Nat) = i) (hlt : i < M.2.2.1) (hL : (i, Value.ref x) :: L.filter (fun q => !(q.1 == i) && !(q.1 + 1 == i && q.2.category == 2)) = L1) (k : Y p l e R s m args below meth c g A cells slots Q M n L1 (st) S) : Y p l e R s m args below meth c g A cells slots Q M pc L (.ref x :: st) S := by
  subst hn
  intro H locs ls hH hS hl
  exact lv_astore_n C.1.1 C.1.2.1 hd hi hl hlt (L_f1 g i (.ref x) L) (fun ls hl => k _ _ _ hH hS (by rw [← hL]; exact hl))
theorem Y_iinc (C : YC p R s m args meth c g A M) (j : Nat) {i : Nat} {z : Int} {x v : Int32} (hd : decode M.2.1 pc = .ok (.iinc i z, 3)) (hn : pc + 3 = n) (hj : L[j]? = some (i, .int x)) (hv : x + Int32.ofInt z = v) (hlt : i < M.2.2.1) (hL : (i, Value.int v) :: L.filter (fun q => !(q.1 == i) && !(q.1 + 1 == i && q.2.category == 2)) = L1) (k : Y p l e R s m args below meth c g A cells slots Q M n L1 (st) S) : Y p l e R s m args below meth c g A cells slots Q M pc L (st) S := by
  subst hn
  intro H locs ls hH hS hl
  exact lv_iinc C.1.1 C.1.2.1 hd hl (k := j) (by rw [List.getElem?_map, hj]; rfl) hv hlt (L_f1 g i (.int v) L) (fun ls hl => k _ _ _ hH hS (by rw [← hL]; exact hl))
theorem Y_iadd (C : YC p R s m args meth c g A M) {x y : Int32} (hd : decode M.2.1 pc = .ok (.iadd, 1)) (hn : pc + 1 = n) (k : Y p l e R s m args below meth c g A cells slots Q M n L (.int (x + y) :: st) S) : Y p l e R s m args below meth c g A cells slots Q M pc L (.int y :: .int x :: st) S := by
  subst hn
  intro H locs ls hH hS hl
  exact lv_iadd C.1.1 C.1.2.1 hd (k _ _ _ hH hS hl)
theorem Y_isub (C : YC p R s m args meth c g A M) {x y : Int32} (hd : decode M.2.1 pc = .ok (.isub, 1)) (hn : pc + 1 = n) (k : Y p l e R s m args below meth c g A cells slots Q M n L (.int (x - y) :: st) S) : Y p l e R s m args below meth c g A cells slots Q M pc L (.int y :: .int x :: st) S := by
  subst hn
  intro H locs ls hH hS hl
  exact lv_isub C.1.1 C.1.2.1 hd (k _ _ _ hH hS hl)
theorem Y_imul (C : YC p R s m args meth c g A M) {x y : Int32} (hd : decode M.2.1 pc = .ok (.imul, 1)) (hn : pc + 1 = n) (k : Y p l e R s m args below meth c g A cells slots Q M n L (.int (x * y) :: st) S) : Y p l e R s m args below meth c g A cells slots Q M pc L (.int y :: .int x :: st) S := by
  subst hn
  intro H locs ls hH hS hl
  exact lv_imul C.1.1 C.1.2.1 hd (k _ _ _ hH hS hl)
theorem Y_iand (C : YC p R s m args meth c g A M) {x y : Int32} (hd : decode M.2.1 pc = .ok (.iand, 1)) (hn : pc + 1 = n) (k : Y p l e R s m args below meth c g A cells slots Q M n L (.int (x &&& y) :: st) S) : Y p l e R s m args below meth c g A cells slots Q M pc L (.int y :: .int x :: st) S := by
  subst hn
  intro H locs ls hH hS hl
  exact lv_iand C.1.1 C.1.2.1 hd (k _ _ _ hH hS hl)
theorem Y_i2l (C : YC p R s m args meth c g A M) {x : Int32} (hd : decode M.2.1 pc = .ok (.i2l, 1)) (hn : pc + 1 = n) (k : Y p l e R s m args below meth c g A cells slots Q M n L (.long x.toInt64 :: st) S) : Y p l e R s m args below meth c g A cells slots Q M pc L (.int x :: st) S := by
  subst hn
  intro H locs ls hH hS hl
  exact lv_i2l C.1.1 C.1.2.1 hd rfl (k _ _ _ hH hS hl)
theorem Y_lcmp (C : YC p R s m args meth c g A M) {x y : Int64} (hd : decode M.2.1 pc = .ok (.lcmp, 1)) (hn : pc + 1 = n) (k : Y p l e R s m args below meth c g A cells slots Q M n L (.int (lg_cmp x y) :: st) S) : Y p l e R s m args below meth c g A cells slots Q M pc L (.long y :: .long x :: st) S := by
  subst hn
  intro H locs ls hH hS hl
  exact W.lcmp C.1.1 C.1.2.1 hd (k _ _ _ hH hS hl)
theorem Y_goto (C : YC p R s m args meth c g A M) {off : Int} (hd : decode M.2.1 pc = .ok (.goto off, 3)) (ht : (pc : Int) + off = (tgt : Int)) (k : Y p l e R s m args below meth c g A cells slots Q M tgt L (st) S) : Y p l e R s m args below meth c g A cells slots Q M pc L (st) S := by
  intro H locs ls hH hS hl
  exact lv_goto C.1.1 C.1.2.1 hd ht (k _ _ _ hH hS hl)
theorem Y_if_eq (C : YC p R s m args meth c g A M) {x : Int32} {off : Int} (hd : decode M.2.1 pc = .ok (.ifCond .eq off, 3)) (hn : pc + 3 = n) (ht : (pc : Int) + off = (tgt : Int)) (kt : x = 0 → Y p l e R s m args below meth c g A cells slots Q M tgt L (st) S) (kf : ¬ x = 0 → Y p l e R s m args below meth c g A cells slots Q M n L (st) S) : Y p l e R s m args below meth c g A cells slots Q M pc L (.int x :: st) S := by
  subst hn
  intro H locs ls hH hS hl
  exact lv_if_eq C.1.1 C.1.2.1 hd ht (fun h => kt h _ _ _ hH hS hl) (fun h => kf h _ _ _ hH hS hl)
theorem Y_if_ne (C : YC p R s m args meth c g A M) {x : Int32} {off : Int} (hd : decode M.2.1 pc = .ok (.ifCond .ne off, 3)) (hn : pc + 3 = n) (ht : (pc : Int) + off = (tgt : Int)) (kt : ¬ x = 0 → Y p l e R s m args below meth c g A cells slots Q M tgt L (st) S) (kf : x = 0 → Y p l e R s m args below meth c g A cells slots Q M n L (st) S) : Y p l e R s m args below meth c g A cells slots Q M pc L (.int x :: st) S := by
  subst hn
  intro H locs ls hH hS hl
  exact lv_if_ne C.1.1 C.1.2.1 hd ht (fun h => kt h _ _ _ hH hS hl) (fun h => kf h _ _ _ hH hS hl)
theorem Y_if_lt (C : YC p R s m args meth c g A M) {x : Int32} {off : Int} (hd : decode M.2.1 pc = .ok (.ifCond .lt off, 3)) (hn : pc + 3 = n) (ht : (pc : Int) + off = (tgt : Int)) (kt : x < 0 → Y p l e R s m args below meth c g A cells slots Q M tgt L (st) S) (kf : ¬ x < 0 → Y p l e R s m args below meth c g A cells slots Q M n L (st) S) : Y p l e R s m args below meth c g A cells slots Q M pc L (.int x :: st) S := by
  subst hn
  intro H locs ls hH hS hl
  exact lv_if_lt C.1.1 C.1.2.1 hd ht (fun h => kt h _ _ _ hH hS hl) (fun h => kf h _ _ _ hH hS hl)
theorem Y_if_ge (C : YC p R s m args meth c g A M) {x : Int32} {off : Int} (hd : decode M.2.1 pc = .ok (.ifCond .ge off, 3)) (hn : pc + 3 = n) (ht : (pc : Int) + off = (tgt : Int)) (kt : 0 ≤ x → Y p l e R s m args below meth c g A cells slots Q M tgt L (st) S) (kf : ¬ 0 ≤ x → Y p l e R s m args below meth c g A cells slots Q M n L (st) S) : Y p l e R s m args below meth c g A cells slots Q M pc L (.int x :: st) S := by
  subst hn
  intro H locs ls hH hS hl
  exact lv_if_ge C.1.1 C.1.2.1 hd ht (fun h => kt h _ _ _ hH hS hl) (fun h => kf h _ _ _ hH hS hl)
theorem Y_if_gt (C : YC p R s m args meth c g A M) {x : Int32} {off : Int} (hd : decode M.2.1 pc = .ok (.ifCond .gt off, 3)) (hn : pc + 3 = n) (ht : (pc : Int) + off = (tgt : Int)) (kt : 0 < x → Y p l e R s m args below meth c g A cells slots Q M tgt L (st) S) (kf : ¬ 0 < x → Y p l e R s m args below meth c g A cells slots Q M n L (st) S) : Y p l e R s m args below meth c g A cells slots Q M pc L (.int x :: st) S := by
  subst hn
  intro H locs ls hH hS hl
  exact lv_if_gt C.1.1 C.1.2.1 hd ht (fun h => kt h _ _ _ hH hS hl) (fun h => kf h _ _ _ hH hS hl)
theorem Y_if_le (C : YC p R s m args meth c g A M) {x : Int32} {off : Int} (hd : decode M.2.1 pc = .ok (.ifCond .le off, 3)) (hn : pc + 3 = n) (ht : (pc : Int) + off = (tgt : Int)) (kt : x ≤ 0 → Y p l e R s m args below meth c g A cells slots Q M tgt L (st) S) (kf : ¬ x ≤ 0 → Y p l e R s m args below meth c g A cells slots Q M n L (st) S) : Y p l e R s m args below meth c g A cells slots Q M pc L (.int x :: st) S := by
  subst hn
  intro H locs ls hH hS hl
  exact lv_if_le C.1.1 C.1.2.1 hd ht (fun h => kt h _ _ _ hH hS hl) (fun h => kf h _ _ _ hH hS hl)
theorem Y_ic_eq (C : YC p R s m args meth c g A M) {x y : Int32} {off : Int} (hd : decode M.2.1 pc = .ok (.if_icmp .eq off, 3)) (hn : pc + 3 = n) (ht : (pc : Int) + off = (tgt : Int)) (kt : x = y → Y p l e R s m args below meth c g A cells slots Q M tgt L (st) S) (kf : ¬ x = y → Y p l e R s m args below meth c g A cells slots Q M n L (st) S) : Y p l e R s m args below meth c g A cells slots Q M pc L (.int y :: .int x :: st) S := by
  subst hn
  intro H locs ls hH hS hl
  exact lv_icmp_eq C.1.1 C.1.2.1 hd ht (fun h => kt h _ _ _ hH hS hl) (fun h => kf h _ _ _ hH hS hl)
theorem Y_ic_ne (C : YC p R s m args meth c g A M) {x y : Int32} {off : Int} (hd : decode M.2.1 pc = .ok (.if_icmp .ne off, 3)) (hn : pc + 3 = n) (ht : (pc : Int) + off = (tgt : Int)) (kt : ¬ x = y → Y p l e R s m args below meth c g A cells slots Q M tgt L (st) S) (kf : x = y → Y p l e R s m args below meth c g A cells slots Q M n L (st) S) : Y p l e R s m args below meth c g A cells slots Q M pc L (.int y :: .int x :: st) S := by
  subst hn
  intro H locs ls hH hS hl
  exact lv_icmp_ne C.1.1 C.1.2.1 hd ht (fun h => kt h _ _ _ hH hS hl) (fun h => kf h _ _ _ hH hS hl)
theorem Y_ic_lt (C : YC p R s m args meth c g A M) {x y : Int32} {off : Int} (hd : decode M.2.1 pc = .ok (.if_icmp .lt off, 3)) (hn : pc + 3 = n) (ht : (pc : Int) + off = (tgt : Int)) (kt : x < y → Y p l e R s m args below meth c g A cells slots Q M tgt L (st) S) (kf : ¬ x < y → Y p l e R s m args below meth c g A cells slots Q M n L (st) S) : Y p l e R s m args below meth c g A cells slots Q M pc L (.int y :: .int x :: st) S := by
  subst hn
  intro H locs ls hH hS hl
  exact lv_icmp_lt C.1.1 C.1.2.1 hd ht (fun h => kt h _ _ _ hH hS hl) (fun h => kf h _ _ _ hH hS hl)
theorem Y_ic_ge (C : YC p R s m args meth c g A M) {x y : Int32} {off : Int} (hd : decode M.2.1 pc = .ok (.if_icmp .ge off, 3)) (hn : pc + 3 = n) (ht : (pc : Int) + off = (tgt : Int)) (kt : y ≤ x → Y p l e R s m args below meth c g A cells slots Q M tgt L (st) S) (kf : ¬ y ≤ x → Y p l e R s m args below meth c g A cells slots Q M n L (st) S) : Y p l e R s m args below meth c g A cells slots Q M pc L (.int y :: .int x :: st) S := by
  subst hn
  intro H locs ls hH hS hl
  exact lv_icmp_ge C.1.1 C.1.2.1 hd ht (fun h => kt h _ _ _ hH hS hl) (fun h => kf h _ _ _ hH hS hl)
theorem Y_ic_gt (C : YC p R s m args meth c g A M) {x y : Int32} {off : Int} (hd : decode M.2.1 pc = .ok (.if_icmp .gt off, 3)) (hn : pc + 3 = n) (ht : (pc : Int) + off = (tgt : Int)) (kt : y < x → Y p l e R s m args below meth c g A cells slots Q M tgt L (st) S) (kf : ¬ y < x → Y p l e R s m args below meth c g A cells slots Q M n L (st) S) : Y p l e R s m args below meth c g A cells slots Q M pc L (.int y :: .int x :: st) S := by
  subst hn
  intro H locs ls hH hS hl
  exact lv_icmp_gt C.1.1 C.1.2.1 hd ht (fun h => kt h _ _ _ hH hS hl) (fun h => kf h _ _ _ hH hS hl)
theorem Y_ic_le (C : YC p R s m args meth c g A M) {x y : Int32} {off : Int} (hd : decode M.2.1 pc = .ok (.if_icmp .le off, 3)) (hn : pc + 3 = n) (ht : (pc : Int) + off = (tgt : Int)) (kt : x ≤ y → Y p l e R s m args below meth c g A cells slots Q M tgt L (st) S) (kf : ¬ x ≤ y → Y p l e R s m args below meth c g A cells slots Q M n L (st) S) : Y p l e R s m args below meth c g A cells slots Q M pc L (.int y :: .int x :: st) S := by
  subst hn
  intro H locs ls hH hS hl
  exact lv_icmp_le C.1.1 C.1.2.1 hd ht (fun h => kt h _ _ _ hH hS hl) (fun h => kf h _ _ _ hH hS hl)
variable {Cn : String} {T : u_T} {NN ci fk b : Nat} {tyf : Nat → FieldType}
theorem Y_getI (C : YC p R s m args meth c g A M) (hX : XF ci Cn T NN tyf) (hk : kd b = ci) (hfk : fk < NN) (hlk : Cond.fieldLink M.1.cls idx (T fk).1 (T fk).2.1 (T fk).2.2.1 ∈ TT) (hft : ft ci fk = 0) (hd : decode M.2.1 pc = .ok (.getfield idx, 3)) (hn : pc + 3 = n) (k : Y p l e R s m args below meth c g A cells slots Q M n L (.int (S.1 b fk) :: st) S) : Y p l e R s m args below meth c g A cells slots Q M pc L (.ref b :: st) S := by
  subst hn
  obtain ⟨h1, h2, h3, h4, -⟩ := hX
  intro H locs ls hH hS hl
  have hlt := kd_lt hk (by omega)
  refine va_get (D := (g.1, g.2.1)) C.1.1 C.1.2.1 (Ts := TT) C.1.2.2.2.2.2.1 h4 C.1.2.2.2.2.1 C.2.1.1 hH b (by rw [wl_at g S hlt, cellE_o hk h1]) h2 fk hfk (C.1.2.2.2.2.2.1 _ hlk) (fun _ h => h) (v := cv g (.int (S.1 b fk))) ?_ hd (k _ _ _ hH hS hl)
  rw [List.getElem?_map, List.getElem?_range (by omega)]
  show some (slotV g S ci b fk) = _
  unfold slotV
  rw [hft]
  rfl
theorem Y_getR (C : YC p R s m args meth c g A M) (hX : XF ci Cn T NN tyf) (hk : kd b = ci) (hfk : fk < NN) (hlk : Cond.fieldLink M.1.cls idx (T fk).1 (T fk).2.1 (T fk).2.2.1 ∈ TT) (hft : ft ci fk = 2) (hd : decode M.2.1 pc = .ok (.getfield idx, 3)) (hn : pc + 3 = n) (k : Y p l e R s m args below meth c g A cells slots Q M n L (.ref (rf b fk) :: st) S) : Y p l e R s m args below meth c g A cells slots Q M pc L (.ref b :: st) S := by
  subst hn
  obtain ⟨h1, h2, h3, h4, -⟩ := hX
  intro H locs ls hH hS hl
  have hlt := kd_lt hk (by omega)
  refine va_get (D := (g.1, g.2.1)) C.1.1 C.1.2.1 (Ts := TT) C.1.2.2.2.2.2.1 h4 C.1.2.2.2.2.1 C.2.1.1 hH b (by rw [wl_at g S hlt, cellE_o hk h1]) h2 fk hfk (C.1.2.2.2.2.2.1 _ hlk) (fun _ h => h) (v := cv g (.ref (rf b fk))) ?_ hd (k _ _ _ hH hS hl)
  rw [List.getElem?_map, List.getElem?_range (by omega)]
  show some (slotV g S ci b fk) = _
  unfold slotV
  rw [hft]
  rfl
theorem Y_lald (C : YC p R s m args meth c g A M) {i : Int32} (hk : kd b = 21) (hd : decode M.2.1 pc = .ok (.laload, 1)) (hn : pc + 1 = n) (hin : ¬ (i < 0 ∨ ln b ≤ i.toNatClampNeg)) (k : Y p l e R s m args below meth c g A cells slots Q M n L (.long (S.2 b i.toNatClampNeg) :: st) S) : Y p l e R s m args below meth c g A cells slots Q M pc L (.int i :: .ref b :: st) S := by
  subst hn
  intro H locs ls hH hS hl
  have hlt := kd_lt hk (by decide)
  exact va_lald (D := (g.1, g.2.1)) C.1.1 C.1.2.1 C.2.1.1 hH b 1 (by rw [wl_at g S hlt, cellE_J hk]) rfl hin hd (k _ _ _ hH hS hl)
theorem wDA {A : Nat → Prop} (hA : ∀ q, wA g q → A q) (S : XS) : va_D A (wl g S) := ⟨(wD g S).1, fun k q hk => hA _ ((wD g S).2 k q hk)⟩
theorem Y_last (C : YC p R s m args meth c g A M) {i : Int32} {x : Int64} (hk : kd b = 21) (hd : decode M.2.1 pc = .ok (.lastore, 1)) (hn : pc + 1 = n) (hin : ¬ (i < 0 ∨ ln b ≤ i.toNatClampNeg)) (k : Y p l e R s m args below meth c g A cells slots Q M n L (st) (sL S b i.toNatClampNeg x)) : Y p l e R s m args below meth c g A cells slots Q M pc L (.long x :: .int i :: .ref b :: st) S := by
  subst hn
  intro H locs ls hH hS hl
  have hlt := kd_lt hk (by decide)
  refine va_last (D := (g.1, g.2.1)) C.1.1 C.1.2.1 C.2.1.1 hH (wDA C.2.2.1 S) hS b 1 (by rw [wl_at g S hlt, cellE_J hk]) rfl hin hd (fun H1 locs1 hH1 _ hS1 => ?_)
  rw [wl_sL (k := i.toNatClampNeg) (v := x) hlt (by rw [cellE_J hk]; simp only [sL, up2_row]; rfl)] at hH1
  exact k _ _ _ hH1 hS1 hl
theorem Y_run {ls : Array Slot} {H : Heap} {locs : List Loc} {st0 rest : List Value} {av : Array Value} {q : Option Value × XS}
    (hr : va_Run p l e R s m args below meth c H locs cells slots 0 0 (F0 m pc ls st0) rest (QX g q av) (wA g)) (hA : ∀ q, wA g q → A q) (hS : va_S A s.heap H locs)
    (kk : ∀ (H1 : Heap) (locs1 : List Loc), XH g q.2 H1 → va_S A s.heap H1 locs1 → W p l e R s m args below meth c H1 locs1 cells slots Q (F0 m (pc + 3) ls ((q.1.map (cv g)).toList ++ rest))) : W p l e R s m args below meth c H locs cells slots Q (F0 m pc ls st0) := by
  intro T hT X
  obtain ⟨v, st₀, t, T', Ls, h0, X', hL, e1, e2, ⟨⟨hv, hb⟩, hz, hk⟩, st⟩ := hr T hT X
  have hv : v = q.1.map (cv g) := by cases hv; rfl
  subst hv
  rw [h0] at hz hk
  obtain ⟨t2, a1, b1⟩ := kk T'.heap (locs ++ Ls) (by rw [e1]; exact hb)
    ⟨Nat.le_trans hS.1 (by rw [e1]; exact hz), fun q h1 h2 => by rw [e1, hk q (Nat.lt_of_lt_of_le h1 hS.1) (fun z => h2 (hA q z))]; exact hS.2.1 q h1 h2, fun q hq => by
      rcases List.mem_append.mp hq with h | h
      · exact hS.2.2 q h
      · exact hA _ (hL q h)⟩ T' rfl X'
  exact ⟨t2, st t2 a1, b1⟩
theorem Y_callV (C : YC p R s m args meth c g A M) {γ : Type} {ψ : γ → Option Value × XS} {r : γ} (hd : decode M.2.1 pc = .ok (.invokevirtual idx, 3)) (hn : pc + 3 = n) (hC : Cl ψ l g d1 N (.ref b :: As) S (some r)) (hd1 : d1 + 1 ≤ R.frames) (hd2 : 40 + 40 * d1 ≤ R.locals) (hlk : Cond.methodLink M.1.cls idx N.1 ∈ TT) (hf : MFv N k0) (hlen : As.length = k0) (hk : kd b = ci) (hX : XF ci N.1.cls T NN tyf) (hstk : As.reverse ++ .ref b :: st = stk) (hcat : (st.map fun v => v.category).sum ≤ 8) (hc1 : cells ≤ R.cells) (hc2 : slots ≤ R.slots)
    (kk : Y p l e R s m args below meth c g A cells slots Q M n L ((ψ r).1.toList ++ st) (ψ r).2) : Y p l e R s m args below meth c g A cells slots Q M pc L (stk) S := by
  subst hn; subst hstk
  intro H locs ls hH hS hl
  have hM := hC r rfl
  obtain ⟨f1, f2, f3, f4, f5, f6, f7⟩ := hf
  obtain ⟨g1, g2, g3, g4, -⟩ := hX
  have hlt := kd_lt hk (by omega)
  refine Y_run (q := ψ r) (rest := st.map (cv g)) (va_runV (Ts := TT) (own := M.1.cls) (C := N.1.cls) (b := ad g b) (As := As.map (cv g)) (bytes := N.2.1) (maxL := N.2.2.1) (ret := N.2.2.2) ⟨C.1.1, C.1.2.1, C.1.2.2.1, C.1.2.2.2.2.1, C.1.2.2.2.2.2.1⟩ hM
    ⟨⟨rfl, rfl, hd1, (by show 8 + (N.2.2.1 + 11) + 40 * d1 ≤ R.locals; omega), mws_payT C.1.2.2.2.2.2.1 f4, List.mem_cons_self, C.1.2.2.2.2.2.1 _ f4, C.1.2.2.2.2.2.1 _ f3, f5, par_n f6, C.1.2.2.2.2.2.1 _ hlk⟩, C.1.2.2.2.2.2.1 _ f1, C.1.2.2.2.2.2.1 _ f2⟩
    ⟨PX_blind, va_recv C.2.1.1 hH g2 (q0 := b) (by rw [wl_at g S hlt, cellE_o hk g1]), fun U hU hW => ⟨rfl, by rw [hU]; exact hH, KX_callA C.2.2.1 C.2.1 C.2.2.2.1 C.2.2.2.2.1 hS hU hW⟩⟩ rfl (by rw [List.length_map]; exact hlen) hl.1 (by show (As.reverse ++ Value.ref b :: st).map (cv g) = _; rw [List.map_append, List.map_reverse, List.map_cons]; rfl) (lv_room (by rw [cv_sum]; exact hcat)) hd ⟨hc1, hc2⟩) C.2.2.1 hS (fun H1 locs1 hH1 hS1 => ?_)
  rw [toL]
  exact kk _ _ _ hH1 hS1 hl
theorem Y_callS (C : YC p R s m args meth c g A M) {γ : Type} {ψ : γ → Option Value × XS} {r : γ} (hd : decode M.2.1 pc = .ok (.invokestatic idx, 3)) (hn : pc + 3 = n) (hC : Cl ψ l g d1 N As S (some r)) (hd1 : d1 + 1 ≤ R.frames) (hd2 : 40 + 40 * d1 ≤ R.locals) (hlk : Cond.methodLink M.1.cls idx N.1 ∈ TT) (hf : MFs N k0) (hlen : As.length = k0) (hstk : As.reverse ++ st = stk) (hcat : (st.map fun v => v.category).sum ≤ 8) (hc1 : cells ≤ R.cells) (hc2 : slots ≤ R.slots)
    (kk : Y p l e R s m args below meth c g A cells slots Q M n L ((ψ r).1.toList ++ st) (ψ r).2) : Y p l e R s m args below meth c g A cells slots Q M pc L (stk) S := by
  subst hn; subst hstk
  intro H locs ls hH hS hl
  have hM := hC r rfl
  obtain ⟨f1, f3, f4, f5, f6, f7⟩ := hf
  refine Y_run (q := ψ r) (rest := st.map (cv g)) (va_runS (Ts := TT) (own := M.1.cls) (As := As.map (cv g)) (bytes := N.2.1) (maxL := N.2.2.1) (ret := N.2.2.2) ⟨C.1.1, C.1.2.1, C.1.2.2.1, C.1.2.2.2.2.1, C.1.2.2.2.2.2.1⟩ hM
    ⟨⟨rfl, rfl, hd1, (by show 8 + (N.2.2.1 + 11) + 40 * d1 ≤ R.locals; omega), mws_payT C.1.2.2.2.2.2.1 f4, List.mem_cons_self, C.1.2.2.2.2.2.1 _ f4, C.1.2.2.2.2.2.1 _ f3, f5, par_n f6, C.1.2.2.2.2.2.1 _ hlk⟩, C.1.2.2.2.2.2.1 _ f1⟩
    ⟨PX_blind, fun U hU hW => ⟨rfl, by rw [hU]; exact hH, KX_callA C.2.2.1 C.2.1 C.2.2.2.1 C.2.2.2.2.1 hS hU hW⟩⟩ rfl (by rw [List.length_map]; exact hlen) hl.1 (by show (As.reverse ++ st).map (cv g) = _; rw [List.map_append, List.map_reverse]) (lv_room (by rw [cv_sum]; exact hcat)) hd ⟨hc1, hc2⟩) C.2.2.1 hS (fun H1 locs1 hH1 hS1 => ?_)
  rw [toL]
  exact kk _ _ _ hH1 hS1 hl
end YR
