def keysL : List Int64 := [495588830836, 482854658917, 33611471017833331, 495757257573, 2003136116, 1918986606, 24948, 126913690233971, 512801993331, 28530, 6385252, 7237492, 427020345710, 7305070, 7566701, 1836020596, 1801807216]
def S0 : XS := (fun k j => if k = 45 ∧ j = 0 then -1 else if k = 188 ∧ j = 39 then -1 else if k = 213 ∧ j < 3 then -1 else 0, fun k j => if k = 3 then keysL.getD j 0 else 0)
abbrev XO : Type := List (Nat × va_E)
def lk (o : XO) (k : Nat) : Option va_E := match o with
  | [] => none
  | q :: t => if q.1 = k then some q.2 else lk t k
def oset : XO → Nat → va_E → XO
  | [], _, _ => []
  | q :: t, a, e => if q.1 = a then (a, e) :: t else q :: oset t a e
def cellA (g : XG) (o : XO) (k : Nat) : va_E := (lk o k).getD (cellE g S0 k)
def wlA (g : XG) (n : Nat) (o : XO) : va_W := (List.range n).map (fun k => (ad g k, cellA g o k))
def zA (g : XG) : Nat → Prop := fun q => g.2.2.2.1 ≤ q
abbrev HA (g : XG) (n : Nat) (o : XO) (H : Heap) : Prop := n ≤ KK ∧ H.size = g.2.2.2.1 + n ∧ va_P (g.1, g.2.1) xcl (wlA g n o) H
def keyText : String := "scent  place  witnesssmoke  went   rain   at     smells wears  or     and    not    clean  own    sum    most   keep   "
def keyBytes : List Int32 := [115, 99, 101, 110, 116, 32, 32, 112, 108, 97, 99, 101, 32, 32, 119, 105, 116, 110, 101, 115, 115, 115, 109, 111, 107, 101, 32, 32, 119, 101, 110, 116, 32, 32, 32, 114, 97, 105, 110, 32, 32, 32, 97, 116, 32, 32, 32, 32, 32, 115, 109, 101, 108, 108, 115, 32, 119, 101, 97, 114, 115, 32, 32, 111, 114, 32, 32, 32, 32, 32, 97, 110, 100, 32, 32, 32, 32, 110, 111, 116, 32, 32, 32, 32, 99, 108, 101, 97, 110, 32, 32, 111, 119, 110, 32, 32, 32, 32, 115, 117, 109, 32, 32, 32, 32, 109, 111, 115, 116, 32, 32, 32, 107, 101, 101, 112, 32, 32, 32]
def KS (A : Nat → Prop) (sk sv : Nat) (H : Heap) (s : State) : Prop := vk_R RX8 15 keyText sk s ∧ vk_S 1 [119] [keyBytes] (fun _ => sk) (fun _ => sv) A s H ∧ va_Z "java/lang/String" "COMPACT_STRINGS" "Z" (.int 1) A s H ∧ va_Zq "jdk/internal/util/Preconditions" "SIOOBE_FORMATTER" "Ljava/util/function/BiFunction;" A s H
theorem KS.to {A A1 : Nat → Prop} {sk sv : Nat} {H H1 : Heap} {s U : State} (h : KS A sk sv H s) (hA : ∀ q, A1 q → A q) (hW : s.WarmedH U.vm) (hq : ∀ a : Nat, a < H.size → ¬ A a → H1[a]? = H[a]?) : KS A1 sk sv H1 U := by
  obtain ⟨h1, h2, h3, h4⟩ := h
  exact ⟨vk_R.warm hW h1, ((vk_S.moved hW.alike h2).kept hq).narrow hA, ((va_Z.moved hW.alike h3).kept hq).narrow hA, ((va_Zq.moved hW.alike h4).kept hq).narrow hA⟩
theorem KS.blind {A : Nat → Prop} {sk sv : Nat} {s : State} {g' : JFrame} {mk : MethodId} {a : Array Value} (h : KS A sk sv s.heap s) : KS A sk sv (s.calling g' mk a).heap (s.calling g' mk a) := by
  obtain ⟨h1, h2, h3, h4⟩ := h
  exact ⟨vk_R.same (u := s) rfl h1, vk_S.moved (u := s) (Vm.Alike.refl s.vm) h2, va_Z.moved (u := s) (Vm.Alike.refl s.vm) h3, va_Zq.moved (u := s) (Vm.Alike.refl s.vm) h4⟩
def KA (g : XG) (s : State) : Prop := (∃ sk sv, KS (zA g) sk sv s.heap s) ∧ va_K (g.1, g.2.1) xcl (xtys g) s ∧ (∀ w ∈ NW, va_Nw w s) ∧ va_Z "ScentCourt" "MOST_LINES" "[I" (.ref g.2.2.2.2.1) (zA g) s s.heap ∧ va_T .int g.2.2.2.2.1 6 mostF (zA g) s s.heap ∧ g.2.2.2.1 ≤ s.heap.size ∧ ∀ Cn ∈ (["ScentCourt$World", "ScentCourt$Hill", "ScentCourt$Sentence"] : List String), va_AO Cn s
theorem oset_lk {o : XO} {a : Nat} {e0 e : va_E} (h : lk o a = some e0) (k : Nat) : lk (oset o a e) k = if k = a then some e else lk o k := by
  induction o with
  | nil => cases h
  | cons q t ih =>
    unfold oset lk
    by_cases hq : q.1 = a
    · rw [if_pos hq]
      by_cases hk : k = a
      · rw [if_pos hk]
        show (if a = k then some e else lk t k) = some e
        rw [if_pos hk.symm]
      · rw [if_neg hk]
        show (if a = k then some e else lk t k) = if q.1 = k then some q.2 else lk t k
        rw [if_neg (Ne.symm hk), if_neg (by rw [hq]; exact Ne.symm hk)]
    · rw [if_neg hq]
      have h' : lk t a = some e0 := by
        unfold lk at h
        rw [if_neg hq] at h
        exact h
      have ih := ih h'
      by_cases hk : q.1 = k
      · rw [if_pos hk]
        show (if q.1 = k then some q.2 else lk (oset t a e) k) = _
        rw [if_pos hk, if_neg (by rw [← hk]; exact hq)]
      · show (if q.1 = k then some q.2 else lk (oset t a e) k) = _
        rw [if_neg hk, ih, if_neg hk]
theorem wlA_at (g : XG) {n : Nat} (o : XO) {k : Nat} (h : k < n) : (wlA g n o)[k]? = some (ad g k, cellA g o k) := by
  unfold wlA
  rw [List.getElem?_map, List.getElem?_range h]
  rfl
theorem wlA_of {g : XG} {n : Nat} {o : XO} {a : Nat} {q : Nat × va_E} (h : (wlA g n o)[a]? = some q) : a < n ∧ q = (ad g a, cellA g o a) := by
  have hl : a < (wlA g n o).length := (List.getElem?_eq_some_iff.mp h).1
  have h2 : a < n := by simpa [wlA] using hl
  rw [wlA_at g o h2] at h
  exact ⟨h2, (Option.some.inj h).symm⟩
theorem wlD (g : XG) {n : Nat} (hn : n ≤ KK) (o : XO) : va_D (zA g) (wlA g n o) := by
  refine ⟨fun i j p q hi hj he => ?_, fun k q hk => ?_⟩
  · obtain ⟨h1, rfl⟩ := wlA_of hi
    obtain ⟨h2, rfl⟩ := wlA_of hj
    have he : ad g i = ad g j := he
    rw [ad_lt (by omega), ad_lt (by omega)] at he
    omega
  · obtain ⟨h1, rfl⟩ := wlA_of hk
    show zA g (ad g k)
    rw [ad_lt (by omega)]
    exact Nat.le_add_right _ _
theorem wlA_same {g : XG} {n : Nat} {o o1 : XO} (h : ∀ k, k < n → cellA g o k = cellA g o1 k) : wlA g n o = wlA g n o1 := by
  apply List.ext_getElem?
  intro i
  by_cases hi : i < n
  · rw [wlA_at g o hi, wlA_at g o1 hi, h i hi]
  · rw [List.getElem?_eq_none (by simpa [wlA] using hi), List.getElem?_eq_none (by simpa [wlA] using hi)]
theorem wlA_set {g : XG} {n a : Nat} {o : XO} {e0 e : va_E} (h : lk o a = some e0) : (wlA g n o).set a (ad g a, e) = wlA g n (oset o a e) := by
  apply List.ext_getElem?
  intro i
  by_cases hn : i < n
  · rw [wlA_at g _ hn]
    by_cases hi : i = a
    · subst hi
      rw [List.getElem?_set_self (by simpa [wlA] using hn)]
      unfold cellA
      rw [oset_lk h, if_pos rfl]
      rfl
    · rw [List.getElem?_set_ne (Ne.symm hi), wlA_at g o hn]
      unfold cellA
      rw [oset_lk h, if_neg hi]
  · rw [List.getElem?_eq_none (by simpa [wlA] using hn), List.getElem?_eq_none (by simpa [wlA] using hn)]
theorem wlA_push {g : XG} {n : Nat} {o o1 : XO} {e : va_E} (h1 : cellA g o1 n = e) (h2 : ∀ k, k < n → cellA g o1 k = cellA g o k) : wlA g n o ++ [(ad g n, e)] = wlA g (n + 1) o1 := by
  unfold wlA
  rw [List.range_succ, List.map_append]
  congr 1
  · exact List.map_congr_left (fun k hk => by rw [h2 k (List.mem_range.mp hk)])
  · rw [← h1]; rfl
theorem cellA_ne {g : XG} {o : XO} {a k : Nat} {e : va_E} (h : k ≠ a) : cellA g ((a, e) :: o) k = cellA g o k := by
  unfold cellA
  rw [show lk ((a, e) :: o) k = lk o k from by show (if a = k then some e else lk o k) = _; rw [if_neg (Ne.symm h)]]
theorem cellA_eq {g : XG} {o : XO} {a : Nat} {e : va_E} : cellA g ((a, e) :: o) a = e := by
  unfold cellA
  rw [show lk ((a, e) :: o) a = some e from by show (if a = a then some e else lk o a) = _; rw [if_pos rfl]]
  rfl
theorem cellA_no {g : XG} {o : XO} {a : Nat} (h : lk o a = none) : cellA g o a = cellE g S0 a := by
  unfold cellA
  rw [h]; rfl
theorem cellA_so {g : XG} {o : XO} {a : Nat} {e : va_E} (h : lk o a = some e) : cellA g o a = e := by
  unfold cellA
  rw [h]; rfl
theorem KA_call {g : XG} {s U : State} {H : Heap} {locs : List Loc} (K : KA g s) (hS : va_S (zA g) s.heap H locs) (hU : U.heap = H) (hW : s.WarmedH U.vm) : KA g U := by
  obtain ⟨⟨sk, sv, hks⟩, K⟩ := K
  refine ⟨⟨sk, sv, by rw [hU]; exact hks.to (fun _ h => h) hW hS.2.1⟩, va_K.moved hW.alike K.1, fun w hw => NW_warm hw hW (K.2.1 w hw), ?_, ?_, ?_, fun Cn hC => va_AO.moved hW.alike (K.2.2.2.2.2 Cn hC)⟩
  · rw [hU]
    exact (va_Z.moved hW.alike K.2.2.1).kept hS.2.1
  · rw [hU]
    exact (va_T.moved hW.alike K.2.2.2.1).kept hS.2.1
  · rw [hU]
    exact Nat.le_trans K.2.2.2.2.1 hS.1
theorem PA_blind {g : XG} {n : Nat} {o : XO} {av : List Value} : FrameBlind (va_Pc av (fun U => HA g n o U.heap ∧ KA g U)) := by
  intro a U g' mk h
  obtain ⟨h1, h2, ⟨sk, sv, hks⟩, h3, h4, h5, h6, h7, h8⟩ := h
  exact ⟨h1, h2, ⟨sk, sv, hks.blind⟩, va_K.moved (u := U) (U := U.calling g' mk a) (Vm.Alike.refl U.vm) h3, fun w hw => NW_same (u := U) (U := U.calling g' mk a) hw rfl (h4 w hw), va_Z.moved (u := U) (U := U.calling g' mk a) (Vm.Alike.refl U.vm) h5, va_T.moved (u := U) (U := U.calling g' mk a) (Vm.Alike.refl U.vm) h6, h7, fun Cn hC => va_AO.moved (u := U) (U := U.calling g' mk a) (Vm.Alike.refl U.vm) (h8 Cn hC)⟩
def rmA (d mc ms : Nat) : Room := { frames := d, cells := mc, slots := ms, locals := 40 * d }
def QA (g : XG) (n : Nat) (o : XO) : Array Value → State → Outcome → State → Prop := fun _ st oc t => (oc = .returned none ∧ HA g n o t.heap) ∧ va_F (zA g) st t
/-- a constructor's contract: n cells become n1, the open ones o become o1; mc cells of ms places are made -/
def ClA (l : Launch) (g : XG) (d mc ms : Nat) (M : XM) (av : List Value) (n : Nat) (o : XO) (n1 : Nat) (o1 : XO) : Prop := Met l M.1 (mws M) (rmA d mc ms) (va_Pc (av.map (cv g)) (fun U => HA g n o U.heap ∧ KA g U)) (QA g n1 o1) mc ms (zA g)
def B (l : Launch) (g : XG) (d MC MS : Nat) (M : XM) (pc : Nat) (L : List (Nat × Value)) (st : List Value) (n : Nat) (o : XO) (c sl n1 : Nat) (o1 : XO) : Prop := ∀ (p : Program) (e : Env) (s : State) (m : MethodId) (args : Array Value) (below : List Frame) (meth : Method) (c0 : Code), CX M p s m args meth c0 → KA g s → meth.name = "<init>" → ∀ (H : Heap) (locs : List Loc) (ls : Array Slot), HA g n o H → va_S (zA g) s.heap H locs → lv_has ls M.2.2.1 (L.map (fun q => (q.1, cv g q.2))) → W p l e (rmA d MC MS) s m args below meth c0 H locs c sl (MQ below (QA g n1 o1) args s MC MS (zA g)) (F0 m pc ls (st.map (cv g)))
section BR
variable {l : Launch} {g : XG} {d MC MS : Nat} {M : XM} {pc n9 n tgt idx : Nat} {L L1 : List (Nat × Value)} {st : List Value} {o o' o1 : XO} {c sl n1 : Nat}
theorem ClA.of {av : List Value} {mc ms : Nat} (hp : plainName M.1.cls = true) (hi : M.1.name = "<init>") (hn : (lg_sl av).length ≤ M.2.2.1) (h : B l g d mc ms M 0 (lv_args 0 av) [] n o 0 0 n1 o1) : ClA l g d mc ms M av n o n1 o1 := by
  refine Met.ofW (cc := M.2.1) (maxL := M.2.2.1) (ret := M.2.2.2) (ws' := TT) hp rfl ?_
  intro p e s m args below meth c s1 B hml hv
  obtain ⟨rfl, hH, hK⟩ := hv
  have hts := atoms_spec (ws := mws M) B.pre
  have hl := lv_entry (av.map (cv g)) (n := M.2.2.1) (by rw [lg_slmap]; exact hn)
  rw [lg_entry_eq]
  generalize (lg_sl (av.map (cv g)) ++ List.replicate (M.2.2.1 - (lg_sl (av.map (cv g))).length) Slot.unset).toArray = ls at hl ⊢
  rw [lv_argsmap] at hl
  exact h p e s m _ below meth c ⟨B.exec, B.bytes, hml, B.returns, findClass_of_methodNamed B.named, hts, B.notSynchronized⟩ hK ((name_of_methodNamed B.named B.method).1.trans hi) _ _ _ hH va_S.rf hl
theorem B_iconst {z : Int} {v : Int32} (hd : decode M.2.1 pc = .ok (.iconst z, 1)) (hn : pc + 1 = n9) (hv : Int32.ofInt z = v) (k : B l g d MC MS M n9 L (.int v :: st) n o c sl n1 o1) : B l g d MC MS M pc L (st) n o c sl n1 o1 := by
  subst hn
  intro p e s m args below meth c0 C K hin H locs ls hH hS hl
  exact lv_iconst C.1 C.2.1 hd hv (k _ _ _ _ _ _ _ _ C K hin _ _ _ hH hS hl)
theorem B_bipush {z : Int} {v : Int32} (hd : decode M.2.1 pc = .ok (.bipush z, 2)) (hn : pc + 2 = n9) (hv : (Int8.ofInt z).toInt32 = v) (k : B l g d MC MS M n9 L (.int v :: st) n o c sl n1 o1) : B l g d MC MS M pc L (st) n o c sl n1 o1 := by
  subst hn
  intro p e s m args below meth c0 C K hin H locs ls hH hS hl
  exact lv_bipush C.1 C.2.1 hd hv (k _ _ _ _ _ _ _ _ C K hin _ _ _ hH hS hl)
theorem B_sipush {z : Int} {v : Int32} (hd : decode M.2.1 pc = .ok (.sipush z, 3)) (hn : pc + 3 = n9) (hv : (Int16.ofInt z).toInt32 = v) (k : B l g d MC MS M n9 L (.int v :: st) n o c sl n1 o1) : B l g d MC MS M pc L (st) n o c sl n1 o1 := by
  subst hn
  intro p e s m args below meth c0 C K hin H locs ls hH hS hl
  exact lv_sipush C.1 C.2.1 hd hv (k _ _ _ _ _ _ _ _ C K hin _ _ _ hH hS hl)
theorem B_iload (j : Nat) {i : Nat} {x : Int32} (hd : decode M.2.1 pc = .ok (.iload i, 2)) (hn : pc + 2 = n9) (hj : L[j]? = some (i, .int x)) (k : B l g d MC MS M n9 L (.int x :: st) n o c sl n1 o1) : B l g d MC MS M pc L (st) n o c sl n1 o1 := by
  subst hn
  intro p e s m args below meth c0 C K hin H locs ls hH hS hl
  exact lv_iload C.1 C.2.1 hd (L_at hl j hj) (k _ _ _ _ _ _ _ _ C K hin _ _ _ hH hS hl)
theorem B_iload_n (j : Nat) {f : Fin 4} {i : Nat} {x : Int32} (hd : decode M.2.1 pc = .ok (.iload_n f, 1)) (hn : pc + 1 = n9) (hi : (f : Nat) = i) (hj : L[j]? = some (i, .int x)) (k : B l g d MC MS M n9 L (.int x :: st) n o c sl n1 o1) : B l g d MC MS M pc L (st) n o c sl n1 o1 := by
  subst hn
  intro p e s m args below meth c0 C K hin H locs ls hH hS hl
  exact lv_iload_n C.1 C.2.1 hd hi (L_at hl j hj) (k _ _ _ _ _ _ _ _ C K hin _ _ _ hH hS hl)
theorem B_aload (j : Nat) {i : Nat} {x : Nat} (hd : decode M.2.1 pc = .ok (.aload i, 2)) (hn : pc + 2 = n9) (hj : L[j]? = some (i, .ref x)) (k : B l g d MC MS M n9 L (.ref x :: st) n o c sl n1 o1) : B l g d MC MS M pc L (st) n o c sl n1 o1 := by
  subst hn
  intro p e s m args below meth c0 C K hin H locs ls hH hS hl
  exact lv_aload C.1 C.2.1 hd (L_at hl j hj) (k _ _ _ _ _ _ _ _ C K hin _ _ _ hH hS hl)
theorem B_aload_n (j : Nat) {f : Fin 4} {i : Nat} {x : Nat} (hd : decode M.2.1 pc = .ok (.aload_n f, 1)) (hn : pc + 1 = n9) (hi : (f : Nat) = i) (hj : L[j]? = some (i, .ref x)) (k : B l g d MC MS M n9 L (.ref x :: st) n o c sl n1 o1) : B l g d MC MS M pc L (st) n o c sl n1 o1 := by
  subst hn
  intro p e s m args below meth c0 C K hin H locs ls hH hS hl
  exact lv_aload_n C.1 C.2.1 hd hi (L_at hl j hj) (k _ _ _ _ _ _ _ _ C K hin _ _ _ hH hS hl)
theorem B_lload (j : Nat) {i : Nat} {x : Int64} (hd : decode M.2.1 pc = .ok (.lload i, 2)) (hn : pc + 2 = n9) (hj : L[j]? = some (i, .long x)) (k : B l g d MC MS M n9 L (.long x :: st) n o c sl n1 o1) : B l g d MC MS M pc L (st) n o c sl n1 o1 := by
  subst hn
  intro p e s m args below meth c0 C K hin H locs ls hH hS hl
  exact lv_lload C.1 C.2.1 hd (L_at hl j hj) (k _ _ _ _ _ _ _ _ C K hin _ _ _ hH hS hl)
theorem B_lload_n (j : Nat) {f : Fin 4} {i : Nat} {x : Int64} (hd : decode M.2.1 pc = .ok (.lload_n f, 1)) (hn : pc + 1 = n9) (hi : (f : Nat) = i) (hj : L[j]? = some (i, .long x)) (k : B l g d MC MS M n9 L (.long x :: st) n o c sl n1 o1) : B l g d MC MS M pc L (st) n o c sl n1 o1 := by
  subst hn
  intro p e s m args below meth c0 C K hin H locs ls hH hS hl
  exact lv_lload_n C.1 C.2.1 hd hi (L_at hl j hj) (k _ _ _ _ _ _ _ _ C K hin _ _ _ hH hS hl)
theorem B_istore {i : Nat} {x : Int32} (hd : decode M.2.1 pc = .ok (.istore i, 2)) (hn : pc + 2 = n9) (hlt : i < M.2.2.1) (hL : (i, Value.int x) :: L.filter (fun q => !(q.1 == i) && !(q.1 + 1 == i && q.2.category == 2)) = L1) (k : B l g d MC MS M n9 L1 (st) n o c sl n1 o1) : B l g d MC MS M pc L (.int x :: st) n o c sl n1 o1 := by
  subst hn
  intro p e s m args below meth c0 C K hin H locs ls hH hS hl
  exact lv_istore C.1 C.2.1 hd hl hlt (L_f1 g i (.int x) L) (fun ls hl => k _ _ _ _ _ _ _ _ C K hin _ _ _ hH hS (by rw [← hL]; exact hl))
theorem B_istore_n {i : Nat} {x : Int32} {f : Fin 4} (hd : decode M.2.1 pc = .ok (.istore_n f, 1)) (hn : pc + 1 = n9) (hi : (f : Nat) = i) (hlt : i < M.2.2.1) (hL : (i, Value.int x) :: L.filter (fun q => !(q.1 == i) && !(q.1 + 1 == i && q.2.category == 2)) = L1) (k : B l g d MC MS M n9 L1 (st) n o c sl n1 o1) : B l g d MC MS M pc L (.int x :: st) n o c sl n1 o1 := by
  subst hn
  intro p e s m args below meth c0 C K hin H locs ls hH hS hl
  exact lv_istore_n C.1 C.2.1 hd hi hl hlt (L_f1 g i (.int x) L) (fun ls hl => k _ _ _ _ _ _ _ _ C K hin _ _ _ hH hS (by rw [← hL]; exact hl))
theorem B_iinc (j : Nat) {i : Nat} {z : Int} {x v : Int32} (hd : decode M.2.1 pc = .ok (.iinc i z, 3)) (hn : pc + 3 = n9) (hj : L[j]? = some (i, .int x)) (hv : x + Int32.ofInt z = v) (hlt : i < M.2.2.1) (hL : (i, Value.int v) :: L.filter (fun q => !(q.1 == i) && !(q.1 + 1 == i && q.2.category == 2)) = L1) (k : B l g d MC MS M n9 L1 (st) n o c sl n1 o1) : B l g d MC MS M pc L (st) n o c sl n1 o1 := by
  subst hn
  intro p e s m args below meth c0 C K hin H locs ls hH hS hl
  exact lv_iinc C.1 C.2.1 hd hl (k := j) (by rw [List.getElem?_map, hj]; rfl) hv hlt (L_f1 g i (.int v) L) (fun ls hl => k _ _ _ _ _ _ _ _ C K hin _ _ _ hH hS (by rw [← hL]; exact hl))
theorem B_dup {v : Value} (hd : decode M.2.1 pc = .ok (.dup, 1)) (hn : pc + 1 = n9) (hv : v.category = 1) (k : B l g d MC MS M n9 L (v :: v :: st) n o c sl n1 o1) : B l g d MC MS M pc L (v :: st) n o c sl n1 o1 := by
  subst hn
  intro p e s m args below meth c0 C K hin H locs ls hH hS hl
  exact lv_dup C.1 C.2.1 hd (by rw [cv_cat]; exact hv) (k _ _ _ _ _ _ _ _ C K hin _ _ _ hH hS hl)
theorem B_goto {off : Int} (hd : decode M.2.1 pc = .ok (.goto off, 3)) (ht : (pc : Int) + off = (tgt : Int)) (k : B l g d MC MS M tgt L (st) n o c sl n1 o1) : B l g d MC MS M pc L (st) n o c sl n1 o1 := by
  intro p e s m args below meth c0 C K hin H locs ls hH hS hl
  exact lv_goto C.1 C.2.1 hd ht (k _ _ _ _ _ _ _ _ C K hin _ _ _ hH hS hl)
theorem B_ge_t {x y : Int32} {off : Int} (h : y ≤ x) (hd : decode M.2.1 pc = .ok (.if_icmp .ge off, 3)) (ht : (pc : Int) + off = (tgt : Int)) (k : B l g d MC MS M tgt L (st) n o c sl n1 o1) : B l g d MC MS M pc L (.int y :: .int x :: st) n o c sl n1 o1 := by
  intro p e s m args below meth c0 C K hin H locs ls hH hS hl
  exact lv_icmp_ge C.1 C.2.1 hd ht (fun _ => k _ _ _ _ _ _ _ _ C K hin _ _ _ hH hS hl) (fun q => absurd h q)
theorem B_ge_f {x y : Int32} {off : Int} (h : ¬ y ≤ x) (hd : decode M.2.1 pc = .ok (.if_icmp .ge off, 3)) (hn : pc + 3 = n9) (ht : (pc : Int) + off = (tgt : Int)) (k : B l g d MC MS M n9 L (st) n o c sl n1 o1) : B l g d MC MS M pc L (.int y :: .int x :: st) n o c sl n1 o1 := by
  subst hn
  intro p e s m args below meth c0 C K hin H locs ls hH hS hl
  exact lv_icmp_ge C.1 C.2.1 hd ht (fun q => absurd q h) (fun _ => k _ _ _ _ _ _ _ _ C K hin _ _ _ hH hS hl)
variable {Cn : String} {T : u_T} {NN ci fk a : Nat} {tyf : Nat → FieldType}
theorem B_get {fs : List Value} {v : Value} (hX : XF ci Cn T NN tyf) (ho : lk o a = some (.inr (ci, fs))) (ha : a < n) (hfk : fk < NN) (hv : fs[fk]? = some (cv g v)) (hlk : Cond.fieldLink M.1.cls idx (T fk).1 (T fk).2.1 (T fk).2.2.1 ∈ TT) (hd : decode M.2.1 pc = .ok (.getfield idx, 3)) (hn : pc + 3 = n9) (k : B l g d MC MS M n9 L (v :: st) n o c sl n1 o1) : B l g d MC MS M pc L (.ref a :: st) n o c sl n1 o1 := by
  subst hn
  obtain ⟨h1, h2, h3, h4, -⟩ := hX
  intro p e s m args below meth c0 C K hin H locs ls hH hS hl
  exact va_get (D := (g.1, g.2.1)) C.1 C.2.1 (Ts := mws M) C.2.2.2.2.2.1 (fun w hw => List.mem_cons_of_mem _ (h4 w hw)) C.2.2.2.2.1 K.2.1 hH.2.2 a (by rw [wlA_at g o ha, cellA_so ho]) h2 fk hfk (TTs C hlk) (fun _ h => h) (v := cv g v) hv hd (k _ _ _ _ _ _ _ _ C K hin _ _ _ hH hS hl)
theorem B_putF {fs : List Value} {x : Nat} {ty : FieldType} (hX : XF ci Cn T NN tyf) (ho : lk o a = some (.inr (ci, fs))) (ha : a < n) (hfk : fk < NN) (hfl : fk < fs.length) (hty : tyf fk = ty) (hfin : (T fk).2.2.2 = true) (hdc : (T fk).1 = M.1.cls) (hnr : narrow ty (.ref (ad g x)) = .ref (ad g x)) (hft : fits ty (.ref (ad g x)) = true) (ho' : oset o a (.inr (ci, fs.set fk (.ref (ad g x)))) = o') (hlk : Cond.fieldLink M.1.cls idx (T fk).1 (T fk).2.1 (T fk).2.2.1 ∈ TT) (hd : decode M.2.1 pc = .ok (.putfield idx, 3)) (hn : pc + 3 = n9) (k : B l g d MC MS M n9 L (st) n o' c sl n1 o1) : B l g d MC MS M pc L (.ref x :: .ref a :: st) n o c sl n1 o1 := by
  subst hn
  obtain ⟨h1, h2, h3, h4, h5, h6, h7⟩ := hX
  intro p e s m args below meth c0 C K hin H locs ls hH hS hl
  have hap := va_apart (own := M.1.cls) (s := s) (args := args) (Ts := mws M) C.2.2.2.2.2.1 (fun w hw => List.mem_cons_of_mem _ (h4 w hw)) tyf h5 h6 K.2.1 h2
  obtain ⟨r, g1, cell, q1, q2, q3, q4⟩ := hH.2.2 a _ (by rw [wlA_at g o ha, cellA_so ho])
  have hr : r = (Cn, T, NN) := Option.some.inj (g1.symm.trans h2)
  subst hr
  obtain ⟨hSl, hfc, kC, hkC, hkind⟩ := K.2.1.1 ci _ h2
  obtain ⟨cf, kf, fi, f, hif, hsl⟩ := hSl fk hfk
  have hlay := TTs C (h4 _ (u_in_lay hfk))
  unfold u_lay at hlay
  rw [if_pos hfin] at hlay
  have hst := (u_facts hfc hkC (u_lays C.2.2.2.2.2.1 (fun w hw => List.mem_cons_of_mem _ (h4 w hw)) hfk) hif).1
  have hcf : m.cls = cf := by
    obtain ⟨_, _, c', _, _, _, -, -, hf', -, -, -, hown2, -⟩ := Cond.laysFinal_spec hlay
    have e1 : c' = cf := by have := hif.symm.trans hf'; simp at this; exact this.1.symm
    rw [hdc] at hown2
    rw [← e1]; exact Option.some.inj (C.2.2.2.2.1.symm.trans hown2)
  have h6' := u_fits hfc hkC hkind (Or.inr hlay) hif (by rw [← hty]; exact h5 fk hfk) hnr hft
  refine W.putFinK C.1 C.2.1 C.2.2.2.2.1 (TTs C hlk) hif hst hcf hin (by rw [q2]; exact h6') q1 q3 (by rw [hsl]; exact k2_hasslot (q4 fk hfk)) rfl rfl hd fun H' e1 e2 e3 => ?_
  rw [hsl] at e1 ⊢
  have hD := wlD g hH.1 o
  have hw : (wlA g n o)[a]? = some (ad g a, .inr (ci, fs)) := by rw [wlA_at g o ha, cellA_so ho]
  have hP1 := hH.2.2.set (e := .inr (ci, fs.set fk (.ref (ad g x)))) hD hw ⟨_, h2, t_OB.to (V := updV (vp_V fs) fk (.ref (ad g x))) ⟨_, e1, q2, q3, t_set q4 hap hfk (.ref (ad g x))⟩ (fun j _ => vp_updV_set hfl (.ref (ad g x)) j)⟩ e3
  rw [wlA_set ho, ho'] at hP1
  exact k _ _ _ _ _ _ _ _ C K hin _ _ _ ⟨hH.1, e2.trans hH.2.1, hP1⟩ (hS.put e2 e3 (by show zA g (ad g a); rw [ad_lt (by have := hH.1; omega)]; exact Nat.le_add_right _ _)) hl
theorem B_putI {fs : List Value} {x : Int32} (hX : XF ci Cn T NN tyf) (ho : lk o a = some (.inr (ci, fs))) (ha : a < n) (hfk : fk < NN) (hfl : fk < fs.length) (hty : tyf fk = .int) (hfin : (T fk).2.2.2 = false) (ho' : oset o a (.inr (ci, fs.set fk (.int x))) = o') (hlk : Cond.fieldLink M.1.cls idx (T fk).1 (T fk).2.1 (T fk).2.2.1 ∈ TT) (hd : decode M.2.1 pc = .ok (.putfield idx, 3)) (hn : pc + 3 = n9) (k : B l g d MC MS M n9 L (st) n o' c sl n1 o1) : B l g d MC MS M pc L (.int x :: .ref a :: st) n o c sl n1 o1 := by
  subst hn
  obtain ⟨h1, h2, h3, h4, h5, h6, h7⟩ := hX
  intro p e s m args below meth c0 C K hin H locs ls hH hS hl
  have hnr : narrow .int (.int x) = .int x := rfl
  have hft : fits .int (.int x) = true := rfl
  have hap := va_apart (own := M.1.cls) (s := s) (args := args) (Ts := mws M) C.2.2.2.2.2.1 (fun w hw => List.mem_cons_of_mem _ (h4 w hw)) tyf h5 h6 K.2.1 h2
  obtain ⟨r, g1, cell, q1, q2, q3, q4⟩ := hH.2.2 a _ (by rw [wlA_at g o ha, cellA_so ho])
  have hr : r = (Cn, T, NN) := Option.some.inj (g1.symm.trans h2)
  subst hr
  obtain ⟨hSl, hfc, kC, hkC, hkind⟩ := K.2.1.1 ci _ h2
  obtain ⟨cf, kf, fi, f, hif, hsl⟩ := hSl fk hfk
  have hlay := TTs C (h4 _ (u_in_lay hfk))
  unfold u_lay at hlay
  rw [if_neg (by rw [hfin]; decide)] at hlay
  have hst := (u_facts hfc hkC (u_lays C.2.2.2.2.2.1 (fun w hw => List.mem_cons_of_mem _ (h4 w hw)) hfk) hif).1
  have h6' := u_store hfc hkC hkind hlay hif (by rw [← hty]; exact h5 fk hfk) hnr hft
  refine W.putK C.1 C.2.1 (f := f) ⟨C.2.2.2.2.1, TTs C hlk, ⟨_, _, _, hif⟩, hst⟩ (by rw [q2]; exact h6') q1 q3 (by rw [hsl]; exact k2_hasslot (q4 fk hfk)) rfl rfl hd fun H' e1 e2 e3 => ?_
  rw [hsl] at e1 ⊢
  have hD := wlD g hH.1 o
  have hw : (wlA g n o)[a]? = some (ad g a, .inr (ci, fs)) := by rw [wlA_at g o ha, cellA_so ho]
  have hP1 := hH.2.2.set (e := .inr (ci, fs.set fk (.int x))) hD hw ⟨_, h2, t_OB.to (V := updV (vp_V fs) fk (.int x)) ⟨_, e1, q2, q3, t_set q4 hap hfk (.int x)⟩ (fun j _ => vp_updV_set hfl (.int x) j)⟩ e3
  rw [wlA_set ho, ho'] at hP1
  exact k _ _ _ _ _ _ _ _ C K hin _ _ _ ⟨hH.1, e2.trans hH.2.1, hP1⟩ (hS.put e2 e3 (by show zA g (ad g a); rw [ad_lt (by have := hH.1; omega)]; exact Nat.le_add_right _ _)) hl

theorem B_newaI {z : Int32} {N : Nat} (hKK : n < KK) (harr : Cond.arrayClass .int ∈ TT) (hz9 : ¬ z < 0) (hN : z.toNatClampNeg = N) (hb : N * componentBytes .int ≤ 536870912) (hc1 : c + 1 ≤ MC) (hs1 : sl + N ≤ MS) (hd : decode M.2.1 pc = .ok (.newarray .int, 2)) (hn : pc + 2 = n9) (hkd : kd n = 20) (hln : ln n = N) (hz0 : S0.1 n = fun _ => 0) (hno : lk o n = none) (k : B l g d MC MS M n9 L (.ref n :: st) (n + 1) o (c + 1) (sl + N) n1 o1) : B l g d MC MS M pc L (.int z :: st) n o c sl n1 o1 := by
  subst hn
  intro p e s m args below meth c0 C K hin H locs ls hH hS hl
  refine va_newaK C.1 C.2.1 (atype := .int) (TTs C harr) rfl hd rfl hz9 hN (by show N * componentBytes .int ≤ 536870912; exact hb) (by show c + 1 ≤ MC; exact hc1) (by show sl + N ≤ MS; exact hs1) rfl fun H1 cA e1 z1 o1 hAr hNm => ?_
  have hcA : cA = g.2.2.1 0 := by
    have h2 := (K.2.1.2 0 _ rfl).2
    exact Option.some.inj (hNm.symm.trans h2)
  subst hcA
  have hS1 : va_S (zA g) s.heap H1 locs := ⟨Nat.le_trans hS.1 (by omega), fun x h1 h2 => (o1 x (Nat.lt_of_lt_of_le h1 hS.1)).trans (hS.2.1 x h1 h2), hS.2.2⟩
  have hk9 : va_P (g.1, g.2.1) xcl (wlA g n o) H1 := hH.2.2.kept (fun k x hx => o1 x.1 ((hH.2.2 k x hx).lt))
  have had : ad g n = H.size := by rw [ad_lt hKK, hH.2.1]
  have hP1 := hk9.app (w2 := [(ad g n, cellE g S0 n)]) (fun k x hx => by
    have hz : k < 1 := (List.getElem?_eq_some_iff.mp hx).1
    rw [show k = 0 by omega] at hx
    cases hx
    show va_at _ _ (ad g n, cellE g S0 n) H1
    rw [cellE_I hkd, hln, hz0, had]
    exact e1)
  rw [wlA_push (o1 := o) (cellA_no hno) (fun _ _ => rfl)] at hP1
  have hst : (Value.ref H.size :: st.map (cv g)) = (Value.ref n :: st).map (cv g) := by show _ = Value.ref (ad g n) :: _; rw [had]
  rw [hst]
  exact k _ _ _ _ _ _ _ _ C K hin _ _ _ ⟨hKK, z1.trans (by rw [hH.2.1]; omega), hP1⟩ hS1 hl
theorem B_newaIo {z : Int32} {N : Nat} (hKK : n < KK) (harr : Cond.arrayClass .int ∈ TT) (hz9 : ¬ z < 0) (hN : z.toNatClampNeg = N) (hb : N * componentBytes .int ≤ 536870912) (hc1 : c + 1 ≤ MC) (hs1 : sl + N ≤ MS) (hd : decode M.2.1 pc = .ok (.newarray .int, 2)) (hn : pc + 2 = n9) (k : B l g d MC MS M n9 L (.ref n :: st) (n + 1) ((n, .inl (g.2.2.1 0, N, .inl (fun _ => 0))) :: o) (c + 1) (sl + N) n1 o1) : B l g d MC MS M pc L (.int z :: st) n o c sl n1 o1 := by
  subst hn
  intro p e s m args below meth c0 C K hin H locs ls hH hS hl
  refine va_newaK C.1 C.2.1 (atype := .int) (TTs C harr) rfl hd rfl hz9 hN (by show N * componentBytes .int ≤ 536870912; exact hb) (by show c + 1 ≤ MC; exact hc1) (by show sl + N ≤ MS; exact hs1) rfl fun H1 cA e1 z1 o1 hAr hNm => ?_
  have hcA : cA = g.2.2.1 0 := by
    have h2 := (K.2.1.2 0 _ rfl).2
    exact Option.some.inj (hNm.symm.trans h2)
  subst hcA
  have hS1 : va_S (zA g) s.heap H1 locs := ⟨Nat.le_trans hS.1 (by omega), fun x h1 h2 => (o1 x (Nat.lt_of_lt_of_le h1 hS.1)).trans (hS.2.1 x h1 h2), hS.2.2⟩
  have hk9 : va_P (g.1, g.2.1) xcl (wlA g n o) H1 := hH.2.2.kept (fun k x hx => o1 x.1 ((hH.2.2 k x hx).lt))
  have had : ad g n = H.size := by rw [ad_lt hKK, hH.2.1]
  have hP1 := hk9.app (w2 := [(ad g n, .inl (g.2.2.1 0, N, .inl (fun _ => 0)))]) (fun k x hx => by
    have hz : k < 1 := (List.getElem?_eq_some_iff.mp hx).1
    rw [show k = 0 by omega] at hx
    cases hx
    show H1[ad g n]? = some _
    rw [had]
    exact e1)
  rw [wlA_push (o1 := ((n, .inl (g.2.2.1 0, N, .inl (fun _ => 0))) :: o)) cellA_eq (fun k hk => cellA_ne (by omega))] at hP1
  have hst : (Value.ref H.size :: st.map (cv g)) = (Value.ref n :: st).map (cv g) := by show _ = Value.ref (ad g n) :: _; rw [had]
  rw [hst]
  exact k _ _ _ _ _ _ _ _ C K hin _ _ _ ⟨hKK, z1.trans (by rw [hH.2.1]; omega), hP1⟩ hS1 hl
theorem B_newaJ {z : Int32} {N : Nat} (hKK : n < KK) (harr : Cond.arrayClass .long ∈ TT) (hz9 : ¬ z < 0) (hN : z.toNatClampNeg = N) (hb : N * componentBytes .long ≤ 536870912) (hc1 : c + 1 ≤ MC) (hs1 : sl + N ≤ MS) (hd : decode M.2.1 pc = .ok (.newarray .long, 2)) (hn : pc + 2 = n9) (hkd : kd n = 21) (hln : ln n = N) (hz0 : S0.2 n = fun _ => 0) (hno : lk o n = none) (k : B l g d MC MS M n9 L (.ref n :: st) (n + 1) o (c + 1) (sl + N) n1 o1) : B l g d MC MS M pc L (.int z :: st) n o c sl n1 o1 := by
  subst hn
  intro p e s m args below meth c0 C K hin H locs ls hH hS hl
  refine va_newaK C.1 C.2.1 (atype := .long) (TTs C harr) rfl hd rfl hz9 hN (by show N * componentBytes .long ≤ 536870912; exact hb) (by show c + 1 ≤ MC; exact hc1) (by show sl + N ≤ MS; exact hs1) rfl fun H1 cA e1 z1 o1 hAr hNm => ?_
  have hcA : cA = g.2.2.1 1 := by
    have h2 := (K.2.1.2 1 _ rfl).2
    exact Option.some.inj (hNm.symm.trans h2)
  subst hcA
  have hS1 : va_S (zA g) s.heap H1 locs := ⟨Nat.le_trans hS.1 (by omega), fun x h1 h2 => (o1 x (Nat.lt_of_lt_of_le h1 hS.1)).trans (hS.2.1 x h1 h2), hS.2.2⟩
  have hk9 : va_P (g.1, g.2.1) xcl (wlA g n o) H1 := hH.2.2.kept (fun k x hx => o1 x.1 ((hH.2.2 k x hx).lt))
  have had : ad g n = H.size := by rw [ad_lt hKK, hH.2.1]
  have hP1 := hk9.app (w2 := [(ad g n, cellE g S0 n)]) (fun k x hx => by
    have hz : k < 1 := (List.getElem?_eq_some_iff.mp hx).1
    rw [show k = 0 by omega] at hx
    cases hx
    show va_at _ _ (ad g n, cellE g S0 n) H1
    rw [cellE_J hkd, hln, hz0, had]
    exact e1)
  rw [wlA_push (o1 := o) (cellA_no hno) (fun _ _ => rfl)] at hP1
  have hst : (Value.ref H.size :: st.map (cv g)) = (Value.ref n :: st).map (cv g) := by show _ = Value.ref (ad g n) :: _; rw [had]
  rw [hst]
  exact k _ _ _ _ _ _ _ _ C K hin _ _ _ ⟨hKK, z1.trans (by rw [hH.2.1]; omega), hP1⟩ hS1 hl
theorem B_newaJo {z : Int32} {N : Nat} (hKK : n < KK) (harr : Cond.arrayClass .long ∈ TT) (hz9 : ¬ z < 0) (hN : z.toNatClampNeg = N) (hb : N * componentBytes .long ≤ 536870912) (hc1 : c + 1 ≤ MC) (hs1 : sl + N ≤ MS) (hd : decode M.2.1 pc = .ok (.newarray .long, 2)) (hn : pc + 2 = n9) (k : B l g d MC MS M n9 L (.ref n :: st) (n + 1) ((n, .inl (g.2.2.1 1, N, .inr (.inl (fun _ => 0)))) :: o) (c + 1) (sl + N) n1 o1) : B l g d MC MS M pc L (.int z :: st) n o c sl n1 o1 := by
  subst hn
  intro p e s m args below meth c0 C K hin H locs ls hH hS hl
  refine va_newaK C.1 C.2.1 (atype := .long) (TTs C harr) rfl hd rfl hz9 hN (by show N * componentBytes .long ≤ 536870912; exact hb) (by show c + 1 ≤ MC; exact hc1) (by show sl + N ≤ MS; exact hs1) rfl fun H1 cA e1 z1 o1 hAr hNm => ?_
  have hcA : cA = g.2.2.1 1 := by
    have h2 := (K.2.1.2 1 _ rfl).2
    exact Option.some.inj (hNm.symm.trans h2)
  subst hcA
  have hS1 : va_S (zA g) s.heap H1 locs := ⟨Nat.le_trans hS.1 (by omega), fun x h1 h2 => (o1 x (Nat.lt_of_lt_of_le h1 hS.1)).trans (hS.2.1 x h1 h2), hS.2.2⟩
  have hk9 : va_P (g.1, g.2.1) xcl (wlA g n o) H1 := hH.2.2.kept (fun k x hx => o1 x.1 ((hH.2.2 k x hx).lt))
  have had : ad g n = H.size := by rw [ad_lt hKK, hH.2.1]
  have hP1 := hk9.app (w2 := [(ad g n, .inl (g.2.2.1 1, N, .inr (.inl (fun _ => 0))))]) (fun k x hx => by
    have hz : k < 1 := (List.getElem?_eq_some_iff.mp hx).1
    rw [show k = 0 by omega] at hx
    cases hx
    show H1[ad g n]? = some _
    rw [had]
    exact e1)
  rw [wlA_push (o1 := ((n, .inl (g.2.2.1 1, N, .inr (.inl (fun _ => 0)))) :: o)) cellA_eq (fun k hk => cellA_ne (by omega))] at hP1
  have hst : (Value.ref H.size :: st.map (cv g)) = (Value.ref n :: st).map (cv g) := by show _ = Value.ref (ad g n) :: _; rw [had]
  rw [hst]
  exact k _ _ _ _ _ _ _ _ C K hin _ _ _ ⟨hKK, z1.trans (by rw [hH.2.1]; omega), hP1⟩ hS1 hl
theorem B_newaZ {z : Int32} {N : Nat} (hKK : n < KK) (harr : Cond.arrayClass .boolean ∈ TT) (hz9 : ¬ z < 0) (hN : z.toNatClampNeg = N) (hb : N * componentBytes .boolean ≤ 536870912) (hc1 : c + 1 ≤ MC) (hs1 : sl + N ≤ MS) (hd : decode M.2.1 pc = .ok (.newarray .boolean, 2)) (hn : pc + 2 = n9) (hkd : kd n = 22) (hln : ln n = N) (hz0 : S0.1 n = fun _ => 0) (hno : lk o n = none) (k : B l g d MC MS M n9 L (.ref n :: st) (n + 1) o (c + 1) (sl + N) n1 o1) : B l g d MC MS M pc L (.int z :: st) n o c sl n1 o1 := by
  subst hn
  intro p e s m args below meth c0 C K hin H locs ls hH hS hl
  refine va_newaK C.1 C.2.1 (atype := .boolean) (TTs C harr) rfl hd rfl hz9 hN (by show N * componentBytes .boolean ≤ 536870912; exact hb) (by show c + 1 ≤ MC; exact hc1) (by show sl + N ≤ MS; exact hs1) rfl fun H1 cA e1 z1 o1 hAr hNm => ?_
  have hcA : cA = g.2.2.1 2 := by
    have h2 := (K.2.1.2 2 _ rfl).2
    exact Option.some.inj (hNm.symm.trans h2)
  subst hcA
  have hS1 : va_S (zA g) s.heap H1 locs := ⟨Nat.le_trans hS.1 (by omega), fun x h1 h2 => (o1 x (Nat.lt_of_lt_of_le h1 hS.1)).trans (hS.2.1 x h1 h2), hS.2.2⟩
  have hk9 : va_P (g.1, g.2.1) xcl (wlA g n o) H1 := hH.2.2.kept (fun k x hx => o1 x.1 ((hH.2.2 k x hx).lt))
  have had : ad g n = H.size := by rw [ad_lt hKK, hH.2.1]
  have hP1 := hk9.app (w2 := [(ad g n, cellE g S0 n)]) (fun k x hx => by
    have hz : k < 1 := (List.getElem?_eq_some_iff.mp hx).1
    rw [show k = 0 by omega] at hx
    cases hx
    show va_at _ _ (ad g n, cellE g S0 n) H1
    rw [cellE_Z hkd, hln, hz0, had]
    exact e1)
  rw [wlA_push (o1 := o) (cellA_no hno) (fun _ _ => rfl)] at hP1
  have hst : (Value.ref H.size :: st.map (cv g)) = (Value.ref n :: st).map (cv g) := by show _ = Value.ref (ad g n) :: _; rw [had]
  rw [hst]
  exact k _ _ _ _ _ _ _ _ C K hin _ _ _ ⟨hKK, z1.trans (by rw [hH.2.1]; omega), hP1⟩ hS1 hl
theorem B_newaZo {z : Int32} {N : Nat} (hKK : n < KK) (harr : Cond.arrayClass .boolean ∈ TT) (hz9 : ¬ z < 0) (hN : z.toNatClampNeg = N) (hb : N * componentBytes .boolean ≤ 536870912) (hc1 : c + 1 ≤ MC) (hs1 : sl + N ≤ MS) (hd : decode M.2.1 pc = .ok (.newarray .boolean, 2)) (hn : pc + 2 = n9) (k : B l g d MC MS M n9 L (.ref n :: st) (n + 1) ((n, .inl (g.2.2.1 2, N, .inl (fun _ => 0))) :: o) (c + 1) (sl + N) n1 o1) : B l g d MC MS M pc L (.int z :: st) n o c sl n1 o1 := by
  subst hn
  intro p e s m args below meth c0 C K hin H locs ls hH hS hl
  refine va_newaK C.1 C.2.1 (atype := .boolean) (TTs C harr) rfl hd rfl hz9 hN (by show N * componentBytes .boolean ≤ 536870912; exact hb) (by show c + 1 ≤ MC; exact hc1) (by show sl + N ≤ MS; exact hs1) rfl fun H1 cA e1 z1 o1 hAr hNm => ?_
  have hcA : cA = g.2.2.1 2 := by
    have h2 := (K.2.1.2 2 _ rfl).2
    exact Option.some.inj (hNm.symm.trans h2)
  subst hcA
  have hS1 : va_S (zA g) s.heap H1 locs := ⟨Nat.le_trans hS.1 (by omega), fun x h1 h2 => (o1 x (Nat.lt_of_lt_of_le h1 hS.1)).trans (hS.2.1 x h1 h2), hS.2.2⟩
  have hk9 : va_P (g.1, g.2.1) xcl (wlA g n o) H1 := hH.2.2.kept (fun k x hx => o1 x.1 ((hH.2.2 k x hx).lt))
  have had : ad g n = H.size := by rw [ad_lt hKK, hH.2.1]
  have hP1 := hk9.app (w2 := [(ad g n, .inl (g.2.2.1 2, N, .inl (fun _ => 0)))]) (fun k x hx => by
    have hz : k < 1 := (List.getElem?_eq_some_iff.mp hx).1
    rw [show k = 0 by omega] at hx
    cases hx
    show H1[ad g n]? = some _
    rw [had]
    exact e1)
  rw [wlA_push (o1 := ((n, .inl (g.2.2.1 2, N, .inl (fun _ => 0))) :: o)) cellA_eq (fun k hk => cellA_ne (by omega))] at hP1
  have hst : (Value.ref H.size :: st.map (cv g)) = (Value.ref n :: st).map (cv g) := by show _ = Value.ref (ad g n) :: _; rw [had]
  rw [hst]
  exact k _ _ _ _ _ _ _ _ C K hin _ _ _ ⟨hKK, z1.trans (by rw [hH.2.1]; omega), hP1⟩ hS1 hl
theorem B_new {fs : List Value} (hX : XF ci Cn T NN tyf) (hKK : n < KK) (hcl : Cond.classLink M.1.cls idx Cn ∈ TT) (hinst : Cond.instantiable Cn NN ∈ TT) (hini : Cond.initialized Cn ∈ TT) (hfs : ∀ j, j < NN → defaultValue (tyf j) = vp_V fs j) (hc1 : c + 1 ≤ MC) (hs1 : sl + NN ≤ MS) (hd : decode M.2.1 pc = .ok (.new idx, 3)) (hn : pc + 3 = n9) (k : B l g d MC MS M n9 L (.ref n :: st) (n + 1) ((n, .inr (ci, fs)) :: o) (c + 1) (sl + NN) n1 o1) : B l g d MC MS M pc L (st) n o c sl n1 o1 := by
  subst hn
  obtain ⟨h1, h2, h3, h4, h5, h6, h7⟩ := hX
  intro p e s m args below meth c0 C K hin H locs ls hH hS hl
  have hKn := K.2.1.1 ci _ h2
  refine W.newcK C.1 C.2.1 C.2.2.2.2.1 (TTs C hcl) (TTs C hinst) (TTs C hini) rfl hd (by show c + 1 ≤ MC; exact hc1) (by show sl + NN ≤ MS; exact hs1) hKn.2.1 rfl fun H1 kC hkC e1 z1 o1 => ?_
  have hS1 : va_S (zA g) s.heap H1 locs := ⟨Nat.le_trans hS.1 (by omega), fun x h1 h2 => (o1 x (Nat.lt_of_lt_of_le h1 hS.1)).trans (hS.2.1 x h1 h2), hS.2.2⟩
  have hk9 : va_P (g.1, g.2.1) xcl (wlA g n o) H1 := hH.2.2.kept (fun k x hx => o1 x.1 ((hH.2.2 k x hx).lt))
  have had : ad g n = H.size := by rw [ad_lt hKK, hH.2.1]
  have hP1 := hk9.app (w2 := [(ad g n, .inr (ci, fs))]) (fun k x hx => by
    have hz : k < 1 := (List.getElem?_eq_some_iff.mp hx).1
    rw [show k = 0 by omega] at hx
    cases hx
    refine ⟨_, h2, ?_⟩
    show t_OB (ad g n) _ _ _ H1 _
    rw [had]
    exact (u_born tyf C.2.2.2.2.2.1 (fun w hw => List.mem_cons_of_mem _ (h4 w hw)) hKn hkC e1 h5).to hfs)
  rw [wlA_push (o1 := ((n, .inr (ci, fs)) :: o)) cellA_eq (fun k hk => cellA_ne (by omega))] at hP1
  have hst : (Value.ref H.size :: st.map (cv g)) = (Value.ref n :: st).map (cv g) := by show _ = Value.ref (ad g n) :: _; rw [had]
  show W _ _ _ _ _ _ _ _ _ _ _ _ _ _ _ (F0 m (pc + 3) ls (Value.ref H.size :: st.map (cv g)))
  rw [hst]
  exact k _ _ _ _ _ _ _ _ C K hin _ _ _ ⟨hKK, z1.trans (by rw [hH.2.1]; omega), hP1⟩ hS1 hl
/-- an open cell that stands as the picture has it is closed -/
theorem B_close {e0 : va_E} (he : e0 = cellE g S0 a) (hno : lk o a = none) (k : B l g d MC MS M n9 L (st) n o c sl n1 o1) : B l g d MC MS M n9 L st n ((a, e0) :: o) c sl n1 o1 := by
  intro p e s m args below meth c0 C K hin H locs ls hH hS hl
  refine k _ _ _ _ _ _ _ _ C K hin _ _ _ ⟨hH.1, hH.2.1, ?_⟩ hS hl
  rw [← wlA_same (o := (a, e0) :: o) (o1 := o) (fun k _ => ?_)]
  · exact hH.2.2
  · by_cases h : k = a
    · subst h
      rw [cellA_eq, cellA_no hno, he]
    · exact cellA_ne h
theorem B_ret (hr : M.2.2.2 = none) (hd : decode M.2.1 pc = .ok (.return_, 1)) : B l g d MC MS M pc L [] n o MC MS n o := by
  intro p e s m args below meth c0 C K hin H locs ls hH hS hl
  exact W.vret C.1 C.2.1 (C.2.2.2.1.trans hr) (fun t ht hW => ⟨⟨rfl, by rw [ht]; exact hH⟩, hS.F ht⟩) hS.2.2 hd C.2.2.2.2.2.2
theorem B_obj (hlk : Cond.methodLink M.1.cls idx objectInit ∈ TT) (h1 : Cond.instanceMethod objectInit ∈ TT) (h2 : Cond.code objectInit ⟨#[0xb1]⟩ 1 none ∈ TT) (hdd : 1 ≤ d) (hcat : (st.map fun v => v.category).sum ≤ 8) (hd : decode M.2.1 pc = .ok (.invokespecial idx, 3)) (hn : pc + 3 = n9) (k : B l g d MC MS M n9 L (st) n o c sl n1 o1) : B l g d MC MS M pc L (.ref a :: st) n o c sl n1 o1 := by
  subst hn
  intro p e s m args below meth c0 C K hin H locs ls hH hS hl
  refine W.objInit C.1 C.2.1 C.2.2.2.2.1 (TTs C hlk) (TTs C h1) (TTs C h2) rfl (hl.1.trans C.2.2.1.symm) rfl hd (by show 1 ≤ d; exact hdd) ?_ (k _ _ _ _ _ _ _ _ C K hin _ _ _ hH hS hl)
  have h9 := lv_room (m := m) (pc := pc) (ls := ls) (rest := (.ref a :: st).map (cv g)) (st := st.map (cv g)) (by rw [cv_sum]; exact hcat)
  show _ + 12 ≤ 40 * d
  omega
end BR
