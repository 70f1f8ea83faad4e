def ushr32 (x y : Int32) : Int32 := (x.toUInt32 >>> (y.toUInt32 &&& Int32.toUInt32 31)).toInt32
def ushr64 (x : Int64) (y : Int32) : Int64 := (x.toUInt64 >>> (y.toInt64.toUInt64 &&& Int64.toUInt64 63)).toInt64
def shl64 (x : Int64) (y : Int32) : Int64 := x <<< (y.toInt64 &&& 63)
def shl32 (x y : Int32) : Int32 := x <<< (y &&& 31)
def shr32 (x y : Int32) : Int32 := x >>> (y &&& 31)
def rem32 (x y : Int32) : Int32 := x - x / y * y
def rem64 (x y : Int64) : Int64 := x - x / y * y
theorem kd_lt {a c : Nat} (h : kd a = c) (hc : c < 99) : a < KK := by
  rcases Nat.lt_or_ge a KK with q | q
  · exact q
  · have h1 : kd a = 99 := by
      unfold kd
      rw [List.getD_eq_getElem?_getD, List.getElem?_eq_none (by exact q)]
      rfl
    omega
theorem ad_lt {g : XG} {a : Nat} (h : a < KK) : ad g a = g.2.2.2.1 + a := by unfold ad; rw [if_pos h]
theorem wl_at (g : XG) (S : XS) {a : Nat} (h : a < KK) : (wl g S)[a]? = some (ad g a, cellE g S a) := by
  unfold wl
  rw [List.getElem?_map, List.getElem?_range h]
  rfl
theorem wl_of {g : XG} {S : XS} {a : Nat} {q : Nat × va_E} (h : (wl g S)[a]? = some q) : a < KK ∧ q = (ad g a, cellE g S a) := by
  have hl : a < (wl g S).length := (List.getElem?_eq_some_iff.mp h).1
  have h2 : a < KK := by simpa [wl] using hl
  rw [wl_at g S h2] at h
  exact ⟨h2, (Option.some.inj h).symm⟩
theorem wD (g : XG) (S : XS) : va_D (wA g) (wl g S) := by
  refine ⟨fun i j p q hi hj he => ?_, fun k q hk => ?_⟩
  · obtain ⟨h1, rfl⟩ := wl_of hi
    obtain ⟨h2, rfl⟩ := wl_of hj
    have he : ad g i = ad g j := he
    rw [ad_lt h1, ad_lt h2] at he
    omega
  · obtain ⟨h1, rfl⟩ := wl_of hk
    show wA g (ad g k)
    rw [ad_lt h1]
    exact ⟨by omega, by omega⟩
theorem wl_set {g : XG} {S S1 : XS} {a : Nat} {e : va_E} (h : a < KK) (h1 : cellE g S1 a = e) (h2 : ∀ b, b < KK → b ≠ a → cellE g S1 b = cellE g S b) : (wl g S).set a (ad g a, e) = wl g S1 := by
  apply List.ext_getElem?
  intro i
  by_cases hi : i = a
  · subst hi
    rw [List.getElem?_set_self (by simpa [wl] using h), wl_at g S1 h, h1]
  · rw [List.getElem?_set_ne (Ne.symm hi)]
    by_cases hk : i < KK
    · rw [wl_at g S hk, wl_at g S1 hk, h2 i hk hi]
    · rw [List.getElem?_eq_none (by simpa [wl] using hk), List.getElem?_eq_none (by simpa [wl] using hk)]
theorem cellE_o {g : XG} {S : XS} {a c : Nat} (h : kd a = c) (hc : c < 13) : cellE g S a = .inr (c, (List.range (nf c)).map (slotV g S c a)) := by
  unfold cellE; rw [h, if_pos hc]
theorem cellE_I {g : XG} {S : XS} {a : Nat} (h : kd a = 20) : cellE g S a = .inl (g.2.2.1 0, ln a, .inl (S.1 a)) := by
  unfold cellE; rw [h]; rfl
theorem cellE_J {g : XG} {S : XS} {a : Nat} (h : kd a = 21) : cellE g S a = .inl (g.2.2.1 1, ln a, .inr (.inl (S.2 a))) := by
  unfold cellE; rw [h]; rfl
theorem cellE_Z {g : XG} {S : XS} {a : Nat} (h : kd a = 22) : cellE g S a = .inl (g.2.2.1 2, ln a, .inl (S.1 a)) := by
  unfold cellE; rw [h]; rfl
theorem cellE_W {g : XG} {S : XS} {a : Nat} (h : kd a = 23) : cellE g S a = .inl (g.2.2.1 3, ln a, .inr (.inr (.inr (.inr (fun i => some (ad g (rf a i))))))) := by
  unfold cellE; rw [h]; rfl
theorem cellE_H {g : XG} {S : XS} {a : Nat} (h : kd a = 24) : cellE g S a = .inl (g.2.2.1 4, ln a, .inr (.inr (.inr (.inr (fun i => some (ad g (rf a i))))))) := by
  unfold cellE; rw [h]; rfl
theorem cellE_S {g : XG} {S : XS} {a : Nat} (h : kd a = 25) : cellE g S a = .inl (g.2.2.1 5, ln a, .inr (.inr (.inr (.inr (fun i => some (ad g (rf a i))))))) := by
  unfold cellE; rw [h]; rfl
theorem up2_ne {α : Type} {f : Nat → Nat → α} {a k b : Nat} {v : α} (h : b ≠ a) : up2 f a k v b = f b := by
  funext j
  unfold up2
  rw [if_neg (fun q => h q.1)]
theorem up2_at {α : Type} {f : Nat → Nat → α} {a k : Nat} {v : α} : up2 f a k v a k = v := by
  unfold up2
  rw [if_pos ⟨rfl, rfl⟩]
theorem up2_nk {α : Type} {f : Nat → Nat → α} {a k b j : Nat} {v : α} (h : j ≠ k) : up2 f a k v b j = f b j := by
  unfold up2
  rw [if_neg (fun q => h q.2)]
theorem up2_row {α : Type} {f : Nat → Nat → α} {a k : Nat} {v : α} : up2 f a k v a = fun j => if j = k then v else f a j := by
  funext j
  unfold up2
  by_cases h : j = k
  · rw [if_pos ⟨rfl, h⟩, if_pos h]
  · rw [if_neg (fun q => h q.2), if_neg h]
theorem cellE_ne {g : XG} {S S1 : XS} {b : Nat} (h1 : S1.1 b = S.1 b) (h2 : S1.2 b = S.2 b) : cellE g S1 b = cellE g S b := by
  have h3 : slotV g S1 (kd b) b = slotV g S (kd b) b := by
    funext j
    unfold slotV
    rw [h1, h2]
  unfold cellE
  rw [h1, h2, h3]
theorem rset {α : Type} (n k : Nat) (v : α) (f : Nat → α) : ((List.range n).map f).set k v = (List.range n).map (fun j => if j = k then v else f j) := by
  apply List.ext_getElem?
  intro i
  by_cases hn : i < n
  · by_cases hi : i = k
    · subst hi
      rw [List.getElem?_set_self (by simpa using hn)]
      simp [List.getElem?_range hn]
    · rw [List.getElem?_set_ne (Ne.symm hi)]
      simp [List.getElem?_range hn, hi]
  · rw [List.getElem?_eq_none (by simpa using hn), List.getElem?_eq_none (by simpa using hn)]
theorem cellE_fI {g : XG} {S : XS} {a c k : Nat} {v : Int32} (h : kd a = c) (hc : c < 13) (hf : ft c k = 0) : cellE g (sI S a k v) a = .inr (c, ((List.range (nf c)).map (slotV g S c a)).set k (.int v)) := by
  rw [cellE_o h hc, rset]
  congr 3
  funext j
  by_cases hj : j = k
  · subst hj
    rw [if_pos rfl]
    unfold slotV
    rw [if_pos hf]
    show Value.int (up2 S.1 a j v a j) = _
    rw [up2_at]
  · rw [if_neg hj]
    unfold slotV
    show (if ft c j = 0 then Value.int (up2 S.1 a k v a j) else _) = _
    rw [up2_nk hj]
    rfl
theorem cellE_fL {g : XG} {S : XS} {a c k : Nat} {v : Int64} (h : kd a = c) (hc : c < 13) (hf : ft c k = 1) : cellE g (sL S a k v) a = .inr (c, ((List.range (nf c)).map (slotV g S c a)).set k (.long v)) := by
  rw [cellE_o h hc, rset]
  congr 3
  funext j
  by_cases hj : j = k
  · subst hj
    rw [if_pos rfl]
    unfold slotV
    rw [if_neg (by omega), if_pos hf]
    show Value.long (up2 S.2 a j v a j) = _
    rw [up2_at]
  · rw [if_neg hj]
    unfold slotV
    show (if ft c j = 0 then _ else if ft c j = 1 then Value.long (up2 S.2 a k v a j) else _) = _
    rw [up2_nk hj]
    rfl
theorem wl_sI {g : XG} {S : XS} {a k : Nat} {v : Int32} {e : va_E} (h : a < KK) (h1 : cellE g (sI S a k v) a = e) : (wl g S).set a (ad g a, e) = wl g (sI S a k v) := wl_set h h1 (fun _ _ hb => cellE_ne (up2_ne hb) rfl)
theorem wl_sL {g : XG} {S : XS} {a k : Nat} {v : Int64} {e : va_E} (h : a < KK) (h1 : cellE g (sL S a k v) a = e) : (wl g S).set a (ad g a, e) = wl g (sL S a k v) := wl_set h h1 (fun _ _ hb => cellE_ne rfl (up2_ne hb))
theorem cv_cat (g : XG) (v : Value) : (cv g v).category = v.category := by cases v <;> rfl
theorem cv_sum (g : XG) (st : List Value) : ((st.map (cv g)).map fun v => v.category).sum = (st.map fun v => v.category).sum := by
  rw [List.map_map]
  congr 1
  exact List.map_congr_left (fun v _ => cv_cat g v)
theorem L_at {g : XG} {ls : Array Slot} {nL : Nat} {L : List (Nat × Value)} (h : lv_has ls nL (L.map (fun q => (q.1, cv g q.2)))) (j : Nat) {i : Nat} {v : Value} (hj : L[j]? = some (i, v)) : ls[i]? = some (.val (cv g v)) := lv_at h j (by rw [List.getElem?_map, hj]; rfl)
theorem L_f1 (g : XG) (i : Nat) (v : Value) (L : List (Nat × Value)) : (i, cv g v) :: (L.map (fun q => (q.1, cv g q.2))).filter (fun q => !(q.1 == i) && !(q.1 + 1 == i && q.2.category == 2)) = ((i, v) :: L.filter (fun q => !(q.1 == i) && !(q.1 + 1 == i && q.2.category == 2))).map (fun q => (q.1, cv g q.2)) := by
  rw [List.map_cons, List.filter_map]
  congr 3
  funext q
  show (!(q.1 == i) && !(q.1 + 1 == i && (cv g q.2).category == 2)) = _
  rw [cv_cat]
theorem L_f2 (g : XG) (i : Nat) (v : Value) (L : List (Nat × Value)) : (i, cv g v) :: (L.map (fun q => (q.1, cv g q.2))).filter (fun q => !(q.1 == i) && (!(q.1 == i + 1) && !(q.1 + 1 == i && q.2.category == 2))) = ((i, v) :: L.filter (fun q => !(q.1 == i) && (!(q.1 == i + 1) && !(q.1 + 1 == i && q.2.category == 2)))).map (fun q => (q.1, cv g q.2)) := by
  rw [List.map_cons, List.filter_map]
  congr 3
  funext q
  show (!(q.1 == i) && (!(q.1 == i + 1) && !(q.1 + 1 == i && (cv g q.2).category == 2))) = _
  rw [cv_cat]
theorem TTs {M : XM} {p : Program} {s : State} {m : MethodId} {args : Array Value} {meth : Method} {c : Code} (C : CX M p s m args meth c) {w : Cond} (hw : w ∈ TT) : w.before args s = true := C.2.2.2.2.2.1 w (List.mem_cons_of_mem _ hw)
theorem KX_call {g : XG} {s U : State} {H : Heap} {locs : List Loc} (K : KX g s) (hS : va_S (wA g) s.heap H locs) (hU : U.heap = H) (hW : s.WarmedH U.vm) : KX g U := by
  refine ⟨va_K.moved hW.alike K.1, fun w hw => NW_warm hw hW (K.2.1 w hw), ?_, ?_⟩
  · rw [hU]
    exact (va_Z.moved hW.alike K.2.2.1).kept hS.2.1
  · rw [hU]
    exact (va_T.moved hW.alike K.2.2.2).kept hS.2.1
theorem PX_blind {g : XG} {S : XS} {av : List Value} : FrameBlind (va_Pc av (fun U => XH g S U.heap ∧ KX g U)) := by
  intro a U g' mk h
  obtain ⟨h1, h2, h3, h4, h5, h6⟩ := h
  exact ⟨h1, h2, va_K.moved (u := U) (U := U.calling g' mk a) (Vm.Alike.refl U.vm) h3, fun w hw => NW_same (u := U) (U := U.calling g' mk a) hw rfl (h4 w hw), va_Z.moved (u := U) (U := U.calling g' mk a) (Vm.Alike.refl U.vm) h5, va_T.moved (u := U) (U := U.calling g' mk a) (Vm.Alike.refl U.vm) h6⟩
/-- bits of a truth -/
abbrev bi (b : Bool) : Int32 := cond b 1 0
abbrev φB : Bool × XS → Option Value × XS := fun q => (some (.int (bi q.1)), q.2)
section XR
theorem lg_slmap (g : XG) (av : List Value) : (lg_sl (av.map (cv g))).length = (lg_sl av).length := by
  induction av with
  | nil => rfl
  | cons v t ih => cases v <;> simp [lg_sl, cv, Value.category] at ih ⊢ <;> omega
theorem lv_argsmap (g : XG) (av : List Value) : ∀ k, lv_args k (av.map (cv g)) = (lv_args k av).map (fun q => (q.1, cv g q.2)) := by
  induction av with
  | nil => intro k; rfl
  | cons v t ih => intro k; simp [lv_args, ih, cv_cat]
variable {β γ : Type} {φ : β → Option Value × XS} {ψ : γ → Option Value × XS} {l : Launch} {g : XG} {d d1 : Nat} {M N : XM} {pc n tgt : Nat} {L L1 : List (Nat × Value)} {st : List Value} {S : XS} {R R1 R2 : Option β}
theorem Cl.of {av : List Value} (hp : plainName M.1.cls = true) (hn : (lg_sl av).length ≤ M.2.2.1) (h : X φ l g d M 0 (lv_args 0 av) [] S R) : Cl φ l g d M av S R := by
  intro q hq
  refine Met.ofW (cc := M.2.1) (maxL := M.2.2.1) (ret := M.2.2.2) (ws' := TT) hp rfl ?_
  intro p e s m args below meth c s1 B hml hv
  obtain ⟨rfl, hH, hK⟩ := hv
  have hts := atoms_spec (ws := mws M) B.pre
  have hl := lv_entry (av.map (cv g)) (n := M.2.2.1) (by rw [lg_slmap]; exact hn)
  rw [lg_entry_eq]
  generalize (lg_sl (av.map (cv g)) ++ List.replicate (M.2.2.1 - (lg_sl (av.map (cv g))).length) Slot.unset).toArray = ls at hl ⊢
  rw [lv_argsmap] at hl
  exact h q hq p e s m _ below meth c ⟨B.exec, B.bytes, hml, B.returns, findClass_of_methodNamed B.named, hts, B.notSynchronized⟩ hK _ _ _ hH va_S.rf hl
theorem X_iconst {z : Int} {v : Int32} (hd : decode M.2.1 pc = .ok (.iconst z, 1)) (hn : pc + 1 = n) (hv : Int32.ofInt z = v) (k : X φ l g d M n L (.int v :: st) S R) : X φ l g d M pc L (st) S R := by
  subst hn
  intro q hq p e s m args below meth c C K H locs ls hH hS hl
  exact lv_iconst C.1 C.2.1 hd hv (k q hq _ _ _ _ _ _ _ _ C K _ _ _ hH hS hl)
theorem X_bipush {z : Int} {v : Int32} (hd : decode M.2.1 pc = .ok (.bipush z, 2)) (hn : pc + 2 = n) (hv : (Int8.ofInt z).toInt32 = v) (k : X φ l g d M n L (.int v :: st) S R) : X φ l g d M pc L (st) S R := by
  subst hn
  intro q hq p e s m args below meth c C K H locs ls hH hS hl
  exact lv_bipush C.1 C.2.1 hd hv (k q hq _ _ _ _ _ _ _ _ C K _ _ _ hH hS hl)
theorem X_sipush {z : Int} {v : Int32} (hd : decode M.2.1 pc = .ok (.sipush z, 3)) (hn : pc + 3 = n) (hv : (Int16.ofInt z).toInt32 = v) (k : X φ l g d M n L (.int v :: st) S R) : X φ l g d M pc L (st) S R := by
  subst hn
  intro q hq p e s m args below meth c C K H locs ls hH hS hl
  exact lv_sipush C.1 C.2.1 hd hv (k q hq _ _ _ _ _ _ _ _ C K _ _ _ hH hS hl)
theorem X_lconst {z : Fin 2} {v : Int64} (hd : decode M.2.1 pc = .ok (.lconst z, 1)) (hn : pc + 1 = n) (hv : Int64.ofNat (z : Nat) = v) (k : X φ l g d M n L (.long v :: st) S R) : X φ l g d M pc L (st) S R := by
  subst hn
  intro q hq p e s m args below meth c C K H locs ls hH hS hl
  exact lv_lconst C.1 C.2.1 hd hv (k q hq _ _ _ _ _ _ _ _ C K _ _ _ hH hS hl)
theorem X_ldc {i : Nat} {v : Int32} (hd : decode M.2.1 pc = .ok (.ldc i, 2)) (hn : pc + 2 = n) (hc : Cond.constant M.1.cls i v ∈ TT) (k : X φ l g d M n L (.int v :: st) S R) : X φ l g d M pc L (st) S R := by
  subst hn
  intro q hq p e s m args below meth c C K H locs ls hH hS hl
  exact lv_ldc C.1 C.2.1 C.2.2.2.2.1 (TTs C hc) hd (k q hq _ _ _ _ _ _ _ _ C K _ _ _ hH hS hl)
theorem X_ldcw {i : Nat} {v : Int32} (hd : decode M.2.1 pc = .ok (.ldc_w i, 3)) (hn : pc + 3 = n) (hc : Cond.constant M.1.cls i v ∈ TT) (k : X φ l g d M n L (.int v :: st) S R) : X φ l g d M pc L (st) S R := by
  subst hn
  intro q hq p e s m args below meth c C K H locs ls hH hS hl
  exact lv_ldcw C.1 C.2.1 C.2.2.2.2.1 (TTs C hc) hd (k q hq _ _ _ _ _ _ _ _ C K _ _ _ hH hS hl)
theorem X_ldc2 {i : Nat} {v : Int64} (hd : decode M.2.1 pc = .ok (.ldc2_w i, 3)) (hn : pc + 3 = n) (hc : Cond.constantLong M.1.cls i v ∈ TT) (k : X φ l g d M n L (.long v :: st) S R) : X φ l g d M pc L (st) S R := by
  subst hn
  intro q hq p e s m args below meth c C K H locs ls hH hS hl
  exact lv_ldc2 C.1 C.2.1 C.2.2.2.2.1 (TTs C hc) hd (k q hq _ _ _ _ _ _ _ _ C K _ _ _ hH hS hl)
theorem X_iload (j : Nat) {i : Nat} {x : Int32} (hd : decode M.2.1 pc = .ok (.iload i, 2)) (hn : pc + 2 = n) (hj : L[j]? = some (i, .int x)) (k : X φ l g d M n L (.int x :: st) S R) : X φ l g d M pc L (st) S R := by
  subst hn
  intro q hq p e s m args below meth c C K H locs ls hH hS hl
  exact lv_iload C.1 C.2.1 hd (L_at hl j hj) (k q hq _ _ _ _ _ _ _ _ C K _ _ _ hH hS hl)
theorem X_iload_n (j : Nat) {f : Fin 4} {i : Nat} {x : Int32} (hd : decode M.2.1 pc = .ok (.iload_n f, 1)) (hn : pc + 1 = n) (hi : (f : Nat) = i) (hj : L[j]? = some (i, .int x)) (k : X φ l g d M n L (.int x :: st) S R) : X φ l g d M pc L (st) S R := by
  subst hn
  intro q hq p e s m args below meth c C K H locs ls hH hS hl
  exact lv_iload_n C.1 C.2.1 hd hi (L_at hl j hj) (k q hq _ _ _ _ _ _ _ _ C K _ _ _ hH hS hl)
theorem X_lload (j : Nat) {i : Nat} {x : Int64} (hd : decode M.2.1 pc = .ok (.lload i, 2)) (hn : pc + 2 = n) (hj : L[j]? = some (i, .long x)) (k : X φ l g d M n L (.long x :: st) S R) : X φ l g d M pc L (st) S R := by
  subst hn
  intro q hq p e s m args below meth c C K H locs ls hH hS hl
  exact lv_lload C.1 C.2.1 hd (L_at hl j hj) (k q hq _ _ _ _ _ _ _ _ C K _ _ _ hH hS hl)
theorem X_lload_n (j : Nat) {f : Fin 4} {i : Nat} {x : Int64} (hd : decode M.2.1 pc = .ok (.lload_n f, 1)) (hn : pc + 1 = n) (hi : (f : Nat) = i) (hj : L[j]? = some (i, .long x)) (k : X φ l g d M n L (.long x :: st) S R) : X φ l g d M pc L (st) S R := by
  subst hn
  intro q hq p e s m args below meth c C K H locs ls hH hS hl
  exact lv_lload_n C.1 C.2.1 hd hi (L_at hl j hj) (k q hq _ _ _ _ _ _ _ _ C K _ _ _ hH hS hl)
theorem X_aload (j : Nat) {i : Nat} {x : Nat} (hd : decode M.2.1 pc = .ok (.aload i, 2)) (hn : pc + 2 = n) (hj : L[j]? = some (i, .ref x)) (k : X φ l g d M n L (.ref x :: st) S R) : X φ l g d M pc L (st) S R := by
  subst hn
  intro q hq p e s m args below meth c C K H locs ls hH hS hl
  exact lv_aload C.1 C.2.1 hd (L_at hl j hj) (k q hq _ _ _ _ _ _ _ _ C K _ _ _ hH hS hl)
theorem X_aload_n (j : Nat) {f : Fin 4} {i : Nat} {x : Nat} (hd : decode M.2.1 pc = .ok (.aload_n f, 1)) (hn : pc + 1 = n) (hi : (f : Nat) = i) (hj : L[j]? = some (i, .ref x)) (k : X φ l g d M n L (.ref x :: st) S R) : X φ l g d M pc L (st) S R := by
  subst hn
  intro q hq p e s m args below meth c C K H locs ls hH hS hl
  exact lv_aload_n C.1 C.2.1 hd hi (L_at hl j hj) (k q hq _ _ _ _ _ _ _ _ C K _ _ _ hH hS hl)
theorem X_istore {i : Nat} {x : Int32} (hd : decode M.2.1 pc = .ok (.istore i, 2)) (hn : pc + 2 = n) (hlt : i < M.2.2.1) (hL : (i, Value.int x) :: L.filter (fun q => !(q.1 == i) && !(q.1 + 1 == i && q.2.category == 2)) = L1) (k : X φ l g d M n L1 (st) S R) : X φ l g d M pc L (.int x :: st) S R := by
  subst hn
  intro q hq p e s m args below meth c C K H locs ls hH hS hl
  exact lv_istore C.1 C.2.1 hd hl hlt (L_f1 g i (.int x) L) (fun ls hl => k q hq _ _ _ _ _ _ _ _ C K _ _ _ hH hS (by rw [← hL]; exact hl))
theorem X_istore_n {i : Nat} {x : Int32} {f : Fin 4} (hd : decode M.2.1 pc = .ok (.istore_n f, 1)) (hn : pc + 1 = n) (hi : (f : Nat) = i) (hlt : i < M.2.2.1) (hL : (i, Value.int x) :: L.filter (fun q => !(q.1 == i) && !(q.1 + 1 == i && q.2.category == 2)) = L1) (k : X φ l g d M n L1 (st) S R) : X φ l g d M pc L (.int x :: st) S R := by
  subst hn
  intro q hq p e s m args below meth c C K H locs ls hH hS hl
  exact lv_istore_n C.1 C.2.1 hd hi hl hlt (L_f1 g i (.int x) L) (fun ls hl => k q hq _ _ _ _ _ _ _ _ C K _ _ _ hH hS (by rw [← hL]; exact hl))
theorem X_astore {i : Nat} {x : Nat} (hd : decode M.2.1 pc = .ok (.astore i, 2)) (hn : pc + 2 = n) (hlt : i < M.2.2.1) (hL : (i, Value.ref x) :: L.filter (fun q => !(q.1 == i) && !(q.1 + 1 == i && q.2.category == 2)) = L1) (k : X φ l g d M n L1 (st) S R) : X φ l g d M pc L (.ref x :: st) S R := by
  subst hn
  intro q hq p e s m args below meth c C K H locs ls hH hS hl
  exact lv_astore C.1 C.2.1 hd hl hlt (L_f1 g i (.ref x) L) (fun ls hl => k q hq _ _ _ _ _ _ _ _ C K _ _ _ hH hS (by rw [← hL]; exact hl))
theorem X_astore_n {i : Nat} {x : Nat} {f : Fin 4} (hd : decode M.2.1 pc = .ok (.astore_n f, 1)) (hn : pc + 1 = n) (hi : (f : Nat) = i) (hlt : i < M.2.2.1) (hL : (i, Value.ref x) :: L.filter (fun q => !(q.1 == i) && !(q.1 + 1 == i && q.2.category == 2)) = L1) (k : X φ l g d M n L1 (st) S R) : X φ l g d M pc L (.ref x :: st) S R := by
  subst hn
  intro q hq p e s m args below meth c C K H locs ls hH hS hl
  exact lv_astore_n C.1 C.2.1 hd hi hl hlt (L_f1 g i (.ref x) L) (fun ls hl => k q hq _ _ _ _ _ _ _ _ C K _ _ _ hH hS (by rw [← hL]; exact hl))
theorem X_lstore {i : Nat} {x : Int64} (hd : decode M.2.1 pc = .ok (.lstore i, 2)) (hn : pc + 2 = n) (hlt : i + 1 < M.2.2.1) (hL : (i, Value.long x) :: L.filter (fun q => !(q.1 == i) && (!(q.1 == i + 1) && !(q.1 + 1 == i && q.2.category == 2))) = L1) (k : X φ l g d M n L1 (st) S R) : X φ l g d M pc L (.long x :: st) S R := by
  subst hn
  intro q hq p e s m args below meth c C K H locs ls hH hS hl
  exact lv_lstore C.1 C.2.1 hd hl hlt (L_f2 g i (.long x) L) (fun ls hl => k q hq _ _ _ _ _ _ _ _ C K _ _ _ hH hS (by rw [← hL]; exact hl))
theorem X_lstore_n {i : Nat} {x : Int64} {f : Fin 4} (hd : decode M.2.1 pc = .ok (.lstore_n f, 1)) (hn : pc + 1 = n) (hi : (f : Nat) = i) (hlt : i + 1 < M.2.2.1) (hL : (i, Value.long x) :: L.filter (fun q => !(q.1 == i) && (!(q.1 == i + 1) && !(q.1 + 1 == i && q.2.category == 2))) = L1) (k : X φ l g d M n L1 (st) S R) : X φ l g d M pc L (.long x :: st) S R := by
  subst hn
  intro q hq p e s m args below meth c C K H locs ls hH hS hl
  exact lv_lstore_n C.1 C.2.1 hd hi hl hlt (L_f2 g i (.long x) L) (fun ls hl => k q hq _ _ _ _ _ _ _ _ C K _ _ _ hH hS (by rw [← hL]; exact hl))
theorem X_iinc (j : Nat) {i : Nat} {z : Int} {x v : Int32} (hd : decode M.2.1 pc = .ok (.iinc i z, 3)) (hn : pc + 3 = n) (hj : L[j]? = some (i, .int x)) (hv : x + Int32.ofInt z = v) (hlt : i < M.2.2.1) (hL : (i, Value.int v) :: L.filter (fun q => !(q.1 == i) && !(q.1 + 1 == i && q.2.category == 2)) = L1) (k : X φ l g d M n L1 (st) S R) : X φ l g d M pc L (st) S R := by
  subst hn
  intro q hq p e s m args below meth c C K H locs ls hH hS hl
  exact lv_iinc C.1 C.2.1 hd hl (k := j) (by rw [List.getElem?_map, hj]; rfl) hv hlt (L_f1 g i (.int v) L) (fun ls hl => k q hq _ _ _ _ _ _ _ _ C K _ _ _ hH hS (by rw [← hL]; exact hl))
theorem X_iadd {x y : Int32} (hd : decode M.2.1 pc = .ok (.iadd, 1)) (hn : pc + 1 = n) (k : X φ l g d M n L (.int (x + y) :: st) S R) : X φ l g d M pc L (.int y :: .int x :: st) S R := by
  subst hn
  intro q hq p e s m args below meth c C K H locs ls hH hS hl
  exact lv_iadd C.1 C.2.1 hd (k q hq _ _ _ _ _ _ _ _ C K _ _ _ hH hS hl)
theorem X_isub {x y : Int32} (hd : decode M.2.1 pc = .ok (.isub, 1)) (hn : pc + 1 = n) (k : X φ l g d M n L (.int (x - y) :: st) S R) : X φ l g d M pc L (.int y :: .int x :: st) S R := by
  subst hn
  intro q hq p e s m args below meth c C K H locs ls hH hS hl
  exact lv_isub C.1 C.2.1 hd (k q hq _ _ _ _ _ _ _ _ C K _ _ _ hH hS hl)
theorem X_imul {x y : Int32} (hd : decode M.2.1 pc = .ok (.imul, 1)) (hn : pc + 1 = n) (k : X φ l g d M n L (.int (x * y) :: st) S R) : X φ l g d M pc L (.int y :: .int x :: st) S R := by
  subst hn
  intro q hq p e s m args below meth c C K H locs ls hH hS hl
  exact lv_imul C.1 C.2.1 hd (k q hq _ _ _ _ _ _ _ _ C K _ _ _ hH hS hl)
theorem X_iand {x y : Int32} (hd : decode M.2.1 pc = .ok (.iand, 1)) (hn : pc + 1 = n) (k : X φ l g d M n L (.int (x &&& y) :: st) S R) : X φ l g d M pc L (.int y :: .int x :: st) S R := by
  subst hn
  intro q hq p e s m args below meth c C K H locs ls hH hS hl
  exact lv_iand C.1 C.2.1 hd (k q hq _ _ _ _ _ _ _ _ C K _ _ _ hH hS hl)
theorem X_ior {x y : Int32} (hd : decode M.2.1 pc = .ok (.ior, 1)) (hn : pc + 1 = n) (k : X φ l g d M n L (.int (x ||| y) :: st) S R) : X φ l g d M pc L (.int y :: .int x :: st) S R := by
  subst hn
  intro q hq p e s m args below meth c C K H locs ls hH hS hl
  exact lv_ior C.1 C.2.1 hd (k q hq _ _ _ _ _ _ _ _ C K _ _ _ hH hS hl)
theorem X_ixor {x y : Int32} (hd : decode M.2.1 pc = .ok (.ixor, 1)) (hn : pc + 1 = n) (k : X φ l g d M n L (.int (x ^^^ y) :: st) S R) : X φ l g d M pc L (.int y :: .int x :: st) S R := by
  subst hn
  intro q hq p e s m args below meth c C K H locs ls hH hS hl
  exact lv_ixor C.1 C.2.1 hd (k q hq _ _ _ _ _ _ _ _ C K _ _ _ hH hS hl)
theorem X_ladd {x y : Int64} (hd : decode M.2.1 pc = .ok (.ladd, 1)) (hn : pc + 1 = n) (k : X φ l g d M n L (.long (x + y) :: st) S R) : X φ l g d M pc L (.long y :: .long x :: st) S R := by
  subst hn
  intro q hq p e s m args below meth c C K H locs ls hH hS hl
  exact lv_ladd C.1 C.2.1 hd (k q hq _ _ _ _ _ _ _ _ C K _ _ _ hH hS hl)
theorem X_lsub {x y : Int64} (hd : decode M.2.1 pc = .ok (.lsub, 1)) (hn : pc + 1 = n) (k : X φ l g d M n L (.long (x - y) :: st) S R) : X φ l g d M pc L (.long y :: .long x :: st) S R := by
  subst hn
  intro q hq p e s m args below meth c C K H locs ls hH hS hl
  exact lv_lsub C.1 C.2.1 hd (k q hq _ _ _ _ _ _ _ _ C K _ _ _ hH hS hl)
theorem X_lmul {x y : Int64} (hd : decode M.2.1 pc = .ok (.lmul, 1)) (hn : pc + 1 = n) (k : X φ l g d M n L (.long (x * y) :: st) S R) : X φ l g d M pc L (.long y :: .long x :: st) S R := by
  subst hn
  intro q hq p e s m args below meth c C K H locs ls hH hS hl
  exact lv_lmul C.1 C.2.1 hd (k q hq _ _ _ _ _ _ _ _ C K _ _ _ hH hS hl)
theorem X_land {x y : Int64} (hd : decode M.2.1 pc = .ok (.land, 1)) (hn : pc + 1 = n) (k : X φ l g d M n L (.long (x &&& y) :: st) S R) : X φ l g d M pc L (.long y :: .long x :: st) S R := by
  subst hn
  intro q hq p e s m args below meth c C K H locs ls hH hS hl
  exact lv_land C.1 C.2.1 hd (k q hq _ _ _ _ _ _ _ _ C K _ _ _ hH hS hl)
theorem X_lor {x y : Int64} (hd : decode M.2.1 pc = .ok (.lor, 1)) (hn : pc + 1 = n) (k : X φ l g d M n L (.long (x ||| y) :: st) S R) : X φ l g d M pc L (.long y :: .long x :: st) S R := by
  subst hn
  intro q hq p e s m args below meth c C K H locs ls hH hS hl
  exact lv_lor C.1 C.2.1 hd (k q hq _ _ _ _ _ _ _ _ C K _ _ _ hH hS hl)
theorem X_lxor {x y : Int64} (hd : decode M.2.1 pc = .ok (.lxor, 1)) (hn : pc + 1 = n) (k : X φ l g d M n L (.long (x ^^^ y) :: st) S R) : X φ l g d M pc L (.long y :: .long x :: st) S R := by
  subst hn
  intro q hq p e s m args below meth c C K H locs ls hH hS hl
  exact lv_lxor C.1 C.2.1 hd (k q hq _ _ _ _ _ _ _ _ C K _ _ _ hH hS hl)
theorem X_ineg {x : Int32} (hd : decode M.2.1 pc = .ok (.ineg, 1)) (hn : pc + 1 = n) (k : X φ l g d M n L (.int (0 - x) :: st) S R) : X φ l g d M pc L (.int x :: st) S R := by
  subst hn
  intro q hq p e s m args below meth c C K H locs ls hH hS hl
  exact lv_ineg C.1 C.2.1 hd (k q hq _ _ _ _ _ _ _ _ C K _ _ _ hH hS hl)
theorem X_iushr {x y : Int32} (hd : decode M.2.1 pc = .ok (.iushr, 1)) (hn : pc + 1 = n) (k : X φ l g d M n L (.int (ushr32 x y) :: st) S R) : X φ l g d M pc L (.int y :: .int x :: st) S R := by
  subst hn
  intro q hq p e s m args below meth c C K H locs ls hH hS hl
  exact lv_iushr C.1 C.2.1 hd rfl (k q hq _ _ _ _ _ _ _ _ C K _ _ _ hH hS hl)
theorem X_ishl {x y : Int32} (hd : decode M.2.1 pc = .ok (.ishl, 1)) (hn : pc + 1 = n) (k : X φ l g d M n L (.int (shl32 x y) :: st) S R) : X φ l g d M pc L (.int y :: .int x :: st) S R := by
  subst hn
  intro q hq p e s m args below meth c C K H locs ls hH hS hl
  exact lv_ishl C.1 C.2.1 hd (k q hq _ _ _ _ _ _ _ _ C K _ _ _ hH hS hl)
theorem X_ishr {x y : Int32} (hd : decode M.2.1 pc = .ok (.ishr, 1)) (hn : pc + 1 = n) (k : X φ l g d M n L (.int (shr32 x y) :: st) S R) : X φ l g d M pc L (.int y :: .int x :: st) S R := by
  subst hn
  intro q hq p e s m args below meth c C K H locs ls hH hS hl
  exact lv_ishr C.1 C.2.1 hd (k q hq _ _ _ _ _ _ _ _ C K _ _ _ hH hS hl)
theorem X_lushr {x : Int64} {y : Int32} (hd : decode M.2.1 pc = .ok (.lushr, 1)) (hn : pc + 1 = n) (k : X φ l g d M n L (.long (ushr64 x y) :: st) S R) : X φ l g d M pc L (.int y :: .long x :: st) S R := by
  subst hn
  intro q hq p e s m args below meth c C K H locs ls hH hS hl
  exact lv_lushr C.1 C.2.1 hd rfl (k q hq _ _ _ _ _ _ _ _ C K _ _ _ hH hS hl)
theorem X_lshl {x : Int64} {y : Int32} (hd : decode M.2.1 pc = .ok (.lshl, 1)) (hn : pc + 1 = n) (k : X φ l g d M n L (.long (shl64 x y) :: st) S R) : X φ l g d M pc L (.int y :: .long x :: st) S R := by
  subst hn
  intro q hq p e s m args below meth c C K H locs ls hH hS hl
  exact lv_lshl C.1 C.2.1 hd rfl (k q hq _ _ _ _ _ _ _ _ C K _ _ _ hH hS hl)
theorem X_i2l {x : Int32} (hd : decode M.2.1 pc = .ok (.i2l, 1)) (hn : pc + 1 = n) (k : X φ l g d M n L (.long x.toInt64 :: st) S R) : X φ l g d M pc L (.int x :: st) S R := by
  subst hn
  intro q hq p e s m args below meth c C K H locs ls hH hS hl
  exact lv_i2l C.1 C.2.1 hd rfl (k q hq _ _ _ _ _ _ _ _ C K _ _ _ hH hS hl)
theorem X_l2i {x : Int64} (hd : decode M.2.1 pc = .ok (.l2i, 1)) (hn : pc + 1 = n) (k : X φ l g d M n L (.int x.toInt32 :: st) S R) : X φ l g d M pc L (.long x :: st) S R := by
  subst hn
  intro q hq p e s m args below meth c C K H locs ls hH hS hl
  exact lv_l2i C.1 C.2.1 hd rfl (k q hq _ _ _ _ _ _ _ _ C K _ _ _ hH hS hl)
theorem X_lcmp {x y : Int64} (hd : decode M.2.1 pc = .ok (.lcmp, 1)) (hn : pc + 1 = n) (k : X φ l g d M n L (.int (lg_cmp x y) :: st) S R) : X φ l g d M pc L (.long y :: .long x :: st) S R := by
  subst hn
  intro q hq p e s m args below meth c C K H locs ls hH hS hl
  exact W.lcmp C.1 C.2.1 hd (k q hq _ _ _ _ _ _ _ _ C K _ _ _ hH hS hl)
theorem X_idiv' {x y : Int32} (hd : decode M.2.1 pc = .ok (.idiv, 1)) (hn : pc + 1 = n) (h0 : ¬ y = 0) (k : X φ l g d M n L (.int (x / y) :: st) S R) : X φ l g d M pc L (.int y :: .int x :: st) S R := by
  subst hn
  intro q hq p e s m args below meth c C K H locs ls hH hS hl
  exact lv_idiv C.1 C.2.1 hd h0 (k q hq _ _ _ _ _ _ _ _ C K _ _ _ hH hS hl)
theorem X_idiv {x y : Int32} (hd : decode M.2.1 pc = .ok (.idiv, 1)) (hn : pc + 1 = n) (k : ¬ y = 0 → X φ l g d M n L (.int (x / y) :: st) S R) : X φ l g d M pc L (.int y :: .int x :: st) S (if y = 0 then none else R) := by
  by_cases h : y = 0
  · rw [if_pos h]; intro q hq; cases hq
  · rw [if_neg h]; exact X_idiv' hd hn h (k h)
theorem X_irem' {x y : Int32} (hd : decode M.2.1 pc = .ok (.irem, 1)) (hn : pc + 1 = n) (h0 : ¬ y = 0) (k : X φ l g d M n L (.int (rem32 x y) :: st) S R) : X φ l g d M pc L (.int y :: .int x :: st) S R := by
  subst hn
  intro q hq p e s m args below meth c C K H locs ls hH hS hl
  exact lv_irem C.1 C.2.1 hd h0 (k q hq _ _ _ _ _ _ _ _ C K _ _ _ hH hS hl)
theorem X_irem {x y : Int32} (hd : decode M.2.1 pc = .ok (.irem, 1)) (hn : pc + 1 = n) (k : ¬ y = 0 → X φ l g d M n L (.int (rem32 x y) :: st) S R) : X φ l g d M pc L (.int y :: .int x :: st) S (if y = 0 then none else R) := by
  by_cases h : y = 0
  · rw [if_pos h]; intro q hq; cases hq
  · rw [if_neg h]; exact X_irem' hd hn h (k h)
theorem X_ldiv' {x y : Int64} (hd : decode M.2.1 pc = .ok (.ldiv, 1)) (hn : pc + 1 = n) (h0 : ¬ y = 0) (k : X φ l g d M n L (.long (x / y) :: st) S R) : X φ l g d M pc L (.long y :: .long x :: st) S R := by
  subst hn
  intro q hq p e s m args below meth c C K H locs ls hH hS hl
  exact lv_ldiv C.1 C.2.1 hd h0 (k q hq _ _ _ _ _ _ _ _ C K _ _ _ hH hS hl)
theorem X_ldiv {x y : Int64} (hd : decode M.2.1 pc = .ok (.ldiv, 1)) (hn : pc + 1 = n) (k : ¬ y = 0 → X φ l g d M n L (.long (x / y) :: st) S R) : X φ l g d M pc L (.long y :: .long x :: st) S (if y = 0 then none else R) := by
  by_cases h : y = 0
  · rw [if_pos h]; intro q hq; cases hq
  · rw [if_neg h]; exact X_ldiv' hd hn h (k h)
theorem X_lrem' {x y : Int64} (hd : decode M.2.1 pc = .ok (.lrem, 1)) (hn : pc + 1 = n) (h0 : ¬ y = 0) (k : X φ l g d M n L (.long (rem64 x y) :: st) S R) : X φ l g d M pc L (.long y :: .long x :: st) S R := by
  subst hn
  intro q hq p e s m args below meth c C K H locs ls hH hS hl
  exact lv_lrem C.1 C.2.1 hd h0 (k q hq _ _ _ _ _ _ _ _ C K _ _ _ hH hS hl)
theorem X_lrem {x y : Int64} (hd : decode M.2.1 pc = .ok (.lrem, 1)) (hn : pc + 1 = n) (k : ¬ y = 0 → X φ l g d M n L (.long (rem64 x y) :: st) S R) : X φ l g d M pc L (.long y :: .long x :: st) S (if y = 0 then none else R) := by
  by_cases h : y = 0
  · rw [if_pos h]; intro q hq; cases hq
  · rw [if_neg h]; exact X_lrem' hd hn h (k h)
theorem X_dup {v : Value} (hd : decode M.2.1 pc = .ok (.dup, 1)) (hn : pc + 1 = n) (hv : v.category = 1) (k : X φ l g d M n L (v :: v :: st) S R) : X φ l g d M pc L (v :: st) S R := by
  subst hn
  intro q hq p e s m args below meth c C K H locs ls hH hS hl
  exact lv_dup C.1 C.2.1 hd (by rw [cv_cat]; exact hv) (k q hq _ _ _ _ _ _ _ _ C K _ _ _ hH hS hl)
theorem X_dup2 {v w : Value} (hd : decode M.2.1 pc = .ok (.dup2, 1)) (hn : pc + 1 = n) (hv : v.category = 1) (hw : w.category = 1) (k : X φ l g d M n L (v :: w :: v :: w :: st) S R) : X φ l g d M pc L (v :: w :: st) S R := by
  subst hn
  intro q hq p e s m args below meth c C K H locs ls hH hS hl
  exact lv_dup2_11 C.1 C.2.1 hd (by rw [cv_cat]; exact hv) (by rw [cv_cat]; exact hw) (k q hq _ _ _ _ _ _ _ _ C K _ _ _ hH hS hl)
theorem X_pop {v : Value} (hd : decode M.2.1 pc = .ok (.pop, 1)) (hn : pc + 1 = n) (hv : v.category = 1) (k : X φ l g d M n L st S R) : X φ l g d M pc L (v :: st) S R := by
  subst hn
  intro q hq p e s m args below meth c C K H locs ls hH hS hl
  exact lv_pop C.1 C.2.1 hd (by rw [cv_cat]; exact hv) (k q hq _ _ _ _ _ _ _ _ C K _ _ _ hH hS hl)
theorem X_ite {c : Prop} {hdc : Decidable c} (k1 : c → X φ l g d M pc L st S R1) (k2 : ¬ c → X φ l g d M pc L st S R2) : X φ l g d M pc L st S (@ite _ c hdc R1 R2) := by
  by_cases h : c
  · rw [if_pos h]; exact k1 h
  · rw [if_neg h]; exact k2 h
theorem X_none : X φ l g d M pc L st S none := by
  intro q hq; cases hq
theorem X_goto {off : Int} (hd : decode M.2.1 pc = .ok (.goto off, 3)) (ht : (pc : Int) + off = (tgt : Int)) (k : X φ l g d M tgt L st S R) : X φ l g d M pc L st S R := by
  intro q hq p e s m args below meth c C K H locs ls hH hS hl
  exact lv_goto C.1 C.2.1 hd ht (k q hq _ _ _ _ _ _ _ _ C K _ _ _ hH hS hl)
theorem X_if_eq {x : Int32} {off : Int} (hd : decode M.2.1 pc = .ok (.ifCond .eq off, 3)) (hn : pc + 3 = n) (ht : (pc : Int) + off = (tgt : Int)) (k1 : x = 0 → X φ l g d M tgt L st S R1) (k2 : ¬ x = 0 → X φ l g d M n L st S R2) : X φ l g d M pc L (.int x :: st) S (if x = 0 then R1 else R2) := by
  subst hn
  by_cases h : x = 0
  · rw [if_pos h]
    intro q hq p e s m args below meth c C K H locs ls hH hS hl
    exact lv_if_eq C.1 C.2.1 hd ht (fun h' => k1 h q hq _ _ _ _ _ _ _ _ C K _ _ _ hH hS hl) (fun h' => absurd h h')
  · rw [if_neg h]
    intro q hq p e s m args below meth c C K H locs ls hH hS hl
    exact lv_if_eq C.1 C.2.1 hd ht (fun h' => absurd h' h) (fun h' => k2 h q hq _ _ _ _ _ _ _ _ C K _ _ _ hH hS hl)
theorem X_if_ne {x : Int32} {off : Int} (hd : decode M.2.1 pc = .ok (.ifCond .ne off, 3)) (hn : pc + 3 = n) (ht : (pc : Int) + off = (tgt : Int)) (k1 : x = 0 → X φ l g d M n L st S R1) (k2 : ¬ x = 0 → X φ l g d M tgt L st S R2) : X φ l g d M pc L (.int x :: st) S (if x = 0 then R1 else R2) := by
  subst hn
  by_cases h : x = 0
  · rw [if_pos h]
    intro q hq p e s m args below meth c C K H locs ls hH hS hl
    exact lv_if_ne C.1 C.2.1 hd ht (fun h' => absurd h h') (fun h' => k1 h q hq _ _ _ _ _ _ _ _ C K _ _ _ hH hS hl)
  · rw [if_neg h]
    intro q hq p e s m args below meth c C K H locs ls hH hS hl
    exact lv_if_ne C.1 C.2.1 hd ht (fun h' => k2 h q hq _ _ _ _ _ _ _ _ C K _ _ _ hH hS hl) (fun h' => absurd h' h)
theorem X_if_lt {x : Int32} {off : Int} (hd : decode M.2.1 pc = .ok (.ifCond .lt off, 3)) (hn : pc + 3 = n) (ht : (pc : Int) + off = (tgt : Int)) (k1 : x < 0 → X φ l g d M tgt L st S R1) (k2 : ¬ x < 0 → X φ l g d M n L st S R2) : X φ l g d M pc L (.int x :: st) S (if x < 0 then R1 else R2) := by
  subst hn
  by_cases h : x < 0
  · rw [if_pos h]
    intro q hq p e s m args below meth c C K H locs ls hH hS hl
    exact lv_if_lt C.1 C.2.1 hd ht (fun h' => k1 h q hq _ _ _ _ _ _ _ _ C K _ _ _ hH hS hl) (fun h' => absurd h h')
  · rw [if_neg h]
    intro q hq p e s m args below meth c C K H locs ls hH hS hl
    exact lv_if_lt C.1 C.2.1 hd ht (fun h' => absurd h' h) (fun h' => k2 h q hq _ _ _ _ _ _ _ _ C K _ _ _ hH hS hl)
theorem X_if_ge {x : Int32} {off : Int} (hd : decode M.2.1 pc = .ok (.ifCond .ge off, 3)) (hn : pc + 3 = n) (ht : (pc : Int) + off = (tgt : Int)) (k1 : 0 ≤ x → X φ l g d M tgt L st S R1) (k2 : ¬ 0 ≤ x → X φ l g d M n L st S R2) : X φ l g d M pc L (.int x :: st) S (if 0 ≤ x then R1 else R2) := by
  subst hn
  by_cases h : 0 ≤ x
  · rw [if_pos h]
    intro q hq p e s m args below meth c C K H locs ls hH hS hl
    exact lv_if_ge C.1 C.2.1 hd ht (fun h' => k1 h q hq _ _ _ _ _ _ _ _ C K _ _ _ hH hS hl) (fun h' => absurd h h')
  · rw [if_neg h]
    intro q hq p e s m args below meth c C K H locs ls hH hS hl
    exact lv_if_ge C.1 C.2.1 hd ht (fun h' => absurd h' h) (fun h' => k2 h q hq _ _ _ _ _ _ _ _ C K _ _ _ hH hS hl)
theorem X_if_gt {x : Int32} {off : Int} (hd : decode M.2.1 pc = .ok (.ifCond .gt off, 3)) (hn : pc + 3 = n) (ht : (pc : Int) + off = (tgt : Int)) (k1 : 0 < x → X φ l g d M tgt L st S R1) (k2 : ¬ 0 < x → X φ l g d M n L st S R2) : X φ l g d M pc L (.int x :: st) S (if 0 < x then R1 else R2) := by
  subst hn
  by_cases h : 0 < x
  · rw [if_pos h]
    intro q hq p e s m args below meth c C K H locs ls hH hS hl
    exact lv_if_gt C.1 C.2.1 hd ht (fun h' => k1 h q hq _ _ _ _ _ _ _ _ C K _ _ _ hH hS hl) (fun h' => absurd h h')
  · rw [if_neg h]
    intro q hq p e s m args below meth c C K H locs ls hH hS hl
    exact lv_if_gt C.1 C.2.1 hd ht (fun h' => absurd h' h) (fun h' => k2 h q hq _ _ _ _ _ _ _ _ C K _ _ _ hH hS hl)
theorem X_if_le {x : Int32} {off : Int} (hd : decode M.2.1 pc = .ok (.ifCond .le off, 3)) (hn : pc + 3 = n) (ht : (pc : Int) + off = (tgt : Int)) (k1 : x ≤ 0 → X φ l g d M tgt L st S R1) (k2 : ¬ x ≤ 0 → X φ l g d M n L st S R2) : X φ l g d M pc L (.int x :: st) S (if x ≤ 0 then R1 else R2) := by
  subst hn
  by_cases h : x ≤ 0
  · rw [if_pos h]
    intro q hq p e s m args below meth c C K H locs ls hH hS hl
    exact lv_if_le C.1 C.2.1 hd ht (fun h' => k1 h q hq _ _ _ _ _ _ _ _ C K _ _ _ hH hS hl) (fun h' => absurd h h')
  · rw [if_neg h]
    intro q hq p e s m args below meth c C K H locs ls hH hS hl
    exact lv_if_le C.1 C.2.1 hd ht (fun h' => absurd h' h) (fun h' => k2 h q hq _ _ _ _ _ _ _ _ C K _ _ _ hH hS hl)
theorem X_ic_eq {x y : Int32} {off : Int} (hd : decode M.2.1 pc = .ok (.if_icmp .eq off, 3)) (hn : pc + 3 = n) (ht : (pc : Int) + off = (tgt : Int)) (k1 : x = y → X φ l g d M tgt L st S R1) (k2 : ¬ x = y → X φ l g d M n L st S R2) : X φ l g d M pc L (.int y :: .int x :: st) S (if x = y then R1 else R2) := by
  subst hn
  by_cases h : x = y
  · rw [if_pos h]
    intro q hq p e s m args below meth c C K H locs ls hH hS hl
    exact lv_icmp_eq C.1 C.2.1 hd ht (fun h' => k1 h q hq _ _ _ _ _ _ _ _ C K _ _ _ hH hS hl) (fun h' => absurd h h')
  · rw [if_neg h]
    intro q hq p e s m args below meth c C K H locs ls hH hS hl
    exact lv_icmp_eq C.1 C.2.1 hd ht (fun h' => absurd h' h) (fun h' => k2 h q hq _ _ _ _ _ _ _ _ C K _ _ _ hH hS hl)
theorem X_ic_ne {x y : Int32} {off : Int} (hd : decode M.2.1 pc = .ok (.if_icmp .ne off, 3)) (hn : pc + 3 = n) (ht : (pc : Int) + off = (tgt : Int)) (k1 : x = y → X φ l g d M n L st S R1) (k2 : ¬ x = y → X φ l g d M tgt L st S R2) : X φ l g d M pc L (.int y :: .int x :: st) S (if x = y then R1 else R2) := by
  subst hn
  by_cases h : x = y
  · rw [if_pos h]
    intro q hq p e s m args below meth c C K H locs ls hH hS hl
    exact lv_icmp_ne C.1 C.2.1 hd ht (fun h' => absurd h h') (fun h' => k1 h q hq _ _ _ _ _ _ _ _ C K _ _ _ hH hS hl)
  · rw [if_neg h]
    intro q hq p e s m args below meth c C K H locs ls hH hS hl
    exact lv_icmp_ne C.1 C.2.1 hd ht (fun h' => k2 h q hq _ _ _ _ _ _ _ _ C K _ _ _ hH hS hl) (fun h' => absurd h' h)
theorem X_ic_lt {x y : Int32} {off : Int} (hd : decode M.2.1 pc = .ok (.if_icmp .lt off, 3)) (hn : pc + 3 = n) (ht : (pc : Int) + off = (tgt : Int)) (k1 : x < y → X φ l g d M tgt L st S R1) (k2 : ¬ x < y → X φ l g d M n L st S R2) : X φ l g d M pc L (.int y :: .int x :: st) S (if x < y then R1 else R2) := by
  subst hn
  by_cases h : x < y
  · rw [if_pos h]
    intro q hq p e s m args below meth c C K H locs ls hH hS hl
    exact lv_icmp_lt C.1 C.2.1 hd ht (fun h' => k1 h q hq _ _ _ _ _ _ _ _ C K _ _ _ hH hS hl) (fun h' => absurd h h')
  · rw [if_neg h]
    intro q hq p e s m args below meth c C K H locs ls hH hS hl
    exact lv_icmp_lt C.1 C.2.1 hd ht (fun h' => absurd h' h) (fun h' => k2 h q hq _ _ _ _ _ _ _ _ C K _ _ _ hH hS hl)
theorem X_ic_ge {x y : Int32} {off : Int} (hd : decode M.2.1 pc = .ok (.if_icmp .ge off, 3)) (hn : pc + 3 = n) (ht : (pc : Int) + off = (tgt : Int)) (k1 : y ≤ x → X φ l g d M tgt L st S R1) (k2 : ¬ y ≤ x → X φ l g d M n L st S R2) : X φ l g d M pc L (.int y :: .int x :: st) S (if y ≤ x then R1 else R2) := by
  subst hn
  by_cases h : y ≤ x
  · rw [if_pos h]
    intro q hq p e s m args below meth c C K H locs ls hH hS hl
    exact lv_icmp_ge C.1 C.2.1 hd ht (fun h' => k1 h q hq _ _ _ _ _ _ _ _ C K _ _ _ hH hS hl) (fun h' => absurd h h')
  · rw [if_neg h]
    intro q hq p e s m args below meth c C K H locs ls hH hS hl
    exact lv_icmp_ge C.1 C.2.1 hd ht (fun h' => absurd h' h) (fun h' => k2 h q hq _ _ _ _ _ _ _ _ C K _ _ _ hH hS hl)
theorem X_ic_gt {x y : Int32} {off : Int} (hd : decode M.2.1 pc = .ok (.if_icmp .gt off, 3)) (hn : pc + 3 = n) (ht : (pc : Int) + off = (tgt : Int)) (k1 : y < x → X φ l g d M tgt L st S R1) (k2 : ¬ y < x → X φ l g d M n L st S R2) : X φ l g d M pc L (.int y :: .int x :: st) S (if y < x then R1 else R2) := by
  subst hn
  by_cases h : y < x
  · rw [if_pos h]
    intro q hq p e s m args below meth c C K H locs ls hH hS hl
    exact lv_icmp_gt C.1 C.2.1 hd ht (fun h' => k1 h q hq _ _ _ _ _ _ _ _ C K _ _ _ hH hS hl) (fun h' => absurd h h')
  · rw [if_neg h]
    intro q hq p e s m args below meth c C K H locs ls hH hS hl
    exact lv_icmp_gt C.1 C.2.1 hd ht (fun h' => absurd h' h) (fun h' => k2 h q hq _ _ _ _ _ _ _ _ C K _ _ _ hH hS hl)
theorem X_ic_le {x y : Int32} {off : Int} (hd : decode M.2.1 pc = .ok (.if_icmp .le off, 3)) (hn : pc + 3 = n) (ht : (pc : Int) + off = (tgt : Int)) (k1 : x ≤ y → X φ l g d M tgt L st S R1) (k2 : ¬ x ≤ y → X φ l g d M n L st S R2) : X φ l g d M pc L (.int y :: .int x :: st) S (if x ≤ y then R1 else R2) := by
  subst hn
  by_cases h : x ≤ y
  · rw [if_pos h]
    intro q hq p e s m args below meth c C K H locs ls hH hS hl
    exact lv_icmp_le C.1 C.2.1 hd ht (fun h' => k1 h q hq _ _ _ _ _ _ _ _ C K _ _ _ hH hS hl) (fun h' => absurd h h')
  · rw [if_neg h]
    intro q hq p e s m args below meth c C K H locs ls hH hS hl
    exact lv_icmp_le C.1 C.2.1 hd ht (fun h' => absurd h' h) (fun h' => k2 h q hq _ _ _ _ _ _ _ _ C K _ _ _ hH hS hl)
theorem X_bz {b : Bool} {off : Int} (hd : decode M.2.1 pc = .ok (.ifCond .eq off, 3)) (hn : pc + 3 = n) (ht : (pc : Int) + off = (tgt : Int)) (k1 : b = true → X φ l g d M n L st S R1) (k2 : b = false → X φ l g d M tgt L st S R2) : X φ l g d M pc L (.int (bi b) :: st) S (if b = true then R1 else R2) := by
  subst hn
  cases b with
  | false =>
    intro q hq p e s m args below meth c C K H locs ls hH hS hl
    exact lv_if_eq C.1 C.2.1 hd ht (fun _ => k2 rfl q hq _ _ _ _ _ _ _ _ C K _ _ _ hH hS hl) (fun h => absurd rfl h)
  | true =>
    intro q hq p e s m args below meth c C K H locs ls hH hS hl
    exact lv_if_eq C.1 C.2.1 hd ht (fun h => absurd h (by decide)) (fun _ => k1 rfl q hq _ _ _ _ _ _ _ _ C K _ _ _ hH hS hl)
theorem X_bn {b : Bool} {off : Int} (hd : decode M.2.1 pc = .ok (.ifCond .ne off, 3)) (hn : pc + 3 = n) (ht : (pc : Int) + off = (tgt : Int)) (k1 : b = true → X φ l g d M tgt L st S R1) (k2 : b = false → X φ l g d M n L st S R2) : X φ l g d M pc L (.int (bi b) :: st) S (if b = true then R1 else R2) := by
  subst hn
  cases b with
  | false =>
    intro q hq p e s m args below meth c C K H locs ls hH hS hl
    exact lv_if_ne C.1 C.2.1 hd ht (fun h => absurd rfl h) (fun _ => k2 rfl q hq _ _ _ _ _ _ _ _ C K _ _ _ hH hS hl)
  | true =>
    intro q hq p e s m args below meth c C K H locs ls hH hS hl
    exact lv_if_ne C.1 C.2.1 hd ht (fun _ => k1 rfl q hq _ _ _ _ _ _ _ _ C K _ _ _ hH hS hl) (fun h => absurd h (by decide))
theorem X_iret {x : Int32} (hr : M.2.2.2 = some .int) (hd : decode M.2.1 pc = .ok (.ireturn, 1)) : X φI l g d M pc L [.int x] S (some (x, S)) := by
  intro q hq p e s m args below meth c C K H locs ls hH hS hl
  cases hq
  exact W.iret C.1 C.2.1 (C.2.2.2.1.trans hr) (fun t ht hW => ⟨⟨rfl, by rw [ht]; exact hH⟩, hS.F ht⟩) hS.2.2 hd C.2.2.2.2.2.2
theorem X_zret {b : Bool} (hr : M.2.2.2 = some .boolean) (hd : decode M.2.1 pc = .ok (.ireturn, 1)) : X φB l g d M pc L [.int (bi b)] S (some (b, S)) := by
  intro q hq p e s m args below meth c C K H locs ls hH hS hl
  cases hq
  exact W.zret C.1 C.2.1 (C.2.2.2.1.trans hr) (by cases b <;> rfl) (fun t ht hW => ⟨⟨rfl, by rw [ht]; exact hH⟩, hS.F ht⟩) hS.2.2 hd C.2.2.2.2.2.2
theorem X_lret {x : Int64} (hr : M.2.2.2 = some .long) (hd : decode M.2.1 pc = .ok (.lreturn, 1)) : X φL l g d M pc L [.long x] S (some (x, S)) := by
  intro q hq p e s m args below meth c C K H locs ls hH hS hl
  cases hq
  exact W.lret C.1 C.2.1 (C.2.2.2.1.trans hr) (fun t ht hW => ⟨⟨rfl, by rw [ht]; exact hH⟩, hS.F ht⟩) hS.2.2 hd C.2.2.2.2.2.2
theorem X_vret (hr : M.2.2.2 = none) (hd : decode M.2.1 pc = .ok (.return_, 1)) : X φV l g d M pc L [] S (some S) := by
  intro q hq p e s m args below meth c C K H locs ls hH hS hl
  cases hq
  exact W.vret C.1 C.2.1 (C.2.2.2.1.trans hr) (fun t ht hW => ⟨⟨rfl, by rw [ht]; exact hH⟩, hS.F ht⟩) hS.2.2 hd C.2.2.2.2.2.2
variable {Cn : String} {T : u_T} {NN ci fk idx a : Nat} {tyf : Nat → FieldType}
theorem X_getI (hX : XF ci Cn T NN tyf) (hk : kd a = ci) (hfk : fk < NN) (hlk : Cond.fieldLink M.1.cls idx (T fk).1 (T fk).2.1 (T fk).2.2.1 ∈ TT) (hft : ft ci fk = 0) (hd : decode M.2.1 pc = .ok (.getfield idx, 3)) (hn : pc + 3 = n) (k : X φ l g d M n L (.int (S.1 a fk) :: st) S R) : X φ l g d M pc L (.ref a :: st) S R := by
  subst hn
  obtain ⟨h1, h2, h3, h4, -⟩ := hX
  intro q hq p e s m args below meth c C K H locs ls hH hS hl
  have hlt := kd_lt hk (by omega)
  refine va_get (D := (g.1, g.2.1)) C.1 C.2.1 (Ts := mws M) C.2.2.2.2.2.1 (fun w hw => List.mem_cons_of_mem _ (h4 w hw)) C.2.2.2.2.1 K.1 hH a (by rw [wl_at g S hlt, cellE_o hk h1]) h2 fk hfk (TTs C hlk) (fun _ h => h) (v := cv g (.int (S.1 a fk))) ?_ hd (k q hq _ _ _ _ _ _ _ _ C K _ _ _ hH hS hl)
  rw [List.getElem?_map, List.getElem?_range (by omega)]
  show some (slotV g S ci a fk) = _
  unfold slotV
  rw [hft]
  rfl
theorem X_getJ (hX : XF ci Cn T NN tyf) (hk : kd a = ci) (hfk : fk < NN) (hlk : Cond.fieldLink M.1.cls idx (T fk).1 (T fk).2.1 (T fk).2.2.1 ∈ TT) (hft : ft ci fk = 1) (hd : decode M.2.1 pc = .ok (.getfield idx, 3)) (hn : pc + 3 = n) (k : X φ l g d M n L (.long (S.2 a fk) :: st) S R) : X φ l g d M pc L (.ref a :: st) S R := by
  subst hn
  obtain ⟨h1, h2, h3, h4, -⟩ := hX
  intro q hq p e s m args below meth c C K H locs ls hH hS hl
  have hlt := kd_lt hk (by omega)
  refine va_get (D := (g.1, g.2.1)) C.1 C.2.1 (Ts := mws M) C.2.2.2.2.2.1 (fun w hw => List.mem_cons_of_mem _ (h4 w hw)) C.2.2.2.2.1 K.1 hH a (by rw [wl_at g S hlt, cellE_o hk h1]) h2 fk hfk (TTs C hlk) (fun _ h => h) (v := cv g (.long (S.2 a fk))) ?_ hd (k q hq _ _ _ _ _ _ _ _ C K _ _ _ hH hS hl)
  rw [List.getElem?_map, List.getElem?_range (by omega)]
  show some (slotV g S ci a fk) = _
  unfold slotV
  rw [hft]
  rfl
theorem X_getR (hX : XF ci Cn T NN tyf) (hk : kd a = ci) (hfk : fk < NN) (hlk : Cond.fieldLink M.1.cls idx (T fk).1 (T fk).2.1 (T fk).2.2.1 ∈ TT) (hft : ft ci fk = 2) (hd : decode M.2.1 pc = .ok (.getfield idx, 3)) (hn : pc + 3 = n) (k : X φ l g d M n L (.ref (rf a fk) :: st) S R) : X φ l g d M pc L (.ref a :: st) S R := by
  subst hn
  obtain ⟨h1, h2, h3, h4, -⟩ := hX
  intro q hq p e s m args below meth c C K H locs ls hH hS hl
  have hlt := kd_lt hk (by omega)
  refine va_get (D := (g.1, g.2.1)) C.1 C.2.1 (Ts := mws M) C.2.2.2.2.2.1 (fun w hw => List.mem_cons_of_mem _ (h4 w hw)) C.2.2.2.2.1 K.1 hH a (by rw [wl_at g S hlt, cellE_o hk h1]) h2 fk hfk (TTs C hlk) (fun _ h => h) (v := cv g (.ref (rf a fk))) ?_ hd (k q hq _ _ _ _ _ _ _ _ C K _ _ _ hH hS hl)
  rw [List.getElem?_map, List.getElem?_range (by omega)]
  show some (slotV g S ci a fk) = _
  unfold slotV
  rw [hft]
  rfl
theorem X_putI {v : Int32} (hX : XF ci Cn T NN tyf) (hk : kd a = ci) (hfk : fk < NN) (hlk : Cond.fieldLink M.1.cls idx (T fk).1 (T fk).2.1 (T fk).2.2.1 ∈ TT) (hft : ft ci fk = 0) (hfin : (T fk).2.2.2 = false) (hfit : tyf fk = .int ∨ v = 0 ∨ v = 1) (hd : decode M.2.1 pc = .ok (.putfield idx, 3)) (hn : pc + 3 = n) (k : X φ l g d M n L st (sI S a fk v) R) : X φ l g d M pc L (.int v :: .ref a :: st) S R := by
  subst hn
  obtain ⟨h1, h2, h3, h4, h5, h6, h7⟩ := hX
  intro q hq p e s m args below meth c C K H locs ls hH hS hl
  have hlt := kd_lt hk (by omega)
  have h8 := h7 fk hfk
  rw [hft] at h8
  have hty : tyf fk = .int ∨ tyf fk = .boolean := by simpa using h8
  have hn1 : narrow (tyf fk) (.int v) = .int v := by
    rcases hty with h | h
    · rw [h]; rfl
    · rcases hfit with h9 | h9 | h9
      · rw [h] at h9; cases h9
      · rw [h, h9]; rfl
      · rw [h, h9]; rfl
  have hf1 : fits (tyf fk) (.int v) = true := by
    rcases hty with h | h
    · rw [h]; rfl
    · rcases hfit with h9 | h9 | h9
      · rw [h] at h9; cases h9
      · rw [h, h9]; rfl
      · rw [h, h9]; rfl
  refine va_put (D := (g.1, g.2.1)) (v := .int v) C.1 C.2.1 (Ts := mws M) C.2.2.2.2.2.1 (fun w hw => List.mem_cons_of_mem _ (h4 w hw)) tyf h5 h6 C.2.2.2.2.1 K.1 hH (wD g S) hS a (by rw [wl_at g S hlt, cellE_o hk h1]) h2 fk hfk (TTs C hlk) (fun _ h => h) hfin (h5 fk hfk) hn1 hf1 (by rw [List.length_map, List.length_range]; omega) hd (fun H1 locs1 hH1 _ hS1 => ?_)
  rw [wl_sI hlt (cellE_fI hk h1 hft)] at hH1
  exact k q hq _ _ _ _ _ _ _ _ C K _ _ _ hH1 hS1 hl
theorem X_putJ {v : Int64} (hX : XF ci Cn T NN tyf) (hk : kd a = ci) (hfk : fk < NN) (hlk : Cond.fieldLink M.1.cls idx (T fk).1 (T fk).2.1 (T fk).2.2.1 ∈ TT) (hft : ft ci fk = 1) (hfin : (T fk).2.2.2 = false) (hd : decode M.2.1 pc = .ok (.putfield idx, 3)) (hn : pc + 3 = n) (k : X φ l g d M n L st (sL S a fk v) R) : X φ l g d M pc L (.long v :: .ref a :: st) S R := by
  subst hn
  obtain ⟨h1, h2, h3, h4, h5, h6, h7⟩ := hX
  intro q hq p e s m args below meth c C K H locs ls hH hS hl
  have hlt := kd_lt hk (by omega)
  have h8 := h7 fk hfk
  rw [hft] at h8
  have hty : tyf fk = .long := by simpa using h8
  have hn1 : narrow (tyf fk) (.long v) = .long v := by rw [hty]; rfl
  have hf1 : fits (tyf fk) (.long v) = true := by rw [hty]; rfl
  refine va_put (D := (g.1, g.2.1)) (v := .long v) C.1 C.2.1 (Ts := mws M) C.2.2.2.2.2.1 (fun w hw => List.mem_cons_of_mem _ (h4 w hw)) tyf h5 h6 C.2.2.2.2.1 K.1 hH (wD g S) hS a (by rw [wl_at g S hlt, cellE_o hk h1]) h2 fk hfk (TTs C hlk) (fun _ h => h) hfin (h5 fk hfk) hn1 hf1 (by rw [List.length_map, List.length_range]; omega) hd (fun H1 locs1 hH1 _ hS1 => ?_)
  rw [wl_sL hlt (cellE_fL hk h1 hft)] at hH1
  exact k q hq _ _ _ _ _ _ _ _ C K _ _ _ hH1 hS1 hl
theorem X_getM (hlk : Cond.fieldLink M.1.cls idx "ScentCourt" "MOST_LINES" "[I" ∈ TT) (hd : decode M.2.1 pc = .ok (.getstatic idx, 3)) (hn : pc + 3 = n) (k : X φ l g d M n L (.ref KK :: st) S R) : X φ l g d M pc L st S R := by
  subst hn
  intro q hq p e s m args below meth c C K H locs ls hH hS hl
  exact va_gets C.1 C.2.1 K.2.2.1 hS C.2.2.2.2.1 (TTs C hlk) (fun _ h => h) hd (k q hq _ _ _ _ _ _ _ _ C K _ _ _ hH hS hl)
theorem X_iald' {i : Int32} (hk : kd a = 20) (hd : decode M.2.1 pc = .ok (.iaload, 1)) (hn : pc + 1 = n) (hin : ¬ (i < 0 ∨ ln a ≤ i.toNatClampNeg)) (k : X φ l g d M n L (.int (S.1 a i.toNatClampNeg) :: st) S R) : X φ l g d M pc L (.int i :: .ref a :: st) S R := by
  subst hn
  intro q hq p e s m args below meth c C K H locs ls hH hS hl
  have hlt := kd_lt hk (by decide)
  exact va_iald (D := (g.1, g.2.1)) C.1 C.2.1 K.1 hH a 0 (by rw [wl_at g S hlt, cellE_I hk]) rfl hin hd (k q hq _ _ _ _ _ _ _ _ C K _ _ _ hH hS hl)
theorem X_iald {i : Int32} (hk : kd a = 20) (hd : decode M.2.1 pc = .ok (.iaload, 1)) (hn : pc + 1 = n) (k : ¬ (i < 0 ∨ ln a ≤ i.toNatClampNeg) → X φ l g d M n L (.int (S.1 a i.toNatClampNeg) :: st) S R) : X φ l g d M pc L (.int i :: .ref a :: st) S (if i < 0 ∨ ln a ≤ i.toNatClampNeg then none else R) := by
  by_cases h : i < 0 ∨ ln a ≤ i.toNatClampNeg
  · rw [if_pos h]; intro q hq; cases hq
  · rw [if_neg h]; exact X_iald' hk hd hn h (k h)
theorem X_lald' {i : Int32} (hk : kd a = 21) (hd : decode M.2.1 pc = .ok (.laload, 1)) (hn : pc + 1 = n) (hin : ¬ (i < 0 ∨ ln a ≤ i.toNatClampNeg)) (k : X φ l g d M n L (.long (S.2 a i.toNatClampNeg) :: st) S R) : X φ l g d M pc L (.int i :: .ref a :: st) S R := by
  subst hn
  intro q hq p e s m args below meth c C K H locs ls hH hS hl
  have hlt := kd_lt hk (by decide)
  exact va_lald (D := (g.1, g.2.1)) C.1 C.2.1 K.1 hH a 1 (by rw [wl_at g S hlt, cellE_J hk]) rfl hin hd (k q hq _ _ _ _ _ _ _ _ C K _ _ _ hH hS hl)
theorem X_lald {i : Int32} (hk : kd a = 21) (hd : decode M.2.1 pc = .ok (.laload, 1)) (hn : pc + 1 = n) (k : ¬ (i < 0 ∨ ln a ≤ i.toNatClampNeg) → X φ l g d M n L (.long (S.2 a i.toNatClampNeg) :: st) S R) : X φ l g d M pc L (.int i :: .ref a :: st) S (if i < 0 ∨ ln a ≤ i.toNatClampNeg then none else R) := by
  by_cases h : i < 0 ∨ ln a ≤ i.toNatClampNeg
  · rw [if_pos h]; intro q hq; cases hq
  · rw [if_neg h]; exact X_lald' hk hd hn h (k h)
theorem X_zald' {i : Int32} (hk : kd a = 22) (hd : decode M.2.1 pc = .ok (.baload, 1)) (hn : pc + 1 = n) (hin : ¬ (i < 0 ∨ ln a ≤ i.toNatClampNeg)) (k : X φ l g d M n L (.int (S.1 a i.toNatClampNeg) :: st) S R) : X φ l g d M pc L (.int i :: .ref a :: st) S R := by
  subst hn
  intro q hq p e s m args below meth c C K H locs ls hH hS hl
  have hlt := kd_lt hk (by decide)
  exact va_zald (D := (g.1, g.2.1)) C.1 C.2.1 K.1 hH a 2 (by rw [wl_at g S hlt, cellE_Z hk]) rfl hin hd (k q hq _ _ _ _ _ _ _ _ C K _ _ _ hH hS hl)
theorem X_zald {i : Int32} (hk : kd a = 22) (hd : decode M.2.1 pc = .ok (.baload, 1)) (hn : pc + 1 = n) (k : ¬ (i < 0 ∨ ln a ≤ i.toNatClampNeg) → X φ l g d M n L (.int (S.1 a i.toNatClampNeg) :: st) S R) : X φ l g d M pc L (.int i :: .ref a :: st) S (if i < 0 ∨ ln a ≤ i.toNatClampNeg then none else R) := by
  by_cases h : i < 0 ∨ ln a ≤ i.toNatClampNeg
  · rw [if_pos h]; intro q hq; cases hq
  · rw [if_neg h]; exact X_zald' hk hd hn h (k h)
theorem X_iast' {i : Int32} {x : Int32} (hk : kd a = 20) (hd : decode M.2.1 pc = .ok (.iastore, 1)) (hn : pc + 1 = n) (hin : ¬ (i < 0 ∨ ln a ≤ i.toNatClampNeg)) (k : X φ l g d M n L st (sI S a i.toNatClampNeg x) R) : X φ l g d M pc L (.int x :: .int i :: .ref a :: st) S R := by
  subst hn
  intro q hq p e s m args below meth c C K H locs ls hH hS hl
  have hlt := kd_lt hk (by decide)
  refine va_iast (D := (g.1, g.2.1)) C.1 C.2.1 K.1 hH (wD g S) hS a 0 (by rw [wl_at g S hlt, cellE_I hk]) rfl hin hd (fun H1 locs1 hH1 _ hS1 => ?_)
  rw [wl_sI (k := i.toNatClampNeg) (v := x) hlt (by rw [cellE_I hk]; simp only [sI, up2_row]; rfl)] at hH1
  exact k q hq _ _ _ _ _ _ _ _ C K _ _ _ hH1 hS1 hl
theorem X_iast {i : Int32} {x : Int32} (hk : kd a = 20) (hd : decode M.2.1 pc = .ok (.iastore, 1)) (hn : pc + 1 = n) (k : ¬ (i < 0 ∨ ln a ≤ i.toNatClampNeg) → X φ l g d M n L st (sI S a i.toNatClampNeg x) R) : X φ l g d M pc L (.int x :: .int i :: .ref a :: st) S (if i < 0 ∨ ln a ≤ i.toNatClampNeg then none else R) := by
  by_cases h : i < 0 ∨ ln a ≤ i.toNatClampNeg
  · rw [if_pos h]; intro q hq; cases hq
  · rw [if_neg h]; exact X_iast' hk hd hn h (k h)
theorem X_last' {i : Int32} {x : Int64} (hk : kd a = 21) (hd : decode M.2.1 pc = .ok (.lastore, 1)) (hn : pc + 1 = n) (hin : ¬ (i < 0 ∨ ln a ≤ i.toNatClampNeg)) (k : X φ l g d M n L st (sL S a i.toNatClampNeg x) R) : X φ l g d M pc L (.long x :: .int i :: .ref a :: st) S R := by
  subst hn
  intro q hq p e s m args below meth c C K H locs ls hH hS hl
  have hlt := kd_lt hk (by decide)
  refine va_last (D := (g.1, g.2.1)) C.1 C.2.1 K.1 hH (wD g S) hS a 1 (by rw [wl_at g S hlt, cellE_J hk]) rfl hin hd (fun H1 locs1 hH1 _ hS1 => ?_)
  rw [wl_sL (k := i.toNatClampNeg) (v := x) hlt (by rw [cellE_J hk]; simp only [sL, up2_row]; rfl)] at hH1
  exact k q hq _ _ _ _ _ _ _ _ C K _ _ _ hH1 hS1 hl
theorem X_last {i : Int32} {x : Int64} (hk : kd a = 21) (hd : decode M.2.1 pc = .ok (.lastore, 1)) (hn : pc + 1 = n) (k : ¬ (i < 0 ∨ ln a ≤ i.toNatClampNeg) → X φ l g d M n L st (sL S a i.toNatClampNeg x) R) : X φ l g d M pc L (.long x :: .int i :: .ref a :: st) S (if i < 0 ∨ ln a ≤ i.toNatClampNeg then none else R) := by
  by_cases h : i < 0 ∨ ln a ≤ i.toNatClampNeg
  · rw [if_pos h]; intro q hq; cases hq
  · rw [if_neg h]; exact X_last' hk hd hn h (k h)
theorem X_zast' {i : Int32} {x : Int32} (hk : kd a = 22) (hd : decode M.2.1 pc = .ok (.bastore, 1)) (hn : pc + 1 = n) (hin : ¬ (i < 0 ∨ ln a ≤ i.toNatClampNeg)) (k : X φ l g d M n L st (sI S a i.toNatClampNeg (vp_nar .boolean x)) R) : X φ l g d M pc L (.int x :: .int i :: .ref a :: st) S R := by
  subst hn
  intro q hq p e s m args below meth c C K H locs ls hH hS hl
  have hlt := kd_lt hk (by decide)
  refine va_zast (D := (g.1, g.2.1)) C.1 C.2.1 K.1 hH (wD g S) hS a 2 (by rw [wl_at g S hlt, cellE_Z hk]) rfl hin hd (fun H1 locs1 hH1 _ hS1 => ?_)
  rw [wl_sI (k := i.toNatClampNeg) (v := (vp_nar .boolean x)) hlt (by rw [cellE_Z hk]; simp only [sI, up2_row]; rfl)] at hH1
  exact k q hq _ _ _ _ _ _ _ _ C K _ _ _ hH1 hS1 hl
theorem X_zast {i : Int32} {x : Int32} (hk : kd a = 22) (hd : decode M.2.1 pc = .ok (.bastore, 1)) (hn : pc + 1 = n) (k : ¬ (i < 0 ∨ ln a ≤ i.toNatClampNeg) → X φ l g d M n L st (sI S a i.toNatClampNeg (vp_nar .boolean x)) R) : X φ l g d M pc L (.int x :: .int i :: .ref a :: st) S (if i < 0 ∨ ln a ≤ i.toNatClampNeg then none else R) := by
  by_cases h : i < 0 ∨ ln a ≤ i.toNatClampNeg
  · rw [if_pos h]; intro q hq; cases hq
  · rw [if_neg h]; exact X_zast' hk hd hn h (k h)
theorem X_alenI {v : Int32} (hk : kd a = 20) (hd : decode M.2.1 pc = .ok (.arraylength, 1)) (hn : pc + 1 = n) (hv : Int32.ofNat (ln a) = v) (k : X φ l g d M n L (.int v :: st) S R) : X φ l g d M pc L (.ref a :: st) S R := by
  subst hn
  intro q hq p e s m args below meth c C K H locs ls hH hS hl
  have hlt := kd_lt hk (by decide)
  exact va_alen (D := (g.1, g.2.1)) C.1 C.2.1 K.1 hH a 0 (by rw [wl_at g S hlt, cellE_I hk]) rfl hv hd (k q hq _ _ _ _ _ _ _ _ C K _ _ _ hH hS hl)
theorem X_alenJ {v : Int32} (hk : kd a = 21) (hd : decode M.2.1 pc = .ok (.arraylength, 1)) (hn : pc + 1 = n) (hv : Int32.ofNat (ln a) = v) (k : X φ l g d M n L (.int v :: st) S R) : X φ l g d M pc L (.ref a :: st) S R := by
  subst hn
  intro q hq p e s m args below meth c C K H locs ls hH hS hl
  have hlt := kd_lt hk (by decide)
  exact va_alen (D := (g.1, g.2.1)) C.1 C.2.1 K.1 hH a 1 (by rw [wl_at g S hlt, cellE_J hk]) rfl hv hd (k q hq _ _ _ _ _ _ _ _ C K _ _ _ hH hS hl)
theorem X_alenZ {v : Int32} (hk : kd a = 22) (hd : decode M.2.1 pc = .ok (.arraylength, 1)) (hn : pc + 1 = n) (hv : Int32.ofNat (ln a) = v) (k : X φ l g d M n L (.int v :: st) S R) : X φ l g d M pc L (.ref a :: st) S R := by
  subst hn
  intro q hq p e s m args below meth c C K H locs ls hH hS hl
  have hlt := kd_lt hk (by decide)
  exact va_alen (D := (g.1, g.2.1)) C.1 C.2.1 K.1 hH a 2 (by rw [wl_at g S hlt, cellE_Z hk]) rfl hv hd (k q hq _ _ _ _ _ _ _ _ C K _ _ _ hH hS hl)
theorem X_alenW {v : Int32} (hk : kd a = 23) (hd : decode M.2.1 pc = .ok (.arraylength, 1)) (hn : pc + 1 = n) (hv : Int32.ofNat (ln a) = v) (k : X φ l g d M n L (.int v :: st) S R) : X φ l g d M pc L (.ref a :: st) S R := by
  subst hn
  intro q hq p e s m args below meth c C K H locs ls hH hS hl
  have hlt := kd_lt hk (by decide)
  exact va_alen (D := (g.1, g.2.1)) C.1 C.2.1 K.1 hH a 3 (by rw [wl_at g S hlt, cellE_W hk]) rfl hv hd (k q hq _ _ _ _ _ _ _ _ C K _ _ _ hH hS hl)
theorem X_alenH {v : Int32} (hk : kd a = 24) (hd : decode M.2.1 pc = .ok (.arraylength, 1)) (hn : pc + 1 = n) (hv : Int32.ofNat (ln a) = v) (k : X φ l g d M n L (.int v :: st) S R) : X φ l g d M pc L (.ref a :: st) S R := by
  subst hn
  intro q hq p e s m args below meth c C K H locs ls hH hS hl
  have hlt := kd_lt hk (by decide)
  exact va_alen (D := (g.1, g.2.1)) C.1 C.2.1 K.1 hH a 4 (by rw [wl_at g S hlt, cellE_H hk]) rfl hv hd (k q hq _ _ _ _ _ _ _ _ C K _ _ _ hH hS hl)
theorem X_alenS {v : Int32} (hk : kd a = 25) (hd : decode M.2.1 pc = .ok (.arraylength, 1)) (hn : pc + 1 = n) (hv : Int32.ofNat (ln a) = v) (k : X φ l g d M n L (.int v :: st) S R) : X φ l g d M pc L (.ref a :: st) S R := by
  subst hn
  intro q hq p e s m args below meth c C K H locs ls hH hS hl
  have hlt := kd_lt hk (by decide)
  exact va_alen (D := (g.1, g.2.1)) C.1 C.2.1 K.1 hH a 5 (by rw [wl_at g S hlt, cellE_S hk]) rfl hv hd (k q hq _ _ _ _ _ _ _ _ C K _ _ _ hH hS hl)
theorem X_alenM {v : Int32} (hd : decode M.2.1 pc = .ok (.arraylength, 1)) (hn : pc + 1 = n) (hv : (6 : Int32) = v) (k : X φ l g d M n L (.int v :: st) S R) : X φ l g d M pc L (.ref KK :: st) S R := by
  subst hn
  intro q hq p e s m args below meth c C K H locs ls hH hS hl
  exact va_tlen C.1 C.2.1 K.2.2.2 hS hv hd (k q hq _ _ _ _ _ _ _ _ C K _ _ _ hH hS hl)
theorem X_ialdM {i v : Int32} (hd : decode M.2.1 pc = .ok (.iaload, 1)) (hn : pc + 1 = n) (hin : vp_in i 6) (hv : ([6, 6, 6, 6, 20, 6] : List Int32).getD i.toNatClampNeg 0 = v) (k : X φ l g d M n L (.int v :: st) S R) : X φ l g d M pc L (.int i :: .ref KK :: st) S R := by
  subst hn
  intro q hq p e s m args below meth c C K H locs ls hH hS hl
  exact va_ti C.1 C.2.1 K.2.2.2 hS hin (by unfold mostF; rw [hv]; rfl) hd (k q hq _ _ _ _ _ _ _ _ C K _ _ _ hH hS hl)
theorem X_aaldW' {i : Int32} (hk : kd a = 23) (hd : decode M.2.1 pc = .ok (.aaload, 1)) (hn : pc + 1 = n) (hin : ¬ (i < 0 ∨ ln a ≤ i.toNatClampNeg)) (k : X φ l g d M n L (.ref (rf a i.toNatClampNeg) :: st) S R) : X φ l g d M pc L (.int i :: .ref a :: st) S R := by
  subst hn
  intro q hq p e s m args below meth c C K H locs ls hH hS hl
  have hlt := kd_lt hk (by decide)
  exact va_aldq (D := (g.1, g.2.1)) C.1 C.2.1 K.1 hH a 3 (by rw [wl_at g S hlt, cellE_W hk]) rfl hin hd (k q hq _ _ _ _ _ _ _ _ C K _ _ _ hH hS hl)
theorem X_aaldH' {i : Int32} (hk : kd a = 24) (hd : decode M.2.1 pc = .ok (.aaload, 1)) (hn : pc + 1 = n) (hin : ¬ (i < 0 ∨ ln a ≤ i.toNatClampNeg)) (k : X φ l g d M n L (.ref (rf a i.toNatClampNeg) :: st) S R) : X φ l g d M pc L (.int i :: .ref a :: st) S R := by
  subst hn
  intro q hq p e s m args below meth c C K H locs ls hH hS hl
  have hlt := kd_lt hk (by decide)
  exact va_aldq (D := (g.1, g.2.1)) C.1 C.2.1 K.1 hH a 4 (by rw [wl_at g S hlt, cellE_H hk]) rfl hin hd (k q hq _ _ _ _ _ _ _ _ C K _ _ _ hH hS hl)
theorem X_aaldS' {i : Int32} (hk : kd a = 25) (hd : decode M.2.1 pc = .ok (.aaload, 1)) (hn : pc + 1 = n) (hin : ¬ (i < 0 ∨ ln a ≤ i.toNatClampNeg)) (k : X φ l g d M n L (.ref (rf a i.toNatClampNeg) :: st) S R) : X φ l g d M pc L (.int i :: .ref a :: st) S R := by
  subst hn
  intro q hq p e s m args below meth c C K H locs ls hH hS hl
  have hlt := kd_lt hk (by decide)
  exact va_aldq (D := (g.1, g.2.1)) C.1 C.2.1 K.1 hH a 5 (by rw [wl_at g S hlt, cellE_S hk]) rfl hin hd (k q hq _ _ _ _ _ _ _ _ C K _ _ _ hH hS hl)
theorem X_ifnull {off : Int} (hd : decode M.2.1 pc = .ok (.ifnull off, 3)) (hn : pc + 3 = n) (k : X φ l g d M n L st S R) : X φ l g d M pc L (.ref a :: st) S R := by
  subst hn
  intro q hq p e s m args below meth c C K H locs ls hH hS hl
  exact lv_ifnull C.1 C.2.1 hd (k q hq _ _ _ _ _ _ _ _ C K _ _ _ hH hS hl)
end XR
