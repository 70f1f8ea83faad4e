/-! the flat picture: the cells that the two objects are made of, by their numbers in the order of making; S: what ints and longs they hold -/
def TT : List Cond := lw_tbl.filter goodWord
theorem TT_in {w : Cond} (h : w ∈ lw_tbl) (hg : goodWord w = true) : w ∈ TT := List.mem_filter.mpr ⟨h, hg⟩
theorem TT_good {w : Cond} (h : w ∈ TT) : goodWord w = true := (List.mem_filter.mp h).2
theorem TT_lw {w : Cond} (h : w ∈ TT) : w ∈ lw_tbl := (List.mem_filter.mp h).1
theorem TT_t {w : Cond} (i : Nat) (h : tables_1[i]? = some w) (hg : goodWord w = true) : w ∈ TT := TT_in (List.mem_append_right _ (List.mem_of_getElem? h)) hg
theorem TT_s {w : Cond} (i : Nat) (h : (k2_sels lw_privs)[i]? = some w) (hg : goodWord w = true) : w ∈ TT := TT_in (List.mem_append_left _ (List.mem_of_getElem? h)) hg
def isNest : Cond → Bool
  | .methodLinkNest _ _ _ _ => true
  | .fieldLinkNest _ _ _ _ _ _ => true
  | _ => false
def NW : List Cond := tables_1.filter isNest
theorem NW_t {w : Cond} (i : Nat) (h : tables_1[i]? = some w) (hg : isNest w = true) : w ∈ NW := List.mem_filter.mpr ⟨List.mem_of_getElem? h, hg⟩
theorem NW_warm {w : Cond} (hw : w ∈ NW) {s U : State} (hW : s.WarmedH U.vm) (h : va_Nw w s) : va_Nw w U := by
  have hg := (List.mem_filter.mp hw).2
  cases w with
  | methodLinkNest a b c d => exact va_Nw.warmM hW h
  | fieldLinkNest a b c d e f => exact va_Nw.warmF hW h
  | _ => exact absurd hg (by simp [isNest])
theorem NW_same {w : Cond} (hw : w ∈ NW) {u U : State} (hW : u.vm = U.vm) (h : va_Nw w u) : va_Nw w U := by
  have hg := (List.mem_filter.mp hw).2
  cases w with
  | methodLinkNest a b c d => exact va_Nw.same rfl hW h
  | fieldLinkNest a b c d e f => exact va_Nw.same rfl hW h
  | _ => exact absurd hg (by simp [isNest])
abbrev XS : Type := (Nat → Nat → Int32) × (Nat → Nat → Int64)
/-- classes, slots, array classes, the first cell, the static row, the script -/
abbrev XG : Type := (Nat → ClassId) × (Nat → Nat → Nat) × (Nat → ClassId) × Nat × Nat × Nat
abbrev XM : Type := MethodName × ByteArray × Nat × Option FieldType
def kdL : List Nat := [11, 8, 20, 21, 20, 20, 21, 2, 20, 21, 20, 20, 20, 20, 20, 20, 3, 2, 20, 21, 20, 20, 20, 20, 20, 20, 20, 20, 10, 20, 20, 20, 20, 20, 20, 20, 6, 20, 20, 20, 7, 6, 20, 20, 20, 5, 23, 10, 20, 20, 20, 20, 20, 20, 20, 10, 20, 20, 20, 20, 20, 20, 20, 10, 20, 20, 20, 20, 20, 20, 20, 10, 20, 20, 20, 20, 20, 20, 20, 10, 20, 20, 20, 20, 20, 20, 20, 10, 20, 20, 20, 20, 20, 20, 20, 10, 20, 20, 20, 20, 20, 20, 20, 10, 20, 20, 20, 20, 20, 20, 20, 24, 23, 25, 2, 20, 21, 20, 20, 20, 20, 20, 20, 10, 20, 20, 20, 20, 20, 20, 20, 6, 20, 20, 20, 2, 20, 21, 20, 20, 20, 20, 20, 20, 10, 20, 20, 20, 20, 20, 20, 20, 6, 20, 20, 20, 20, 4, 20, 20, 20, 20, 20, 20, 20, 9, 20, 20, 20, 20, 20, 20, 0, 20, 20, 20, 20, 20, 1, 10, 20, 20, 20, 20, 20, 20, 20, 20, 12, 20, 20, 20, 20, 20, 20, 21, 21, 21, 22, 20, 20, 20, 22, 20, 20, 20, 20, 20, 20, 20, 20, 20, 20, 20, 20, 20, 20, 21]
def lnL : List Nat := [0, 0, 940, 17, 941, 941, 941, 0, 6, 18, 6, 36, 6, 6, 366, 61, 0, 0, 6, 18, 6, 36, 6, 6, 366, 61, 36, 216, 0, 6, 6, 36, 48, 8, 8, 8, 0, 40, 40, 40, 0, 0, 40, 40, 40, 0, 8, 0, 6, 6, 36, 48, 8, 8, 8, 0, 6, 6, 36, 48, 8, 8, 8, 0, 6, 6, 36, 48, 8, 8, 8, 0, 6, 6, 36, 48, 8, 8, 8, 0, 6, 6, 36, 48, 8, 8, 8, 0, 6, 6, 36, 48, 8, 8, 8, 0, 6, 6, 36, 48, 8, 8, 8, 0, 6, 6, 36, 48, 8, 8, 8, 2, 2, 2, 0, 6, 18, 6, 36, 6, 6, 366, 61, 0, 6, 6, 36, 48, 8, 8, 8, 0, 40, 40, 40, 0, 6, 18, 6, 36, 6, 6, 366, 61, 0, 6, 6, 36, 48, 8, 8, 8, 0, 40, 40, 40, 2, 0, 6, 8, 8, 8, 54, 256, 256, 0, 42, 7, 6, 6, 7, 42, 0, 40, 36, 366, 2196, 6, 0, 0, 6, 6, 36, 48, 8, 8, 8, 66, 0, 940, 516, 144, 1032, 1040, 130, 18, 18, 36, 2, 54, 8, 8, 256, 256, 8, 6, 6, 36, 6, 6, 6, 36, 40, 3, 80, 7, 240, 1]
def rfL : List (List Nat) := [[1, 7, 16, 28, 36, 40, 45, 46, 0, 0, 111, 112, 113, 156, 157, 165, 172, 178, 187, 0], [2, 0, 0, 0, 3, 4, 5, 6, 0, 0, 0, 0], [], [], [], [], [], [8, 9, 10, 11, 12, 13, 14, 15], [], [], [], [], [], [], [], [], [1, 17, 26, 27], [18, 19, 20, 21, 22, 23, 24, 25], [], [], [], [], [], [], [], [], [], [], [0, 29, 30, 31, 0, 32, 33, 34, 35], [], [], [], [], [], [], [], [37, 38, 39, 0], [], [], [], [1, 41, 0], [42, 43, 44, 0], [], [], [], [], [47, 55, 63, 71, 79, 87, 95, 103], [0, 48, 49, 50, 0, 51, 52, 53, 54], [], [], [], [], [], [], [], [0, 56, 57, 58, 0, 59, 60, 61, 62], [], [], [], [], [], [], [], [0, 64, 65, 66, 0, 67, 68, 69, 70], [], [], [], [], [], [], [], [0, 72, 73, 74, 0, 75, 76, 77, 78], [], [], [], [], [], [], [], [0, 80, 81, 82, 0, 83, 84, 85, 86], [], [], [], [], [], [], [], [0, 88, 89, 90, 0, 91, 92, 93, 94], [], [], [], [], [], [], [], [0, 96, 97, 98, 0, 99, 100, 101, 102], [], [], [], [], [], [], [], [0, 104, 105, 106, 0, 107, 108, 109, 110], [], [], [], [], [], [], [], [114, 135], [123, 144], [131, 152], [115, 116, 117, 118, 119, 120, 121, 122], [], [], [], [], [], [], [], [], [0, 124, 125, 126, 0, 127, 128, 129, 130], [], [], [], [], [], [], [], [132, 133, 134, 0], [], [], [], [136, 137, 138, 139, 140, 141, 142, 143], [], [], [], [], [], [], [], [], [0, 145, 146, 147, 0, 148, 149, 150, 151], [], [], [], [], [], [], [], [153, 154, 155, 0], [], [], [], [], [158, 0, 0, 159, 160, 161, 162, 163, 164], [], [], [], [], [], [], [], [0, 0, 166, 0, 167, 0, 168, 169, 170, 171], [], [], [], [], [], [], [0, 173, 0, 0, 174, 175, 176, 177], [], [], [], [], [], [0, 0, 0, 0, 0, 179], [0, 180, 181, 182, 0, 183, 184, 185, 186], [], [], [], [], [], [], [], [], [0, 189, 0, 0, 0, 0, 0, 0, 0, 0, 0, 0, 0, 0, 190, 191, 192, 193, 194, 195, 196, 197, 198, 0, 199, 200, 201, 202, 203, 0, 0, 204, 205, 0, 206, 207, 208, 209, 210, 0, 0, 0, 211, 212, 0, 0, 0, 0, 0, 0, 0, 213, 214, 215, 0, 216, 0, 0, 0, 0], [], [], [], [], [], [], [], [], [], [], [], [], [], [], [], [], [], [], [], [], [], [], [], [], [], [], [], [], []]
def ftL : List (List Nat) := [[0, 2, 0, 0, 2, 2, 2, 2], [0, 0, 0, 0, 0, 2], [2, 2, 2, 2, 2, 2, 2, 2], [2, 2, 2, 2], [2, 0, 0, 2, 2, 2, 2, 2, 2], [0], [2, 2, 2, 0], [2, 2, 0], [2, 0, 0, 0, 2, 2, 2, 2, 0, 0, 0, 0], [0, 0, 2, 0, 2, 0, 2, 2, 2, 2], [0, 2, 2, 2, 0, 2, 2, 2, 2], [2, 2, 2, 2, 2, 2, 2, 2, 0, 0, 2, 2, 2, 2, 2, 2, 2, 2, 2, 0], [0, 2, 0, 0, 0, 0, 0, 0, 0, 0, 0, 0, 1, 0, 2, 2, 2, 2, 2, 2, 2, 2, 2, 0, 2, 2, 2, 2, 2, 0, 0, 2, 2, 0, 2, 2, 2, 2, 2, 0, 0, 0, 2, 2, 0, 0, 0, 0, 0, 0, 0, 2, 2, 2, 0, 2, 0, 0, 0, 0]]
abbrev KK : Nat := 218
def kd (a : Nat) : Nat := kdL.getD a 99
def ln (a : Nat) : Nat := lnL.getD a 0
def rf (a j : Nat) : Nat := (rfL.getD a []).getD j 0
def ft (c j : Nat) : Nat := (ftL.getD c []).getD j 0
def nf (c : Nat) : Nat := (ftL.getD c []).length
def ad (g : XG) (k : Nat) : Nat := if k < KK then g.2.2.2.1 + k else if k = KK then g.2.2.2.2.1 else g.2.2.2.2.2
def cv (g : XG) (v : Value) : Value := match v with
  | .ref k => .ref (ad g k)
  | v => v
def slotV (g : XG) (S : XS) (c a j : Nat) : Value := if ft c j = 0 then .int (S.1 a j) else if ft c j = 1 then .long (S.2 a j) else .ref (ad g (rf a j))
def cellE (g : XG) (S : XS) (a : Nat) : va_E := if kd a < 13 then .inr (kd a, (List.range (nf (kd a))).map (slotV g S (kd a) a)) else if kd a = 20 then .inl (g.2.2.1 0, ln a, .inl (S.1 a)) else if kd a = 21 then .inl (g.2.2.1 1, ln a, .inr (.inl (S.2 a))) else if kd a = 22 then .inl (g.2.2.1 2, ln a, .inl (S.1 a)) else .inl (g.2.2.1 (kd a - 20), ln a, .inr (.inr (.inr (.inr (fun i => some (ad g (rf a i)))))))
def wl (g : XG) (S : XS) : va_W := (List.range KK).map (fun k => (ad g k, cellE g S k))
def wA (g : XG) : Nat → Prop := fun q => g.2.2.2.1 ≤ q ∧ q < g.2.2.2.1 + KK
abbrev xcl : List vw_C := [(RX0, TX0, 8), (RX1, TX1, 6), (RX2, TX2, 8), (RX3, TX3, 4), (RX4, TX4, 9), (RX5, TX5, 1), (RX6, TX6, 4), (RX7, TX7, 3), (RX8, TX8, 12), (RX9, TX9, 10), (RX10, TX10, 9), (RX11, TX11, 20), (RX12, TX12, 60)]
def xtys (g : XG) : List (ClassId × FieldType) := [(g.2.2.1 0, .int), (g.2.2.1 1, .long), (g.2.2.1 2, .boolean), (g.2.2.1 3, .object "ScentCourt$World"), (g.2.2.1 4, .object "ScentCourt$Hill"), (g.2.2.1 5, .object "ScentCourt$Sentence")]
abbrev XH (g : XG) (S : XS) (H : Heap) : Prop := va_P (g.1, g.2.1) xcl (wl g S) H
def mostF (j : Nat) : Value := .int (([6, 6, 6, 6, 20, 6] : List Int32).getD j 0)
def KX (g : XG) (s : State) : Prop := va_K (g.1, g.2.1) xcl (xtys g) s ∧ (∀ w ∈ NW, va_Nw w s) ∧ va_Z "ScentCourt" "MOST_LINES" "[I" (.ref g.2.2.2.2.1) (wA g) s s.heap ∧ va_T .int g.2.2.2.2.1 6 mostF (wA g) s s.heap
def mws (M : XM) : List Cond := .code M.1 M.2.1 M.2.2.1 M.2.2.2 :: TT
def xrm (d : Nat) : Room := { frames := d, cells := 0, slots := 0, locals := 40 * d }
def CX (M : XM) (p : Program) (s : State) (m : MethodId) (args : Array Value) (meth : Method) (c : Code) : Prop := p.tables.exec = Jvm.exec ∧ c.code = M.2.1 ∧ c.maxLocals = M.2.2.1 ∧ meth.sig.returnType = M.2.2.2 ∧ s.vm.findClass M.1.cls = some m.cls ∧ (∀ w ∈ mws M, w.before args s = true) ∧ meth.locks = false
/-- the end of a method: its answer, what the cells hold -/
def QX (g : XG) (q : Option Value × XS) : Array Value → State → Outcome → State → Prop := fun _ st o t => (o = .returned (q.1.map (cv g)) ∧ XH g q.2 t.heap) ∧ va_F (wA g) st t
/-- a contract: from S, with these arguments, what R tells (where R tells something) -/
def Cl {β : Type} (φ : β → Option Value × XS) (l : Launch) (g : XG) (d : Nat) (M : XM) (av : List Value) (S : XS) (R : Option β) : Prop := ∀ q, R = some q → Met l M.1 (mws M) (xrm d) (va_Pc (av.map (cv g)) (fun U => XH g S U.heap ∧ KX g U)) (QX g (φ q)) 0 0 (wA g)
/-- the machine at a place of a method comes to what R tells -/
def X {β : Type} (φ : β → Option Value × XS) (l : Launch) (g : XG) (d : Nat) (M : XM) (pc : Nat) (L : List (Nat × Value)) (st : List Value) (S : XS) (R : Option β) : Prop := ∀ q, R = some q → ∀ (p : Program) (e : Env) (s : State) (m : MethodId) (args : Array Value) (below : List Frame) (meth : Method) (c : Code), CX M p s m args meth c → KX g s → ∀ (H : Heap) (locs : List Loc) (ls : Array Slot), XH g S H → va_S (wA g) s.heap H locs → lv_has ls M.2.2.1 (L.map (fun q => (q.1, cv g q.2))) → W p l e (xrm d) s m args below meth c H locs 0 0 (MQ below (QX g (φ q)) args s 0 0 (wA g)) (F0 m pc ls (st.map (cv g)))
def up2 {α : Type} (f : Nat → Nat → α) (a k : Nat) (v : α) : Nat → Nat → α := fun b j => if b = a ∧ j = k then v else f b j
def sI (S : XS) (a k : Nat) (v : Int32) : XS := (up2 S.1 a k v, S.2)
def sL (S : XS) (a k : Nat) (v : Int64) : XS := (S.1, up2 S.2 a k v)
abbrev φI : Int32 × XS → Option Value × XS := fun q => (some (.int q.1), q.2)
abbrev φL : Int64 × XS → Option Value × XS := fun q => (some (.long q.1), q.2)
abbrev φV : XS → Option Value × XS := fun q => (none, q)
/-- what the tables say of a class -/
def XF (ci : Nat) (C : String) (T : u_T) (N : Nat) (ty : Nat → FieldType) : Prop := ci < 13 ∧ xcl[ci]? = some (C, T, N) ∧ nf ci = N ∧ (∀ w ∈ u_ws C T N, w ∈ TT) ∧ (∀ k, k < N → parseFieldDescriptor (T k).2.2.1 = some (ty k)) ∧ (∀ a, a < N → ∀ b, b < N → a ≠ b → (T a).2.1 ≠ (T b).2.1) ∧ ∀ k, k < N → if ft ci k = 0 then ty k = .int ∨ ty k = .boolean else if ft ci k = 1 then ty k = .long else True
theorem uw_of {us : List Cond} {ps : List Nat} (h : us.map some = ps.map (fun i => tables_1[i]?)) (hg : us.all goodWord = true) : ∀ w ∈ us, w ∈ TT := by
  intro w hw
  have h1 : some w ∈ us.map some := List.mem_map_of_mem hw
  rw [h] at h1
  obtain ⟨i, -, hi⟩ := List.mem_map.mp h1
  exact TT_t i hi (List.all_eq_true.mp hg w hw)
theorem uw_X0 : ∀ w ∈ u_ws RX0 TX0 8, w ∈ TT := by
  have h : (u_ws RX0 TX0 8).map some = ([422, 424, 426, 428, 430, 432, 434, 436] : List Nat).map (fun i => tables_1[i]?) := by decide +kernel
  have hg : (u_ws RX0 TX0 8).all goodWord = true := by decide +kernel
  exact uw_of h hg
theorem xf_X0 : XF 0 RX0 TX0 8 tyX0 := ⟨by decide, rfl, rfl, uw_X0, tyX0_ok, nmX0, by decide +kernel⟩
theorem uw_X1 : ∀ w ∈ u_ws RX1 TX1 6, w ∈ TT := by
  have h : (u_ws RX1 TX1 6).map some = ([457, 459, 461, 463, 465, 467] : List Nat).map (fun i => tables_1[i]?) := by decide +kernel
  have hg : (u_ws RX1 TX1 6).all goodWord = true := by decide +kernel
  exact uw_of h hg
theorem xf_X1 : XF 1 RX1 TX1 6 tyX1 := ⟨by decide, rfl, rfl, uw_X1, tyX1_ok, nmX1, by decide +kernel⟩
theorem uw_X2 : ∀ w ∈ u_ws RX2 TX2 8, w ∈ TT := by
  have h : (u_ws RX2 TX2 8).map some = ([184, 186, 188, 190, 192, 194, 196, 198] : List Nat).map (fun i => tables_1[i]?) := by decide +kernel
  have hg : (u_ws RX2 TX2 8).all goodWord = true := by decide +kernel
  exact uw_of h hg
theorem xf_X2 : XF 2 RX2 TX2 8 tyX2 := ⟨by decide, rfl, rfl, uw_X2, tyX2_ok, nmX2, by decide +kernel⟩
theorem uw_X3 : ∀ w ∈ u_ws RX3 TX3 4, w ∈ TT := by
  have h : (u_ws RX3 TX3 4).map some = ([214, 216, 218, 220] : List Nat).map (fun i => tables_1[i]?) := by decide +kernel
  have hg : (u_ws RX3 TX3 4).all goodWord = true := by decide +kernel
  exact uw_of h hg
theorem xf_X3 : XF 3 RX3 TX3 4 tyX3 := ⟨by decide, rfl, rfl, uw_X3, tyX3_ok, nmX3, by decide +kernel⟩
theorem uw_X4 : ∀ w ∈ u_ws RX4 TX4 9, w ∈ TT := by
  have h : (u_ws RX4 TX4 9).map some = ([345, 347, 349, 351, 353, 355, 357, 359, 361] : List Nat).map (fun i => tables_1[i]?) := by decide +kernel
  have hg : (u_ws RX4 TX4 9).all goodWord = true := by decide +kernel
  exact uw_of h hg
theorem xf_X4 : XF 4 RX4 TX4 9 tyX4 := ⟨by decide, rfl, rfl, uw_X4, tyX4_ok, nmX4, by decide +kernel⟩
theorem uw_X5 : ∀ w ∈ u_ws RX5 TX5 1, w ∈ TT := by
  have h : (u_ws RX5 TX5 1).map some = ([322] : List Nat).map (fun i => tables_1[i]?) := by decide +kernel
  have hg : (u_ws RX5 TX5 1).all goodWord = true := by decide +kernel
  exact uw_of h hg
theorem xf_X5 : XF 5 RX5 TX5 1 tyX5 := ⟨by decide, rfl, rfl, uw_X5, tyX5_ok, nmX5, by decide +kernel⟩
theorem uw_X6 : ∀ w ∈ u_ws RX6 TX6 4, w ∈ TT := by
  have h : (u_ws RX6 TX6 4).map some = ([286, 288, 290, 292] : List Nat).map (fun i => tables_1[i]?) := by decide +kernel
  have hg : (u_ws RX6 TX6 4).all goodWord = true := by decide +kernel
  exact uw_of h hg
theorem xf_X6 : XF 6 RX6 TX6 4 tyX6 := ⟨by decide, rfl, rfl, uw_X6, tyX6_ok, nmX6, by decide +kernel⟩
theorem uw_X7 : ∀ w ∈ u_ws RX7 TX7 3, w ∈ TT := by
  have h : (u_ws RX7 TX7 3).map some = ([307, 309, 311] : List Nat).map (fun i => tables_1[i]?) := by decide +kernel
  have hg : (u_ws RX7 TX7 3).all goodWord = true := by decide +kernel
  exact uw_of h hg
theorem xf_X7 : XF 7 RX7 TX7 3 tyX7 := ⟨by decide, rfl, rfl, uw_X7, tyX7_ok, nmX7, by decide +kernel⟩
theorem uw_X8 : ∀ w ∈ u_ws RX8 TX8 12, w ∈ TT := by
  have h : (u_ws RX8 TX8 12).map some = ([117, 119, 121, 123, 125, 127, 129, 131, 133, 135, 137, 139] : List Nat).map (fun i => tables_1[i]?) := by decide +kernel
  have hg : (u_ws RX8 TX8 12).all goodWord = true := by decide +kernel
  exact uw_of h hg
theorem xf_X8 : XF 8 RX8 TX8 12 tyX8 := ⟨by decide, rfl, rfl, uw_X8, tyX8_ok, nmX8, by decide +kernel⟩
theorem uw_X9 : ∀ w ∈ u_ws RX9 TX9 10, w ∈ TT := by
  have h : (u_ws RX9 TX9 10).map some = ([385, 387, 389, 391, 393, 395, 397, 399, 401, 403] : List Nat).map (fun i => tables_1[i]?) := by decide +kernel
  have hg : (u_ws RX9 TX9 10).all goodWord = true := by decide +kernel
  exact uw_of h hg
theorem xf_X9 : XF 9 RX9 TX9 10 tyX9 := ⟨by decide, rfl, rfl, uw_X9, tyX9_ok, nmX9, by decide +kernel⟩
theorem uw_X10 : ∀ w ∈ u_ws RX10 TX10 9, w ∈ TT := by
  have h : (u_ws RX10 TX10 9).map some = ([257, 259, 261, 263, 265, 267, 269, 271, 273] : List Nat).map (fun i => tables_1[i]?) := by decide +kernel
  have hg : (u_ws RX10 TX10 9).all goodWord = true := by decide +kernel
  exact uw_of h hg
theorem xf_X10 : XF 10 RX10 TX10 9 tyX10 := ⟨by decide, rfl, rfl, uw_X10, tyX10_ok, nmX10, by decide +kernel⟩
theorem uw_X11 : ∀ w ∈ u_ws RX11 TX11 20, w ∈ TT := by
  have h : (u_ws RX11 TX11 20).map some = ([490, 492, 494, 496, 498, 500, 502, 504, 506, 508, 510, 512, 514, 516, 518, 520, 522, 524, 526, 528] : List Nat).map (fun i => tables_1[i]?) := by decide +kernel
  have hg : (u_ws RX11 TX11 20).all goodWord = true := by decide +kernel
  exact uw_of h hg
theorem xf_X11 : XF 11 RX11 TX11 20 tyX11 := ⟨by decide, rfl, rfl, uw_X11, tyX11_ok, nmX11, by decide +kernel⟩
theorem uw_X12 : ∀ w ∈ u_ws RX12 TX12 60, w ∈ TT := by
  have h : (u_ws RX12 TX12 60).map some = ([1392, 1394, 1396, 1398, 1400, 1402, 1404, 1406, 1408, 1410, 1412, 1414, 1416, 1418, 1420, 1422, 1424, 1426, 1428, 1430, 1432, 1434, 1436, 1438, 1440, 1442, 1444, 1446, 1448, 1450, 1452, 1454, 1456, 1458, 1460, 1462, 1464, 1466, 1468, 1470, 1472, 1474, 1476, 1478, 1480, 1482, 1484, 1486, 1488, 1490, 1492, 1494, 1496, 1498, 1500, 1502, 1504, 1506, 1508, 1510] : List Nat).map (fun i => tables_1[i]?) := by decide +kernel
  have hg : (u_ws RX12 TX12 60).all goodWord = true := by decide +kernel
  exact uw_of h hg
theorem xf_X12 : XF 12 RX12 TX12 60 tyX12 := ⟨by decide, rfl, rfl, uw_X12, tyX12_ok, nmX12, by decide +kernel⟩
