def NSE : String := "java/util/NoSuchElementException"
def vxA : List Cond := vx_at0 RX11 150 NSE ["java/lang/RuntimeException", "java/lang/Exception"]
def vxBad : List Cond := vxA.filter (fun w => !goodWord w)
theorem vxA_ps : vxA.map some = ([21, 1280, 1289, 1291, 1294, 1296, 1281, 1282, 31, 32, 1283, 1288, 1292, 1308, 1270, 1309, 1272, 1310, 1274, 1284, 1286, 1276, 1298, 1299, 1300, 1301, 1261, 1301, 1302, 1303, 1304, 1263, 1304, 1305, 1306, 1281, 1265, 1297, 1259, 1260, 1267, 1268, 1269, 1271, 1273, 1275, 1279, 1278, 1277] : List Nat).map (fun i => tables_1[i]?) := by decide +kernel
theorem vxA_in : ∀ w ∈ vxA, w ∈ tables_1 := by
  intro w hw
  have h1 : some w ∈ vxA.map some := List.mem_map_of_mem hw
  rw [vxA_ps] at h1
  obtain ⟨i, -, hi⟩ := List.mem_map.mp h1
  exact List.mem_of_getElem? hi
theorem vx_ots : ∀ w ∈ Cond.classLink RX11 148 NSE :: Cond.initialized NSE :: vxA, vx_ot w = true := by decide +kernel
theorem bad_ot {w : Cond} (hw : w ∈ vxBad) : w.onTables = true := by
  obtain ⟨h1, h2⟩ := List.mem_filter.mp hw
  have h3 := vx_ots w (List.mem_cons_of_mem _ (List.mem_cons_of_mem _ h1))
  unfold vx_ot at h3
  cases hg : goodWord w with
  | true => rw [hg] at h2; cases h2
  | false => rw [hg, Bool.or_false] at h3; exact h3
theorem bad_face {w : Cond} (hw : w ∈ vxBad) : w.keepsFace = true := Bundle.ownAtoms0_keepsFace w (List.mem_filter.mp (List.mem_filter.mp hw).1).1
theorem bad_warm {s U : State} {w : Cond} (hw : w ∈ vxBad) (hW : s.WarmedH U.vm) (h : va_Nw w s) : va_Nw w U := by
  have h1 : w.before #[] (s.setVm U.vm) = true := Cond.before_shiftedFace (State.Shifted.of_warmed hW) _ (bad_face hw) h
  exact va_tabs (bad_ot hw) (rfl : (s.setVm U.vm).vm = U.vm) h1
/-- the words of the throw, at a method of the class: the good ones out of TT, the others by premises -/
theorem vxA_at {args : Array Value} {s : State} (h1 : ∀ w ∈ TT, w.before args s = true) (h2 : ∀ w ∈ vxBad, va_Nw w s) : ∀ w ∈ vxA, w.before args s = true := by
  intro w hw
  cases hg : goodWord w with
  | true => exact h1 w (TT_in (List.mem_append_right _ (vxA_in w hw)) hg)
  | false =>
    have hb : w ∈ vxBad := List.mem_filter.mpr ⟨hw, by rw [hg]; rfl⟩
    exact va_Nw.use (bad_ot hb) (h2 w hb)
def EX (A : Nat → Prop) (H : Heap) (U : State) : Prop := (∀ w ∈ vxBad, va_Nw w U) ∧ vx_Zq Bundle.tN "UNASSIGNED_STACK" Bundle.steD A U H ∧ vx_Zq Bundle.tN "SUPPRESSED_SENTINEL" Bundle.listD A U H
theorem EX.to {A A1 : Nat → Prop} {H H1 : Heap} {s U : State} (h : EX A H s) (hA : ∀ q, A1 q → A q) (hW : s.WarmedH U.vm) (hq : ∀ a : Nat, a < H.size → ¬ A a → H1[a]? = H[a]?) : EX A1 H1 U := ⟨fun w hw => bad_warm hw hW (h.1 w hw), ((vx_Zq.moved hW.alike h.2.1).kept hq).narrow hA, ((vx_Zq.moved hW.alike h.2.2).kept hq).narrow hA⟩
theorem EX.blind {A : Nat → Prop} {s : State} {g' : JFrame} {mk : MethodId} {a : Array Value} (h : EX A s.heap s) : EX A (s.calling g' mk a).heap (s.calling g' mk a) := ⟨fun w hw => va_Nw.same (u := s) (bad_ot hw) rfl (h.1 w hw), vx_Zq.moved (u := s) (Vm.Alike.refl s.vm) h.2.1, vx_Zq.moved (u := s) (Vm.Alike.refl s.vm) h.2.2⟩
theorem in_NSE : Cond.initialized NSE ∈ TT := (TQ1 24 rfl rfl)
theorem cl_NSE : Cond.classLink RX11 148 NSE ∈ TT := (TQ6 58 rfl rfl)
