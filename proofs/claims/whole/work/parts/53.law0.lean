def Ag_feed (Rel : XS → Prop) : Prop := ∀ S, Rel S → ∀ (i1 : Int32) (i2 : Int32) (i3 : Int32) (i4 : Int32) (i5 : Int32), ∃ r S1 S2, f_X11_feed 0 i1 i2 i3 i4 i5 S = some (r, S1) ∧ f_X12_feed 188 i1 i2 i3 i4 i5 S1 = some (r, S2) ∧ Rel S2
theorem lc_feed {p : Program} {l : Launch} {e : Env} {s : State} {m : MethodId} {args : Array Value} {below : List Frame} {meth : Method} {c : Code} {g : XG} {A : Nat → Prop} {cells slots : Nat} {Q : State → Prop} {N9 : Nat} {xs : Nat → Int32} {i : Int32} {S : XS} {Rel : XS → Prop} (C : YC p room_1 s m args meth c g A mLaw) (hX : va_X (ad g 219) N9 xs s s.heap) (hbl : ad g 219 < s.heap.size) (hbA : ¬ A (ad g 219)) (hi : ∀ v : Int32, 1 ≤ v → v ≤ 5 → vp_in (i + v) N9) (hc : cells ≤ room_1.cells) (hs : slots ≤ room_1.slots) (hR : Rel S) (h : Ag_feed Rel) (k : ∀ S2, Rel S2 → Y p l e room_1 s m args below meth c g A cells slots Q mLaw 1577 (LL i) [] S2) : Y p l e room_1 s m args below meth c g A cells slots Q mLaw 244 (LL i) [] S := by
  obtain ⟨r, S1, S2, h1, h2, h3⟩ := h S hR (xs (i + 1).toNatClampNeg) (xs (i + 2).toNatClampNeg) (xs (i + 3).toNatClampNeg) (xs (i + 4).toNatClampNeg) (xs (i + 5).toNatClampNeg)
  have e1 : Cl φI l g 3 mX11_feed (.ref 0 :: [.int (xs (i + 1).toNatClampNeg), .int (xs (i + 2).toNatClampNeg), .int (xs (i + 3).toNatClampNeg), .int (xs (i + 4).toNatClampNeg), .int (xs (i + 5).toNatClampNeg)]) S (some (r, S1)) := by rw [← h1]; exact w_X11_feed rfl
  have e2 : Cl φI l g 2 mX12_feed (.ref 188 :: [.int (xs (i + 1).toNatClampNeg), .int (xs (i + 2).toNatClampNeg), .int (xs (i + 3).toNatClampNeg), .int (xs (i + 4).toNatClampNeg), .int (xs (i + 5).toNatClampNeg)]) S1 (some (r, S2)) := by rw [← h2]; exact w_X12_feed rfl
  refine Y_aload_n C (n := 245) (x := 0) 3 (kL_law 25 rfl) rfl rfl rfl ?_
  refine Y_arg C hX hbl hbA (n := 251) (v := 1) (kL_law 26 rfl) (kL_law 27 rfl) (kL_law 28 rfl) (kL_law 29 rfl) (kL_law 30 rfl) (by decide) (hi 1 (by decide) (by decide)) rfl ?_
  refine Y_arg C hX hbl hbA (n := 257) (v := 2) (kL_law 31 rfl) (kL_law 32 rfl) (kL_law 33 rfl) (kL_law 34 rfl) (kL_law 35 rfl) (by decide) (hi 2 (by decide) (by decide)) rfl ?_
  refine Y_arg C hX hbl hbA (n := 263) (v := 3) (kL_law 36 rfl) (kL_law 37 rfl) (kL_law 38 rfl) (kL_law 39 rfl) (kL_law 40 rfl) (by decide) (hi 3 (by decide) (by decide)) rfl ?_
  refine Y_arg C hX hbl hbA (n := 269) (v := 4) (kL_law 41 rfl) (kL_law 42 rfl) (kL_law 43 rfl) (kL_law 44 rfl) (kL_law 45 rfl) (by decide) (hi 4 (by decide) (by decide)) rfl ?_
  refine Y_arg C hX hbl hbA (n := 275) (v := 5) (kL_law 46 rfl) (kL_law 47 rfl) (kL_law 48 rfl) (kL_law 49 rfl) (kL_law 50 rfl) (by decide) (hi 5 (by decide) (by decide)) rfl ?_
  refine Y_callV C (n := 278) (ψ := φI) (r := (r, S1)) (As := [.int (xs (i + 1).toNatClampNeg), .int (xs (i + 2).toNatClampNeg), .int (xs (i + 3).toNatClampNeg), .int (xs (i + 4).toNatClampNeg), .int (xs (i + 5).toNatClampNeg)]) (st := []) (kL_law 51 rfl) rfl e1 (Nat.le_of_ble_eq_true rfl) (Nat.le_of_ble_eq_true rfl) ml_L_22 mf_X11_feed rfl rfl xf_X11 rfl (Nat.le_of_ble_eq_true rfl) hc hs ?_
  refine Y_aload_n C (n := 279) (x := 188) 2 (kL_law 52 rfl) rfl rfl rfl ?_
  refine Y_arg C hX hbl hbA (n := 285) (v := 1) (kL_law 53 rfl) (kL_law 54 rfl) (kL_law 55 rfl) (kL_law 56 rfl) (kL_law 57 rfl) (by decide) (hi 1 (by decide) (by decide)) rfl ?_
  refine Y_arg C hX hbl hbA (n := 291) (v := 2) (kL_law 58 rfl) (kL_law 59 rfl) (kL_law 60 rfl) (kL_law 61 rfl) (kL_law 62 rfl) (by decide) (hi 2 (by decide) (by decide)) rfl ?_
  refine Y_arg C hX hbl hbA (n := 297) (v := 3) (kL_law 63 rfl) (kL_law 64 rfl) (kL_law 65 rfl) (kL_law 66 rfl) (kL_law 67 rfl) (by decide) (hi 3 (by decide) (by decide)) rfl ?_
  refine Y_arg C hX hbl hbA (n := 303) (v := 4) (kL_law 68 rfl) (kL_law 69 rfl) (kL_law 70 rfl) (kL_law 71 rfl) (kL_law 72 rfl) (by decide) (hi 4 (by decide) (by decide)) rfl ?_
  refine Y_arg C hX hbl hbA (n := 309) (v := 5) (kL_law 73 rfl) (kL_law 74 rfl) (kL_law 75 rfl) (kL_law 76 rfl) (kL_law 77 rfl) (by decide) (hi 5 (by decide) (by decide)) rfl ?_
  refine Y_callV C (n := 312) (ψ := φI) (r := (r, S2)) (As := [.int (xs (i + 1).toNatClampNeg), .int (xs (i + 2).toNatClampNeg), .int (xs (i + 3).toNatClampNeg), .int (xs (i + 4).toNatClampNeg), .int (xs (i + 5).toNatClampNeg)]) (st := [(.int r)]) (kL_law 78 rfl) rfl e2 (Nat.le_of_ble_eq_true rfl) (Nat.le_of_ble_eq_true rfl) ml_L_26 mf_X12_feed rfl rfl xf_X12 rfl (Nat.le_of_ble_eq_true rfl) hc hs ?_
  refine Y_ic_eq C (n := 315) (tgt := 1577) (kL_law 79 rfl) rfl rfl (fun _ => k S2 h3) (fun h => absurd rfl h)
def Ag_end (Rel : XS → Prop) : Prop := ∀ S, Rel S → ∀ (i1 : Int32), ∃ r S1 S2, f_X11_end 0 i1 S = some (r, S1) ∧ f_X12_end 188 i1 S1 = some (r, S2) ∧ Rel S2
theorem lc_end {p : Program} {l : Launch} {e : Env} {s : State} {m : MethodId} {args : Array Value} {below : List Frame} {meth : Method} {c : Code} {g : XG} {A : Nat → Prop} {cells slots : Nat} {Q : State → Prop} {N9 : Nat} {xs : Nat → Int32} {i : Int32} {S : XS} {Rel : XS → Prop} (C : YC p room_1 s m args meth c g A mLaw) (hX : va_X (ad g 219) N9 xs s s.heap) (hbl : ad g 219 < s.heap.size) (hbA : ¬ A (ad g 219)) (hi : ∀ v : Int32, 1 ≤ v → v ≤ 5 → vp_in (i + v) N9) (hc : cells ≤ room_1.cells) (hs : slots ≤ room_1.slots) (hR : Rel S) (h : Ag_end Rel) (k : ∀ S2, Rel S2 → Y p l e room_1 s m args below meth c g A cells slots Q mLaw 1577 (LL i) [] S2) : Y p l e room_1 s m args below meth c g A cells slots Q mLaw 317 (LL i) [] S := by
  obtain ⟨r, S1, S2, h1, h2, h3⟩ := h S hR (xs (i + 1).toNatClampNeg)
  have e1 : Cl φB l g 1 mX11_end (.ref 0 :: [.int (xs (i + 1).toNatClampNeg)]) S (some (r, S1)) := by rw [← h1]; exact w_X11_end rfl
  have e2 : Cl φB l g 1 mX12_end (.ref 188 :: [.int (xs (i + 1).toNatClampNeg)]) S1 (some (r, S2)) := by rw [← h2]; exact w_X12_end rfl
  refine Y_aload_n C (n := 318) (x := 0) 3 (kL_law 82 rfl) rfl rfl rfl ?_
  refine Y_arg C hX hbl hbA (n := 324) (v := 1) (kL_law 83 rfl) (kL_law 84 rfl) (kL_law 85 rfl) (kL_law 86 rfl) (kL_law 87 rfl) (by decide) (hi 1 (by decide) (by decide)) rfl ?_
  refine Y_callV C (n := 327) (ψ := φB) (r := (r, S1)) (As := [.int (xs (i + 1).toNatClampNeg)]) (st := []) (kL_law 88 rfl) rfl e1 (Nat.le_of_ble_eq_true rfl) (Nat.le_of_ble_eq_true rfl) ml_L_27 mf_X11_end rfl rfl xf_X11 rfl (Nat.le_of_ble_eq_true rfl) hc hs ?_
  refine Y_aload_n C (n := 328) (x := 188) 2 (kL_law 89 rfl) rfl rfl rfl ?_
  refine Y_arg C hX hbl hbA (n := 334) (v := 1) (kL_law 90 rfl) (kL_law 91 rfl) (kL_law 92 rfl) (kL_law 93 rfl) (kL_law 94 rfl) (by decide) (hi 1 (by decide) (by decide)) rfl ?_
  refine Y_callV C (n := 337) (ψ := φB) (r := (r, S2)) (As := [.int (xs (i + 1).toNatClampNeg)]) (st := [(.int (bi r))]) (kL_law 95 rfl) rfl e2 (Nat.le_of_ble_eq_true rfl) (Nat.le_of_ble_eq_true rfl) ml_L_31 mf_X12_end rfl rfl xf_X12 rfl (Nat.le_of_ble_eq_true rfl) hc hs ?_
  refine Y_ic_eq C (n := 340) (tgt := 1577) (kL_law 96 rfl) rfl rfl (fun _ => k S2 h3) (fun h => absurd rfl h)
def Ag_hill (Rel : XS → Prop) : Prop := ∀ S, Rel S → ∃ r S1 S2, f_X11_hill 0 S = some (r, S1) ∧ f_X12_hill 188 S1 = some (r, S2) ∧ Rel S2
theorem lc_hill {p : Program} {l : Launch} {e : Env} {s : State} {m : MethodId} {args : Array Value} {below : List Frame} {meth : Method} {c : Code} {g : XG} {A : Nat → Prop} {cells slots : Nat} {Q : State → Prop} {N9 : Nat} {xs : Nat → Int32} {i : Int32} {S : XS} {Rel : XS → Prop} (C : YC p room_1 s m args meth c g A mLaw) (hX : va_X (ad g 219) N9 xs s s.heap) (hbl : ad g 219 < s.heap.size) (hbA : ¬ A (ad g 219)) (hc : cells ≤ room_1.cells) (hs : slots ≤ room_1.slots) (hR : Rel S) (h : Ag_hill Rel) (k : ∀ S2, Rel S2 → Y p l e room_1 s m args below meth c g A cells slots Q mLaw 1577 (LL i) [] S2) : Y p l e room_1 s m args below meth c g A cells slots Q mLaw 342 (LL i) [] S := by
  obtain ⟨r, S1, S2, h1, h2, h3⟩ := h S hR
  have e1 : Cl φI l g 8 mX11_hill (.ref 0 :: []) S (some (r, S1)) := by rw [← h1]; exact w_X11_hill rfl
  have e2 : Cl φI l g 8 mX12_hill (.ref 188 :: []) S1 (some (r, S2)) := by rw [← h2]; exact w_X12_hill rfl
  refine Y_aload_n C (n := 343) (x := 0) 3 (kL_law 99 rfl) rfl rfl rfl ?_
  refine Y_callV C (n := 346) (ψ := φI) (r := (r, S1)) (As := []) (st := []) (kL_law_1 0 rfl) rfl e1 (Nat.le_of_ble_eq_true rfl) (Nat.le_of_ble_eq_true rfl) ml_L_32 mf_X11_hill rfl rfl xf_X11 rfl (Nat.le_of_ble_eq_true rfl) hc hs ?_
  refine Y_aload_n C (n := 347) (x := 188) 2 (kL_law_1 1 rfl) rfl rfl rfl ?_
  refine Y_callV C (n := 350) (ψ := φI) (r := (r, S2)) (As := []) (st := [(.int r)]) (kL_law_1 2 rfl) rfl e2 (Nat.le_of_ble_eq_true rfl) (Nat.le_of_ble_eq_true rfl) ml_L_36 mf_X12_hill rfl rfl xf_X12 rfl (Nat.le_of_ble_eq_true rfl) hc hs ?_
  refine Y_ic_eq C (n := 353) (tgt := 1577) (kL_law_1 3 rfl) rfl rfl (fun _ => k S2 h3) (fun h => absurd rfl h)
def Ag_fault (Rel : XS → Prop) : Prop := ∀ S, Rel S → ∃ r S1 S2, f_X11_fault 0 S = some (r, S1) ∧ f_X12_fault 188 S1 = some (r, S2) ∧ Rel S2
theorem lc_fault {p : Program} {l : Launch} {e : Env} {s : State} {m : MethodId} {args : Array Value} {below : List Frame} {meth : Method} {c : Code} {g : XG} {A : Nat → Prop} {cells slots : Nat} {Q : State → Prop} {N9 : Nat} {xs : Nat → Int32} {i : Int32} {S : XS} {Rel : XS → Prop} (C : YC p room_1 s m args meth c g A mLaw) (hX : va_X (ad g 219) N9 xs s s.heap) (hbl : ad g 219 < s.heap.size) (hbA : ¬ A (ad g 219)) (hc : cells ≤ room_1.cells) (hs : slots ≤ room_1.slots) (hR : Rel S) (h : Ag_fault Rel) (k : ∀ S2, Rel S2 → Y p l e room_1 s m args below meth c g A cells slots Q mLaw 1577 (LL i) [] S2) : Y p l e room_1 s m args below meth c g A cells slots Q mLaw 355 (LL i) [] S := by
  obtain ⟨r, S1, S2, h1, h2, h3⟩ := h S hR
  have e1 : Cl φI l g 1 mX11_fault (.ref 0 :: []) S (some (r, S1)) := by rw [← h1]; exact w_X11_fault rfl
  have e2 : Cl φI l g 1 mX12_fault (.ref 188 :: []) S1 (some (r, S2)) := by rw [← h2]; exact w_X12_fault rfl
  refine Y_aload_n C (n := 356) (x := 0) 3 (kL_law_1 6 rfl) rfl rfl rfl ?_
  refine Y_callV C (n := 359) (ψ := φI) (r := (r, S1)) (As := []) (st := []) (kL_law_1 7 rfl) rfl e1 (Nat.le_of_ble_eq_true rfl) (Nat.le_of_ble_eq_true rfl) ml_L_37 mf_X11_fault rfl rfl xf_X11 rfl (Nat.le_of_ble_eq_true rfl) hc hs ?_
  refine Y_aload_n C (n := 360) (x := 188) 2 (kL_law_1 8 rfl) rfl rfl rfl ?_
  refine Y_callV C (n := 363) (ψ := φI) (r := (r, S2)) (As := []) (st := [(.int r)]) (kL_law_1 9 rfl) rfl e2 (Nat.le_of_ble_eq_true rfl) (Nat.le_of_ble_eq_true rfl) ml_L_40 mf_X12_fault rfl rfl xf_X12 rfl (Nat.le_of_ble_eq_true rfl) hc hs ?_
  refine Y_ic_eq C (n := 366) (tgt := 1577) (kL_law_1 10 rfl) rfl rfl (fun _ => k S2 h3) (fun h => absurd rfl h)
def Ag_air (Rel : XS → Prop) : Prop := ∀ S, Rel S → ∀ (i1 i2 : Int32), ∃ b S2, f_X12_air 188 i1 i2 (lws S (airR 0 i1 i2 S)) = some (b, S2) ∧ S2.1 188 0 = lwv (airR 0 i1 i2 S) ∧ (∀ v, airR 0 i1 i2 S = some v → S2.2 217 0 = v.toInt64 ∧ b = v) ∧ Rel S2
theorem lc_air {p : Program} {l : Launch} {e : Env} {s : State} {m : MethodId} {args : Array Value} {below : List Frame} {meth : Method} {c : Code} {g : XG} {A : Nat → Prop} {cells slots : Nat} {Q : State → Prop} {N9 : Nat} {xs : Nat → Int32} {i : Int32} {S : XS} {Rel : XS → Prop} (hst : l.stackTraces = false) (C : YC p room_1 s m args meth c g A mLaw) (hE : EX A s.heap s) (hX : va_X (ad g 219) N9 xs s s.heap) (hbl : ad g 219 < s.heap.size) (hbA : ¬ A (ad g 219)) (hi : ∀ v : Int32, 1 ≤ v → v ≤ 5 → vp_in (i + v) N9) (hc : cells + 1 ≤ room_1.cells) (hs : slots + 6 ≤ room_1.slots) (hR : Rel S) (h : Ag_air Rel) (k : ∀ S2, Rel S2 → Y p l e room_1 s m args below meth c g A (cells + 1) (slots + 6) Q mLaw 1577 (LL i) [] S2) : Y p l e room_1 s m args below meth c g A cells slots Q mLaw 368 (LL i) [] S := by
  obtain ⟨b, S2, h2, h3, h4, h5⟩ := h S hR (xs (i + 1).toNatClampNeg) (xs (i + 2).toNatClampNeg)
  have e0 : ClL l g mL_air [.ref 0, .int (xs (i + 1).toNatClampNeg), .int (xs (i + 2).toNatClampNeg), .ref 217] S (airR 0 (xs (i + 1).toNatClampNeg) (xs (i + 2).toNatClampNeg) S) := w_L_air hst rfl
  generalize hRo : airR 0 (xs (i + 1).toNatClampNeg) (xs (i + 2).toNatClampNeg) S = Ro at h2 h3 h4 e0
  have e2 : Cl φI l g 2 mX12_air (.ref 188 :: [.int (xs (i + 1).toNatClampNeg), .int (xs (i + 2).toNatClampNeg)]) (lws S Ro) (some (b, S2)) := by rw [← h2]; exact w_X12_air rfl
  refine Y_aload_n C (n := 369) (x := 0) 3 (kL_law_1 13 rfl) rfl rfl rfl ?_
  refine Y_arg C hX hbl hbA (n := 375) (v := 1) (kL_law_1 14 rfl) (kL_law_1 15 rfl) (kL_law_1 16 rfl) (kL_law_1 17 rfl) (kL_law_1 18 rfl) (by decide) (hi 1 (by decide) (by decide)) rfl ?_
  refine Y_arg C hX hbl hbA (n := 381) (v := 2) (kL_law_1 19 rfl) (kL_law_1 20 rfl) (kL_law_1 21 rfl) (kL_law_1 22 rfl) (kL_law_1 23 rfl) (by decide) (hi 2 (by decide) (by decide)) rfl ?_
  refine Y_aload_n C (n := 382) (x := 217) 1 (kL_law_1 24 rfl) rfl rfl rfl ?_
  refine Y_callL C hE (n := 385) (Ro := Ro) (As := [.ref 0, .int (xs (i + 1).toNatClampNeg), .int (xs (i + 2).toNatClampNeg), .ref 217]) (st := []) (kL_law_1 25 rfl) rfl e0 (Nat.le_of_ble_eq_true rfl) (Nat.le_of_ble_eq_true rfl) ml_L_41 st_air il_law cw_air ⟨by decide +kernel, by decide +kernel⟩ (by show _ = some 4; decide +kernel) (by decide) rfl (Nat.le_of_ble_eq_true rfl) hc hs ?_
  refine Y_istore C (n := 387) (i := 5) (L1 := [(5, .int (lwv Ro)), (4, .int i), (3, .ref 217), (2, .ref 188), (1, .ref 0), (0, .ref 219)]) (kL_law_1 26 rfl) rfl (Nat.le_of_ble_eq_true rfl) rfl ?_
  refine Y_aload_n C (n := 388) (x := 188) 3 (kL_law_1 27 rfl) rfl rfl rfl ?_
  refine Y_argL C hX hbl hbA (n := 394) (j0 := 5) (j4 := 1) (i := i) rfl rfl (v := 1) (kL_law_1 28 rfl) (kL_law_1 29 rfl) (kL_law_1 30 rfl) (kL_law_1 31 rfl) (kL_law_1 32 rfl) (by decide) (hi 1 (by decide) (by decide)) rfl ?_
  refine Y_argL C hX hbl hbA (n := 400) (j0 := 5) (j4 := 1) (i := i) rfl rfl (v := 2) (kL_law_1 33 rfl) (kL_law_1 34 rfl) (kL_law_1 35 rfl) (kL_law_1 36 rfl) (kL_law_1 37 rfl) (by decide) (hi 2 (by decide) (by decide)) rfl ?_
  refine Y_callV C (n := 403) (ψ := φI) (r := (b, S2)) (As := [.int (xs (i + 1).toNatClampNeg), .int (xs (i + 2).toNatClampNeg)]) (st := []) (kL_law_1 38 rfl) rfl e2 (Nat.le_of_ble_eq_true rfl) (Nat.le_of_ble_eq_true rfl) ml_L_46 mf_X12_air rfl rfl xf_X12 rfl (Nat.le_of_ble_eq_true rfl) hc hs ?_
  refine Y_istore C (n := 405) (i := 6) (L1 := [(6, .int b), (5, .int (lwv Ro)), (4, .int i), (3, .ref 217), (2, .ref 188), (1, .ref 0), (0, .ref 219)]) (kL_law_1 39 rfl) rfl (Nat.le_of_ble_eq_true rfl) rfl ?_
  refine Y_aload_n C (n := 406) (x := 188) 4 (kL_law_1 40 rfl) rfl rfl rfl ?_
  refine Y_callV C (n := 409) (ψ := φI) (r := (S2.1 188 0, S2)) (As := []) (st := []) (kL_law_1 41 rfl) rfl (w_X12_thrown (a0 := 188) (S := S2) rfl) (Nat.le_of_ble_eq_true rfl) (Nat.le_of_ble_eq_true rfl) ml_L_47 mf_X12_thrown rfl rfl xf_X12 rfl (Nat.le_of_ble_eq_true rfl) hc hs ?_
  refine Y_iload C (n := 411) (x := lwv Ro) 1 (kL_law_1 42 rfl) rfl rfl ?_
  refine Y_ic_eq C (n := 414) (tgt := 416) (kL_law_1 43 rfl) rfl rfl (fun _ => ?_) (fun hh => absurd h3 hh)
  refine Y_iload C (n := 418) (x := lwv Ro) 1 (kL_law_1 46 rfl) rfl rfl ?_
  refine Y_if_ne C (n := 421) (tgt := 433) (kL_law_1 47 rfl) rfl rfl (fun _ => Y_goto C (tgt := 1577) (kL_law_1 57 rfl) rfl (Y_sub LL_sub (k S2 h5))) (fun h0 => ?_)
  obtain ⟨v, hv⟩ : ∃ v, Ro = some v := by
    cases Ro with
    | none => exact absurd h0 (by decide)
    | some v => exact ⟨v, rfl⟩
  obtain ⟨h6, h7⟩ := h4 v hv
  refine Y_aload_n C (n := 422) (x := 217) 3 (kL_law_1 48 rfl) rfl rfl rfl ?_
  refine Y_iconst C (n := 423) (v := 0) (kL_law_1 49 rfl) rfl (by decide) ?_
  refine Y_lald C (n := 424) (b := 217) rfl (kL_law_1 50 rfl) rfl (by decide) ?_
  refine Y_iload C (n := 426) (x := b) 0 (kL_law_1 51 rfl) rfl rfl ?_
  refine Y_i2l C (n := 427) (kL_law_1 52 rfl) rfl ?_
  refine Y_lcmp C (n := 428) (kL_law_1 53 rfl) rfl ?_
  refine Y_if_eq C (n := 431) (tgt := 433) (kL_law_1 54 rfl) rfl rfl (fun _ => Y_goto C (tgt := 1577) (kL_law_1 57 rfl) rfl (Y_sub LL_sub (k S2 h5))) (fun h0 => ?_)
  refine absurd ?_ h0
  show lg_cmp (S2.2 217 0) b.toInt64 = 0
  rw [h6, h7]
  exact lg_cmp_self _
def Ag_fade (Rel : XS → Prop) : Prop := ∀ S, Rel S → ∀ (i1 : Int32), ∃ r S1 S2, f_X11_fade 0 i1 S = some (r, S1) ∧ f_X12_fade 188 i1 S1 = some (r, S2) ∧ Rel S2
theorem lc_fade {p : Program} {l : Launch} {e : Env} {s : State} {m : MethodId} {args : Array Value} {below : List Frame} {meth : Method} {c : Code} {g : XG} {A : Nat → Prop} {cells slots : Nat} {Q : State → Prop} {N9 : Nat} {xs : Nat → Int32} {i : Int32} {S : XS} {Rel : XS → Prop} (C : YC p room_1 s m args meth c g A mLaw) (hX : va_X (ad g 219) N9 xs s s.heap) (hbl : ad g 219 < s.heap.size) (hbA : ¬ A (ad g 219)) (hi : ∀ v : Int32, 1 ≤ v → v ≤ 5 → vp_in (i + v) N9) (hc : cells ≤ room_1.cells) (hs : slots ≤ room_1.slots) (hR : Rel S) (h : Ag_fade Rel) (k : ∀ S2, Rel S2 → Y p l e room_1 s m args below meth c g A cells slots Q mLaw 1577 (LL i) [] S2) : Y p l e room_1 s m args below meth c g A cells slots Q mLaw 436 (LL i) [] S := by
  obtain ⟨r, S1, S2, h1, h2, h3⟩ := h S hR (xs (i + 1).toNatClampNeg)
  have e1 : Cl φI l g 3 mX11_fade (.ref 0 :: [.int (xs (i + 1).toNatClampNeg)]) S (some (r, S1)) := by rw [← h1]; exact w_X11_fade rfl
  have e2 : Cl φI l g 2 mX12_fade (.ref 188 :: [.int (xs (i + 1).toNatClampNeg)]) S1 (some (r, S2)) := by rw [← h2]; exact w_X12_fade rfl
  refine Y_aload_n C (n := 437) (x := 0) 3 (kL_law_1 58 rfl) rfl rfl rfl ?_
  refine Y_arg C hX hbl hbA (n := 443) (v := 1) (kL_law_1 59 rfl) (kL_law_1 60 rfl) (kL_law_1 61 rfl) (kL_law_1 62 rfl) (kL_law_1 63 rfl) (by decide) (hi 1 (by decide) (by decide)) rfl ?_
  refine Y_callV C (n := 446) (ψ := φI) (r := (r, S1)) (As := [.int (xs (i + 1).toNatClampNeg)]) (st := []) (kL_law_1 64 rfl) rfl e1 (Nat.le_of_ble_eq_true rfl) (Nat.le_of_ble_eq_true rfl) ml_L_50 mf_X11_fade rfl rfl xf_X11 rfl (Nat.le_of_ble_eq_true rfl) hc hs ?_
  refine Y_aload_n C (n := 447) (x := 188) 2 (kL_law_1 65 rfl) rfl rfl rfl ?_
  refine Y_arg C hX hbl hbA (n := 453) (v := 1) (kL_law_1 66 rfl) (kL_law_1 67 rfl) (kL_law_1 68 rfl) (kL_law_1 69 rfl) (kL_law_1 70 rfl) (by decide) (hi 1 (by decide) (by decide)) rfl ?_
  refine Y_callV C (n := 456) (ψ := φI) (r := (r, S2)) (As := [.int (xs (i + 1).toNatClampNeg)]) (st := [(.int r)]) (kL_law_1 71 rfl) rfl e2 (Nat.le_of_ble_eq_true rfl) (Nat.le_of_ble_eq_true rfl) ml_L_54 mf_X12_fade rfl rfl xf_X12 rfl (Nat.le_of_ble_eq_true rfl) hc hs ?_
  refine Y_ic_eq C (n := 459) (tgt := 1577) (kL_law_1 72 rfl) rfl rfl (fun _ => k S2 h3) (fun h => absurd rfl h)
def Ag_witness (Rel : XS → Prop) : Prop := ∀ S, Rel S → ∀ (i1 i2 : Int32), ∃ b S2, f_X12_witness 188 i1 i2 (lws S (witR 0 i1 i2 S)) = some (b, S2) ∧ S2.1 188 0 = lwv (witR 0 i1 i2 S) ∧ (∀ v, witR 0 i1 i2 S = some v → S2.2 217 0 = v.toInt64 ∧ b = v) ∧ Rel S2
theorem lc_witness {p : Program} {l : Launch} {e : Env} {s : State} {m : MethodId} {args : Array Value} {below : List Frame} {meth : Method} {c : Code} {g : XG} {A : Nat → Prop} {cells slots : Nat} {Q : State → Prop} {N9 : Nat} {xs : Nat → Int32} {i : Int32} {S : XS} {Rel : XS → Prop} (hst : l.stackTraces = false) (C : YC p room_1 s m args meth c g A mLaw) (hE : EX A s.heap s) (hX : va_X (ad g 219) N9 xs s s.heap) (hbl : ad g 219 < s.heap.size) (hbA : ¬ A (ad g 219)) (hi : ∀ v : Int32, 1 ≤ v → v ≤ 5 → vp_in (i + v) N9) (hc : cells + 1 ≤ room_1.cells) (hs : slots + 6 ≤ room_1.slots) (hR : Rel S) (h : Ag_witness Rel) (k : ∀ S2, Rel S2 → Y p l e room_1 s m args below meth c g A (cells + 1) (slots + 6) Q mLaw 1577 (LL i) [] S2) : Y p l e room_1 s m args below meth c g A cells slots Q mLaw 461 (LL i) [] S := by
  obtain ⟨b, S2, h2, h3, h4, h5⟩ := h S hR (xs (i + 1).toNatClampNeg) (xs (i + 2).toNatClampNeg)
  have e0 : ClL l g mL_witness [.ref 0, .int (xs (i + 1).toNatClampNeg), .int (xs (i + 2).toNatClampNeg), .ref 217] S (witR 0 (xs (i + 1).toNatClampNeg) (xs (i + 2).toNatClampNeg) S) := w_L_witness hst rfl
  generalize hRo : witR 0 (xs (i + 1).toNatClampNeg) (xs (i + 2).toNatClampNeg) S = Ro at h2 h3 h4 e0
  have e2 : Cl φI l g 2 mX12_witness (.ref 188 :: [.int (xs (i + 1).toNatClampNeg), .int (xs (i + 2).toNatClampNeg)]) (lws S Ro) (some (b, S2)) := by rw [← h2]; exact w_X12_witness rfl
  refine Y_aload_n C (n := 462) (x := 0) 3 (kL_law_1 75 rfl) rfl rfl rfl ?_
  refine Y_arg C hX hbl hbA (n := 468) (v := 1) (kL_law_1 76 rfl) (kL_law_1 77 rfl) (kL_law_1 78 rfl) (kL_law_1 79 rfl) (kL_law_1 80 rfl) (by decide) (hi 1 (by decide) (by decide)) rfl ?_
  refine Y_arg C hX hbl hbA (n := 474) (v := 2) (kL_law_1 81 rfl) (kL_law_1 82 rfl) (kL_law_1 83 rfl) (kL_law_1 84 rfl) (kL_law_1 85 rfl) (by decide) (hi 2 (by decide) (by decide)) rfl ?_
  refine Y_aload_n C (n := 475) (x := 217) 1 (kL_law_1 86 rfl) rfl rfl rfl ?_
  refine Y_callL C hE (n := 478) (Ro := Ro) (As := [.ref 0, .int (xs (i + 1).toNatClampNeg), .int (xs (i + 2).toNatClampNeg), .ref 217]) (st := []) (kL_law_1 87 rfl) rfl e0 (Nat.le_of_ble_eq_true rfl) (Nat.le_of_ble_eq_true rfl) ml_L_55 st_witness il_law cw_witness ⟨by decide +kernel, by decide +kernel⟩ (by show _ = some 4; decide +kernel) (by decide) rfl (Nat.le_of_ble_eq_true rfl) hc hs ?_
  refine Y_istore C (n := 480) (i := 5) (L1 := [(5, .int (lwv Ro)), (4, .int i), (3, .ref 217), (2, .ref 188), (1, .ref 0), (0, .ref 219)]) (kL_law_1 88 rfl) rfl (Nat.le_of_ble_eq_true rfl) rfl ?_
  refine Y_aload_n C (n := 481) (x := 188) 3 (kL_law_1 89 rfl) rfl rfl rfl ?_
  refine Y_argL C hX hbl hbA (n := 487) (j0 := 5) (j4 := 1) (i := i) rfl rfl (v := 1) (kL_law_1 90 rfl) (kL_law_1 91 rfl) (kL_law_1 92 rfl) (kL_law_1 93 rfl) (kL_law_1 94 rfl) (by decide) (hi 1 (by decide) (by decide)) rfl ?_
  refine Y_argL C hX hbl hbA (n := 493) (j0 := 5) (j4 := 1) (i := i) rfl rfl (v := 2) (kL_law_1 95 rfl) (kL_law_1 96 rfl) (kL_law_1 97 rfl) (kL_law_1 98 rfl) (kL_law_1 99 rfl) (by decide) (hi 2 (by decide) (by decide)) rfl ?_
  refine Y_callV C (n := 496) (ψ := φI) (r := (b, S2)) (As := [.int (xs (i + 1).toNatClampNeg), .int (xs (i + 2).toNatClampNeg)]) (st := []) (kL_law_2 0 rfl) rfl e2 (Nat.le_of_ble_eq_true rfl) (Nat.le_of_ble_eq_true rfl) ml_L_57 mf_X12_witness rfl rfl xf_X12 rfl (Nat.le_of_ble_eq_true rfl) hc hs ?_
  refine Y_istore C (n := 498) (i := 6) (L1 := [(6, .int b), (5, .int (lwv Ro)), (4, .int i), (3, .ref 217), (2, .ref 188), (1, .ref 0), (0, .ref 219)]) (kL_law_2 1 rfl) rfl (Nat.le_of_ble_eq_true rfl) rfl ?_
  refine Y_aload_n C (n := 499) (x := 188) 4 (kL_law_2 2 rfl) rfl rfl rfl ?_
  refine Y_callV C (n := 502) (ψ := φI) (r := (S2.1 188 0, S2)) (As := []) (st := []) (kL_law_2 3 rfl) rfl (w_X12_thrown (a0 := 188) (S := S2) rfl) (Nat.le_of_ble_eq_true rfl) (Nat.le_of_ble_eq_true rfl) ml_L_47 mf_X12_thrown rfl rfl xf_X12 rfl (Nat.le_of_ble_eq_true rfl) hc hs ?_
  refine Y_iload C (n := 504) (x := lwv Ro) 1 (kL_law_2 4 rfl) rfl rfl ?_
  refine Y_ic_eq C (n := 507) (tgt := 509) (kL_law_2 5 rfl) rfl rfl (fun _ => ?_) (fun hh => absurd h3 hh)
  refine Y_iload C (n := 511) (x := lwv Ro) 1 (kL_law_2 8 rfl) rfl rfl ?_
  refine Y_if_ne C (n := 514) (tgt := 526) (kL_law_2 9 rfl) rfl rfl (fun _ => Y_goto C (tgt := 1577) (kL_law_2 19 rfl) rfl (Y_sub LL_sub (k S2 h5))) (fun h0 => ?_)
  obtain ⟨v, hv⟩ : ∃ v, Ro = some v := by
    cases Ro with
    | none => exact absurd h0 (by decide)
    | some v => exact ⟨v, rfl⟩
  obtain ⟨h6, h7⟩ := h4 v hv
  refine Y_aload_n C (n := 515) (x := 217) 3 (kL_law_2 10 rfl) rfl rfl rfl ?_
  refine Y_iconst C (n := 516) (v := 0) (kL_law_2 11 rfl) rfl (by decide) ?_
  refine Y_lald C (n := 517) (b := 217) rfl (kL_law_2 12 rfl) rfl (by decide) ?_
  refine Y_iload C (n := 519) (x := b) 0 (kL_law_2 13 rfl) rfl rfl ?_
  refine Y_i2l C (n := 520) (kL_law_2 14 rfl) rfl ?_
  refine Y_lcmp C (n := 521) (kL_law_2 15 rfl) rfl ?_
  refine Y_if_eq C (n := 524) (tgt := 526) (kL_law_2 16 rfl) rfl rfl (fun _ => Y_goto C (tgt := 1577) (kL_law_2 19 rfl) rfl (Y_sub LL_sub (k S2 h5))) (fun h0 => ?_)
  refine absurd ?_ h0
  show lg_cmp (S2.2 217 0) b.toInt64 = 0
  rw [h6, h7]
  exact lg_cmp_self _
def Ag_coat (Rel : XS → Prop) : Prop := ∀ S, Rel S → ∀ (i1 : Int32) (i2 : Int32), ∃ r S1 S2, f_X11_coat 0 i1 i2 S = some (r, S1) ∧ f_X12_coat 188 i1 i2 S1 = some (r, S2) ∧ Rel S2
theorem lc_coat {p : Program} {l : Launch} {e : Env} {s : State} {m : MethodId} {args : Array Value} {below : List Frame} {meth : Method} {c : Code} {g : XG} {A : Nat → Prop} {cells slots : Nat} {Q : State → Prop} {N9 : Nat} {xs : Nat → Int32} {i : Int32} {S : XS} {Rel : XS → Prop} (C : YC p room_1 s m args meth c g A mLaw) (hX : va_X (ad g 219) N9 xs s s.heap) (hbl : ad g 219 < s.heap.size) (hbA : ¬ A (ad g 219)) (hi : ∀ v : Int32, 1 ≤ v → v ≤ 5 → vp_in (i + v) N9) (hc : cells ≤ room_1.cells) (hs : slots ≤ room_1.slots) (hR : Rel S) (h : Ag_coat Rel) (k : ∀ S2, Rel S2 → Y p l e room_1 s m args below meth c g A cells slots Q mLaw 1577 (LL i) [] S2) : Y p l e room_1 s m args below meth c g A cells slots Q mLaw 529 (LL i) [] S := by
  obtain ⟨r, S1, S2, h1, h2, h3⟩ := h S hR (xs (i + 1).toNatClampNeg) (xs (i + 2).toNatClampNeg)
  have e1 : Cl φI l g 3 mX11_coat (.ref 0 :: [.int (xs (i + 1).toNatClampNeg), .int (xs (i + 2).toNatClampNeg)]) S (some (r, S1)) := by rw [← h1]; exact w_X11_coat rfl
  have e2 : Cl φI l g 2 mX12_coat (.ref 188 :: [.int (xs (i + 1).toNatClampNeg), .int (xs (i + 2).toNatClampNeg)]) S1 (some (r, S2)) := by rw [← h2]; exact w_X12_coat rfl
  refine Y_aload_n C (n := 530) (x := 0) 3 (kL_law_2 20 rfl) rfl rfl rfl ?_
  refine Y_arg C hX hbl hbA (n := 536) (v := 1) (kL_law_2 21 rfl) (kL_law_2 22 rfl) (kL_law_2 23 rfl) (kL_law_2 24 rfl) (kL_law_2 25 rfl) (by decide) (hi 1 (by decide) (by decide)) rfl ?_
  refine Y_arg C hX hbl hbA (n := 542) (v := 2) (kL_law_2 26 rfl) (kL_law_2 27 rfl) (kL_law_2 28 rfl) (kL_law_2 29 rfl) (kL_law_2 30 rfl) (by decide) (hi 2 (by decide) (by decide)) rfl ?_
  refine Y_callV C (n := 545) (ψ := φI) (r := (r, S1)) (As := [.int (xs (i + 1).toNatClampNeg), .int (xs (i + 2).toNatClampNeg)]) (st := []) (kL_law_2 31 rfl) rfl e1 (Nat.le_of_ble_eq_true rfl) (Nat.le_of_ble_eq_true rfl) ml_L_58 mf_X11_coat rfl rfl xf_X11 rfl (Nat.le_of_ble_eq_true rfl) hc hs ?_
  refine Y_aload_n C (n := 546) (x := 188) 2 (kL_law_2 32 rfl) rfl rfl rfl ?_
  refine Y_arg C hX hbl hbA (n := 552) (v := 1) (kL_law_2 33 rfl) (kL_law_2 34 rfl) (kL_law_2 35 rfl) (kL_law_2 36 rfl) (kL_law_2 37 rfl) (by decide) (hi 1 (by decide) (by decide)) rfl ?_
  refine Y_arg C hX hbl hbA (n := 558) (v := 2) (kL_law_2 38 rfl) (kL_law_2 39 rfl) (kL_law_2 40 rfl) (kL_law_2 41 rfl) (kL_law_2 42 rfl) (by decide) (hi 2 (by decide) (by decide)) rfl ?_
  refine Y_callV C (n := 561) (ψ := φI) (r := (r, S2)) (As := [.int (xs (i + 1).toNatClampNeg), .int (xs (i + 2).toNatClampNeg)]) (st := [(.int r)]) (kL_law_2 43 rfl) rfl e2 (Nat.le_of_ble_eq_true rfl) (Nat.le_of_ble_eq_true rfl) ml_L_61 mf_X12_coat rfl rfl xf_X12 rfl (Nat.le_of_ble_eq_true rfl) hc hs ?_
  refine Y_ic_eq C (n := 564) (tgt := 1577) (kL_law_2 44 rfl) rfl rfl (fun _ => k S2 h3) (fun h => absurd rfl h)
def Ag_cloth (Rel : XS → Prop) : Prop := ∀ S, Rel S → ∀ (i1 : Int32) (i2 : Int32), ∃ r S1 S2, f_X11_cloth 0 i1 i2 S = some (r, S1) ∧ f_X12_cloth 188 i1 i2 S1 = some (r, S2) ∧ Rel S2
theorem lc_cloth {p : Program} {l : Launch} {e : Env} {s : State} {m : MethodId} {args : Array Value} {below : List Frame} {meth : Method} {c : Code} {g : XG} {A : Nat → Prop} {cells slots : Nat} {Q : State → Prop} {N9 : Nat} {xs : Nat → Int32} {i : Int32} {S : XS} {Rel : XS → Prop} (C : YC p room_1 s m args meth c g A mLaw) (hX : va_X (ad g 219) N9 xs s s.heap) (hbl : ad g 219 < s.heap.size) (hbA : ¬ A (ad g 219)) (hi : ∀ v : Int32, 1 ≤ v → v ≤ 5 → vp_in (i + v) N9) (hc : cells ≤ room_1.cells) (hs : slots ≤ room_1.slots) (hR : Rel S) (h : Ag_cloth Rel) (k : ∀ S2, Rel S2 → Y p l e room_1 s m args below meth c g A cells slots Q mLaw 1577 (LL i) [] S2) : Y p l e room_1 s m args below meth c g A cells slots Q mLaw 566 (LL i) [] S := by
  obtain ⟨r, S1, S2, h1, h2, h3⟩ := h S hR (xs (i + 1).toNatClampNeg) (xs (i + 2).toNatClampNeg)
  have e1 : Cl φI l g 3 mX11_cloth (.ref 0 :: [.int (xs (i + 1).toNatClampNeg), .int (xs (i + 2).toNatClampNeg)]) S (some (r, S1)) := by rw [← h1]; exact w_X11_cloth rfl
  have e2 : Cl φI l g 2 mX12_cloth (.ref 188 :: [.int (xs (i + 1).toNatClampNeg), .int (xs (i + 2).toNatClampNeg)]) S1 (some (r, S2)) := by rw [← h2]; exact w_X12_cloth rfl
  refine Y_aload_n C (n := 567) (x := 0) 3 (kL_law_2 47 rfl) rfl rfl rfl ?_
  refine Y_arg C hX hbl hbA (n := 573) (v := 1) (kL_law_2 48 rfl) (kL_law_2 49 rfl) (kL_law_2 50 rfl) (kL_law_2 51 rfl) (kL_law_2 52 rfl) (by decide) (hi 1 (by decide) (by decide)) rfl ?_
  refine Y_arg C hX hbl hbA (n := 579) (v := 2) (kL_law_2 53 rfl) (kL_law_2 54 rfl) (kL_law_2 55 rfl) (kL_law_2 56 rfl) (kL_law_2 57 rfl) (by decide) (hi 2 (by decide) (by decide)) rfl ?_
  refine Y_callV C (n := 582) (ψ := φI) (r := (r, S1)) (As := [.int (xs (i + 1).toNatClampNeg), .int (xs (i + 2).toNatClampNeg)]) (st := []) (kL_law_2 58 rfl) rfl e1 (Nat.le_of_ble_eq_true rfl) (Nat.le_of_ble_eq_true rfl) ml_L_62 mf_X11_cloth rfl rfl xf_X11 rfl (Nat.le_of_ble_eq_true rfl) hc hs ?_
  refine Y_aload_n C (n := 583) (x := 188) 2 (kL_law_2 59 rfl) rfl rfl rfl ?_
  refine Y_arg C hX hbl hbA (n := 589) (v := 1) (kL_law_2 60 rfl) (kL_law_2 61 rfl) (kL_law_2 62 rfl) (kL_law_2 63 rfl) (kL_law_2 64 rfl) (by decide) (hi 1 (by decide) (by decide)) rfl ?_
  refine Y_arg C hX hbl hbA (n := 595) (v := 2) (kL_law_2 65 rfl) (kL_law_2 66 rfl) (kL_law_2 67 rfl) (kL_law_2 68 rfl) (kL_law_2 69 rfl) (by decide) (hi 2 (by decide) (by decide)) rfl ?_
  refine Y_callV C (n := 598) (ψ := φI) (r := (r, S2)) (As := [.int (xs (i + 1).toNatClampNeg), .int (xs (i + 2).toNatClampNeg)]) (st := [(.int r)]) (kL_law_2 70 rfl) rfl e2 (Nat.le_of_ble_eq_true rfl) (Nat.le_of_ble_eq_true rfl) ml_L_65 mf_X12_cloth rfl rfl xf_X12 rfl (Nat.le_of_ble_eq_true rfl) hc hs ?_
  refine Y_ic_eq C (n := 601) (tgt := 1577) (kL_law_2 71 rfl) rfl rfl (fun _ => k S2 h3) (fun h => absurd rfl h)
def Ag_box (Rel : XS → Prop) : Prop := ∀ S, Rel S → ∀ (i1 : Int32) (i2 : Int32), ∃ r S1 S2, f_X11_box 0 i1 i2 S = some (r, S1) ∧ f_X12_box 188 i1 i2 S1 = some (r, S2) ∧ Rel S2
theorem lc_box {p : Program} {l : Launch} {e : Env} {s : State} {m : MethodId} {args : Array Value} {below : List Frame} {meth : Method} {c : Code} {g : XG} {A : Nat → Prop} {cells slots : Nat} {Q : State → Prop} {N9 : Nat} {xs : Nat → Int32} {i : Int32} {S : XS} {Rel : XS → Prop} (C : YC p room_1 s m args meth c g A mLaw) (hX : va_X (ad g 219) N9 xs s s.heap) (hbl : ad g 219 < s.heap.size) (hbA : ¬ A (ad g 219)) (hi : ∀ v : Int32, 1 ≤ v → v ≤ 5 → vp_in (i + v) N9) (hc : cells ≤ room_1.cells) (hs : slots ≤ room_1.slots) (hR : Rel S) (h : Ag_box Rel) (k : ∀ S2, Rel S2 → Y p l e room_1 s m args below meth c g A cells slots Q mLaw 1577 (LL i) [] S2) : Y p l e room_1 s m args below meth c g A cells slots Q mLaw 603 (LL i) [] S := by
  obtain ⟨r, S1, S2, h1, h2, h3⟩ := h S hR (xs (i + 1).toNatClampNeg) (xs (i + 2).toNatClampNeg)
  have e1 : Cl φI l g 3 mX11_box (.ref 0 :: [.int (xs (i + 1).toNatClampNeg), .int (xs (i + 2).toNatClampNeg)]) S (some (r, S1)) := by rw [← h1]; exact w_X11_box rfl
  have e2 : Cl φI l g 2 mX12_box (.ref 188 :: [.int (xs (i + 1).toNatClampNeg), .int (xs (i + 2).toNatClampNeg)]) S1 (some (r, S2)) := by rw [← h2]; exact w_X12_box rfl
  refine Y_aload_n C (n := 604) (x := 0) 3 (kL_law_2 74 rfl) rfl rfl rfl ?_
  refine Y_arg C hX hbl hbA (n := 610) (v := 1) (kL_law_2 75 rfl) (kL_law_2 76 rfl) (kL_law_2 77 rfl) (kL_law_2 78 rfl) (kL_law_2 79 rfl) (by decide) (hi 1 (by decide) (by decide)) rfl ?_
  refine Y_arg C hX hbl hbA (n := 616) (v := 2) (kL_law_2 80 rfl) (kL_law_2 81 rfl) (kL_law_2 82 rfl) (kL_law_2 83 rfl) (kL_law_2 84 rfl) (by decide) (hi 2 (by decide) (by decide)) rfl ?_
  refine Y_callV C (n := 619) (ψ := φI) (r := (r, S1)) (As := [.int (xs (i + 1).toNatClampNeg), .int (xs (i + 2).toNatClampNeg)]) (st := []) (kL_law_2 85 rfl) rfl e1 (Nat.le_of_ble_eq_true rfl) (Nat.le_of_ble_eq_true rfl) ml_L_66 mf_X11_box rfl rfl xf_X11 rfl (Nat.le_of_ble_eq_true rfl) hc hs ?_
  refine Y_aload_n C (n := 620) (x := 188) 2 (kL_law_2 86 rfl) rfl rfl rfl ?_
  refine Y_arg C hX hbl hbA (n := 626) (v := 1) (kL_law_2 87 rfl) (kL_law_2 88 rfl) (kL_law_2 89 rfl) (kL_law_2 90 rfl) (kL_law_2 91 rfl) (by decide) (hi 1 (by decide) (by decide)) rfl ?_
  refine Y_arg C hX hbl hbA (n := 632) (v := 2) (kL_law_2 92 rfl) (kL_law_2 93 rfl) (kL_law_2 94 rfl) (kL_law_2 95 rfl) (kL_law_2 96 rfl) (by decide) (hi 2 (by decide) (by decide)) rfl ?_
  refine Y_callV C (n := 635) (ψ := φI) (r := (r, S2)) (As := [.int (xs (i + 1).toNatClampNeg), .int (xs (i + 2).toNatClampNeg)]) (st := [(.int r)]) (kL_law_2 97 rfl) rfl e2 (Nat.le_of_ble_eq_true rfl) (Nat.le_of_ble_eq_true rfl) ml_L_69 mf_X12_box rfl rfl xf_X12 rfl (Nat.le_of_ble_eq_true rfl) hc hs ?_
  refine Y_ic_eq C (n := 638) (tgt := 1577) (kL_law_2 98 rfl) rfl rfl (fun _ => k S2 h3) (fun h => absurd rfl h)
def Ag_goes (Rel : XS → Prop) : Prop := ∀ S, Rel S → ∀ (i1 : Int32) (i2 : Int32), ∃ r S1 S2, f_X11_goes 0 i1 i2 S = some (r, S1) ∧ f_X12_goes 188 i1 i2 S1 = some (r, S2) ∧ Rel S2
theorem lc_goes {p : Program} {l : Launch} {e : Env} {s : State} {m : MethodId} {args : Array Value} {below : List Frame} {meth : Method} {c : Code} {g : XG} {A : Nat → Prop} {cells slots : Nat} {Q : State → Prop} {N9 : Nat} {xs : Nat → Int32} {i : Int32} {S : XS} {Rel : XS → Prop} (C : YC p room_1 s m args meth c g A mLaw) (hX : va_X (ad g 219) N9 xs s s.heap) (hbl : ad g 219 < s.heap.size) (hbA : ¬ A (ad g 219)) (hi : ∀ v : Int32, 1 ≤ v → v ≤ 5 → vp_in (i + v) N9) (hc : cells ≤ room_1.cells) (hs : slots ≤ room_1.slots) (hR : Rel S) (h : Ag_goes Rel) (k : ∀ S2, Rel S2 → Y p l e room_1 s m args below meth c g A cells slots Q mLaw 1577 (LL i) [] S2) : Y p l e room_1 s m args below meth c g A cells slots Q mLaw 640 (LL i) [] S := by
  obtain ⟨r, S1, S2, h1, h2, h3⟩ := h S hR (xs (i + 1).toNatClampNeg) (xs (i + 2).toNatClampNeg)
  have e1 : Cl φB l g 5 mX11_goes (.ref 0 :: [.int (xs (i + 1).toNatClampNeg), .int (xs (i + 2).toNatClampNeg)]) S (some (r, S1)) := by rw [← h1]; exact w_X11_goes rfl
  have e2 : Cl φB l g 2 mX12_goes (.ref 188 :: [.int (xs (i + 1).toNatClampNeg), .int (xs (i + 2).toNatClampNeg)]) S1 (some (r, S2)) := by rw [← h2]; exact w_X12_goes rfl
  refine Y_aload_n C (n := 641) (x := 0) 3 (kL_law_3 1 rfl) rfl rfl rfl ?_
  refine Y_arg C hX hbl hbA (n := 647) (v := 1) (kL_law_3 2 rfl) (kL_law_3 3 rfl) (kL_law_3 4 rfl) (kL_law_3 5 rfl) (kL_law_3 6 rfl) (by decide) (hi 1 (by decide) (by decide)) rfl ?_
  refine Y_arg C hX hbl hbA (n := 653) (v := 2) (kL_law_3 7 rfl) (kL_law_3 8 rfl) (kL_law_3 9 rfl) (kL_law_3 10 rfl) (kL_law_3 11 rfl) (by decide) (hi 2 (by decide) (by decide)) rfl ?_
  refine Y_callV C (n := 656) (ψ := φB) (r := (r, S1)) (As := [.int (xs (i + 1).toNatClampNeg), .int (xs (i + 2).toNatClampNeg)]) (st := []) (kL_law_3 12 rfl) rfl e1 (Nat.le_of_ble_eq_true rfl) (Nat.le_of_ble_eq_true rfl) ml_L_70 mf_X11_goes rfl rfl xf_X11 rfl (Nat.le_of_ble_eq_true rfl) hc hs ?_
  refine Y_aload_n C (n := 657) (x := 188) 2 (kL_law_3 13 rfl) rfl rfl rfl ?_
  refine Y_arg C hX hbl hbA (n := 663) (v := 1) (kL_law_3 14 rfl) (kL_law_3 15 rfl) (kL_law_3 16 rfl) (kL_law_3 17 rfl) (kL_law_3 18 rfl) (by decide) (hi 1 (by decide) (by decide)) rfl ?_
  refine Y_arg C hX hbl hbA (n := 669) (v := 2) (kL_law_3 19 rfl) (kL_law_3 20 rfl) (kL_law_3 21 rfl) (kL_law_3 22 rfl) (kL_law_3 23 rfl) (by decide) (hi 2 (by decide) (by decide)) rfl ?_
  refine Y_callV C (n := 672) (ψ := φB) (r := (r, S2)) (As := [.int (xs (i + 1).toNatClampNeg), .int (xs (i + 2).toNatClampNeg)]) (st := [(.int (bi r))]) (kL_law_3 24 rfl) rfl e2 (Nat.le_of_ble_eq_true rfl) (Nat.le_of_ble_eq_true rfl) ml_L_74 mf_X12_goes rfl rfl xf_X12 rfl (Nat.le_of_ble_eq_true rfl) hc hs ?_
  refine Y_ic_eq C (n := 675) (tgt := 1577) (kL_law_3 25 rfl) rfl rfl (fun _ => k S2 h3) (fun h => absurd rfl h)
def Ag_change (Rel : XS → Prop) : Prop := ∀ S, Rel S → ∀ (i1 : Int32) (i2 : Int32), ∃ r S1 S2, f_X11_change 0 i1 i2 S = some (r, S1) ∧ f_X12_change 188 i1 i2 S1 = some (r, S2) ∧ Rel S2
theorem lc_change {p : Program} {l : Launch} {e : Env} {s : State} {m : MethodId} {args : Array Value} {below : List Frame} {meth : Method} {c : Code} {g : XG} {A : Nat → Prop} {cells slots : Nat} {Q : State → Prop} {N9 : Nat} {xs : Nat → Int32} {i : Int32} {S : XS} {Rel : XS → Prop} (C : YC p room_1 s m args meth c g A mLaw) (hX : va_X (ad g 219) N9 xs s s.heap) (hbl : ad g 219 < s.heap.size) (hbA : ¬ A (ad g 219)) (hi : ∀ v : Int32, 1 ≤ v → v ≤ 5 → vp_in (i + v) N9) (hc : cells ≤ room_1.cells) (hs : slots ≤ room_1.slots) (hR : Rel S) (h : Ag_change Rel) (k : ∀ S2, Rel S2 → Y p l e room_1 s m args below meth c g A cells slots Q mLaw 1577 (LL i) [] S2) : Y p l e room_1 s m args below meth c g A cells slots Q mLaw 677 (LL i) [] S := by
  obtain ⟨r, S1, S2, h1, h2, h3⟩ := h S hR (xs (i + 1).toNatClampNeg) (xs (i + 2).toNatClampNeg)
  have e1 : Cl φB l g 5 mX11_change (.ref 0 :: [.int (xs (i + 1).toNatClampNeg), .int (xs (i + 2).toNatClampNeg)]) S (some (r, S1)) := by rw [← h1]; exact w_X11_change rfl
  have e2 : Cl φB l g 2 mX12_change (.ref 188 :: [.int (xs (i + 1).toNatClampNeg), .int (xs (i + 2).toNatClampNeg)]) S1 (some (r, S2)) := by rw [← h2]; exact w_X12_change rfl
  refine Y_aload_n C (n := 678) (x := 0) 3 (kL_law_3 28 rfl) rfl rfl rfl ?_
  refine Y_arg C hX hbl hbA (n := 684) (v := 1) (kL_law_3 29 rfl) (kL_law_3 30 rfl) (kL_law_3 31 rfl) (kL_law_3 32 rfl) (kL_law_3 33 rfl) (by decide) (hi 1 (by decide) (by decide)) rfl ?_
  refine Y_arg C hX hbl hbA (n := 690) (v := 2) (kL_law_3 34 rfl) (kL_law_3 35 rfl) (kL_law_3 36 rfl) (kL_law_3 37 rfl) (kL_law_3 38 rfl) (by decide) (hi 2 (by decide) (by decide)) rfl ?_
  refine Y_callV C (n := 693) (ψ := φB) (r := (r, S1)) (As := [.int (xs (i + 1).toNatClampNeg), .int (xs (i + 2).toNatClampNeg)]) (st := []) (kL_law_3 39 rfl) rfl e1 (Nat.le_of_ble_eq_true rfl) (Nat.le_of_ble_eq_true rfl) ml_L_75 mf_X11_change rfl rfl xf_X11 rfl (Nat.le_of_ble_eq_true rfl) hc hs ?_
  refine Y_aload_n C (n := 694) (x := 188) 2 (kL_law_3 40 rfl) rfl rfl rfl ?_
  refine Y_arg C hX hbl hbA (n := 700) (v := 1) (kL_law_3 41 rfl) (kL_law_3 42 rfl) (kL_law_3 43 rfl) (kL_law_3 44 rfl) (kL_law_3 45 rfl) (by decide) (hi 1 (by decide) (by decide)) rfl ?_
  refine Y_arg C hX hbl hbA (n := 706) (v := 2) (kL_law_3 46 rfl) (kL_law_3 47 rfl) (kL_law_3 48 rfl) (kL_law_3 49 rfl) (kL_law_3 50 rfl) (by decide) (hi 2 (by decide) (by decide)) rfl ?_
  refine Y_callV C (n := 709) (ψ := φB) (r := (r, S2)) (As := [.int (xs (i + 1).toNatClampNeg), .int (xs (i + 2).toNatClampNeg)]) (st := [(.int (bi r))]) (kL_law_3 51 rfl) rfl e2 (Nat.le_of_ble_eq_true rfl) (Nat.le_of_ble_eq_true rfl) ml_L_78 mf_X12_change rfl rfl xf_X12 rfl (Nat.le_of_ble_eq_true rfl) hc hs ?_
  refine Y_ic_eq C (n := 712) (tgt := 1577) (kL_law_3 52 rfl) rfl rfl (fun _ => k S2 h3) (fun h => absurd rfl h)
