abbrev mLaw : MethodName × ByteArray × Nat × Option FieldType := (x, code, 7, ret)
theorem cc_L8 : Cond.classLink RL 8 RX11 ∈ TT := (TQ1 25 rfl rfl)
theorem cc_L19 : Cond.classLink RL 19 RX12 ∈ TT := (TQ6 126 rfl rfl)
theorem start_walk {p : Program} {l : Launch} {e : Env} {s : State} {m : MethodId} {args : Array Value} {below : List Frame} {meth : Method} {c : Code} {g : XG} {Q : State → Prop} (C : CY mLaw p s m args meth c) (K : KA g s)
    (kk : YB p l e room_1 s m args below meth c g 218 16632 Q mLaw 20 [(3, .ref 217), (2, .ref 188), (1, .ref 0), (0, .ref 219)] [] 218 []) : YB p l e room_1 s m args below meth c g 0 0 Q mLaw 0 [(0, .ref 219)] [] 0 [] := by
  refine YB_new C K (n9 := 3) (fs := [.null, .null, .null, .null, .null, .null, .null, .null, .int 0, .int 0, .null, .null, .null, .null, .null, .null, .null, .null, .null, .int 0]) xf_X11 (by decide) cc_L8 it_X11 in_X11 (by decide) (Nat.le_of_ble_eq_true rfl) (Nat.le_of_ble_eq_true rfl) (kL_law 0 rfl) rfl ?_
  refine YB_dup C K (n9 := 4) (kL_law 1 rfl) rfl rfl ?_
  refine YB_callI C K (n9 := 7) (As := []) (st := [.ref 0]) (C_X11_init_0 (o' := []) (fun k hk => rfl)) (by decide) (by decide) ml_L_18 mi_X11 rfl (by decide) rfl (Nat.le_of_ble_eq_true rfl) (Nat.le_of_ble_eq_true rfl) (Nat.le_of_ble_eq_true rfl) (kL_law 2 rfl) rfl ?_
  refine YB_astore_n C K (n9 := 8) (i := 1) (L1 := [(1, .ref 0), (0, .ref 219)]) (kL_law 3 rfl) rfl rfl (by decide) rfl ?_
  refine YB_new C K (n9 := 11) (fs := [.int 0, .null, .int 0, .int 0, .int 0, .int 0, .int 0, .int 0, .int 0, .int 0, .int 0, .int 0, .long 0, .int 0, .null, .null, .null, .null, .null, .null, .null, .null, .null, .int 0, .null, .null, .null, .null, .null, .int 0, .int 0, .null, .null, .int 0, .null, .null, .null, .null, .null, .int 0, .int 0, .int 0, .null, .null, .int 0, .int 0, .int 0, .int 0, .int 0, .int 0, .int 0, .null, .null, .null, .int 0, .null, .int 0, .int 0, .int 0, .int 0]) xf_X12 (by decide) cc_L19 it_X12 in_X12 (by decide) (Nat.le_of_ble_eq_true rfl) (Nat.le_of_ble_eq_true rfl) (kL_law 4 rfl) rfl ?_
  refine YB_dup C K (n9 := 12) (kL_law 5 rfl) rfl rfl ?_
  refine YB_callI C K (n9 := 15) (As := []) (st := [.ref 188]) (C_X12_init_188 (o' := []) (fun k hk => rfl)) (by decide) (by decide) ml_L_21 mi_X12 rfl (by decide) rfl (Nat.le_of_ble_eq_true rfl) (Nat.le_of_ble_eq_true rfl) (Nat.le_of_ble_eq_true rfl) (kL_law 6 rfl) rfl ?_
  refine YB_astore_n C K (n9 := 16) (i := 2) (L1 := [(2, .ref 188), (1, .ref 0), (0, .ref 219)]) (kL_law 7 rfl) rfl rfl (by decide) rfl ?_
  refine YB_iconst C K (n9 := 17) (v := 1) (kL_law 8 rfl) rfl (by decide) ?_
  refine YB_newaJ C K (n9 := 19) (N9 := 1) (by decide) ac_long (by decide) (by decide) (Nat.le_of_ble_eq_true rfl) (Nat.le_of_ble_eq_true rfl) (Nat.le_of_ble_eq_true rfl) (kL_law 9 rfl) rfl rfl rfl rfl rfl ?_
  refine YB_astore_n C K (n9 := 20) (i := 3) (L1 := [(3, .ref 217), (2, .ref 188), (1, .ref 0), (0, .ref 219)]) (kL_law 10 rfl) rfl rfl (by decide) rfl ?_
  exact kk
