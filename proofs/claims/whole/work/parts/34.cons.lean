set_option maxHeartbeats 4000000 in
set_option maxRecDepth 100000 in
theorem C_X12_init_188 {l : Launch} {g : XG} {o' : XO} (ho : ∀ k, 188 ≤ k → lk o' k = none) : ClA l g 2 28 4938 mX12_init [.ref 188] 189 ((188, .inr (12, [.int 0, .null, .int 0, .int 0, .int 0, .int 0, .int 0, .int 0, .int 0, .int 0, .int 0, .int 0, .long 0, .int 0, .null, .null, .null, .null, .null, .null, .null, .null, .null, .int 0, .null, .null, .null, .null, .null, .int 0, .int 0, .null, .null, .int 0, .null, .null, .null, .null, .null, .int 0, .int 0, .int 0, .null, .null, .int 0, .int 0, .int 0, .int 0, .int 0, .int 0, .int 0, .null, .null, .null, .int 0, .null, .int 0, .int 0, .int 0, .int 0])) :: o') 217 o' := by
  refine ClA.of (by decide +kernel) rfl (Nat.le_of_ble_eq_true rfl) ?_
  show B _ _ _ _ _ _ 0 [(0, .ref 188)] [] _ _ _ _ _ _
  refine B_aload_n (n9 := 1) 0 (kX12_init 0 rfl) rfl rfl rfl ?_
  refine B_obj (n9 := 4) (st := []) ol_X12_1 ob_1 ob_2 (Nat.le_of_ble_eq_true rfl) (Nat.le_of_ble_eq_true rfl) (kX12_init 1 rfl) rfl ?_
  refine B_aload_n (n9 := 5) 0 (kX12_init 2 rfl) rfl rfl rfl ?_
  refine B_sipush (n9 := 8) (v := 940) (kX12_init 3 rfl) rfl (by decide) ?_
  refine B_newaI (n9 := 10) (N := 940) (by decide) ac_int (by decide) (by decide) (Nat.le_of_ble_eq_true rfl) (Nat.le_of_ble_eq_true rfl) (Nat.le_of_ble_eq_true rfl) (kX12_init 4 rfl) rfl rfl rfl (S0z (by decide)) (lk_c (by decide) (ho 189 (by decide))) ?_
  refine B_putF (n9 := 13) (o' := ((188, .inr (12, [.int 0, .ref (ad g 189), .int 0, .int 0, .int 0, .int 0, .int 0, .int 0, .int 0, .int 0, .int 0, .int 0, .long 0, .int 0, .null, .null, .null, .null, .null, .null, .null, .null, .null, .int 0, .null, .null, .null, .null, .null, .int 0, .int 0, .null, .null, .int 0, .null, .null, .null, .null, .null, .int 0, .int 0, .int 0, .null, .null, .int 0, .int 0, .int 0, .int 0, .int 0, .int 0, .int 0, .null, .null, .null, .int 0, .null, .int 0, .int 0, .int 0, .int 0])) :: o')) xf_X12 rfl (by decide) (by decide) (Nat.le_of_ble_eq_true rfl) rfl rfl rfl rfl rfl rfl fl_X12_7 (kX12_init 5 rfl) rfl ?_
  refine B_aload_n (n9 := 14) 0 (kX12_init 6 rfl) rfl rfl rfl ?_
  refine B_sipush (n9 := 17) (v := 516) (kX12_init 7 rfl) rfl (by decide) ?_
  refine B_newaI (n9 := 19) (N := 516) (by decide) ac_int (by decide) (by decide) (Nat.le_of_ble_eq_true rfl) (Nat.le_of_ble_eq_true rfl) (Nat.le_of_ble_eq_true rfl) (kX12_init 8 rfl) rfl rfl rfl (S0z (by decide)) (lk_c (by decide) (ho 190 (by decide))) ?_
  refine B_putF (n9 := 22) (o' := ((188, .inr (12, [.int 0, .ref (ad g 189), .int 0, .int 0, .int 0, .int 0, .int 0, .int 0, .int 0, .int 0, .int 0, .int 0, .long 0, .int 0, .ref (ad g 190), .null, .null, .null, .null, .null, .null, .null, .null, .int 0, .null, .null, .null, .null, .null, .int 0, .int 0, .null, .null, .int 0, .null, .null, .null, .null, .null, .int 0, .int 0, .int 0, .null, .null, .int 0, .int 0, .int 0, .int 0, .int 0, .int 0, .int 0, .null, .null, .null, .int 0, .null, .int 0, .int 0, .int 0, .int 0])) :: o')) xf_X12 rfl (by decide) (by decide) (Nat.le_of_ble_eq_true rfl) rfl rfl rfl rfl rfl rfl fl_X12_13 (kX12_init 9 rfl) rfl ?_
  refine B_aload_n (n9 := 23) 0 (kX12_init 10 rfl) rfl rfl rfl ?_
  refine B_sipush (n9 := 26) (v := 144) (kX12_init 11 rfl) rfl (by decide) ?_
  refine B_newaI (n9 := 28) (N := 144) (by decide) ac_int (by decide) (by decide) (Nat.le_of_ble_eq_true rfl) (Nat.le_of_ble_eq_true rfl) (Nat.le_of_ble_eq_true rfl) (kX12_init 12 rfl) rfl rfl rfl (S0z (by decide)) (lk_c (by decide) (ho 191 (by decide))) ?_
  refine B_putF (n9 := 31) (o' := ((188, .inr (12, [.int 0, .ref (ad g 189), .int 0, .int 0, .int 0, .int 0, .int 0, .int 0, .int 0, .int 0, .int 0, .int 0, .long 0, .int 0, .ref (ad g 190), .ref (ad g 191), .null, .null, .null, .null, .null, .null, .null, .int 0, .null, .null, .null, .null, .null, .int 0, .int 0, .null, .null, .int 0, .null, .null, .null, .null, .null, .int 0, .int 0, .int 0, .null, .null, .int 0, .int 0, .int 0, .int 0, .int 0, .int 0, .int 0, .null, .null, .null, .int 0, .null, .int 0, .int 0, .int 0, .int 0])) :: o')) xf_X12 rfl (by decide) (by decide) (Nat.le_of_ble_eq_true rfl) rfl rfl rfl rfl rfl rfl fl_X12_16 (kX12_init 13 rfl) rfl ?_
  refine B_aload_n (n9 := 32) 0 (kX12_init 14 rfl) rfl rfl rfl ?_
  refine B_sipush (n9 := 35) (v := 1032) (kX12_init 15 rfl) rfl (by decide) ?_
  refine B_newaI (n9 := 37) (N := 1032) (by decide) ac_int (by decide) (by decide) (Nat.le_of_ble_eq_true rfl) (Nat.le_of_ble_eq_true rfl) (Nat.le_of_ble_eq_true rfl) (kX12_init 16 rfl) rfl rfl rfl (S0z (by decide)) (lk_c (by decide) (ho 192 (by decide))) ?_
  refine B_putF (n9 := 40) (o' := ((188, .inr (12, [.int 0, .ref (ad g 189), .int 0, .int 0, .int 0, .int 0, .int 0, .int 0, .int 0, .int 0, .int 0, .int 0, .long 0, .int 0, .ref (ad g 190), .ref (ad g 191), .ref (ad g 192), .null, .null, .null, .null, .null, .null, .int 0, .null, .null, .null, .null, .null, .int 0, .int 0, .null, .null, .int 0, .null, .null, .null, .null, .null, .int 0, .int 0, .int 0, .null, .null, .int 0, .int 0, .int 0, .int 0, .int 0, .int 0, .int 0, .null, .null, .null, .int 0, .null, .int 0, .int 0, .int 0, .int 0])) :: o')) xf_X12 rfl (by decide) (by decide) (Nat.le_of_ble_eq_true rfl) rfl rfl rfl rfl rfl rfl fl_X12_19 (kX12_init 17 rfl) rfl ?_
  refine B_aload_n (n9 := 41) 0 (kX12_init 18 rfl) rfl rfl rfl ?_
  refine B_sipush (n9 := 44) (v := 1040) (kX12_init 19 rfl) rfl (by decide) ?_
  refine B_newaI (n9 := 46) (N := 1040) (by decide) ac_int (by decide) (by decide) (Nat.le_of_ble_eq_true rfl) (Nat.le_of_ble_eq_true rfl) (Nat.le_of_ble_eq_true rfl) (kX12_init 20 rfl) rfl rfl rfl (S0z (by decide)) (lk_c (by decide) (ho 193 (by decide))) ?_
  refine B_putF (n9 := 49) (o' := ((188, .inr (12, [.int 0, .ref (ad g 189), .int 0, .int 0, .int 0, .int 0, .int 0, .int 0, .int 0, .int 0, .int 0, .int 0, .long 0, .int 0, .ref (ad g 190), .ref (ad g 191), .ref (ad g 192), .ref (ad g 193), .null, .null, .null, .null, .null, .int 0, .null, .null, .null, .null, .null, .int 0, .int 0, .null, .null, .int 0, .null, .null, .null, .null, .null, .int 0, .int 0, .int 0, .null, .null, .int 0, .int 0, .int 0, .int 0, .int 0, .int 0, .int 0, .null, .null, .null, .int 0, .null, .int 0, .int 0, .int 0, .int 0])) :: o')) xf_X12 rfl (by decide) (by decide) (Nat.le_of_ble_eq_true rfl) rfl rfl rfl rfl rfl rfl fl_X12_22 (kX12_init 21 rfl) rfl ?_
  refine B_aload_n (n9 := 50) 0 (kX12_init 22 rfl) rfl rfl rfl ?_
  refine B_sipush (n9 := 53) (v := 130) (kX12_init 23 rfl) rfl (by decide) ?_
  refine B_newaI (n9 := 55) (N := 130) (by decide) ac_int (by decide) (by decide) (Nat.le_of_ble_eq_true rfl) (Nat.le_of_ble_eq_true rfl) (Nat.le_of_ble_eq_true rfl) (kX12_init 24 rfl) rfl rfl rfl (S0z (by decide)) (lk_c (by decide) (ho 194 (by decide))) ?_
  refine B_putF (n9 := 58) (o' := ((188, .inr (12, [.int 0, .ref (ad g 189), .int 0, .int 0, .int 0, .int 0, .int 0, .int 0, .int 0, .int 0, .int 0, .int 0, .long 0, .int 0, .ref (ad g 190), .ref (ad g 191), .ref (ad g 192), .ref (ad g 193), .ref (ad g 194), .null, .null, .null, .null, .int 0, .null, .null, .null, .null, .null, .int 0, .int 0, .null, .null, .int 0, .null, .null, .null, .null, .null, .int 0, .int 0, .int 0, .null, .null, .int 0, .int 0, .int 0, .int 0, .int 0, .int 0, .int 0, .null, .null, .null, .int 0, .null, .int 0, .int 0, .int 0, .int 0])) :: o')) xf_X12 rfl (by decide) (by decide) (Nat.le_of_ble_eq_true rfl) rfl rfl rfl rfl rfl rfl fl_X12_25 (kX12_init 25 rfl) rfl ?_
  refine B_aload_n (n9 := 59) 0 (kX12_init 26 rfl) rfl rfl rfl ?_
  refine B_bipush (n9 := 61) (v := 18) (kX12_init 27 rfl) rfl (by decide) ?_
  refine B_newaJ (n9 := 63) (N := 18) (by decide) ac_long (by decide) (by decide) (Nat.le_of_ble_eq_true rfl) (Nat.le_of_ble_eq_true rfl) (Nat.le_of_ble_eq_true rfl) (kX12_init 28 rfl) rfl rfl rfl (S0zJ (by decide)) (lk_c (by decide) (ho 195 (by decide))) ?_
  refine B_putF (n9 := 66) (o' := ((188, .inr (12, [.int 0, .ref (ad g 189), .int 0, .int 0, .int 0, .int 0, .int 0, .int 0, .int 0, .int 0, .int 0, .int 0, .long 0, .int 0, .ref (ad g 190), .ref (ad g 191), .ref (ad g 192), .ref (ad g 193), .ref (ad g 194), .ref (ad g 195), .null, .null, .null, .int 0, .null, .null, .null, .null, .null, .int 0, .int 0, .null, .null, .int 0, .null, .null, .null, .null, .null, .int 0, .int 0, .int 0, .null, .null, .int 0, .int 0, .int 0, .int 0, .int 0, .int 0, .int 0, .null, .null, .null, .int 0, .null, .int 0, .int 0, .int 0, .int 0])) :: o')) xf_X12 rfl (by decide) (by decide) (Nat.le_of_ble_eq_true rfl) rfl rfl rfl rfl rfl rfl fl_X12_28 (kX12_init 29 rfl) rfl ?_
  refine B_aload_n (n9 := 67) 0 (kX12_init 30 rfl) rfl rfl rfl ?_
  refine B_bipush (n9 := 69) (v := 18) (kX12_init 31 rfl) rfl (by decide) ?_
  refine B_newaJ (n9 := 71) (N := 18) (by decide) ac_long (by decide) (by decide) (Nat.le_of_ble_eq_true rfl) (Nat.le_of_ble_eq_true rfl) (Nat.le_of_ble_eq_true rfl) (kX12_init 32 rfl) rfl rfl rfl (S0zJ (by decide)) (lk_c (by decide) (ho 196 (by decide))) ?_
  refine B_putF (n9 := 74) (o' := ((188, .inr (12, [.int 0, .ref (ad g 189), .int 0, .int 0, .int 0, .int 0, .int 0, .int 0, .int 0, .int 0, .int 0, .int 0, .long 0, .int 0, .ref (ad g 190), .ref (ad g 191), .ref (ad g 192), .ref (ad g 193), .ref (ad g 194), .ref (ad g 195), .ref (ad g 196), .null, .null, .int 0, .null, .null, .null, .null, .null, .int 0, .int 0, .null, .null, .int 0, .null, .null, .null, .null, .null, .int 0, .int 0, .int 0, .null, .null, .int 0, .int 0, .int 0, .int 0, .int 0, .int 0, .int 0, .null, .null, .null, .int 0, .null, .int 0, .int 0, .int 0, .int 0])) :: o')) xf_X12 rfl (by decide) (by decide) (Nat.le_of_ble_eq_true rfl) rfl rfl rfl rfl rfl rfl fl_X12_32 (kX12_init 33 rfl) rfl ?_
  refine B_aload_n (n9 := 75) 0 (kX12_init 34 rfl) rfl rfl rfl ?_
  refine B_bipush (n9 := 77) (v := 36) (kX12_init 35 rfl) rfl (by decide) ?_
  refine B_newaJ (n9 := 79) (N := 36) (by decide) ac_long (by decide) (by decide) (Nat.le_of_ble_eq_true rfl) (Nat.le_of_ble_eq_true rfl) (Nat.le_of_ble_eq_true rfl) (kX12_init 36 rfl) rfl rfl rfl (S0zJ (by decide)) (lk_c (by decide) (ho 197 (by decide))) ?_
  refine B_putF (n9 := 82) (o' := ((188, .inr (12, [.int 0, .ref (ad g 189), .int 0, .int 0, .int 0, .int 0, .int 0, .int 0, .int 0, .int 0, .int 0, .int 0, .long 0, .int 0, .ref (ad g 190), .ref (ad g 191), .ref (ad g 192), .ref (ad g 193), .ref (ad g 194), .ref (ad g 195), .ref (ad g 196), .ref (ad g 197), .null, .int 0, .null, .null, .null, .null, .null, .int 0, .int 0, .null, .null, .int 0, .null, .null, .null, .null, .null, .int 0, .int 0, .int 0, .null, .null, .int 0, .int 0, .int 0, .int 0, .int 0, .int 0, .int 0, .null, .null, .null, .int 0, .null, .int 0, .int 0, .int 0, .int 0])) :: o')) xf_X12 rfl (by decide) (by decide) (Nat.le_of_ble_eq_true rfl) rfl rfl rfl rfl rfl rfl fl_X12_35 (kX12_init 37 rfl) rfl ?_
  refine B_aload_n (n9 := 83) 0 (kX12_init 38 rfl) rfl rfl rfl ?_
  refine B_iconst (n9 := 84) (v := 2) (kX12_init 39 rfl) rfl (by decide) ?_
  refine B_newaZ (n9 := 86) (N := 2) (by decide) ac_boolean (by decide) (by decide) (Nat.le_of_ble_eq_true rfl) (Nat.le_of_ble_eq_true rfl) (Nat.le_of_ble_eq_true rfl) (kX12_init 40 rfl) rfl rfl rfl (S0z (by decide)) (lk_c (by decide) (ho 198 (by decide))) ?_
  refine B_putF (n9 := 89) (o' := ((188, .inr (12, [.int 0, .ref (ad g 189), .int 0, .int 0, .int 0, .int 0, .int 0, .int 0, .int 0, .int 0, .int 0, .int 0, .long 0, .int 0, .ref (ad g 190), .ref (ad g 191), .ref (ad g 192), .ref (ad g 193), .ref (ad g 194), .ref (ad g 195), .ref (ad g 196), .ref (ad g 197), .ref (ad g 198), .int 0, .null, .null, .null, .null, .null, .int 0, .int 0, .null, .null, .int 0, .null, .null, .null, .null, .null, .int 0, .int 0, .int 0, .null, .null, .int 0, .int 0, .int 0, .int 0, .int 0, .int 0, .int 0, .null, .null, .null, .int 0, .null, .int 0, .int 0, .int 0, .int 0])) :: o')) xf_X12 rfl (by decide) (by decide) (Nat.le_of_ble_eq_true rfl) rfl rfl rfl rfl rfl rfl fl_X12_38 (kX12_init 41 rfl) rfl ?_
  refine B_aload_n (n9 := 90) 0 (kX12_init 42 rfl) rfl rfl rfl ?_
  refine B_bipush (n9 := 92) (v := 54) (kX12_init 43 rfl) rfl (by decide) ?_
  refine B_newaI (n9 := 94) (N := 54) (by decide) ac_int (by decide) (by decide) (Nat.le_of_ble_eq_true rfl) (Nat.le_of_ble_eq_true rfl) (Nat.le_of_ble_eq_true rfl) (kX12_init 44 rfl) rfl rfl rfl (S0z (by decide)) (lk_c (by decide) (ho 199 (by decide))) ?_
  refine B_putF (n9 := 97) (o' := ((188, .inr (12, [.int 0, .ref (ad g 189), .int 0, .int 0, .int 0, .int 0, .int 0, .int 0, .int 0, .int 0, .int 0, .int 0, .long 0, .int 0, .ref (ad g 190), .ref (ad g 191), .ref (ad g 192), .ref (ad g 193), .ref (ad g 194), .ref (ad g 195), .ref (ad g 196), .ref (ad g 197), .ref (ad g 198), .int 0, .ref (ad g 199), .null, .null, .null, .null, .int 0, .int 0, .null, .null, .int 0, .null, .null, .null, .null, .null, .int 0, .int 0, .int 0, .null, .null, .int 0, .int 0, .int 0, .int 0, .int 0, .int 0, .int 0, .null, .null, .null, .int 0, .null, .int 0, .int 0, .int 0, .int 0])) :: o')) xf_X12 rfl (by decide) (by decide) (Nat.le_of_ble_eq_true rfl) rfl rfl rfl rfl rfl rfl fl_X12_42 (kX12_init 45 rfl) rfl ?_
  refine B_aload_n (n9 := 98) 0 (kX12_init 46 rfl) rfl rfl rfl ?_
  refine B_bipush (n9 := 100) (v := 8) (kX12_init 47 rfl) rfl (by decide) ?_
  refine B_newaI (n9 := 102) (N := 8) (by decide) ac_int (by decide) (by decide) (Nat.le_of_ble_eq_true rfl) (Nat.le_of_ble_eq_true rfl) (Nat.le_of_ble_eq_true rfl) (kX12_init 48 rfl) rfl rfl rfl (S0z (by decide)) (lk_c (by decide) (ho 200 (by decide))) ?_
  refine B_putF (n9 := 105) (o' := ((188, .inr (12, [.int 0, .ref (ad g 189), .int 0, .int 0, .int 0, .int 0, .int 0, .int 0, .int 0, .int 0, .int 0, .int 0, .long 0, .int 0, .ref (ad g 190), .ref (ad g 191), .ref (ad g 192), .ref (ad g 193), .ref (ad g 194), .ref (ad g 195), .ref (ad g 196), .ref (ad g 197), .ref (ad g 198), .int 0, .ref (ad g 199), .ref (ad g 200), .null, .null, .null, .int 0, .int 0, .null, .null, .int 0, .null, .null, .null, .null, .null, .int 0, .int 0, .int 0, .null, .null, .int 0, .int 0, .int 0, .int 0, .int 0, .int 0, .int 0, .null, .null, .null, .int 0, .null, .int 0, .int 0, .int 0, .int 0])) :: o')) xf_X12 rfl (by decide) (by decide) (Nat.le_of_ble_eq_true rfl) rfl rfl rfl rfl rfl rfl fl_X12_45 (kX12_init 49 rfl) rfl ?_
  refine B_aload_n (n9 := 106) 0 (kX12_init 50 rfl) rfl rfl rfl ?_
  refine B_bipush (n9 := 108) (v := 8) (kX12_init 51 rfl) rfl (by decide) ?_
  refine B_newaI (n9 := 110) (N := 8) (by decide) ac_int (by decide) (by decide) (Nat.le_of_ble_eq_true rfl) (Nat.le_of_ble_eq_true rfl) (Nat.le_of_ble_eq_true rfl) (kX12_init 52 rfl) rfl rfl rfl (S0z (by decide)) (lk_c (by decide) (ho 201 (by decide))) ?_
  refine B_putF (n9 := 113) (o' := ((188, .inr (12, [.int 0, .ref (ad g 189), .int 0, .int 0, .int 0, .int 0, .int 0, .int 0, .int 0, .int 0, .int 0, .int 0, .long 0, .int 0, .ref (ad g 190), .ref (ad g 191), .ref (ad g 192), .ref (ad g 193), .ref (ad g 194), .ref (ad g 195), .ref (ad g 196), .ref (ad g 197), .ref (ad g 198), .int 0, .ref (ad g 199), .ref (ad g 200), .ref (ad g 201), .null, .null, .int 0, .int 0, .null, .null, .int 0, .null, .null, .null, .null, .null, .int 0, .int 0, .int 0, .null, .null, .int 0, .int 0, .int 0, .int 0, .int 0, .int 0, .int 0, .null, .null, .null, .int 0, .null, .int 0, .int 0, .int 0, .int 0])) :: o')) xf_X12 rfl (by decide) (by decide) (Nat.le_of_ble_eq_true rfl) rfl rfl rfl rfl rfl rfl fl_X12_48 (kX12_init 53 rfl) rfl ?_
  refine B_aload_n (n9 := 114) 0 (kX12_init 54 rfl) rfl rfl rfl ?_
  refine B_sipush (n9 := 117) (v := 256) (kX12_init 55 rfl) rfl (by decide) ?_
  refine B_newaZ (n9 := 119) (N := 256) (by decide) ac_boolean (by decide) (by decide) (Nat.le_of_ble_eq_true rfl) (Nat.le_of_ble_eq_true rfl) (Nat.le_of_ble_eq_true rfl) (kX12_init 56 rfl) rfl rfl rfl (S0z (by decide)) (lk_c (by decide) (ho 202 (by decide))) ?_
  refine B_putF (n9 := 122) (o' := ((188, .inr (12, [.int 0, .ref (ad g 189), .int 0, .int 0, .int 0, .int 0, .int 0, .int 0, .int 0, .int 0, .int 0, .int 0, .long 0, .int 0, .ref (ad g 190), .ref (ad g 191), .ref (ad g 192), .ref (ad g 193), .ref (ad g 194), .ref (ad g 195), .ref (ad g 196), .ref (ad g 197), .ref (ad g 198), .int 0, .ref (ad g 199), .ref (ad g 200), .ref (ad g 201), .ref (ad g 202), .null, .int 0, .int 0, .null, .null, .int 0, .null, .null, .null, .null, .null, .int 0, .int 0, .int 0, .null, .null, .int 0, .int 0, .int 0, .int 0, .int 0, .int 0, .int 0, .null, .null, .null, .int 0, .null, .int 0, .int 0, .int 0, .int 0])) :: o')) xf_X12 rfl (by decide) (by decide) (Nat.le_of_ble_eq_true rfl) rfl rfl rfl rfl rfl rfl fl_X12_51 (kX12_init 57 rfl) rfl ?_
  refine B_aload_n (n9 := 123) 0 (kX12_init 58 rfl) rfl rfl rfl ?_
  refine B_sipush (n9 := 126) (v := 256) (kX12_init 59 rfl) rfl (by decide) ?_
  refine B_newaI (n9 := 128) (N := 256) (by decide) ac_int (by decide) (by decide) (Nat.le_of_ble_eq_true rfl) (Nat.le_of_ble_eq_true rfl) (Nat.le_of_ble_eq_true rfl) (kX12_init 60 rfl) rfl rfl rfl (S0z (by decide)) (lk_c (by decide) (ho 203 (by decide))) ?_
  refine B_putF (n9 := 131) (o' := ((188, .inr (12, [.int 0, .ref (ad g 189), .int 0, .int 0, .int 0, .int 0, .int 0, .int 0, .int 0, .int 0, .int 0, .int 0, .long 0, .int 0, .ref (ad g 190), .ref (ad g 191), .ref (ad g 192), .ref (ad g 193), .ref (ad g 194), .ref (ad g 195), .ref (ad g 196), .ref (ad g 197), .ref (ad g 198), .int 0, .ref (ad g 199), .ref (ad g 200), .ref (ad g 201), .ref (ad g 202), .ref (ad g 203), .int 0, .int 0, .null, .null, .int 0, .null, .null, .null, .null, .null, .int 0, .int 0, .int 0, .null, .null, .int 0, .int 0, .int 0, .int 0, .int 0, .int 0, .int 0, .null, .null, .null, .int 0, .null, .int 0, .int 0, .int 0, .int 0])) :: o')) xf_X12 rfl (by decide) (by decide) (Nat.le_of_ble_eq_true rfl) rfl rfl rfl rfl rfl rfl fl_X12_54 (kX12_init 61 rfl) rfl ?_
  refine B_aload_n (n9 := 132) 0 (kX12_init 62 rfl) rfl rfl rfl ?_
  refine B_bipush (n9 := 134) (v := 8) (kX12_init 63 rfl) rfl (by decide) ?_
  refine B_newaI (n9 := 136) (N := 8) (by decide) ac_int (by decide) (by decide) (Nat.le_of_ble_eq_true rfl) (Nat.le_of_ble_eq_true rfl) (Nat.le_of_ble_eq_true rfl) (kX12_init 64 rfl) rfl rfl rfl (S0z (by decide)) (lk_c (by decide) (ho 204 (by decide))) ?_
  refine B_putF (n9 := 139) (o' := ((188, .inr (12, [.int 0, .ref (ad g 189), .int 0, .int 0, .int 0, .int 0, .int 0, .int 0, .int 0, .int 0, .int 0, .int 0, .long 0, .int 0, .ref (ad g 190), .ref (ad g 191), .ref (ad g 192), .ref (ad g 193), .ref (ad g 194), .ref (ad g 195), .ref (ad g 196), .ref (ad g 197), .ref (ad g 198), .int 0, .ref (ad g 199), .ref (ad g 200), .ref (ad g 201), .ref (ad g 202), .ref (ad g 203), .int 0, .int 0, .ref (ad g 204), .null, .int 0, .null, .null, .null, .null, .null, .int 0, .int 0, .int 0, .null, .null, .int 0, .int 0, .int 0, .int 0, .int 0, .int 0, .int 0, .null, .null, .null, .int 0, .null, .int 0, .int 0, .int 0, .int 0])) :: o')) xf_X12 rfl (by decide) (by decide) (Nat.le_of_ble_eq_true rfl) rfl rfl rfl rfl rfl rfl fl_X12_57 (kX12_init 65 rfl) rfl ?_
  refine B_aload_n (n9 := 140) 0 (kX12_init 66 rfl) rfl rfl rfl ?_
  refine B_bipush (n9 := 142) (v := 6) (kX12_init 67 rfl) rfl (by decide) ?_
  refine B_newaI (n9 := 144) (N := 6) (by decide) ac_int (by decide) (by decide) (Nat.le_of_ble_eq_true rfl) (Nat.le_of_ble_eq_true rfl) (Nat.le_of_ble_eq_true rfl) (kX12_init 68 rfl) rfl rfl rfl (S0z (by decide)) (lk_c (by decide) (ho 205 (by decide))) ?_
  refine B_putF (n9 := 147) (o' := ((188, .inr (12, [.int 0, .ref (ad g 189), .int 0, .int 0, .int 0, .int 0, .int 0, .int 0, .int 0, .int 0, .int 0, .int 0, .long 0, .int 0, .ref (ad g 190), .ref (ad g 191), .ref (ad g 192), .ref (ad g 193), .ref (ad g 194), .ref (ad g 195), .ref (ad g 196), .ref (ad g 197), .ref (ad g 198), .int 0, .ref (ad g 199), .ref (ad g 200), .ref (ad g 201), .ref (ad g 202), .ref (ad g 203), .int 0, .int 0, .ref (ad g 204), .ref (ad g 205), .int 0, .null, .null, .null, .null, .null, .int 0, .int 0, .int 0, .null, .null, .int 0, .int 0, .int 0, .int 0, .int 0, .int 0, .int 0, .null, .null, .null, .int 0, .null, .int 0, .int 0, .int 0, .int 0])) :: o')) xf_X12 rfl (by decide) (by decide) (Nat.le_of_ble_eq_true rfl) rfl rfl rfl rfl rfl rfl fl_X12_60 (kX12_init 69 rfl) rfl ?_
  refine B_aload_n (n9 := 148) 0 (kX12_init 70 rfl) rfl rfl rfl ?_
  refine B_bipush (n9 := 150) (v := 6) (kX12_init 71 rfl) rfl (by decide) ?_
  refine B_newaI (n9 := 152) (N := 6) (by decide) ac_int (by decide) (by decide) (Nat.le_of_ble_eq_true rfl) (Nat.le_of_ble_eq_true rfl) (Nat.le_of_ble_eq_true rfl) (kX12_init 72 rfl) rfl rfl rfl (S0z (by decide)) (lk_c (by decide) (ho 206 (by decide))) ?_
  refine B_putF (n9 := 155) (o' := ((188, .inr (12, [.int 0, .ref (ad g 189), .int 0, .int 0, .int 0, .int 0, .int 0, .int 0, .int 0, .int 0, .int 0, .int 0, .long 0, .int 0, .ref (ad g 190), .ref (ad g 191), .ref (ad g 192), .ref (ad g 193), .ref (ad g 194), .ref (ad g 195), .ref (ad g 196), .ref (ad g 197), .ref (ad g 198), .int 0, .ref (ad g 199), .ref (ad g 200), .ref (ad g 201), .ref (ad g 202), .ref (ad g 203), .int 0, .int 0, .ref (ad g 204), .ref (ad g 205), .int 0, .ref (ad g 206), .null, .null, .null, .null, .int 0, .int 0, .int 0, .null, .null, .int 0, .int 0, .int 0, .int 0, .int 0, .int 0, .int 0, .null, .null, .null, .int 0, .null, .int 0, .int 0, .int 0, .int 0])) :: o')) xf_X12 rfl (by decide) (by decide) (Nat.le_of_ble_eq_true rfl) rfl rfl rfl rfl rfl rfl fl_X12_63 (kX12_init 73 rfl) rfl ?_
  refine B_aload_n (n9 := 156) 0 (kX12_init 74 rfl) rfl rfl rfl ?_
  refine B_bipush (n9 := 158) (v := 36) (kX12_init 75 rfl) rfl (by decide) ?_
  refine B_newaI (n9 := 160) (N := 36) (by decide) ac_int (by decide) (by decide) (Nat.le_of_ble_eq_true rfl) (Nat.le_of_ble_eq_true rfl) (Nat.le_of_ble_eq_true rfl) (kX12_init 76 rfl) rfl rfl rfl (S0z (by decide)) (lk_c (by decide) (ho 207 (by decide))) ?_
  refine B_putF (n9 := 163) (o' := ((188, .inr (12, [.int 0, .ref (ad g 189), .int 0, .int 0, .int 0, .int 0, .int 0, .int 0, .int 0, .int 0, .int 0, .int 0, .long 0, .int 0, .ref (ad g 190), .ref (ad g 191), .ref (ad g 192), .ref (ad g 193), .ref (ad g 194), .ref (ad g 195), .ref (ad g 196), .ref (ad g 197), .ref (ad g 198), .int 0, .ref (ad g 199), .ref (ad g 200), .ref (ad g 201), .ref (ad g 202), .ref (ad g 203), .int 0, .int 0, .ref (ad g 204), .ref (ad g 205), .int 0, .ref (ad g 206), .ref (ad g 207), .null, .null, .null, .int 0, .int 0, .int 0, .null, .null, .int 0, .int 0, .int 0, .int 0, .int 0, .int 0, .int 0, .null, .null, .null, .int 0, .null, .int 0, .int 0, .int 0, .int 0])) :: o')) xf_X12 rfl (by decide) (by decide) (Nat.le_of_ble_eq_true rfl) rfl rfl rfl rfl rfl rfl fl_X12_66 (kX12_init 77 rfl) rfl ?_
  refine B_aload_n (n9 := 164) 0 (kX12_init 78 rfl) rfl rfl rfl ?_
  refine B_bipush (n9 := 166) (v := 6) (kX12_init 79 rfl) rfl (by decide) ?_
  refine B_newaI (n9 := 168) (N := 6) (by decide) ac_int (by decide) (by decide) (Nat.le_of_ble_eq_true rfl) (Nat.le_of_ble_eq_true rfl) (Nat.le_of_ble_eq_true rfl) (kX12_init 80 rfl) rfl rfl rfl (S0z (by decide)) (lk_c (by decide) (ho 208 (by decide))) ?_
  refine B_putF (n9 := 171) (o' := ((188, .inr (12, [.int 0, .ref (ad g 189), .int 0, .int 0, .int 0, .int 0, .int 0, .int 0, .int 0, .int 0, .int 0, .int 0, .long 0, .int 0, .ref (ad g 190), .ref (ad g 191), .ref (ad g 192), .ref (ad g 193), .ref (ad g 194), .ref (ad g 195), .ref (ad g 196), .ref (ad g 197), .ref (ad g 198), .int 0, .ref (ad g 199), .ref (ad g 200), .ref (ad g 201), .ref (ad g 202), .ref (ad g 203), .int 0, .int 0, .ref (ad g 204), .ref (ad g 205), .int 0, .ref (ad g 206), .ref (ad g 207), .ref (ad g 208), .null, .null, .int 0, .int 0, .int 0, .null, .null, .int 0, .int 0, .int 0, .int 0, .int 0, .int 0, .int 0, .null, .null, .null, .int 0, .null, .int 0, .int 0, .int 0, .int 0])) :: o')) xf_X12 rfl (by decide) (by decide) (Nat.le_of_ble_eq_true rfl) rfl rfl rfl rfl rfl rfl fl_X12_69 (kX12_init 81 rfl) rfl ?_
  refine B_aload_n (n9 := 172) 0 (kX12_init 82 rfl) rfl rfl rfl ?_
  refine B_bipush (n9 := 174) (v := 6) (kX12_init 83 rfl) rfl (by decide) ?_
  refine B_newaI (n9 := 176) (N := 6) (by decide) ac_int (by decide) (by decide) (Nat.le_of_ble_eq_true rfl) (Nat.le_of_ble_eq_true rfl) (Nat.le_of_ble_eq_true rfl) (kX12_init 84 rfl) rfl rfl rfl (S0z (by decide)) (lk_c (by decide) (ho 209 (by decide))) ?_
  refine B_putF (n9 := 179) (o' := ((188, .inr (12, [.int 0, .ref (ad g 189), .int 0, .int 0, .int 0, .int 0, .int 0, .int 0, .int 0, .int 0, .int 0, .int 0, .long 0, .int 0, .ref (ad g 190), .ref (ad g 191), .ref (ad g 192), .ref (ad g 193), .ref (ad g 194), .ref (ad g 195), .ref (ad g 196), .ref (ad g 197), .ref (ad g 198), .int 0, .ref (ad g 199), .ref (ad g 200), .ref (ad g 201), .ref (ad g 202), .ref (ad g 203), .int 0, .int 0, .ref (ad g 204), .ref (ad g 205), .int 0, .ref (ad g 206), .ref (ad g 207), .ref (ad g 208), .ref (ad g 209), .null, .int 0, .int 0, .int 0, .null, .null, .int 0, .int 0, .int 0, .int 0, .int 0, .int 0, .int 0, .null, .null, .null, .int 0, .null, .int 0, .int 0, .int 0, .int 0])) :: o')) xf_X12 rfl (by decide) (by decide) (Nat.le_of_ble_eq_true rfl) rfl rfl rfl rfl rfl rfl fl_X12_72 (kX12_init 85 rfl) rfl ?_
  refine B_aload_n (n9 := 180) 0 (kX12_init 86 rfl) rfl rfl rfl ?_
  refine B_bipush (n9 := 182) (v := 6) (kX12_init 87 rfl) rfl (by decide) ?_
  refine B_newaI (n9 := 184) (N := 6) (by decide) ac_int (by decide) (by decide) (Nat.le_of_ble_eq_true rfl) (Nat.le_of_ble_eq_true rfl) (Nat.le_of_ble_eq_true rfl) (kX12_init 88 rfl) rfl rfl rfl (S0z (by decide)) (lk_c (by decide) (ho 210 (by decide))) ?_
  refine B_putF (n9 := 187) (o' := ((188, .inr (12, [.int 0, .ref (ad g 189), .int 0, .int 0, .int 0, .int 0, .int 0, .int 0, .int 0, .int 0, .int 0, .int 0, .long 0, .int 0, .ref (ad g 190), .ref (ad g 191), .ref (ad g 192), .ref (ad g 193), .ref (ad g 194), .ref (ad g 195), .ref (ad g 196), .ref (ad g 197), .ref (ad g 198), .int 0, .ref (ad g 199), .ref (ad g 200), .ref (ad g 201), .ref (ad g 202), .ref (ad g 203), .int 0, .int 0, .ref (ad g 204), .ref (ad g 205), .int 0, .ref (ad g 206), .ref (ad g 207), .ref (ad g 208), .ref (ad g 209), .ref (ad g 210), .int 0, .int 0, .int 0, .null, .null, .int 0, .int 0, .int 0, .int 0, .int 0, .int 0, .int 0, .null, .null, .null, .int 0, .null, .int 0, .int 0, .int 0, .int 0])) :: o')) xf_X12 rfl (by decide) (by decide) (Nat.le_of_ble_eq_true rfl) rfl rfl rfl rfl rfl rfl fl_X12_75 (kX12_init 89 rfl) rfl ?_
  refine B_aload_n (n9 := 188) 0 (kX12_init 90 rfl) rfl rfl rfl ?_
  refine B_iconst (n9 := 189) (v := (-1)) (kX12_init 91 rfl) rfl (by decide) ?_
  refine B_putI (n9 := 192) (o' := ((188, .inr (12, [.int 0, .ref (ad g 189), .int 0, .int 0, .int 0, .int 0, .int 0, .int 0, .int 0, .int 0, .int 0, .int 0, .long 0, .int 0, .ref (ad g 190), .ref (ad g 191), .ref (ad g 192), .ref (ad g 193), .ref (ad g 194), .ref (ad g 195), .ref (ad g 196), .ref (ad g 197), .ref (ad g 198), .int 0, .ref (ad g 199), .ref (ad g 200), .ref (ad g 201), .ref (ad g 202), .ref (ad g 203), .int 0, .int 0, .ref (ad g 204), .ref (ad g 205), .int 0, .ref (ad g 206), .ref (ad g 207), .ref (ad g 208), .ref (ad g 209), .ref (ad g 210), .int (-1), .int 0, .int 0, .null, .null, .int 0, .int 0, .int 0, .int 0, .int 0, .int 0, .int 0, .null, .null, .null, .int 0, .null, .int 0, .int 0, .int 0, .int 0])) :: o')) xf_X12 rfl (by decide) (by decide) (Nat.le_of_ble_eq_true rfl) rfl rfl rfl fl_X12_78 (kX12_init 92 rfl) rfl ?_
  refine B_aload_n (n9 := 193) 0 (kX12_init 93 rfl) rfl rfl rfl ?_
  refine B_bipush (n9 := 195) (v := 36) (kX12_init 94 rfl) rfl (by decide) ?_
  refine B_newaI (n9 := 197) (N := 36) (by decide) ac_int (by decide) (by decide) (Nat.le_of_ble_eq_true rfl) (Nat.le_of_ble_eq_true rfl) (Nat.le_of_ble_eq_true rfl) (kX12_init 95 rfl) rfl rfl rfl (S0z (by decide)) (lk_c (by decide) (ho 211 (by decide))) ?_
  refine B_putF (n9 := 200) (o' := ((188, .inr (12, [.int 0, .ref (ad g 189), .int 0, .int 0, .int 0, .int 0, .int 0, .int 0, .int 0, .int 0, .int 0, .int 0, .long 0, .int 0, .ref (ad g 190), .ref (ad g 191), .ref (ad g 192), .ref (ad g 193), .ref (ad g 194), .ref (ad g 195), .ref (ad g 196), .ref (ad g 197), .ref (ad g 198), .int 0, .ref (ad g 199), .ref (ad g 200), .ref (ad g 201), .ref (ad g 202), .ref (ad g 203), .int 0, .int 0, .ref (ad g 204), .ref (ad g 205), .int 0, .ref (ad g 206), .ref (ad g 207), .ref (ad g 208), .ref (ad g 209), .ref (ad g 210), .int (-1), .int 0, .int 0, .ref (ad g 211), .null, .int 0, .int 0, .int 0, .int 0, .int 0, .int 0, .int 0, .null, .null, .null, .int 0, .null, .int 0, .int 0, .int 0, .int 0])) :: o')) xf_X12 rfl (by decide) (by decide) (Nat.le_of_ble_eq_true rfl) rfl rfl rfl rfl rfl rfl fl_X12_82 (kX12_init 96 rfl) rfl ?_
  refine B_aload_n (n9 := 201) 0 (kX12_init 97 rfl) rfl rfl rfl ?_
  refine B_bipush (n9 := 203) (v := 40) (kX12_init 98 rfl) rfl (by decide) ?_
  refine B_newaI (n9 := 205) (N := 40) (by decide) ac_int (by decide) (by decide) (Nat.le_of_ble_eq_true rfl) (Nat.le_of_ble_eq_true rfl) (Nat.le_of_ble_eq_true rfl) (kX12_init 99 rfl) rfl rfl rfl (S0z (by decide)) (lk_c (by decide) (ho 212 (by decide))) ?_
  refine B_putF (n9 := 208) (o' := ((188, .inr (12, [.int 0, .ref (ad g 189), .int 0, .int 0, .int 0, .int 0, .int 0, .int 0, .int 0, .int 0, .int 0, .int 0, .long 0, .int 0, .ref (ad g 190), .ref (ad g 191), .ref (ad g 192), .ref (ad g 193), .ref (ad g 194), .ref (ad g 195), .ref (ad g 196), .ref (ad g 197), .ref (ad g 198), .int 0, .ref (ad g 199), .ref (ad g 200), .ref (ad g 201), .ref (ad g 202), .ref (ad g 203), .int 0, .int 0, .ref (ad g 204), .ref (ad g 205), .int 0, .ref (ad g 206), .ref (ad g 207), .ref (ad g 208), .ref (ad g 209), .ref (ad g 210), .int (-1), .int 0, .int 0, .ref (ad g 211), .ref (ad g 212), .int 0, .int 0, .int 0, .int 0, .int 0, .int 0, .int 0, .null, .null, .null, .int 0, .null, .int 0, .int 0, .int 0, .int 0])) :: o')) xf_X12 rfl (by decide) (by decide) (Nat.le_of_ble_eq_true rfl) rfl rfl rfl rfl rfl rfl fl_X12_85 (kX12_init_1 0 rfl) rfl ?_
  refine B_aload_n (n9 := 209) 0 (kX12_init_1 1 rfl) rfl rfl rfl ?_
  refine B_iconst (n9 := 210) (v := 3) (kX12_init_1 2 rfl) rfl (by decide) ?_
  refine B_newaIo (n9 := 212) (N := 3) (by decide) ac_int (by decide) (by decide) (Nat.le_of_ble_eq_true rfl) (Nat.le_of_ble_eq_true rfl) (Nat.le_of_ble_eq_true rfl) (kX12_init_1 3 rfl) rfl ?_
  refine B_dup (n9 := 213) (kX12_init_1 4 rfl) rfl rfl ?_
  refine B_iconst (n9 := 214) (v := 0) (kX12_init_1 5 rfl) rfl (by decide) ?_
  refine B_iconst (n9 := 215) (v := (-1)) (kX12_init_1 6 rfl) rfl (by decide) ?_
  refine B_iast (n9 := 216) (o' := ((213, .inl (g.2.2.1 0, 3, .inl (upd (fun _ => 0) (Int32.toNatClampNeg 0) (-1)))) :: (188, .inr (12, [.int 0, .ref (ad g 189), .int 0, .int 0, .int 0, .int 0, .int 0, .int 0, .int 0, .int 0, .int 0, .int 0, .long 0, .int 0, .ref (ad g 190), .ref (ad g 191), .ref (ad g 192), .ref (ad g 193), .ref (ad g 194), .ref (ad g 195), .ref (ad g 196), .ref (ad g 197), .ref (ad g 198), .int 0, .ref (ad g 199), .ref (ad g 200), .ref (ad g 201), .ref (ad g 202), .ref (ad g 203), .int 0, .int 0, .ref (ad g 204), .ref (ad g 205), .int 0, .ref (ad g 206), .ref (ad g 207), .ref (ad g 208), .ref (ad g 209), .ref (ad g 210), .int (-1), .int 0, .int 0, .ref (ad g 211), .ref (ad g 212), .int 0, .int 0, .int 0, .int 0, .int 0, .int 0, .int 0, .null, .null, .null, .int 0, .null, .int 0, .int 0, .int 0, .int 0])) :: o')) rfl (by decide) (show ¬ ((0 : Int32) < 0 ∨ 3 ≤ (0 : Int32).toNatClampNeg) from by decide) rfl (kX12_init_1 7 rfl) rfl ?_
  refine B_dup (n9 := 217) (kX12_init_1 8 rfl) rfl rfl ?_
  refine B_iconst (n9 := 218) (v := 1) (kX12_init_1 9 rfl) rfl (by decide) ?_
  refine B_iconst (n9 := 219) (v := (-1)) (kX12_init_1 10 rfl) rfl (by decide) ?_
  refine B_iast (n9 := 220) (o' := ((213, .inl (g.2.2.1 0, 3, .inl (upd (upd (fun _ => 0) (Int32.toNatClampNeg 0) (-1)) (Int32.toNatClampNeg 1) (-1)))) :: (188, .inr (12, [.int 0, .ref (ad g 189), .int 0, .int 0, .int 0, .int 0, .int 0, .int 0, .int 0, .int 0, .int 0, .int 0, .long 0, .int 0, .ref (ad g 190), .ref (ad g 191), .ref (ad g 192), .ref (ad g 193), .ref (ad g 194), .ref (ad g 195), .ref (ad g 196), .ref (ad g 197), .ref (ad g 198), .int 0, .ref (ad g 199), .ref (ad g 200), .ref (ad g 201), .ref (ad g 202), .ref (ad g 203), .int 0, .int 0, .ref (ad g 204), .ref (ad g 205), .int 0, .ref (ad g 206), .ref (ad g 207), .ref (ad g 208), .ref (ad g 209), .ref (ad g 210), .int (-1), .int 0, .int 0, .ref (ad g 211), .ref (ad g 212), .int 0, .int 0, .int 0, .int 0, .int 0, .int 0, .int 0, .null, .null, .null, .int 0, .null, .int 0, .int 0, .int 0, .int 0])) :: o')) rfl (by decide) (show ¬ ((1 : Int32) < 0 ∨ 3 ≤ (1 : Int32).toNatClampNeg) from by decide) rfl (kX12_init_1 11 rfl) rfl ?_
  refine B_dup (n9 := 221) (kX12_init_1 12 rfl) rfl rfl ?_
  refine B_iconst (n9 := 222) (v := 2) (kX12_init_1 13 rfl) rfl (by decide) ?_
  refine B_iconst (n9 := 223) (v := (-1)) (kX12_init_1 14 rfl) rfl (by decide) ?_
  refine B_iast (n9 := 224) (o' := ((213, .inl (g.2.2.1 0, 3, .inl (upd (upd (upd (fun _ => 0) (Int32.toNatClampNeg 0) (-1)) (Int32.toNatClampNeg 1) (-1)) (Int32.toNatClampNeg 2) (-1)))) :: (188, .inr (12, [.int 0, .ref (ad g 189), .int 0, .int 0, .int 0, .int 0, .int 0, .int 0, .int 0, .int 0, .int 0, .int 0, .long 0, .int 0, .ref (ad g 190), .ref (ad g 191), .ref (ad g 192), .ref (ad g 193), .ref (ad g 194), .ref (ad g 195), .ref (ad g 196), .ref (ad g 197), .ref (ad g 198), .int 0, .ref (ad g 199), .ref (ad g 200), .ref (ad g 201), .ref (ad g 202), .ref (ad g 203), .int 0, .int 0, .ref (ad g 204), .ref (ad g 205), .int 0, .ref (ad g 206), .ref (ad g 207), .ref (ad g 208), .ref (ad g 209), .ref (ad g 210), .int (-1), .int 0, .int 0, .ref (ad g 211), .ref (ad g 212), .int 0, .int 0, .int 0, .int 0, .int 0, .int 0, .int 0, .null, .null, .null, .int 0, .null, .int 0, .int 0, .int 0, .int 0])) :: o')) rfl (by decide) (show ¬ ((2 : Int32) < 0 ∨ 3 ≤ (2 : Int32).toNatClampNeg) from by decide) rfl (kX12_init_1 15 rfl) rfl ?_
  refine B_closeA (fun H h => at_i (N := 3) (f1 := S0.1 213) (fun j hj => by rcases (show j = 0 ∨ j = 1 ∨ j = 2 by omega) with rfl | rfl | rfl <;> rfl) h) (lk_c (by decide) (ho 213 (by decide))) ?_
  refine B_putF (n9 := 227) (o' := ((188, .inr (12, [.int 0, .ref (ad g 189), .int 0, .int 0, .int 0, .int 0, .int 0, .int 0, .int 0, .int 0, .int 0, .int 0, .long 0, .int 0, .ref (ad g 190), .ref (ad g 191), .ref (ad g 192), .ref (ad g 193), .ref (ad g 194), .ref (ad g 195), .ref (ad g 196), .ref (ad g 197), .ref (ad g 198), .int 0, .ref (ad g 199), .ref (ad g 200), .ref (ad g 201), .ref (ad g 202), .ref (ad g 203), .int 0, .int 0, .ref (ad g 204), .ref (ad g 205), .int 0, .ref (ad g 206), .ref (ad g 207), .ref (ad g 208), .ref (ad g 209), .ref (ad g 210), .int (-1), .int 0, .int 0, .ref (ad g 211), .ref (ad g 212), .int 0, .int 0, .int 0, .int 0, .int 0, .int 0, .int 0, .ref (ad g 213), .null, .null, .int 0, .null, .int 0, .int 0, .int 0, .int 0])) :: o')) xf_X12 rfl (by decide) (by decide) (Nat.le_of_ble_eq_true rfl) rfl rfl rfl rfl rfl rfl fl_X12_88 (kX12_init_1 16 rfl) rfl ?_
  refine B_aload_n (n9 := 228) 0 (kX12_init_1 17 rfl) rfl rfl rfl ?_
  refine B_bipush (n9 := 230) (v := 80) (kX12_init_1 18 rfl) rfl (by decide) ?_
  refine B_newaI (n9 := 232) (N := 80) (by decide) ac_int (by decide) (by decide) (Nat.le_of_ble_eq_true rfl) (Nat.le_of_ble_eq_true rfl) (Nat.le_of_ble_eq_true rfl) (kX12_init_1 19 rfl) rfl rfl rfl (S0z (by decide)) (lk_c (by decide) (ho 214 (by decide))) ?_
  refine B_putF (n9 := 235) (o' := ((188, .inr (12, [.int 0, .ref (ad g 189), .int 0, .int 0, .int 0, .int 0, .int 0, .int 0, .int 0, .int 0, .int 0, .int 0, .long 0, .int 0, .ref (ad g 190), .ref (ad g 191), .ref (ad g 192), .ref (ad g 193), .ref (ad g 194), .ref (ad g 195), .ref (ad g 196), .ref (ad g 197), .ref (ad g 198), .int 0, .ref (ad g 199), .ref (ad g 200), .ref (ad g 201), .ref (ad g 202), .ref (ad g 203), .int 0, .int 0, .ref (ad g 204), .ref (ad g 205), .int 0, .ref (ad g 206), .ref (ad g 207), .ref (ad g 208), .ref (ad g 209), .ref (ad g 210), .int (-1), .int 0, .int 0, .ref (ad g 211), .ref (ad g 212), .int 0, .int 0, .int 0, .int 0, .int 0, .int 0, .int 0, .ref (ad g 213), .ref (ad g 214), .null, .int 0, .null, .int 0, .int 0, .int 0, .int 0])) :: o')) xf_X12 rfl (by decide) (by decide) (Nat.le_of_ble_eq_true rfl) rfl rfl rfl rfl rfl rfl fl_X12_91 (kX12_init_1 20 rfl) rfl ?_
  refine B_aload_n (n9 := 236) 0 (kX12_init_1 21 rfl) rfl rfl rfl ?_
  refine B_bipush (n9 := 238) (v := 7) (kX12_init_1 22 rfl) rfl (by decide) ?_
  refine B_newaI (n9 := 240) (N := 7) (by decide) ac_int (by decide) (by decide) (Nat.le_of_ble_eq_true rfl) (Nat.le_of_ble_eq_true rfl) (Nat.le_of_ble_eq_true rfl) (kX12_init_1 23 rfl) rfl rfl rfl (S0z (by decide)) (lk_c (by decide) (ho 215 (by decide))) ?_
  refine B_putF (n9 := 243) (o' := ((188, .inr (12, [.int 0, .ref (ad g 189), .int 0, .int 0, .int 0, .int 0, .int 0, .int 0, .int 0, .int 0, .int 0, .int 0, .long 0, .int 0, .ref (ad g 190), .ref (ad g 191), .ref (ad g 192), .ref (ad g 193), .ref (ad g 194), .ref (ad g 195), .ref (ad g 196), .ref (ad g 197), .ref (ad g 198), .int 0, .ref (ad g 199), .ref (ad g 200), .ref (ad g 201), .ref (ad g 202), .ref (ad g 203), .int 0, .int 0, .ref (ad g 204), .ref (ad g 205), .int 0, .ref (ad g 206), .ref (ad g 207), .ref (ad g 208), .ref (ad g 209), .ref (ad g 210), .int (-1), .int 0, .int 0, .ref (ad g 211), .ref (ad g 212), .int 0, .int 0, .int 0, .int 0, .int 0, .int 0, .int 0, .ref (ad g 213), .ref (ad g 214), .ref (ad g 215), .int 0, .null, .int 0, .int 0, .int 0, .int 0])) :: o')) xf_X12 rfl (by decide) (by decide) (Nat.le_of_ble_eq_true rfl) rfl rfl rfl rfl rfl rfl fl_X12_94 (kX12_init_1 24 rfl) rfl ?_
  refine B_aload_n (n9 := 244) 0 (kX12_init_1 25 rfl) rfl rfl rfl ?_
  refine B_sipush (n9 := 247) (v := 240) (kX12_init_1 26 rfl) rfl (by decide) ?_
  refine B_newaI (n9 := 249) (N := 240) (by decide) ac_int (by decide) (by decide) (Nat.le_of_ble_eq_true rfl) (Nat.le_of_ble_eq_true rfl) (Nat.le_of_ble_eq_true rfl) (kX12_init_1 27 rfl) rfl rfl rfl (S0z (by decide)) (lk_c (by decide) (ho 216 (by decide))) ?_
  refine B_putF (n9 := 252) (o' := ((188, .inr (12, [.int 0, .ref (ad g 189), .int 0, .int 0, .int 0, .int 0, .int 0, .int 0, .int 0, .int 0, .int 0, .int 0, .long 0, .int 0, .ref (ad g 190), .ref (ad g 191), .ref (ad g 192), .ref (ad g 193), .ref (ad g 194), .ref (ad g 195), .ref (ad g 196), .ref (ad g 197), .ref (ad g 198), .int 0, .ref (ad g 199), .ref (ad g 200), .ref (ad g 201), .ref (ad g 202), .ref (ad g 203), .int 0, .int 0, .ref (ad g 204), .ref (ad g 205), .int 0, .ref (ad g 206), .ref (ad g 207), .ref (ad g 208), .ref (ad g 209), .ref (ad g 210), .int (-1), .int 0, .int 0, .ref (ad g 211), .ref (ad g 212), .int 0, .int 0, .int 0, .int 0, .int 0, .int 0, .int 0, .ref (ad g 213), .ref (ad g 214), .ref (ad g 215), .int 0, .ref (ad g 216), .int 0, .int 0, .int 0, .int 0])) :: o')) xf_X12 rfl (by decide) (by decide) (Nat.le_of_ble_eq_true rfl) rfl rfl rfl rfl rfl rfl fl_X12_97 (kX12_init_1 28 rfl) rfl ?_
  refine B_close rfl (ho 188 (by decide)) ?_
  exact B_ret rfl (kX12_init_1 29 rfl)
-- class
set_option maxHeartbeats 4000000 in
set_option maxRecDepth 100000 in
theorem C_X2_init_7 {l : Launch} {g : XG} {o' : XO} (ho : ∀ k, 7 ≤ k → lk o' k = none) : ClA l g 2 8 505 mX2_init [.ref 7] 8 ((7, .inr (2, [.null, .null, .null, .null, .null, .null, .null, .null])) :: o') 16 o' := by
  refine ClA.of (by decide +kernel) rfl (Nat.le_of_ble_eq_true rfl) ?_
  show B _ _ _ _ _ _ 0 [(0, .ref 7)] [] _ _ _ _ _ _
  refine B_aload_n (n9 := 1) 0 (kX2_init 0 rfl) rfl rfl rfl ?_
  refine B_obj (n9 := 4) (st := []) ol_X2_3 ob_1 ob_2 (Nat.le_of_ble_eq_true rfl) (Nat.le_of_ble_eq_true rfl) (kX2_init 1 rfl) rfl ?_
  refine B_aload_n (n9 := 5) 0 (kX2_init 2 rfl) rfl rfl rfl ?_
  refine B_getM (n9 := 8) nf_X2_9 (kX2_init 3 rfl) rfl ?_
  refine B_alenM (n9 := 9) (kX2_init 4 rfl) rfl ?_
  refine B_newaI (n9 := 11) (N := 6) (by decide) ac_int (by decide) (by decide) (Nat.le_of_ble_eq_true rfl) (Nat.le_of_ble_eq_true rfl) (Nat.le_of_ble_eq_true rfl) (kX2_init 5 rfl) rfl rfl rfl (S0z (by decide)) (lk_c (by decide) (ho 8 (by decide))) ?_
  refine B_putF (n9 := 14) (o' := ((7, .inr (2, [.ref (ad g 8), .null, .null, .null, .null, .null, .null, .null])) :: o')) xf_X2 rfl (by decide) (by decide) (Nat.le_of_ble_eq_true rfl) rfl rfl rfl rfl rfl rfl fl_X2_13 (kX2_init 6 rfl) rfl ?_
  refine B_aload_n (n9 := 15) 0 (kX2_init 7 rfl) rfl rfl rfl ?_
  refine B_bipush (n9 := 17) (v := 18) (kX2_init 8 rfl) rfl (by decide) ?_
  refine B_newaJ (n9 := 19) (N := 18) (by decide) ac_long (by decide) (by decide) (Nat.le_of_ble_eq_true rfl) (Nat.le_of_ble_eq_true rfl) (Nat.le_of_ble_eq_true rfl) (kX2_init 9 rfl) rfl rfl rfl (S0zJ (by decide)) (lk_c (by decide) (ho 9 (by decide))) ?_
  refine B_putF (n9 := 22) (o' := ((7, .inr (2, [.ref (ad g 8), .ref (ad g 9), .null, .null, .null, .null, .null, .null])) :: o')) xf_X2 rfl (by decide) (by decide) (Nat.le_of_ble_eq_true rfl) rfl rfl rfl rfl rfl rfl fl_X2_18 (kX2_init 10 rfl) rfl ?_
  refine B_aload_n (n9 := 23) 0 (kX2_init 11 rfl) rfl rfl rfl ?_
  refine B_bipush (n9 := 25) (v := 6) (kX2_init 12 rfl) rfl (by decide) ?_
  refine B_newaI (n9 := 27) (N := 6) (by decide) ac_int (by decide) (by decide) (Nat.le_of_ble_eq_true rfl) (Nat.le_of_ble_eq_true rfl) (Nat.le_of_ble_eq_true rfl) (kX2_init 13 rfl) rfl rfl rfl (S0z (by decide)) (lk_c (by decide) (ho 10 (by decide))) ?_
  refine B_putF (n9 := 30) (o' := ((7, .inr (2, [.ref (ad g 8), .ref (ad g 9), .ref (ad g 10), .null, .null, .null, .null, .null])) :: o')) xf_X2 rfl (by decide) (by decide) (Nat.le_of_ble_eq_true rfl) rfl rfl rfl rfl rfl rfl fl_X2_22 (kX2_init 14 rfl) rfl ?_
  refine B_aload_n (n9 := 31) 0 (kX2_init 15 rfl) rfl rfl rfl ?_
  refine B_bipush (n9 := 33) (v := 36) (kX2_init 16 rfl) rfl (by decide) ?_
  refine B_newaI (n9 := 35) (N := 36) (by decide) ac_int (by decide) (by decide) (Nat.le_of_ble_eq_true rfl) (Nat.le_of_ble_eq_true rfl) (Nat.le_of_ble_eq_true rfl) (kX2_init 17 rfl) rfl rfl rfl (S0z (by decide)) (lk_c (by decide) (ho 11 (by decide))) ?_
  refine B_putF (n9 := 38) (o' := ((7, .inr (2, [.ref (ad g 8), .ref (ad g 9), .ref (ad g 10), .ref (ad g 11), .null, .null, .null, .null])) :: o')) xf_X2 rfl (by decide) (by decide) (Nat.le_of_ble_eq_true rfl) rfl rfl rfl rfl rfl rfl fl_X2_25 (kX2_init 18 rfl) rfl ?_
  refine B_aload_n (n9 := 39) 0 (kX2_init 19 rfl) rfl rfl rfl ?_
  refine B_bipush (n9 := 41) (v := 6) (kX2_init 20 rfl) rfl (by decide) ?_
  refine B_newaI (n9 := 43) (N := 6) (by decide) ac_int (by decide) (by decide) (Nat.le_of_ble_eq_true rfl) (Nat.le_of_ble_eq_true rfl) (Nat.le_of_ble_eq_true rfl) (kX2_init 21 rfl) rfl rfl rfl (S0z (by decide)) (lk_c (by decide) (ho 12 (by decide))) ?_
  refine B_putF (n9 := 46) (o' := ((7, .inr (2, [.ref (ad g 8), .ref (ad g 9), .ref (ad g 10), .ref (ad g 11), .ref (ad g 12), .null, .null, .null])) :: o')) xf_X2 rfl (by decide) (by decide) (Nat.le_of_ble_eq_true rfl) rfl rfl rfl rfl rfl rfl fl_X2_28 (kX2_init 22 rfl) rfl ?_
  refine B_aload_n (n9 := 47) 0 (kX2_init 23 rfl) rfl rfl rfl ?_
  refine B_bipush (n9 := 49) (v := 6) (kX2_init 24 rfl) rfl (by decide) ?_
  refine B_newaI (n9 := 51) (N := 6) (by decide) ac_int (by decide) (by decide) (Nat.le_of_ble_eq_true rfl) (Nat.le_of_ble_eq_true rfl) (Nat.le_of_ble_eq_true rfl) (kX2_init 25 rfl) rfl rfl rfl (S0z (by decide)) (lk_c (by decide) (ho 13 (by decide))) ?_
  refine B_putF (n9 := 54) (o' := ((7, .inr (2, [.ref (ad g 8), .ref (ad g 9), .ref (ad g 10), .ref (ad g 11), .ref (ad g 12), .ref (ad g 13), .null, .null])) :: o')) xf_X2 rfl (by decide) (by decide) (Nat.le_of_ble_eq_true rfl) rfl rfl rfl rfl rfl rfl fl_X2_31 (kX2_init 26 rfl) rfl ?_
  refine B_aload_n (n9 := 55) 0 (kX2_init 27 rfl) rfl rfl rfl ?_
  refine B_sipush (n9 := 58) (v := 366) (kX2_init 28 rfl) rfl (by decide) ?_
  refine B_newaI (n9 := 60) (N := 366) (by decide) ac_int (by decide) (by decide) (Nat.le_of_ble_eq_true rfl) (Nat.le_of_ble_eq_true rfl) (Nat.le_of_ble_eq_true rfl) (kX2_init 29 rfl) rfl rfl rfl (S0z (by decide)) (lk_c (by decide) (ho 14 (by decide))) ?_
  refine B_putF (n9 := 63) (o' := ((7, .inr (2, [.ref (ad g 8), .ref (ad g 9), .ref (ad g 10), .ref (ad g 11), .ref (ad g 12), .ref (ad g 13), .ref (ad g 14), .null])) :: o')) xf_X2 rfl (by decide) (by decide) (Nat.le_of_ble_eq_true rfl) rfl rfl rfl rfl rfl rfl fl_X2_34 (kX2_init 30 rfl) rfl ?_
  refine B_aload_n (n9 := 64) 0 (kX2_init 31 rfl) rfl rfl rfl ?_
  refine B_bipush (n9 := 66) (v := 61) (kX2_init 32 rfl) rfl (by decide) ?_
  refine B_newaI (n9 := 68) (N := 61) (by decide) ac_int (by decide) (by decide) (Nat.le_of_ble_eq_true rfl) (Nat.le_of_ble_eq_true rfl) (Nat.le_of_ble_eq_true rfl) (kX2_init 33 rfl) rfl rfl rfl (S0z (by decide)) (lk_c (by decide) (ho 15 (by decide))) ?_
  refine B_putF (n9 := 71) (o' := ((7, .inr (2, [.ref (ad g 8), .ref (ad g 9), .ref (ad g 10), .ref (ad g 11), .ref (ad g 12), .ref (ad g 13), .ref (ad g 14), .ref (ad g 15)])) :: o')) xf_X2 rfl (by decide) (by decide) (Nat.le_of_ble_eq_true rfl) rfl rfl rfl rfl rfl rfl fl_X2_37 (kX2_init 34 rfl) rfl ?_
  refine B_close rfl (ho 7 (by decide)) ?_
  exact B_ret rfl (kX2_init 35 rfl)
set_option maxHeartbeats 4000000 in
set_option maxRecDepth 100000 in
theorem C_X2_init_17 {l : Launch} {g : XG} {o' : XO} (ho : ∀ k, 17 ≤ k → lk o' k = none) : ClA l g 2 8 505 mX2_init [.ref 17] 18 ((17, .inr (2, [.null, .null, .null, .null, .null, .null, .null, .null])) :: o') 26 o' := by
  refine ClA.of (by decide +kernel) rfl (Nat.le_of_ble_eq_true rfl) ?_
  show B _ _ _ _ _ _ 0 [(0, .ref 17)] [] _ _ _ _ _ _
  refine B_aload_n (n9 := 1) 0 (kX2_init 0 rfl) rfl rfl rfl ?_
  refine B_obj (n9 := 4) (st := []) ol_X2_3 ob_1 ob_2 (Nat.le_of_ble_eq_true rfl) (Nat.le_of_ble_eq_true rfl) (kX2_init 1 rfl) rfl ?_
  refine B_aload_n (n9 := 5) 0 (kX2_init 2 rfl) rfl rfl rfl ?_
  refine B_getM (n9 := 8) nf_X2_9 (kX2_init 3 rfl) rfl ?_
  refine B_alenM (n9 := 9) (kX2_init 4 rfl) rfl ?_
  refine B_newaI (n9 := 11) (N := 6) (by decide) ac_int (by decide) (by decide) (Nat.le_of_ble_eq_true rfl) (Nat.le_of_ble_eq_true rfl) (Nat.le_of_ble_eq_true rfl) (kX2_init 5 rfl) rfl rfl rfl (S0z (by decide)) (lk_c (by decide) (ho 18 (by decide))) ?_
  refine B_putF (n9 := 14) (o' := ((17, .inr (2, [.ref (ad g 18), .null, .null, .null, .null, .null, .null, .null])) :: o')) xf_X2 rfl (by decide) (by decide) (Nat.le_of_ble_eq_true rfl) rfl rfl rfl rfl rfl rfl fl_X2_13 (kX2_init 6 rfl) rfl ?_
  refine B_aload_n (n9 := 15) 0 (kX2_init 7 rfl) rfl rfl rfl ?_
  refine B_bipush (n9 := 17) (v := 18) (kX2_init 8 rfl) rfl (by decide) ?_
  refine B_newaJ (n9 := 19) (N := 18) (by decide) ac_long (by decide) (by decide) (Nat.le_of_ble_eq_true rfl) (Nat.le_of_ble_eq_true rfl) (Nat.le_of_ble_eq_true rfl) (kX2_init 9 rfl) rfl rfl rfl (S0zJ (by decide)) (lk_c (by decide) (ho 19 (by decide))) ?_
  refine B_putF (n9 := 22) (o' := ((17, .inr (2, [.ref (ad g 18), .ref (ad g 19), .null, .null, .null, .null, .null, .null])) :: o')) xf_X2 rfl (by decide) (by decide) (Nat.le_of_ble_eq_true rfl) rfl rfl rfl rfl rfl rfl fl_X2_18 (kX2_init 10 rfl) rfl ?_
  refine B_aload_n (n9 := 23) 0 (kX2_init 11 rfl) rfl rfl rfl ?_
  refine B_bipush (n9 := 25) (v := 6) (kX2_init 12 rfl) rfl (by decide) ?_
  refine B_newaI (n9 := 27) (N := 6) (by decide) ac_int (by decide) (by decide) (Nat.le_of_ble_eq_true rfl) (Nat.le_of_ble_eq_true rfl) (Nat.le_of_ble_eq_true rfl) (kX2_init 13 rfl) rfl rfl rfl (S0z (by decide)) (lk_c (by decide) (ho 20 (by decide))) ?_
  refine B_putF (n9 := 30) (o' := ((17, .inr (2, [.ref (ad g 18), .ref (ad g 19), .ref (ad g 20), .null, .null, .null, .null, .null])) :: o')) xf_X2 rfl (by decide) (by decide) (Nat.le_of_ble_eq_true rfl) rfl rfl rfl rfl rfl rfl fl_X2_22 (kX2_init 14 rfl) rfl ?_
  refine B_aload_n (n9 := 31) 0 (kX2_init 15 rfl) rfl rfl rfl ?_
  refine B_bipush (n9 := 33) (v := 36) (kX2_init 16 rfl) rfl (by decide) ?_
  refine B_newaI (n9 := 35) (N := 36) (by decide) ac_int (by decide) (by decide) (Nat.le_of_ble_eq_true rfl) (Nat.le_of_ble_eq_true rfl) (Nat.le_of_ble_eq_true rfl) (kX2_init 17 rfl) rfl rfl rfl (S0z (by decide)) (lk_c (by decide) (ho 21 (by decide))) ?_
  refine B_putF (n9 := 38) (o' := ((17, .inr (2, [.ref (ad g 18), .ref (ad g 19), .ref (ad g 20), .ref (ad g 21), .null, .null, .null, .null])) :: o')) xf_X2 rfl (by decide) (by decide) (Nat.le_of_ble_eq_true rfl) rfl rfl rfl rfl rfl rfl fl_X2_25 (kX2_init 18 rfl) rfl ?_
  refine B_aload_n (n9 := 39) 0 (kX2_init 19 rfl) rfl rfl rfl ?_
  refine B_bipush (n9 := 41) (v := 6) (kX2_init 20 rfl) rfl (by decide) ?_
  refine B_newaI (n9 := 43) (N := 6) (by decide) ac_int (by decide) (by decide) (Nat.le_of_ble_eq_true rfl) (Nat.le_of_ble_eq_true rfl) (Nat.le_of_ble_eq_true rfl) (kX2_init 21 rfl) rfl rfl rfl (S0z (by decide)) (lk_c (by decide) (ho 22 (by decide))) ?_
  refine B_putF (n9 := 46) (o' := ((17, .inr (2, [.ref (ad g 18), .ref (ad g 19), .ref (ad g 20), .ref (ad g 21), .ref (ad g 22), .null, .null, .null])) :: o')) xf_X2 rfl (by decide) (by decide) (Nat.le_of_ble_eq_true rfl) rfl rfl rfl rfl rfl rfl fl_X2_28 (kX2_init 22 rfl) rfl ?_
  refine B_aload_n (n9 := 47) 0 (kX2_init 23 rfl) rfl rfl rfl ?_
  refine B_bipush (n9 := 49) (v := 6) (kX2_init 24 rfl) rfl (by decide) ?_
  refine B_newaI (n9 := 51) (N := 6) (by decide) ac_int (by decide) (by decide) (Nat.le_of_ble_eq_true rfl) (Nat.le_of_ble_eq_true rfl) (Nat.le_of_ble_eq_true rfl) (kX2_init 25 rfl) rfl rfl rfl (S0z (by decide)) (lk_c (by decide) (ho 23 (by decide))) ?_
  refine B_putF (n9 := 54) (o' := ((17, .inr (2, [.ref (ad g 18), .ref (ad g 19), .ref (ad g 20), .ref (ad g 21), .ref (ad g 22), .ref (ad g 23), .null, .null])) :: o')) xf_X2 rfl (by decide) (by decide) (Nat.le_of_ble_eq_true rfl) rfl rfl rfl rfl rfl rfl fl_X2_31 (kX2_init 26 rfl) rfl ?_
  refine B_aload_n (n9 := 55) 0 (kX2_init 27 rfl) rfl rfl rfl ?_
  refine B_sipush (n9 := 58) (v := 366) (kX2_init 28 rfl) rfl (by decide) ?_
  refine B_newaI (n9 := 60) (N := 366) (by decide) ac_int (by decide) (by decide) (Nat.le_of_ble_eq_true rfl) (Nat.le_of_ble_eq_true rfl) (Nat.le_of_ble_eq_true rfl) (kX2_init 29 rfl) rfl rfl rfl (S0z (by decide)) (lk_c (by decide) (ho 24 (by decide))) ?_
  refine B_putF (n9 := 63) (o' := ((17, .inr (2, [.ref (ad g 18), .ref (ad g 19), .ref (ad g 20), .ref (ad g 21), .ref (ad g 22), .ref (ad g 23), .ref (ad g 24), .null])) :: o')) xf_X2 rfl (by decide) (by decide) (Nat.le_of_ble_eq_true rfl) rfl rfl rfl rfl rfl rfl fl_X2_34 (kX2_init 30 rfl) rfl ?_
  refine B_aload_n (n9 := 64) 0 (kX2_init 31 rfl) rfl rfl rfl ?_
  refine B_bipush (n9 := 66) (v := 61) (kX2_init 32 rfl) rfl (by decide) ?_
  refine B_newaI (n9 := 68) (N := 61) (by decide) ac_int (by decide) (by decide) (Nat.le_of_ble_eq_true rfl) (Nat.le_of_ble_eq_true rfl) (Nat.le_of_ble_eq_true rfl) (kX2_init 33 rfl) rfl rfl rfl (S0z (by decide)) (lk_c (by decide) (ho 25 (by decide))) ?_
  refine B_putF (n9 := 71) (o' := ((17, .inr (2, [.ref (ad g 18), .ref (ad g 19), .ref (ad g 20), .ref (ad g 21), .ref (ad g 22), .ref (ad g 23), .ref (ad g 24), .ref (ad g 25)])) :: o')) xf_X2 rfl (by decide) (by decide) (Nat.le_of_ble_eq_true rfl) rfl rfl rfl rfl rfl rfl fl_X2_37 (kX2_init 34 rfl) rfl ?_
  refine B_close rfl (ho 17 (by decide)) ?_
  exact B_ret rfl (kX2_init 35 rfl)
set_option maxHeartbeats 4000000 in
set_option maxRecDepth 100000 in
theorem C_X3_init_16 {l : Launch} {g : XG} {o' : XO} (ho : ∀ k, 16 ≤ k → lk o' k = none) : ClA l g 4 11 765 mX3_init [.ref 16, .ref 1] 17 ((16, .inr (3, [.null, .null, .null, .null])) :: o') 28 o' := by
  refine ClA.of (by decide +kernel) rfl (Nat.le_of_ble_eq_true rfl) ?_
  show B _ _ _ _ _ _ 0 [(0, .ref 16), (1, .ref 1)] [] _ _ _ _ _ _
  refine B_aload_n (n9 := 1) 0 (kX3_init 0 rfl) rfl rfl rfl ?_
  refine B_obj (n9 := 4) (st := []) ol_X3_3 ob_1 ob_2 (Nat.le_of_ble_eq_true rfl) (Nat.le_of_ble_eq_true rfl) (kX3_init 1 rfl) rfl ?_
  refine B_aload_n (n9 := 5) 0 (kX3_init 2 rfl) rfl rfl rfl ?_
  refine B_new (n9 := 8) (fs := [.null, .null, .null, .null, .null, .null, .null, .null]) xf_X2 (by decide) cc_X3_9 it_X2 in_X2 (by decide) (Nat.le_of_ble_eq_true rfl) (Nat.le_of_ble_eq_true rfl) (kX3_init 3 rfl) rfl ?_
  refine B_dup (n9 := 9) (kX3_init 4 rfl) rfl rfl ?_
  refine B_callIN (n9 := 12) (As := []) (st := [.ref 17, .ref 16]) (C_X2_init_17 (fun k hk => lk_c (Nat.ne_of_lt (Nat.lt_of_lt_of_le (by decide) hk)) (ho k (Nat.le_trans (by decide) hk)))) (by decide) nl_X3_11 mi_X2 rfl (by decide) rfl (Nat.le_of_ble_eq_true rfl) (Nat.le_of_ble_eq_true rfl) (Nat.le_of_ble_eq_true rfl) (kX3_init 5 rfl) rfl ?_
  refine B_putF (n9 := 15) (o' := ((16, .inr (3, [.null, .ref (ad g 17), .null, .null])) :: o')) xf_X3 rfl (by decide) (by decide) (Nat.le_of_ble_eq_true rfl) rfl rfl rfl rfl rfl rfl fl_X3_12 (kX3_init 6 rfl) rfl ?_
  refine B_aload_n (n9 := 16) 0 (kX3_init 7 rfl) rfl rfl rfl ?_
  refine B_bipush (n9 := 18) (v := 36) (kX3_init 8 rfl) rfl (by decide) ?_
  refine B_newaI (n9 := 20) (N := 36) (by decide) ac_int (by decide) (by decide) (Nat.le_of_ble_eq_true rfl) (Nat.le_of_ble_eq_true rfl) (Nat.le_of_ble_eq_true rfl) (kX3_init 9 rfl) rfl rfl rfl (S0z (by decide)) (lk_c (by decide) (ho 26 (by decide))) ?_
  refine B_putF (n9 := 23) (o' := ((16, .inr (3, [.null, .ref (ad g 17), .ref (ad g 26), .null])) :: o')) xf_X3 rfl (by decide) (by decide) (Nat.le_of_ble_eq_true rfl) rfl rfl rfl rfl rfl rfl fl_X3_18 (kX3_init 10 rfl) rfl ?_
  refine B_aload_n (n9 := 24) 0 (kX3_init 11 rfl) rfl rfl rfl ?_
  refine B_sipush (n9 := 27) (v := 216) (kX3_init 12 rfl) rfl (by decide) ?_
  refine B_newaI (n9 := 29) (N := 216) (by decide) ac_int (by decide) (by decide) (Nat.le_of_ble_eq_true rfl) (Nat.le_of_ble_eq_true rfl) (Nat.le_of_ble_eq_true rfl) (kX3_init 13 rfl) rfl rfl rfl (S0z (by decide)) (lk_c (by decide) (ho 27 (by decide))) ?_
  refine B_putF (n9 := 32) (o' := ((16, .inr (3, [.null, .ref (ad g 17), .ref (ad g 26), .ref (ad g 27)])) :: o')) xf_X3 rfl (by decide) (by decide) (Nat.le_of_ble_eq_true rfl) rfl rfl rfl rfl rfl rfl fl_X3_22 (kX3_init 14 rfl) rfl ?_
  refine B_aload_n (n9 := 33) 0 (kX3_init 15 rfl) rfl rfl rfl ?_
  refine B_aload_n (n9 := 34) 1 (kX3_init 16 rfl) rfl rfl rfl ?_
  refine B_putF (n9 := 37) (o' := ((16, .inr (3, [.ref (ad g 1), .ref (ad g 17), .ref (ad g 26), .ref (ad g 27)])) :: o')) xf_X3 rfl (by decide) (by decide) (Nat.le_of_ble_eq_true rfl) rfl rfl rfl rfl rfl rfl fl_X3_25 (kX3_init 17 rfl) rfl ?_
  refine B_close rfl (ho 16 (by decide)) ?_
  exact B_ret rfl (kX3_init 18 rfl)
set_option maxHeartbeats 4000000 in
set_option maxRecDepth 100000 in
theorem C_X10_init_28 {l : Launch} {g : XG} {o' : XO} (ho : ∀ k, 28 ≤ k → lk o' k = none) : ClA l g 2 7 120 mX10_init [.ref 28] 29 ((28, .inr (10, [.int 0, .null, .null, .null, .int 0, .null, .null, .null, .null])) :: o') 36 o' := by
  refine ClA.of (by decide +kernel) rfl (Nat.le_of_ble_eq_true rfl) ?_
  show B _ _ _ _ _ _ 0 [(0, .ref 28)] [] _ _ _ _ _ _
  refine B_aload_n (n9 := 1) 0 (kX10_init 0 rfl) rfl rfl rfl ?_
  refine B_obj (n9 := 4) (st := []) ol_X10_3 ob_1 ob_2 (Nat.le_of_ble_eq_true rfl) (Nat.le_of_ble_eq_true rfl) (kX10_init 1 rfl) rfl ?_
  refine B_aload_n (n9 := 5) 0 (kX10_init 2 rfl) rfl rfl rfl ?_
  refine B_bipush (n9 := 7) (v := 6) (kX10_init 3 rfl) rfl (by decide) ?_
  refine B_newaI (n9 := 9) (N := 6) (by decide) ac_int (by decide) (by decide) (Nat.le_of_ble_eq_true rfl) (Nat.le_of_ble_eq_true rfl) (Nat.le_of_ble_eq_true rfl) (kX10_init 4 rfl) rfl rfl rfl (S0z (by decide)) (lk_c (by decide) (ho 29 (by decide))) ?_
  refine B_putF (n9 := 12) (o' := ((28, .inr (10, [.int 0, .ref (ad g 29), .null, .null, .int 0, .null, .null, .null, .null])) :: o')) xf_X10 rfl (by decide) (by decide) (Nat.le_of_ble_eq_true rfl) rfl rfl rfl rfl rfl rfl fl_X10_9 (kX10_init 5 rfl) rfl ?_
  refine B_aload_n (n9 := 13) 0 (kX10_init 6 rfl) rfl rfl rfl ?_
  refine B_bipush (n9 := 15) (v := 6) (kX10_init 7 rfl) rfl (by decide) ?_
  refine B_newaI (n9 := 17) (N := 6) (by decide) ac_int (by decide) (by decide) (Nat.le_of_ble_eq_true rfl) (Nat.le_of_ble_eq_true rfl) (Nat.le_of_ble_eq_true rfl) (kX10_init 8 rfl) rfl rfl rfl (S0z (by decide)) (lk_c (by decide) (ho 30 (by decide))) ?_
  refine B_putF (n9 := 20) (o' := ((28, .inr (10, [.int 0, .ref (ad g 29), .ref (ad g 30), .null, .int 0, .null, .null, .null, .null])) :: o')) xf_X10 rfl (by decide) (by decide) (Nat.le_of_ble_eq_true rfl) rfl rfl rfl rfl rfl rfl fl_X10_15 (kX10_init 9 rfl) rfl ?_
  refine B_aload_n (n9 := 21) 0 (kX10_init 10 rfl) rfl rfl rfl ?_
  refine B_bipush (n9 := 23) (v := 36) (kX10_init 11 rfl) rfl (by decide) ?_
  refine B_newaI (n9 := 25) (N := 36) (by decide) ac_int (by decide) (by decide) (Nat.le_of_ble_eq_true rfl) (Nat.le_of_ble_eq_true rfl) (Nat.le_of_ble_eq_true rfl) (kX10_init 12 rfl) rfl rfl rfl (S0z (by decide)) (lk_c (by decide) (ho 31 (by decide))) ?_
  refine B_putF (n9 := 28) (o' := ((28, .inr (10, [.int 0, .ref (ad g 29), .ref (ad g 30), .ref (ad g 31), .int 0, .null, .null, .null, .null])) :: o')) xf_X10 rfl (by decide) (by decide) (Nat.le_of_ble_eq_true rfl) rfl rfl rfl rfl rfl rfl fl_X10_18 (kX10_init 13 rfl) rfl ?_
  refine B_aload_n (n9 := 29) 0 (kX10_init 14 rfl) rfl rfl rfl ?_
  refine B_bipush (n9 := 31) (v := 48) (kX10_init 15 rfl) rfl (by decide) ?_
  refine B_newaI (n9 := 33) (N := 48) (by decide) ac_int (by decide) (by decide) (Nat.le_of_ble_eq_true rfl) (Nat.le_of_ble_eq_true rfl) (Nat.le_of_ble_eq_true rfl) (kX10_init 16 rfl) rfl rfl rfl (S0z (by decide)) (lk_c (by decide) (ho 32 (by decide))) ?_
  refine B_putF (n9 := 36) (o' := ((28, .inr (10, [.int 0, .ref (ad g 29), .ref (ad g 30), .ref (ad g 31), .int 0, .ref (ad g 32), .null, .null, .null])) :: o')) xf_X10 rfl (by decide) (by decide) (Nat.le_of_ble_eq_true rfl) rfl rfl rfl rfl rfl rfl fl_X10_21 (kX10_init 17 rfl) rfl ?_
  refine B_aload_n (n9 := 37) 0 (kX10_init 18 rfl) rfl rfl rfl ?_
  refine B_bipush (n9 := 39) (v := 8) (kX10_init 19 rfl) rfl (by decide) ?_
  refine B_newaI (n9 := 41) (N := 8) (by decide) ac_int (by decide) (by decide) (Nat.le_of_ble_eq_true rfl) (Nat.le_of_ble_eq_true rfl) (Nat.le_of_ble_eq_true rfl) (kX10_init 20 rfl) rfl rfl rfl (S0z (by decide)) (lk_c (by decide) (ho 33 (by decide))) ?_
  refine B_putF (n9 := 44) (o' := ((28, .inr (10, [.int 0, .ref (ad g 29), .ref (ad g 30), .ref (ad g 31), .int 0, .ref (ad g 32), .ref (ad g 33), .null, .null])) :: o')) xf_X10 rfl (by decide) (by decide) (Nat.le_of_ble_eq_true rfl) rfl rfl rfl rfl rfl rfl fl_X10_24 (kX10_init 21 rfl) rfl ?_
  refine B_aload_n (n9 := 45) 0 (kX10_init 22 rfl) rfl rfl rfl ?_
  refine B_bipush (n9 := 47) (v := 8) (kX10_init 23 rfl) rfl (by decide) ?_
  refine B_newaI (n9 := 49) (N := 8) (by decide) ac_int (by decide) (by decide) (Nat.le_of_ble_eq_true rfl) (Nat.le_of_ble_eq_true rfl) (Nat.le_of_ble_eq_true rfl) (kX10_init 24 rfl) rfl rfl rfl (S0z (by decide)) (lk_c (by decide) (ho 34 (by decide))) ?_
  refine B_putF (n9 := 52) (o' := ((28, .inr (10, [.int 0, .ref (ad g 29), .ref (ad g 30), .ref (ad g 31), .int 0, .ref (ad g 32), .ref (ad g 33), .ref (ad g 34), .null])) :: o')) xf_X10 rfl (by decide) (by decide) (Nat.le_of_ble_eq_true rfl) rfl rfl rfl rfl rfl rfl fl_X10_27 (kX10_init 25 rfl) rfl ?_
  refine B_aload_n (n9 := 53) 0 (kX10_init 26 rfl) rfl rfl rfl ?_
  refine B_bipush (n9 := 55) (v := 8) (kX10_init 27 rfl) rfl (by decide) ?_
  refine B_newaI (n9 := 57) (N := 8) (by decide) ac_int (by decide) (by decide) (Nat.le_of_ble_eq_true rfl) (Nat.le_of_ble_eq_true rfl) (Nat.le_of_ble_eq_true rfl) (kX10_init 28 rfl) rfl rfl rfl (S0z (by decide)) (lk_c (by decide) (ho 35 (by decide))) ?_
  refine B_putF (n9 := 60) (o' := ((28, .inr (10, [.int 0, .ref (ad g 29), .ref (ad g 30), .ref (ad g 31), .int 0, .ref (ad g 32), .ref (ad g 33), .ref (ad g 34), .ref (ad g 35)])) :: o')) xf_X10 rfl (by decide) (by decide) (Nat.le_of_ble_eq_true rfl) rfl rfl rfl rfl rfl rfl fl_X10_30 (kX10_init 29 rfl) rfl ?_
  refine B_close rfl (ho 28 (by decide)) ?_
  exact B_ret rfl (kX10_init 30 rfl)
set_option maxHeartbeats 4000000 in
set_option maxRecDepth 100000 in
theorem C_X6_init_36 {l : Launch} {g : XG} {o' : XO} (ho : ∀ k, 36 ≤ k → lk o' k = none) : ClA l g 2 3 120 mX6_init [.ref 36] 37 ((36, .inr (6, [.null, .null, .null, .int 0])) :: o') 40 o' := by
  refine ClA.of (by decide +kernel) rfl (Nat.le_of_ble_eq_true rfl) ?_
  show B _ _ _ _ _ _ 0 [(0, .ref 36)] [] _ _ _ _ _ _
  refine B_aload_n (n9 := 1) 0 (kX6_init 0 rfl) rfl rfl rfl ?_
  refine B_obj (n9 := 4) (st := []) ol_X6_3 ob_1 ob_2 (Nat.le_of_ble_eq_true rfl) (Nat.le_of_ble_eq_true rfl) (kX6_init 1 rfl) rfl ?_
  refine B_aload_n (n9 := 5) 0 (kX6_init 2 rfl) rfl rfl rfl ?_
  refine B_bipush (n9 := 7) (v := 40) (kX6_init 3 rfl) rfl (by decide) ?_
  refine B_newaI (n9 := 9) (N := 40) (by decide) ac_int (by decide) (by decide) (Nat.le_of_ble_eq_true rfl) (Nat.le_of_ble_eq_true rfl) (Nat.le_of_ble_eq_true rfl) (kX6_init 4 rfl) rfl rfl rfl (S0z (by decide)) (lk_c (by decide) (ho 37 (by decide))) ?_
  refine B_putF (n9 := 12) (o' := ((36, .inr (6, [.ref (ad g 37), .null, .null, .int 0])) :: o')) xf_X6 rfl (by decide) (by decide) (Nat.le_of_ble_eq_true rfl) rfl rfl rfl rfl rfl rfl fl_X6_9 (kX6_init 5 rfl) rfl ?_
  refine B_aload_n (n9 := 13) 0 (kX6_init 6 rfl) rfl rfl rfl ?_
  refine B_bipush (n9 := 15) (v := 40) (kX6_init 7 rfl) rfl (by decide) ?_
  refine B_newaI (n9 := 17) (N := 40) (by decide) ac_int (by decide) (by decide) (Nat.le_of_ble_eq_true rfl) (Nat.le_of_ble_eq_true rfl) (Nat.le_of_ble_eq_true rfl) (kX6_init 8 rfl) rfl rfl rfl (S0z (by decide)) (lk_c (by decide) (ho 38 (by decide))) ?_
  refine B_putF (n9 := 20) (o' := ((36, .inr (6, [.ref (ad g 37), .ref (ad g 38), .null, .int 0])) :: o')) xf_X6 rfl (by decide) (by decide) (Nat.le_of_ble_eq_true rfl) rfl rfl rfl rfl rfl rfl fl_X6_15 (kX6_init 9 rfl) rfl ?_
  refine B_aload_n (n9 := 21) 0 (kX6_init 10 rfl) rfl rfl rfl ?_
  refine B_bipush (n9 := 23) (v := 40) (kX6_init 11 rfl) rfl (by decide) ?_
  refine B_newaI (n9 := 25) (N := 40) (by decide) ac_int (by decide) (by decide) (Nat.le_of_ble_eq_true rfl) (Nat.le_of_ble_eq_true rfl) (Nat.le_of_ble_eq_true rfl) (kX6_init 12 rfl) rfl rfl rfl (S0z (by decide)) (lk_c (by decide) (ho 39 (by decide))) ?_
  refine B_putF (n9 := 28) (o' := ((36, .inr (6, [.ref (ad g 37), .ref (ad g 38), .ref (ad g 39), .int 0])) :: o')) xf_X6 rfl (by decide) (by decide) (Nat.le_of_ble_eq_true rfl) rfl rfl rfl rfl rfl rfl fl_X6_18 (kX6_init 13 rfl) rfl ?_
  refine B_close rfl (ho 36 (by decide)) ?_
  exact B_ret rfl (kX6_init 14 rfl)
set_option maxHeartbeats 4000000 in
set_option maxRecDepth 100000 in
theorem C_X6_init_41 {l : Launch} {g : XG} {o' : XO} (ho : ∀ k, 41 ≤ k → lk o' k = none) : ClA l g 2 3 120 mX6_init [.ref 41] 42 ((41, .inr (6, [.null, .null, .null, .int 0])) :: o') 45 o' := by
  refine ClA.of (by decide +kernel) rfl (Nat.le_of_ble_eq_true rfl) ?_
  show B _ _ _ _ _ _ 0 [(0, .ref 41)] [] _ _ _ _ _ _
  refine B_aload_n (n9 := 1) 0 (kX6_init 0 rfl) rfl rfl rfl ?_
  refine B_obj (n9 := 4) (st := []) ol_X6_3 ob_1 ob_2 (Nat.le_of_ble_eq_true rfl) (Nat.le_of_ble_eq_true rfl) (kX6_init 1 rfl) rfl ?_
  refine B_aload_n (n9 := 5) 0 (kX6_init 2 rfl) rfl rfl rfl ?_
  refine B_bipush (n9 := 7) (v := 40) (kX6_init 3 rfl) rfl (by decide) ?_
  refine B_newaI (n9 := 9) (N := 40) (by decide) ac_int (by decide) (by decide) (Nat.le_of_ble_eq_true rfl) (Nat.le_of_ble_eq_true rfl) (Nat.le_of_ble_eq_true rfl) (kX6_init 4 rfl) rfl rfl rfl (S0z (by decide)) (lk_c (by decide) (ho 42 (by decide))) ?_
  refine B_putF (n9 := 12) (o' := ((41, .inr (6, [.ref (ad g 42), .null, .null, .int 0])) :: o')) xf_X6 rfl (by decide) (by decide) (Nat.le_of_ble_eq_true rfl) rfl rfl rfl rfl rfl rfl fl_X6_9 (kX6_init 5 rfl) rfl ?_
  refine B_aload_n (n9 := 13) 0 (kX6_init 6 rfl) rfl rfl rfl ?_
  refine B_bipush (n9 := 15) (v := 40) (kX6_init 7 rfl) rfl (by decide) ?_
  refine B_newaI (n9 := 17) (N := 40) (by decide) ac_int (by decide) (by decide) (Nat.le_of_ble_eq_true rfl) (Nat.le_of_ble_eq_true rfl) (Nat.le_of_ble_eq_true rfl) (kX6_init 8 rfl) rfl rfl rfl (S0z (by decide)) (lk_c (by decide) (ho 43 (by decide))) ?_
  refine B_putF (n9 := 20) (o' := ((41, .inr (6, [.ref (ad g 42), .ref (ad g 43), .null, .int 0])) :: o')) xf_X6 rfl (by decide) (by decide) (Nat.le_of_ble_eq_true rfl) rfl rfl rfl rfl rfl rfl fl_X6_15 (kX6_init 9 rfl) rfl ?_
  refine B_aload_n (n9 := 21) 0 (kX6_init 10 rfl) rfl rfl rfl ?_
  refine B_bipush (n9 := 23) (v := 40) (kX6_init 11 rfl) rfl (by decide) ?_
  refine B_newaI (n9 := 25) (N := 40) (by decide) ac_int (by decide) (by decide) (Nat.le_of_ble_eq_true rfl) (Nat.le_of_ble_eq_true rfl) (Nat.le_of_ble_eq_true rfl) (kX6_init 12 rfl) rfl rfl rfl (S0z (by decide)) (lk_c (by decide) (ho 44 (by decide))) ?_
  refine B_putF (n9 := 28) (o' := ((41, .inr (6, [.ref (ad g 42), .ref (ad g 43), .ref (ad g 44), .int 0])) :: o')) xf_X6 rfl (by decide) (by decide) (Nat.le_of_ble_eq_true rfl) rfl rfl rfl rfl rfl rfl fl_X6_18 (kX6_init 13 rfl) rfl ?_
  refine B_close rfl (ho 41 (by decide)) ?_
  exact B_ret rfl (kX6_init 14 rfl)
set_option maxHeartbeats 4000000 in
set_option maxRecDepth 100000 in
theorem C_X7_init_40 {l : Launch} {g : XG} {o' : XO} (ho : ∀ k, 40 ≤ k → lk o' k = none) : ClA l g 4 4 124 mX7_init [.ref 40, .ref 1] 41 ((40, .inr (7, [.null, .null, .int 0])) :: o') 45 o' := by
  refine ClA.of (by decide +kernel) rfl (Nat.le_of_ble_eq_true rfl) ?_
  show B _ _ _ _ _ _ 0 [(0, .ref 40), (1, .ref 1)] [] _ _ _ _ _ _
  refine B_aload_n (n9 := 1) 0 (kX7_init 0 rfl) rfl rfl rfl ?_
  refine B_obj (n9 := 4) (st := []) ol_X7_3 ob_1 ob_2 (Nat.le_of_ble_eq_true rfl) (Nat.le_of_ble_eq_true rfl) (kX7_init 1 rfl) rfl ?_
  refine B_aload_n (n9 := 5) 0 (kX7_init 2 rfl) rfl rfl rfl ?_
  refine B_new (n9 := 8) (fs := [.null, .null, .null, .int 0]) xf_X6 (by decide) cc_X7_9 it_X6 in_X6 (by decide) (Nat.le_of_ble_eq_true rfl) (Nat.le_of_ble_eq_true rfl) (kX7_init 3 rfl) rfl ?_
  refine B_dup (n9 := 9) (kX7_init 4 rfl) rfl rfl ?_
  refine B_callIN (n9 := 12) (As := []) (st := [.ref 41, .ref 40]) (C_X6_init_41 (fun k hk => lk_c (Nat.ne_of_lt (Nat.lt_of_lt_of_le (by decide) hk)) (ho k (Nat.le_trans (by decide) hk)))) (by decide) nl_X7_11 mi_X6 rfl (by decide) rfl (Nat.le_of_ble_eq_true rfl) (Nat.le_of_ble_eq_true rfl) (Nat.le_of_ble_eq_true rfl) (kX7_init 5 rfl) rfl ?_
  refine B_putF (n9 := 15) (o' := ((40, .inr (7, [.null, .ref (ad g 41), .int 0])) :: o')) xf_X7 rfl (by decide) (by decide) (Nat.le_of_ble_eq_true rfl) rfl rfl rfl rfl rfl rfl fl_X7_12 (kX7_init 6 rfl) rfl ?_
  refine B_aload_n (n9 := 16) 0 (kX7_init 7 rfl) rfl rfl rfl ?_
  refine B_aload_n (n9 := 17) 1 (kX7_init 8 rfl) rfl rfl rfl ?_
  refine B_putF (n9 := 20) (o' := ((40, .inr (7, [.ref (ad g 1), .ref (ad g 41), .int 0])) :: o')) xf_X7 rfl (by decide) (by decide) (Nat.le_of_ble_eq_true rfl) rfl rfl rfl rfl rfl rfl fl_X7_18 (kX7_init 9 rfl) rfl ?_
  refine B_close rfl (ho 40 (by decide)) ?_
  exact B_ret rfl (kX7_init 10 rfl)
set_option maxHeartbeats 4000000 in
set_option maxRecDepth 100000 in
theorem C_X5_init_45 {l : Launch} {g : XG} {o' : XO} (ho : ∀ k, 45 ≤ k → lk o' k = none) : ClA l g 2 0 0 mX5_init [.ref 45] 46 ((45, .inr (5, [.int 0])) :: o') 46 o' := by
  refine ClA.of (by decide +kernel) rfl (Nat.le_of_ble_eq_true rfl) ?_
  show B _ _ _ _ _ _ 0 [(0, .ref 45)] [] _ _ _ _ _ _
  refine B_aload_n (n9 := 1) 0 (kX5_init 0 rfl) rfl rfl rfl ?_
  refine B_obj (n9 := 4) (st := []) ol_X5_3 ob_1 ob_2 (Nat.le_of_ble_eq_true rfl) (Nat.le_of_ble_eq_true rfl) (kX5_init 1 rfl) rfl ?_
  refine B_aload_n (n9 := 5) 0 (kX5_init 2 rfl) rfl rfl rfl ?_
  refine B_iconst (n9 := 6) (v := (-1)) (kX5_init 3 rfl) rfl (by decide) ?_
  refine B_putI (n9 := 9) (o' := ((45, .inr (5, [.int (-1)])) :: o')) xf_X5 rfl (by decide) (by decide) (Nat.le_of_ble_eq_true rfl) rfl rfl rfl fl_X5_9 (kX5_init 4 rfl) rfl ?_
  refine B_close rfl (ho 45 (by decide)) ?_
  exact B_ret rfl (kX5_init 5 rfl)
set_option maxHeartbeats 4000000 in
set_option maxRecDepth 100000 in
theorem C_X10_init_47 {l : Launch} {g : XG} {o' : XO} (ho : ∀ k, 47 ≤ k → lk o' k = none) : ClA l g 2 7 120 mX10_init [.ref 47] 48 ((47, .inr (10, [.int 0, .null, .null, .null, .int 0, .null, .null, .null, .null])) :: o') 55 o' := by
  refine ClA.of (by decide +kernel) rfl (Nat.le_of_ble_eq_true rfl) ?_
  show B _ _ _ _ _ _ 0 [(0, .ref 47)] [] _ _ _ _ _ _
  refine B_aload_n (n9 := 1) 0 (kX10_init 0 rfl) rfl rfl rfl ?_
  refine B_obj (n9 := 4) (st := []) ol_X10_3 ob_1 ob_2 (Nat.le_of_ble_eq_true rfl) (Nat.le_of_ble_eq_true rfl) (kX10_init 1 rfl) rfl ?_
  refine B_aload_n (n9 := 5) 0 (kX10_init 2 rfl) rfl rfl rfl ?_
  refine B_bipush (n9 := 7) (v := 6) (kX10_init 3 rfl) rfl (by decide) ?_
  refine B_newaI (n9 := 9) (N := 6) (by decide) ac_int (by decide) (by decide) (Nat.le_of_ble_eq_true rfl) (Nat.le_of_ble_eq_true rfl) (Nat.le_of_ble_eq_true rfl) (kX10_init 4 rfl) rfl rfl rfl (S0z (by decide)) (lk_c (by decide) (ho 48 (by decide))) ?_
  refine B_putF (n9 := 12) (o' := ((47, .inr (10, [.int 0, .ref (ad g 48), .null, .null, .int 0, .null, .null, .null, .null])) :: o')) xf_X10 rfl (by decide) (by decide) (Nat.le_of_ble_eq_true rfl) rfl rfl rfl rfl rfl rfl fl_X10_9 (kX10_init 5 rfl) rfl ?_
  refine B_aload_n (n9 := 13) 0 (kX10_init 6 rfl) rfl rfl rfl ?_
  refine B_bipush (n9 := 15) (v := 6) (kX10_init 7 rfl) rfl (by decide) ?_
  refine B_newaI (n9 := 17) (N := 6) (by decide) ac_int (by decide) (by decide) (Nat.le_of_ble_eq_true rfl) (Nat.le_of_ble_eq_true rfl) (Nat.le_of_ble_eq_true rfl) (kX10_init 8 rfl) rfl rfl rfl (S0z (by decide)) (lk_c (by decide) (ho 49 (by decide))) ?_
  refine B_putF (n9 := 20) (o' := ((47, .inr (10, [.int 0, .ref (ad g 48), .ref (ad g 49), .null, .int 0, .null, .null, .null, .null])) :: o')) xf_X10 rfl (by decide) (by decide) (Nat.le_of_ble_eq_true rfl) rfl rfl rfl rfl rfl rfl fl_X10_15 (kX10_init 9 rfl) rfl ?_
  refine B_aload_n (n9 := 21) 0 (kX10_init 10 rfl) rfl rfl rfl ?_
  refine B_bipush (n9 := 23) (v := 36) (kX10_init 11 rfl) rfl (by decide) ?_
  refine B_newaI (n9 := 25) (N := 36) (by decide) ac_int (by decide) (by decide) (Nat.le_of_ble_eq_true rfl) (Nat.le_of_ble_eq_true rfl) (Nat.le_of_ble_eq_true rfl) (kX10_init 12 rfl) rfl rfl rfl (S0z (by decide)) (lk_c (by decide) (ho 50 (by decide))) ?_
  refine B_putF (n9 := 28) (o' := ((47, .inr (10, [.int 0, .ref (ad g 48), .ref (ad g 49), .ref (ad g 50), .int 0, .null, .null, .null, .null])) :: o')) xf_X10 rfl (by decide) (by decide) (Nat.le_of_ble_eq_true rfl) rfl rfl rfl rfl rfl rfl fl_X10_18 (kX10_init 13 rfl) rfl ?_
  refine B_aload_n (n9 := 29) 0 (kX10_init 14 rfl) rfl rfl rfl ?_
  refine B_bipush (n9 := 31) (v := 48) (kX10_init 15 rfl) rfl (by decide) ?_
  refine B_newaI (n9 := 33) (N := 48) (by decide) ac_int (by decide) (by decide) (Nat.le_of_ble_eq_true rfl) (Nat.le_of_ble_eq_true rfl) (Nat.le_of_ble_eq_true rfl) (kX10_init 16 rfl) rfl rfl rfl (S0z (by decide)) (lk_c (by decide) (ho 51 (by decide))) ?_
  refine B_putF (n9 := 36) (o' := ((47, .inr (10, [.int 0, .ref (ad g 48), .ref (ad g 49), .ref (ad g 50), .int 0, .ref (ad g 51), .null, .null, .null])) :: o')) xf_X10 rfl (by decide) (by decide) (Nat.le_of_ble_eq_true rfl) rfl rfl rfl rfl rfl rfl fl_X10_21 (kX10_init 17 rfl) rfl ?_
  refine B_aload_n (n9 := 37) 0 (kX10_init 18 rfl) rfl rfl rfl ?_
  refine B_bipush (n9 := 39) (v := 8) (kX10_init 19 rfl) rfl (by decide) ?_
  refine B_newaI (n9 := 41) (N := 8) (by decide) ac_int (by decide) (by decide) (Nat.le_of_ble_eq_true rfl) (Nat.le_of_ble_eq_true rfl) (Nat.le_of_ble_eq_true rfl) (kX10_init 20 rfl) rfl rfl rfl (S0z (by decide)) (lk_c (by decide) (ho 52 (by decide))) ?_
  refine B_putF (n9 := 44) (o' := ((47, .inr (10, [.int 0, .ref (ad g 48), .ref (ad g 49), .ref (ad g 50), .int 0, .ref (ad g 51), .ref (ad g 52), .null, .null])) :: o')) xf_X10 rfl (by decide) (by decide) (Nat.le_of_ble_eq_true rfl) rfl rfl rfl rfl rfl rfl fl_X10_24 (kX10_init 21 rfl) rfl ?_
  refine B_aload_n (n9 := 45) 0 (kX10_init 22 rfl) rfl rfl rfl ?_
  refine B_bipush (n9 := 47) (v := 8) (kX10_init 23 rfl) rfl (by decide) ?_
  refine B_newaI (n9 := 49) (N := 8) (by decide) ac_int (by decide) (by decide) (Nat.le_of_ble_eq_true rfl) (Nat.le_of_ble_eq_true rfl) (Nat.le_of_ble_eq_true rfl) (kX10_init 24 rfl) rfl rfl rfl (S0z (by decide)) (lk_c (by decide) (ho 53 (by decide))) ?_
  refine B_putF (n9 := 52) (o' := ((47, .inr (10, [.int 0, .ref (ad g 48), .ref (ad g 49), .ref (ad g 50), .int 0, .ref (ad g 51), .ref (ad g 52), .ref (ad g 53), .null])) :: o')) xf_X10 rfl (by decide) (by decide) (Nat.le_of_ble_eq_true rfl) rfl rfl rfl rfl rfl rfl fl_X10_27 (kX10_init 25 rfl) rfl ?_
  refine B_aload_n (n9 := 53) 0 (kX10_init 26 rfl) rfl rfl rfl ?_
  refine B_bipush (n9 := 55) (v := 8) (kX10_init 27 rfl) rfl (by decide) ?_
  refine B_newaI (n9 := 57) (N := 8) (by decide) ac_int (by decide) (by decide) (Nat.le_of_ble_eq_true rfl) (Nat.le_of_ble_eq_true rfl) (Nat.le_of_ble_eq_true rfl) (kX10_init 28 rfl) rfl rfl rfl (S0z (by decide)) (lk_c (by decide) (ho 54 (by decide))) ?_
  refine B_putF (n9 := 60) (o' := ((47, .inr (10, [.int 0, .ref (ad g 48), .ref (ad g 49), .ref (ad g 50), .int 0, .ref (ad g 51), .ref (ad g 52), .ref (ad g 53), .ref (ad g 54)])) :: o')) xf_X10 rfl (by decide) (by decide) (Nat.le_of_ble_eq_true rfl) rfl rfl rfl rfl rfl rfl fl_X10_30 (kX10_init 29 rfl) rfl ?_
  refine B_close rfl (ho 47 (by decide)) ?_
  exact B_ret rfl (kX10_init 30 rfl)
set_option maxHeartbeats 4000000 in
set_option maxRecDepth 100000 in
theorem C_X10_init_55 {l : Launch} {g : XG} {o' : XO} (ho : ∀ k, 55 ≤ k → lk o' k = none) : ClA l g 2 7 120 mX10_init [.ref 55] 56 ((55, .inr (10, [.int 0, .null, .null, .null, .int 0, .null, .null, .null, .null])) :: o') 63 o' := by
  refine ClA.of (by decide +kernel) rfl (Nat.le_of_ble_eq_true rfl) ?_
  show B _ _ _ _ _ _ 0 [(0, .ref 55)] [] _ _ _ _ _ _
  refine B_aload_n (n9 := 1) 0 (kX10_init 0 rfl) rfl rfl rfl ?_
  refine B_obj (n9 := 4) (st := []) ol_X10_3 ob_1 ob_2 (Nat.le_of_ble_eq_true rfl) (Nat.le_of_ble_eq_true rfl) (kX10_init 1 rfl) rfl ?_
  refine B_aload_n (n9 := 5) 0 (kX10_init 2 rfl) rfl rfl rfl ?_
  refine B_bipush (n9 := 7) (v := 6) (kX10_init 3 rfl) rfl (by decide) ?_
  refine B_newaI (n9 := 9) (N := 6) (by decide) ac_int (by decide) (by decide) (Nat.le_of_ble_eq_true rfl) (Nat.le_of_ble_eq_true rfl) (Nat.le_of_ble_eq_true rfl) (kX10_init 4 rfl) rfl rfl rfl (S0z (by decide)) (lk_c (by decide) (ho 56 (by decide))) ?_
  refine B_putF (n9 := 12) (o' := ((55, .inr (10, [.int 0, .ref (ad g 56), .null, .null, .int 0, .null, .null, .null, .null])) :: o')) xf_X10 rfl (by decide) (by decide) (Nat.le_of_ble_eq_true rfl) rfl rfl rfl rfl rfl rfl fl_X10_9 (kX10_init 5 rfl) rfl ?_
  refine B_aload_n (n9 := 13) 0 (kX10_init 6 rfl) rfl rfl rfl ?_
  refine B_bipush (n9 := 15) (v := 6) (kX10_init 7 rfl) rfl (by decide) ?_
  refine B_newaI (n9 := 17) (N := 6) (by decide) ac_int (by decide) (by decide) (Nat.le_of_ble_eq_true rfl) (Nat.le_of_ble_eq_true rfl) (Nat.le_of_ble_eq_true rfl) (kX10_init 8 rfl) rfl rfl rfl (S0z (by decide)) (lk_c (by decide) (ho 57 (by decide))) ?_
  refine B_putF (n9 := 20) (o' := ((55, .inr (10, [.int 0, .ref (ad g 56), .ref (ad g 57), .null, .int 0, .null, .null, .null, .null])) :: o')) xf_X10 rfl (by decide) (by decide) (Nat.le_of_ble_eq_true rfl) rfl rfl rfl rfl rfl rfl fl_X10_15 (kX10_init 9 rfl) rfl ?_
  refine B_aload_n (n9 := 21) 0 (kX10_init 10 rfl) rfl rfl rfl ?_
  refine B_bipush (n9 := 23) (v := 36) (kX10_init 11 rfl) rfl (by decide) ?_
  refine B_newaI (n9 := 25) (N := 36) (by decide) ac_int (by decide) (by decide) (Nat.le_of_ble_eq_true rfl) (Nat.le_of_ble_eq_true rfl) (Nat.le_of_ble_eq_true rfl) (kX10_init 12 rfl) rfl rfl rfl (S0z (by decide)) (lk_c (by decide) (ho 58 (by decide))) ?_
  refine B_putF (n9 := 28) (o' := ((55, .inr (10, [.int 0, .ref (ad g 56), .ref (ad g 57), .ref (ad g 58), .int 0, .null, .null, .null, .null])) :: o')) xf_X10 rfl (by decide) (by decide) (Nat.le_of_ble_eq_true rfl) rfl rfl rfl rfl rfl rfl fl_X10_18 (kX10_init 13 rfl) rfl ?_
  refine B_aload_n (n9 := 29) 0 (kX10_init 14 rfl) rfl rfl rfl ?_
  refine B_bipush (n9 := 31) (v := 48) (kX10_init 15 rfl) rfl (by decide) ?_
  refine B_newaI (n9 := 33) (N := 48) (by decide) ac_int (by decide) (by decide) (Nat.le_of_ble_eq_true rfl) (Nat.le_of_ble_eq_true rfl) (Nat.le_of_ble_eq_true rfl) (kX10_init 16 rfl) rfl rfl rfl (S0z (by decide)) (lk_c (by decide) (ho 59 (by decide))) ?_
  refine B_putF (n9 := 36) (o' := ((55, .inr (10, [.int 0, .ref (ad g 56), .ref (ad g 57), .ref (ad g 58), .int 0, .ref (ad g 59), .null, .null, .null])) :: o')) xf_X10 rfl (by decide) (by decide) (Nat.le_of_ble_eq_true rfl) rfl rfl rfl rfl rfl rfl fl_X10_21 (kX10_init 17 rfl) rfl ?_
  refine B_aload_n (n9 := 37) 0 (kX10_init 18 rfl) rfl rfl rfl ?_
  refine B_bipush (n9 := 39) (v := 8) (kX10_init 19 rfl) rfl (by decide) ?_
  refine B_newaI (n9 := 41) (N := 8) (by decide) ac_int (by decide) (by decide) (Nat.le_of_ble_eq_true rfl) (Nat.le_of_ble_eq_true rfl) (Nat.le_of_ble_eq_true rfl) (kX10_init 20 rfl) rfl rfl rfl (S0z (by decide)) (lk_c (by decide) (ho 60 (by decide))) ?_
  refine B_putF (n9 := 44) (o' := ((55, .inr (10, [.int 0, .ref (ad g 56), .ref (ad g 57), .ref (ad g 58), .int 0, .ref (ad g 59), .ref (ad g 60), .null, .null])) :: o')) xf_X10 rfl (by decide) (by decide) (Nat.le_of_ble_eq_true rfl) rfl rfl rfl rfl rfl rfl fl_X10_24 (kX10_init 21 rfl) rfl ?_
  refine B_aload_n (n9 := 45) 0 (kX10_init 22 rfl) rfl rfl rfl ?_
  refine B_bipush (n9 := 47) (v := 8) (kX10_init 23 rfl) rfl (by decide) ?_
  refine B_newaI (n9 := 49) (N := 8) (by decide) ac_int (by decide) (by decide) (Nat.le_of_ble_eq_true rfl) (Nat.le_of_ble_eq_true rfl) (Nat.le_of_ble_eq_true rfl) (kX10_init 24 rfl) rfl rfl rfl (S0z (by decide)) (lk_c (by decide) (ho 61 (by decide))) ?_
  refine B_putF (n9 := 52) (o' := ((55, .inr (10, [.int 0, .ref (ad g 56), .ref (ad g 57), .ref (ad g 58), .int 0, .ref (ad g 59), .ref (ad g 60), .ref (ad g 61), .null])) :: o')) xf_X10 rfl (by decide) (by decide) (Nat.le_of_ble_eq_true rfl) rfl rfl rfl rfl rfl rfl fl_X10_27 (kX10_init 25 rfl) rfl ?_
  refine B_aload_n (n9 := 53) 0 (kX10_init 26 rfl) rfl rfl rfl ?_
  refine B_bipush (n9 := 55) (v := 8) (kX10_init 27 rfl) rfl (by decide) ?_
  refine B_newaI (n9 := 57) (N := 8) (by decide) ac_int (by decide) (by decide) (Nat.le_of_ble_eq_true rfl) (Nat.le_of_ble_eq_true rfl) (Nat.le_of_ble_eq_true rfl) (kX10_init 28 rfl) rfl rfl rfl (S0z (by decide)) (lk_c (by decide) (ho 62 (by decide))) ?_
  refine B_putF (n9 := 60) (o' := ((55, .inr (10, [.int 0, .ref (ad g 56), .ref (ad g 57), .ref (ad g 58), .int 0, .ref (ad g 59), .ref (ad g 60), .ref (ad g 61), .ref (ad g 62)])) :: o')) xf_X10 rfl (by decide) (by decide) (Nat.le_of_ble_eq_true rfl) rfl rfl rfl rfl rfl rfl fl_X10_30 (kX10_init 29 rfl) rfl ?_
  refine B_close rfl (ho 55 (by decide)) ?_
  exact B_ret rfl (kX10_init 30 rfl)
set_option maxHeartbeats 4000000 in
set_option maxRecDepth 100000 in
theorem C_X10_init_63 {l : Launch} {g : XG} {o' : XO} (ho : ∀ k, 63 ≤ k → lk o' k = none) : ClA l g 2 7 120 mX10_init [.ref 63] 64 ((63, .inr (10, [.int 0, .null, .null, .null, .int 0, .null, .null, .null, .null])) :: o') 71 o' := by
  refine ClA.of (by decide +kernel) rfl (Nat.le_of_ble_eq_true rfl) ?_
  show B _ _ _ _ _ _ 0 [(0, .ref 63)] [] _ _ _ _ _ _
  refine B_aload_n (n9 := 1) 0 (kX10_init 0 rfl) rfl rfl rfl ?_
  refine B_obj (n9 := 4) (st := []) ol_X10_3 ob_1 ob_2 (Nat.le_of_ble_eq_true rfl) (Nat.le_of_ble_eq_true rfl) (kX10_init 1 rfl) rfl ?_
  refine B_aload_n (n9 := 5) 0 (kX10_init 2 rfl) rfl rfl rfl ?_
  refine B_bipush (n9 := 7) (v := 6) (kX10_init 3 rfl) rfl (by decide) ?_
  refine B_newaI (n9 := 9) (N := 6) (by decide) ac_int (by decide) (by decide) (Nat.le_of_ble_eq_true rfl) (Nat.le_of_ble_eq_true rfl) (Nat.le_of_ble_eq_true rfl) (kX10_init 4 rfl) rfl rfl rfl (S0z (by decide)) (lk_c (by decide) (ho 64 (by decide))) ?_
  refine B_putF (n9 := 12) (o' := ((63, .inr (10, [.int 0, .ref (ad g 64), .null, .null, .int 0, .null, .null, .null, .null])) :: o')) xf_X10 rfl (by decide) (by decide) (Nat.le_of_ble_eq_true rfl) rfl rfl rfl rfl rfl rfl fl_X10_9 (kX10_init 5 rfl) rfl ?_
  refine B_aload_n (n9 := 13) 0 (kX10_init 6 rfl) rfl rfl rfl ?_
  refine B_bipush (n9 := 15) (v := 6) (kX10_init 7 rfl) rfl (by decide) ?_
  refine B_newaI (n9 := 17) (N := 6) (by decide) ac_int (by decide) (by decide) (Nat.le_of_ble_eq_true rfl) (Nat.le_of_ble_eq_true rfl) (Nat.le_of_ble_eq_true rfl) (kX10_init 8 rfl) rfl rfl rfl (S0z (by decide)) (lk_c (by decide) (ho 65 (by decide))) ?_
  refine B_putF (n9 := 20) (o' := ((63, .inr (10, [.int 0, .ref (ad g 64), .ref (ad g 65), .null, .int 0, .null, .null, .null, .null])) :: o')) xf_X10 rfl (by decide) (by decide) (Nat.le_of_ble_eq_true rfl) rfl rfl rfl rfl rfl rfl fl_X10_15 (kX10_init 9 rfl) rfl ?_
  refine B_aload_n (n9 := 21) 0 (kX10_init 10 rfl) rfl rfl rfl ?_
  refine B_bipush (n9 := 23) (v := 36) (kX10_init 11 rfl) rfl (by decide) ?_
  refine B_newaI (n9 := 25) (N := 36) (by decide) ac_int (by decide) (by decide) (Nat.le_of_ble_eq_true rfl) (Nat.le_of_ble_eq_true rfl) (Nat.le_of_ble_eq_true rfl) (kX10_init 12 rfl) rfl rfl rfl (S0z (by decide)) (lk_c (by decide) (ho 66 (by decide))) ?_
  refine B_putF (n9 := 28) (o' := ((63, .inr (10, [.int 0, .ref (ad g 64), .ref (ad g 65), .ref (ad g 66), .int 0, .null, .null, .null, .null])) :: o')) xf_X10 rfl (by decide) (by decide) (Nat.le_of_ble_eq_true rfl) rfl rfl rfl rfl rfl rfl fl_X10_18 (kX10_init 13 rfl) rfl ?_
  refine B_aload_n (n9 := 29) 0 (kX10_init 14 rfl) rfl rfl rfl ?_
  refine B_bipush (n9 := 31) (v := 48) (kX10_init 15 rfl) rfl (by decide) ?_
  refine B_newaI (n9 := 33) (N := 48) (by decide) ac_int (by decide) (by decide) (Nat.le_of_ble_eq_true rfl) (Nat.le_of_ble_eq_true rfl) (Nat.le_of_ble_eq_true rfl) (kX10_init 16 rfl) rfl rfl rfl (S0z (by decide)) (lk_c (by decide) (ho 67 (by decide))) ?_
  refine B_putF (n9 := 36) (o' := ((63, .inr (10, [.int 0, .ref (ad g 64), .ref (ad g 65), .ref (ad g 66), .int 0, .ref (ad g 67), .null, .null, .null])) :: o')) xf_X10 rfl (by decide) (by decide) (Nat.le_of_ble_eq_true rfl) rfl rfl rfl rfl rfl rfl fl_X10_21 (kX10_init 17 rfl) rfl ?_
  refine B_aload_n (n9 := 37) 0 (kX10_init 18 rfl) rfl rfl rfl ?_
  refine B_bipush (n9 := 39) (v := 8) (kX10_init 19 rfl) rfl (by decide) ?_
  refine B_newaI (n9 := 41) (N := 8) (by decide) ac_int (by decide) (by decide) (Nat.le_of_ble_eq_true rfl) (Nat.le_of_ble_eq_true rfl) (Nat.le_of_ble_eq_true rfl) (kX10_init 20 rfl) rfl rfl rfl (S0z (by decide)) (lk_c (by decide) (ho 68 (by decide))) ?_
  refine B_putF (n9 := 44) (o' := ((63, .inr (10, [.int 0, .ref (ad g 64), .ref (ad g 65), .ref (ad g 66), .int 0, .ref (ad g 67), .ref (ad g 68), .null, .null])) :: o')) xf_X10 rfl (by decide) (by decide) (Nat.le_of_ble_eq_true rfl) rfl rfl rfl rfl rfl rfl fl_X10_24 (kX10_init 21 rfl) rfl ?_
  refine B_aload_n (n9 := 45) 0 (kX10_init 22 rfl) rfl rfl rfl ?_
  refine B_bipush (n9 := 47) (v := 8) (kX10_init 23 rfl) rfl (by decide) ?_
  refine B_newaI (n9 := 49) (N := 8) (by decide) ac_int (by decide) (by decide) (Nat.le_of_ble_eq_true rfl) (Nat.le_of_ble_eq_true rfl) (Nat.le_of_ble_eq_true rfl) (kX10_init 24 rfl) rfl rfl rfl (S0z (by decide)) (lk_c (by decide) (ho 69 (by decide))) ?_
  refine B_putF (n9 := 52) (o' := ((63, .inr (10, [.int 0, .ref (ad g 64), .ref (ad g 65), .ref (ad g 66), .int 0, .ref (ad g 67), .ref (ad g 68), .ref (ad g 69), .null])) :: o')) xf_X10 rfl (by decide) (by decide) (Nat.le_of_ble_eq_true rfl) rfl rfl rfl rfl rfl rfl fl_X10_27 (kX10_init 25 rfl) rfl ?_
  refine B_aload_n (n9 := 53) 0 (kX10_init 26 rfl) rfl rfl rfl ?_
  refine B_bipush (n9 := 55) (v := 8) (kX10_init 27 rfl) rfl (by decide) ?_
  refine B_newaI (n9 := 57) (N := 8) (by decide) ac_int (by decide) (by decide) (Nat.le_of_ble_eq_true rfl) (Nat.le_of_ble_eq_true rfl) (Nat.le_of_ble_eq_true rfl) (kX10_init 28 rfl) rfl rfl rfl (S0z (by decide)) (lk_c (by decide) (ho 70 (by decide))) ?_
  refine B_putF (n9 := 60) (o' := ((63, .inr (10, [.int 0, .ref (ad g 64), .ref (ad g 65), .ref (ad g 66), .int 0, .ref (ad g 67), .ref (ad g 68), .ref (ad g 69), .ref (ad g 70)])) :: o')) xf_X10 rfl (by decide) (by decide) (Nat.le_of_ble_eq_true rfl) rfl rfl rfl rfl rfl rfl fl_X10_30 (kX10_init 29 rfl) rfl ?_
  refine B_close rfl (ho 63 (by decide)) ?_
  exact B_ret rfl (kX10_init 30 rfl)
set_option maxHeartbeats 4000000 in
set_option maxRecDepth 100000 in
theorem C_X10_init_71 {l : Launch} {g : XG} {o' : XO} (ho : ∀ k, 71 ≤ k → lk o' k = none) : ClA l g 2 7 120 mX10_init [.ref 71] 72 ((71, .inr (10, [.int 0, .null, .null, .null, .int 0, .null, .null, .null, .null])) :: o') 79 o' := by
  refine ClA.of (by decide +kernel) rfl (Nat.le_of_ble_eq_true rfl) ?_
  show B _ _ _ _ _ _ 0 [(0, .ref 71)] [] _ _ _ _ _ _
  refine B_aload_n (n9 := 1) 0 (kX10_init 0 rfl) rfl rfl rfl ?_
  refine B_obj (n9 := 4) (st := []) ol_X10_3 ob_1 ob_2 (Nat.le_of_ble_eq_true rfl) (Nat.le_of_ble_eq_true rfl) (kX10_init 1 rfl) rfl ?_
  refine B_aload_n (n9 := 5) 0 (kX10_init 2 rfl) rfl rfl rfl ?_
  refine B_bipush (n9 := 7) (v := 6) (kX10_init 3 rfl) rfl (by decide) ?_
  refine B_newaI (n9 := 9) (N := 6) (by decide) ac_int (by decide) (by decide) (Nat.le_of_ble_eq_true rfl) (Nat.le_of_ble_eq_true rfl) (Nat.le_of_ble_eq_true rfl) (kX10_init 4 rfl) rfl rfl rfl (S0z (by decide)) (lk_c (by decide) (ho 72 (by decide))) ?_
  refine B_putF (n9 := 12) (o' := ((71, .inr (10, [.int 0, .ref (ad g 72), .null, .null, .int 0, .null, .null, .null, .null])) :: o')) xf_X10 rfl (by decide) (by decide) (Nat.le_of_ble_eq_true rfl) rfl rfl rfl rfl rfl rfl fl_X10_9 (kX10_init 5 rfl) rfl ?_
  refine B_aload_n (n9 := 13) 0 (kX10_init 6 rfl) rfl rfl rfl ?_
  refine B_bipush (n9 := 15) (v := 6) (kX10_init 7 rfl) rfl (by decide) ?_
  refine B_newaI (n9 := 17) (N := 6) (by decide) ac_int (by decide) (by decide) (Nat.le_of_ble_eq_true rfl) (Nat.le_of_ble_eq_true rfl) (Nat.le_of_ble_eq_true rfl) (kX10_init 8 rfl) rfl rfl rfl (S0z (by decide)) (lk_c (by decide) (ho 73 (by decide))) ?_
  refine B_putF (n9 := 20) (o' := ((71, .inr (10, [.int 0, .ref (ad g 72), .ref (ad g 73), .null, .int 0, .null, .null, .null, .null])) :: o')) xf_X10 rfl (by decide) (by decide) (Nat.le_of_ble_eq_true rfl) rfl rfl rfl rfl rfl rfl fl_X10_15 (kX10_init 9 rfl) rfl ?_
  refine B_aload_n (n9 := 21) 0 (kX10_init 10 rfl) rfl rfl rfl ?_
  refine B_bipush (n9 := 23) (v := 36) (kX10_init 11 rfl) rfl (by decide) ?_
  refine B_newaI (n9 := 25) (N := 36) (by decide) ac_int (by decide) (by decide) (Nat.le_of_ble_eq_true rfl) (Nat.le_of_ble_eq_true rfl) (Nat.le_of_ble_eq_true rfl) (kX10_init 12 rfl) rfl rfl rfl (S0z (by decide)) (lk_c (by decide) (ho 74 (by decide))) ?_
  refine B_putF (n9 := 28) (o' := ((71, .inr (10, [.int 0, .ref (ad g 72), .ref (ad g 73), .ref (ad g 74), .int 0, .null, .null, .null, .null])) :: o')) xf_X10 rfl (by decide) (by decide) (Nat.le_of_ble_eq_true rfl) rfl rfl rfl rfl rfl rfl fl_X10_18 (kX10_init 13 rfl) rfl ?_
  refine B_aload_n (n9 := 29) 0 (kX10_init 14 rfl) rfl rfl rfl ?_
  refine B_bipush (n9 := 31) (v := 48) (kX10_init 15 rfl) rfl (by decide) ?_
  refine B_newaI (n9 := 33) (N := 48) (by decide) ac_int (by decide) (by decide) (Nat.le_of_ble_eq_true rfl) (Nat.le_of_ble_eq_true rfl) (Nat.le_of_ble_eq_true rfl) (kX10_init 16 rfl) rfl rfl rfl (S0z (by decide)) (lk_c (by decide) (ho 75 (by decide))) ?_
  refine B_putF (n9 := 36) (o' := ((71, .inr (10, [.int 0, .ref (ad g 72), .ref (ad g 73), .ref (ad g 74), .int 0, .ref (ad g 75), .null, .null, .null])) :: o')) xf_X10 rfl (by decide) (by decide) (Nat.le_of_ble_eq_true rfl) rfl rfl rfl rfl rfl rfl fl_X10_21 (kX10_init 17 rfl) rfl ?_
  refine B_aload_n (n9 := 37) 0 (kX10_init 18 rfl) rfl rfl rfl ?_
  refine B_bipush (n9 := 39) (v := 8) (kX10_init 19 rfl) rfl (by decide) ?_
  refine B_newaI (n9 := 41) (N := 8) (by decide) ac_int (by decide) (by decide) (Nat.le_of_ble_eq_true rfl) (Nat.le_of_ble_eq_true rfl) (Nat.le_of_ble_eq_true rfl) (kX10_init 20 rfl) rfl rfl rfl (S0z (by decide)) (lk_c (by decide) (ho 76 (by decide))) ?_
  refine B_putF (n9 := 44) (o' := ((71, .inr (10, [.int 0, .ref (ad g 72), .ref (ad g 73), .ref (ad g 74), .int 0, .ref (ad g 75), .ref (ad g 76), .null, .null])) :: o')) xf_X10 rfl (by decide) (by decide) (Nat.le_of_ble_eq_true rfl) rfl rfl rfl rfl rfl rfl fl_X10_24 (kX10_init 21 rfl) rfl ?_
  refine B_aload_n (n9 := 45) 0 (kX10_init 22 rfl) rfl rfl rfl ?_
  refine B_bipush (n9 := 47) (v := 8) (kX10_init 23 rfl) rfl (by decide) ?_
  refine B_newaI (n9 := 49) (N := 8) (by decide) ac_int (by decide) (by decide) (Nat.le_of_ble_eq_true rfl) (Nat.le_of_ble_eq_true rfl) (Nat.le_of_ble_eq_true rfl) (kX10_init 24 rfl) rfl rfl rfl (S0z (by decide)) (lk_c (by decide) (ho 77 (by decide))) ?_
  refine B_putF (n9 := 52) (o' := ((71, .inr (10, [.int 0, .ref (ad g 72), .ref (ad g 73), .ref (ad g 74), .int 0, .ref (ad g 75), .ref (ad g 76), .ref (ad g 77), .null])) :: o')) xf_X10 rfl (by decide) (by decide) (Nat.le_of_ble_eq_true rfl) rfl rfl rfl rfl rfl rfl fl_X10_27 (kX10_init 25 rfl) rfl ?_
  refine B_aload_n (n9 := 53) 0 (kX10_init 26 rfl) rfl rfl rfl ?_
  refine B_bipush (n9 := 55) (v := 8) (kX10_init 27 rfl) rfl (by decide) ?_
  refine B_newaI (n9 := 57) (N := 8) (by decide) ac_int (by decide) (by decide) (Nat.le_of_ble_eq_true rfl) (Nat.le_of_ble_eq_true rfl) (Nat.le_of_ble_eq_true rfl) (kX10_init 28 rfl) rfl rfl rfl (S0z (by decide)) (lk_c (by decide) (ho 78 (by decide))) ?_
  refine B_putF (n9 := 60) (o' := ((71, .inr (10, [.int 0, .ref (ad g 72), .ref (ad g 73), .ref (ad g 74), .int 0, .ref (ad g 75), .ref (ad g 76), .ref (ad g 77), .ref (ad g 78)])) :: o')) xf_X10 rfl (by decide) (by decide) (Nat.le_of_ble_eq_true rfl) rfl rfl rfl rfl rfl rfl fl_X10_30 (kX10_init 29 rfl) rfl ?_
  refine B_close rfl (ho 71 (by decide)) ?_
  exact B_ret rfl (kX10_init 30 rfl)
set_option maxHeartbeats 4000000 in
set_option maxRecDepth 100000 in
theorem C_X10_init_79 {l : Launch} {g : XG} {o' : XO} (ho : ∀ k, 79 ≤ k → lk o' k = none) : ClA l g 2 7 120 mX10_init [.ref 79] 80 ((79, .inr (10, [.int 0, .null, .null, .null, .int 0, .null, .null, .null, .null])) :: o') 87 o' := by
  refine ClA.of (by decide +kernel) rfl (Nat.le_of_ble_eq_true rfl) ?_
  show B _ _ _ _ _ _ 0 [(0, .ref 79)] [] _ _ _ _ _ _
  refine B_aload_n (n9 := 1) 0 (kX10_init 0 rfl) rfl rfl rfl ?_
  refine B_obj (n9 := 4) (st := []) ol_X10_3 ob_1 ob_2 (Nat.le_of_ble_eq_true rfl) (Nat.le_of_ble_eq_true rfl) (kX10_init 1 rfl) rfl ?_
  refine B_aload_n (n9 := 5) 0 (kX10_init 2 rfl) rfl rfl rfl ?_
  refine B_bipush (n9 := 7) (v := 6) (kX10_init 3 rfl) rfl (by decide) ?_
  refine B_newaI (n9 := 9) (N := 6) (by decide) ac_int (by decide) (by decide) (Nat.le_of_ble_eq_true rfl) (Nat.le_of_ble_eq_true rfl) (Nat.le_of_ble_eq_true rfl) (kX10_init 4 rfl) rfl rfl rfl (S0z (by decide)) (lk_c (by decide) (ho 80 (by decide))) ?_
  refine B_putF (n9 := 12) (o' := ((79, .inr (10, [.int 0, .ref (ad g 80), .null, .null, .int 0, .null, .null, .null, .null])) :: o')) xf_X10 rfl (by decide) (by decide) (Nat.le_of_ble_eq_true rfl) rfl rfl rfl rfl rfl rfl fl_X10_9 (kX10_init 5 rfl) rfl ?_
  refine B_aload_n (n9 := 13) 0 (kX10_init 6 rfl) rfl rfl rfl ?_
  refine B_bipush (n9 := 15) (v := 6) (kX10_init 7 rfl) rfl (by decide) ?_
  refine B_newaI (n9 := 17) (N := 6) (by decide) ac_int (by decide) (by decide) (Nat.le_of_ble_eq_true rfl) (Nat.le_of_ble_eq_true rfl) (Nat.le_of_ble_eq_true rfl) (kX10_init 8 rfl) rfl rfl rfl (S0z (by decide)) (lk_c (by decide) (ho 81 (by decide))) ?_
  refine B_putF (n9 := 20) (o' := ((79, .inr (10, [.int 0, .ref (ad g 80), .ref (ad g 81), .null, .int 0, .null, .null, .null, .null])) :: o')) xf_X10 rfl (by decide) (by decide) (Nat.le_of_ble_eq_true rfl) rfl rfl rfl rfl rfl rfl fl_X10_15 (kX10_init 9 rfl) rfl ?_
  refine B_aload_n (n9 := 21) 0 (kX10_init 10 rfl) rfl rfl rfl ?_
  refine B_bipush (n9 := 23) (v := 36) (kX10_init 11 rfl) rfl (by decide) ?_
  refine B_newaI (n9 := 25) (N := 36) (by decide) ac_int (by decide) (by decide) (Nat.le_of_ble_eq_true rfl) (Nat.le_of_ble_eq_true rfl) (Nat.le_of_ble_eq_true rfl) (kX10_init 12 rfl) rfl rfl rfl (S0z (by decide)) (lk_c (by decide) (ho 82 (by decide))) ?_
  refine B_putF (n9 := 28) (o' := ((79, .inr (10, [.int 0, .ref (ad g 80), .ref (ad g 81), .ref (ad g 82), .int 0, .null, .null, .null, .null])) :: o')) xf_X10 rfl (by decide) (by decide) (Nat.le_of_ble_eq_true rfl) rfl rfl rfl rfl rfl rfl fl_X10_18 (kX10_init 13 rfl) rfl ?_
  refine B_aload_n (n9 := 29) 0 (kX10_init 14 rfl) rfl rfl rfl ?_
  refine B_bipush (n9 := 31) (v := 48) (kX10_init 15 rfl) rfl (by decide) ?_
  refine B_newaI (n9 := 33) (N := 48) (by decide) ac_int (by decide) (by decide) (Nat.le_of_ble_eq_true rfl) (Nat.le_of_ble_eq_true rfl) (Nat.le_of_ble_eq_true rfl) (kX10_init 16 rfl) rfl rfl rfl (S0z (by decide)) (lk_c (by decide) (ho 83 (by decide))) ?_
  refine B_putF (n9 := 36) (o' := ((79, .inr (10, [.int 0, .ref (ad g 80), .ref (ad g 81), .ref (ad g 82), .int 0, .ref (ad g 83), .null, .null, .null])) :: o')) xf_X10 rfl (by decide) (by decide) (Nat.le_of_ble_eq_true rfl) rfl rfl rfl rfl rfl rfl fl_X10_21 (kX10_init 17 rfl) rfl ?_
  refine B_aload_n (n9 := 37) 0 (kX10_init 18 rfl) rfl rfl rfl ?_
  refine B_bipush (n9 := 39) (v := 8) (kX10_init 19 rfl) rfl (by decide) ?_
  refine B_newaI (n9 := 41) (N := 8) (by decide) ac_int (by decide) (by decide) (Nat.le_of_ble_eq_true rfl) (Nat.le_of_ble_eq_true rfl) (Nat.le_of_ble_eq_true rfl) (kX10_init 20 rfl) rfl rfl rfl (S0z (by decide)) (lk_c (by decide) (ho 84 (by decide))) ?_
  refine B_putF (n9 := 44) (o' := ((79, .inr (10, [.int 0, .ref (ad g 80), .ref (ad g 81), .ref (ad g 82), .int 0, .ref (ad g 83), .ref (ad g 84), .null, .null])) :: o')) xf_X10 rfl (by decide) (by decide) (Nat.le_of_ble_eq_true rfl) rfl rfl rfl rfl rfl rfl fl_X10_24 (kX10_init 21 rfl) rfl ?_
  refine B_aload_n (n9 := 45) 0 (kX10_init 22 rfl) rfl rfl rfl ?_
  refine B_bipush (n9 := 47) (v := 8) (kX10_init 23 rfl) rfl (by decide) ?_
  refine B_newaI (n9 := 49) (N := 8) (by decide) ac_int (by decide) (by decide) (Nat.le_of_ble_eq_true rfl) (Nat.le_of_ble_eq_true rfl) (Nat.le_of_ble_eq_true rfl) (kX10_init 24 rfl) rfl rfl rfl (S0z (by decide)) (lk_c (by decide) (ho 85 (by decide))) ?_
  refine B_putF (n9 := 52) (o' := ((79, .inr (10, [.int 0, .ref (ad g 80), .ref (ad g 81), .ref (ad g 82), .int 0, .ref (ad g 83), .ref (ad g 84), .ref (ad g 85), .null])) :: o')) xf_X10 rfl (by decide) (by decide) (Nat.le_of_ble_eq_true rfl) rfl rfl rfl rfl rfl rfl fl_X10_27 (kX10_init 25 rfl) rfl ?_
  refine B_aload_n (n9 := 53) 0 (kX10_init 26 rfl) rfl rfl rfl ?_
  refine B_bipush (n9 := 55) (v := 8) (kX10_init 27 rfl) rfl (by decide) ?_
  refine B_newaI (n9 := 57) (N := 8) (by decide) ac_int (by decide) (by decide) (Nat.le_of_ble_eq_true rfl) (Nat.le_of_ble_eq_true rfl) (Nat.le_of_ble_eq_true rfl) (kX10_init 28 rfl) rfl rfl rfl (S0z (by decide)) (lk_c (by decide) (ho 86 (by decide))) ?_
  refine B_putF (n9 := 60) (o' := ((79, .inr (10, [.int 0, .ref (ad g 80), .ref (ad g 81), .ref (ad g 82), .int 0, .ref (ad g 83), .ref (ad g 84), .ref (ad g 85), .ref (ad g 86)])) :: o')) xf_X10 rfl (by decide) (by decide) (Nat.le_of_ble_eq_true rfl) rfl rfl rfl rfl rfl rfl fl_X10_30 (kX10_init 29 rfl) rfl ?_
  refine B_close rfl (ho 79 (by decide)) ?_
  exact B_ret rfl (kX10_init 30 rfl)
set_option maxHeartbeats 4000000 in
set_option maxRecDepth 100000 in
theorem C_X10_init_87 {l : Launch} {g : XG} {o' : XO} (ho : ∀ k, 87 ≤ k → lk o' k = none) : ClA l g 2 7 120 mX10_init [.ref 87] 88 ((87, .inr (10, [.int 0, .null, .null, .null, .int 0, .null, .null, .null, .null])) :: o') 95 o' := by
  refine ClA.of (by decide +kernel) rfl (Nat.le_of_ble_eq_true rfl) ?_
  show B _ _ _ _ _ _ 0 [(0, .ref 87)] [] _ _ _ _ _ _
  refine B_aload_n (n9 := 1) 0 (kX10_init 0 rfl) rfl rfl rfl ?_
  refine B_obj (n9 := 4) (st := []) ol_X10_3 ob_1 ob_2 (Nat.le_of_ble_eq_true rfl) (Nat.le_of_ble_eq_true rfl) (kX10_init 1 rfl) rfl ?_
  refine B_aload_n (n9 := 5) 0 (kX10_init 2 rfl) rfl rfl rfl ?_
  refine B_bipush (n9 := 7) (v := 6) (kX10_init 3 rfl) rfl (by decide) ?_
  refine B_newaI (n9 := 9) (N := 6) (by decide) ac_int (by decide) (by decide) (Nat.le_of_ble_eq_true rfl) (Nat.le_of_ble_eq_true rfl) (Nat.le_of_ble_eq_true rfl) (kX10_init 4 rfl) rfl rfl rfl (S0z (by decide)) (lk_c (by decide) (ho 88 (by decide))) ?_
  refine B_putF (n9 := 12) (o' := ((87, .inr (10, [.int 0, .ref (ad g 88), .null, .null, .int 0, .null, .null, .null, .null])) :: o')) xf_X10 rfl (by decide) (by decide) (Nat.le_of_ble_eq_true rfl) rfl rfl rfl rfl rfl rfl fl_X10_9 (kX10_init 5 rfl) rfl ?_
  refine B_aload_n (n9 := 13) 0 (kX10_init 6 rfl) rfl rfl rfl ?_
  refine B_bipush (n9 := 15) (v := 6) (kX10_init 7 rfl) rfl (by decide) ?_
  refine B_newaI (n9 := 17) (N := 6) (by decide) ac_int (by decide) (by decide) (Nat.le_of_ble_eq_true rfl) (Nat.le_of_ble_eq_true rfl) (Nat.le_of_ble_eq_true rfl) (kX10_init 8 rfl) rfl rfl rfl (S0z (by decide)) (lk_c (by decide) (ho 89 (by decide))) ?_
  refine B_putF (n9 := 20) (o' := ((87, .inr (10, [.int 0, .ref (ad g 88), .ref (ad g 89), .null, .int 0, .null, .null, .null, .null])) :: o')) xf_X10 rfl (by decide) (by decide) (Nat.le_of_ble_eq_true rfl) rfl rfl rfl rfl rfl rfl fl_X10_15 (kX10_init 9 rfl) rfl ?_
  refine B_aload_n (n9 := 21) 0 (kX10_init 10 rfl) rfl rfl rfl ?_
  refine B_bipush (n9 := 23) (v := 36) (kX10_init 11 rfl) rfl (by decide) ?_
  refine B_newaI (n9 := 25) (N := 36) (by decide) ac_int (by decide) (by decide) (Nat.le_of_ble_eq_true rfl) (Nat.le_of_ble_eq_true rfl) (Nat.le_of_ble_eq_true rfl) (kX10_init 12 rfl) rfl rfl rfl (S0z (by decide)) (lk_c (by decide) (ho 90 (by decide))) ?_
  refine B_putF (n9 := 28) (o' := ((87, .inr (10, [.int 0, .ref (ad g 88), .ref (ad g 89), .ref (ad g 90), .int 0, .null, .null, .null, .null])) :: o')) xf_X10 rfl (by decide) (by decide) (Nat.le_of_ble_eq_true rfl) rfl rfl rfl rfl rfl rfl fl_X10_18 (kX10_init 13 rfl) rfl ?_
  refine B_aload_n (n9 := 29) 0 (kX10_init 14 rfl) rfl rfl rfl ?_
  refine B_bipush (n9 := 31) (v := 48) (kX10_init 15 rfl) rfl (by decide) ?_
  refine B_newaI (n9 := 33) (N := 48) (by decide) ac_int (by decide) (by decide) (Nat.le_of_ble_eq_true rfl) (Nat.le_of_ble_eq_true rfl) (Nat.le_of_ble_eq_true rfl) (kX10_init 16 rfl) rfl rfl rfl (S0z (by decide)) (lk_c (by decide) (ho 91 (by decide))) ?_
  refine B_putF (n9 := 36) (o' := ((87, .inr (10, [.int 0, .ref (ad g 88), .ref (ad g 89), .ref (ad g 90), .int 0, .ref (ad g 91), .null, .null, .null])) :: o')) xf_X10 rfl (by decide) (by decide) (Nat.le_of_ble_eq_true rfl) rfl rfl rfl rfl rfl rfl fl_X10_21 (kX10_init 17 rfl) rfl ?_
  refine B_aload_n (n9 := 37) 0 (kX10_init 18 rfl) rfl rfl rfl ?_
  refine B_bipush (n9 := 39) (v := 8) (kX10_init 19 rfl) rfl (by decide) ?_
  refine B_newaI (n9 := 41) (N := 8) (by decide) ac_int (by decide) (by decide) (Nat.le_of_ble_eq_true rfl) (Nat.le_of_ble_eq_true rfl) (Nat.le_of_ble_eq_true rfl) (kX10_init 20 rfl) rfl rfl rfl (S0z (by decide)) (lk_c (by decide) (ho 92 (by decide))) ?_
  refine B_putF (n9 := 44) (o' := ((87, .inr (10, [.int 0, .ref (ad g 88), .ref (ad g 89), .ref (ad g 90), .int 0, .ref (ad g 91), .ref (ad g 92), .null, .null])) :: o')) xf_X10 rfl (by decide) (by decide) (Nat.le_of_ble_eq_true rfl) rfl rfl rfl rfl rfl rfl fl_X10_24 (kX10_init 21 rfl) rfl ?_
  refine B_aload_n (n9 := 45) 0 (kX10_init 22 rfl) rfl rfl rfl ?_
  refine B_bipush (n9 := 47) (v := 8) (kX10_init 23 rfl) rfl (by decide) ?_
  refine B_newaI (n9 := 49) (N := 8) (by decide) ac_int (by decide) (by decide) (Nat.le_of_ble_eq_true rfl) (Nat.le_of_ble_eq_true rfl) (Nat.le_of_ble_eq_true rfl) (kX10_init 24 rfl) rfl rfl rfl (S0z (by decide)) (lk_c (by decide) (ho 93 (by decide))) ?_
  refine B_putF (n9 := 52) (o' := ((87, .inr (10, [.int 0, .ref (ad g 88), .ref (ad g 89), .ref (ad g 90), .int 0, .ref (ad g 91), .ref (ad g 92), .ref (ad g 93), .null])) :: o')) xf_X10 rfl (by decide) (by decide) (Nat.le_of_ble_eq_true rfl) rfl rfl rfl rfl rfl rfl fl_X10_27 (kX10_init 25 rfl) rfl ?_
  refine B_aload_n (n9 := 53) 0 (kX10_init 26 rfl) rfl rfl rfl ?_
  refine B_bipush (n9 := 55) (v := 8) (kX10_init 27 rfl) rfl (by decide) ?_
  refine B_newaI (n9 := 57) (N := 8) (by decide) ac_int (by decide) (by decide) (Nat.le_of_ble_eq_true rfl) (Nat.le_of_ble_eq_true rfl) (Nat.le_of_ble_eq_true rfl) (kX10_init 28 rfl) rfl rfl rfl (S0z (by decide)) (lk_c (by decide) (ho 94 (by decide))) ?_
  refine B_putF (n9 := 60) (o' := ((87, .inr (10, [.int 0, .ref (ad g 88), .ref (ad g 89), .ref (ad g 90), .int 0, .ref (ad g 91), .ref (ad g 92), .ref (ad g 93), .ref (ad g 94)])) :: o')) xf_X10 rfl (by decide) (by decide) (Nat.le_of_ble_eq_true rfl) rfl rfl rfl rfl rfl rfl fl_X10_30 (kX10_init 29 rfl) rfl ?_
  refine B_close rfl (ho 87 (by decide)) ?_
  exact B_ret rfl (kX10_init 30 rfl)
set_option maxHeartbeats 4000000 in
set_option maxRecDepth 100000 in
theorem C_X10_init_95 {l : Launch} {g : XG} {o' : XO} (ho : ∀ k, 95 ≤ k → lk o' k = none) : ClA l g 2 7 120 mX10_init [.ref 95] 96 ((95, .inr (10, [.int 0, .null, .null, .null, .int 0, .null, .null, .null, .null])) :: o') 103 o' := by
  refine ClA.of (by decide +kernel) rfl (Nat.le_of_ble_eq_true rfl) ?_
  show B _ _ _ _ _ _ 0 [(0, .ref 95)] [] _ _ _ _ _ _
  refine B_aload_n (n9 := 1) 0 (kX10_init 0 rfl) rfl rfl rfl ?_
  refine B_obj (n9 := 4) (st := []) ol_X10_3 ob_1 ob_2 (Nat.le_of_ble_eq_true rfl) (Nat.le_of_ble_eq_true rfl) (kX10_init 1 rfl) rfl ?_
  refine B_aload_n (n9 := 5) 0 (kX10_init 2 rfl) rfl rfl rfl ?_
  refine B_bipush (n9 := 7) (v := 6) (kX10_init 3 rfl) rfl (by decide) ?_
  refine B_newaI (n9 := 9) (N := 6) (by decide) ac_int (by decide) (by decide) (Nat.le_of_ble_eq_true rfl) (Nat.le_of_ble_eq_true rfl) (Nat.le_of_ble_eq_true rfl) (kX10_init 4 rfl) rfl rfl rfl (S0z (by decide)) (lk_c (by decide) (ho 96 (by decide))) ?_
  refine B_putF (n9 := 12) (o' := ((95, .inr (10, [.int 0, .ref (ad g 96), .null, .null, .int 0, .null, .null, .null, .null])) :: o')) xf_X10 rfl (by decide) (by decide) (Nat.le_of_ble_eq_true rfl) rfl rfl rfl rfl rfl rfl fl_X10_9 (kX10_init 5 rfl) rfl ?_
  refine B_aload_n (n9 := 13) 0 (kX10_init 6 rfl) rfl rfl rfl ?_
  refine B_bipush (n9 := 15) (v := 6) (kX10_init 7 rfl) rfl (by decide) ?_
  refine B_newaI (n9 := 17) (N := 6) (by decide) ac_int (by decide) (by decide) (Nat.le_of_ble_eq_true rfl) (Nat.le_of_ble_eq_true rfl) (Nat.le_of_ble_eq_true rfl) (kX10_init 8 rfl) rfl rfl rfl (S0z (by decide)) (lk_c (by decide) (ho 97 (by decide))) ?_
  refine B_putF (n9 := 20) (o' := ((95, .inr (10, [.int 0, .ref (ad g 96), .ref (ad g 97), .null, .int 0, .null, .null, .null, .null])) :: o')) xf_X10 rfl (by decide) (by decide) (Nat.le_of_ble_eq_true rfl) rfl rfl rfl rfl rfl rfl fl_X10_15 (kX10_init 9 rfl) rfl ?_
  refine B_aload_n (n9 := 21) 0 (kX10_init 10 rfl) rfl rfl rfl ?_
  refine B_bipush (n9 := 23) (v := 36) (kX10_init 11 rfl) rfl (by decide) ?_
  refine B_newaI (n9 := 25) (N := 36) (by decide) ac_int (by decide) (by decide) (Nat.le_of_ble_eq_true rfl) (Nat.le_of_ble_eq_true rfl) (Nat.le_of_ble_eq_true rfl) (kX10_init 12 rfl) rfl rfl rfl (S0z (by decide)) (lk_c (by decide) (ho 98 (by decide))) ?_
  refine B_putF (n9 := 28) (o' := ((95, .inr (10, [.int 0, .ref (ad g 96), .ref (ad g 97), .ref (ad g 98), .int 0, .null, .null, .null, .null])) :: o')) xf_X10 rfl (by decide) (by decide) (Nat.le_of_ble_eq_true rfl) rfl rfl rfl rfl rfl rfl fl_X10_18 (kX10_init 13 rfl) rfl ?_
  refine B_aload_n (n9 := 29) 0 (kX10_init 14 rfl) rfl rfl rfl ?_
  refine B_bipush (n9 := 31) (v := 48) (kX10_init 15 rfl) rfl (by decide) ?_
  refine B_newaI (n9 := 33) (N := 48) (by decide) ac_int (by decide) (by decide) (Nat.le_of_ble_eq_true rfl) (Nat.le_of_ble_eq_true rfl) (Nat.le_of_ble_eq_true rfl) (kX10_init 16 rfl) rfl rfl rfl (S0z (by decide)) (lk_c (by decide) (ho 99 (by decide))) ?_
  refine B_putF (n9 := 36) (o' := ((95, .inr (10, [.int 0, .ref (ad g 96), .ref (ad g 97), .ref (ad g 98), .int 0, .ref (ad g 99), .null, .null, .null])) :: o')) xf_X10 rfl (by decide) (by decide) (Nat.le_of_ble_eq_true rfl) rfl rfl rfl rfl rfl rfl fl_X10_21 (kX10_init 17 rfl) rfl ?_
  refine B_aload_n (n9 := 37) 0 (kX10_init 18 rfl) rfl rfl rfl ?_
  refine B_bipush (n9 := 39) (v := 8) (kX10_init 19 rfl) rfl (by decide) ?_
  refine B_newaI (n9 := 41) (N := 8) (by decide) ac_int (by decide) (by decide) (Nat.le_of_ble_eq_true rfl) (Nat.le_of_ble_eq_true rfl) (Nat.le_of_ble_eq_true rfl) (kX10_init 20 rfl) rfl rfl rfl (S0z (by decide)) (lk_c (by decide) (ho 100 (by decide))) ?_
  refine B_putF (n9 := 44) (o' := ((95, .inr (10, [.int 0, .ref (ad g 96), .ref (ad g 97), .ref (ad g 98), .int 0, .ref (ad g 99), .ref (ad g 100), .null, .null])) :: o')) xf_X10 rfl (by decide) (by decide) (Nat.le_of_ble_eq_true rfl) rfl rfl rfl rfl rfl rfl fl_X10_24 (kX10_init 21 rfl) rfl ?_
  refine B_aload_n (n9 := 45) 0 (kX10_init 22 rfl) rfl rfl rfl ?_
  refine B_bipush (n9 := 47) (v := 8) (kX10_init 23 rfl) rfl (by decide) ?_
  refine B_newaI (n9 := 49) (N := 8) (by decide) ac_int (by decide) (by decide) (Nat.le_of_ble_eq_true rfl) (Nat.le_of_ble_eq_true rfl) (Nat.le_of_ble_eq_true rfl) (kX10_init 24 rfl) rfl rfl rfl (S0z (by decide)) (lk_c (by decide) (ho 101 (by decide))) ?_
  refine B_putF (n9 := 52) (o' := ((95, .inr (10, [.int 0, .ref (ad g 96), .ref (ad g 97), .ref (ad g 98), .int 0, .ref (ad g 99), .ref (ad g 100), .ref (ad g 101), .null])) :: o')) xf_X10 rfl (by decide) (by decide) (Nat.le_of_ble_eq_true rfl) rfl rfl rfl rfl rfl rfl fl_X10_27 (kX10_init 25 rfl) rfl ?_
  refine B_aload_n (n9 := 53) 0 (kX10_init 26 rfl) rfl rfl rfl ?_
  refine B_bipush (n9 := 55) (v := 8) (kX10_init 27 rfl) rfl (by decide) ?_
  refine B_newaI (n9 := 57) (N := 8) (by decide) ac_int (by decide) (by decide) (Nat.le_of_ble_eq_true rfl) (Nat.le_of_ble_eq_true rfl) (Nat.le_of_ble_eq_true rfl) (kX10_init 28 rfl) rfl rfl rfl (S0z (by decide)) (lk_c (by decide) (ho 102 (by decide))) ?_
  refine B_putF (n9 := 60) (o' := ((95, .inr (10, [.int 0, .ref (ad g 96), .ref (ad g 97), .ref (ad g 98), .int 0, .ref (ad g 99), .ref (ad g 100), .ref (ad g 101), .ref (ad g 102)])) :: o')) xf_X10 rfl (by decide) (by decide) (Nat.le_of_ble_eq_true rfl) rfl rfl rfl rfl rfl rfl fl_X10_30 (kX10_init 29 rfl) rfl ?_
  refine B_close rfl (ho 95 (by decide)) ?_
  exact B_ret rfl (kX10_init 30 rfl)
set_option maxHeartbeats 4000000 in
set_option maxRecDepth 100000 in
theorem C_X10_init_103 {l : Launch} {g : XG} {o' : XO} (ho : ∀ k, 103 ≤ k → lk o' k = none) : ClA l g 2 7 120 mX10_init [.ref 103] 104 ((103, .inr (10, [.int 0, .null, .null, .null, .int 0, .null, .null, .null, .null])) :: o') 111 o' := by
  refine ClA.of (by decide +kernel) rfl (Nat.le_of_ble_eq_true rfl) ?_
  show B _ _ _ _ _ _ 0 [(0, .ref 103)] [] _ _ _ _ _ _
  refine B_aload_n (n9 := 1) 0 (kX10_init 0 rfl) rfl rfl rfl ?_
  refine B_obj (n9 := 4) (st := []) ol_X10_3 ob_1 ob_2 (Nat.le_of_ble_eq_true rfl) (Nat.le_of_ble_eq_true rfl) (kX10_init 1 rfl) rfl ?_
  refine B_aload_n (n9 := 5) 0 (kX10_init 2 rfl) rfl rfl rfl ?_
  refine B_bipush (n9 := 7) (v := 6) (kX10_init 3 rfl) rfl (by decide) ?_
  refine B_newaI (n9 := 9) (N := 6) (by decide) ac_int (by decide) (by decide) (Nat.le_of_ble_eq_true rfl) (Nat.le_of_ble_eq_true rfl) (Nat.le_of_ble_eq_true rfl) (kX10_init 4 rfl) rfl rfl rfl (S0z (by decide)) (lk_c (by decide) (ho 104 (by decide))) ?_
  refine B_putF (n9 := 12) (o' := ((103, .inr (10, [.int 0, .ref (ad g 104), .null, .null, .int 0, .null, .null, .null, .null])) :: o')) xf_X10 rfl (by decide) (by decide) (Nat.le_of_ble_eq_true rfl) rfl rfl rfl rfl rfl rfl fl_X10_9 (kX10_init 5 rfl) rfl ?_
  refine B_aload_n (n9 := 13) 0 (kX10_init 6 rfl) rfl rfl rfl ?_
  refine B_bipush (n9 := 15) (v := 6) (kX10_init 7 rfl) rfl (by decide) ?_
  refine B_newaI (n9 := 17) (N := 6) (by decide) ac_int (by decide) (by decide) (Nat.le_of_ble_eq_true rfl) (Nat.le_of_ble_eq_true rfl) (Nat.le_of_ble_eq_true rfl) (kX10_init 8 rfl) rfl rfl rfl (S0z (by decide)) (lk_c (by decide) (ho 105 (by decide))) ?_
  refine B_putF (n9 := 20) (o' := ((103, .inr (10, [.int 0, .ref (ad g 104), .ref (ad g 105), .null, .int 0, .null, .null, .null, .null])) :: o')) xf_X10 rfl (by decide) (by decide) (Nat.le_of_ble_eq_true rfl) rfl rfl rfl rfl rfl rfl fl_X10_15 (kX10_init 9 rfl) rfl ?_
  refine B_aload_n (n9 := 21) 0 (kX10_init 10 rfl) rfl rfl rfl ?_
  refine B_bipush (n9 := 23) (v := 36) (kX10_init 11 rfl) rfl (by decide) ?_
  refine B_newaI (n9 := 25) (N := 36) (by decide) ac_int (by decide) (by decide) (Nat.le_of_ble_eq_true rfl) (Nat.le_of_ble_eq_true rfl) (Nat.le_of_ble_eq_true rfl) (kX10_init 12 rfl) rfl rfl rfl (S0z (by decide)) (lk_c (by decide) (ho 106 (by decide))) ?_
  refine B_putF (n9 := 28) (o' := ((103, .inr (10, [.int 0, .ref (ad g 104), .ref (ad g 105), .ref (ad g 106), .int 0, .null, .null, .null, .null])) :: o')) xf_X10 rfl (by decide) (by decide) (Nat.le_of_ble_eq_true rfl) rfl rfl rfl rfl rfl rfl fl_X10_18 (kX10_init 13 rfl) rfl ?_
  refine B_aload_n (n9 := 29) 0 (kX10_init 14 rfl) rfl rfl rfl ?_
  refine B_bipush (n9 := 31) (v := 48) (kX10_init 15 rfl) rfl (by decide) ?_
  refine B_newaI (n9 := 33) (N := 48) (by decide) ac_int (by decide) (by decide) (Nat.le_of_ble_eq_true rfl) (Nat.le_of_ble_eq_true rfl) (Nat.le_of_ble_eq_true rfl) (kX10_init 16 rfl) rfl rfl rfl (S0z (by decide)) (lk_c (by decide) (ho 107 (by decide))) ?_
  refine B_putF (n9 := 36) (o' := ((103, .inr (10, [.int 0, .ref (ad g 104), .ref (ad g 105), .ref (ad g 106), .int 0, .ref (ad g 107), .null, .null, .null])) :: o')) xf_X10 rfl (by decide) (by decide) (Nat.le_of_ble_eq_true rfl) rfl rfl rfl rfl rfl rfl fl_X10_21 (kX10_init 17 rfl) rfl ?_
  refine B_aload_n (n9 := 37) 0 (kX10_init 18 rfl) rfl rfl rfl ?_
  refine B_bipush (n9 := 39) (v := 8) (kX10_init 19 rfl) rfl (by decide) ?_
  refine B_newaI (n9 := 41) (N := 8) (by decide) ac_int (by decide) (by decide) (Nat.le_of_ble_eq_true rfl) (Nat.le_of_ble_eq_true rfl) (Nat.le_of_ble_eq_true rfl) (kX10_init 20 rfl) rfl rfl rfl (S0z (by decide)) (lk_c (by decide) (ho 108 (by decide))) ?_
  refine B_putF (n9 := 44) (o' := ((103, .inr (10, [.int 0, .ref (ad g 104), .ref (ad g 105), .ref (ad g 106), .int 0, .ref (ad g 107), .ref (ad g 108), .null, .null])) :: o')) xf_X10 rfl (by decide) (by decide) (Nat.le_of_ble_eq_true rfl) rfl rfl rfl rfl rfl rfl fl_X10_24 (kX10_init 21 rfl) rfl ?_
  refine B_aload_n (n9 := 45) 0 (kX10_init 22 rfl) rfl rfl rfl ?_
  refine B_bipush (n9 := 47) (v := 8) (kX10_init 23 rfl) rfl (by decide) ?_
  refine B_newaI (n9 := 49) (N := 8) (by decide) ac_int (by decide) (by decide) (Nat.le_of_ble_eq_true rfl) (Nat.le_of_ble_eq_true rfl) (Nat.le_of_ble_eq_true rfl) (kX10_init 24 rfl) rfl rfl rfl (S0z (by decide)) (lk_c (by decide) (ho 109 (by decide))) ?_
  refine B_putF (n9 := 52) (o' := ((103, .inr (10, [.int 0, .ref (ad g 104), .ref (ad g 105), .ref (ad g 106), .int 0, .ref (ad g 107), .ref (ad g 108), .ref (ad g 109), .null])) :: o')) xf_X10 rfl (by decide) (by decide) (Nat.le_of_ble_eq_true rfl) rfl rfl rfl rfl rfl rfl fl_X10_27 (kX10_init 25 rfl) rfl ?_
  refine B_aload_n (n9 := 53) 0 (kX10_init 26 rfl) rfl rfl rfl ?_
  refine B_bipush (n9 := 55) (v := 8) (kX10_init 27 rfl) rfl (by decide) ?_
  refine B_newaI (n9 := 57) (N := 8) (by decide) ac_int (by decide) (by decide) (Nat.le_of_ble_eq_true rfl) (Nat.le_of_ble_eq_true rfl) (Nat.le_of_ble_eq_true rfl) (kX10_init 28 rfl) rfl rfl rfl (S0z (by decide)) (lk_c (by decide) (ho 110 (by decide))) ?_
  refine B_putF (n9 := 60) (o' := ((103, .inr (10, [.int 0, .ref (ad g 104), .ref (ad g 105), .ref (ad g 106), .int 0, .ref (ad g 107), .ref (ad g 108), .ref (ad g 109), .ref (ad g 110)])) :: o')) xf_X10 rfl (by decide) (by decide) (Nat.le_of_ble_eq_true rfl) rfl rfl rfl rfl rfl rfl fl_X10_30 (kX10_init 29 rfl) rfl ?_
  refine B_close rfl (ho 103 (by decide)) ?_
  exact B_ret rfl (kX10_init 30 rfl)
set_option maxHeartbeats 4000000 in
set_option maxRecDepth 100000 in
theorem C_X2_init_114 {l : Launch} {g : XG} {o' : XO} (ho : ∀ k, 114 ≤ k → lk o' k = none) : ClA l g 2 8 505 mX2_init [.ref 114] 115 ((114, .inr (2, [.null, .null, .null, .null, .null, .null, .null, .null])) :: o') 123 o' := by
  refine ClA.of (by decide +kernel) rfl (Nat.le_of_ble_eq_true rfl) ?_
  show B _ _ _ _ _ _ 0 [(0, .ref 114)] [] _ _ _ _ _ _
  refine B_aload_n (n9 := 1) 0 (kX2_init 0 rfl) rfl rfl rfl ?_
  refine B_obj (n9 := 4) (st := []) ol_X2_3 ob_1 ob_2 (Nat.le_of_ble_eq_true rfl) (Nat.le_of_ble_eq_true rfl) (kX2_init 1 rfl) rfl ?_
  refine B_aload_n (n9 := 5) 0 (kX2_init 2 rfl) rfl rfl rfl ?_
  refine B_getM (n9 := 8) nf_X2_9 (kX2_init 3 rfl) rfl ?_
  refine B_alenM (n9 := 9) (kX2_init 4 rfl) rfl ?_
  refine B_newaI (n9 := 11) (N := 6) (by decide) ac_int (by decide) (by decide) (Nat.le_of_ble_eq_true rfl) (Nat.le_of_ble_eq_true rfl) (Nat.le_of_ble_eq_true rfl) (kX2_init 5 rfl) rfl rfl rfl (S0z (by decide)) (lk_c (by decide) (ho 115 (by decide))) ?_
  refine B_putF (n9 := 14) (o' := ((114, .inr (2, [.ref (ad g 115), .null, .null, .null, .null, .null, .null, .null])) :: o')) xf_X2 rfl (by decide) (by decide) (Nat.le_of_ble_eq_true rfl) rfl rfl rfl rfl rfl rfl fl_X2_13 (kX2_init 6 rfl) rfl ?_
  refine B_aload_n (n9 := 15) 0 (kX2_init 7 rfl) rfl rfl rfl ?_
  refine B_bipush (n9 := 17) (v := 18) (kX2_init 8 rfl) rfl (by decide) ?_
  refine B_newaJ (n9 := 19) (N := 18) (by decide) ac_long (by decide) (by decide) (Nat.le_of_ble_eq_true rfl) (Nat.le_of_ble_eq_true rfl) (Nat.le_of_ble_eq_true rfl) (kX2_init 9 rfl) rfl rfl rfl (S0zJ (by decide)) (lk_c (by decide) (ho 116 (by decide))) ?_
  refine B_putF (n9 := 22) (o' := ((114, .inr (2, [.ref (ad g 115), .ref (ad g 116), .null, .null, .null, .null, .null, .null])) :: o')) xf_X2 rfl (by decide) (by decide) (Nat.le_of_ble_eq_true rfl) rfl rfl rfl rfl rfl rfl fl_X2_18 (kX2_init 10 rfl) rfl ?_
  refine B_aload_n (n9 := 23) 0 (kX2_init 11 rfl) rfl rfl rfl ?_
  refine B_bipush (n9 := 25) (v := 6) (kX2_init 12 rfl) rfl (by decide) ?_
  refine B_newaI (n9 := 27) (N := 6) (by decide) ac_int (by decide) (by decide) (Nat.le_of_ble_eq_true rfl) (Nat.le_of_ble_eq_true rfl) (Nat.le_of_ble_eq_true rfl) (kX2_init 13 rfl) rfl rfl rfl (S0z (by decide)) (lk_c (by decide) (ho 117 (by decide))) ?_
  refine B_putF (n9 := 30) (o' := ((114, .inr (2, [.ref (ad g 115), .ref (ad g 116), .ref (ad g 117), .null, .null, .null, .null, .null])) :: o')) xf_X2 rfl (by decide) (by decide) (Nat.le_of_ble_eq_true rfl) rfl rfl rfl rfl rfl rfl fl_X2_22 (kX2_init 14 rfl) rfl ?_
  refine B_aload_n (n9 := 31) 0 (kX2_init 15 rfl) rfl rfl rfl ?_
  refine B_bipush (n9 := 33) (v := 36) (kX2_init 16 rfl) rfl (by decide) ?_
  refine B_newaI (n9 := 35) (N := 36) (by decide) ac_int (by decide) (by decide) (Nat.le_of_ble_eq_true rfl) (Nat.le_of_ble_eq_true rfl) (Nat.le_of_ble_eq_true rfl) (kX2_init 17 rfl) rfl rfl rfl (S0z (by decide)) (lk_c (by decide) (ho 118 (by decide))) ?_
  refine B_putF (n9 := 38) (o' := ((114, .inr (2, [.ref (ad g 115), .ref (ad g 116), .ref (ad g 117), .ref (ad g 118), .null, .null, .null, .null])) :: o')) xf_X2 rfl (by decide) (by decide) (Nat.le_of_ble_eq_true rfl) rfl rfl rfl rfl rfl rfl fl_X2_25 (kX2_init 18 rfl) rfl ?_
  refine B_aload_n (n9 := 39) 0 (kX2_init 19 rfl) rfl rfl rfl ?_
  refine B_bipush (n9 := 41) (v := 6) (kX2_init 20 rfl) rfl (by decide) ?_
  refine B_newaI (n9 := 43) (N := 6) (by decide) ac_int (by decide) (by decide) (Nat.le_of_ble_eq_true rfl) (Nat.le_of_ble_eq_true rfl) (Nat.le_of_ble_eq_true rfl) (kX2_init 21 rfl) rfl rfl rfl (S0z (by decide)) (lk_c (by decide) (ho 119 (by decide))) ?_
  refine B_putF (n9 := 46) (o' := ((114, .inr (2, [.ref (ad g 115), .ref (ad g 116), .ref (ad g 117), .ref (ad g 118), .ref (ad g 119), .null, .null, .null])) :: o')) xf_X2 rfl (by decide) (by decide) (Nat.le_of_ble_eq_true rfl) rfl rfl rfl rfl rfl rfl fl_X2_28 (kX2_init 22 rfl) rfl ?_
  refine B_aload_n (n9 := 47) 0 (kX2_init 23 rfl) rfl rfl rfl ?_
  refine B_bipush (n9 := 49) (v := 6) (kX2_init 24 rfl) rfl (by decide) ?_
  refine B_newaI (n9 := 51) (N := 6) (by decide) ac_int (by decide) (by decide) (Nat.le_of_ble_eq_true rfl) (Nat.le_of_ble_eq_true rfl) (Nat.le_of_ble_eq_true rfl) (kX2_init 25 rfl) rfl rfl rfl (S0z (by decide)) (lk_c (by decide) (ho 120 (by decide))) ?_
  refine B_putF (n9 := 54) (o' := ((114, .inr (2, [.ref (ad g 115), .ref (ad g 116), .ref (ad g 117), .ref (ad g 118), .ref (ad g 119), .ref (ad g 120), .null, .null])) :: o')) xf_X2 rfl (by decide) (by decide) (Nat.le_of_ble_eq_true rfl) rfl rfl rfl rfl rfl rfl fl_X2_31 (kX2_init 26 rfl) rfl ?_
  refine B_aload_n (n9 := 55) 0 (kX2_init 27 rfl) rfl rfl rfl ?_
  refine B_sipush (n9 := 58) (v := 366) (kX2_init 28 rfl) rfl (by decide) ?_
  refine B_newaI (n9 := 60) (N := 366) (by decide) ac_int (by decide) (by decide) (Nat.le_of_ble_eq_true rfl) (Nat.le_of_ble_eq_true rfl) (Nat.le_of_ble_eq_true rfl) (kX2_init 29 rfl) rfl rfl rfl (S0z (by decide)) (lk_c (by decide) (ho 121 (by decide))) ?_
  refine B_putF (n9 := 63) (o' := ((114, .inr (2, [.ref (ad g 115), .ref (ad g 116), .ref (ad g 117), .ref (ad g 118), .ref (ad g 119), .ref (ad g 120), .ref (ad g 121), .null])) :: o')) xf_X2 rfl (by decide) (by decide) (Nat.le_of_ble_eq_true rfl) rfl rfl rfl rfl rfl rfl fl_X2_34 (kX2_init 30 rfl) rfl ?_
  refine B_aload_n (n9 := 64) 0 (kX2_init 31 rfl) rfl rfl rfl ?_
  refine B_bipush (n9 := 66) (v := 61) (kX2_init 32 rfl) rfl (by decide) ?_
  refine B_newaI (n9 := 68) (N := 61) (by decide) ac_int (by decide) (by decide) (Nat.le_of_ble_eq_true rfl) (Nat.le_of_ble_eq_true rfl) (Nat.le_of_ble_eq_true rfl) (kX2_init 33 rfl) rfl rfl rfl (S0z (by decide)) (lk_c (by decide) (ho 122 (by decide))) ?_
  refine B_putF (n9 := 71) (o' := ((114, .inr (2, [.ref (ad g 115), .ref (ad g 116), .ref (ad g 117), .ref (ad g 118), .ref (ad g 119), .ref (ad g 120), .ref (ad g 121), .ref (ad g 122)])) :: o')) xf_X2 rfl (by decide) (by decide) (Nat.le_of_ble_eq_true rfl) rfl rfl rfl rfl rfl rfl fl_X2_37 (kX2_init 34 rfl) rfl ?_
  refine B_close rfl (ho 114 (by decide)) ?_
  exact B_ret rfl (kX2_init 35 rfl)
set_option maxHeartbeats 4000000 in
set_option maxRecDepth 100000 in
theorem C_X10_init_123 {l : Launch} {g : XG} {o' : XO} (ho : ∀ k, 123 ≤ k → lk o' k = none) : ClA l g 2 7 120 mX10_init [.ref 123] 124 ((123, .inr (10, [.int 0, .null, .null, .null, .int 0, .null, .null, .null, .null])) :: o') 131 o' := by
  refine ClA.of (by decide +kernel) rfl (Nat.le_of_ble_eq_true rfl) ?_
  show B _ _ _ _ _ _ 0 [(0, .ref 123)] [] _ _ _ _ _ _
  refine B_aload_n (n9 := 1) 0 (kX10_init 0 rfl) rfl rfl rfl ?_
  refine B_obj (n9 := 4) (st := []) ol_X10_3 ob_1 ob_2 (Nat.le_of_ble_eq_true rfl) (Nat.le_of_ble_eq_true rfl) (kX10_init 1 rfl) rfl ?_
  refine B_aload_n (n9 := 5) 0 (kX10_init 2 rfl) rfl rfl rfl ?_
  refine B_bipush (n9 := 7) (v := 6) (kX10_init 3 rfl) rfl (by decide) ?_
  refine B_newaI (n9 := 9) (N := 6) (by decide) ac_int (by decide) (by decide) (Nat.le_of_ble_eq_true rfl) (Nat.le_of_ble_eq_true rfl) (Nat.le_of_ble_eq_true rfl) (kX10_init 4 rfl) rfl rfl rfl (S0z (by decide)) (lk_c (by decide) (ho 124 (by decide))) ?_
  refine B_putF (n9 := 12) (o' := ((123, .inr (10, [.int 0, .ref (ad g 124), .null, .null, .int 0, .null, .null, .null, .null])) :: o')) xf_X10 rfl (by decide) (by decide) (Nat.le_of_ble_eq_true rfl) rfl rfl rfl rfl rfl rfl fl_X10_9 (kX10_init 5 rfl) rfl ?_
  refine B_aload_n (n9 := 13) 0 (kX10_init 6 rfl) rfl rfl rfl ?_
  refine B_bipush (n9 := 15) (v := 6) (kX10_init 7 rfl) rfl (by decide) ?_
  refine B_newaI (n9 := 17) (N := 6) (by decide) ac_int (by decide) (by decide) (Nat.le_of_ble_eq_true rfl) (Nat.le_of_ble_eq_true rfl) (Nat.le_of_ble_eq_true rfl) (kX10_init 8 rfl) rfl rfl rfl (S0z (by decide)) (lk_c (by decide) (ho 125 (by decide))) ?_
  refine B_putF (n9 := 20) (o' := ((123, .inr (10, [.int 0, .ref (ad g 124), .ref (ad g 125), .null, .int 0, .null, .null, .null, .null])) :: o')) xf_X10 rfl (by decide) (by decide) (Nat.le_of_ble_eq_true rfl) rfl rfl rfl rfl rfl rfl fl_X10_15 (kX10_init 9 rfl) rfl ?_
  refine B_aload_n (n9 := 21) 0 (kX10_init 10 rfl) rfl rfl rfl ?_
  refine B_bipush (n9 := 23) (v := 36) (kX10_init 11 rfl) rfl (by decide) ?_
  refine B_newaI (n9 := 25) (N := 36) (by decide) ac_int (by decide) (by decide) (Nat.le_of_ble_eq_true rfl) (Nat.le_of_ble_eq_true rfl) (Nat.le_of_ble_eq_true rfl) (kX10_init 12 rfl) rfl rfl rfl (S0z (by decide)) (lk_c (by decide) (ho 126 (by decide))) ?_
  refine B_putF (n9 := 28) (o' := ((123, .inr (10, [.int 0, .ref (ad g 124), .ref (ad g 125), .ref (ad g 126), .int 0, .null, .null, .null, .null])) :: o')) xf_X10 rfl (by decide) (by decide) (Nat.le_of_ble_eq_true rfl) rfl rfl rfl rfl rfl rfl fl_X10_18 (kX10_init 13 rfl) rfl ?_
  refine B_aload_n (n9 := 29) 0 (kX10_init 14 rfl) rfl rfl rfl ?_
  refine B_bipush (n9 := 31) (v := 48) (kX10_init 15 rfl) rfl (by decide) ?_
  refine B_newaI (n9 := 33) (N := 48) (by decide) ac_int (by decide) (by decide) (Nat.le_of_ble_eq_true rfl) (Nat.le_of_ble_eq_true rfl) (Nat.le_of_ble_eq_true rfl) (kX10_init 16 rfl) rfl rfl rfl (S0z (by decide)) (lk_c (by decide) (ho 127 (by decide))) ?_
  refine B_putF (n9 := 36) (o' := ((123, .inr (10, [.int 0, .ref (ad g 124), .ref (ad g 125), .ref (ad g 126), .int 0, .ref (ad g 127), .null, .null, .null])) :: o')) xf_X10 rfl (by decide) (by decide) (Nat.le_of_ble_eq_true rfl) rfl rfl rfl rfl rfl rfl fl_X10_21 (kX10_init 17 rfl) rfl ?_
  refine B_aload_n (n9 := 37) 0 (kX10_init 18 rfl) rfl rfl rfl ?_
  refine B_bipush (n9 := 39) (v := 8) (kX10_init 19 rfl) rfl (by decide) ?_
  refine B_newaI (n9 := 41) (N := 8) (by decide) ac_int (by decide) (by decide) (Nat.le_of_ble_eq_true rfl) (Nat.le_of_ble_eq_true rfl) (Nat.le_of_ble_eq_true rfl) (kX10_init 20 rfl) rfl rfl rfl (S0z (by decide)) (lk_c (by decide) (ho 128 (by decide))) ?_
  refine B_putF (n9 := 44) (o' := ((123, .inr (10, [.int 0, .ref (ad g 124), .ref (ad g 125), .ref (ad g 126), .int 0, .ref (ad g 127), .ref (ad g 128), .null, .null])) :: o')) xf_X10 rfl (by decide) (by decide) (Nat.le_of_ble_eq_true rfl) rfl rfl rfl rfl rfl rfl fl_X10_24 (kX10_init 21 rfl) rfl ?_
  refine B_aload_n (n9 := 45) 0 (kX10_init 22 rfl) rfl rfl rfl ?_
  refine B_bipush (n9 := 47) (v := 8) (kX10_init 23 rfl) rfl (by decide) ?_
  refine B_newaI (n9 := 49) (N := 8) (by decide) ac_int (by decide) (by decide) (Nat.le_of_ble_eq_true rfl) (Nat.le_of_ble_eq_true rfl) (Nat.le_of_ble_eq_true rfl) (kX10_init 24 rfl) rfl rfl rfl (S0z (by decide)) (lk_c (by decide) (ho 129 (by decide))) ?_
  refine B_putF (n9 := 52) (o' := ((123, .inr (10, [.int 0, .ref (ad g 124), .ref (ad g 125), .ref (ad g 126), .int 0, .ref (ad g 127), .ref (ad g 128), .ref (ad g 129), .null])) :: o')) xf_X10 rfl (by decide) (by decide) (Nat.le_of_ble_eq_true rfl) rfl rfl rfl rfl rfl rfl fl_X10_27 (kX10_init 25 rfl) rfl ?_
  refine B_aload_n (n9 := 53) 0 (kX10_init 26 rfl) rfl rfl rfl ?_
  refine B_bipush (n9 := 55) (v := 8) (kX10_init 27 rfl) rfl (by decide) ?_
  refine B_newaI (n9 := 57) (N := 8) (by decide) ac_int (by decide) (by decide) (Nat.le_of_ble_eq_true rfl) (Nat.le_of_ble_eq_true rfl) (Nat.le_of_ble_eq_true rfl) (kX10_init 28 rfl) rfl rfl rfl (S0z (by decide)) (lk_c (by decide) (ho 130 (by decide))) ?_
  refine B_putF (n9 := 60) (o' := ((123, .inr (10, [.int 0, .ref (ad g 124), .ref (ad g 125), .ref (ad g 126), .int 0, .ref (ad g 127), .ref (ad g 128), .ref (ad g 129), .ref (ad g 130)])) :: o')) xf_X10 rfl (by decide) (by decide) (Nat.le_of_ble_eq_true rfl) rfl rfl rfl rfl rfl rfl fl_X10_30 (kX10_init 29 rfl) rfl ?_
  refine B_close rfl (ho 123 (by decide)) ?_
  exact B_ret rfl (kX10_init 30 rfl)
set_option maxHeartbeats 4000000 in
set_option maxRecDepth 100000 in
theorem C_X6_init_131 {l : Launch} {g : XG} {o' : XO} (ho : ∀ k, 131 ≤ k → lk o' k = none) : ClA l g 2 3 120 mX6_init [.ref 131] 132 ((131, .inr (6, [.null, .null, .null, .int 0])) :: o') 135 o' := by
  refine ClA.of (by decide +kernel) rfl (Nat.le_of_ble_eq_true rfl) ?_
  show B _ _ _ _ _ _ 0 [(0, .ref 131)] [] _ _ _ _ _ _
  refine B_aload_n (n9 := 1) 0 (kX6_init 0 rfl) rfl rfl rfl ?_
  refine B_obj (n9 := 4) (st := []) ol_X6_3 ob_1 ob_2 (Nat.le_of_ble_eq_true rfl) (Nat.le_of_ble_eq_true rfl) (kX6_init 1 rfl) rfl ?_
  refine B_aload_n (n9 := 5) 0 (kX6_init 2 rfl) rfl rfl rfl ?_
  refine B_bipush (n9 := 7) (v := 40) (kX6_init 3 rfl) rfl (by decide) ?_
  refine B_newaI (n9 := 9) (N := 40) (by decide) ac_int (by decide) (by decide) (Nat.le_of_ble_eq_true rfl) (Nat.le_of_ble_eq_true rfl) (Nat.le_of_ble_eq_true rfl) (kX6_init 4 rfl) rfl rfl rfl (S0z (by decide)) (lk_c (by decide) (ho 132 (by decide))) ?_
  refine B_putF (n9 := 12) (o' := ((131, .inr (6, [.ref (ad g 132), .null, .null, .int 0])) :: o')) xf_X6 rfl (by decide) (by decide) (Nat.le_of_ble_eq_true rfl) rfl rfl rfl rfl rfl rfl fl_X6_9 (kX6_init 5 rfl) rfl ?_
  refine B_aload_n (n9 := 13) 0 (kX6_init 6 rfl) rfl rfl rfl ?_
  refine B_bipush (n9 := 15) (v := 40) (kX6_init 7 rfl) rfl (by decide) ?_
  refine B_newaI (n9 := 17) (N := 40) (by decide) ac_int (by decide) (by decide) (Nat.le_of_ble_eq_true rfl) (Nat.le_of_ble_eq_true rfl) (Nat.le_of_ble_eq_true rfl) (kX6_init 8 rfl) rfl rfl rfl (S0z (by decide)) (lk_c (by decide) (ho 133 (by decide))) ?_
  refine B_putF (n9 := 20) (o' := ((131, .inr (6, [.ref (ad g 132), .ref (ad g 133), .null, .int 0])) :: o')) xf_X6 rfl (by decide) (by decide) (Nat.le_of_ble_eq_true rfl) rfl rfl rfl rfl rfl rfl fl_X6_15 (kX6_init 9 rfl) rfl ?_
  refine B_aload_n (n9 := 21) 0 (kX6_init 10 rfl) rfl rfl rfl ?_
  refine B_bipush (n9 := 23) (v := 40) (kX6_init 11 rfl) rfl (by decide) ?_
  refine B_newaI (n9 := 25) (N := 40) (by decide) ac_int (by decide) (by decide) (Nat.le_of_ble_eq_true rfl) (Nat.le_of_ble_eq_true rfl) (Nat.le_of_ble_eq_true rfl) (kX6_init 12 rfl) rfl rfl rfl (S0z (by decide)) (lk_c (by decide) (ho 134 (by decide))) ?_
  refine B_putF (n9 := 28) (o' := ((131, .inr (6, [.ref (ad g 132), .ref (ad g 133), .ref (ad g 134), .int 0])) :: o')) xf_X6 rfl (by decide) (by decide) (Nat.le_of_ble_eq_true rfl) rfl rfl rfl rfl rfl rfl fl_X6_18 (kX6_init 13 rfl) rfl ?_
  refine B_close rfl (ho 131 (by decide)) ?_
  exact B_ret rfl (kX6_init 14 rfl)
set_option maxHeartbeats 4000000 in
set_option maxRecDepth 100000 in
theorem C_X2_init_135 {l : Launch} {g : XG} {o' : XO} (ho : ∀ k, 135 ≤ k → lk o' k = none) : ClA l g 2 8 505 mX2_init [.ref 135] 136 ((135, .inr (2, [.null, .null, .null, .null, .null, .null, .null, .null])) :: o') 144 o' := by
  refine ClA.of (by decide +kernel) rfl (Nat.le_of_ble_eq_true rfl) ?_
  show B _ _ _ _ _ _ 0 [(0, .ref 135)] [] _ _ _ _ _ _
  refine B_aload_n (n9 := 1) 0 (kX2_init 0 rfl) rfl rfl rfl ?_
  refine B_obj (n9 := 4) (st := []) ol_X2_3 ob_1 ob_2 (Nat.le_of_ble_eq_true rfl) (Nat.le_of_ble_eq_true rfl) (kX2_init 1 rfl) rfl ?_
  refine B_aload_n (n9 := 5) 0 (kX2_init 2 rfl) rfl rfl rfl ?_
  refine B_getM (n9 := 8) nf_X2_9 (kX2_init 3 rfl) rfl ?_
  refine B_alenM (n9 := 9) (kX2_init 4 rfl) rfl ?_
  refine B_newaI (n9 := 11) (N := 6) (by decide) ac_int (by decide) (by decide) (Nat.le_of_ble_eq_true rfl) (Nat.le_of_ble_eq_true rfl) (Nat.le_of_ble_eq_true rfl) (kX2_init 5 rfl) rfl rfl rfl (S0z (by decide)) (lk_c (by decide) (ho 136 (by decide))) ?_
  refine B_putF (n9 := 14) (o' := ((135, .inr (2, [.ref (ad g 136), .null, .null, .null, .null, .null, .null, .null])) :: o')) xf_X2 rfl (by decide) (by decide) (Nat.le_of_ble_eq_true rfl) rfl rfl rfl rfl rfl rfl fl_X2_13 (kX2_init 6 rfl) rfl ?_
  refine B_aload_n (n9 := 15) 0 (kX2_init 7 rfl) rfl rfl rfl ?_
  refine B_bipush (n9 := 17) (v := 18) (kX2_init 8 rfl) rfl (by decide) ?_
  refine B_newaJ (n9 := 19) (N := 18) (by decide) ac_long (by decide) (by decide) (Nat.le_of_ble_eq_true rfl) (Nat.le_of_ble_eq_true rfl) (Nat.le_of_ble_eq_true rfl) (kX2_init 9 rfl) rfl rfl rfl (S0zJ (by decide)) (lk_c (by decide) (ho 137 (by decide))) ?_
  refine B_putF (n9 := 22) (o' := ((135, .inr (2, [.ref (ad g 136), .ref (ad g 137), .null, .null, .null, .null, .null, .null])) :: o')) xf_X2 rfl (by decide) (by decide) (Nat.le_of_ble_eq_true rfl) rfl rfl rfl rfl rfl rfl fl_X2_18 (kX2_init 10 rfl) rfl ?_
  refine B_aload_n (n9 := 23) 0 (kX2_init 11 rfl) rfl rfl rfl ?_
  refine B_bipush (n9 := 25) (v := 6) (kX2_init 12 rfl) rfl (by decide) ?_
  refine B_newaI (n9 := 27) (N := 6) (by decide) ac_int (by decide) (by decide) (Nat.le_of_ble_eq_true rfl) (Nat.le_of_ble_eq_true rfl) (Nat.le_of_ble_eq_true rfl) (kX2_init 13 rfl) rfl rfl rfl (S0z (by decide)) (lk_c (by decide) (ho 138 (by decide))) ?_
  refine B_putF (n9 := 30) (o' := ((135, .inr (2, [.ref (ad g 136), .ref (ad g 137), .ref (ad g 138), .null, .null, .null, .null, .null])) :: o')) xf_X2 rfl (by decide) (by decide) (Nat.le_of_ble_eq_true rfl) rfl rfl rfl rfl rfl rfl fl_X2_22 (kX2_init 14 rfl) rfl ?_
  refine B_aload_n (n9 := 31) 0 (kX2_init 15 rfl) rfl rfl rfl ?_
  refine B_bipush (n9 := 33) (v := 36) (kX2_init 16 rfl) rfl (by decide) ?_
  refine B_newaI (n9 := 35) (N := 36) (by decide) ac_int (by decide) (by decide) (Nat.le_of_ble_eq_true rfl) (Nat.le_of_ble_eq_true rfl) (Nat.le_of_ble_eq_true rfl) (kX2_init 17 rfl) rfl rfl rfl (S0z (by decide)) (lk_c (by decide) (ho 139 (by decide))) ?_
  refine B_putF (n9 := 38) (o' := ((135, .inr (2, [.ref (ad g 136), .ref (ad g 137), .ref (ad g 138), .ref (ad g 139), .null, .null, .null, .null])) :: o')) xf_X2 rfl (by decide) (by decide) (Nat.le_of_ble_eq_true rfl) rfl rfl rfl rfl rfl rfl fl_X2_25 (kX2_init 18 rfl) rfl ?_
  refine B_aload_n (n9 := 39) 0 (kX2_init 19 rfl) rfl rfl rfl ?_
  refine B_bipush (n9 := 41) (v := 6) (kX2_init 20 rfl) rfl (by decide) ?_
  refine B_newaI (n9 := 43) (N := 6) (by decide) ac_int (by decide) (by decide) (Nat.le_of_ble_eq_true rfl) (Nat.le_of_ble_eq_true rfl) (Nat.le_of_ble_eq_true rfl) (kX2_init 21 rfl) rfl rfl rfl (S0z (by decide)) (lk_c (by decide) (ho 140 (by decide))) ?_
  refine B_putF (n9 := 46) (o' := ((135, .inr (2, [.ref (ad g 136), .ref (ad g 137), .ref (ad g 138), .ref (ad g 139), .ref (ad g 140), .null, .null, .null])) :: o')) xf_X2 rfl (by decide) (by decide) (Nat.le_of_ble_eq_true rfl) rfl rfl rfl rfl rfl rfl fl_X2_28 (kX2_init 22 rfl) rfl ?_
  refine B_aload_n (n9 := 47) 0 (kX2_init 23 rfl) rfl rfl rfl ?_
  refine B_bipush (n9 := 49) (v := 6) (kX2_init 24 rfl) rfl (by decide) ?_
  refine B_newaI (n9 := 51) (N := 6) (by decide) ac_int (by decide) (by decide) (Nat.le_of_ble_eq_true rfl) (Nat.le_of_ble_eq_true rfl) (Nat.le_of_ble_eq_true rfl) (kX2_init 25 rfl) rfl rfl rfl (S0z (by decide)) (lk_c (by decide) (ho 141 (by decide))) ?_
  refine B_putF (n9 := 54) (o' := ((135, .inr (2, [.ref (ad g 136), .ref (ad g 137), .ref (ad g 138), .ref (ad g 139), .ref (ad g 140), .ref (ad g 141), .null, .null])) :: o')) xf_X2 rfl (by decide) (by decide) (Nat.le_of_ble_eq_true rfl) rfl rfl rfl rfl rfl rfl fl_X2_31 (kX2_init 26 rfl) rfl ?_
  refine B_aload_n (n9 := 55) 0 (kX2_init 27 rfl) rfl rfl rfl ?_
  refine B_sipush (n9 := 58) (v := 366) (kX2_init 28 rfl) rfl (by decide) ?_
  refine B_newaI (n9 := 60) (N := 366) (by decide) ac_int (by decide) (by decide) (Nat.le_of_ble_eq_true rfl) (Nat.le_of_ble_eq_true rfl) (Nat.le_of_ble_eq_true rfl) (kX2_init 29 rfl) rfl rfl rfl (S0z (by decide)) (lk_c (by decide) (ho 142 (by decide))) ?_
  refine B_putF (n9 := 63) (o' := ((135, .inr (2, [.ref (ad g 136), .ref (ad g 137), .ref (ad g 138), .ref (ad g 139), .ref (ad g 140), .ref (ad g 141), .ref (ad g 142), .null])) :: o')) xf_X2 rfl (by decide) (by decide) (Nat.le_of_ble_eq_true rfl) rfl rfl rfl rfl rfl rfl fl_X2_34 (kX2_init 30 rfl) rfl ?_
  refine B_aload_n (n9 := 64) 0 (kX2_init 31 rfl) rfl rfl rfl ?_
  refine B_bipush (n9 := 66) (v := 61) (kX2_init 32 rfl) rfl (by decide) ?_
  refine B_newaI (n9 := 68) (N := 61) (by decide) ac_int (by decide) (by decide) (Nat.le_of_ble_eq_true rfl) (Nat.le_of_ble_eq_true rfl) (Nat.le_of_ble_eq_true rfl) (kX2_init 33 rfl) rfl rfl rfl (S0z (by decide)) (lk_c (by decide) (ho 143 (by decide))) ?_
  refine B_putF (n9 := 71) (o' := ((135, .inr (2, [.ref (ad g 136), .ref (ad g 137), .ref (ad g 138), .ref (ad g 139), .ref (ad g 140), .ref (ad g 141), .ref (ad g 142), .ref (ad g 143)])) :: o')) xf_X2 rfl (by decide) (by decide) (Nat.le_of_ble_eq_true rfl) rfl rfl rfl rfl rfl rfl fl_X2_37 (kX2_init 34 rfl) rfl ?_
  refine B_close rfl (ho 135 (by decide)) ?_
  exact B_ret rfl (kX2_init 35 rfl)
set_option maxHeartbeats 4000000 in
set_option maxRecDepth 100000 in
theorem C_X10_init_144 {l : Launch} {g : XG} {o' : XO} (ho : ∀ k, 144 ≤ k → lk o' k = none) : ClA l g 2 7 120 mX10_init [.ref 144] 145 ((144, .inr (10, [.int 0, .null, .null, .null, .int 0, .null, .null, .null, .null])) :: o') 152 o' := by
  refine ClA.of (by decide +kernel) rfl (Nat.le_of_ble_eq_true rfl) ?_
  show B _ _ _ _ _ _ 0 [(0, .ref 144)] [] _ _ _ _ _ _
  refine B_aload_n (n9 := 1) 0 (kX10_init 0 rfl) rfl rfl rfl ?_
  refine B_obj (n9 := 4) (st := []) ol_X10_3 ob_1 ob_2 (Nat.le_of_ble_eq_true rfl) (Nat.le_of_ble_eq_true rfl) (kX10_init 1 rfl) rfl ?_
  refine B_aload_n (n9 := 5) 0 (kX10_init 2 rfl) rfl rfl rfl ?_
  refine B_bipush (n9 := 7) (v := 6) (kX10_init 3 rfl) rfl (by decide) ?_
  refine B_newaI (n9 := 9) (N := 6) (by decide) ac_int (by decide) (by decide) (Nat.le_of_ble_eq_true rfl) (Nat.le_of_ble_eq_true rfl) (Nat.le_of_ble_eq_true rfl) (kX10_init 4 rfl) rfl rfl rfl (S0z (by decide)) (lk_c (by decide) (ho 145 (by decide))) ?_
  refine B_putF (n9 := 12) (o' := ((144, .inr (10, [.int 0, .ref (ad g 145), .null, .null, .int 0, .null, .null, .null, .null])) :: o')) xf_X10 rfl (by decide) (by decide) (Nat.le_of_ble_eq_true rfl) rfl rfl rfl rfl rfl rfl fl_X10_9 (kX10_init 5 rfl) rfl ?_
  refine B_aload_n (n9 := 13) 0 (kX10_init 6 rfl) rfl rfl rfl ?_
  refine B_bipush (n9 := 15) (v := 6) (kX10_init 7 rfl) rfl (by decide) ?_
  refine B_newaI (n9 := 17) (N := 6) (by decide) ac_int (by decide) (by decide) (Nat.le_of_ble_eq_true rfl) (Nat.le_of_ble_eq_true rfl) (Nat.le_of_ble_eq_true rfl) (kX10_init 8 rfl) rfl rfl rfl (S0z (by decide)) (lk_c (by decide) (ho 146 (by decide))) ?_
  refine B_putF (n9 := 20) (o' := ((144, .inr (10, [.int 0, .ref (ad g 145), .ref (ad g 146), .null, .int 0, .null, .null, .null, .null])) :: o')) xf_X10 rfl (by decide) (by decide) (Nat.le_of_ble_eq_true rfl) rfl rfl rfl rfl rfl rfl fl_X10_15 (kX10_init 9 rfl) rfl ?_
  refine B_aload_n (n9 := 21) 0 (kX10_init 10 rfl) rfl rfl rfl ?_
  refine B_bipush (n9 := 23) (v := 36) (kX10_init 11 rfl) rfl (by decide) ?_
  refine B_newaI (n9 := 25) (N := 36) (by decide) ac_int (by decide) (by decide) (Nat.le_of_ble_eq_true rfl) (Nat.le_of_ble_eq_true rfl) (Nat.le_of_ble_eq_true rfl) (kX10_init 12 rfl) rfl rfl rfl (S0z (by decide)) (lk_c (by decide) (ho 147 (by decide))) ?_
  refine B_putF (n9 := 28) (o' := ((144, .inr (10, [.int 0, .ref (ad g 145), .ref (ad g 146), .ref (ad g 147), .int 0, .null, .null, .null, .null])) :: o')) xf_X10 rfl (by decide) (by decide) (Nat.le_of_ble_eq_true rfl) rfl rfl rfl rfl rfl rfl fl_X10_18 (kX10_init 13 rfl) rfl ?_
  refine B_aload_n (n9 := 29) 0 (kX10_init 14 rfl) rfl rfl rfl ?_
  refine B_bipush (n9 := 31) (v := 48) (kX10_init 15 rfl) rfl (by decide) ?_
  refine B_newaI (n9 := 33) (N := 48) (by decide) ac_int (by decide) (by decide) (Nat.le_of_ble_eq_true rfl) (Nat.le_of_ble_eq_true rfl) (Nat.le_of_ble_eq_true rfl) (kX10_init 16 rfl) rfl rfl rfl (S0z (by decide)) (lk_c (by decide) (ho 148 (by decide))) ?_
  refine B_putF (n9 := 36) (o' := ((144, .inr (10, [.int 0, .ref (ad g 145), .ref (ad g 146), .ref (ad g 147), .int 0, .ref (ad g 148), .null, .null, .null])) :: o')) xf_X10 rfl (by decide) (by decide) (Nat.le_of_ble_eq_true rfl) rfl rfl rfl rfl rfl rfl fl_X10_21 (kX10_init 17 rfl) rfl ?_
  refine B_aload_n (n9 := 37) 0 (kX10_init 18 rfl) rfl rfl rfl ?_
  refine B_bipush (n9 := 39) (v := 8) (kX10_init 19 rfl) rfl (by decide) ?_
  refine B_newaI (n9 := 41) (N := 8) (by decide) ac_int (by decide) (by decide) (Nat.le_of_ble_eq_true rfl) (Nat.le_of_ble_eq_true rfl) (Nat.le_of_ble_eq_true rfl) (kX10_init 20 rfl) rfl rfl rfl (S0z (by decide)) (lk_c (by decide) (ho 149 (by decide))) ?_
  refine B_putF (n9 := 44) (o' := ((144, .inr (10, [.int 0, .ref (ad g 145), .ref (ad g 146), .ref (ad g 147), .int 0, .ref (ad g 148), .ref (ad g 149), .null, .null])) :: o')) xf_X10 rfl (by decide) (by decide) (Nat.le_of_ble_eq_true rfl) rfl rfl rfl rfl rfl rfl fl_X10_24 (kX10_init 21 rfl) rfl ?_
  refine B_aload_n (n9 := 45) 0 (kX10_init 22 rfl) rfl rfl rfl ?_
  refine B_bipush (n9 := 47) (v := 8) (kX10_init 23 rfl) rfl (by decide) ?_
  refine B_newaI (n9 := 49) (N := 8) (by decide) ac_int (by decide) (by decide) (Nat.le_of_ble_eq_true rfl) (Nat.le_of_ble_eq_true rfl) (Nat.le_of_ble_eq_true rfl) (kX10_init 24 rfl) rfl rfl rfl (S0z (by decide)) (lk_c (by decide) (ho 150 (by decide))) ?_
  refine B_putF (n9 := 52) (o' := ((144, .inr (10, [.int 0, .ref (ad g 145), .ref (ad g 146), .ref (ad g 147), .int 0, .ref (ad g 148), .ref (ad g 149), .ref (ad g 150), .null])) :: o')) xf_X10 rfl (by decide) (by decide) (Nat.le_of_ble_eq_true rfl) rfl rfl rfl rfl rfl rfl fl_X10_27 (kX10_init 25 rfl) rfl ?_
  refine B_aload_n (n9 := 53) 0 (kX10_init 26 rfl) rfl rfl rfl ?_
  refine B_bipush (n9 := 55) (v := 8) (kX10_init 27 rfl) rfl (by decide) ?_
  refine B_newaI (n9 := 57) (N := 8) (by decide) ac_int (by decide) (by decide) (Nat.le_of_ble_eq_true rfl) (Nat.le_of_ble_eq_true rfl) (Nat.le_of_ble_eq_true rfl) (kX10_init 28 rfl) rfl rfl rfl (S0z (by decide)) (lk_c (by decide) (ho 151 (by decide))) ?_
  refine B_putF (n9 := 60) (o' := ((144, .inr (10, [.int 0, .ref (ad g 145), .ref (ad g 146), .ref (ad g 147), .int 0, .ref (ad g 148), .ref (ad g 149), .ref (ad g 150), .ref (ad g 151)])) :: o')) xf_X10 rfl (by decide) (by decide) (Nat.le_of_ble_eq_true rfl) rfl rfl rfl rfl rfl rfl fl_X10_30 (kX10_init 29 rfl) rfl ?_
  refine B_close rfl (ho 144 (by decide)) ?_
  exact B_ret rfl (kX10_init 30 rfl)
set_option maxHeartbeats 4000000 in
set_option maxRecDepth 100000 in
theorem C_X6_init_152 {l : Launch} {g : XG} {o' : XO} (ho : ∀ k, 152 ≤ k → lk o' k = none) : ClA l g 2 3 120 mX6_init [.ref 152] 153 ((152, .inr (6, [.null, .null, .null, .int 0])) :: o') 156 o' := by
  refine ClA.of (by decide +kernel) rfl (Nat.le_of_ble_eq_true rfl) ?_
  show B _ _ _ _ _ _ 0 [(0, .ref 152)] [] _ _ _ _ _ _
  refine B_aload_n (n9 := 1) 0 (kX6_init 0 rfl) rfl rfl rfl ?_
  refine B_obj (n9 := 4) (st := []) ol_X6_3 ob_1 ob_2 (Nat.le_of_ble_eq_true rfl) (Nat.le_of_ble_eq_true rfl) (kX6_init 1 rfl) rfl ?_
  refine B_aload_n (n9 := 5) 0 (kX6_init 2 rfl) rfl rfl rfl ?_
  refine B_bipush (n9 := 7) (v := 40) (kX6_init 3 rfl) rfl (by decide) ?_
  refine B_newaI (n9 := 9) (N := 40) (by decide) ac_int (by decide) (by decide) (Nat.le_of_ble_eq_true rfl) (Nat.le_of_ble_eq_true rfl) (Nat.le_of_ble_eq_true rfl) (kX6_init 4 rfl) rfl rfl rfl (S0z (by decide)) (lk_c (by decide) (ho 153 (by decide))) ?_
  refine B_putF (n9 := 12) (o' := ((152, .inr (6, [.ref (ad g 153), .null, .null, .int 0])) :: o')) xf_X6 rfl (by decide) (by decide) (Nat.le_of_ble_eq_true rfl) rfl rfl rfl rfl rfl rfl fl_X6_9 (kX6_init 5 rfl) rfl ?_
  refine B_aload_n (n9 := 13) 0 (kX6_init 6 rfl) rfl rfl rfl ?_
  refine B_bipush (n9 := 15) (v := 40) (kX6_init 7 rfl) rfl (by decide) ?_
  refine B_newaI (n9 := 17) (N := 40) (by decide) ac_int (by decide) (by decide) (Nat.le_of_ble_eq_true rfl) (Nat.le_of_ble_eq_true rfl) (Nat.le_of_ble_eq_true rfl) (kX6_init 8 rfl) rfl rfl rfl (S0z (by decide)) (lk_c (by decide) (ho 154 (by decide))) ?_
  refine B_putF (n9 := 20) (o' := ((152, .inr (6, [.ref (ad g 153), .ref (ad g 154), .null, .int 0])) :: o')) xf_X6 rfl (by decide) (by decide) (Nat.le_of_ble_eq_true rfl) rfl rfl rfl rfl rfl rfl fl_X6_15 (kX6_init 9 rfl) rfl ?_
  refine B_aload_n (n9 := 21) 0 (kX6_init 10 rfl) rfl rfl rfl ?_
  refine B_bipush (n9 := 23) (v := 40) (kX6_init 11 rfl) rfl (by decide) ?_
  refine B_newaI (n9 := 25) (N := 40) (by decide) ac_int (by decide) (by decide) (Nat.le_of_ble_eq_true rfl) (Nat.le_of_ble_eq_true rfl) (Nat.le_of_ble_eq_true rfl) (kX6_init 12 rfl) rfl rfl rfl (S0z (by decide)) (lk_c (by decide) (ho 155 (by decide))) ?_
  refine B_putF (n9 := 28) (o' := ((152, .inr (6, [.ref (ad g 153), .ref (ad g 154), .ref (ad g 155), .int 0])) :: o')) xf_X6 rfl (by decide) (by decide) (Nat.le_of_ble_eq_true rfl) rfl rfl rfl rfl rfl rfl fl_X6_18 (kX6_init 13 rfl) rfl ?_
  refine B_close rfl (ho 152 (by decide)) ?_
  exact B_ret rfl (kX6_init 14 rfl)
set_option maxHeartbeats 4000000 in
set_option maxRecDepth 100000 in
theorem C_X4_init_157 {l : Launch} {g : XG} {o' : XO} (ho : ∀ k, 157 ≤ k → lk o' k = none) : ClA l g 2 7 596 mX4_init [.ref 157] 158 ((157, .inr (4, [.null, .int 0, .int 0, .null, .null, .null, .null, .null, .null])) :: o') 165 o' := by
  refine ClA.of (by decide +kernel) rfl (Nat.le_of_ble_eq_true rfl) ?_
  show B _ _ _ _ _ _ 0 [(0, .ref 157)] [] _ _ _ _ _ _
  refine B_aload_n (n9 := 1) 0 (kX4_init 0 rfl) rfl rfl rfl ?_
  refine B_obj (n9 := 4) (st := []) ol_X4_3 ob_1 ob_2 (Nat.le_of_ble_eq_true rfl) (Nat.le_of_ble_eq_true rfl) (kX4_init 1 rfl) rfl ?_
  refine B_aload_n (n9 := 5) 0 (kX4_init 2 rfl) rfl rfl rfl ?_
  refine B_bipush (n9 := 7) (v := 6) (kX4_init 3 rfl) rfl (by decide) ?_
  refine B_newaI (n9 := 9) (N := 6) (by decide) ac_int (by decide) (by decide) (Nat.le_of_ble_eq_true rfl) (Nat.le_of_ble_eq_true rfl) (Nat.le_of_ble_eq_true rfl) (kX4_init 4 rfl) rfl rfl rfl (S0z (by decide)) (lk_c (by decide) (ho 158 (by decide))) ?_
  refine B_putF (n9 := 12) (o' := ((157, .inr (4, [.ref (ad g 158), .int 0, .int 0, .null, .null, .null, .null, .null, .null])) :: o')) xf_X4 rfl (by decide) (by decide) (Nat.le_of_ble_eq_true rfl) rfl rfl rfl rfl rfl rfl fl_X4_9 (kX4_init 5 rfl) rfl ?_
  refine B_aload_n (n9 := 13) 0 (kX4_init 6 rfl) rfl rfl rfl ?_
  refine B_bipush (n9 := 15) (v := 8) (kX4_init 7 rfl) rfl (by decide) ?_
  refine B_newaI (n9 := 17) (N := 8) (by decide) ac_int (by decide) (by decide) (Nat.le_of_ble_eq_true rfl) (Nat.le_of_ble_eq_true rfl) (Nat.le_of_ble_eq_true rfl) (kX4_init 8 rfl) rfl rfl rfl (S0z (by decide)) (lk_c (by decide) (ho 159 (by decide))) ?_
  refine B_putF (n9 := 20) (o' := ((157, .inr (4, [.ref (ad g 158), .int 0, .int 0, .ref (ad g 159), .null, .null, .null, .null, .null])) :: o')) xf_X4 rfl (by decide) (by decide) (Nat.le_of_ble_eq_true rfl) rfl rfl rfl rfl rfl rfl fl_X4_15 (kX4_init 9 rfl) rfl ?_
  refine B_aload_n (n9 := 21) 0 (kX4_init 10 rfl) rfl rfl rfl ?_
  refine B_bipush (n9 := 23) (v := 8) (kX4_init 11 rfl) rfl (by decide) ?_
  refine B_newaI (n9 := 25) (N := 8) (by decide) ac_int (by decide) (by decide) (Nat.le_of_ble_eq_true rfl) (Nat.le_of_ble_eq_true rfl) (Nat.le_of_ble_eq_true rfl) (kX4_init 12 rfl) rfl rfl rfl (S0z (by decide)) (lk_c (by decide) (ho 160 (by decide))) ?_
  refine B_putF (n9 := 28) (o' := ((157, .inr (4, [.ref (ad g 158), .int 0, .int 0, .ref (ad g 159), .ref (ad g 160), .null, .null, .null, .null])) :: o')) xf_X4 rfl (by decide) (by decide) (Nat.le_of_ble_eq_true rfl) rfl rfl rfl rfl rfl rfl fl_X4_18 (kX4_init 13 rfl) rfl ?_
  refine B_aload_n (n9 := 29) 0 (kX4_init 14 rfl) rfl rfl rfl ?_
  refine B_bipush (n9 := 31) (v := 8) (kX4_init 15 rfl) rfl (by decide) ?_
  refine B_newaI (n9 := 33) (N := 8) (by decide) ac_int (by decide) (by decide) (Nat.le_of_ble_eq_true rfl) (Nat.le_of_ble_eq_true rfl) (Nat.le_of_ble_eq_true rfl) (kX4_init 16 rfl) rfl rfl rfl (S0z (by decide)) (lk_c (by decide) (ho 161 (by decide))) ?_
  refine B_putF (n9 := 36) (o' := ((157, .inr (4, [.ref (ad g 158), .int 0, .int 0, .ref (ad g 159), .ref (ad g 160), .ref (ad g 161), .null, .null, .null])) :: o')) xf_X4 rfl (by decide) (by decide) (Nat.le_of_ble_eq_true rfl) rfl rfl rfl rfl rfl rfl fl_X4_21 (kX4_init 17 rfl) rfl ?_
  refine B_aload_n (n9 := 37) 0 (kX4_init 18 rfl) rfl rfl rfl ?_
  refine B_bipush (n9 := 39) (v := 54) (kX4_init 19 rfl) rfl (by decide) ?_
  refine B_newaI (n9 := 41) (N := 54) (by decide) ac_int (by decide) (by decide) (Nat.le_of_ble_eq_true rfl) (Nat.le_of_ble_eq_true rfl) (Nat.le_of_ble_eq_true rfl) (kX4_init 20 rfl) rfl rfl rfl (S0z (by decide)) (lk_c (by decide) (ho 162 (by decide))) ?_
  refine B_putF (n9 := 44) (o' := ((157, .inr (4, [.ref (ad g 158), .int 0, .int 0, .ref (ad g 159), .ref (ad g 160), .ref (ad g 161), .ref (ad g 162), .null, .null])) :: o')) xf_X4 rfl (by decide) (by decide) (Nat.le_of_ble_eq_true rfl) rfl rfl rfl rfl rfl rfl fl_X4_24 (kX4_init 21 rfl) rfl ?_
  refine B_aload_n (n9 := 45) 0 (kX4_init 22 rfl) rfl rfl rfl ?_
  refine B_sipush (n9 := 48) (v := 256) (kX4_init 23 rfl) rfl (by decide) ?_
  refine B_newaI (n9 := 50) (N := 256) (by decide) ac_int (by decide) (by decide) (Nat.le_of_ble_eq_true rfl) (Nat.le_of_ble_eq_true rfl) (Nat.le_of_ble_eq_true rfl) (kX4_init 24 rfl) rfl rfl rfl (S0z (by decide)) (lk_c (by decide) (ho 163 (by decide))) ?_
  refine B_putF (n9 := 53) (o' := ((157, .inr (4, [.ref (ad g 158), .int 0, .int 0, .ref (ad g 159), .ref (ad g 160), .ref (ad g 161), .ref (ad g 162), .ref (ad g 163), .null])) :: o')) xf_X4 rfl (by decide) (by decide) (Nat.le_of_ble_eq_true rfl) rfl rfl rfl rfl rfl rfl fl_X4_27 (kX4_init 25 rfl) rfl ?_
  refine B_aload_n (n9 := 54) 0 (kX4_init 26 rfl) rfl rfl rfl ?_
  refine B_sipush (n9 := 57) (v := 256) (kX4_init 27 rfl) rfl (by decide) ?_
  refine B_newaI (n9 := 59) (N := 256) (by decide) ac_int (by decide) (by decide) (Nat.le_of_ble_eq_true rfl) (Nat.le_of_ble_eq_true rfl) (Nat.le_of_ble_eq_true rfl) (kX4_init 28 rfl) rfl rfl rfl (S0z (by decide)) (lk_c (by decide) (ho 164 (by decide))) ?_
  refine B_putF (n9 := 62) (o' := ((157, .inr (4, [.ref (ad g 158), .int 0, .int 0, .ref (ad g 159), .ref (ad g 160), .ref (ad g 161), .ref (ad g 162), .ref (ad g 163), .ref (ad g 164)])) :: o')) xf_X4 rfl (by decide) (by decide) (Nat.le_of_ble_eq_true rfl) rfl rfl rfl rfl rfl rfl fl_X4_30 (kX4_init 29 rfl) rfl ?_
  refine B_close rfl (ho 157 (by decide)) ?_
  exact B_ret rfl (kX4_init 30 rfl)
set_option maxHeartbeats 4000000 in
set_option maxRecDepth 100000 in
theorem C_X9_init_165 {l : Launch} {g : XG} {o' : XO} (ho : ∀ k, 165 ≤ k → lk o' k = none) : ClA l g 2 6 110 mX9_init [.ref 165] 166 ((165, .inr (9, [.int 0, .int 0, .null, .int 0, .null, .int 0, .null, .null, .null, .null])) :: o') 172 o' := by
  refine ClA.of (by decide +kernel) rfl (Nat.le_of_ble_eq_true rfl) ?_
  show B _ _ _ _ _ _ 0 [(0, .ref 165)] [] _ _ _ _ _ _
  refine B_aload_n (n9 := 1) 0 (kX9_init 0 rfl) rfl rfl rfl ?_
  refine B_obj (n9 := 4) (st := []) ol_X9_3 ob_1 ob_2 (Nat.le_of_ble_eq_true rfl) (Nat.le_of_ble_eq_true rfl) (kX9_init 1 rfl) rfl ?_
  refine B_aload_n (n9 := 5) 0 (kX9_init 2 rfl) rfl rfl rfl ?_
  refine B_bipush (n9 := 7) (v := 42) (kX9_init 3 rfl) rfl (by decide) ?_
  refine B_newaI (n9 := 9) (N := 42) (by decide) ac_int (by decide) (by decide) (Nat.le_of_ble_eq_true rfl) (Nat.le_of_ble_eq_true rfl) (Nat.le_of_ble_eq_true rfl) (kX9_init 4 rfl) rfl rfl rfl (S0z (by decide)) (lk_c (by decide) (ho 166 (by decide))) ?_
  refine B_putF (n9 := 12) (o' := ((165, .inr (9, [.int 0, .int 0, .ref (ad g 166), .int 0, .null, .int 0, .null, .null, .null, .null])) :: o')) xf_X9 rfl (by decide) (by decide) (Nat.le_of_ble_eq_true rfl) rfl rfl rfl rfl rfl rfl fl_X9_9 (kX9_init 5 rfl) rfl ?_
  refine B_aload_n (n9 := 13) 0 (kX9_init 6 rfl) rfl rfl rfl ?_
  refine B_bipush (n9 := 15) (v := 7) (kX9_init 7 rfl) rfl (by decide) ?_
  refine B_newaI (n9 := 17) (N := 7) (by decide) ac_int (by decide) (by decide) (Nat.le_of_ble_eq_true rfl) (Nat.le_of_ble_eq_true rfl) (Nat.le_of_ble_eq_true rfl) (kX9_init 8 rfl) rfl rfl rfl (S0z (by decide)) (lk_c (by decide) (ho 167 (by decide))) ?_
  refine B_putF (n9 := 20) (o' := ((165, .inr (9, [.int 0, .int 0, .ref (ad g 166), .int 0, .ref (ad g 167), .int 0, .null, .null, .null, .null])) :: o')) xf_X9 rfl (by decide) (by decide) (Nat.le_of_ble_eq_true rfl) rfl rfl rfl rfl rfl rfl fl_X9_15 (kX9_init 9 rfl) rfl ?_
  refine B_aload_n (n9 := 21) 0 (kX9_init 10 rfl) rfl rfl rfl ?_
  refine B_bipush (n9 := 23) (v := 6) (kX9_init 11 rfl) rfl (by decide) ?_
  refine B_newaI (n9 := 25) (N := 6) (by decide) ac_int (by decide) (by decide) (Nat.le_of_ble_eq_true rfl) (Nat.le_of_ble_eq_true rfl) (Nat.le_of_ble_eq_true rfl) (kX9_init 12 rfl) rfl rfl rfl (S0z (by decide)) (lk_c (by decide) (ho 168 (by decide))) ?_
  refine B_putF (n9 := 28) (o' := ((165, .inr (9, [.int 0, .int 0, .ref (ad g 166), .int 0, .ref (ad g 167), .int 0, .ref (ad g 168), .null, .null, .null])) :: o')) xf_X9 rfl (by decide) (by decide) (Nat.le_of_ble_eq_true rfl) rfl rfl rfl rfl rfl rfl fl_X9_18 (kX9_init 13 rfl) rfl ?_
  refine B_aload_n (n9 := 29) 0 (kX9_init 14 rfl) rfl rfl rfl ?_
  refine B_bipush (n9 := 31) (v := 6) (kX9_init 15 rfl) rfl (by decide) ?_
  refine B_newaI (n9 := 33) (N := 6) (by decide) ac_int (by decide) (by decide) (Nat.le_of_ble_eq_true rfl) (Nat.le_of_ble_eq_true rfl) (Nat.le_of_ble_eq_true rfl) (kX9_init 16 rfl) rfl rfl rfl (S0z (by decide)) (lk_c (by decide) (ho 169 (by decide))) ?_
  refine B_putF (n9 := 36) (o' := ((165, .inr (9, [.int 0, .int 0, .ref (ad g 166), .int 0, .ref (ad g 167), .int 0, .ref (ad g 168), .ref (ad g 169), .null, .null])) :: o')) xf_X9 rfl (by decide) (by decide) (Nat.le_of_ble_eq_true rfl) rfl rfl rfl rfl rfl rfl fl_X9_21 (kX9_init 17 rfl) rfl ?_
  refine B_aload_n (n9 := 37) 0 (kX9_init 18 rfl) rfl rfl rfl ?_
  refine B_bipush (n9 := 39) (v := 7) (kX9_init 19 rfl) rfl (by decide) ?_
  refine B_newaI (n9 := 41) (N := 7) (by decide) ac_int (by decide) (by decide) (Nat.le_of_ble_eq_true rfl) (Nat.le_of_ble_eq_true rfl) (Nat.le_of_ble_eq_true rfl) (kX9_init 20 rfl) rfl rfl rfl (S0z (by decide)) (lk_c (by decide) (ho 170 (by decide))) ?_
  refine B_putF (n9 := 44) (o' := ((165, .inr (9, [.int 0, .int 0, .ref (ad g 166), .int 0, .ref (ad g 167), .int 0, .ref (ad g 168), .ref (ad g 169), .ref (ad g 170), .null])) :: o')) xf_X9 rfl (by decide) (by decide) (Nat.le_of_ble_eq_true rfl) rfl rfl rfl rfl rfl rfl fl_X9_24 (kX9_init 21 rfl) rfl ?_
  refine B_aload_n (n9 := 45) 0 (kX9_init 22 rfl) rfl rfl rfl ?_
  refine B_bipush (n9 := 47) (v := 42) (kX9_init 23 rfl) rfl (by decide) ?_
  refine B_newaI (n9 := 49) (N := 42) (by decide) ac_int (by decide) (by decide) (Nat.le_of_ble_eq_true rfl) (Nat.le_of_ble_eq_true rfl) (Nat.le_of_ble_eq_true rfl) (kX9_init 24 rfl) rfl rfl rfl (S0z (by decide)) (lk_c (by decide) (ho 171 (by decide))) ?_
  refine B_putF (n9 := 52) (o' := ((165, .inr (9, [.int 0, .int 0, .ref (ad g 166), .int 0, .ref (ad g 167), .int 0, .ref (ad g 168), .ref (ad g 169), .ref (ad g 170), .ref (ad g 171)])) :: o')) xf_X9 rfl (by decide) (by decide) (Nat.le_of_ble_eq_true rfl) rfl rfl rfl rfl rfl rfl fl_X9_27 (kX9_init 25 rfl) rfl ?_
  refine B_close rfl (ho 165 (by decide)) ?_
  exact B_ret rfl (kX9_init 26 rfl)
set_option maxHeartbeats 4000000 in
set_option maxRecDepth 100000 in
theorem C_X0_init_172 {l : Launch} {g : XG} {o' : XO} (ho : ∀ k, 172 ≤ k → lk o' k = none) : ClA l g 2 5 2644 mX0_init [.ref 172] 173 ((172, .inr (0, [.int 0, .null, .int 0, .int 0, .null, .null, .null, .null])) :: o') 178 o' := by
  refine ClA.of (by decide +kernel) rfl (Nat.le_of_ble_eq_true rfl) ?_
  show B _ _ _ _ _ _ 0 [(0, .ref 172)] [] _ _ _ _ _ _
  refine B_aload_n (n9 := 1) 0 (kX0_init 0 rfl) rfl rfl rfl ?_
  refine B_obj (n9 := 4) (st := []) ol_X0_3 ob_1 ob_2 (Nat.le_of_ble_eq_true rfl) (Nat.le_of_ble_eq_true rfl) (kX0_init 1 rfl) rfl ?_
  refine B_aload_n (n9 := 5) 0 (kX0_init 2 rfl) rfl rfl rfl ?_
  refine B_bipush (n9 := 7) (v := 40) (kX0_init 3 rfl) rfl (by decide) ?_
  refine B_newaI (n9 := 9) (N := 40) (by decide) ac_int (by decide) (by decide) (Nat.le_of_ble_eq_true rfl) (Nat.le_of_ble_eq_true rfl) (Nat.le_of_ble_eq_true rfl) (kX0_init 4 rfl) rfl rfl rfl (S0z (by decide)) (lk_c (by decide) (ho 173 (by decide))) ?_
  refine B_putF (n9 := 12) (o' := ((172, .inr (0, [.int 0, .ref (ad g 173), .int 0, .int 0, .null, .null, .null, .null])) :: o')) xf_X0 rfl (by decide) (by decide) (Nat.le_of_ble_eq_true rfl) rfl rfl rfl rfl rfl rfl fl_X0_9 (kX0_init 5 rfl) rfl ?_
  refine B_aload_n (n9 := 13) 0 (kX0_init 6 rfl) rfl rfl rfl ?_
  refine B_bipush (n9 := 15) (v := 36) (kX0_init 7 rfl) rfl (by decide) ?_
  refine B_newaI (n9 := 17) (N := 36) (by decide) ac_int (by decide) (by decide) (Nat.le_of_ble_eq_true rfl) (Nat.le_of_ble_eq_true rfl) (Nat.le_of_ble_eq_true rfl) (kX0_init 8 rfl) rfl rfl rfl (S0z (by decide)) (lk_c (by decide) (ho 174 (by decide))) ?_
  refine B_putF (n9 := 20) (o' := ((172, .inr (0, [.int 0, .ref (ad g 173), .int 0, .int 0, .ref (ad g 174), .null, .null, .null])) :: o')) xf_X0 rfl (by decide) (by decide) (Nat.le_of_ble_eq_true rfl) rfl rfl rfl rfl rfl rfl fl_X0_15 (kX0_init 9 rfl) rfl ?_
  refine B_aload_n (n9 := 21) 0 (kX0_init 10 rfl) rfl rfl rfl ?_
  refine B_sipush (n9 := 24) (v := 366) (kX0_init 11 rfl) rfl (by decide) ?_
  refine B_newaI (n9 := 26) (N := 366) (by decide) ac_int (by decide) (by decide) (Nat.le_of_ble_eq_true rfl) (Nat.le_of_ble_eq_true rfl) (Nat.le_of_ble_eq_true rfl) (kX0_init 12 rfl) rfl rfl rfl (S0z (by decide)) (lk_c (by decide) (ho 175 (by decide))) ?_
  refine B_putF (n9 := 29) (o' := ((172, .inr (0, [.int 0, .ref (ad g 173), .int 0, .int 0, .ref (ad g 174), .ref (ad g 175), .null, .null])) :: o')) xf_X0 rfl (by decide) (by decide) (Nat.le_of_ble_eq_true rfl) rfl rfl rfl rfl rfl rfl fl_X0_18 (kX0_init 13 rfl) rfl ?_
  refine B_aload_n (n9 := 30) 0 (kX0_init 14 rfl) rfl rfl rfl ?_
  refine B_sipush (n9 := 33) (v := 2196) (kX0_init 15 rfl) rfl (by decide) ?_
  refine B_newaI (n9 := 35) (N := 2196) (by decide) ac_int (by decide) (by decide) (Nat.le_of_ble_eq_true rfl) (Nat.le_of_ble_eq_true rfl) (Nat.le_of_ble_eq_true rfl) (kX0_init 16 rfl) rfl rfl rfl (S0z (by decide)) (lk_c (by decide) (ho 176 (by decide))) ?_
  refine B_putF (n9 := 38) (o' := ((172, .inr (0, [.int 0, .ref (ad g 173), .int 0, .int 0, .ref (ad g 174), .ref (ad g 175), .ref (ad g 176), .null])) :: o')) xf_X0 rfl (by decide) (by decide) (Nat.le_of_ble_eq_true rfl) rfl rfl rfl rfl rfl rfl fl_X0_21 (kX0_init 17 rfl) rfl ?_
  refine B_aload_n (n9 := 39) 0 (kX0_init 18 rfl) rfl rfl rfl ?_
  refine B_bipush (n9 := 41) (v := 6) (kX0_init 19 rfl) rfl (by decide) ?_
  refine B_newaI (n9 := 43) (N := 6) (by decide) ac_int (by decide) (by decide) (Nat.le_of_ble_eq_true rfl) (Nat.le_of_ble_eq_true rfl) (Nat.le_of_ble_eq_true rfl) (kX0_init 20 rfl) rfl rfl rfl (S0z (by decide)) (lk_c (by decide) (ho 177 (by decide))) ?_
  refine B_putF (n9 := 46) (o' := ((172, .inr (0, [.int 0, .ref (ad g 173), .int 0, .int 0, .ref (ad g 174), .ref (ad g 175), .ref (ad g 176), .ref (ad g 177)])) :: o')) xf_X0 rfl (by decide) (by decide) (Nat.le_of_ble_eq_true rfl) rfl rfl rfl rfl rfl rfl fl_X0_24 (kX0_init 21 rfl) rfl ?_
  refine B_close rfl (ho 172 (by decide)) ?_
  exact B_ret rfl (kX0_init 22 rfl)
set_option maxHeartbeats 4000000 in
set_option maxRecDepth 100000 in
theorem C_X10_init_179 {l : Launch} {g : XG} {o' : XO} (ho : ∀ k, 179 ≤ k → lk o' k = none) : ClA l g 2 7 120 mX10_init [.ref 179] 180 ((179, .inr (10, [.int 0, .null, .null, .null, .int 0, .null, .null, .null, .null])) :: o') 187 o' := by
  refine ClA.of (by decide +kernel) rfl (Nat.le_of_ble_eq_true rfl) ?_
  show B _ _ _ _ _ _ 0 [(0, .ref 179)] [] _ _ _ _ _ _
  refine B_aload_n (n9 := 1) 0 (kX10_init 0 rfl) rfl rfl rfl ?_
  refine B_obj (n9 := 4) (st := []) ol_X10_3 ob_1 ob_2 (Nat.le_of_ble_eq_true rfl) (Nat.le_of_ble_eq_true rfl) (kX10_init 1 rfl) rfl ?_
  refine B_aload_n (n9 := 5) 0 (kX10_init 2 rfl) rfl rfl rfl ?_
  refine B_bipush (n9 := 7) (v := 6) (kX10_init 3 rfl) rfl (by decide) ?_
  refine B_newaI (n9 := 9) (N := 6) (by decide) ac_int (by decide) (by decide) (Nat.le_of_ble_eq_true rfl) (Nat.le_of_ble_eq_true rfl) (Nat.le_of_ble_eq_true rfl) (kX10_init 4 rfl) rfl rfl rfl (S0z (by decide)) (lk_c (by decide) (ho 180 (by decide))) ?_
  refine B_putF (n9 := 12) (o' := ((179, .inr (10, [.int 0, .ref (ad g 180), .null, .null, .int 0, .null, .null, .null, .null])) :: o')) xf_X10 rfl (by decide) (by decide) (Nat.le_of_ble_eq_true rfl) rfl rfl rfl rfl rfl rfl fl_X10_9 (kX10_init 5 rfl) rfl ?_
  refine B_aload_n (n9 := 13) 0 (kX10_init 6 rfl) rfl rfl rfl ?_
  refine B_bipush (n9 := 15) (v := 6) (kX10_init 7 rfl) rfl (by decide) ?_
  refine B_newaI (n9 := 17) (N := 6) (by decide) ac_int (by decide) (by decide) (Nat.le_of_ble_eq_true rfl) (Nat.le_of_ble_eq_true rfl) (Nat.le_of_ble_eq_true rfl) (kX10_init 8 rfl) rfl rfl rfl (S0z (by decide)) (lk_c (by decide) (ho 181 (by decide))) ?_
  refine B_putF (n9 := 20) (o' := ((179, .inr (10, [.int 0, .ref (ad g 180), .ref (ad g 181), .null, .int 0, .null, .null, .null, .null])) :: o')) xf_X10 rfl (by decide) (by decide) (Nat.le_of_ble_eq_true rfl) rfl rfl rfl rfl rfl rfl fl_X10_15 (kX10_init 9 rfl) rfl ?_
  refine B_aload_n (n9 := 21) 0 (kX10_init 10 rfl) rfl rfl rfl ?_
  refine B_bipush (n9 := 23) (v := 36) (kX10_init 11 rfl) rfl (by decide) ?_
  refine B_newaI (n9 := 25) (N := 36) (by decide) ac_int (by decide) (by decide) (Nat.le_of_ble_eq_true rfl) (Nat.le_of_ble_eq_true rfl) (Nat.le_of_ble_eq_true rfl) (kX10_init 12 rfl) rfl rfl rfl (S0z (by decide)) (lk_c (by decide) (ho 182 (by decide))) ?_
  refine B_putF (n9 := 28) (o' := ((179, .inr (10, [.int 0, .ref (ad g 180), .ref (ad g 181), .ref (ad g 182), .int 0, .null, .null, .null, .null])) :: o')) xf_X10 rfl (by decide) (by decide) (Nat.le_of_ble_eq_true rfl) rfl rfl rfl rfl rfl rfl fl_X10_18 (kX10_init 13 rfl) rfl ?_
  refine B_aload_n (n9 := 29) 0 (kX10_init 14 rfl) rfl rfl rfl ?_
  refine B_bipush (n9 := 31) (v := 48) (kX10_init 15 rfl) rfl (by decide) ?_
  refine B_newaI (n9 := 33) (N := 48) (by decide) ac_int (by decide) (by decide) (Nat.le_of_ble_eq_true rfl) (Nat.le_of_ble_eq_true rfl) (Nat.le_of_ble_eq_true rfl) (kX10_init 16 rfl) rfl rfl rfl (S0z (by decide)) (lk_c (by decide) (ho 183 (by decide))) ?_
  refine B_putF (n9 := 36) (o' := ((179, .inr (10, [.int 0, .ref (ad g 180), .ref (ad g 181), .ref (ad g 182), .int 0, .ref (ad g 183), .null, .null, .null])) :: o')) xf_X10 rfl (by decide) (by decide) (Nat.le_of_ble_eq_true rfl) rfl rfl rfl rfl rfl rfl fl_X10_21 (kX10_init 17 rfl) rfl ?_
  refine B_aload_n (n9 := 37) 0 (kX10_init 18 rfl) rfl rfl rfl ?_
  refine B_bipush (n9 := 39) (v := 8) (kX10_init 19 rfl) rfl (by decide) ?_
  refine B_newaI (n9 := 41) (N := 8) (by decide) ac_int (by decide) (by decide) (Nat.le_of_ble_eq_true rfl) (Nat.le_of_ble_eq_true rfl) (Nat.le_of_ble_eq_true rfl) (kX10_init 20 rfl) rfl rfl rfl (S0z (by decide)) (lk_c (by decide) (ho 184 (by decide))) ?_
  refine B_putF (n9 := 44) (o' := ((179, .inr (10, [.int 0, .ref (ad g 180), .ref (ad g 181), .ref (ad g 182), .int 0, .ref (ad g 183), .ref (ad g 184), .null, .null])) :: o')) xf_X10 rfl (by decide) (by decide) (Nat.le_of_ble_eq_true rfl) rfl rfl rfl rfl rfl rfl fl_X10_24 (kX10_init 21 rfl) rfl ?_
  refine B_aload_n (n9 := 45) 0 (kX10_init 22 rfl) rfl rfl rfl ?_
  refine B_bipush (n9 := 47) (v := 8) (kX10_init 23 rfl) rfl (by decide) ?_
  refine B_newaI (n9 := 49) (N := 8) (by decide) ac_int (by decide) (by decide) (Nat.le_of_ble_eq_true rfl) (Nat.le_of_ble_eq_true rfl) (Nat.le_of_ble_eq_true rfl) (kX10_init 24 rfl) rfl rfl rfl (S0z (by decide)) (lk_c (by decide) (ho 185 (by decide))) ?_
  refine B_putF (n9 := 52) (o' := ((179, .inr (10, [.int 0, .ref (ad g 180), .ref (ad g 181), .ref (ad g 182), .int 0, .ref (ad g 183), .ref (ad g 184), .ref (ad g 185), .null])) :: o')) xf_X10 rfl (by decide) (by decide) (Nat.le_of_ble_eq_true rfl) rfl rfl rfl rfl rfl rfl fl_X10_27 (kX10_init 25 rfl) rfl ?_
  refine B_aload_n (n9 := 53) 0 (kX10_init 26 rfl) rfl rfl rfl ?_
  refine B_bipush (n9 := 55) (v := 8) (kX10_init 27 rfl) rfl (by decide) ?_
  refine B_newaI (n9 := 57) (N := 8) (by decide) ac_int (by decide) (by decide) (Nat.le_of_ble_eq_true rfl) (Nat.le_of_ble_eq_true rfl) (Nat.le_of_ble_eq_true rfl) (kX10_init 28 rfl) rfl rfl rfl (S0z (by decide)) (lk_c (by decide) (ho 186 (by decide))) ?_
  refine B_putF (n9 := 60) (o' := ((179, .inr (10, [.int 0, .ref (ad g 180), .ref (ad g 181), .ref (ad g 182), .int 0, .ref (ad g 183), .ref (ad g 184), .ref (ad g 185), .ref (ad g 186)])) :: o')) xf_X10 rfl (by decide) (by decide) (Nat.le_of_ble_eq_true rfl) rfl rfl rfl rfl rfl rfl fl_X10_30 (kX10_init 29 rfl) rfl ?_
  refine B_close rfl (ho 179 (by decide)) ?_
  exact B_ret rfl (kX10_init 30 rfl)
set_option maxHeartbeats 4000000 in
set_option maxRecDepth 100000 in
theorem C_X1_init_178 {l : Launch} {g : XG} {o' : XO} (ho : ∀ k, 178 ≤ k → lk o' k = none) : ClA l g 4 8 129 mX1_init [.ref 178] 179 ((178, .inr (1, [.int 0, .int 0, .int 0, .int 0, .int 0, .null])) :: o') 187 o' := by
  refine ClA.of (by decide +kernel) rfl (Nat.le_of_ble_eq_true rfl) ?_
  show B _ _ _ _ _ _ 0 [(0, .ref 178)] [] _ _ _ _ _ _
  refine B_aload_n (n9 := 1) 0 (kX1_init 0 rfl) rfl rfl rfl ?_
  refine B_obj (n9 := 4) (st := []) ol_X1_3 ob_1 ob_2 (Nat.le_of_ble_eq_true rfl) (Nat.le_of_ble_eq_true rfl) (kX1_init 1 rfl) rfl ?_
  refine B_aload_n (n9 := 5) 0 (kX1_init 2 rfl) rfl rfl rfl ?_
  refine B_new (n9 := 8) (fs := [.int 0, .null, .null, .null, .int 0, .null, .null, .null, .null]) xf_X10 (by decide) cc_X1_9 it_X10 in_X10 (by decide) (Nat.le_of_ble_eq_true rfl) (Nat.le_of_ble_eq_true rfl) (kX1_init 3 rfl) rfl ?_
  refine B_dup (n9 := 9) (kX1_init 4 rfl) rfl rfl ?_
  refine B_callIN (n9 := 12) (As := []) (st := [.ref 179, .ref 178]) (C_X10_init_179 (fun k hk => lk_c (Nat.ne_of_lt (Nat.lt_of_lt_of_le (by decide) hk)) (ho k (Nat.le_trans (by decide) hk)))) (by decide) nl_X1_11 mi_X10 rfl (by decide) rfl (Nat.le_of_ble_eq_true rfl) (Nat.le_of_ble_eq_true rfl) (Nat.le_of_ble_eq_true rfl) (kX1_init 5 rfl) rfl ?_
  refine B_putF (n9 := 15) (o' := ((178, .inr (1, [.int 0, .int 0, .int 0, .int 0, .int 0, .ref (ad g 179)])) :: o')) xf_X1 rfl (by decide) (by decide) (Nat.le_of_ble_eq_true rfl) rfl rfl rfl rfl rfl rfl fl_X1_12 (kX1_init 6 rfl) rfl ?_
  refine B_close rfl (ho 178 (by decide)) ?_
  exact B_ret rfl (kX1_init 7 rfl)
set_option maxHeartbeats 4000000 in
set_option maxRecDepth 100000 in
theorem C_X11_init_0 {l : Launch} {g : XG} {o' : XO} (ho : ∀ k, 0 ≤ k → lk o' k = none) : ClA l g 10 187 11613 mX11_init [.ref 0] 1 ((0, .inr (11, [.null, .null, .null, .null, .null, .null, .null, .null, .int 0, .int 0, .null, .null, .null, .null, .null, .null, .null, .null, .null, .int 0])) :: o') 188 o' := by
  refine ClA.of (by decide +kernel) rfl (Nat.le_of_ble_eq_true rfl) ?_
  show B _ _ _ _ _ _ 0 [(0, .ref 0)] [] _ _ _ _ _ _
  refine B_aload_n (n9 := 1) 0 (kX11_init 0 rfl) rfl rfl rfl ?_
  refine B_obj (n9 := 4) (st := []) ol_X11_3 ob_1 ob_2 (Nat.le_of_ble_eq_true rfl) (Nat.le_of_ble_eq_true rfl) (kX11_init 1 rfl) rfl ?_
  refine B_aload_n (n9 := 5) 0 (kX11_init 2 rfl) rfl rfl rfl ?_
  refine B_new (n9 := 8) (fs := [.null, .int 0, .int 0, .int 0, .null, .null, .null, .null, .int 0, .int 0, .int 0, .int 0]) xf_X8 (by decide) cc_X11_9 it_X8 in_X8 (by decide) (Nat.le_of_ble_eq_true rfl) (Nat.le_of_ble_eq_true rfl) (kX11_init 3 rfl) rfl ?_
  refine B_dup (n9 := 9) (kX11_init 4 rfl) rfl rfl ?_
  refine B_callI (n9 := 12) (As := []) (st := [.ref 1, .ref 0]) (C_X8_init_1 (fun k hk => lk_c (Nat.ne_of_lt (Nat.lt_of_lt_of_le (by decide) hk)) (ho k (Nat.le_trans (by decide) hk)))) (by decide) ml_X11_11 mi_X8 rfl (by decide) rfl (Nat.le_of_ble_eq_true rfl) (Nat.le_of_ble_eq_true rfl) (Nat.le_of_ble_eq_true rfl) (kX11_init 5 rfl) rfl ?_
  refine B_putF (n9 := 15) (o' := ((0, .inr (11, [.ref (ad g 1), .null, .null, .null, .null, .null, .null, .null, .int 0, .int 0, .null, .null, .null, .null, .null, .null, .null, .null, .null, .int 0])) :: o')) xf_X11 rfl (by decide) (by decide) (Nat.le_of_ble_eq_true rfl) rfl rfl rfl rfl rfl rfl fl_X11_12 (kX11_init 6 rfl) rfl ?_
  refine B_aload_n (n9 := 16) 0 (kX11_init 7 rfl) rfl rfl rfl ?_
  refine B_new (n9 := 19) (fs := [.null, .null, .null, .null, .null, .null, .null, .null]) xf_X2 (by decide) cc_X11_16 it_X2 in_X2 (by decide) (Nat.le_of_ble_eq_true rfl) (Nat.le_of_ble_eq_true rfl) (kX11_init 8 rfl) rfl ?_
  refine B_dup (n9 := 20) (kX11_init 9 rfl) rfl rfl ?_
  refine B_callIN (n9 := 23) (As := []) (st := [.ref 7, .ref 0]) (C_X2_init_7 (fun k hk => lk_c (Nat.ne_of_lt (Nat.lt_of_lt_of_le (by decide) hk)) (ho k (Nat.le_trans (by decide) hk)))) (by decide) nl_X11_18 mi_X2 rfl (by decide) rfl (Nat.le_of_ble_eq_true rfl) (Nat.le_of_ble_eq_true rfl) (Nat.le_of_ble_eq_true rfl) (kX11_init 10 rfl) rfl ?_
  refine B_putF (n9 := 26) (o' := ((0, .inr (11, [.ref (ad g 1), .ref (ad g 7), .null, .null, .null, .null, .null, .null, .int 0, .int 0, .null, .null, .null, .null, .null, .null, .null, .null, .null, .int 0])) :: o')) xf_X11 rfl (by decide) (by decide) (Nat.le_of_ble_eq_true rfl) rfl rfl rfl rfl rfl rfl fl_X11_19 (kX11_init 11 rfl) rfl ?_
  refine B_aload_n (n9 := 27) 0 (kX11_init 12 rfl) rfl rfl rfl ?_
  refine B_new (n9 := 30) (fs := [.null, .null, .null, .null]) xf_X3 (by decide) cc_X11_23 it_X3 in_X3 (by decide) (Nat.le_of_ble_eq_true rfl) (Nat.le_of_ble_eq_true rfl) (kX11_init 13 rfl) rfl ?_
  refine B_dup (n9 := 31) (kX11_init 14 rfl) rfl rfl ?_
  refine B_aload_n (n9 := 32) 0 (kX11_init 15 rfl) rfl rfl rfl ?_
  refine B_get (n9 := 35) (v := .ref 1) xf_X11 rfl (by decide) (by decide) rfl fl_X11_12 (kX11_init 16 rfl) rfl ?_
  refine B_callI (n9 := 38) (As := [.ref 1]) (st := [.ref 16, .ref 0]) (C_X3_init_16 (fun k hk => lk_c (Nat.ne_of_lt (Nat.lt_of_lt_of_le (by decide) hk)) (ho k (Nat.le_trans (by decide) hk)))) (by decide) ml_X11_25 mi_X3 rfl (by decide) rfl (Nat.le_of_ble_eq_true rfl) (Nat.le_of_ble_eq_true rfl) (Nat.le_of_ble_eq_true rfl) (kX11_init 17 rfl) rfl ?_
  refine B_putF (n9 := 41) (o' := ((0, .inr (11, [.ref (ad g 1), .ref (ad g 7), .ref (ad g 16), .null, .null, .null, .null, .null, .int 0, .int 0, .null, .null, .null, .null, .null, .null, .null, .null, .null, .int 0])) :: o')) xf_X11 rfl (by decide) (by decide) (Nat.le_of_ble_eq_true rfl) rfl rfl rfl rfl rfl rfl fl_X11_28 (kX11_init 18 rfl) rfl ?_
  refine B_aload_n (n9 := 42) 0 (kX11_init 19 rfl) rfl rfl rfl ?_
  refine B_new (n9 := 45) (fs := [.int 0, .null, .null, .null, .int 0, .null, .null, .null, .null]) xf_X10 (by decide) cc_X11_32 it_X10 in_X10 (by decide) (Nat.le_of_ble_eq_true rfl) (Nat.le_of_ble_eq_true rfl) (kX11_init 20 rfl) rfl ?_
  refine B_dup (n9 := 46) (kX11_init 21 rfl) rfl rfl ?_
  refine B_callIN (n9 := 49) (As := []) (st := [.ref 28, .ref 0]) (C_X10_init_28 (fun k hk => lk_c (Nat.ne_of_lt (Nat.lt_of_lt_of_le (by decide) hk)) (ho k (Nat.le_trans (by decide) hk)))) (by decide) nl_X11_34 mi_X10 rfl (by decide) rfl (Nat.le_of_ble_eq_true rfl) (Nat.le_of_ble_eq_true rfl) (Nat.le_of_ble_eq_true rfl) (kX11_init 22 rfl) rfl ?_
  refine B_putF (n9 := 52) (o' := ((0, .inr (11, [.ref (ad g 1), .ref (ad g 7), .ref (ad g 16), .ref (ad g 28), .null, .null, .null, .null, .int 0, .int 0, .null, .null, .null, .null, .null, .null, .null, .null, .null, .int 0])) :: o')) xf_X11 rfl (by decide) (by decide) (Nat.le_of_ble_eq_true rfl) rfl rfl rfl rfl rfl rfl fl_X11_35 (kX11_init 23 rfl) rfl ?_
  refine B_aload_n (n9 := 53) 0 (kX11_init 24 rfl) rfl rfl rfl ?_
  refine B_new (n9 := 56) (fs := [.null, .null, .null, .int 0]) xf_X6 (by decide) cc_X11_39 it_X6 in_X6 (by decide) (Nat.le_of_ble_eq_true rfl) (Nat.le_of_ble_eq_true rfl) (kX11_init 25 rfl) rfl ?_
  refine B_dup (n9 := 57) (kX11_init 26 rfl) rfl rfl ?_
  refine B_callIN (n9 := 60) (As := []) (st := [.ref 36, .ref 0]) (C_X6_init_36 (fun k hk => lk_c (Nat.ne_of_lt (Nat.lt_of_lt_of_le (by decide) hk)) (ho k (Nat.le_trans (by decide) hk)))) (by decide) nl_X11_41 mi_X6 rfl (by decide) rfl (Nat.le_of_ble_eq_true rfl) (Nat.le_of_ble_eq_true rfl) (Nat.le_of_ble_eq_true rfl) (kX11_init 27 rfl) rfl ?_
  refine B_putF (n9 := 63) (o' := ((0, .inr (11, [.ref (ad g 1), .ref (ad g 7), .ref (ad g 16), .ref (ad g 28), .ref (ad g 36), .null, .null, .null, .int 0, .int 0, .null, .null, .null, .null, .null, .null, .null, .null, .null, .int 0])) :: o')) xf_X11 rfl (by decide) (by decide) (Nat.le_of_ble_eq_true rfl) rfl rfl rfl rfl rfl rfl fl_X11_42 (kX11_init 28 rfl) rfl ?_
  refine B_aload_n (n9 := 64) 0 (kX11_init 29 rfl) rfl rfl rfl ?_
  refine B_new (n9 := 67) (fs := [.null, .null, .int 0]) xf_X7 (by decide) cc_X11_46 it_X7 in_X7 (by decide) (Nat.le_of_ble_eq_true rfl) (Nat.le_of_ble_eq_true rfl) (kX11_init 30 rfl) rfl ?_
  refine B_dup (n9 := 68) (kX11_init 31 rfl) rfl rfl ?_
  refine B_aload_n (n9 := 69) 0 (kX11_init 32 rfl) rfl rfl rfl ?_
  refine B_get (n9 := 72) (v := .ref 1) xf_X11 rfl (by decide) (by decide) rfl fl_X11_12 (kX11_init 33 rfl) rfl ?_
  refine B_callI (n9 := 75) (As := [.ref 1]) (st := [.ref 40, .ref 0]) (C_X7_init_40 (fun k hk => lk_c (Nat.ne_of_lt (Nat.lt_of_lt_of_le (by decide) hk)) (ho k (Nat.le_trans (by decide) hk)))) (by decide) ml_X11_48 mi_X7 rfl (by decide) rfl (Nat.le_of_ble_eq_true rfl) (Nat.le_of_ble_eq_true rfl) (Nat.le_of_ble_eq_true rfl) (kX11_init 34 rfl) rfl ?_
  refine B_putF (n9 := 78) (o' := ((0, .inr (11, [.ref (ad g 1), .ref (ad g 7), .ref (ad g 16), .ref (ad g 28), .ref (ad g 36), .ref (ad g 40), .null, .null, .int 0, .int 0, .null, .null, .null, .null, .null, .null, .null, .null, .null, .int 0])) :: o')) xf_X11 rfl (by decide) (by decide) (Nat.le_of_ble_eq_true rfl) rfl rfl rfl rfl rfl rfl fl_X11_49 (kX11_init 35 rfl) rfl ?_
  refine B_aload_n (n9 := 79) 0 (kX11_init 36 rfl) rfl rfl rfl ?_
  refine B_new (n9 := 82) (fs := [.int 0]) xf_X5 (by decide) cc_X11_53 it_X5 in_X5 (by decide) (Nat.le_of_ble_eq_true rfl) (Nat.le_of_ble_eq_true rfl) (kX11_init 37 rfl) rfl ?_
  refine B_dup (n9 := 83) (kX11_init 38 rfl) rfl rfl ?_
  refine B_callIN (n9 := 86) (As := []) (st := [.ref 45, .ref 0]) (C_X5_init_45 (fun k hk => lk_c (Nat.ne_of_lt (Nat.lt_of_lt_of_le (by decide) hk)) (ho k (Nat.le_trans (by decide) hk)))) (by decide) nl_X11_55 mi_X5 rfl (by decide) rfl (Nat.le_of_ble_eq_true rfl) (Nat.le_of_ble_eq_true rfl) (Nat.le_of_ble_eq_true rfl) (kX11_init 39 rfl) rfl ?_
  refine B_putF (n9 := 89) (o' := ((0, .inr (11, [.ref (ad g 1), .ref (ad g 7), .ref (ad g 16), .ref (ad g 28), .ref (ad g 36), .ref (ad g 40), .ref (ad g 45), .null, .int 0, .int 0, .null, .null, .null, .null, .null, .null, .null, .null, .null, .int 0])) :: o')) xf_X11 rfl (by decide) (by decide) (Nat.le_of_ble_eq_true rfl) rfl rfl rfl rfl rfl rfl fl_X11_56 (kX11_init 40 rfl) rfl ?_
  refine B_aload_n (n9 := 90) 0 (kX11_init 41 rfl) rfl rfl rfl ?_
  refine B_bipush (n9 := 92) (v := 8) (kX11_init 42 rfl) rfl (by decide) ?_
  refine B_anew (n9 := 95) (t0 := 3) (N := 8) (by decide) rfl cc_X11_32 (by decide) (by decide) (by decide) (Nat.le_of_ble_eq_true rfl) (Nat.le_of_ble_eq_true rfl) (Nat.le_of_ble_eq_true rfl) (kX11_init 43 rfl) rfl ?_
  refine B_putF (n9 := 98) (o' := ((46, .inl (g.2.2.1 3, 8, .inr (.inr (.inr (.inr (fun _ => none)))))) :: (0, .inr (11, [.ref (ad g 1), .ref (ad g 7), .ref (ad g 16), .ref (ad g 28), .ref (ad g 36), .ref (ad g 40), .ref (ad g 45), .ref (ad g 46), .int 0, .int 0, .null, .null, .null, .null, .null, .null, .null, .null, .null, .int 0])) :: o')) xf_X11 rfl (by decide) (by decide) (Nat.le_of_ble_eq_true rfl) rfl rfl rfl rfl rfl rfl fl_X11_60 (kX11_init 44 rfl) rfl ?_
  refine B_iconst (n9 := 99) (v := 0) (kX11_init 45 rfl) rfl (by decide) ?_
  refine B_istore_n (n9 := 100) (L1 := [(1, .int 0), (0, .ref 0)]) (kX11_init 46 rfl) rfl rfl (Nat.le_of_ble_eq_true rfl) rfl ?_
  refine B_iload_n (n9 := 101) 0 (kX11_init 47 rfl) rfl rfl rfl ?_
  refine B_aload_n (n9 := 102) 1 (kX11_init 48 rfl) rfl rfl rfl ?_
  refine B_get (n9 := 105) (v := .ref 46) xf_X11 rfl (by decide) (by decide) rfl fl_X11_60 (kX11_init 49 rfl) rfl ?_
  refine B_alen (n9 := 106) (v := 8) (t0 := 3) (N := 8) rfl (by decide) rfl rfl (kX11_init 50 rfl) rfl ?_
  refine B_ge_f (n9 := 109) (tgt := 128) (by decide) (kX11_init 51 rfl) rfl rfl ?_
  refine B_aload_n (n9 := 110) 1 (kX11_init 52 rfl) rfl rfl rfl ?_
  refine B_get (n9 := 113) (v := .ref 46) xf_X11 rfl (by decide) (by decide) rfl fl_X11_60 (kX11_init 53 rfl) rfl ?_
  refine B_iload_n (n9 := 114) 0 (kX11_init 54 rfl) rfl rfl rfl ?_
  refine B_new (n9 := 117) (fs := [.int 0, .null, .null, .null, .int 0, .null, .null, .null, .null]) xf_X10 (by decide) cc_X11_32 it_X10 in_X10 (by decide) (Nat.le_of_ble_eq_true rfl) (Nat.le_of_ble_eq_true rfl) (kX11_init 55 rfl) rfl ?_
  refine B_dup (n9 := 118) (kX11_init 56 rfl) rfl rfl ?_
  refine B_callIN (n9 := 121) (As := []) (st := [.ref 47, .int 0, .ref 46]) (C_X10_init_47 (fun k hk => lk_c (Nat.ne_of_lt (Nat.lt_of_lt_of_le (by decide) hk)) (lk_c (Nat.ne_of_lt (Nat.lt_of_lt_of_le (by decide) hk)) (ho k (Nat.le_trans (by decide) hk))))) (by decide) nl_X11_34 mi_X10 rfl (by decide) rfl (Nat.le_of_ble_eq_true rfl) (Nat.le_of_ble_eq_true rfl) (Nat.le_of_ble_eq_true rfl) (kX11_init 57 rfl) rfl ?_
  refine B_aast (n9 := 122) (o' := ((46, .inl (g.2.2.1 3, 8, .inr (.inr (.inr (.inr (va_up (fun _ => none) (Int32.toNatClampNeg 0) (some (ad g 47)))))))) :: (0, .inr (11, [.ref (ad g 1), .ref (ad g 7), .ref (ad g 16), .ref (ad g 28), .ref (ad g 36), .ref (ad g 40), .ref (ad g 45), .ref (ad g 46), .int 0, .int 0, .null, .null, .null, .null, .null, .null, .null, .null, .null, .int 0])) :: o')) (r := (RX10, TX10, 9)) (ci := 10) rfl (by decide) (by decide) rfl ((cellA_no (lk_c (by decide) (lk_c (by decide) (ho 47 (by decide))))).trans (cellE_o rfl (by decide))) rfl (show ¬ ((0 : Int32) < 0 ∨ 8 ≤ (0 : Int32).toNatClampNeg) from by decide) rfl (kX11_init 58 rfl) rfl ?_
  refine B_iinc (n9 := 125) 0 (v := 1) (L1 := [(1, .int 1), (0, .ref 0)]) (kX11_init 59 rfl) rfl rfl (by decide) (Nat.le_of_ble_eq_true rfl) rfl ?_
  refine B_goto (tgt := 100) (kX11_init 60 rfl) rfl ?_
  refine B_iload_n (n9 := 101) 0 (kX11_init 47 rfl) rfl rfl rfl ?_
  refine B_aload_n (n9 := 102) 1 (kX11_init 48 rfl) rfl rfl rfl ?_
  refine B_get (n9 := 105) (v := .ref 46) xf_X11 rfl (by decide) (by decide) rfl fl_X11_60 (kX11_init 49 rfl) rfl ?_
  refine B_alen (n9 := 106) (v := 8) (t0 := 3) (N := 8) rfl (by decide) rfl rfl (kX11_init 50 rfl) rfl ?_
  refine B_ge_f (n9 := 109) (tgt := 128) (by decide) (kX11_init 51 rfl) rfl rfl ?_
  refine B_aload_n (n9 := 110) 1 (kX11_init 52 rfl) rfl rfl rfl ?_
  refine B_get (n9 := 113) (v := .ref 46) xf_X11 rfl (by decide) (by decide) rfl fl_X11_60 (kX11_init 53 rfl) rfl ?_
  refine B_iload_n (n9 := 114) 0 (kX11_init 54 rfl) rfl rfl rfl ?_
  refine B_new (n9 := 117) (fs := [.int 0, .null, .null, .null, .int 0, .null, .null, .null, .null]) xf_X10 (by decide) cc_X11_32 it_X10 in_X10 (by decide) (Nat.le_of_ble_eq_true rfl) (Nat.le_of_ble_eq_true rfl) (kX11_init 55 rfl) rfl ?_
  refine B_dup (n9 := 118) (kX11_init 56 rfl) rfl rfl ?_
  refine B_callIN (n9 := 121) (As := []) (st := [.ref 55, .int 1, .ref 46]) (C_X10_init_55 (fun k hk => lk_c (Nat.ne_of_lt (Nat.lt_of_lt_of_le (by decide) hk)) (lk_c (Nat.ne_of_lt (Nat.lt_of_lt_of_le (by decide) hk)) (ho k (Nat.le_trans (by decide) hk))))) (by decide) nl_X11_34 mi_X10 rfl (by decide) rfl (Nat.le_of_ble_eq_true rfl) (Nat.le_of_ble_eq_true rfl) (Nat.le_of_ble_eq_true rfl) (kX11_init 57 rfl) rfl ?_
  refine B_aast (n9 := 122) (o' := ((46, .inl (g.2.2.1 3, 8, .inr (.inr (.inr (.inr (va_up (va_up (fun _ => none) (Int32.toNatClampNeg 0) (some (ad g 47))) (Int32.toNatClampNeg 1) (some (ad g 55)))))))) :: (0, .inr (11, [.ref (ad g 1), .ref (ad g 7), .ref (ad g 16), .ref (ad g 28), .ref (ad g 36), .ref (ad g 40), .ref (ad g 45), .ref (ad g 46), .int 0, .int 0, .null, .null, .null, .null, .null, .null, .null, .null, .null, .int 0])) :: o')) (r := (RX10, TX10, 9)) (ci := 10) rfl (by decide) (by decide) rfl ((cellA_no (lk_c (by decide) (lk_c (by decide) (ho 55 (by decide))))).trans (cellE_o rfl (by decide))) rfl (show ¬ ((1 : Int32) < 0 ∨ 8 ≤ (1 : Int32).toNatClampNeg) from by decide) rfl (kX11_init 58 rfl) rfl ?_
  refine B_iinc (n9 := 125) 0 (v := 2) (L1 := [(1, .int 2), (0, .ref 0)]) (kX11_init 59 rfl) rfl rfl (by decide) (Nat.le_of_ble_eq_true rfl) rfl ?_
  refine B_goto (tgt := 100) (kX11_init 60 rfl) rfl ?_
  refine B_iload_n (n9 := 101) 0 (kX11_init 47 rfl) rfl rfl rfl ?_
  refine B_aload_n (n9 := 102) 1 (kX11_init 48 rfl) rfl rfl rfl ?_
  refine B_get (n9 := 105) (v := .ref 46) xf_X11 rfl (by decide) (by decide) rfl fl_X11_60 (kX11_init 49 rfl) rfl ?_
  refine B_alen (n9 := 106) (v := 8) (t0 := 3) (N := 8) rfl (by decide) rfl rfl (kX11_init 50 rfl) rfl ?_
  refine B_ge_f (n9 := 109) (tgt := 128) (by decide) (kX11_init 51 rfl) rfl rfl ?_
  refine B_aload_n (n9 := 110) 1 (kX11_init 52 rfl) rfl rfl rfl ?_
  refine B_get (n9 := 113) (v := .ref 46) xf_X11 rfl (by decide) (by decide) rfl fl_X11_60 (kX11_init 53 rfl) rfl ?_
  refine B_iload_n (n9 := 114) 0 (kX11_init 54 rfl) rfl rfl rfl ?_
  refine B_new (n9 := 117) (fs := [.int 0, .null, .null, .null, .int 0, .null, .null, .null, .null]) xf_X10 (by decide) cc_X11_32 it_X10 in_X10 (by decide) (Nat.le_of_ble_eq_true rfl) (Nat.le_of_ble_eq_true rfl) (kX11_init 55 rfl) rfl ?_
  refine B_dup (n9 := 118) (kX11_init 56 rfl) rfl rfl ?_
  refine B_callIN (n9 := 121) (As := []) (st := [.ref 63, .int 2, .ref 46]) (C_X10_init_63 (fun k hk => lk_c (Nat.ne_of_lt (Nat.lt_of_lt_of_le (by decide) hk)) (lk_c (Nat.ne_of_lt (Nat.lt_of_lt_of_le (by decide) hk)) (ho k (Nat.le_trans (by decide) hk))))) (by decide) nl_X11_34 mi_X10 rfl (by decide) rfl (Nat.le_of_ble_eq_true rfl) (Nat.le_of_ble_eq_true rfl) (Nat.le_of_ble_eq_true rfl) (kX11_init 57 rfl) rfl ?_
  refine B_aast (n9 := 122) (o' := ((46, .inl (g.2.2.1 3, 8, .inr (.inr (.inr (.inr (va_up (va_up (va_up (fun _ => none) (Int32.toNatClampNeg 0) (some (ad g 47))) (Int32.toNatClampNeg 1) (some (ad g 55))) (Int32.toNatClampNeg 2) (some (ad g 63)))))))) :: (0, .inr (11, [.ref (ad g 1), .ref (ad g 7), .ref (ad g 16), .ref (ad g 28), .ref (ad g 36), .ref (ad g 40), .ref (ad g 45), .ref (ad g 46), .int 0, .int 0, .null, .null, .null, .null, .null, .null, .null, .null, .null, .int 0])) :: o')) (r := (RX10, TX10, 9)) (ci := 10) rfl (by decide) (by decide) rfl ((cellA_no (lk_c (by decide) (lk_c (by decide) (ho 63 (by decide))))).trans (cellE_o rfl (by decide))) rfl (show ¬ ((2 : Int32) < 0 ∨ 8 ≤ (2 : Int32).toNatClampNeg) from by decide) rfl (kX11_init 58 rfl) rfl ?_
  refine B_iinc (n9 := 125) 0 (v := 3) (L1 := [(1, .int 3), (0, .ref 0)]) (kX11_init 59 rfl) rfl rfl (by decide) (Nat.le_of_ble_eq_true rfl) rfl ?_
  refine B_goto (tgt := 100) (kX11_init 60 rfl) rfl ?_
  refine B_iload_n (n9 := 101) 0 (kX11_init 47 rfl) rfl rfl rfl ?_
  refine B_aload_n (n9 := 102) 1 (kX11_init 48 rfl) rfl rfl rfl ?_
  refine B_get (n9 := 105) (v := .ref 46) xf_X11 rfl (by decide) (by decide) rfl fl_X11_60 (kX11_init 49 rfl) rfl ?_
  refine B_alen (n9 := 106) (v := 8) (t0 := 3) (N := 8) rfl (by decide) rfl rfl (kX11_init 50 rfl) rfl ?_
  refine B_ge_f (n9 := 109) (tgt := 128) (by decide) (kX11_init 51 rfl) rfl rfl ?_
  refine B_aload_n (n9 := 110) 1 (kX11_init 52 rfl) rfl rfl rfl ?_
  refine B_get (n9 := 113) (v := .ref 46) xf_X11 rfl (by decide) (by decide) rfl fl_X11_60 (kX11_init 53 rfl) rfl ?_
  refine B_iload_n (n9 := 114) 0 (kX11_init 54 rfl) rfl rfl rfl ?_
  refine B_new (n9 := 117) (fs := [.int 0, .null, .null, .null, .int 0, .null, .null, .null, .null]) xf_X10 (by decide) cc_X11_32 it_X10 in_X10 (by decide) (Nat.le_of_ble_eq_true rfl) (Nat.le_of_ble_eq_true rfl) (kX11_init 55 rfl) rfl ?_
  refine B_dup (n9 := 118) (kX11_init 56 rfl) rfl rfl ?_
  refine B_callIN (n9 := 121) (As := []) (st := [.ref 71, .int 3, .ref 46]) (C_X10_init_71 (fun k hk => lk_c (Nat.ne_of_lt (Nat.lt_of_lt_of_le (by decide) hk)) (lk_c (Nat.ne_of_lt (Nat.lt_of_lt_of_le (by decide) hk)) (ho k (Nat.le_trans (by decide) hk))))) (by decide) nl_X11_34 mi_X10 rfl (by decide) rfl (Nat.le_of_ble_eq_true rfl) (Nat.le_of_ble_eq_true rfl) (Nat.le_of_ble_eq_true rfl) (kX11_init 57 rfl) rfl ?_
  refine B_aast (n9 := 122) (o' := ((46, .inl (g.2.2.1 3, 8, .inr (.inr (.inr (.inr (va_up (va_up (va_up (va_up (fun _ => none) (Int32.toNatClampNeg 0) (some (ad g 47))) (Int32.toNatClampNeg 1) (some (ad g 55))) (Int32.toNatClampNeg 2) (some (ad g 63))) (Int32.toNatClampNeg 3) (some (ad g 71)))))))) :: (0, .inr (11, [.ref (ad g 1), .ref (ad g 7), .ref (ad g 16), .ref (ad g 28), .ref (ad g 36), .ref (ad g 40), .ref (ad g 45), .ref (ad g 46), .int 0, .int 0, .null, .null, .null, .null, .null, .null, .null, .null, .null, .int 0])) :: o')) (r := (RX10, TX10, 9)) (ci := 10) rfl (by decide) (by decide) rfl ((cellA_no (lk_c (by decide) (lk_c (by decide) (ho 71 (by decide))))).trans (cellE_o rfl (by decide))) rfl (show ¬ ((3 : Int32) < 0 ∨ 8 ≤ (3 : Int32).toNatClampNeg) from by decide) rfl (kX11_init 58 rfl) rfl ?_
  refine B_iinc (n9 := 125) 0 (v := 4) (L1 := [(1, .int 4), (0, .ref 0)]) (kX11_init 59 rfl) rfl rfl (by decide) (Nat.le_of_ble_eq_true rfl) rfl ?_
  refine B_goto (tgt := 100) (kX11_init 60 rfl) rfl ?_
  refine B_iload_n (n9 := 101) 0 (kX11_init 47 rfl) rfl rfl rfl ?_
  refine B_aload_n (n9 := 102) 1 (kX11_init 48 rfl) rfl rfl rfl ?_
  refine B_get (n9 := 105) (v := .ref 46) xf_X11 rfl (by decide) (by decide) rfl fl_X11_60 (kX11_init 49 rfl) rfl ?_
  refine B_alen (n9 := 106) (v := 8) (t0 := 3) (N := 8) rfl (by decide) rfl rfl (kX11_init 50 rfl) rfl ?_
  refine B_ge_f (n9 := 109) (tgt := 128) (by decide) (kX11_init 51 rfl) rfl rfl ?_
  refine B_aload_n (n9 := 110) 1 (kX11_init 52 rfl) rfl rfl rfl ?_
  refine B_get (n9 := 113) (v := .ref 46) xf_X11 rfl (by decide) (by decide) rfl fl_X11_60 (kX11_init 53 rfl) rfl ?_
  refine B_iload_n (n9 := 114) 0 (kX11_init 54 rfl) rfl rfl rfl ?_
  refine B_new (n9 := 117) (fs := [.int 0, .null, .null, .null, .int 0, .null, .null, .null, .null]) xf_X10 (by decide) cc_X11_32 it_X10 in_X10 (by decide) (Nat.le_of_ble_eq_true rfl) (Nat.le_of_ble_eq_true rfl) (kX11_init 55 rfl) rfl ?_
  refine B_dup (n9 := 118) (kX11_init 56 rfl) rfl rfl ?_
  refine B_callIN (n9 := 121) (As := []) (st := [.ref 79, .int 4, .ref 46]) (C_X10_init_79 (fun k hk => lk_c (Nat.ne_of_lt (Nat.lt_of_lt_of_le (by decide) hk)) (lk_c (Nat.ne_of_lt (Nat.lt_of_lt_of_le (by decide) hk)) (ho k (Nat.le_trans (by decide) hk))))) (by decide) nl_X11_34 mi_X10 rfl (by decide) rfl (Nat.le_of_ble_eq_true rfl) (Nat.le_of_ble_eq_true rfl) (Nat.le_of_ble_eq_true rfl) (kX11_init 57 rfl) rfl ?_
  refine B_aast (n9 := 122) (o' := ((46, .inl (g.2.2.1 3, 8, .inr (.inr (.inr (.inr (va_up (va_up (va_up (va_up (va_up (fun _ => none) (Int32.toNatClampNeg 0) (some (ad g 47))) (Int32.toNatClampNeg 1) (some (ad g 55))) (Int32.toNatClampNeg 2) (some (ad g 63))) (Int32.toNatClampNeg 3) (some (ad g 71))) (Int32.toNatClampNeg 4) (some (ad g 79)))))))) :: (0, .inr (11, [.ref (ad g 1), .ref (ad g 7), .ref (ad g 16), .ref (ad g 28), .ref (ad g 36), .ref (ad g 40), .ref (ad g 45), .ref (ad g 46), .int 0, .int 0, .null, .null, .null, .null, .null, .null, .null, .null, .null, .int 0])) :: o')) (r := (RX10, TX10, 9)) (ci := 10) rfl (by decide) (by decide) rfl ((cellA_no (lk_c (by decide) (lk_c (by decide) (ho 79 (by decide))))).trans (cellE_o rfl (by decide))) rfl (show ¬ ((4 : Int32) < 0 ∨ 8 ≤ (4 : Int32).toNatClampNeg) from by decide) rfl (kX11_init 58 rfl) rfl ?_
  refine B_iinc (n9 := 125) 0 (v := 5) (L1 := [(1, .int 5), (0, .ref 0)]) (kX11_init 59 rfl) rfl rfl (by decide) (Nat.le_of_ble_eq_true rfl) rfl ?_
  refine B_goto (tgt := 100) (kX11_init 60 rfl) rfl ?_
  refine B_iload_n (n9 := 101) 0 (kX11_init 47 rfl) rfl rfl rfl ?_
  refine B_aload_n (n9 := 102) 1 (kX11_init 48 rfl) rfl rfl rfl ?_
  refine B_get (n9 := 105) (v := .ref 46) xf_X11 rfl (by decide) (by decide) rfl fl_X11_60 (kX11_init 49 rfl) rfl ?_
  refine B_alen (n9 := 106) (v := 8) (t0 := 3) (N := 8) rfl (by decide) rfl rfl (kX11_init 50 rfl) rfl ?_
  refine B_ge_f (n9 := 109) (tgt := 128) (by decide) (kX11_init 51 rfl) rfl rfl ?_
  refine B_aload_n (n9 := 110) 1 (kX11_init 52 rfl) rfl rfl rfl ?_
  refine B_get (n9 := 113) (v := .ref 46) xf_X11 rfl (by decide) (by decide) rfl fl_X11_60 (kX11_init 53 rfl) rfl ?_
  refine B_iload_n (n9 := 114) 0 (kX11_init 54 rfl) rfl rfl rfl ?_
  refine B_new (n9 := 117) (fs := [.int 0, .null, .null, .null, .int 0, .null, .null, .null, .null]) xf_X10 (by decide) cc_X11_32 it_X10 in_X10 (by decide) (Nat.le_of_ble_eq_true rfl) (Nat.le_of_ble_eq_true rfl) (kX11_init 55 rfl) rfl ?_
  refine B_dup (n9 := 118) (kX11_init 56 rfl) rfl rfl ?_
  refine B_callIN (n9 := 121) (As := []) (st := [.ref 87, .int 5, .ref 46]) (C_X10_init_87 (fun k hk => lk_c (Nat.ne_of_lt (Nat.lt_of_lt_of_le (by decide) hk)) (lk_c (Nat.ne_of_lt (Nat.lt_of_lt_of_le (by decide) hk)) (ho k (Nat.le_trans (by decide) hk))))) (by decide) nl_X11_34 mi_X10 rfl (by decide) rfl (Nat.le_of_ble_eq_true rfl) (Nat.le_of_ble_eq_true rfl) (Nat.le_of_ble_eq_true rfl) (kX11_init 57 rfl) rfl ?_
  refine B_aast (n9 := 122) (o' := ((46, .inl (g.2.2.1 3, 8, .inr (.inr (.inr (.inr (va_up (va_up (va_up (va_up (va_up (va_up (fun _ => none) (Int32.toNatClampNeg 0) (some (ad g 47))) (Int32.toNatClampNeg 1) (some (ad g 55))) (Int32.toNatClampNeg 2) (some (ad g 63))) (Int32.toNatClampNeg 3) (some (ad g 71))) (Int32.toNatClampNeg 4) (some (ad g 79))) (Int32.toNatClampNeg 5) (some (ad g 87)))))))) :: (0, .inr (11, [.ref (ad g 1), .ref (ad g 7), .ref (ad g 16), .ref (ad g 28), .ref (ad g 36), .ref (ad g 40), .ref (ad g 45), .ref (ad g 46), .int 0, .int 0, .null, .null, .null, .null, .null, .null, .null, .null, .null, .int 0])) :: o')) (r := (RX10, TX10, 9)) (ci := 10) rfl (by decide) (by decide) rfl ((cellA_no (lk_c (by decide) (lk_c (by decide) (ho 87 (by decide))))).trans (cellE_o rfl (by decide))) rfl (show ¬ ((5 : Int32) < 0 ∨ 8 ≤ (5 : Int32).toNatClampNeg) from by decide) rfl (kX11_init 58 rfl) rfl ?_
  refine B_iinc (n9 := 125) 0 (v := 6) (L1 := [(1, .int 6), (0, .ref 0)]) (kX11_init 59 rfl) rfl rfl (by decide) (Nat.le_of_ble_eq_true rfl) rfl ?_
  refine B_goto (tgt := 100) (kX11_init 60 rfl) rfl ?_
  refine B_iload_n (n9 := 101) 0 (kX11_init 47 rfl) rfl rfl rfl ?_
  refine B_aload_n (n9 := 102) 1 (kX11_init 48 rfl) rfl rfl rfl ?_
  refine B_get (n9 := 105) (v := .ref 46) xf_X11 rfl (by decide) (by decide) rfl fl_X11_60 (kX11_init 49 rfl) rfl ?_
  refine B_alen (n9 := 106) (v := 8) (t0 := 3) (N := 8) rfl (by decide) rfl rfl (kX11_init 50 rfl) rfl ?_
  refine B_ge_f (n9 := 109) (tgt := 128) (by decide) (kX11_init 51 rfl) rfl rfl ?_
  refine B_aload_n (n9 := 110) 1 (kX11_init 52 rfl) rfl rfl rfl ?_
  refine B_get (n9 := 113) (v := .ref 46) xf_X11 rfl (by decide) (by decide) rfl fl_X11_60 (kX11_init 53 rfl) rfl ?_
  refine B_iload_n (n9 := 114) 0 (kX11_init 54 rfl) rfl rfl rfl ?_
  refine B_new (n9 := 117) (fs := [.int 0, .null, .null, .null, .int 0, .null, .null, .null, .null]) xf_X10 (by decide) cc_X11_32 it_X10 in_X10 (by decide) (Nat.le_of_ble_eq_true rfl) (Nat.le_of_ble_eq_true rfl) (kX11_init 55 rfl) rfl ?_
  refine B_dup (n9 := 118) (kX11_init 56 rfl) rfl rfl ?_
  refine B_callIN (n9 := 121) (As := []) (st := [.ref 95, .int 6, .ref 46]) (C_X10_init_95 (fun k hk => lk_c (Nat.ne_of_lt (Nat.lt_of_lt_of_le (by decide) hk)) (lk_c (Nat.ne_of_lt (Nat.lt_of_lt_of_le (by decide) hk)) (ho k (Nat.le_trans (by decide) hk))))) (by decide) nl_X11_34 mi_X10 rfl (by decide) rfl (Nat.le_of_ble_eq_true rfl) (Nat.le_of_ble_eq_true rfl) (Nat.le_of_ble_eq_true rfl) (kX11_init 57 rfl) rfl ?_
  refine B_aast (n9 := 122) (o' := ((46, .inl (g.2.2.1 3, 8, .inr (.inr (.inr (.inr (va_up (va_up (va_up (va_up (va_up (va_up (va_up (fun _ => none) (Int32.toNatClampNeg 0) (some (ad g 47))) (Int32.toNatClampNeg 1) (some (ad g 55))) (Int32.toNatClampNeg 2) (some (ad g 63))) (Int32.toNatClampNeg 3) (some (ad g 71))) (Int32.toNatClampNeg 4) (some (ad g 79))) (Int32.toNatClampNeg 5) (some (ad g 87))) (Int32.toNatClampNeg 6) (some (ad g 95)))))))) :: (0, .inr (11, [.ref (ad g 1), .ref (ad g 7), .ref (ad g 16), .ref (ad g 28), .ref (ad g 36), .ref (ad g 40), .ref (ad g 45), .ref (ad g 46), .int 0, .int 0, .null, .null, .null, .null, .null, .null, .null, .null, .null, .int 0])) :: o')) (r := (RX10, TX10, 9)) (ci := 10) rfl (by decide) (by decide) rfl ((cellA_no (lk_c (by decide) (lk_c (by decide) (ho 95 (by decide))))).trans (cellE_o rfl (by decide))) rfl (show ¬ ((6 : Int32) < 0 ∨ 8 ≤ (6 : Int32).toNatClampNeg) from by decide) rfl (kX11_init 58 rfl) rfl ?_
  refine B_iinc (n9 := 125) 0 (v := 7) (L1 := [(1, .int 7), (0, .ref 0)]) (kX11_init 59 rfl) rfl rfl (by decide) (Nat.le_of_ble_eq_true rfl) rfl ?_
  refine B_goto (tgt := 100) (kX11_init 60 rfl) rfl ?_
  refine B_iload_n (n9 := 101) 0 (kX11_init 47 rfl) rfl rfl rfl ?_
  refine B_aload_n (n9 := 102) 1 (kX11_init 48 rfl) rfl rfl rfl ?_
  refine B_get (n9 := 105) (v := .ref 46) xf_X11 rfl (by decide) (by decide) rfl fl_X11_60 (kX11_init 49 rfl) rfl ?_
  refine B_alen (n9 := 106) (v := 8) (t0 := 3) (N := 8) rfl (by decide) rfl rfl (kX11_init 50 rfl) rfl ?_
  refine B_ge_f (n9 := 109) (tgt := 128) (by decide) (kX11_init 51 rfl) rfl rfl ?_
  refine B_aload_n (n9 := 110) 1 (kX11_init 52 rfl) rfl rfl rfl ?_
  refine B_get (n9 := 113) (v := .ref 46) xf_X11 rfl (by decide) (by decide) rfl fl_X11_60 (kX11_init 53 rfl) rfl ?_
  refine B_iload_n (n9 := 114) 0 (kX11_init 54 rfl) rfl rfl rfl ?_
  refine B_new (n9 := 117) (fs := [.int 0, .null, .null, .null, .int 0, .null, .null, .null, .null]) xf_X10 (by decide) cc_X11_32 it_X10 in_X10 (by decide) (Nat.le_of_ble_eq_true rfl) (Nat.le_of_ble_eq_true rfl) (kX11_init 55 rfl) rfl ?_
  refine B_dup (n9 := 118) (kX11_init 56 rfl) rfl rfl ?_
  refine B_callIN (n9 := 121) (As := []) (st := [.ref 103, .int 7, .ref 46]) (C_X10_init_103 (fun k hk => lk_c (Nat.ne_of_lt (Nat.lt_of_lt_of_le (by decide) hk)) (lk_c (Nat.ne_of_lt (Nat.lt_of_lt_of_le (by decide) hk)) (ho k (Nat.le_trans (by decide) hk))))) (by decide) nl_X11_34 mi_X10 rfl (by decide) rfl (Nat.le_of_ble_eq_true rfl) (Nat.le_of_ble_eq_true rfl) (Nat.le_of_ble_eq_true rfl) (kX11_init 57 rfl) rfl ?_
  refine B_aast (n9 := 122) (o' := ((46, .inl (g.2.2.1 3, 8, .inr (.inr (.inr (.inr (va_up (va_up (va_up (va_up (va_up (va_up (va_up (va_up (fun _ => none) (Int32.toNatClampNeg 0) (some (ad g 47))) (Int32.toNatClampNeg 1) (some (ad g 55))) (Int32.toNatClampNeg 2) (some (ad g 63))) (Int32.toNatClampNeg 3) (some (ad g 71))) (Int32.toNatClampNeg 4) (some (ad g 79))) (Int32.toNatClampNeg 5) (some (ad g 87))) (Int32.toNatClampNeg 6) (some (ad g 95))) (Int32.toNatClampNeg 7) (some (ad g 103)))))))) :: (0, .inr (11, [.ref (ad g 1), .ref (ad g 7), .ref (ad g 16), .ref (ad g 28), .ref (ad g 36), .ref (ad g 40), .ref (ad g 45), .ref (ad g 46), .int 0, .int 0, .null, .null, .null, .null, .null, .null, .null, .null, .null, .int 0])) :: o')) (r := (RX10, TX10, 9)) (ci := 10) rfl (by decide) (by decide) rfl ((cellA_no (lk_c (by decide) (lk_c (by decide) (ho 103 (by decide))))).trans (cellE_o rfl (by decide))) rfl (show ¬ ((7 : Int32) < 0 ∨ 8 ≤ (7 : Int32).toNatClampNeg) from by decide) rfl (kX11_init 58 rfl) rfl ?_
  refine B_iinc (n9 := 125) 0 (v := 8) (L1 := [(1, .int 8), (0, .ref 0)]) (kX11_init 59 rfl) rfl rfl (by decide) (Nat.le_of_ble_eq_true rfl) rfl ?_
  refine B_goto (tgt := 100) (kX11_init 60 rfl) rfl ?_
  refine B_iload_n (n9 := 101) 0 (kX11_init 47 rfl) rfl rfl rfl ?_
  refine B_aload_n (n9 := 102) 1 (kX11_init 48 rfl) rfl rfl rfl ?_
  refine B_get (n9 := 105) (v := .ref 46) xf_X11 rfl (by decide) (by decide) rfl fl_X11_60 (kX11_init 49 rfl) rfl ?_
  refine B_alen (n9 := 106) (v := 8) (t0 := 3) (N := 8) rfl (by decide) rfl rfl (kX11_init 50 rfl) rfl ?_
  refine B_ge_t (tgt := 128) (by decide) (kX11_init 51 rfl) rfl ?_
  refine B_aload_n (n9 := 129) 1 (kX11_init 61 rfl) rfl rfl rfl ?_
  refine B_iconst (n9 := 130) (v := 2) (kX11_init 62 rfl) rfl (by decide) ?_
  refine B_anew (n9 := 133) (t0 := 4) (N := 2) (by decide) rfl cc_X11_16 (by decide) (by decide) (by decide) (Nat.le_of_ble_eq_true rfl) (Nat.le_of_ble_eq_true rfl) (Nat.le_of_ble_eq_true rfl) (kX11_init 63 rfl) rfl ?_
  refine B_putF (n9 := 136) (o' := ((111, .inl (g.2.2.1 4, 2, .inr (.inr (.inr (.inr (fun _ => none)))))) :: (46, .inl (g.2.2.1 3, 8, .inr (.inr (.inr (.inr (va_up (va_up (va_up (va_up (va_up (va_up (va_up (va_up (fun _ => none) (Int32.toNatClampNeg 0) (some (ad g 47))) (Int32.toNatClampNeg 1) (some (ad g 55))) (Int32.toNatClampNeg 2) (some (ad g 63))) (Int32.toNatClampNeg 3) (some (ad g 71))) (Int32.toNatClampNeg 4) (some (ad g 79))) (Int32.toNatClampNeg 5) (some (ad g 87))) (Int32.toNatClampNeg 6) (some (ad g 95))) (Int32.toNatClampNeg 7) (some (ad g 103)))))))) :: (0, .inr (11, [.ref (ad g 1), .ref (ad g 7), .ref (ad g 16), .ref (ad g 28), .ref (ad g 36), .ref (ad g 40), .ref (ad g 45), .ref (ad g 46), .int 0, .int 0, .ref (ad g 111), .null, .null, .null, .null, .null, .null, .null, .null, .int 0])) :: o')) xf_X11 rfl (by decide) (by decide) (Nat.le_of_ble_eq_true rfl) rfl rfl rfl rfl rfl rfl fl_X11_64 (kX11_init 64 rfl) rfl ?_
  refine B_aload_n (n9 := 137) 1 (kX11_init 65 rfl) rfl rfl rfl ?_
  refine B_iconst (n9 := 138) (v := 2) (kX11_init 66 rfl) rfl (by decide) ?_
  refine B_anew (n9 := 141) (t0 := 3) (N := 2) (by decide) rfl cc_X11_32 (by decide) (by decide) (by decide) (Nat.le_of_ble_eq_true rfl) (Nat.le_of_ble_eq_true rfl) (Nat.le_of_ble_eq_true rfl) (kX11_init 67 rfl) rfl ?_
  refine B_putF (n9 := 144) (o' := ((112, .inl (g.2.2.1 3, 2, .inr (.inr (.inr (.inr (fun _ => none)))))) :: (111, .inl (g.2.2.1 4, 2, .inr (.inr (.inr (.inr (fun _ => none)))))) :: (46, .inl (g.2.2.1 3, 8, .inr (.inr (.inr (.inr (va_up (va_up (va_up (va_up (va_up (va_up (va_up (va_up (fun _ => none) (Int32.toNatClampNeg 0) (some (ad g 47))) (Int32.toNatClampNeg 1) (some (ad g 55))) (Int32.toNatClampNeg 2) (some (ad g 63))) (Int32.toNatClampNeg 3) (some (ad g 71))) (Int32.toNatClampNeg 4) (some (ad g 79))) (Int32.toNatClampNeg 5) (some (ad g 87))) (Int32.toNatClampNeg 6) (some (ad g 95))) (Int32.toNatClampNeg 7) (some (ad g 103)))))))) :: (0, .inr (11, [.ref (ad g 1), .ref (ad g 7), .ref (ad g 16), .ref (ad g 28), .ref (ad g 36), .ref (ad g 40), .ref (ad g 45), .ref (ad g 46), .int 0, .int 0, .ref (ad g 111), .ref (ad g 112), .null, .null, .null, .null, .null, .null, .null, .int 0])) :: o')) xf_X11 rfl (by decide) (by decide) (Nat.le_of_ble_eq_true rfl) rfl rfl rfl rfl rfl rfl fl_X11_68 (kX11_init 68 rfl) rfl ?_
  refine B_aload_n (n9 := 145) 1 (kX11_init 69 rfl) rfl rfl rfl ?_
  refine B_iconst (n9 := 146) (v := 2) (kX11_init 70 rfl) rfl (by decide) ?_
  refine B_anew (n9 := 149) (t0 := 5) (N := 2) (by decide) rfl cc_X11_39 (by decide) (by decide) (by decide) (Nat.le_of_ble_eq_true rfl) (Nat.le_of_ble_eq_true rfl) (Nat.le_of_ble_eq_true rfl) (kX11_init 71 rfl) rfl ?_
  refine B_putF (n9 := 152) (o' := ((113, .inl (g.2.2.1 5, 2, .inr (.inr (.inr (.inr (fun _ => none)))))) :: (112, .inl (g.2.2.1 3, 2, .inr (.inr (.inr (.inr (fun _ => none)))))) :: (111, .inl (g.2.2.1 4, 2, .inr (.inr (.inr (.inr (fun _ => none)))))) :: (46, .inl (g.2.2.1 3, 8, .inr (.inr (.inr (.inr (va_up (va_up (va_up (va_up (va_up (va_up (va_up (va_up (fun _ => none) (Int32.toNatClampNeg 0) (some (ad g 47))) (Int32.toNatClampNeg 1) (some (ad g 55))) (Int32.toNatClampNeg 2) (some (ad g 63))) (Int32.toNatClampNeg 3) (some (ad g 71))) (Int32.toNatClampNeg 4) (some (ad g 79))) (Int32.toNatClampNeg 5) (some (ad g 87))) (Int32.toNatClampNeg 6) (some (ad g 95))) (Int32.toNatClampNeg 7) (some (ad g 103)))))))) :: (0, .inr (11, [.ref (ad g 1), .ref (ad g 7), .ref (ad g 16), .ref (ad g 28), .ref (ad g 36), .ref (ad g 40), .ref (ad g 45), .ref (ad g 46), .int 0, .int 0, .ref (ad g 111), .ref (ad g 112), .ref (ad g 113), .null, .null, .null, .null, .null, .null, .int 0])) :: o')) xf_X11 rfl (by decide) (by decide) (Nat.le_of_ble_eq_true rfl) rfl rfl rfl rfl rfl rfl fl_X11_71 (kX11_init 72 rfl) rfl ?_
  refine B_iconst (n9 := 153) (v := 0) (kX11_init 73 rfl) rfl (by decide) ?_
  refine B_istore_n (n9 := 154) (L1 := [(1, .int 0), (0, .ref 0)]) (kX11_init 74 rfl) rfl rfl (Nat.le_of_ble_eq_true rfl) rfl ?_
  refine B_iload_n (n9 := 155) 0 (kX11_init 75 rfl) rfl rfl rfl ?_
  refine B_aload_n (n9 := 156) 1 (kX11_init 76 rfl) rfl rfl rfl ?_
  refine B_get (n9 := 159) (v := .ref 111) xf_X11 rfl (by decide) (by decide) rfl fl_X11_64 (kX11_init 77 rfl) rfl ?_
  refine B_alen (n9 := 160) (v := 2) (t0 := 4) (N := 2) rfl (by decide) rfl rfl (kX11_init 78 rfl) rfl ?_
  refine B_ge_f (n9 := 163) (tgt := 226) (by decide) (kX11_init 79 rfl) rfl rfl ?_
  refine B_iload_n (n9 := 164) 0 (kX11_init 80 rfl) rfl rfl rfl ?_
  refine B_aload_n (n9 := 165) 1 (kX11_init 81 rfl) rfl rfl rfl ?_
  refine B_get (n9 := 168) (v := .ref 112) xf_X11 rfl (by decide) (by decide) rfl fl_X11_68 (kX11_init 82 rfl) rfl ?_
  refine B_alen (n9 := 169) (v := 2) (t0 := 3) (N := 2) rfl (by decide) rfl rfl (kX11_init 83 rfl) rfl ?_
  refine B_ge_f (n9 := 172) (tgt := 226) (by decide) (kX11_init 84 rfl) rfl rfl ?_
  refine B_iload_n (n9 := 173) 0 (kX11_init 85 rfl) rfl rfl rfl ?_
  refine B_aload_n (n9 := 174) 1 (kX11_init 86 rfl) rfl rfl rfl ?_
  refine B_get (n9 := 177) (v := .ref 113) xf_X11 rfl (by decide) (by decide) rfl fl_X11_71 (kX11_init 87 rfl) rfl ?_
  refine B_alen (n9 := 178) (v := 2) (t0 := 5) (N := 2) rfl (by decide) rfl rfl (kX11_init 88 rfl) rfl ?_
  refine B_ge_f (n9 := 181) (tgt := 226) (by decide) (kX11_init 89 rfl) rfl rfl ?_
  refine B_aload_n (n9 := 182) 1 (kX11_init 90 rfl) rfl rfl rfl ?_
  refine B_get (n9 := 185) (v := .ref 111) xf_X11 rfl (by decide) (by decide) rfl fl_X11_64 (kX11_init 91 rfl) rfl ?_
  refine B_iload_n (n9 := 186) 0 (kX11_init 92 rfl) rfl rfl rfl ?_
  refine B_new (n9 := 189) (fs := [.null, .null, .null, .null, .null, .null, .null, .null]) xf_X2 (by decide) cc_X11_16 it_X2 in_X2 (by decide) (Nat.le_of_ble_eq_true rfl) (Nat.le_of_ble_eq_true rfl) (kX11_init 93 rfl) rfl ?_
  refine B_dup (n9 := 190) (kX11_init 94 rfl) rfl rfl ?_
  refine B_callIN (n9 := 193) (As := []) (st := [.ref 114, .int 0, .ref 111]) (C_X2_init_114 (fun k hk => lk_c (Nat.ne_of_lt (Nat.lt_of_lt_of_le (by decide) hk)) (lk_c (Nat.ne_of_lt (Nat.lt_of_lt_of_le (by decide) hk)) (lk_c (Nat.ne_of_lt (Nat.lt_of_lt_of_le (by decide) hk)) (lk_c (Nat.ne_of_lt (Nat.lt_of_lt_of_le (by decide) hk)) (lk_c (Nat.ne_of_lt (Nat.lt_of_lt_of_le (by decide) hk)) (ho k (Nat.le_trans (by decide) hk)))))))) (by decide) nl_X11_18 mi_X2 rfl (by decide) rfl (Nat.le_of_ble_eq_true rfl) (Nat.le_of_ble_eq_true rfl) (Nat.le_of_ble_eq_true rfl) (kX11_init 95 rfl) rfl ?_
  refine B_aast (n9 := 194) (o' := ((113, .inl (g.2.2.1 5, 2, .inr (.inr (.inr (.inr (fun _ => none)))))) :: (112, .inl (g.2.2.1 3, 2, .inr (.inr (.inr (.inr (fun _ => none)))))) :: (111, .inl (g.2.2.1 4, 2, .inr (.inr (.inr (.inr (va_up (fun _ => none) (Int32.toNatClampNeg 0) (some (ad g 114)))))))) :: (46, .inl (g.2.2.1 3, 8, .inr (.inr (.inr (.inr (va_up (va_up (va_up (va_up (va_up (va_up (va_up (va_up (fun _ => none) (Int32.toNatClampNeg 0) (some (ad g 47))) (Int32.toNatClampNeg 1) (some (ad g 55))) (Int32.toNatClampNeg 2) (some (ad g 63))) (Int32.toNatClampNeg 3) (some (ad g 71))) (Int32.toNatClampNeg 4) (some (ad g 79))) (Int32.toNatClampNeg 5) (some (ad g 87))) (Int32.toNatClampNeg 6) (some (ad g 95))) (Int32.toNatClampNeg 7) (some (ad g 103)))))))) :: (0, .inr (11, [.ref (ad g 1), .ref (ad g 7), .ref (ad g 16), .ref (ad g 28), .ref (ad g 36), .ref (ad g 40), .ref (ad g 45), .ref (ad g 46), .int 0, .int 0, .ref (ad g 111), .ref (ad g 112), .ref (ad g 113), .null, .null, .null, .null, .null, .null, .int 0])) :: o')) (r := (RX2, TX2, 8)) (ci := 2) rfl (by decide) (by decide) rfl ((cellA_no (lk_c (by decide) (lk_c (by decide) (lk_c (by decide) (lk_c (by decide) (lk_c (by decide) (ho 114 (by decide)))))))).trans (cellE_o rfl (by decide))) rfl (show ¬ ((0 : Int32) < 0 ∨ 2 ≤ (0 : Int32).toNatClampNeg) from by decide) rfl (kX11_init 96 rfl) rfl ?_
  refine B_aload_n (n9 := 195) 1 (kX11_init 97 rfl) rfl rfl rfl ?_
  refine B_get (n9 := 198) (v := .ref 112) xf_X11 rfl (by decide) (by decide) rfl fl_X11_68 (kX11_init 98 rfl) rfl ?_
  refine B_iload_n (n9 := 199) 0 (kX11_init 99 rfl) rfl rfl rfl ?_
  refine B_new (n9 := 202) (fs := [.int 0, .null, .null, .null, .int 0, .null, .null, .null, .null]) xf_X10 (by decide) cc_X11_32 it_X10 in_X10 (by decide) (Nat.le_of_ble_eq_true rfl) (Nat.le_of_ble_eq_true rfl) (kX11_init_1 0 rfl) rfl ?_
  refine B_dup (n9 := 203) (kX11_init_1 1 rfl) rfl rfl ?_
  refine B_callIN (n9 := 206) (As := []) (st := [.ref 123, .int 0, .ref 112]) (C_X10_init_123 (fun k hk => lk_c (Nat.ne_of_lt (Nat.lt_of_lt_of_le (by decide) hk)) (lk_c (Nat.ne_of_lt (Nat.lt_of_lt_of_le (by decide) hk)) (lk_c (Nat.ne_of_lt (Nat.lt_of_lt_of_le (by decide) hk)) (lk_c (Nat.ne_of_lt (Nat.lt_of_lt_of_le (by decide) hk)) (lk_c (Nat.ne_of_lt (Nat.lt_of_lt_of_le (by decide) hk)) (ho k (Nat.le_trans (by decide) hk)))))))) (by decide) nl_X11_34 mi_X10 rfl (by decide) rfl (Nat.le_of_ble_eq_true rfl) (Nat.le_of_ble_eq_true rfl) (Nat.le_of_ble_eq_true rfl) (kX11_init_1 2 rfl) rfl ?_
  refine B_aast (n9 := 207) (o' := ((113, .inl (g.2.2.1 5, 2, .inr (.inr (.inr (.inr (fun _ => none)))))) :: (112, .inl (g.2.2.1 3, 2, .inr (.inr (.inr (.inr (va_up (fun _ => none) (Int32.toNatClampNeg 0) (some (ad g 123)))))))) :: (111, .inl (g.2.2.1 4, 2, .inr (.inr (.inr (.inr (va_up (fun _ => none) (Int32.toNatClampNeg 0) (some (ad g 114)))))))) :: (46, .inl (g.2.2.1 3, 8, .inr (.inr (.inr (.inr (va_up (va_up (va_up (va_up (va_up (va_up (va_up (va_up (fun _ => none) (Int32.toNatClampNeg 0) (some (ad g 47))) (Int32.toNatClampNeg 1) (some (ad g 55))) (Int32.toNatClampNeg 2) (some (ad g 63))) (Int32.toNatClampNeg 3) (some (ad g 71))) (Int32.toNatClampNeg 4) (some (ad g 79))) (Int32.toNatClampNeg 5) (some (ad g 87))) (Int32.toNatClampNeg 6) (some (ad g 95))) (Int32.toNatClampNeg 7) (some (ad g 103)))))))) :: (0, .inr (11, [.ref (ad g 1), .ref (ad g 7), .ref (ad g 16), .ref (ad g 28), .ref (ad g 36), .ref (ad g 40), .ref (ad g 45), .ref (ad g 46), .int 0, .int 0, .ref (ad g 111), .ref (ad g 112), .ref (ad g 113), .null, .null, .null, .null, .null, .null, .int 0])) :: o')) (r := (RX10, TX10, 9)) (ci := 10) rfl (by decide) (by decide) rfl ((cellA_no (lk_c (by decide) (lk_c (by decide) (lk_c (by decide) (lk_c (by decide) (lk_c (by decide) (ho 123 (by decide)))))))).trans (cellE_o rfl (by decide))) rfl (show ¬ ((0 : Int32) < 0 ∨ 2 ≤ (0 : Int32).toNatClampNeg) from by decide) rfl (kX11_init_1 3 rfl) rfl ?_
  refine B_aload_n (n9 := 208) 1 (kX11_init_1 4 rfl) rfl rfl rfl ?_
  refine B_get (n9 := 211) (v := .ref 113) xf_X11 rfl (by decide) (by decide) rfl fl_X11_71 (kX11_init_1 5 rfl) rfl ?_
  refine B_iload_n (n9 := 212) 0 (kX11_init_1 6 rfl) rfl rfl rfl ?_
  refine B_new (n9 := 215) (fs := [.null, .null, .null, .int 0]) xf_X6 (by decide) cc_X11_39 it_X6 in_X6 (by decide) (Nat.le_of_ble_eq_true rfl) (Nat.le_of_ble_eq_true rfl) (kX11_init_1 7 rfl) rfl ?_
  refine B_dup (n9 := 216) (kX11_init_1 8 rfl) rfl rfl ?_
  refine B_callIN (n9 := 219) (As := []) (st := [.ref 131, .int 0, .ref 113]) (C_X6_init_131 (fun k hk => lk_c (Nat.ne_of_lt (Nat.lt_of_lt_of_le (by decide) hk)) (lk_c (Nat.ne_of_lt (Nat.lt_of_lt_of_le (by decide) hk)) (lk_c (Nat.ne_of_lt (Nat.lt_of_lt_of_le (by decide) hk)) (lk_c (Nat.ne_of_lt (Nat.lt_of_lt_of_le (by decide) hk)) (lk_c (Nat.ne_of_lt (Nat.lt_of_lt_of_le (by decide) hk)) (ho k (Nat.le_trans (by decide) hk)))))))) (by decide) nl_X11_41 mi_X6 rfl (by decide) rfl (Nat.le_of_ble_eq_true rfl) (Nat.le_of_ble_eq_true rfl) (Nat.le_of_ble_eq_true rfl) (kX11_init_1 9 rfl) rfl ?_
  refine B_aast (n9 := 220) (o' := ((113, .inl (g.2.2.1 5, 2, .inr (.inr (.inr (.inr (va_up (fun _ => none) (Int32.toNatClampNeg 0) (some (ad g 131)))))))) :: (112, .inl (g.2.2.1 3, 2, .inr (.inr (.inr (.inr (va_up (fun _ => none) (Int32.toNatClampNeg 0) (some (ad g 123)))))))) :: (111, .inl (g.2.2.1 4, 2, .inr (.inr (.inr (.inr (va_up (fun _ => none) (Int32.toNatClampNeg 0) (some (ad g 114)))))))) :: (46, .inl (g.2.2.1 3, 8, .inr (.inr (.inr (.inr (va_up (va_up (va_up (va_up (va_up (va_up (va_up (va_up (fun _ => none) (Int32.toNatClampNeg 0) (some (ad g 47))) (Int32.toNatClampNeg 1) (some (ad g 55))) (Int32.toNatClampNeg 2) (some (ad g 63))) (Int32.toNatClampNeg 3) (some (ad g 71))) (Int32.toNatClampNeg 4) (some (ad g 79))) (Int32.toNatClampNeg 5) (some (ad g 87))) (Int32.toNatClampNeg 6) (some (ad g 95))) (Int32.toNatClampNeg 7) (some (ad g 103)))))))) :: (0, .inr (11, [.ref (ad g 1), .ref (ad g 7), .ref (ad g 16), .ref (ad g 28), .ref (ad g 36), .ref (ad g 40), .ref (ad g 45), .ref (ad g 46), .int 0, .int 0, .ref (ad g 111), .ref (ad g 112), .ref (ad g 113), .null, .null, .null, .null, .null, .null, .int 0])) :: o')) (r := (RX6, TX6, 4)) (ci := 6) rfl (by decide) (by decide) rfl ((cellA_no (lk_c (by decide) (lk_c (by decide) (lk_c (by decide) (lk_c (by decide) (lk_c (by decide) (ho 131 (by decide)))))))).trans (cellE_o rfl (by decide))) rfl (show ¬ ((0 : Int32) < 0 ∨ 2 ≤ (0 : Int32).toNatClampNeg) from by decide) rfl (kX11_init_1 10 rfl) rfl ?_
  refine B_iinc (n9 := 223) 0 (v := 1) (L1 := [(1, .int 1), (0, .ref 0)]) (kX11_init_1 11 rfl) rfl rfl (by decide) (Nat.le_of_ble_eq_true rfl) rfl ?_
  refine B_goto (tgt := 154) (kX11_init_1 12 rfl) rfl ?_
  refine B_iload_n (n9 := 155) 0 (kX11_init 75 rfl) rfl rfl rfl ?_
  refine B_aload_n (n9 := 156) 1 (kX11_init 76 rfl) rfl rfl rfl ?_
  refine B_get (n9 := 159) (v := .ref 111) xf_X11 rfl (by decide) (by decide) rfl fl_X11_64 (kX11_init 77 rfl) rfl ?_
  refine B_alen (n9 := 160) (v := 2) (t0 := 4) (N := 2) rfl (by decide) rfl rfl (kX11_init 78 rfl) rfl ?_
  refine B_ge_f (n9 := 163) (tgt := 226) (by decide) (kX11_init 79 rfl) rfl rfl ?_
  refine B_iload_n (n9 := 164) 0 (kX11_init 80 rfl) rfl rfl rfl ?_
  refine B_aload_n (n9 := 165) 1 (kX11_init 81 rfl) rfl rfl rfl ?_
  refine B_get (n9 := 168) (v := .ref 112) xf_X11 rfl (by decide) (by decide) rfl fl_X11_68 (kX11_init 82 rfl) rfl ?_
  refine B_alen (n9 := 169) (v := 2) (t0 := 3) (N := 2) rfl (by decide) rfl rfl (kX11_init 83 rfl) rfl ?_
  refine B_ge_f (n9 := 172) (tgt := 226) (by decide) (kX11_init 84 rfl) rfl rfl ?_
  refine B_iload_n (n9 := 173) 0 (kX11_init 85 rfl) rfl rfl rfl ?_
  refine B_aload_n (n9 := 174) 1 (kX11_init 86 rfl) rfl rfl rfl ?_
  refine B_get (n9 := 177) (v := .ref 113) xf_X11 rfl (by decide) (by decide) rfl fl_X11_71 (kX11_init 87 rfl) rfl ?_
  refine B_alen (n9 := 178) (v := 2) (t0 := 5) (N := 2) rfl (by decide) rfl rfl (kX11_init 88 rfl) rfl ?_
  refine B_ge_f (n9 := 181) (tgt := 226) (by decide) (kX11_init 89 rfl) rfl rfl ?_
  refine B_aload_n (n9 := 182) 1 (kX11_init 90 rfl) rfl rfl rfl ?_
  refine B_get (n9 := 185) (v := .ref 111) xf_X11 rfl (by decide) (by decide) rfl fl_X11_64 (kX11_init 91 rfl) rfl ?_
  refine B_iload_n (n9 := 186) 0 (kX11_init 92 rfl) rfl rfl rfl ?_
  refine B_new (n9 := 189) (fs := [.null, .null, .null, .null, .null, .null, .null, .null]) xf_X2 (by decide) cc_X11_16 it_X2 in_X2 (by decide) (Nat.le_of_ble_eq_true rfl) (Nat.le_of_ble_eq_true rfl) (kX11_init 93 rfl) rfl ?_
  refine B_dup (n9 := 190) (kX11_init 94 rfl) rfl rfl ?_
  refine B_callIN (n9 := 193) (As := []) (st := [.ref 135, .int 1, .ref 111]) (C_X2_init_135 (fun k hk => lk_c (Nat.ne_of_lt (Nat.lt_of_lt_of_le (by decide) hk)) (lk_c (Nat.ne_of_lt (Nat.lt_of_lt_of_le (by decide) hk)) (lk_c (Nat.ne_of_lt (Nat.lt_of_lt_of_le (by decide) hk)) (lk_c (Nat.ne_of_lt (Nat.lt_of_lt_of_le (by decide) hk)) (lk_c (Nat.ne_of_lt (Nat.lt_of_lt_of_le (by decide) hk)) (ho k (Nat.le_trans (by decide) hk)))))))) (by decide) nl_X11_18 mi_X2 rfl (by decide) rfl (Nat.le_of_ble_eq_true rfl) (Nat.le_of_ble_eq_true rfl) (Nat.le_of_ble_eq_true rfl) (kX11_init 95 rfl) rfl ?_
  refine B_aast (n9 := 194) (o' := ((113, .inl (g.2.2.1 5, 2, .inr (.inr (.inr (.inr (va_up (fun _ => none) (Int32.toNatClampNeg 0) (some (ad g 131)))))))) :: (112, .inl (g.2.2.1 3, 2, .inr (.inr (.inr (.inr (va_up (fun _ => none) (Int32.toNatClampNeg 0) (some (ad g 123)))))))) :: (111, .inl (g.2.2.1 4, 2, .inr (.inr (.inr (.inr (va_up (va_up (fun _ => none) (Int32.toNatClampNeg 0) (some (ad g 114))) (Int32.toNatClampNeg 1) (some (ad g 135)))))))) :: (46, .inl (g.2.2.1 3, 8, .inr (.inr (.inr (.inr (va_up (va_up (va_up (va_up (va_up (va_up (va_up (va_up (fun _ => none) (Int32.toNatClampNeg 0) (some (ad g 47))) (Int32.toNatClampNeg 1) (some (ad g 55))) (Int32.toNatClampNeg 2) (some (ad g 63))) (Int32.toNatClampNeg 3) (some (ad g 71))) (Int32.toNatClampNeg 4) (some (ad g 79))) (Int32.toNatClampNeg 5) (some (ad g 87))) (Int32.toNatClampNeg 6) (some (ad g 95))) (Int32.toNatClampNeg 7) (some (ad g 103)))))))) :: (0, .inr (11, [.ref (ad g 1), .ref (ad g 7), .ref (ad g 16), .ref (ad g 28), .ref (ad g 36), .ref (ad g 40), .ref (ad g 45), .ref (ad g 46), .int 0, .int 0, .ref (ad g 111), .ref (ad g 112), .ref (ad g 113), .null, .null, .null, .null, .null, .null, .int 0])) :: o')) (r := (RX2, TX2, 8)) (ci := 2) rfl (by decide) (by decide) rfl ((cellA_no (lk_c (by decide) (lk_c (by decide) (lk_c (by decide) (lk_c (by decide) (lk_c (by decide) (ho 135 (by decide)))))))).trans (cellE_o rfl (by decide))) rfl (show ¬ ((1 : Int32) < 0 ∨ 2 ≤ (1 : Int32).toNatClampNeg) from by decide) rfl (kX11_init 96 rfl) rfl ?_
  refine B_aload_n (n9 := 195) 1 (kX11_init 97 rfl) rfl rfl rfl ?_
  refine B_get (n9 := 198) (v := .ref 112) xf_X11 rfl (by decide) (by decide) rfl fl_X11_68 (kX11_init 98 rfl) rfl ?_
  refine B_iload_n (n9 := 199) 0 (kX11_init 99 rfl) rfl rfl rfl ?_
  refine B_new (n9 := 202) (fs := [.int 0, .null, .null, .null, .int 0, .null, .null, .null, .null]) xf_X10 (by decide) cc_X11_32 it_X10 in_X10 (by decide) (Nat.le_of_ble_eq_true rfl) (Nat.le_of_ble_eq_true rfl) (kX11_init_1 0 rfl) rfl ?_
  refine B_dup (n9 := 203) (kX11_init_1 1 rfl) rfl rfl ?_
  refine B_callIN (n9 := 206) (As := []) (st := [.ref 144, .int 1, .ref 112]) (C_X10_init_144 (fun k hk => lk_c (Nat.ne_of_lt (Nat.lt_of_lt_of_le (by decide) hk)) (lk_c (Nat.ne_of_lt (Nat.lt_of_lt_of_le (by decide) hk)) (lk_c (Nat.ne_of_lt (Nat.lt_of_lt_of_le (by decide) hk)) (lk_c (Nat.ne_of_lt (Nat.lt_of_lt_of_le (by decide) hk)) (lk_c (Nat.ne_of_lt (Nat.lt_of_lt_of_le (by decide) hk)) (ho k (Nat.le_trans (by decide) hk)))))))) (by decide) nl_X11_34 mi_X10 rfl (by decide) rfl (Nat.le_of_ble_eq_true rfl) (Nat.le_of_ble_eq_true rfl) (Nat.le_of_ble_eq_true rfl) (kX11_init_1 2 rfl) rfl ?_
  refine B_aast (n9 := 207) (o' := ((113, .inl (g.2.2.1 5, 2, .inr (.inr (.inr (.inr (va_up (fun _ => none) (Int32.toNatClampNeg 0) (some (ad g 131)))))))) :: (112, .inl (g.2.2.1 3, 2, .inr (.inr (.inr (.inr (va_up (va_up (fun _ => none) (Int32.toNatClampNeg 0) (some (ad g 123))) (Int32.toNatClampNeg 1) (some (ad g 144)))))))) :: (111, .inl (g.2.2.1 4, 2, .inr (.inr (.inr (.inr (va_up (va_up (fun _ => none) (Int32.toNatClampNeg 0) (some (ad g 114))) (Int32.toNatClampNeg 1) (some (ad g 135)))))))) :: (46, .inl (g.2.2.1 3, 8, .inr (.inr (.inr (.inr (va_up (va_up (va_up (va_up (va_up (va_up (va_up (va_up (fun _ => none) (Int32.toNatClampNeg 0) (some (ad g 47))) (Int32.toNatClampNeg 1) (some (ad g 55))) (Int32.toNatClampNeg 2) (some (ad g 63))) (Int32.toNatClampNeg 3) (some (ad g 71))) (Int32.toNatClampNeg 4) (some (ad g 79))) (Int32.toNatClampNeg 5) (some (ad g 87))) (Int32.toNatClampNeg 6) (some (ad g 95))) (Int32.toNatClampNeg 7) (some (ad g 103)))))))) :: (0, .inr (11, [.ref (ad g 1), .ref (ad g 7), .ref (ad g 16), .ref (ad g 28), .ref (ad g 36), .ref (ad g 40), .ref (ad g 45), .ref (ad g 46), .int 0, .int 0, .ref (ad g 111), .ref (ad g 112), .ref (ad g 113), .null, .null, .null, .null, .null, .null, .int 0])) :: o')) (r := (RX10, TX10, 9)) (ci := 10) rfl (by decide) (by decide) rfl ((cellA_no (lk_c (by decide) (lk_c (by decide) (lk_c (by decide) (lk_c (by decide) (lk_c (by decide) (ho 144 (by decide)))))))).trans (cellE_o rfl (by decide))) rfl (show ¬ ((1 : Int32) < 0 ∨ 2 ≤ (1 : Int32).toNatClampNeg) from by decide) rfl (kX11_init_1 3 rfl) rfl ?_
  refine B_aload_n (n9 := 208) 1 (kX11_init_1 4 rfl) rfl rfl rfl ?_
  refine B_get (n9 := 211) (v := .ref 113) xf_X11 rfl (by decide) (by decide) rfl fl_X11_71 (kX11_init_1 5 rfl) rfl ?_
  refine B_iload_n (n9 := 212) 0 (kX11_init_1 6 rfl) rfl rfl rfl ?_
  refine B_new (n9 := 215) (fs := [.null, .null, .null, .int 0]) xf_X6 (by decide) cc_X11_39 it_X6 in_X6 (by decide) (Nat.le_of_ble_eq_true rfl) (Nat.le_of_ble_eq_true rfl) (kX11_init_1 7 rfl) rfl ?_
  refine B_dup (n9 := 216) (kX11_init_1 8 rfl) rfl rfl ?_
  refine B_callIN (n9 := 219) (As := []) (st := [.ref 152, .int 1, .ref 113]) (C_X6_init_152 (fun k hk => lk_c (Nat.ne_of_lt (Nat.lt_of_lt_of_le (by decide) hk)) (lk_c (Nat.ne_of_lt (Nat.lt_of_lt_of_le (by decide) hk)) (lk_c (Nat.ne_of_lt (Nat.lt_of_lt_of_le (by decide) hk)) (lk_c (Nat.ne_of_lt (Nat.lt_of_lt_of_le (by decide) hk)) (lk_c (Nat.ne_of_lt (Nat.lt_of_lt_of_le (by decide) hk)) (ho k (Nat.le_trans (by decide) hk)))))))) (by decide) nl_X11_41 mi_X6 rfl (by decide) rfl (Nat.le_of_ble_eq_true rfl) (Nat.le_of_ble_eq_true rfl) (Nat.le_of_ble_eq_true rfl) (kX11_init_1 9 rfl) rfl ?_
  refine B_aast (n9 := 220) (o' := ((113, .inl (g.2.2.1 5, 2, .inr (.inr (.inr (.inr (va_up (va_up (fun _ => none) (Int32.toNatClampNeg 0) (some (ad g 131))) (Int32.toNatClampNeg 1) (some (ad g 152)))))))) :: (112, .inl (g.2.2.1 3, 2, .inr (.inr (.inr (.inr (va_up (va_up (fun _ => none) (Int32.toNatClampNeg 0) (some (ad g 123))) (Int32.toNatClampNeg 1) (some (ad g 144)))))))) :: (111, .inl (g.2.2.1 4, 2, .inr (.inr (.inr (.inr (va_up (va_up (fun _ => none) (Int32.toNatClampNeg 0) (some (ad g 114))) (Int32.toNatClampNeg 1) (some (ad g 135)))))))) :: (46, .inl (g.2.2.1 3, 8, .inr (.inr (.inr (.inr (va_up (va_up (va_up (va_up (va_up (va_up (va_up (va_up (fun _ => none) (Int32.toNatClampNeg 0) (some (ad g 47))) (Int32.toNatClampNeg 1) (some (ad g 55))) (Int32.toNatClampNeg 2) (some (ad g 63))) (Int32.toNatClampNeg 3) (some (ad g 71))) (Int32.toNatClampNeg 4) (some (ad g 79))) (Int32.toNatClampNeg 5) (some (ad g 87))) (Int32.toNatClampNeg 6) (some (ad g 95))) (Int32.toNatClampNeg 7) (some (ad g 103)))))))) :: (0, .inr (11, [.ref (ad g 1), .ref (ad g 7), .ref (ad g 16), .ref (ad g 28), .ref (ad g 36), .ref (ad g 40), .ref (ad g 45), .ref (ad g 46), .int 0, .int 0, .ref (ad g 111), .ref (ad g 112), .ref (ad g 113), .null, .null, .null, .null, .null, .null, .int 0])) :: o')) (r := (RX6, TX6, 4)) (ci := 6) rfl (by decide) (by decide) rfl ((cellA_no (lk_c (by decide) (lk_c (by decide) (lk_c (by decide) (lk_c (by decide) (lk_c (by decide) (ho 152 (by decide)))))))).trans (cellE_o rfl (by decide))) rfl (show ¬ ((1 : Int32) < 0 ∨ 2 ≤ (1 : Int32).toNatClampNeg) from by decide) rfl (kX11_init_1 10 rfl) rfl ?_
  refine B_iinc (n9 := 223) 0 (v := 2) (L1 := [(1, .int 2), (0, .ref 0)]) (kX11_init_1 11 rfl) rfl rfl (by decide) (Nat.le_of_ble_eq_true rfl) rfl ?_
  refine B_goto (tgt := 154) (kX11_init_1 12 rfl) rfl ?_
  refine B_iload_n (n9 := 155) 0 (kX11_init 75 rfl) rfl rfl rfl ?_
  refine B_aload_n (n9 := 156) 1 (kX11_init 76 rfl) rfl rfl rfl ?_
  refine B_get (n9 := 159) (v := .ref 111) xf_X11 rfl (by decide) (by decide) rfl fl_X11_64 (kX11_init 77 rfl) rfl ?_
  refine B_alen (n9 := 160) (v := 2) (t0 := 4) (N := 2) rfl (by decide) rfl rfl (kX11_init 78 rfl) rfl ?_
  refine B_ge_t (tgt := 226) (by decide) (kX11_init 79 rfl) rfl ?_
  refine B_aload_n (n9 := 227) 1 (kX11_init_1 13 rfl) rfl rfl rfl ?_
  refine B_iconst (n9 := 228) (v := 2) (kX11_init_1 14 rfl) rfl (by decide) ?_
  refine B_newaI (n9 := 230) (N := 2) (by decide) ac_int (by decide) (by decide) (Nat.le_of_ble_eq_true rfl) (Nat.le_of_ble_eq_true rfl) (Nat.le_of_ble_eq_true rfl) (kX11_init_1 15 rfl) rfl rfl rfl (S0z (by decide)) (lk_c (by decide) (lk_c (by decide) (lk_c (by decide) (lk_c (by decide) (lk_c (by decide) (ho 156 (by decide))))))) ?_
  refine B_putF (n9 := 233) (o' := ((113, .inl (g.2.2.1 5, 2, .inr (.inr (.inr (.inr (va_up (va_up (fun _ => none) (Int32.toNatClampNeg 0) (some (ad g 131))) (Int32.toNatClampNeg 1) (some (ad g 152)))))))) :: (112, .inl (g.2.2.1 3, 2, .inr (.inr (.inr (.inr (va_up (va_up (fun _ => none) (Int32.toNatClampNeg 0) (some (ad g 123))) (Int32.toNatClampNeg 1) (some (ad g 144)))))))) :: (111, .inl (g.2.2.1 4, 2, .inr (.inr (.inr (.inr (va_up (va_up (fun _ => none) (Int32.toNatClampNeg 0) (some (ad g 114))) (Int32.toNatClampNeg 1) (some (ad g 135)))))))) :: (46, .inl (g.2.2.1 3, 8, .inr (.inr (.inr (.inr (va_up (va_up (va_up (va_up (va_up (va_up (va_up (va_up (fun _ => none) (Int32.toNatClampNeg 0) (some (ad g 47))) (Int32.toNatClampNeg 1) (some (ad g 55))) (Int32.toNatClampNeg 2) (some (ad g 63))) (Int32.toNatClampNeg 3) (some (ad g 71))) (Int32.toNatClampNeg 4) (some (ad g 79))) (Int32.toNatClampNeg 5) (some (ad g 87))) (Int32.toNatClampNeg 6) (some (ad g 95))) (Int32.toNatClampNeg 7) (some (ad g 103)))))))) :: (0, .inr (11, [.ref (ad g 1), .ref (ad g 7), .ref (ad g 16), .ref (ad g 28), .ref (ad g 36), .ref (ad g 40), .ref (ad g 45), .ref (ad g 46), .int 0, .int 0, .ref (ad g 111), .ref (ad g 112), .ref (ad g 113), .ref (ad g 156), .null, .null, .null, .null, .null, .int 0])) :: o')) xf_X11 rfl (by decide) (by decide) (Nat.le_of_ble_eq_true rfl) rfl rfl rfl rfl rfl rfl fl_X11_75 (kX11_init_1 16 rfl) rfl ?_
  refine B_aload_n (n9 := 234) 1 (kX11_init_1 17 rfl) rfl rfl rfl ?_
  refine B_new (n9 := 237) (fs := [.null, .int 0, .int 0, .null, .null, .null, .null, .null, .null]) xf_X4 (by decide) cc_X11_79 it_X4 in_X4 (by decide) (Nat.le_of_ble_eq_true rfl) (Nat.le_of_ble_eq_true rfl) (kX11_init_1 18 rfl) rfl ?_
  refine B_dup (n9 := 238) (kX11_init_1 19 rfl) rfl rfl ?_
  refine B_callIN (n9 := 241) (As := []) (st := [.ref 157, .ref 0]) (C_X4_init_157 (fun k hk => lk_c (Nat.ne_of_lt (Nat.lt_of_lt_of_le (by decide) hk)) (lk_c (Nat.ne_of_lt (Nat.lt_of_lt_of_le (by decide) hk)) (lk_c (Nat.ne_of_lt (Nat.lt_of_lt_of_le (by decide) hk)) (lk_c (Nat.ne_of_lt (Nat.lt_of_lt_of_le (by decide) hk)) (lk_c (Nat.ne_of_lt (Nat.lt_of_lt_of_le (by decide) hk)) (ho k (Nat.le_trans (by decide) hk)))))))) (by decide) nl_X11_81 mi_X4 rfl (by decide) rfl (Nat.le_of_ble_eq_true rfl) (Nat.le_of_ble_eq_true rfl) (Nat.le_of_ble_eq_true rfl) (kX11_init_1 20 rfl) rfl ?_
  refine B_putF (n9 := 244) (o' := ((113, .inl (g.2.2.1 5, 2, .inr (.inr (.inr (.inr (va_up (va_up (fun _ => none) (Int32.toNatClampNeg 0) (some (ad g 131))) (Int32.toNatClampNeg 1) (some (ad g 152)))))))) :: (112, .inl (g.2.2.1 3, 2, .inr (.inr (.inr (.inr (va_up (va_up (fun _ => none) (Int32.toNatClampNeg 0) (some (ad g 123))) (Int32.toNatClampNeg 1) (some (ad g 144)))))))) :: (111, .inl (g.2.2.1 4, 2, .inr (.inr (.inr (.inr (va_up (va_up (fun _ => none) (Int32.toNatClampNeg 0) (some (ad g 114))) (Int32.toNatClampNeg 1) (some (ad g 135)))))))) :: (46, .inl (g.2.2.1 3, 8, .inr (.inr (.inr (.inr (va_up (va_up (va_up (va_up (va_up (va_up (va_up (va_up (fun _ => none) (Int32.toNatClampNeg 0) (some (ad g 47))) (Int32.toNatClampNeg 1) (some (ad g 55))) (Int32.toNatClampNeg 2) (some (ad g 63))) (Int32.toNatClampNeg 3) (some (ad g 71))) (Int32.toNatClampNeg 4) (some (ad g 79))) (Int32.toNatClampNeg 5) (some (ad g 87))) (Int32.toNatClampNeg 6) (some (ad g 95))) (Int32.toNatClampNeg 7) (some (ad g 103)))))))) :: (0, .inr (11, [.ref (ad g 1), .ref (ad g 7), .ref (ad g 16), .ref (ad g 28), .ref (ad g 36), .ref (ad g 40), .ref (ad g 45), .ref (ad g 46), .int 0, .int 0, .ref (ad g 111), .ref (ad g 112), .ref (ad g 113), .ref (ad g 156), .ref (ad g 157), .null, .null, .null, .null, .int 0])) :: o')) xf_X11 rfl (by decide) (by decide) (Nat.le_of_ble_eq_true rfl) rfl rfl rfl rfl rfl rfl fl_X11_82 (kX11_init_1 21 rfl) rfl ?_
  refine B_aload_n (n9 := 245) 1 (kX11_init_1 22 rfl) rfl rfl rfl ?_
  refine B_new (n9 := 248) (fs := [.int 0, .int 0, .null, .int 0, .null, .int 0, .null, .null, .null, .null]) xf_X9 (by decide) cc_X11_86 it_X9 in_X9 (by decide) (Nat.le_of_ble_eq_true rfl) (Nat.le_of_ble_eq_true rfl) (kX11_init_1 23 rfl) rfl ?_
  refine B_dup (n9 := 249) (kX11_init_1 24 rfl) rfl rfl ?_
  refine B_callIN (n9 := 252) (As := []) (st := [.ref 165, .ref 0]) (C_X9_init_165 (fun k hk => lk_c (Nat.ne_of_lt (Nat.lt_of_lt_of_le (by decide) hk)) (lk_c (Nat.ne_of_lt (Nat.lt_of_lt_of_le (by decide) hk)) (lk_c (Nat.ne_of_lt (Nat.lt_of_lt_of_le (by decide) hk)) (lk_c (Nat.ne_of_lt (Nat.lt_of_lt_of_le (by decide) hk)) (lk_c (Nat.ne_of_lt (Nat.lt_of_lt_of_le (by decide) hk)) (ho k (Nat.le_trans (by decide) hk)))))))) (by decide) nl_X11_88 mi_X9 rfl (by decide) rfl (Nat.le_of_ble_eq_true rfl) (Nat.le_of_ble_eq_true rfl) (Nat.le_of_ble_eq_true rfl) (kX11_init_1 25 rfl) rfl ?_
  refine B_putF (n9 := 255) (o' := ((113, .inl (g.2.2.1 5, 2, .inr (.inr (.inr (.inr (va_up (va_up (fun _ => none) (Int32.toNatClampNeg 0) (some (ad g 131))) (Int32.toNatClampNeg 1) (some (ad g 152)))))))) :: (112, .inl (g.2.2.1 3, 2, .inr (.inr (.inr (.inr (va_up (va_up (fun _ => none) (Int32.toNatClampNeg 0) (some (ad g 123))) (Int32.toNatClampNeg 1) (some (ad g 144)))))))) :: (111, .inl (g.2.2.1 4, 2, .inr (.inr (.inr (.inr (va_up (va_up (fun _ => none) (Int32.toNatClampNeg 0) (some (ad g 114))) (Int32.toNatClampNeg 1) (some (ad g 135)))))))) :: (46, .inl (g.2.2.1 3, 8, .inr (.inr (.inr (.inr (va_up (va_up (va_up (va_up (va_up (va_up (va_up (va_up (fun _ => none) (Int32.toNatClampNeg 0) (some (ad g 47))) (Int32.toNatClampNeg 1) (some (ad g 55))) (Int32.toNatClampNeg 2) (some (ad g 63))) (Int32.toNatClampNeg 3) (some (ad g 71))) (Int32.toNatClampNeg 4) (some (ad g 79))) (Int32.toNatClampNeg 5) (some (ad g 87))) (Int32.toNatClampNeg 6) (some (ad g 95))) (Int32.toNatClampNeg 7) (some (ad g 103)))))))) :: (0, .inr (11, [.ref (ad g 1), .ref (ad g 7), .ref (ad g 16), .ref (ad g 28), .ref (ad g 36), .ref (ad g 40), .ref (ad g 45), .ref (ad g 46), .int 0, .int 0, .ref (ad g 111), .ref (ad g 112), .ref (ad g 113), .ref (ad g 156), .ref (ad g 157), .ref (ad g 165), .null, .null, .null, .int 0])) :: o')) xf_X11 rfl (by decide) (by decide) (Nat.le_of_ble_eq_true rfl) rfl rfl rfl rfl rfl rfl fl_X11_89 (kX11_init_1 26 rfl) rfl ?_
  refine B_aload_n (n9 := 256) 1 (kX11_init_1 27 rfl) rfl rfl rfl ?_
  refine B_new (n9 := 259) (fs := [.int 0, .null, .int 0, .int 0, .null, .null, .null, .null]) xf_X0 (by decide) cc_X11_93 it_X0 in_X0 (by decide) (Nat.le_of_ble_eq_true rfl) (Nat.le_of_ble_eq_true rfl) (kX11_init_1 28 rfl) rfl ?_
  refine B_dup (n9 := 260) (kX11_init_1 29 rfl) rfl rfl ?_
  refine B_callIN (n9 := 263) (As := []) (st := [.ref 172, .ref 0]) (C_X0_init_172 (fun k hk => lk_c (Nat.ne_of_lt (Nat.lt_of_lt_of_le (by decide) hk)) (lk_c (Nat.ne_of_lt (Nat.lt_of_lt_of_le (by decide) hk)) (lk_c (Nat.ne_of_lt (Nat.lt_of_lt_of_le (by decide) hk)) (lk_c (Nat.ne_of_lt (Nat.lt_of_lt_of_le (by decide) hk)) (lk_c (Nat.ne_of_lt (Nat.lt_of_lt_of_le (by decide) hk)) (ho k (Nat.le_trans (by decide) hk)))))))) (by decide) nl_X11_95 mi_X0 rfl (by decide) rfl (Nat.le_of_ble_eq_true rfl) (Nat.le_of_ble_eq_true rfl) (Nat.le_of_ble_eq_true rfl) (kX11_init_1 30 rfl) rfl ?_
  refine B_putF (n9 := 266) (o' := ((113, .inl (g.2.2.1 5, 2, .inr (.inr (.inr (.inr (va_up (va_up (fun _ => none) (Int32.toNatClampNeg 0) (some (ad g 131))) (Int32.toNatClampNeg 1) (some (ad g 152)))))))) :: (112, .inl (g.2.2.1 3, 2, .inr (.inr (.inr (.inr (va_up (va_up (fun _ => none) (Int32.toNatClampNeg 0) (some (ad g 123))) (Int32.toNatClampNeg 1) (some (ad g 144)))))))) :: (111, .inl (g.2.2.1 4, 2, .inr (.inr (.inr (.inr (va_up (va_up (fun _ => none) (Int32.toNatClampNeg 0) (some (ad g 114))) (Int32.toNatClampNeg 1) (some (ad g 135)))))))) :: (46, .inl (g.2.2.1 3, 8, .inr (.inr (.inr (.inr (va_up (va_up (va_up (va_up (va_up (va_up (va_up (va_up (fun _ => none) (Int32.toNatClampNeg 0) (some (ad g 47))) (Int32.toNatClampNeg 1) (some (ad g 55))) (Int32.toNatClampNeg 2) (some (ad g 63))) (Int32.toNatClampNeg 3) (some (ad g 71))) (Int32.toNatClampNeg 4) (some (ad g 79))) (Int32.toNatClampNeg 5) (some (ad g 87))) (Int32.toNatClampNeg 6) (some (ad g 95))) (Int32.toNatClampNeg 7) (some (ad g 103)))))))) :: (0, .inr (11, [.ref (ad g 1), .ref (ad g 7), .ref (ad g 16), .ref (ad g 28), .ref (ad g 36), .ref (ad g 40), .ref (ad g 45), .ref (ad g 46), .int 0, .int 0, .ref (ad g 111), .ref (ad g 112), .ref (ad g 113), .ref (ad g 156), .ref (ad g 157), .ref (ad g 165), .ref (ad g 172), .null, .null, .int 0])) :: o')) xf_X11 rfl (by decide) (by decide) (Nat.le_of_ble_eq_true rfl) rfl rfl rfl rfl rfl rfl fl_X11_96 (kX11_init_1 31 rfl) rfl ?_
  refine B_aload_n (n9 := 267) 1 (kX11_init_1 32 rfl) rfl rfl rfl ?_
  refine B_new (n9 := 270) (fs := [.int 0, .int 0, .int 0, .int 0, .int 0, .null]) xf_X1 (by decide) cc_X11_100 it_X1 in_X1 (by decide) (Nat.le_of_ble_eq_true rfl) (Nat.le_of_ble_eq_true rfl) (kX11_init_1 33 rfl) rfl ?_
  refine B_dup (n9 := 271) (kX11_init_1 34 rfl) rfl rfl ?_
  refine B_callIN (n9 := 274) (As := []) (st := [.ref 178, .ref 0]) (C_X1_init_178 (fun k hk => lk_c (Nat.ne_of_lt (Nat.lt_of_lt_of_le (by decide) hk)) (lk_c (Nat.ne_of_lt (Nat.lt_of_lt_of_le (by decide) hk)) (lk_c (Nat.ne_of_lt (Nat.lt_of_lt_of_le (by decide) hk)) (lk_c (Nat.ne_of_lt (Nat.lt_of_lt_of_le (by decide) hk)) (lk_c (Nat.ne_of_lt (Nat.lt_of_lt_of_le (by decide) hk)) (ho k (Nat.le_trans (by decide) hk)))))))) (by decide) nl_X11_102 mi_X1 rfl (by decide) rfl (Nat.le_of_ble_eq_true rfl) (Nat.le_of_ble_eq_true rfl) (Nat.le_of_ble_eq_true rfl) (kX11_init_1 35 rfl) rfl ?_
  refine B_putF (n9 := 277) (o' := ((113, .inl (g.2.2.1 5, 2, .inr (.inr (.inr (.inr (va_up (va_up (fun _ => none) (Int32.toNatClampNeg 0) (some (ad g 131))) (Int32.toNatClampNeg 1) (some (ad g 152)))))))) :: (112, .inl (g.2.2.1 3, 2, .inr (.inr (.inr (.inr (va_up (va_up (fun _ => none) (Int32.toNatClampNeg 0) (some (ad g 123))) (Int32.toNatClampNeg 1) (some (ad g 144)))))))) :: (111, .inl (g.2.2.1 4, 2, .inr (.inr (.inr (.inr (va_up (va_up (fun _ => none) (Int32.toNatClampNeg 0) (some (ad g 114))) (Int32.toNatClampNeg 1) (some (ad g 135)))))))) :: (46, .inl (g.2.2.1 3, 8, .inr (.inr (.inr (.inr (va_up (va_up (va_up (va_up (va_up (va_up (va_up (va_up (fun _ => none) (Int32.toNatClampNeg 0) (some (ad g 47))) (Int32.toNatClampNeg 1) (some (ad g 55))) (Int32.toNatClampNeg 2) (some (ad g 63))) (Int32.toNatClampNeg 3) (some (ad g 71))) (Int32.toNatClampNeg 4) (some (ad g 79))) (Int32.toNatClampNeg 5) (some (ad g 87))) (Int32.toNatClampNeg 6) (some (ad g 95))) (Int32.toNatClampNeg 7) (some (ad g 103)))))))) :: (0, .inr (11, [.ref (ad g 1), .ref (ad g 7), .ref (ad g 16), .ref (ad g 28), .ref (ad g 36), .ref (ad g 40), .ref (ad g 45), .ref (ad g 46), .int 0, .int 0, .ref (ad g 111), .ref (ad g 112), .ref (ad g 113), .ref (ad g 156), .ref (ad g 157), .ref (ad g 165), .ref (ad g 172), .ref (ad g 178), .null, .int 0])) :: o')) xf_X11 rfl (by decide) (by decide) (Nat.le_of_ble_eq_true rfl) rfl rfl rfl rfl rfl rfl fl_X11_103 (kX11_init_1 36 rfl) rfl ?_
  refine B_aload_n (n9 := 278) 1 (kX11_init_1 37 rfl) rfl rfl rfl ?_
  refine B_bipush (n9 := 280) (v := 66) (kX11_init_1 38 rfl) rfl (by decide) ?_
  refine B_newaI (n9 := 282) (N := 66) (by decide) ac_int (by decide) (by decide) (Nat.le_of_ble_eq_true rfl) (Nat.le_of_ble_eq_true rfl) (Nat.le_of_ble_eq_true rfl) (kX11_init_1 39 rfl) rfl rfl rfl (S0z (by decide)) (lk_c (by decide) (lk_c (by decide) (lk_c (by decide) (lk_c (by decide) (lk_c (by decide) (ho 187 (by decide))))))) ?_
  refine B_putF (n9 := 285) (o' := ((113, .inl (g.2.2.1 5, 2, .inr (.inr (.inr (.inr (va_up (va_up (fun _ => none) (Int32.toNatClampNeg 0) (some (ad g 131))) (Int32.toNatClampNeg 1) (some (ad g 152)))))))) :: (112, .inl (g.2.2.1 3, 2, .inr (.inr (.inr (.inr (va_up (va_up (fun _ => none) (Int32.toNatClampNeg 0) (some (ad g 123))) (Int32.toNatClampNeg 1) (some (ad g 144)))))))) :: (111, .inl (g.2.2.1 4, 2, .inr (.inr (.inr (.inr (va_up (va_up (fun _ => none) (Int32.toNatClampNeg 0) (some (ad g 114))) (Int32.toNatClampNeg 1) (some (ad g 135)))))))) :: (46, .inl (g.2.2.1 3, 8, .inr (.inr (.inr (.inr (va_up (va_up (va_up (va_up (va_up (va_up (va_up (va_up (fun _ => none) (Int32.toNatClampNeg 0) (some (ad g 47))) (Int32.toNatClampNeg 1) (some (ad g 55))) (Int32.toNatClampNeg 2) (some (ad g 63))) (Int32.toNatClampNeg 3) (some (ad g 71))) (Int32.toNatClampNeg 4) (some (ad g 79))) (Int32.toNatClampNeg 5) (some (ad g 87))) (Int32.toNatClampNeg 6) (some (ad g 95))) (Int32.toNatClampNeg 7) (some (ad g 103)))))))) :: (0, .inr (11, [.ref (ad g 1), .ref (ad g 7), .ref (ad g 16), .ref (ad g 28), .ref (ad g 36), .ref (ad g 40), .ref (ad g 45), .ref (ad g 46), .int 0, .int 0, .ref (ad g 111), .ref (ad g 112), .ref (ad g 113), .ref (ad g 156), .ref (ad g 157), .ref (ad g 165), .ref (ad g 172), .ref (ad g 178), .ref (ad g 187), .int 0])) :: o')) xf_X11 rfl (by decide) (by decide) (Nat.le_of_ble_eq_true rfl) rfl rfl rfl rfl rfl rfl fl_X11_107 (kX11_init_1 40 rfl) rfl ?_
  refine B_closeA (fun H h => at_q (N := 2) (f1 := fun i => some (ad g (rf 113 i))) (fun j hj => by rcases (show j = 0 ∨ j = 1 by omega) with rfl | rfl <;> rfl) h) (lk_c (by decide) (lk_c (by decide) (lk_c (by decide) (lk_c (by decide) (ho 113 (by decide)))))) ?_
  refine B_closeA (fun H h => at_q (N := 2) (f1 := fun i => some (ad g (rf 112 i))) (fun j hj => by rcases (show j = 0 ∨ j = 1 by omega) with rfl | rfl <;> rfl) h) (lk_c (by decide) (lk_c (by decide) (lk_c (by decide) (ho 112 (by decide))))) ?_
  refine B_closeA (fun H h => at_q (N := 2) (f1 := fun i => some (ad g (rf 111 i))) (fun j hj => by rcases (show j = 0 ∨ j = 1 by omega) with rfl | rfl <;> rfl) h) (lk_c (by decide) (lk_c (by decide) (ho 111 (by decide)))) ?_
  refine B_closeA (fun H h => at_q (N := 8) (f1 := fun i => some (ad g (rf 46 i))) (fun j hj => by rcases (show j = 0 ∨ j = 1 ∨ j = 2 ∨ j = 3 ∨ j = 4 ∨ j = 5 ∨ j = 6 ∨ j = 7 by omega) with rfl | rfl | rfl | rfl | rfl | rfl | rfl | rfl <;> rfl) h) (lk_c (by decide) (ho 46 (by decide))) ?_
  refine B_close rfl (ho 0 (by decide)) ?_
  exact B_ret rfl (kX11_init_1 41 rfl)
