theorem p_X11_total {l : Launch} {g : XG} {a0 : Nat} {i1 : Int32} {S : XS} (h : kd a0 = 20) : Cl φI l g 2 mX11_total [.ref a0, .int i1] S (some (totV a0 i1 S, S)) := total_spec a0 i1 S ▸ w_X11_total h
theorem p_X11_strongest {l : Launch} {g : XG} {a0 : Nat} {i1 : Int32} {S : XS} (h : kd a0 = 20) : Cl φI l g 2 mX11_strongest [.ref a0, .int i1] S (some (strV a0 i1 S, S)) := str_spec a0 i1 S ▸ w_X11_strongest h
section YT
variable {p : Program} {l : Launch} {e : Env} {R : Room} {s : State} {m : MethodId} {args : Array Value} {below : List Frame} {meth : Method} {c : Code} {g : XG} {A : Nat → Prop} {cells slots : Nat} {Q : State → Prop} {M : XM} {pc tgt : Nat} {L : List (Nat × Value)} {st : List Value} {S : XS}
theorem Y_tabIn (C : YC p R s m args meth c g A M) {dflt lo hi : Int} {offs : Array Int} {len : Nat} {x : Int32} {off : Int} (x0 : Int) (hx : x.toInt = x0) (hd : decode M.2.1 pc = .ok (.tableswitch dflt lo hi offs, len)) (h1 : ¬ x0 < lo) (h2 : ¬ hi < x0) (ho : offs[(x0 - lo).toNat]? = some off) (ht : (pc : Int) + off = (tgt : Int)) (k : Y p l e R s m args below meth c g A cells slots Q M tgt L (st) S) : Y p l e R s m args below meth c g A cells slots Q M pc L (.int x :: st) S := by
  intro H locs ls hH hS hl
  exact lv_tableIn C.1.1 C.1.2.1 hd (by rw [hx]; exact h1) (by rw [hx]; exact h2) (by rw [hx]; exact ho) ht (k _ _ _ hH hS hl)
theorem Y_tabOut (C : YC p R s m args meth c g A M) {dflt lo hi : Int} {offs : Array Int} {len : Nat} {x : Int32} (h : x.toInt < lo ∨ hi < x.toInt) (hd : decode M.2.1 pc = .ok (.tableswitch dflt lo hi offs, len)) (ht : (pc : Int) + dflt = (tgt : Int)) (k : Y p l e R s m args below meth c g A cells slots Q M tgt L (st) S) : Y p l e R s m args below meth c g A cells slots Q M pc L (.int x :: st) S := by
  intro H locs ls hH hS hl
  exact lv_tableOut C.1.1 C.1.2.1 hd h ht (k _ _ _ hH hS hl)
end YT
def witR (a0 : Nat) (i1 i2 : Int32) (S : XS) : Option Int32 := if t_X2_has (rf a0 1) 2 i1 S = true then (if i2 < 0 then none else (if ¬ i2 ≤ 4 then none else (if i2 = 0 then some (gat S (rf (rf a0 3) 1) i1) else (if i2 = 1 then some (gat S (rf (rf a0 3) 2) i1) else (if i2 = 2 then some (gat S (rf (rf a0 1) 4) i1) else (if i2 = 3 then some (totV (rf (rf a0 3) 3) (gat S (rf (rf a0 3) 2) i1) S) else some (strV (rf (rf a0 3) 3) (gat S (rf (rf a0 3) 2) i1) S))))))) else none
set_option maxHeartbeats 4000000 in
theorem w_X11_witness {l : Launch} (hst : l.stackTraces = false) {g : XG} {a0 : Nat} {i1 i2 : Int32} {S : XS} (hk : kd a0 = 11) : ClW l g mX11_witness [.ref a0, .int i1, .int i2] S (witR a0 i1 i2 S) := by
  refine ClW.of (by decide +kernel) (Nat.le_of_ble_eq_true rfl) ?_
  intro p e s m args below meth c C hE htab
  show YV _ _ _ _ _ _ _ _ _ _ _ 0 [(0, .ref a0), (1, .int i1), (2, .int i2)] [] _ _
  have thr : witR a0 i1 i2 S = none → YV p l e s m args below meth c g mX11_witness 21 [(0, .ref a0), (1, .int i1), (2, .int i2)] [] S (witR a0 i1 i2 S) := fun h => YV_throw C rfl hE hst htab h (kX11_witness 11 rfl) (kX11_witness 12 rfl) (kX11_witness 13 rfl) (kX11_witness 14 rfl)
  refine Y_aload_n C (n := 1) 0 (kX11_witness 0 rfl) rfl rfl rfl ?_
  refine Y_getR C (n := 4) xf_X11 hk (by decide) fl_X11_19 rfl (kX11_witness 1 rfl) rfl ?_
  refine Y_iconst C (n := 5) (v := 2) (kX11_witness 2 rfl) rfl (by decide) ?_
  refine Y_iload_n C (n := 6) 1 (kX11_witness 3 rfl) rfl rfl rfl ?_
  refine Y_callV C (n := 9) (As := [.int 2, .int i1]) (st := []) (kX11_witness 4 rfl) rfl (p_X2_has (kt_11_1 hk)) (by decide) (by decide) ml_X11_144 mf_X2_has rfl (kt_11_1 hk) xf_X2 rfl (Nat.le_of_ble_eq_true rfl) (by decide) (by decide) ?_
  refine Y_if_eq C (n := 12) (tgt := 21) (kX11_witness 5 rfl) rfl rfl (fun h => thr (by unfold witR; rw [if_neg (by rw [show t_X2_has (rf a0 1) 2 i1 S = false from bi_f h]; decide)])) (fun h1 => ?_)
  refine Y_iload_n C (n := 13) 2 (kX11_witness 6 rfl) rfl rfl rfl ?_
  refine Y_if_lt C (n := 16) (tgt := 21) (kX11_witness 7 rfl) rfl rfl (fun h => thr (by unfold witR; rw [if_pos (show t_X2_has (rf a0 1) 2 i1 S = true from bi_t h1), if_pos h])) (fun h2 => ?_)
  refine Y_iload_n C (n := 17) 2 (kX11_witness 8 rfl) rfl rfl rfl ?_
  refine Y_iconst C (n := 18) (v := 4) (kX11_witness 9 rfl) rfl (by decide) ?_
  refine Y_ic_le C (n := 21) (tgt := 29) (kX11_witness 10 rfl) rfl rfl (fun h3 => ?_) (fun h => thr (by unfold witR; rw [if_pos (show t_X2_has (rf a0 1) 2 i1 S = true from bi_t h1), if_neg h2, if_pos h]))
  refine Y_iload_n C (n := 30) 2 (kX11_witness 15 rfl) rfl rfl rfl ?_
  by_cases c0 : i2 = 0
  · refine Y_tabIn C (tgt := 60) 0 (xI_of 0 c0 (by decide)) (kX11_witness 16 rfl) (by decide) (by decide) rfl rfl ?_
    refine Y_aload_n C (n := 61) 0 (kX11_witness 17 rfl) rfl rfl rfl ?_
    refine Y_getR C (n := 64) xf_X11 hk (by decide) fl_X11_35 rfl (kX11_witness 18 rfl) rfl ?_
    refine Y_getR C (n := 67) xf_X10 (kt_11_3 hk) (by decide) fl_X11_161 rfl (kX11_witness 19 rfl) rfl ?_
    refine Y_iload_n C (n := 68) 1 (kX11_witness 20 rfl) rfl rfl rfl ?_
    refine Y_callS C (n := 71) (As := [.ref (rf (rf a0 3) 1), .int i1]) (st := []) (kX11_witness 21 rfl) rfl (p_X11_at (kt_10_1 (kt_11_3 hk))) (by decide) (by decide) ml_X11_154 mf_X11_at rfl rfl (Nat.le_of_ble_eq_true rfl) (by decide) (by decide) ?_
    exact YV_iret C (by unfold witR; rw [if_pos (show t_X2_has (rf a0 1) 2 i1 S = true from bi_t h1), if_neg h2, if_neg (fun q => q h3), if_pos c0]) rfl (kX11_witness 22 rfl)
  by_cases c1 : i2 = 1
  · refine Y_tabIn C (tgt := 72) 1 (xI_of 1 c1 (by decide)) (kX11_witness 16 rfl) (by decide) (by decide) rfl rfl ?_
    refine Y_aload_n C (n := 73) 0 (kX11_witness 23 rfl) rfl rfl rfl ?_
    refine Y_getR C (n := 76) xf_X11 hk (by decide) fl_X11_35 rfl (kX11_witness 24 rfl) rfl ?_
    refine Y_getR C (n := 79) xf_X10 (kt_11_3 hk) (by decide) fl_X11_164 rfl (kX11_witness 25 rfl) rfl ?_
    refine Y_iload_n C (n := 80) 1 (kX11_witness 26 rfl) rfl rfl rfl ?_
    refine Y_callS C (n := 83) (As := [.ref (rf (rf a0 3) 2), .int i1]) (st := []) (kX11_witness 27 rfl) rfl (p_X11_at (kt_10_2 (kt_11_3 hk))) (by decide) (by decide) ml_X11_154 mf_X11_at rfl rfl (Nat.le_of_ble_eq_true rfl) (by decide) (by decide) ?_
    exact YV_iret C (by unfold witR; rw [if_pos (show t_X2_has (rf a0 1) 2 i1 S = true from bi_t h1), if_neg h2, if_neg (fun q => q h3), if_neg c0, if_pos c1]) rfl (kX11_witness 28 rfl)
  by_cases c2 : i2 = 2
  · refine Y_tabIn C (tgt := 84) 2 (xI_of 2 c2 (by decide)) (kX11_witness 16 rfl) (by decide) (by decide) rfl rfl ?_
    refine Y_aload_n C (n := 85) 0 (kX11_witness 29 rfl) rfl rfl rfl ?_
    refine Y_getR C (n := 88) xf_X11 hk (by decide) fl_X11_19 rfl (kX11_witness 30 rfl) rfl ?_
    refine Y_getR C (n := 91) xf_X2 (kt_11_1 hk) (by decide) fl_X11_167 rfl (kX11_witness 31 rfl) rfl ?_
    refine Y_iload_n C (n := 92) 1 (kX11_witness 32 rfl) rfl rfl rfl ?_
    refine Y_callS C (n := 95) (As := [.ref (rf (rf a0 1) 4), .int i1]) (st := []) (kX11_witness 33 rfl) rfl (p_X11_at (kt_2_4 (kt_11_1 hk))) (by decide) (by decide) ml_X11_154 mf_X11_at rfl rfl (Nat.le_of_ble_eq_true rfl) (by decide) (by decide) ?_
    exact YV_iret C (by unfold witR; rw [if_pos (show t_X2_has (rf a0 1) 2 i1 S = true from bi_t h1), if_neg h2, if_neg (fun q => q h3), if_neg c0, if_neg c1, if_pos c2]) rfl (kX11_witness 34 rfl)
  by_cases c3 : i2 = 3
  · refine Y_tabIn C (tgt := 96) 3 (xI_of 3 c3 (by decide)) (kX11_witness 16 rfl) (by decide) (by decide) rfl rfl ?_
    refine Y_aload_n C (n := 97) 0 (kX11_witness 35 rfl) rfl rfl rfl ?_
    refine Y_getR C (n := 100) xf_X11 hk (by decide) fl_X11_35 rfl (kX11_witness 36 rfl) rfl ?_
    refine Y_getR C (n := 103) xf_X10 (kt_11_3 hk) (by decide) fl_X11_170 rfl (kX11_witness 37 rfl) rfl ?_
    refine Y_aload_n C (n := 104) 0 (kX11_witness 38 rfl) rfl rfl rfl ?_
    refine Y_getR C (n := 107) xf_X11 hk (by decide) fl_X11_35 rfl (kX11_witness 39 rfl) rfl ?_
    refine Y_getR C (n := 110) xf_X10 (kt_11_3 hk) (by decide) fl_X11_164 rfl (kX11_witness 40 rfl) rfl ?_
    refine Y_iload_n C (n := 111) 1 (kX11_witness 41 rfl) rfl rfl rfl ?_
    refine Y_callS C (n := 114) (As := [.ref (rf (rf a0 3) 2), .int i1]) (st := [.ref (rf (rf a0 3) 3)]) (kX11_witness 42 rfl) rfl (p_X11_at (kt_10_2 (kt_11_3 hk))) (by decide) (by decide) ml_X11_154 mf_X11_at rfl rfl (Nat.le_of_ble_eq_true rfl) (by decide) (by decide) ?_
    refine Y_callS C (n := 117) (As := [.ref (rf (rf a0 3) 3), .int (gat S (rf (rf a0 3) 2) i1)]) (st := []) (kX11_witness 43 rfl) rfl (p_X11_total (kt_10_3 (kt_11_3 hk))) (by decide) (by decide) ml_X11_173 mf_X11_total rfl rfl (Nat.le_of_ble_eq_true rfl) (by decide) (by decide) ?_
    exact YV_iret C (by unfold witR; rw [if_pos (show t_X2_has (rf a0 1) 2 i1 S = true from bi_t h1), if_neg h2, if_neg (fun q => q h3), if_neg c0, if_neg c1, if_neg c2, if_pos c3]) rfl (kX11_witness 44 rfl)
  have e0 := xI_ne (z := 0) 0 c0 (by decide)
  have e1 := xI_ne (z := 1) 1 c1 (by decide)
  have e2 := xI_ne (z := 2) 2 c2 (by decide)
  have e3 := xI_ne (z := 3) 3 c3 (by decide)
  refine Y_tabOut C (tgt := 118) (by omega) (kX11_witness 16 rfl) rfl ?_
  refine Y_aload_n C (n := 119) 0 (kX11_witness 45 rfl) rfl rfl rfl ?_
  refine Y_getR C (n := 122) xf_X11 hk (by decide) fl_X11_35 rfl (kX11_witness 46 rfl) rfl ?_
  refine Y_getR C (n := 125) xf_X10 (kt_11_3 hk) (by decide) fl_X11_170 rfl (kX11_witness 47 rfl) rfl ?_
  refine Y_aload_n C (n := 126) 0 (kX11_witness 48 rfl) rfl rfl rfl ?_
  refine Y_getR C (n := 129) xf_X11 hk (by decide) fl_X11_35 rfl (kX11_witness 49 rfl) rfl ?_
  refine Y_getR C (n := 132) xf_X10 (kt_11_3 hk) (by decide) fl_X11_164 rfl (kX11_witness 50 rfl) rfl ?_
  refine Y_iload_n C (n := 133) 1 (kX11_witness 51 rfl) rfl rfl rfl ?_
  refine Y_callS C (n := 136) (As := [.ref (rf (rf a0 3) 2), .int i1]) (st := [.ref (rf (rf a0 3) 3)]) (kX11_witness 52 rfl) rfl (p_X11_at (kt_10_2 (kt_11_3 hk))) (by decide) (by decide) ml_X11_154 mf_X11_at rfl rfl (Nat.le_of_ble_eq_true rfl) (by decide) (by decide) ?_
  refine Y_callS C (n := 139) (As := [.ref (rf (rf a0 3) 3), .int (gat S (rf (rf a0 3) 2) i1)]) (st := []) (kX11_witness 53 rfl) rfl (p_X11_strongest (kt_10_3 (kt_11_3 hk))) (by decide) (by decide) ml_X11_176 mf_X11_strongest rfl rfl (Nat.le_of_ble_eq_true rfl) (by decide) (by decide) ?_
  exact YV_iret C (by unfold witR; rw [if_pos (show t_X2_has (rf a0 1) 2 i1 S = true from bi_t h1), if_neg h2, if_neg (fun q => q h3), if_neg c0, if_neg c1, if_neg c2, if_neg c3]) rfl (kX11_witness 54 rfl)
