theorem lg_cmp_self (x : Int64) : lg_cmp x x = 0 := by
  unfold lg_cmp
  rw [if_neg (fun h => by rw [gt_iff_lt, Int64.lt_iff_toInt_lt] at h; exact absurd h (Int.lt_irrefl _)), if_pos rfl]
section YT
variable {p : Program} {l : Launch} {e : Env} {R : Room} {s : State} {m : MethodId} {args : Array Value} {below : List Frame} {meth : Method} {c : Code} {g : XG} {A : Nat → Prop} {cells slots : Nat} {Q : State → Prop} {M : XM} {pc n tgt N9 : Nat} {xs : Nat → Int32} {L : List (Nat × Value)} {st : List Value} {S : XS} {i : Int32}
theorem Y_tbIn (C : YC p R s m args meth c g A M) {dflt lo hi : Int} {offs : Array Int} {len : Nat} {x : Int32} {off : Int} (x0 : Int) (hx : x.toInt = x0) (hd : decode M.2.1 pc = .ok (.tableswitch dflt lo hi offs, len)) (h1 : ¬ x0 < lo) (h2 : ¬ hi < x0) (ho : offs[(x0 - lo).toNat]? = some off) (ht : (pc : Int) + off = (tgt : Int)) (k : Y p l e R s m args below meth c g A cells slots Q M tgt L st S) : Y p l e R s m args below meth c g A cells slots Q M pc L (.int x :: st) S := by
  intro H locs ls hH hS hl
  exact lv_tableIn C.1.1 C.1.2.1 hd (by rw [hx]; exact h1) (by rw [hx]; exact h2) (by rw [hx]; exact ho) ht (k _ _ _ hH hS hl)
theorem Y_tbOut (C : YC p R s m args meth c g A M) {dflt lo hi : Int} {offs : Array Int} {len : Nat} {x : Int32} (h : x.toInt < lo ∨ hi < x.toInt) (hd : decode M.2.1 pc = .ok (.tableswitch dflt lo hi offs, len)) (ht : (pc : Int) + dflt = (tgt : Int)) (k : Y p l e R s m args below meth c g A cells slots Q M tgt L st S) : Y p l e R s m args below meth c g A cells slots Q M pc L (.int x :: st) S := by
  intro H locs ls hH hS hl
  exact lv_tableOut C.1.1 C.1.2.1 hd h ht (k _ _ _ hH hS hl)
theorem LL_sub {b v : Int32} : ∀ q ∈ LL i, q ∈ [(6, Value.int b), (5, Value.int v), (4, Value.int i), (3, Value.ref 217), (2, Value.ref 188), (1, Value.ref 0), (0, Value.ref 219)] := by
  intro q hq
  exact List.mem_cons_of_mem _ (List.mem_cons_of_mem _ hq)
theorem Y_argL (C : YC p R s m args meth c g A M) (hX : va_X (ad g 219) N9 xs s s.heap) (hbl : ad g 219 < s.heap.size) (hbA : ¬ A (ad g 219)) {j0 j4 : Nat} {i : Int32} (hj0 : L[j0]? = some (0, .ref 219)) (hj4 : L[j4]? = some (4, .int i)) {v : Int32} {z : Int} (d0 : decode M.2.1 pc = .ok (.aload_n 0, 1)) (d1 : decode M.2.1 (pc + 1) = .ok (.iload 4, 2)) (d3 : decode M.2.1 (pc + 3) = .ok (.iconst z, 1)) (d4 : decode M.2.1 (pc + 4) = .ok (.iadd, 1)) (d5 : decode M.2.1 (pc + 5) = .ok (.iaload, 1)) (hv : Int32.ofInt z = v) (hin : vp_in (i + v) N9) (hn : pc + 6 = n) (k : Y p l e R s m args below meth c g A cells slots Q M n L (.int (xs (i + v).toNatClampNeg) :: st) S) : Y p l e R s m args below meth c g A cells slots Q M pc L st S := by
  refine Y_aload_n C (n := pc + 1) (x := 219) j0 d0 rfl rfl hj0 ?_
  refine Y_iload C (n := pc + 3) (x := i) j4 d1 rfl hj4 ?_
  refine Y_iconst C (n := pc + 4) (v := v) d3 rfl hv ?_
  refine Y_iadd C (n := pc + 5) d4 rfl ?_
  exact Y_sld C hX hbl hbA hin d5 hn k
end YT
theorem il_law : Cond.initialized RL ∈ TT := (TQ1 0 rfl rfl)
