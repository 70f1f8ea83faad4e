def LL (i : Int32) : List (Nat × Value) := [(4, .int i), (3, .ref 217), (2, .ref 188), (1, .ref 0), (0, .ref 219)]
section YJ
variable {p : Program} {l : Launch} {e : Env} {R : Room} {s : State} {m : MethodId} {args : Array Value} {below : List Frame} {meth : Method} {c : Code} {g : XG} {A : Nat → Prop} {cells slots : Nat} {Q : State → Prop} {M : XM} {pc n N9 : Nat} {xs : Nat → Int32} {L L1 : List (Nat × Value)} {st : List Value} {S : XS} {i : Int32}
theorem Y_sub (h : ∀ q ∈ L1, q ∈ L) (k : Y p l e R s m args below meth c g A cells slots Q M pc L1 st S) : Y p l e R s m args below meth c g A cells slots Q M pc L st S := by
  intro H locs ls hH hS hl
  refine k H locs ls hH hS ⟨hl.1, hl.2.1, fun q hq => ?_⟩
  obtain ⟨q1, h1, rfl⟩ := List.mem_map.mp hq
  exact hl.2.2 _ (List.mem_map_of_mem (h q1 h1))
theorem Y_arg (C : YC p R s m args meth c g A M) (hX : va_X (ad g 219) N9 xs s s.heap) (hbl : ad g 219 < s.heap.size) (hbA : ¬ A (ad g 219)) {v : Int32} {z : Int} (d0 : decode M.2.1 pc = .ok (.aload_n 0, 1)) (d1 : decode M.2.1 (pc + 1) = .ok (.iload 4, 2)) (d3 : decode M.2.1 (pc + 3) = .ok (.iconst z, 1)) (d4 : decode M.2.1 (pc + 4) = .ok (.iadd, 1)) (d5 : decode M.2.1 (pc + 5) = .ok (.iaload, 1)) (hv : Int32.ofInt z = v) (hin : vp_in (i + v) N9) (hn : pc + 6 = n) (k : Y p l e R s m args below meth c g A cells slots Q M n (LL i) (.int (xs (i + v).toNatClampNeg) :: st) S) : Y p l e R s m args below meth c g A cells slots Q M pc (LL i) st S := by
  refine Y_aload_n C (n := pc + 1) (x := 219) 4 d0 rfl rfl rfl ?_
  refine Y_iload C (n := pc + 3) (x := i) 0 d1 rfl rfl ?_
  refine Y_iconst C (n := pc + 4) (v := v) d3 rfl hv ?_
  refine Y_iadd C (n := pc + 5) d4 rfl ?_
  exact Y_sld C hX hbl hbA hin d5 hn k
end YJ
