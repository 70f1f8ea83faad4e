section YS
variable {p : Program} {l : Launch} {e : Env} {R : Room} {s : State} {m : MethodId} {args : Array Value} {below : List Frame} {meth : Method} {c : Code} {g : XG} {A : Nat → Prop} {cells slots : Nat} {Q : State → Prop} {M : XM} {pc n N9 : Nat} {xs : Nat → Int32} {L : List (Nat × Value)} {st : List Value} {S : XS}
/-- the script's ints, read in the law's body: cell 219 stands for it -/
theorem Y_sld (C : YC p R s m args meth c g A M) (hX : va_X (ad g 219) N9 xs s s.heap) (hbl : ad g 219 < s.heap.size) (hbA : ¬ A (ad g 219)) {i : Int32} (hin : vp_in i N9) (hd : decode M.2.1 pc = .ok (.iaload, 1)) (hn : pc + 1 = n) (k : Y p l e R s m args below meth c g A cells slots Q M n L (.int (xs i.toNatClampNeg) :: st) S) : Y p l e R s m args below meth c g A cells slots Q M pc L (.int i :: .ref 219 :: st) S := by
  subst hn
  intro H locs ls hH hS hl
  exact va_sld C.1.1 C.1.2.1 hX hbl hbA hS hin hd (k _ _ _ hH hS hl)
theorem Y_slen (C : YC p R s m args meth c g A M) (hX : va_X (ad g 219) N9 xs s s.heap) (hbl : ad g 219 < s.heap.size) (hbA : ¬ A (ad g 219)) (hd : decode M.2.1 pc = .ok (.arraylength, 1)) (hn : pc + 1 = n) (k : Y p l e R s m args below meth c g A cells slots Q M n L (.int (Int32.ofNat N9) :: st) S) : Y p l e R s m args below meth c g A cells slots Q M pc L (.ref 219 :: st) S := by
  subst hn
  intro H locs ls hH hS hl
  exact va_slen C.1.1 C.1.2.1 hX hbl hbA hS hd (k _ _ _ hH hS hl)
end YS
