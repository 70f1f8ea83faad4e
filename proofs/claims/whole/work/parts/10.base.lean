/-! rows read and written with the index looked at first -/
theorem X_req {β : Type} {φ : β → Option Value × XS} {l : Launch} {g : XG} {d : Nat} {M : XM} {pc : Nat} {L : List (Nat × Value)} {st : List Value} {S : XS} {R R1 : Option β} (h : R1 = R) (k : X φ l g d M pc L st S R) : X φ l g d M pc L st S R1 := by rw [h]; exact k
def gat (S : XS) (a : Nat) (i : Int32) : Int32 := if i < 0 ∨ ln a ≤ i.toNatClampNeg then 0 else S.1 a i.toNatClampNeg
def pat (S : XS) (a : Nat) (i v : Int32) : XS := if i < 0 ∨ ln a ≤ i.toNatClampNeg then S else sI S a i.toNatClampNeg v
theorem ln_le (a : Nat) : ln a ≤ 4096 := by
  by_cases h : a < KK
  · have := (by decide +kernel : ∀ b, b < KK → ln b ≤ 4096) a h
    exact this
  · unfold ln
    rw [List.getD_eq_getElem?_getD, List.getElem?_eq_none (by exact Nat.le_of_not_lt h)]
    exact Nat.zero_le _
theorem i_nn {i : Int32} (h : ¬ i < 0) : i.toInt = (i.toNatClampNeg : Int) := by
  have h0 : (0 : Int) ≤ i.toInt := by
    have := Int32.not_lt.mp h
    simpa using Int32.le_iff_toInt_le.mp this
  show i.toInt = ((i.toInt.toNat : Nat) : Int)
  omega
theorem ln_cmp {a : Nat} {i : Int32} (h : ¬ i < 0) : Int32.ofNat (ln a) ≤ i ↔ ln a ≤ i.toNatClampNeg := by
  have h1 := ln_le a
  have h2 : (Int32.ofNat (ln a)).toInt = (ln a : Int) := Int32.toInt_ofNat_of_lt (by omega)
  rw [Int32.le_iff_toInt_le, h2, i_nn h]
  omega

section XCT
variable {β : Type} {φ : β → Option Value × XS} {l : Launch} {g : XG} {d d1 : Nat} {M N : XM} {pc n idx k0 : Nat} {L : List (Nat × Value)} {st stk As : List Value} {S : XS} {R : Option β}
theorem X_callV1I {v : Int32} {S1 : XS} {a ci Nn : Nat} {T : u_T} {tyf : Nat → FieldType} (hd : decode M.2.1 pc = .ok (.invokevirtual idx, 3)) (hn : pc + 3 = n) (hC : Cl φI l g d1 N (.ref a :: As) S (some (v, S1))) (hdd : d1 + 1 ≤ d) (hlk : Cond.methodLink M.1.cls idx N.1 ∈ TT) (hf : MFv N k0) (hlen : As.length = k0) (hk : kd a = ci) (hX : XF ci N.1.cls T Nn tyf) (hstk : As.reverse ++ .ref a :: st = stk) (hcat : (st.map fun v => v.category).sum ≤ 8) (kk : X φ l g d M n L (.int v :: st) S1 R) : X φ l g d M pc L stk S R := X_callV1 hd hn hC hdd hlk hf hlen hk hX hstk hcat kk
theorem X_callVI {Rc : Option (Int32 × XS)} {G : Int32 × XS → Option β} {a ci Nn : Nat} {T : u_T} {tyf : Nat → FieldType} (hd : decode M.2.1 pc = .ok (.invokevirtual idx, 3)) (hn : pc + 3 = n) (hC : Cl φI l g d1 N (.ref a :: As) S Rc) (hdd : d1 + 1 ≤ d) (hlk : Cond.methodLink M.1.cls idx N.1 ∈ TT) (hf : MFv N k0) (hlen : As.length = k0) (hk : kd a = ci) (hX : XF ci N.1.cls T Nn tyf) (hstk : As.reverse ++ .ref a :: st = stk) (hcat : (st.map fun v => v.category).sum ≤ 8) (kk : ∀ (v : Int32) (S1 : XS), Rc = some (v, S1) → X φ l g d M n L (.int v :: st) S1 (G (v, S1))) : X φ l g d M pc L stk S (Rc.bind G) := X_callV hd hn hC hdd hlk hf hlen hk hX hstk hcat (fun q hq => kk q.1 q.2 hq)
theorem X_callV1B {v : Bool} {S1 : XS} {a ci Nn : Nat} {T : u_T} {tyf : Nat → FieldType} (hd : decode M.2.1 pc = .ok (.invokevirtual idx, 3)) (hn : pc + 3 = n) (hC : Cl φB l g d1 N (.ref a :: As) S (some (v, S1))) (hdd : d1 + 1 ≤ d) (hlk : Cond.methodLink M.1.cls idx N.1 ∈ TT) (hf : MFv N k0) (hlen : As.length = k0) (hk : kd a = ci) (hX : XF ci N.1.cls T Nn tyf) (hstk : As.reverse ++ .ref a :: st = stk) (hcat : (st.map fun v => v.category).sum ≤ 8) (kk : X φ l g d M n L (.int (bi v) :: st) S1 R) : X φ l g d M pc L stk S R := X_callV1 hd hn hC hdd hlk hf hlen hk hX hstk hcat kk
theorem X_callVB {Rc : Option (Bool × XS)} {G : Bool × XS → Option β} {a ci Nn : Nat} {T : u_T} {tyf : Nat → FieldType} (hd : decode M.2.1 pc = .ok (.invokevirtual idx, 3)) (hn : pc + 3 = n) (hC : Cl φB l g d1 N (.ref a :: As) S Rc) (hdd : d1 + 1 ≤ d) (hlk : Cond.methodLink M.1.cls idx N.1 ∈ TT) (hf : MFv N k0) (hlen : As.length = k0) (hk : kd a = ci) (hX : XF ci N.1.cls T Nn tyf) (hstk : As.reverse ++ .ref a :: st = stk) (hcat : (st.map fun v => v.category).sum ≤ 8) (kk : ∀ (v : Bool) (S1 : XS), Rc = some (v, S1) → X φ l g d M n L (.int (bi v) :: st) S1 (G (v, S1))) : X φ l g d M pc L stk S (Rc.bind G) := X_callV hd hn hC hdd hlk hf hlen hk hX hstk hcat (fun q hq => kk q.1 q.2 hq)
theorem X_callV1J {v : Int64} {S1 : XS} {a ci Nn : Nat} {T : u_T} {tyf : Nat → FieldType} (hd : decode M.2.1 pc = .ok (.invokevirtual idx, 3)) (hn : pc + 3 = n) (hC : Cl φL l g d1 N (.ref a :: As) S (some (v, S1))) (hdd : d1 + 1 ≤ d) (hlk : Cond.methodLink M.1.cls idx N.1 ∈ TT) (hf : MFv N k0) (hlen : As.length = k0) (hk : kd a = ci) (hX : XF ci N.1.cls T Nn tyf) (hstk : As.reverse ++ .ref a :: st = stk) (hcat : (st.map fun v => v.category).sum ≤ 8) (kk : X φ l g d M n L (.long v :: st) S1 R) : X φ l g d M pc L stk S R := X_callV1 hd hn hC hdd hlk hf hlen hk hX hstk hcat kk
theorem X_callVJ {Rc : Option (Int64 × XS)} {G : Int64 × XS → Option β} {a ci Nn : Nat} {T : u_T} {tyf : Nat → FieldType} (hd : decode M.2.1 pc = .ok (.invokevirtual idx, 3)) (hn : pc + 3 = n) (hC : Cl φL l g d1 N (.ref a :: As) S Rc) (hdd : d1 + 1 ≤ d) (hlk : Cond.methodLink M.1.cls idx N.1 ∈ TT) (hf : MFv N k0) (hlen : As.length = k0) (hk : kd a = ci) (hX : XF ci N.1.cls T Nn tyf) (hstk : As.reverse ++ .ref a :: st = stk) (hcat : (st.map fun v => v.category).sum ≤ 8) (kk : ∀ (v : Int64) (S1 : XS), Rc = some (v, S1) → X φ l g d M n L (.long v :: st) S1 (G (v, S1))) : X φ l g d M pc L stk S (Rc.bind G) := X_callV hd hn hC hdd hlk hf hlen hk hX hstk hcat (fun q hq => kk q.1 q.2 hq)
theorem X_callV1V {S1 : XS} {a ci Nn : Nat} {T : u_T} {tyf : Nat → FieldType} (hd : decode M.2.1 pc = .ok (.invokevirtual idx, 3)) (hn : pc + 3 = n) (hC : Cl φV l g d1 N (.ref a :: As) S (some S1)) (hdd : d1 + 1 ≤ d) (hlk : Cond.methodLink M.1.cls idx N.1 ∈ TT) (hf : MFv N k0) (hlen : As.length = k0) (hk : kd a = ci) (hX : XF ci N.1.cls T Nn tyf) (hstk : As.reverse ++ .ref a :: st = stk) (hcat : (st.map fun v => v.category).sum ≤ 8) (kk : X φ l g d M n L (st) S1 R) : X φ l g d M pc L stk S R := X_callV1 hd hn hC hdd hlk hf hlen hk hX hstk hcat kk
theorem X_callVV {Rc : Option (XS)} {G : XS → Option β} {a ci Nn : Nat} {T : u_T} {tyf : Nat → FieldType} (hd : decode M.2.1 pc = .ok (.invokevirtual idx, 3)) (hn : pc + 3 = n) (hC : Cl φV l g d1 N (.ref a :: As) S Rc) (hdd : d1 + 1 ≤ d) (hlk : Cond.methodLink M.1.cls idx N.1 ∈ TT) (hf : MFv N k0) (hlen : As.length = k0) (hk : kd a = ci) (hX : XF ci N.1.cls T Nn tyf) (hstk : As.reverse ++ .ref a :: st = stk) (hcat : (st.map fun v => v.category).sum ≤ 8) (kk : ∀ (S1 : XS), Rc = some S1 → X φ l g d M n L (st) S1 (G S1)) : X φ l g d M pc L stk S (Rc.bind G) := X_callV hd hn hC hdd hlk hf hlen hk hX hstk hcat (fun q hq => kk q hq)
theorem X_callS1I {v : Int32} {S1 : XS}  (hd : decode M.2.1 pc = .ok (.invokestatic idx, 3)) (hn : pc + 3 = n) (hC : Cl φI l g d1 N As S (some (v, S1))) (hdd : d1 + 1 ≤ d) (hlk : Cond.methodLink M.1.cls idx N.1 ∈ TT) (hf : MFs N k0) (hlen : As.length = k0) (hstk : As.reverse ++ st = stk) (hcat : (st.map fun v => v.category).sum ≤ 8) (kk : X φ l g d M n L (.int v :: st) S1 R) : X φ l g d M pc L stk S R := X_callS1 hd hn hC hdd hlk hf hlen hstk hcat kk
theorem X_callSI {Rc : Option (Int32 × XS)} {G : Int32 × XS → Option β}  (hd : decode M.2.1 pc = .ok (.invokestatic idx, 3)) (hn : pc + 3 = n) (hC : Cl φI l g d1 N As S Rc) (hdd : d1 + 1 ≤ d) (hlk : Cond.methodLink M.1.cls idx N.1 ∈ TT) (hf : MFs N k0) (hlen : As.length = k0) (hstk : As.reverse ++ st = stk) (hcat : (st.map fun v => v.category).sum ≤ 8) (kk : ∀ (v : Int32) (S1 : XS), Rc = some (v, S1) → X φ l g d M n L (.int v :: st) S1 (G (v, S1))) : X φ l g d M pc L stk S (Rc.bind G) := X_callS hd hn hC hdd hlk hf hlen hstk hcat (fun q hq => kk q.1 q.2 hq)
theorem X_callS1B {v : Bool} {S1 : XS}  (hd : decode M.2.1 pc = .ok (.invokestatic idx, 3)) (hn : pc + 3 = n) (hC : Cl φB l g d1 N As S (some (v, S1))) (hdd : d1 + 1 ≤ d) (hlk : Cond.methodLink M.1.cls idx N.1 ∈ TT) (hf : MFs N k0) (hlen : As.length = k0) (hstk : As.reverse ++ st = stk) (hcat : (st.map fun v => v.category).sum ≤ 8) (kk : X φ l g d M n L (.int (bi v) :: st) S1 R) : X φ l g d M pc L stk S R := X_callS1 hd hn hC hdd hlk hf hlen hstk hcat kk
theorem X_callSB {Rc : Option (Bool × XS)} {G : Bool × XS → Option β}  (hd : decode M.2.1 pc = .ok (.invokestatic idx, 3)) (hn : pc + 3 = n) (hC : Cl φB l g d1 N As S Rc) (hdd : d1 + 1 ≤ d) (hlk : Cond.methodLink M.1.cls idx N.1 ∈ TT) (hf : MFs N k0) (hlen : As.length = k0) (hstk : As.reverse ++ st = stk) (hcat : (st.map fun v => v.category).sum ≤ 8) (kk : ∀ (v : Bool) (S1 : XS), Rc = some (v, S1) → X φ l g d M n L (.int (bi v) :: st) S1 (G (v, S1))) : X φ l g d M pc L stk S (Rc.bind G) := X_callS hd hn hC hdd hlk hf hlen hstk hcat (fun q hq => kk q.1 q.2 hq)
theorem X_callS1J {v : Int64} {S1 : XS}  (hd : decode M.2.1 pc = .ok (.invokestatic idx, 3)) (hn : pc + 3 = n) (hC : Cl φL l g d1 N As S (some (v, S1))) (hdd : d1 + 1 ≤ d) (hlk : Cond.methodLink M.1.cls idx N.1 ∈ TT) (hf : MFs N k0) (hlen : As.length = k0) (hstk : As.reverse ++ st = stk) (hcat : (st.map fun v => v.category).sum ≤ 8) (kk : X φ l g d M n L (.long v :: st) S1 R) : X φ l g d M pc L stk S R := X_callS1 hd hn hC hdd hlk hf hlen hstk hcat kk
theorem X_callSJ {Rc : Option (Int64 × XS)} {G : Int64 × XS → Option β}  (hd : decode M.2.1 pc = .ok (.invokestatic idx, 3)) (hn : pc + 3 = n) (hC : Cl φL l g d1 N As S Rc) (hdd : d1 + 1 ≤ d) (hlk : Cond.methodLink M.1.cls idx N.1 ∈ TT) (hf : MFs N k0) (hlen : As.length = k0) (hstk : As.reverse ++ st = stk) (hcat : (st.map fun v => v.category).sum ≤ 8) (kk : ∀ (v : Int64) (S1 : XS), Rc = some (v, S1) → X φ l g d M n L (.long v :: st) S1 (G (v, S1))) : X φ l g d M pc L stk S (Rc.bind G) := X_callS hd hn hC hdd hlk hf hlen hstk hcat (fun q hq => kk q.1 q.2 hq)
theorem X_callS1V {S1 : XS}  (hd : decode M.2.1 pc = .ok (.invokestatic idx, 3)) (hn : pc + 3 = n) (hC : Cl φV l g d1 N As S (some S1)) (hdd : d1 + 1 ≤ d) (hlk : Cond.methodLink M.1.cls idx N.1 ∈ TT) (hf : MFs N k0) (hlen : As.length = k0) (hstk : As.reverse ++ st = stk) (hcat : (st.map fun v => v.category).sum ≤ 8) (kk : X φ l g d M n L (st) S1 R) : X φ l g d M pc L stk S R := X_callS1 hd hn hC hdd hlk hf hlen hstk hcat kk
theorem X_callSV {Rc : Option (XS)} {G : XS → Option β}  (hd : decode M.2.1 pc = .ok (.invokestatic idx, 3)) (hn : pc + 3 = n) (hC : Cl φV l g d1 N As S Rc) (hdd : d1 + 1 ≤ d) (hlk : Cond.methodLink M.1.cls idx N.1 ∈ TT) (hf : MFs N k0) (hlen : As.length = k0) (hstk : As.reverse ++ st = stk) (hcat : (st.map fun v => v.category).sum ≤ 8) (kk : ∀ (S1 : XS), Rc = some S1 → X φ l g d M n L (st) S1 (G S1)) : X φ l g d M pc L stk S (Rc.bind G) := X_callS hd hn hC hdd hlk hf hlen hstk hcat (fun q hq => kk q hq)
theorem X_callN1I {v : Int32} {S1 : XS} {host : String} (hd : decode M.2.1 pc = .ok (.invokestatic idx, 3)) (hn : pc + 3 = n) (hC : Cl φI l g d1 N As S (some (v, S1))) (hdd : d1 + 1 ≤ d) (hlk : Cond.methodLinkNest M.1.cls idx N.1 host ∈ NW) (hf : MFs N k0) (hlen : As.length = k0) (hstk : As.reverse ++ st = stk) (hcat : (st.map fun v => v.category).sum ≤ 8) (kk : X φ l g d M n L (.int v :: st) S1 R) : X φ l g d M pc L stk S R := X_callN1 hd hn hC hdd hlk hf hlen hstk hcat kk
theorem X_callNI {Rc : Option (Int32 × XS)} {G : Int32 × XS → Option β} {host : String} (hd : decode M.2.1 pc = .ok (.invokestatic idx, 3)) (hn : pc + 3 = n) (hC : Cl φI l g d1 N As S Rc) (hdd : d1 + 1 ≤ d) (hlk : Cond.methodLinkNest M.1.cls idx N.1 host ∈ NW) (hf : MFs N k0) (hlen : As.length = k0) (hstk : As.reverse ++ st = stk) (hcat : (st.map fun v => v.category).sum ≤ 8) (kk : ∀ (v : Int32) (S1 : XS), Rc = some (v, S1) → X φ l g d M n L (.int v :: st) S1 (G (v, S1))) : X φ l g d M pc L stk S (Rc.bind G) := X_callN hd hn hC hdd hlk hf hlen hstk hcat (fun q hq => kk q.1 q.2 hq)
theorem X_callN1B {v : Bool} {S1 : XS} {host : String} (hd : decode M.2.1 pc = .ok (.invokestatic idx, 3)) (hn : pc + 3 = n) (hC : Cl φB l g d1 N As S (some (v, S1))) (hdd : d1 + 1 ≤ d) (hlk : Cond.methodLinkNest M.1.cls idx N.1 host ∈ NW) (hf : MFs N k0) (hlen : As.length = k0) (hstk : As.reverse ++ st = stk) (hcat : (st.map fun v => v.category).sum ≤ 8) (kk : X φ l g d M n L (.int (bi v) :: st) S1 R) : X φ l g d M pc L stk S R := X_callN1 hd hn hC hdd hlk hf hlen hstk hcat kk
theorem X_callNB {Rc : Option (Bool × XS)} {G : Bool × XS → Option β} {host : String} (hd : decode M.2.1 pc = .ok (.invokestatic idx, 3)) (hn : pc + 3 = n) (hC : Cl φB l g d1 N As S Rc) (hdd : d1 + 1 ≤ d) (hlk : Cond.methodLinkNest M.1.cls idx N.1 host ∈ NW) (hf : MFs N k0) (hlen : As.length = k0) (hstk : As.reverse ++ st = stk) (hcat : (st.map fun v => v.category).sum ≤ 8) (kk : ∀ (v : Bool) (S1 : XS), Rc = some (v, S1) → X φ l g d M n L (.int (bi v) :: st) S1 (G (v, S1))) : X φ l g d M pc L stk S (Rc.bind G) := X_callN hd hn hC hdd hlk hf hlen hstk hcat (fun q hq => kk q.1 q.2 hq)
theorem X_callN1J {v : Int64} {S1 : XS} {host : String} (hd : decode M.2.1 pc = .ok (.invokestatic idx, 3)) (hn : pc + 3 = n) (hC : Cl φL l g d1 N As S (some (v, S1))) (hdd : d1 + 1 ≤ d) (hlk : Cond.methodLinkNest M.1.cls idx N.1 host ∈ NW) (hf : MFs N k0) (hlen : As.length = k0) (hstk : As.reverse ++ st = stk) (hcat : (st.map fun v => v.category).sum ≤ 8) (kk : X φ l g d M n L (.long v :: st) S1 R) : X φ l g d M pc L stk S R := X_callN1 hd hn hC hdd hlk hf hlen hstk hcat kk
theorem X_callNJ {Rc : Option (Int64 × XS)} {G : Int64 × XS → Option β} {host : String} (hd : decode M.2.1 pc = .ok (.invokestatic idx, 3)) (hn : pc + 3 = n) (hC : Cl φL l g d1 N As S Rc) (hdd : d1 + 1 ≤ d) (hlk : Cond.methodLinkNest M.1.cls idx N.1 host ∈ NW) (hf : MFs N k0) (hlen : As.length = k0) (hstk : As.reverse ++ st = stk) (hcat : (st.map fun v => v.category).sum ≤ 8) (kk : ∀ (v : Int64) (S1 : XS), Rc = some (v, S1) → X φ l g d M n L (.long v :: st) S1 (G (v, S1))) : X φ l g d M pc L stk S (Rc.bind G) := X_callN hd hn hC hdd hlk hf hlen hstk hcat (fun q hq => kk q.1 q.2 hq)
theorem X_callN1V {S1 : XS} {host : String} (hd : decode M.2.1 pc = .ok (.invokestatic idx, 3)) (hn : pc + 3 = n) (hC : Cl φV l g d1 N As S (some S1)) (hdd : d1 + 1 ≤ d) (hlk : Cond.methodLinkNest M.1.cls idx N.1 host ∈ NW) (hf : MFs N k0) (hlen : As.length = k0) (hstk : As.reverse ++ st = stk) (hcat : (st.map fun v => v.category).sum ≤ 8) (kk : X φ l g d M n L (st) S1 R) : X φ l g d M pc L stk S R := X_callN1 hd hn hC hdd hlk hf hlen hstk hcat kk
theorem X_callNV {Rc : Option (XS)} {G : XS → Option β} {host : String} (hd : decode M.2.1 pc = .ok (.invokestatic idx, 3)) (hn : pc + 3 = n) (hC : Cl φV l g d1 N As S Rc) (hdd : d1 + 1 ≤ d) (hlk : Cond.methodLinkNest M.1.cls idx N.1 host ∈ NW) (hf : MFs N k0) (hlen : As.length = k0) (hstk : As.reverse ++ st = stk) (hcat : (st.map fun v => v.category).sum ≤ 8) (kk : ∀ (S1 : XS), Rc = some S1 → X φ l g d M n L (st) S1 (G S1)) : X φ l g d M pc L stk S (Rc.bind G) := X_callN hd hn hC hdd hlk hf hlen hstk hcat (fun q hq => kk q hq)
end XCT
def f_X11_at  (a0 : Nat) (i1 : Int32) (S : XS) : Option (Int32 × XS) := (if i1 < 0 then some ((0 : Int32), S) else (if (Int32.ofNat (ln a0)) ≤ i1 then some ((0 : Int32), S) else (if i1 < 0 ∨ ln a0 ≤ i1.toNatClampNeg then none else some ((S.1 a0 i1.toNatClampNeg), S))))
set_option maxHeartbeats 4000000 in
set_option maxRecDepth 100000 in
theorem w_X11_at {l : Launch} {g : XG}  {a0 : Nat} {i1 : Int32} {S : XS} (hk0 : kd a0 = 20) : Cl φI l g 1 mX11_at [.ref a0, .int i1] S (f_X11_at a0 i1 S) := by
  refine Cl.of (by decide +kernel) (Nat.le_of_ble_eq_true rfl) ?_
  unfold f_X11_at
  show X _ _ _ _ _ 0 [(0, .ref a0), (1, .int i1)] [] S _
  refine X_iload_n (n := 1) 1 (kX11_at 0 rfl) rfl rfl rfl ?_
  refine X_if_lt (n := 4) (tgt := 16) (kX11_at 1 rfl) rfl rfl (fun h1 => ?_) (fun h1 => ?_)
  · refine X_iconst (n := 17) (v := 0) (kX11_at 10 rfl) rfl (by decide) ?_
    exact X_iret rfl (kX11_at 11 rfl)
  · refine X_iload_n (n := 5) 1 (kX11_at 2 rfl) rfl rfl rfl ?_
    refine X_aload_n (n := 6) 0 (kX11_at 3 rfl) rfl rfl rfl ?_
    refine X_alenI (n := 7) (v := (Int32.ofNat (ln a0))) hk0 (kX11_at 4 rfl) rfl rfl ?_
    refine X_ic_ge (n := 10) (tgt := 16) (kX11_at 5 rfl) rfl rfl (fun h2 => ?_) (fun h2 => ?_)
    · refine X_iconst (n := 17) (v := 0) (kX11_at 10 rfl) rfl (by decide) ?_
      exact X_iret rfl (kX11_at 11 rfl)
    · refine X_aload_n (n := 11) 0 (kX11_at 6 rfl) rfl rfl rfl ?_
      refine X_iload_n (n := 12) 1 (kX11_at 7 rfl) rfl rfl rfl ?_
      refine X_iald (n := 13) hk0 (kX11_at 8 rfl) rfl (fun h3 => ?_)
      refine X_goto (tgt := 17) (kX11_at 9 rfl) rfl ?_
      exact X_iret rfl (kX11_at 11 rfl)
def f_X11_put  (a0 : Nat) (i1 : Int32) (i2 : Int32) (S : XS) : Option (XS) := (if i1 < 0 then some S else (if (Int32.ofNat (ln a0)) ≤ i1 then some S else (if i1 < 0 ∨ ln a0 ≤ i1.toNatClampNeg then none else some (sI S a0 i1.toNatClampNeg i2))))
set_option maxHeartbeats 4000000 in
set_option maxRecDepth 100000 in
theorem w_X11_put {l : Launch} {g : XG}  {a0 : Nat} {i1 : Int32} {i2 : Int32} {S : XS} (hk0 : kd a0 = 20) : Cl φV l g 1 mX11_put [.ref a0, .int i1, .int i2] S (f_X11_put a0 i1 i2 S) := by
  refine Cl.of (by decide +kernel) (Nat.le_of_ble_eq_true rfl) ?_
  unfold f_X11_put
  show X _ _ _ _ _ 0 [(0, .ref a0), (1, .int i1), (2, .int i2)] [] S _
  refine X_iload_n (n := 1) 1 (kX11_put 0 rfl) rfl rfl rfl ?_
  refine X_if_lt (n := 4) (tgt := 14) (kX11_put 1 rfl) rfl rfl (fun h1 => ?_) (fun h1 => ?_)
  · exact X_vret rfl (kX11_put 10 rfl)
  · refine X_iload_n (n := 5) 1 (kX11_put 2 rfl) rfl rfl rfl ?_
    refine X_aload_n (n := 6) 0 (kX11_put 3 rfl) rfl rfl rfl ?_
    refine X_alenI (n := 7) (v := (Int32.ofNat (ln a0))) hk0 (kX11_put 4 rfl) rfl rfl ?_
    refine X_ic_ge (n := 10) (tgt := 14) (kX11_put 5 rfl) rfl rfl (fun h2 => ?_) (fun h2 => ?_)
    · exact X_vret rfl (kX11_put 10 rfl)
    · refine X_aload_n (n := 11) 0 (kX11_put 6 rfl) rfl rfl rfl ?_
      refine X_iload_n (n := 12) 1 (kX11_put 7 rfl) rfl rfl rfl ?_
      refine X_iload_n (n := 13) 2 (kX11_put 8 rfl) rfl rfl rfl ?_
      refine X_iast (n := 14) hk0 (kX11_put 9 rfl) rfl (fun h3 => ?_)
      exact X_vret rfl (kX11_put 10 rfl)
def f_X11_copy  (a0 : Nat) (a1 : Nat) (S : XS) : Option (XS) := (if (if (Int32.ofNat (ln a1)) < (Int32.ofNat (ln a0)) then (Int32.ofNat (ln a1)) else (Int32.ofNat (ln a0))) < 0 ∨ ln a0 < (if (Int32.ofNat (ln a1)) < (Int32.ofNat (ln a0)) then (Int32.ofNat (ln a1)) else (Int32.ofNat (ln a0))).toNatClampNeg ∨ ln a1 < (if (Int32.ofNat (ln a1)) < (Int32.ofNat (ln a0)) then (Int32.ofNat (ln a1)) else (Int32.ofNat (ln a0))).toNatClampNeg then none else some (cpI S a0 a1 (if (Int32.ofNat (ln a1)) < (Int32.ofNat (ln a0)) then (Int32.ofNat (ln a1)) else (Int32.ofNat (ln a0))).toNatClampNeg))
set_option maxHeartbeats 4000000 in
set_option maxRecDepth 100000 in
theorem w_X11_copy {l : Launch} {g : XG}  {a0 : Nat} {a1 : Nat} {S : XS} (hk0 : kd a0 = 20) (hk1 : kd a1 = 20) : Cl φV l g 1 mX11_copy [.ref a0, .ref a1] S (f_X11_copy a0 a1 S) := by
  refine Cl.of (by decide +kernel) (Nat.le_of_ble_eq_true rfl) ?_
  unfold f_X11_copy
  show X _ _ _ _ _ 0 [(0, .ref a0), (1, .ref a1)] [] S _
  refine X_aload_n (n := 1) 0 (kX11_copy 0 rfl) rfl rfl rfl ?_
  refine X_iconst (n := 2) (v := 0) (kX11_copy 1 rfl) rfl (by decide) ?_
  refine X_aload_n (n := 3) 1 (kX11_copy 2 rfl) rfl rfl rfl ?_
  refine X_iconst (n := 4) (v := 0) (kX11_copy 3 rfl) rfl (by decide) ?_
  refine X_aload_n (n := 5) 0 (kX11_copy 4 rfl) rfl rfl rfl ?_
  refine X_alenI (n := 6) (v := (Int32.ofNat (ln a0))) hk0 (kX11_copy 5 rfl) rfl rfl ?_
  refine X_aload_n (n := 7) 1 (kX11_copy 6 rfl) rfl rfl rfl ?_
  refine X_alenI (n := 8) (v := (Int32.ofNat (ln a1))) hk1 (kX11_copy 7 rfl) rfl rfl ?_
  refine X_mmin (n := 11) (kX11_copy 8 rfl) rfl (by decide) ml_X11_371 ms1_min ms2 ms3_min (Nat.le_of_ble_eq_true rfl) ?_
  refine X_copyI (n := 14) hk0 hk1 (kX11_copy 9 rfl) rfl (by decide) ml_X11_378 mc_n mc_s mc_i (Nat.le_of_ble_eq_true rfl) (fun h1 => ?_)
  exact X_vret rfl (kX11_copy 10 rfl)
def f_J7_fill_53178_L5  (i3 : Int32) (a0 : Nat) (i1 : Int32) : Nat → Int32 → XS → Option (XS)
  | 0, _, _ => none
  | n + 1, i2, S => (if i3 ≤ i2 then some S else (if i2 < 0 ∨ ln a0 ≤ i2.toNatClampNeg then none else f_J7_fill_53178_L5 i3 a0 i1 n (i2 + 1) (sI S a0 i2.toNatClampNeg i1)))
def f_J7_fill_53178  (a0 : Nat) (i1 : Int32) (S : XS) : Option (XS) := ((f_J7_fill_53178_L5 (Int32.ofNat (ln a0)) a0 i1 1000000 (0 : Int32) S).bind (fun S3 => some S3))
set_option maxHeartbeats 4000000 in
set_option maxRecDepth 100000 in
theorem w_J7_fill_53178_L5 {l : Launch} {g : XG} {G : (XS) → Option (XS)}  {i3 : Int32} {a0 : Nat} {i1 : Int32} (hk0 : kd a0 = 20) (kE : ∀ (S1 : XS), X φV l g 1 mJ7_fill_53178 20 [] [] S1 (G S1)) : ∀ (n : Nat) (i2 : Int32) (S : XS), X φV l g 1 mJ7_fill_53178 5 [(3, .int i3), (2, .int i2), (0, .ref a0), (1, .int i1)] [] S ((f_J7_fill_53178_L5 i3 a0 i1 n i2 S).bind G) := by
  intro n
  induction n with
  | zero => intro i2 S; exact X_none
  | succ n ih =>
  · intro i2 S
    rw [f_J7_fill_53178_L5]
    refine X_iload_n (n := 6) 1 (kJ7_fill_53178 5 rfl) rfl rfl rfl ?_
    refine X_iload_n (n := 7) 0 (kJ7_fill_53178 6 rfl) rfl rfl rfl ?_
    refine X_itebind ?_
    refine X_ic_ge (n := 10) (tgt := 20) (kJ7_fill_53178 7 rfl) rfl rfl (fun h1 => ?_) (fun h1 => ?_)
    · exact X_L [] rfl (kE S)
    · refine X_aload_n (n := 11) 2 (kJ7_fill_53178 8 rfl) rfl rfl rfl ?_
      refine X_iload_n (n := 12) 1 (kJ7_fill_53178 9 rfl) rfl rfl rfl ?_
      refine X_iload_n (n := 13) 3 (kJ7_fill_53178 10 rfl) rfl rfl rfl ?_
      refine X_itebind ?_
      refine X_iast (n := 14) hk0 (kJ7_fill_53178 11 rfl) rfl (fun h2 => ?_)
      refine X_iinc (n := 17) 1 (v := (i2 + 1)) (L1 := [(2, .int (i2 + 1)), (3, .int i3), (0, .ref a0), (1, .int i1)]) (kJ7_fill_53178 12 rfl) rfl rfl rfl (Nat.le_of_ble_eq_true rfl) rfl ?_
      refine X_goto (tgt := 5) (kJ7_fill_53178 13 rfl) rfl ?_
      exact X_L [1, 0, 2, 3] rfl (ih (i2 + 1) (sI S a0 i2.toNatClampNeg i1))
set_option maxHeartbeats 4000000 in
set_option maxRecDepth 100000 in
theorem w_J7_fill_53178 {l : Launch} {g : XG}  {a0 : Nat} {i1 : Int32} {S : XS} (hk0 : kd a0 = 20) : Cl φV l g 1 mJ7_fill_53178 [.ref a0, .int i1] S (f_J7_fill_53178 a0 i1 S) := by
  refine Cl.of (by decide +kernel) (Nat.le_of_ble_eq_true rfl) ?_
  unfold f_J7_fill_53178
  show X _ _ _ _ _ 0 [(0, .ref a0), (1, .int i1)] [] S _
  refine X_iconst (n := 1) (v := 0) (kJ7_fill_53178 0 rfl) rfl (by decide) ?_
  refine X_istore_n (n := 2) (L1 := [(2, .int 0), (0, .ref a0), (1, .int i1)]) (kJ7_fill_53178 1 rfl) rfl rfl (Nat.le_of_ble_eq_true rfl) rfl ?_
  refine X_aload_n (n := 3) 1 (kJ7_fill_53178 2 rfl) rfl rfl rfl ?_
  refine X_alenI (n := 4) (v := (Int32.ofNat (ln a0))) hk0 (kJ7_fill_53178 3 rfl) rfl rfl ?_
  refine X_istore_n (n := 5) (L1 := [(3, .int (Int32.ofNat (ln a0))), (2, .int 0), (0, .ref a0), (1, .int i1)]) (kJ7_fill_53178 4 rfl) rfl rfl (Nat.le_of_ble_eq_true rfl) rfl ?_
  refine X_L [0, 1, 2, 3] rfl (w_J7_fill_53178_L5 hk0 (fun S3 => ?_) 1000000 (0 : Int32) S)
  try dsimp only
  exact X_vret rfl (kJ7_fill_53178 14 rfl)
def f_J7_fill_d0a16_L6  (i4 : Int32) (a0 : Nat) (j1 : Int64) : Nat → Int32 → XS → Option (XS)
  | 0, _, _ => none
  | n + 1, i3, S => (if i4 ≤ i3 then some S else (if i3 < 0 ∨ ln a0 ≤ i3.toNatClampNeg then none else f_J7_fill_d0a16_L6 i4 a0 j1 n (i3 + 1) (sL S a0 i3.toNatClampNeg j1)))
def f_J7_fill_d0a16  (a0 : Nat) (j1 : Int64) (S : XS) : Option (XS) := ((f_J7_fill_d0a16_L6 (Int32.ofNat (ln a0)) a0 j1 1000000 (0 : Int32) S).bind (fun S3 => some S3))
set_option maxHeartbeats 4000000 in
set_option maxRecDepth 100000 in
theorem w_J7_fill_d0a16_L6 {l : Launch} {g : XG} {G : (XS) → Option (XS)}  {i4 : Int32} {a0 : Nat} {j1 : Int64} (hk0 : kd a0 = 21) (kE : ∀ (S1 : XS), X φV l g 1 mJ7_fill_d0a16 22 [] [] S1 (G S1)) : ∀ (n : Nat) (i3 : Int32) (S : XS), X φV l g 1 mJ7_fill_d0a16 6 [(4, .int i4), (3, .int i3), (0, .ref a0), (1, .long j1)] [] S ((f_J7_fill_d0a16_L6 i4 a0 j1 n i3 S).bind G) := by
  intro n
  induction n with
  | zero => intro i3 S; exact X_none
  | succ n ih =>
  · intro i3 S
    rw [f_J7_fill_d0a16_L6]
    refine X_iload_n (n := 7) 1 (kJ7_fill_d0a16 5 rfl) rfl rfl rfl ?_
    refine X_iload (n := 9) 0 (kJ7_fill_d0a16 6 rfl) rfl rfl ?_
    refine X_itebind ?_
    refine X_ic_ge (n := 12) (tgt := 22) (kJ7_fill_d0a16 7 rfl) rfl rfl (fun h1 => ?_) (fun h1 => ?_)
    · exact X_L [] rfl (kE S)
    · refine X_aload_n (n := 13) 2 (kJ7_fill_d0a16 8 rfl) rfl rfl rfl ?_
      refine X_iload_n (n := 14) 1 (kJ7_fill_d0a16 9 rfl) rfl rfl rfl ?_
      refine X_lload_n (n := 15) 3 (kJ7_fill_d0a16 10 rfl) rfl rfl rfl ?_
      refine X_itebind ?_
      refine X_last (n := 16) hk0 (kJ7_fill_d0a16 11 rfl) rfl (fun h2 => ?_)
      refine X_iinc (n := 19) 1 (v := (i3 + 1)) (L1 := [(3, .int (i3 + 1)), (4, .int i4), (0, .ref a0), (1, .long j1)]) (kJ7_fill_d0a16 12 rfl) rfl rfl rfl (Nat.le_of_ble_eq_true rfl) rfl ?_
      refine X_goto (tgt := 6) (kJ7_fill_d0a16 13 rfl) rfl ?_
      exact X_L [1, 0, 2, 3] rfl (ih (i3 + 1) (sL S a0 i3.toNatClampNeg j1))
set_option maxHeartbeats 4000000 in
set_option maxRecDepth 100000 in
theorem w_J7_fill_d0a16 {l : Launch} {g : XG}  {a0 : Nat} {j1 : Int64} {S : XS} (hk0 : kd a0 = 21) : Cl φV l g 1 mJ7_fill_d0a16 [.ref a0, .long j1] S (f_J7_fill_d0a16 a0 j1 S) := by
  refine Cl.of (by decide +kernel) (Nat.le_of_ble_eq_true rfl) ?_
  unfold f_J7_fill_d0a16
  show X _ _ _ _ _ 0 [(0, .ref a0), (1, .long j1)] [] S _
  refine X_iconst (n := 1) (v := 0) (kJ7_fill_d0a16 0 rfl) rfl (by decide) ?_
  refine X_istore_n (n := 2) (L1 := [(3, .int 0), (0, .ref a0), (1, .long j1)]) (kJ7_fill_d0a16 1 rfl) rfl rfl (Nat.le_of_ble_eq_true rfl) rfl ?_
  refine X_aload_n (n := 3) 1 (kJ7_fill_d0a16 2 rfl) rfl rfl rfl ?_
  refine X_alenJ (n := 4) (v := (Int32.ofNat (ln a0))) hk0 (kJ7_fill_d0a16 3 rfl) rfl rfl ?_
  refine X_istore (n := 6) (L1 := [(4, .int (Int32.ofNat (ln a0))), (3, .int 0), (0, .ref a0), (1, .long j1)]) (kJ7_fill_d0a16 4 rfl) rfl (Nat.le_of_ble_eq_true rfl) rfl ?_
  refine X_L [0, 1, 2, 3] rfl (w_J7_fill_d0a16_L6 hk0 (fun S3 => ?_) 1000000 (0 : Int32) S)
  try dsimp only
  exact X_vret rfl (kJ7_fill_d0a16 14 rfl)
theorem at_spec (a : Nat) (i : Int32) (S : XS) : f_X11_at a i S = some (gat S a i, S) := by
  unfold f_X11_at gat
  by_cases h : i < 0
  · rw [if_pos h, if_pos (Or.inl h)]
  · rw [if_neg h]
    by_cases h2 : ln a ≤ i.toNatClampNeg
    · rw [if_pos ((ln_cmp h).mpr h2), if_pos (Or.inr h2)]
    · rw [if_neg (fun q => h2 ((ln_cmp h).mp q)), if_neg (fun q => q.elim h h2), if_neg (fun q => q.elim h h2)]
theorem p_X11_at {l : Launch} {g : XG} {a : Nat} {i : Int32} {S : XS} (h : kd a = 20) : Cl φI l g 1 mX11_at [.ref a, .int i] S (some (gat S a i, S)) := at_spec a i S ▸ w_X11_at h
theorem put_spec (a : Nat) (i v : Int32) (S : XS) : f_X11_put a i v S = some (pat S a i v) := by
  unfold f_X11_put pat
  by_cases h : i < 0
  · rw [if_pos h, if_pos (Or.inl h)]
  · rw [if_neg h]
    by_cases h2 : ln a ≤ i.toNatClampNeg
    · rw [if_pos ((ln_cmp h).mpr h2), if_pos (Or.inr h2)]
    · rw [if_neg (fun q => h2 ((ln_cmp h).mp q)), if_neg (fun q => q.elim h h2), if_neg (fun q => q.elim h h2)]
theorem p_X11_put {l : Launch} {g : XG} {a : Nat} {i v : Int32} {S : XS} (h : kd a = 20) : Cl φV l g 1 mX11_put [.ref a, .int i, .int v] S (some (pat S a i v)) := put_spec a i v S ▸ w_X11_put h
/-- the whole of the shorter row -/
def cpy (S : XS) (a b : Nat) : XS := cpI S a b (min (ln a) (ln b))
theorem min_i (a b : Nat) : (if Int32.ofNat (ln b) < Int32.ofNat (ln a) then Int32.ofNat (ln b) else Int32.ofNat (ln a)) = Int32.ofNat (min (ln a) (ln b)) := by
  have h1 := ln_le a
  have h2 := ln_le b
  have e1 : (Int32.ofNat (ln a)).toInt = (ln a : Int) := Int32.toInt_ofNat_of_lt (by omega)
  have e2 : (Int32.ofNat (ln b)).toInt = (ln b : Int) := Int32.toInt_ofNat_of_lt (by omega)
  by_cases h : ln b < ln a
  · rw [if_pos (by rw [Int32.lt_iff_toInt_lt, e1, e2]; omega), Nat.min_eq_right (by omega)]
  · rw [if_neg (by rw [Int32.lt_iff_toInt_lt, e1, e2]; omega), Nat.min_eq_left (by omega)]
theorem tn_of {n : Nat} (h : n < 2147483648) : (Int32.ofNat n).toNatClampNeg = n := by
  have e1 : (Int32.ofNat n).toInt = (n : Int) := Int32.toInt_ofNat_of_lt h
  show ((Int32.ofNat n).toInt).toNat = n
  rw [e1]; rfl
theorem nn_of {n : Nat} (h : n < 2147483648) : ¬ (Int32.ofNat n) < 0 := by
  have e1 : (Int32.ofNat n).toInt = (n : Int) := Int32.toInt_ofNat_of_lt h
  rw [Int32.lt_iff_toInt_lt, e1]
  have : (0 : Int32).toInt = 0 := by decide
  omega
theorem copy_spec (a b : Nat) (S : XS) : f_X11_copy a b S = some (cpy S a b) := by
  unfold f_X11_copy cpy
  have h1 := ln_le a
  have h2 := ln_le b
  simp only [min_i]
  rw [if_neg, tn_of (by omega)]
  rw [tn_of (by omega)]
  rintro (h | h | h)
  · exact nn_of (by omega) h
  · omega
  · omega
theorem p_X11_copy {l : Launch} {g : XG} {a b : Nat} {S : XS} (h : kd a = 20) (h' : kd b = 20) : Cl φV l g 1 mX11_copy [.ref a, .ref b] S (some (cpy S a b)) := copy_spec a b S ▸ w_X11_copy h h'

theorem X_getMN {β : Type} {φ : β → Option Value × XS} {l : Launch} {g : XG} {d : Nat} {M : XM} {pc n idx : Nat} {L : List (Nat × Value)} {st : List Value} {S : XS} {R : Option β} {host : String} (hlk : Cond.fieldLinkNest M.1.cls idx "ScentCourt" "MOST_LINES" "[I" host ∈ NW) (hd : decode M.2.1 pc = .ok (.getstatic idx, 3)) (hn : pc + 3 = n) (k : X φ l g d M n L (.ref KK :: st) S R) : X φ l g d M pc L st S R := by
  subst hn
  intro q hq p e s m args below meth c C K H locs ls hH hS hl
  exact va_getsN C.1 C.2.1 K.2.2.1 hS C.2.2.2.2.1 (va_Nw.use rfl (K.2.1 _ hlk)) (fun _ h => h) hd (k q hq _ _ _ _ _ _ _ _ C K _ _ _ hH hS hl)
theorem nf_X2_9 : Cond.fieldLinkNest RX2 9 "ScentCourt" "MOST_LINES" "[I" "ScentCourt" ∈ NW := (NQ1 151 rfl rfl)
theorem nf_X3_66 : Cond.fieldLinkNest RX3 66 "ScentCourt" "MOST_LINES" "[I" "ScentCourt" ∈ NW := (NQ3 134 rfl rfl)
def mostI (i : Int32) : Int32 := if i < 0 then 0 else if (6 : Int32) ≤ i then 0 else ([6, 6, 6, 6, 20, 6] : List Int32).getD i.toNatClampNeg 0
theorem p_X11_atM {l : Launch} {g : XG} {i1 : Int32} {S : XS} : Cl φI l g 1 mX11_at [.ref KK, .int i1] S (some (mostI i1, S)) := by
  refine Cl.of (by decide +kernel) (Nat.le_of_ble_eq_true rfl) ?_
  rw [show (some (mostI i1, S)) = (if i1 < 0 then some (0, S) else if (6 : Int32) ≤ i1 then some (0, S) else some (([6, 6, 6, 6, 20, 6] : List Int32).getD i1.toNatClampNeg 0, S)) from by unfold mostI; rw [ite_p, ite_p]]
  show X _ _ _ _ _ 0 [(0, .ref KK), (1, .int i1)] [] S _
  refine X_iload_n (n := 1) 1 (kX11_at 0 rfl) rfl rfl rfl ?_
  refine X_if_lt (n := 4) (tgt := 16) (kX11_at 1 rfl) rfl rfl (fun h1 => ?_) (fun h1 => ?_)
  · refine X_iconst (n := 17) (v := 0) (kX11_at 10 rfl) rfl (by decide) ?_
    exact X_iret rfl (kX11_at 11 rfl)
  · refine X_iload_n (n := 5) 1 (kX11_at 2 rfl) rfl rfl rfl ?_
    refine X_aload_n (n := 6) 0 (kX11_at 3 rfl) rfl rfl rfl ?_
    refine X_alenM (n := 7) (v := 6) (kX11_at 4 rfl) rfl rfl ?_
    refine X_ic_ge (n := 10) (tgt := 16) (kX11_at 5 rfl) rfl rfl (fun h2 => ?_) (fun h2 => ?_)
    · refine X_iconst (n := 17) (v := 0) (kX11_at 10 rfl) rfl (by decide) ?_
      exact X_iret rfl (kX11_at 11 rfl)
    · refine X_aload_n (n := 11) 0 (kX11_at 6 rfl) rfl rfl rfl ?_
      refine X_iload_n (n := 12) 1 (kX11_at 7 rfl) rfl rfl rfl ?_
      refine X_ialdM (n := 13) (kX11_at 8 rfl) rfl (fun q => ?_) rfl ?_
      · rcases q with q | q
        · exact h1 q
        · refine h2 ?_
          rw [Int32.le_iff_toInt_le, i_nn h1]
          have e6 : (6 : Int32).toInt = 6 := by decide
          omega
      · refine X_goto (tgt := 17) (kX11_at 9 rfl) rfl ?_
        exact X_iret rfl (kX11_at 11 rfl)

theorem oN_1 (i : Nat) : Int32.ofNat i + 1 = Int32.ofNat (i + 1) := by rw [Int32.ofNat_add]; rfl
theorem oN_le {i k : Nat} (hi : i < 2147483648) (hk : k < 2147483648) : Int32.ofNat i ≤ Int32.ofNat k ↔ i ≤ k := by
  rw [Int32.le_iff_toInt_le, Int32.toInt_ofNat_of_lt hi, Int32.toInt_ofNat_of_lt hk]
  omega
theorem oN_lt {i k : Nat} (hi : i < 2147483648) (hk : k < 2147483648) : Int32.ofNat i < Int32.ofNat k ↔ i < k := by
  rw [Int32.lt_iff_toInt_lt, Int32.toInt_ofNat_of_lt hi, Int32.toInt_ofNat_of_lt hk]
  omega
theorem oob_of {a i : Nat} (h : i < ln a) : ¬ (Int32.ofNat i < 0 ∨ ln a ≤ (Int32.ofNat i).toNatClampNeg) := by
  have h1 := ln_le a
  rw [tn_of (by omega)]
  rintro (q | q)
  · exact nn_of (by omega) q
  · omega
def filI (S : XS) (a : Nat) (v : Int32) : XS := (fun k j => if k = a ∧ j < ln a then v else S.1 k j, S.2)
def filJ (S : XS) (a : Nat) (v : Int64) : XS := (S.1, fun k j => if k = a ∧ j < ln a then v else S.2 k j)
theorem fill_L (a : Nat) (v : Int32) : ∀ (m i n : Nat) (S : XS), i + m = ln a → m < n → f_J7_fill_53178_L5 (Int32.ofNat (ln a)) a v n (Int32.ofNat i) S = some (fun k j => if k = a ∧ i ≤ j ∧ j < ln a then v else S.1 k j, S.2) := by
  have h1 := ln_le a
  intro m
  induction m with
  | zero =>
    intro i n S hi hn
    obtain ⟨n, rfl⟩ : ∃ q, n = q + 1 := ⟨n - 1, by omega⟩
    rw [f_J7_fill_53178_L5, if_pos ((oN_le (by omega) (by omega)).mpr (by omega))]
    congr 1
    apply Prod.ext
    · funext k j
      show S.1 k j = if k = a ∧ i ≤ j ∧ j < ln a then v else S.1 k j
      rw [if_neg (by omega)]
    · rfl
  | succ m ih =>
    intro i n S hi hn
    obtain ⟨n, rfl⟩ : ∃ q, n = q + 1 := ⟨n - 1, by omega⟩
    rw [f_J7_fill_53178_L5, if_neg (fun q => by have := (oN_le (by omega) (by omega)).mp q; omega), if_neg (oob_of (by omega)), tn_of (by omega), oN_1, ih (i + 1) n _ (by omega) (by omega)]
    congr 1
    apply Prod.ext
    · funext k j
      show (if k = a ∧ i + 1 ≤ j ∧ j < ln a then v else (if k = a ∧ j = i then v else S.1 k j)) = if k = a ∧ i ≤ j ∧ j < ln a then v else S.1 k j
      by_cases c : k = a ∧ i ≤ j ∧ j < ln a
      · rw [if_pos c]
        by_cases c2 : j = i
        · rw [if_neg (by omega), if_pos ⟨c.1, c2⟩]
        · rw [if_pos (by omega)]
      · rw [if_neg c, if_neg (by omega), if_neg (by omega)]
    · rfl
theorem fillJ_L (a : Nat) (v : Int64) : ∀ (m i n : Nat) (S : XS), i + m = ln a → m < n → f_J7_fill_d0a16_L6 (Int32.ofNat (ln a)) a v n (Int32.ofNat i) S = some (S.1, fun k j => if k = a ∧ i ≤ j ∧ j < ln a then v else S.2 k j) := by
  have h1 := ln_le a
  intro m
  induction m with
  | zero =>
    intro i n S hi hn
    obtain ⟨n, rfl⟩ : ∃ q, n = q + 1 := ⟨n - 1, by omega⟩
    rw [f_J7_fill_d0a16_L6, if_pos ((oN_le (by omega) (by omega)).mpr (by omega))]
    congr 1
    apply Prod.ext
    · rfl
    · funext k j
      show S.2 k j = if k = a ∧ i ≤ j ∧ j < ln a then v else S.2 k j
      rw [if_neg (by omega)]
  | succ m ih =>
    intro i n S hi hn
    obtain ⟨n, rfl⟩ : ∃ q, n = q + 1 := ⟨n - 1, by omega⟩
    rw [f_J7_fill_d0a16_L6, if_neg (fun q => by have := (oN_le (by omega) (by omega)).mp q; omega), if_neg (oob_of (by omega)), tn_of (by omega), oN_1, ih (i + 1) n _ (by omega) (by omega)]
    congr 1
    apply Prod.ext
    · rfl
    · funext k j
      show (if k = a ∧ i + 1 ≤ j ∧ j < ln a then v else (if k = a ∧ j = i then v else S.2 k j)) = if k = a ∧ i ≤ j ∧ j < ln a then v else S.2 k j
      by_cases c : k = a ∧ i ≤ j ∧ j < ln a
      · rw [if_pos c]
        by_cases c2 : j = i
        · rw [if_neg (by omega), if_pos ⟨c.1, c2⟩]
        · rw [if_pos (by omega)]
      · rw [if_neg c, if_neg (by omega), if_neg (by omega)]
theorem fill_spec (a : Nat) (v : Int32) (S : XS) : f_J7_fill_53178 a v S = some (filI S a v) := by
  have h1 := ln_le a
  unfold f_J7_fill_53178
  rw [show (0 : Int32) = Int32.ofNat 0 from rfl, fill_L a v (ln a) 0 1000000 S (by omega) (by omega)]
  show some _ = some _
  congr 1
  apply Prod.ext
  · funext k j
    show (if k = a ∧ 0 ≤ j ∧ j < ln a then v else S.1 k j) = if k = a ∧ j < ln a then v else S.1 k j
    by_cases c : k = a ∧ j < ln a
    · rw [if_pos c, if_pos (by omega)]
    · rw [if_neg c, if_neg (by omega)]
  · rfl
theorem fillJ_spec (a : Nat) (v : Int64) (S : XS) : f_J7_fill_d0a16 a v S = some (filJ S a v) := by
  have h1 := ln_le a
  unfold f_J7_fill_d0a16
  rw [show (0 : Int32) = Int32.ofNat 0 from rfl, fillJ_L a v (ln a) 0 1000000 S (by omega) (by omega)]
  show some _ = some _
  congr 1
  apply Prod.ext
  · rfl
  · funext k j
    show (if k = a ∧ 0 ≤ j ∧ j < ln a then v else S.2 k j) = if k = a ∧ j < ln a then v else S.2 k j
    by_cases c : k = a ∧ j < ln a
    · rw [if_pos c, if_pos (by omega)]
    · rw [if_neg c, if_neg (by omega)]
theorem p_J7_fill_53178 {l : Launch} {g : XG} {a : Nat} {v : Int32} {S : XS} (h : kd a = 20) : Cl φV l g 1 mJ7_fill_53178 [.ref a, .int v] S (some (filI S a v)) := fill_spec a v S ▸ w_J7_fill_53178 h
theorem p_J7_fill_d0a16 {l : Launch} {g : XG} {a : Nat} {v : Int64} {S : XS} (h : kd a = 21) : Cl φV l g 1 mJ7_fill_d0a16 [.ref a, .long v] S (some (filJ S a v)) := fillJ_spec a v S ▸ w_J7_fill_d0a16 h
