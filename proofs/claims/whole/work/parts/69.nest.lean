/-! CONSTRUCTORS of nest mates: their links aren't words that stay by themselves; they ride in the contract's start. -/
def kp_nl : List (String × Nat × MethodName) := [(RX11, 33, yX1_init), (RX4, 29, yX10_init), (RX4, 46, yX3_init), (RX4, 47, yX6_init), (RX6, 9, yX10_init), (RX8, 22, yX5_init)]
def kp_Nl (U : State) : Prop := ∀ (k : Nat) (q : String × Nat × MethodName), kp_nl[k]? = some q → va_Nw (.methodLinkNest q.1 q.2.1 q.2.2 "LockKeepers") U
theorem kp_Nl.warm {s U : State} (h : kp_Nl s) (hW : s.WarmedH U.vm) : kp_Nl U := fun k q hk => va_Nw.warmM hW (h k q hk)
theorem kp_Nl.call {U : State} {g : JFrame} {mk : MethodId} {a : Array Value} (h : kp_Nl U) : kp_Nl (U.calling g mk a) := fun k q hk => va_Nw.warmM (U := U.calling g mk a) (State.WarmedH.refl U) (h k q hk)
def kp_MN (l : Launch) (y : MethodName) (cc : ByteArray) (n : Nat) (ret : Option FieldType) (rm : Room) (D : va_G) (cy : Nat → ClassId) (ad : (Nat → Nat) × (Nat → Nat)) (S : kp_S) (av : List Value) (mc ms : Nat) (Qc : (Nat → Prop) → Array Value → State → Outcome → State → Prop) : Prop :=
  ∀ sz : Nat, Met l y (kp_ws y cc n ret) rm (va_Pc av (fun U => kp_Pre D cy ad S sz U ∧ kp_Nl U)) (Qc (va_A (kp_pl cy S) sz)) mc ms (va_A (kp_pl cy S) sz)
theorem kp_startN {l : Launch} {y : MethodName} {cc : ByteArray} {nL : Nat} {ret : Option FieldType} {rm : Room} {D : va_G} {cy : Nat → ClassId} {ad : (Nat → Nat) × (Nat → Nat)} {S : kp_S} {av : List Value} {mc ms : Nat} {Qc : (Nat → Prop) → Array Value → State → Outcome → State → Prop} {own : String}
    (hy : plainName y.cls = true) (hown : y.cls = own) (hlen : (lg_sl av).length ≤ nL) (hS : kp_ok S)
    (body : ∀ (p : Program) (e : Env) (s : State) (m : MethodId) (below : List Frame) (meth : Method) (c : Code) (A : Nat → Prop) (ls : Array Slot), kp_X D cy ad own cc nL p s m av.toArray c A → meth.sig.returnType = ret → meth.locks = false → meth.name = y.name → kp_Nl s → kp_H D cy A S s.heap s.heap [] → lv_has ls nL (lv_args 0 av) →
      W p l e rm s m av.toArray below meth c s.heap [] 0 0 (MQ below (Qc A) av.toArray s mc ms A) (F0 m 0 ls [])) : kp_MN l y cc nL ret rm D cy ad S av mc ms Qc := by
  intro sz
  refine Met.ofW (cc := cc) (maxL := nL) (ret := ret) hy rfl ?_
  intro p e s m args below meth c s₁ B hml hv
  obtain ⟨rfl, ⟨hsz, hP, hK, hD0, hEx⟩, hN⟩ := hv
  have hts := atoms_spec (ws := kp_ws y cc nL ret) B.pre
  have hownm : s.vm.findClass own = some m.cls := hown ▸ findClass_of_methodNamed B.named
  have hname : meth.name = y.name := (name_of_methodNamed B.named B.method).1
  subst hsz
  have hD := hD0.self (sz := s.heap.size)
  have hA : ∀ q : Nat, s.heap.size ≤ q → va_A (kp_pl cy S) s.heap.size q := fun q h => Or.inr h
  have hl := lv_entry av (n := nL) hlen
  rw [lg_entry_eq]
  exact body p e s m below meth c _ _ ⟨B.exec, B.bytes, hml, hownm, fun w hw => hts w (List.mem_cons_of_mem _ hw), hK, hA, hEx⟩ B.returns B.notSynchronized hname hN ⟨hP, hD, va_S.rf, hS⟩ hl
def kp_CIm (y : MethodName) (bytes : ByteArray) (maxL : Nat) (n : Nat) : Prop := kp_CB "" 0 y bytes maxL none n ∧ Cond.instanceMethod y ∈ kp_tb ∧ y.name = "<init>"
section KPN
variable {p : Program} {l : Launch} {e : Env} {R : Room} {s : State} {m : MethodId} {args : Array Value} {below : List Frame} {meth : Method} {c : Code} {H : Heap} {locs : List Loc} {cells slots : Nat} {Q : State → Prop}
variable {D : va_G} {cy : Nat → ClassId} {ad : (Nat → Nat) × (Nat → Nat)} {own : String} {cc : ByteArray} {nL : Nat} {A : Nat → Prop} {S S0 : kp_S} {pc : Nat} {ls : Array Slot} {rest : List Value} {a : Nat}
theorem kp_blindN {av : List Value} {sz : Nat} : FrameBlind (va_Pc av (fun U => kp_Pre D cy ad S sz U ∧ kp_Nl U)) := fun a U g mk q => by
  obtain ⟨q0, q1, q2⟩ := q
  have := kp_blind (D := D) (cy := cy) (ad := ad) (S := S) (av := av) (sz := sz) a U g mk ⟨q0, q1⟩
  exact ⟨this.1, this.2, q2.call⟩
/-- by a nest link: a callee of the plain kind; of this kind; by a plain link, a callee of this kind -/
theorem kp_runJ {y : MethodName} {bytes : ByteArray} {maxL n mc ms index : Nat} {rm : Room} {b : Nat} {As : List Value} {st : List Value} {Qc : (Nat → Prop) → Array Value → State → Outcome → State → Prop} (X : kp_X D cy ad own cc nL p s m args c A) (h : kp_H D cy A S s.heap H locs) (hM : kp_M l y bytes maxL none rm D cy ad S (.ref b :: As) mc ms Qc) (hl : va_Nw (.methodLinkNest own index y "LockKeepers") s) (L : kp_CIm y bytes maxL n) (hR : kp_RM R rm maxL mc ms cells slots)
    (hn : As.length = n) (hls : ls.size = nL) (hst : st = As.reverse ++ .ref b :: rest) (hW : (rest.map fun v => v.category).sum ≤ 8) (hdg : decode cc pc = .ok (.invokespecial index, 3)) : va_Run p l e R s m args below meth c H locs cells slots mc ms (F0 m pc ls st) rest (Qc (va_A (kp_pl cy S) H.size) (Value.ref b :: As).toArray) (va_A (kp_pl cy S) H.size) := by
  obtain ⟨⟨l1, l2, l3⟩, l5, l6⟩ := L
  obtain ⟨r1, r2, r3, r4, r5, r6⟩ := hR
  have hts := X.2.2.2.2.1
  exact va_runIN (As := As) (rest := rest) ⟨X.1, X.2.1, X.2.2.1, X.2.2.2.1, hts⟩ (hM H.size) ⟨va_cnB n hts (kp_goodIn l1) rfl r3 r4 hl (hts _ l2) l3 ⟨r1, r2⟩, l6, hts _ l5⟩ ⟨kp_blind, fun U hU hW => ⟨rfl, kp_pre X h hU hW⟩⟩ rfl hn hls hst (lv_room hW) hdg ⟨r5, r6⟩
theorem kp_runJN {y : MethodName} {bytes : ByteArray} {maxL n mc ms index : Nat} {rm : Room} {b : Nat} {As : List Value} {st : List Value} {Qc : (Nat → Prop) → Array Value → State → Outcome → State → Prop} (X : kp_X D cy ad own cc nL p s m args c A) (hN : kp_Nl s) (h : kp_H D cy A S s.heap H locs) (hM : kp_MN l y bytes maxL none rm D cy ad S (.ref b :: As) mc ms Qc) (hl : va_Nw (.methodLinkNest own index y "LockKeepers") s) (L : kp_CIm y bytes maxL n) (hR : kp_RM R rm maxL mc ms cells slots)
    (hn : As.length = n) (hls : ls.size = nL) (hst : st = As.reverse ++ .ref b :: rest) (hW : (rest.map fun v => v.category).sum ≤ 8) (hdg : decode cc pc = .ok (.invokespecial index, 3)) : va_Run p l e R s m args below meth c H locs cells slots mc ms (F0 m pc ls st) rest (Qc (va_A (kp_pl cy S) H.size) (Value.ref b :: As).toArray) (va_A (kp_pl cy S) H.size) := by
  obtain ⟨⟨l1, l2, l3⟩, l5, l6⟩ := L
  obtain ⟨r1, r2, r3, r4, r5, r6⟩ := hR
  have hts := X.2.2.2.2.1
  exact va_runIN (As := As) (rest := rest) ⟨X.1, X.2.1, X.2.2.1, X.2.2.2.1, hts⟩ (hM H.size) ⟨va_cnB n hts (kp_goodIn l1) rfl r3 r4 hl (hts _ l2) l3 ⟨r1, r2⟩, l6, hts _ l5⟩ ⟨kp_blindN, fun U hU hW => ⟨rfl, kp_pre X h hU hW, hN.warm hW⟩⟩ rfl hn hls hst (lv_room hW) hdg ⟨r5, r6⟩
theorem kp_runK {y : MethodName} {bytes : ByteArray} {maxL n mc ms index : Nat} {rm : Room} {b : Nat} {As : List Value} {st : List Value} {Qc : (Nat → Prop) → Array Value → State → Outcome → State → Prop} (X : kp_X D cy ad own cc nL p s m args c A) (hN : kp_Nl s) (h : kp_H D cy A S s.heap H locs) (hM : kp_MN l y bytes maxL none rm D cy ad S (.ref b :: As) mc ms Qc) (L : kp_CI own index y bytes maxL n) (hR : kp_RM R rm maxL mc ms cells slots)
    (hn : As.length = n) (hls : ls.size = nL) (hst : st = As.reverse ++ .ref b :: rest) (hW : (rest.map fun v => v.category).sum ≤ 8) (hdg : decode cc pc = .ok (.invokespecial index, 3)) : va_Run p l e R s m args below meth c H locs cells slots mc ms (F0 m pc ls st) rest (Qc (va_A (kp_pl cy S) H.size) (Value.ref b :: As).toArray) (va_A (kp_pl cy S) H.size) := by
  obtain ⟨⟨l1, l2, l3⟩, l4, l5, l6⟩ := L
  obtain ⟨r1, r2, r3, r4, r5, r6⟩ := hR
  have hts := X.2.2.2.2.1
  exact va_runI (As := As) (rest := rest) ⟨X.1, X.2.1, X.2.2.1, X.2.2.2.1, hts⟩ (hM H.size) ⟨callB_of n hts (kp_goodIn l1) rfl r3 r4 (hts _ l2) (hts _ l4) l3 ⟨r1, r2⟩, l6, hts _ l5⟩ ⟨kp_blindN, fun U hU hW => ⟨rfl, kp_pre X h hU hW, hN.warm hW⟩⟩ rfl hn hls hst (lv_room hW) hdg ⟨r5, r6⟩
end KPN
