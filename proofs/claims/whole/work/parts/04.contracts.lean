/-! CONTRACTS over the pool: a method's start, its ends, its calls. -/
abbrev kp_ws (y : MethodName) (cc : ByteArray) (n : Nat) (ret : Option FieldType) : List Cond := Cond.code y cc n ret :: kp_tb
def kp_Pre (D : va_G) (cy : Nat → ClassId) (ad : (Nat → Nat) × (Nat → Nat)) (S : kp_S) (sz : Nat) (U : State) : Prop := U.heap.size = sz ∧ va_P D kp_cl (kp_pl cy S) U.heap ∧ va_K D kp_cl (kp_tys cy) U ∧ va_D (fun _ => True) (kp_pl cy S) ∧ kp_Ex ad (va_A (kp_pl cy S) sz) U U.heap
def kp_At (D : va_G) (cy : Nat → ClassId) (A : Nat → Prop) (S S1 : kp_S) (t : State) : Prop := va_P D kp_cl (kp_pl cy S1) t.heap ∧ va_K D kp_cl (kp_tys cy) t ∧ va_D A (kp_pl cy S1) ∧ kp_ok S1 ∧ kp_le S S1
/-- what the pool's method answers: an int (or boolean, char, byte), a long, nothing, a reference of kind k -/
def kp_Qi (D : va_G) (cy : Nat → ClassId) (A : Nat → Prop) (S : kp_S) (post : Int32 → kp_S → Prop) : Array Value → State → Outcome → State → Prop := va_Qi post (kp_At D cy A S) A
def kp_Ql (D : va_G) (cy : Nat → ClassId) (A : Nat → Prop) (S : kp_S) (post : Int64 → kp_S → Prop) : Array Value → State → Outcome → State → Prop := va_Ql post (kp_At D cy A S) A
def kp_Qv (D : va_G) (cy : Nat → ClassId) (A : Nat → Prop) (S : kp_S) (post : kp_S → Prop) : Array Value → State → Outcome → State → Prop := va_Qv post (kp_At D cy A S) A
def kp_Qr (D : va_G) (cy : Nat → ClassId) (A : Nat → Prop) (S : kp_S) (k : Nat) (post : Nat → kp_S → Prop) : Array Value → State → Outcome → State → Prop := va_Qr (S := kp_S × Nat) (fun u => post u.2 u.1 ∧ kp_is u.1 u.2 k) (fun u a t => u.2 = a ∧ kp_At D cy A S u.1 t) A
def kp_M (l : Launch) (y : MethodName) (cc : ByteArray) (n : Nat) (ret : Option FieldType) (rm : Room) (D : va_G) (cy : Nat → ClassId) (ad : (Nat → Nat) × (Nat → Nat)) (S : kp_S) (av : List Value) (mc ms : Nat) (Qc : (Nat → Prop) → Array Value → State → Outcome → State → Prop) : Prop :=
  ∀ sz : Nat, Met l y (kp_ws y cc n ret) rm (va_Pc av (kp_Pre D cy ad S sz)) (Qc (va_A (kp_pl cy S) sz)) mc ms (va_A (kp_pl cy S) sz)
/-- the start of a method -/
theorem kp_start {l : Launch} {y : MethodName} {cc : ByteArray} {nL : Nat} {ret : Option FieldType} {rm : Room} {D : va_G} {cy : Nat → ClassId} {ad : (Nat → Nat) × (Nat → Nat)} {S : kp_S} {av : List Value} {mc ms : Nat} {Qc : (Nat → Prop) → Array Value → State → Outcome → State → Prop} {own : String}
    (hy : plainName y.cls = true) (hown : y.cls = own) (hlen : (lg_sl av).length ≤ nL) (hS : kp_ok S)
    (body : ∀ (p : Program) (e : Env) (s : State) (m : MethodId) (below : List Frame) (meth : Method) (c : Code) (A : Nat → Prop) (ls : Array Slot), kp_X D cy ad own cc nL p s m av.toArray c A → meth.sig.returnType = ret → meth.locks = false → meth.name = y.name → kp_H D cy A S s.heap s.heap [] → lv_has ls nL (lv_args 0 av) →
      W p l e rm s m av.toArray below meth c s.heap [] 0 0 (MQ below (Qc A) av.toArray s mc ms A) (F0 m 0 ls [])) : kp_M l y cc nL ret rm D cy ad S av mc ms Qc := by
  intro sz
  refine Met.ofW (cc := cc) (maxL := nL) (ret := ret) hy rfl ?_
  intro p e s m args below meth c s₁ B hml hv
  obtain ⟨rfl, hsz, hP, hK, hD0, hEx⟩ := hv
  have hts := atoms_spec (ws := kp_ws y cc nL ret) B.pre
  have hownm : s.vm.findClass own = some m.cls := hown ▸ findClass_of_methodNamed B.named
  have hname : meth.name = y.name := (name_of_methodNamed B.named B.method).1
  subst hsz
  have hD := hD0.self (sz := s.heap.size)
  have hA : ∀ q : Nat, s.heap.size ≤ q → va_A (kp_pl cy S) s.heap.size q := fun q h => Or.inr h
  have hl := lv_entry av (n := nL) hlen
  rw [lg_entry_eq]
  exact body p e s m below meth c _ _ ⟨B.exec, B.bytes, hml, hownm, fun w hw => hts w (List.mem_cons_of_mem _ hw), hK, hA, hEx⟩ B.returns B.notSynchronized hname ⟨hP, hD, va_S.rf, hS⟩ hl
/-- a method that is never reached -/
theorem kp_never {l : Launch} {y : MethodName} {cc : ByteArray} {nL : Nat} {ret : Option FieldType} {rm : Room} {D : va_G} {cy : Nat → ClassId} {ad : (Nat → Nat) × (Nat → Nat)} {S : kp_S} {av : List Value} {mc ms : Nat} {Qc : (Nat → Prop) → Array Value → State → Outcome → State → Prop} (h : False) : kp_M l y cc nL ret rm D cy ad S av mc ms Qc := h.elim
section KPR
variable {p : Program} {l : Launch} {e : Env} {R : Room} {s : State} {m : MethodId} {args : Array Value} {below : List Frame} {meth : Method} {c : Code} {H : Heap} {locs : List Loc} {cells slots : Nat} {Q : State → Prop}
variable {D : va_G} {cy : Nat → ClassId} {ad : (Nat → Nat) × (Nat → Nat)} {own : String} {cc : ByteArray} {nL : Nat} {A : Nat → Prop} {S S0 : kp_S} {pc : Nat} {ls : Array Slot} {rest : List Value} {a : Nat}
theorem kp_at_end (X : kp_X D cy ad own cc nL p s m args c A) (h : kp_H D cy A S s.heap H locs) (hle : kp_le S0 S) {t : State} (ht : t.heap = H) (hW : s.WarmedH t.vm) : kp_At D cy A S0 S t := ⟨by rw [ht]; exact h.1, va_K.moved hW.alike X.2.2.2.2.2.1, h.2.1, h.2.2.2, hle⟩
theorem kp_reti {ty : FieldType} {post : Int32 → kp_S → Prop} {v : Int32} (X : kp_X D cy ad own cc nL p s m args c A) (hr : meth.sig.returnType = some ty) (hlocks : meth.locks = false) (h : kp_H D cy A S s.heap H locs) (hle : kp_le S0 S) (hn : narrow ty (.int v) = .int v) (hp : post v S) (hdg : decode cc pc = .ok (.ireturn, 1)) : W p l e R s m args below meth c H locs cells slots (MQ below (kp_Qi D cy A S0 post) args s cells slots A) (F0 m pc ls [.int v]) :=
  W.zret X.1 X.2.1 hr hn (fun t ht hW => ⟨⟨v, S, rfl, hp, kp_at_end X h hle ht hW⟩, h.2.2.1.F ht⟩) h.2.2.1.2.2 hdg hlocks
theorem kp_retv {post : kp_S → Prop} (X : kp_X D cy ad own cc nL p s m args c A) (hr : meth.sig.returnType = none) (hlocks : meth.locks = false) (h : kp_H D cy A S s.heap H locs) (hle : kp_le S0 S) (hp : post S) (hdg : decode cc pc = .ok (.return_, 1)) : W p l e R s m args below meth c H locs cells slots (MQ below (kp_Qv D cy A S0 post) args s cells slots A) (F0 m pc ls []) :=
  W.vret X.1 X.2.1 hr (fun t ht hW => ⟨⟨S, rfl, hp, kp_at_end X h hle ht hW⟩, h.2.2.1.F ht⟩) h.2.2.1.2.2 hdg hlocks
theorem kp_retl {post : Int64 → kp_S → Prop} {v : Int64} (X : kp_X D cy ad own cc nL p s m args c A) (hr : meth.sig.returnType = some .long) (hlocks : meth.locks = false) (h : kp_H D cy A S s.heap H locs) (hle : kp_le S0 S) (hp : post v S) (hdg : decode cc pc = .ok (.lreturn, 1)) : W p l e R s m args below meth c H locs cells slots (MQ below (kp_Ql D cy A S0 post) args s cells slots A) (F0 m pc ls [.long v]) :=
  W.lret X.1 X.2.1 hr (fun t ht hW => ⟨⟨v, S, rfl, hp, kp_at_end X h hle ht hW⟩, h.2.2.1.F ht⟩) h.2.2.1.2.2 hdg hlocks
theorem kp_retr {C : String} {k : Nat} {post : Nat → kp_S → Prop} {v : Nat} (X : kp_X D cy ad own cc nL p s m args c A) (hr : meth.sig.returnType = some (.object C)) (hlocks : meth.locks = false) (h : kp_H D cy A S s.heap H locs) (hle : kp_le S0 S) (hv : kp_is S v k) (hp : post v S) (hdg : decode cc pc = .ok (.areturn, 1)) : W p l e R s m args below meth c H locs cells slots (MQ below (kp_Qr D cy A S0 k post) args s cells slots A) (F0 m pc ls [.ref v]) :=
  W.aret X.1 X.2.1 hr (Or.inl ⟨_, rfl⟩) (Or.inr ⟨_, rfl⟩) (fun t ht hW => ⟨⟨(S, v), v, rfl, ⟨hp, hv⟩, rfl, kp_at_end X h hle ht hW⟩, h.2.2.1.F ht⟩) h.2.2.1.2.2 hdg hlocks
theorem kp_goodIn {y : MethodName} {cc : ByteArray} {n : Nat} {ret : Option FieldType} (h : Cond.code y cc n ret ∈ kp_tb) : GoodIn kp_tb (kp_ws y cc n ret) := fun w hw => by
  have hm : w ∈ kp_tb := by
    rcases List.mem_cons.mp hw with rfl | hw
    · exact h
    · exact hw
  exact ⟨hm, good_of_word (List.all_eq_true.mp kp_tbl_good w hm)⟩
/-- a call of y over entry index of own's constant pool: plain, of a nest mate's private method -/
def kp_CB (own : String) (index : Nat) (y : MethodName) (bytes : ByteArray) (maxL : Nat) (ret : Option FieldType) (n : Nat) : Prop := Cond.code y bytes maxL ret ∈ kp_tb ∧ Cond.initialized y.cls ∈ kp_tb ∧ (y.cls ≠ "java/lang/invoke/MethodHandle" ∧ y.cls ≠ "java/lang/invoke/VarHandle" ∧ (parseMethodDescriptor y.desc).map (fun d => d.parameters.length) = some n)
def kp_CV (own : String) (index : Nat) (y : MethodName) (bytes : ByteArray) (maxL : Nat) (ret : Option FieldType) (n ci : Nat) : Prop := kp_CB own index y bytes maxL ret n ∧ Cond.methodLink own index y ∈ kp_tb ∧ Cond.instanceMethod y ∈ kp_tb ∧ Cond.selects y.cls y y ∈ kp_tb ∧ ci < 13 ∧ ∃ (T : u_T) (N : Nat), kp_cl[ci]? = some (y.cls, T, N)
def kp_CI (own : String) (index : Nat) (y : MethodName) (bytes : ByteArray) (maxL : Nat) (n : Nat) : Prop := kp_CB own index y bytes maxL none n ∧ Cond.methodLink own index y ∈ kp_tb ∧ Cond.instanceMethod y ∈ kp_tb ∧ y.name = "<init>"
def kp_CIN (own : String) (index : Nat) (y : MethodName) (bytes : ByteArray) (maxL : Nat) (n : Nat) (host : String) : Prop := kp_CB own index y bytes maxL none n ∧ Cond.methodLinkNest own index y host ∈ kp_tb ∧ Cond.instanceMethod y ∈ kp_tb ∧ y.name = "<init>"
def kp_CS (own : String) (index : Nat) (y : MethodName) (bytes : ByteArray) (maxL : Nat) (ret : Option FieldType) (n : Nat) : Prop := kp_CB own index y bytes maxL ret n ∧ Cond.methodLink own index y ∈ kp_tb ∧ Cond.static y ∈ kp_tb
def kp_RM (R rm : Room) (maxL mc ms cells slots : Nat) : Prop := rm.frames + 1 ≤ R.frames ∧ 8 + (maxL + 11) + rm.locals ≤ R.locals ∧ rm.cells = mc ∧ rm.slots = ms ∧ cells + mc ≤ R.cells ∧ slots + ms ≤ R.slots
theorem kp_blind {av : List Value} {sz : Nat} : FrameBlind (va_Pc av (kp_Pre D cy ad S sz)) := fun a U g mk q => by
  obtain ⟨q0, q1, qP, qK, qD, qE⟩ := q
  exact ⟨q0, q1, qP, va_K.moved (u := U) (U := U.calling g mk a) (Vm.Alike.refl U.vm) qK, qD, qE.call⟩
theorem kp_in_A (h : kp_H D cy A S s.heap H locs) (X : kp_X D cy ad own cc nL p s m args c A) {q : Nat} (hq : va_A (kp_pl cy S) H.size q) : A q := by
  rcases hq with ⟨k, e, hk⟩ | hq
  · exact h.2.1.2 k _ hk
  · exact X.2.2.2.2.2.2.1 q (Nat.le_trans h.2.2.1.1 hq)
theorem kp_pre (X : kp_X D cy ad own cc nL p s m args c A) (h : kp_H D cy A S s.heap H locs) {U : State} (hU : U.heap = H) (hW : s.WarmedH U.vm) : kp_Pre D cy ad S H.size U := ⟨by rw [hU], by rw [hU]; exact h.1, va_K.moved hW.alike X.2.2.2.2.2.1, h.2.1.weaken (fun _ _ _ _ => trivial), by rw [hU]; exact X.2.2.2.2.2.2.2.go hW h.2.2.1.2.1 (fun q hq => kp_in_A h X hq)⟩
theorem kp_runV {y : MethodName} {bytes : ByteArray} {maxL n mc ms ci index : Nat} {ret : Option FieldType} {rm : Room} {b : Nat} {As : List Value} {st : List Value} {Qc : (Nat → Prop) → Array Value → State → Outcome → State → Prop} (X : kp_X D cy ad own cc nL p s m args c A) (h : kp_H D cy A S s.heap H locs) (hM : kp_M l y bytes maxL ret rm D cy ad S (.ref b :: As) mc ms Qc) (hb : kp_is S b ci) (L : kp_CV own index y bytes maxL ret n ci) (hR : kp_RM R rm maxL mc ms cells slots)
    (hn : As.length = n) (hls : ls.size = nL) (hst : st = As.reverse ++ .ref b :: rest) (hW : (rest.map fun v => v.category).sum ≤ 8) (hdg : decode cc pc = .ok (.invokevirtual index, 3)) : va_Run p l e R s m args below meth c H locs cells slots mc ms (F0 m pc ls st) rest (Qc (va_A (kp_pl cy S) H.size) (Value.ref b :: As).toArray) (va_A (kp_pl cy S) H.size) := by
  obtain ⟨⟨l1, l2, l3⟩, l4, l5, l6, l7, T, N, l8⟩ := L
  obtain ⟨r1, r2, r3, r4, r5, r6⟩ := hR
  obtain ⟨q0, hq⟩ := kp_get_at (cy := cy) hb.1
  rw [kp_Eo hb.2 l7] at hq
  have hts := X.2.2.2.2.1
  exact va_runV (C := y.cls) (As := As) (rest := rest) ⟨X.1, X.2.1, X.2.2.1, X.2.2.2.1, hts⟩ (hM H.size) ⟨callB_of n hts (kp_goodIn l1) rfl r3 r4 (hts _ l2) (hts _ l4) l3 ⟨r1, r2⟩, hts _ l5, hts _ l6⟩ ⟨kp_blind, va_recv X.2.2.2.2.2.1 h.1 (ci := ci) (q0 := q0) l8 hq, fun U hU hW => ⟨rfl, kp_pre X h hU hW⟩⟩ rfl hn hls hst (lv_room hW) hdg ⟨r5, r6⟩
theorem kp_runI {y : MethodName} {bytes : ByteArray} {maxL n mc ms index : Nat} {rm : Room} {b : Nat} {As : List Value} {st : List Value} {Qc : (Nat → Prop) → Array Value → State → Outcome → State → Prop} (X : kp_X D cy ad own cc nL p s m args c A) (h : kp_H D cy A S s.heap H locs) (hM : kp_M l y bytes maxL none rm D cy ad S (.ref b :: As) mc ms Qc) (L : kp_CI own index y bytes maxL n) (hR : kp_RM R rm maxL mc ms cells slots)
    (hn : As.length = n) (hls : ls.size = nL) (hst : st = As.reverse ++ .ref b :: rest) (hW : (rest.map fun v => v.category).sum ≤ 8) (hdg : decode cc pc = .ok (.invokespecial index, 3)) : va_Run p l e R s m args below meth c H locs cells slots mc ms (F0 m pc ls st) rest (Qc (va_A (kp_pl cy S) H.size) (Value.ref b :: As).toArray) (va_A (kp_pl cy S) H.size) := by
  obtain ⟨⟨l1, l2, l3⟩, l4, l5, l6⟩ := L
  obtain ⟨r1, r2, r3, r4, r5, r6⟩ := hR
  have hts := X.2.2.2.2.1
  exact va_runI (As := As) (rest := rest) ⟨X.1, X.2.1, X.2.2.1, X.2.2.2.1, hts⟩ (hM H.size) ⟨callB_of n hts (kp_goodIn l1) rfl r3 r4 (hts _ l2) (hts _ l4) l3 ⟨r1, r2⟩, l6, hts _ l5⟩ ⟨kp_blind, fun U hU hW => ⟨rfl, kp_pre X h hU hW⟩⟩ rfl hn hls hst (lv_room hW) hdg ⟨r5, r6⟩
theorem kp_runIN {y : MethodName} {bytes : ByteArray} {maxL n mc ms index : Nat} {rm : Room} {b : Nat} {host : String} {As : List Value} {st : List Value} {Qc : (Nat → Prop) → Array Value → State → Outcome → State → Prop} (X : kp_X D cy ad own cc nL p s m args c A) (h : kp_H D cy A S s.heap H locs) (hM : kp_M l y bytes maxL none rm D cy ad S (.ref b :: As) mc ms Qc) (L : kp_CIN own index y bytes maxL n host) (hR : kp_RM R rm maxL mc ms cells slots)
    (hn : As.length = n) (hls : ls.size = nL) (hst : st = As.reverse ++ .ref b :: rest) (hW : (rest.map fun v => v.category).sum ≤ 8) (hdg : decode cc pc = .ok (.invokespecial index, 3)) : va_Run p l e R s m args below meth c H locs cells slots mc ms (F0 m pc ls st) rest (Qc (va_A (kp_pl cy S) H.size) (Value.ref b :: As).toArray) (va_A (kp_pl cy S) H.size) := by
  obtain ⟨⟨l1, l2, l3⟩, l4, l5, l6⟩ := L
  obtain ⟨r1, r2, r3, r4, r5, r6⟩ := hR
  have hts := X.2.2.2.2.1
  exact va_runIN (As := As) (rest := rest) ⟨X.1, X.2.1, X.2.2.1, X.2.2.2.1, hts⟩ (hM H.size) ⟨va_cnB n hts (kp_goodIn l1) rfl r3 r4 (va_any rfl (hts _ l4)) (hts _ l2) l3 ⟨r1, r2⟩, l6, hts _ l5⟩ ⟨kp_blind, fun U hU hW => ⟨rfl, kp_pre X h hU hW⟩⟩ rfl hn hls hst (lv_room hW) hdg ⟨r5, r6⟩
theorem kp_runS {y : MethodName} {bytes : ByteArray} {maxL n mc ms index : Nat} {ret : Option FieldType} {rm : Room} {As : List Value} {st : List Value} {Qc : (Nat → Prop) → Array Value → State → Outcome → State → Prop} (X : kp_X D cy ad own cc nL p s m args c A) (h : kp_H D cy A S s.heap H locs) (hM : kp_M l y bytes maxL ret rm D cy ad S As mc ms Qc) (L : kp_CS own index y bytes maxL ret n) (hR : kp_RM R rm maxL mc ms cells slots)
    (hn : As.length = n) (hls : ls.size = nL) (hst : st = As.reverse ++ rest) (hW : (rest.map fun v => v.category).sum ≤ 8) (hdg : decode cc pc = .ok (.invokestatic index, 3)) : va_Run p l e R s m args below meth c H locs cells slots mc ms (F0 m pc ls st) rest (Qc (va_A (kp_pl cy S) H.size) As.toArray) (va_A (kp_pl cy S) H.size) := by
  obtain ⟨⟨l1, l2, l3⟩, l4, l5⟩ := L
  obtain ⟨r1, r2, r3, r4, r5, r6⟩ := hR
  have hts := X.2.2.2.2.1
  exact va_runS (As := As) (rest := rest) ⟨X.1, X.2.1, X.2.2.1, X.2.2.2.1, hts⟩ (hM H.size) ⟨callB_of n hts (kp_goodIn l1) rfl r3 r4 (hts _ l2) (hts _ l4) l3 ⟨r1, r2⟩, hts _ l5⟩ ⟨kp_blind, fun U hU hW => ⟨rfl, kp_pre X h hU hW⟩⟩ rfl hn hls hst (lv_room hW) hdg ⟨r5, r6⟩
theorem kp_back (X : kp_X D cy ad own cc nL p s m args c A) (h : kp_H D cy A S s.heap H locs) {S1 : kp_S} {t : State} {H1 : Heap} {locs1 : List Loc} (ht : t.heap = H1) (hB : kp_At D cy (va_A (kp_pl cy S) H.size) S S1 t) (hS : va_S A s.heap H1 locs1) : kp_H D cy A S1 s.heap H1 locs1 := ⟨by rw [← ht]; exact hB.1, hB.2.2.1.weaken (fun _ _ _ hq => kp_in_A h X hq), hS, hB.2.2.2.1⟩
theorem kp_calli {mc ms : Nat} {st : List Value} {av : Array Value} {post : Int32 → kp_S → Prop} (X : kp_X D cy ad own cc nL p s m args c A) (h : kp_H D cy A S s.heap H locs) (hr : va_Run p l e R s m args below meth c H locs cells slots mc ms (F0 m pc ls st) rest (kp_Qi D cy (va_A (kp_pl cy S) H.size) S post av) (va_A (kp_pl cy S) H.size))
    (kk : ∀ (r : Int32) (S1 : kp_S), post r S1 → kp_le S S1 → ∀ (H1 : Heap) (locs1 : List Loc), kp_H D cy A S1 s.heap H1 locs1 → W p l e R s m args below meth c H1 locs1 (cells + mc) (slots + ms) Q (F0 m (pc + 3) ls (.int r :: rest))) : W p l e R s m args below meth c H locs cells slots Q (F0 m pc ls st) :=
  va_calli hr h.2.2.1 (fun q _ hq => kp_in_A h X hq) (fun q hq => kp_in_A h X hq) (fun r S1 t H1 locs1 ht hvm hp hB hz hk hS => kk r S1 hp hB.2.2.2.2 H1 locs1 (kp_back X h ht hB hS))
theorem kp_calll {mc ms : Nat} {st : List Value} {av : Array Value} {post : Int64 → kp_S → Prop} (X : kp_X D cy ad own cc nL p s m args c A) (h : kp_H D cy A S s.heap H locs) (hr : va_Run p l e R s m args below meth c H locs cells slots mc ms (F0 m pc ls st) rest (kp_Ql D cy (va_A (kp_pl cy S) H.size) S post av) (va_A (kp_pl cy S) H.size))
    (kk : ∀ (r : Int64) (S1 : kp_S), post r S1 → kp_le S S1 → ∀ (H1 : Heap) (locs1 : List Loc), kp_H D cy A S1 s.heap H1 locs1 → W p l e R s m args below meth c H1 locs1 (cells + mc) (slots + ms) Q (F0 m (pc + 3) ls (.long r :: rest))) : W p l e R s m args below meth c H locs cells slots Q (F0 m pc ls st) :=
  va_calll hr h.2.2.1 (fun q _ hq => kp_in_A h X hq) (fun q hq => kp_in_A h X hq) (fun r S1 t H1 locs1 ht hvm hp hB hz hk hS => kk r S1 hp hB.2.2.2.2 H1 locs1 (kp_back X h ht hB hS))
theorem kp_callv {mc ms : Nat} {st : List Value} {av : Array Value} {post : kp_S → Prop} (X : kp_X D cy ad own cc nL p s m args c A) (h : kp_H D cy A S s.heap H locs) (hr : va_Run p l e R s m args below meth c H locs cells slots mc ms (F0 m pc ls st) rest (kp_Qv D cy (va_A (kp_pl cy S) H.size) S post av) (va_A (kp_pl cy S) H.size))
    (kk : ∀ (S1 : kp_S), post S1 → kp_le S S1 → ∀ (H1 : Heap) (locs1 : List Loc), kp_H D cy A S1 s.heap H1 locs1 → W p l e R s m args below meth c H1 locs1 (cells + mc) (slots + ms) Q (F0 m (pc + 3) ls rest)) : W p l e R s m args below meth c H locs cells slots Q (F0 m pc ls st) :=
  va_callv hr h.2.2.1 (fun q _ hq => kp_in_A h X hq) (fun q hq => kp_in_A h X hq) (fun S1 t H1 locs1 ht hvm hp hB hz hk hS => kk S1 hp hB.2.2.2.2 H1 locs1 (kp_back X h ht hB hS))
theorem kp_callr {mc ms k : Nat} {st : List Value} {av : Array Value} {post : Nat → kp_S → Prop} (X : kp_X D cy ad own cc nL p s m args c A) (h : kp_H D cy A S s.heap H locs) (hr : va_Run p l e R s m args below meth c H locs cells slots mc ms (F0 m pc ls st) rest (kp_Qr D cy (va_A (kp_pl cy S) H.size) S k post av) (va_A (kp_pl cy S) H.size))
    (kk : ∀ (r : Nat) (S1 : kp_S), post r S1 → kp_le S S1 → kp_is S1 r k → ∀ (H1 : Heap) (locs1 : List Loc), kp_H D cy A S1 s.heap H1 locs1 → W p l e R s m args below meth c H1 locs1 (cells + mc) (slots + ms) Q (F0 m (pc + 3) ls (.ref r :: rest))) : W p l e R s m args below meth c H locs cells slots Q (F0 m pc ls st) :=
  va_callr hr h.2.2.1 (fun q _ hq => kp_in_A h X hq) (fun q hq => kp_in_A h X hq) (fun u ra t H1 locs1 ht hvm hp hB hz hk hS => hB.1 ▸ kk u.2 u.1 hp.1 hB.2.2.2.2.2 hp.2 H1 locs1 (kp_back X h ht hB.2 hS))
-- new objects and arrays
theorem kp_fresh {e0 : va_E} {q : Nat} (hD : va_D A (kp_pl cy S ++ [(q, e0)])) : q ∉ kp_L S := va_pl_fresh2 (X := []) hD
theorem kp_new_le {q k : Nat} (hq : q ∉ kp_L S) : kp_le S (kp_new S q k) := fun b hb => ⟨List.mem_append_left _ hb, va_up_ne _ _ (fun h => hq (h ▸ hb)), rfl⟩
theorem kp_newA_le {q k n : Nat} (hq : q ∉ kp_L S) : kp_le S (kp_newA S q k n) := fun b hb => ⟨List.mem_append_left _ hb, va_up_ne _ _ (fun h => hq (h ▸ hb)), va_up_ne _ _ (fun h => hq (h ▸ hb))⟩
theorem kp_new_is {q k : Nat} : kp_is (kp_new S q k) q k := ⟨List.mem_append_right _ (List.mem_singleton.mpr rfl), va_up_self _ _ _⟩
theorem kp_newA_is {q k n : Nat} : kp_is (kp_newA S q k n) q k := ⟨List.mem_append_right _ (List.mem_singleton.mpr rfl), va_up_self _ _ _⟩
theorem kp_push_eq {T : kp_S} {q : Nat} {e0 : va_E} (hq : q ∉ kp_L S) (hL : kp_L T = kp_L S ++ [q]) (he : kp_E cy T q = e0) (ho : ∀ b, b ≠ q → kp_E cy T b = kp_E cy S b) : kp_pl cy S ++ [(q, e0)] = kp_pl cy T := by
  unfold kp_pl
  rw [va_pl_push hq, hL]
  apply va_pl_congr
  intro b
  by_cases hb : b = q
  · subst hb; rw [va_up_self, he]
  · rw [va_up_ne _ _ hb, ho b hb]
theorem kp_mem_old {T : kp_S} {q k x cx : Nat} (hL : kp_L T = kp_L S ++ [q]) (hK : kp_K T = va_up (kp_K S) q k) (hxq : x ≠ q) (hx : kp_is T x cx) : kp_is S x cx := by
  refine ⟨?_, ?_⟩
  · have h0 := hx.1
    rw [hL] at h0
    rcases List.mem_append.mp h0 with h1 | h1
    · exact h1
    · exact absurd (List.mem_singleton.mp h1) hxq
  · rw [← hx.2, hK]; exact (va_up_ne _ _ hxq).symm
theorem kp_new_ok {q k : Nat} (hk13 : k < 13) (h : kp_ok S) (hq : q ∉ kp_L S) : kp_ok (kp_new S q k) := by
  refine ⟨fun x cx kx b hx hc hk hb => ?_, fun x cx i b hx hc hb => ?_⟩
  · by_cases hxq : x = q
    · subst hxq
      simp [kp_new, kp_R, kp_z] at hb
    · have hb' : kp_R S (kp_f cx kx) x = some b := by simpa [kp_new, kp_R, kp_z, hxq] using hb
      exact (kp_new_le hq).is (h.1 x cx kx b (kp_mem_old (T := kp_new S q k) rfl rfl hxq hx) hc hk hb')
  · by_cases hxq : x = q
    · subst hxq
      have h1 : cx = k := hx.2.symm.trans kp_new_is.2
      omega
    · exact (kp_new_le hq).is (h.2 x cx i b (kp_mem_old (T := kp_new S q k) rfl rfl hxq hx) hc hb)
theorem kp_newA_ok {q k n : Nat} (hk13 : 13 ≤ k) (h : kp_ok S) (hq : q ∉ kp_L S) : kp_ok (kp_newA S q k n) := by
  refine ⟨fun x cx kx b hx hc hk hb => ?_, fun x cx i b hx hc hb => ?_⟩
  · by_cases hxq : x = q
    · subst hxq
      have h1 : cx = k := hx.2.symm.trans kp_newA_is.2
      omega
    · exact (kp_newA_le hq).is (h.1 x cx kx b (kp_mem_old (T := kp_newA S q k n) rfl rfl hxq hx) hc hk hb)
  · by_cases hxq : x = q
    · subst hxq
      simp [kp_newA, kp_C, va_up] at hb
    · have hb' : kp_C S x i = some b := by simpa [kp_newA, kp_C, va_up, hxq] using hb
      exact (kp_newA_le hq).is (h.2 x cx i b (kp_mem_old (T := kp_newA S q k n) rfl rfl hxq hx) hc hb')
theorem kp_newE {q k : Nat} (hk : k < 13) : kp_E cy (kp_new S q k) q = .inr (k, kp_fs (kp_new S q k) q k) := kp_Eo kp_new_is.2 hk
theorem kp_newV {q k j : Nat} : kp_val (kp_new S q k) q k j = (match kp_tk k j with | 0 => .int 0 | 1 => .long 0 | _ => .null) := by
  unfold kp_val
  rcases kp_tk k j with _ | _ | n <;> simp [kp_new, kp_I, kp_J, kp_R, kp_z, va_rf]
theorem kp_new_ne {q k b : Nat} (hb : b ≠ q) : kp_E cy (kp_new S q k) b = kp_E cy S b := kp_E_ne (by simp [kp_new, kp_K, va_up, hb]) rfl rfl rfl rfl (fun j => by simp [kp_new, kp_I, kp_z, hb]) (fun j => by simp [kp_new, kp_J, kp_z, hb]) (fun j => by simp [kp_new, kp_R, kp_z, hb])
theorem kp_newA_ne {q k n b : Nat} (hb : b ≠ q) : kp_E cy (kp_newA S q k n) b = kp_E cy S b := kp_E_ne (by simp [kp_newA, kp_K, va_up, hb]) (by simp [kp_newA, kp_N, va_up, hb]) (by simp [kp_newA, kp_A, va_up, hb]) (by simp [kp_newA, kp_B, va_up, hb]) (by simp [kp_newA, kp_C, va_up, hb]) (fun j => rfl) (fun j => rfl) (fun j => rfl)
/-- 'new' of class ci over entry index of own's constant pool -/
def kp_NW (own : String) (index ci : Nat) : Prop := ∃ (C : String) (T : u_T) (N : Nat), kp_CL ci C T N ∧ Cond.classLink own index C ∈ kp_tb ∧ Cond.instantiable C N ∈ kp_tb ∧ Cond.initialized C ∈ kp_tb ∧ (∀ j, j < N → defaultValue (kp_ty ci j) = (match kp_tk ci j with | 0 => .int 0 | 1 => .long 0 | _ => .null))
theorem kp_newO {ci index : Nat} (X : kp_X D cy ad own cc nL p s m args c A) (h : kp_H D cy A S s.heap H locs) (nw : kp_NW own index ci) (hcells : cells + 1 ≤ R.cells) (hslots : slots + kp_nf ci ≤ R.slots) (hdg : decode cc pc = .ok (.new index, 3))
    (kk : ∀ (q : Nat) (T : kp_S), q ∉ kp_L S → T = kp_new S q ci → kp_le S T → kp_is T q ci → ∀ (H1 : Heap), kp_H D cy A T s.heap H1 locs → W p l e R s m args below meth c H1 locs (cells + 1) (slots + kp_nf ci) Q (F0 m (pc + 3) ls (.ref q :: rest))) : W p l e R s m args below meth c H locs cells slots Q (F0 m pc ls rest) := by
  obtain ⟨C, T, N, ⟨h1, h2, h3, h4, h5, h6⟩, h7, h8, h9, h10⟩ := nw
  have hts := X.2.2.2.2.1
  subst h3
  refine va_new (D := D) (ci := ci) (fs := (List.range (kp_nf ci)).map (fun j => defaultValue (kp_ty ci j))) X.1 X.2.1 hts h4 (kp_ty ci) h5 X.2.2.2.1 (hts _ h7) (hts _ h8) (hts _ h9) X.2.2.2.2.2.1 h.1 h.2.1 h.2.2.1 X.2.2.2.2.2.2.1 h1 (fun j hj => ?_) hcells hslots hdg (fun q H1 hP hD hS => ?_)
  · simp [vp_V, List.getElem?_map, List.getElem?_range hj]
  · have hq := kp_fresh hD
    have he : kp_pl cy S ++ [(q, .inr (ci, (List.range (kp_nf ci)).map (fun j => defaultValue (kp_ty ci j))))] = kp_pl cy (kp_new S q ci) := by
      refine kp_push_eq hq rfl ?_ (fun b hb => kp_new_ne hb)
      rw [kp_newE h2]
      congr 2
      refine (kp_fs_ext (by simp) (fun j hj => ?_)).symm
      rw [kp_newV, ← h10 j hj]
      simp [List.getElem?_map, List.getElem?_range hj]
    exact kk q _ hq rfl (kp_new_le hq) kp_new_is H1 ⟨by rw [← he]; exact hP, by rw [← he]; exact hD, hS, kp_new_ok h2 h.2.2.2 hq⟩
theorem kp_newA_E {q k n : Nat} (hk : k = 13 ∨ k = 14 ∨ k = 16) : kp_E cy (kp_newA S q k n) q = .inl (cy k, n, .inl (fun _ => 0)) := by
  rw [kp_Ei kp_newA_is.2 hk]; simp [kp_newA, kp_N, kp_A, va_up]
theorem kp_newA_El {q n : Nat} : kp_E cy (kp_newA S q 15 n) q = .inl (cy 15, n, .inr (.inl (fun _ => 0))) := by
  rw [kp_El kp_newA_is.2]; simp [kp_newA, kp_N, kp_B, va_up]
theorem kp_newA_Er {q k n : Nat} (hk : k = 17 ∨ k = 18) : kp_E cy (kp_newA S q k n) q = .inl (cy k, n, .inr (.inr (.inr (.inr (fun _ => none))))) := by
  rw [kp_Er kp_newA_is.2 hk]; simp [kp_newA, kp_N, kp_C, va_up]
theorem kp_cy {ty : FieldType} {cA cB : ClassId} {tys : List (ClassId × FieldType)} {t0 : Nat} (hK : va_K D kp_cl (tys ++ [(cA, ty)]) s) (ht : tys[t0]? = some (cB, ty)) (hty : ∀ U cX, va_RA U cX ty → U.vm.findClass ("[" ++ ty.toString) = some cX) : cA = cB := by
  have h1 := (hK.2 tys.length (cA, ty) (by simp)).2
  have h2 := (hK.2 t0 (cB, ty) (by rw [List.getElem?_append_left ((List.getElem?_eq_some_iff.mp ht).1)]; exact ht)).2
  exact Option.some.inj ((hty s cA h1).symm.trans (hty s cB h2))
theorem kp_newAK {k n t0 : Nat} {ty : FieldType} {a0 : vp_A} {at0 : ArrayType} {v : Int32} (X : kp_X D cy ad own cc nL p s m args c A) (h : kp_H D cy A S s.heap H locs) (hac : Cond.arrayClass (newarray.typeOf at0) ∈ kp_tb) (hty : newarray.typeOf at0 = ty) (hra : ∀ U cX, va_RA U cX ty → U.vm.findClass ("[" ++ ty.toString) = some cX) (ht0 : (kp_tys cy)[t0]? = some (cy k, ty)) (hk : 13 ≤ k) (ha : ∀ cA : ClassId, vp_cell cA a0 = arrV cA n (fun _ => defaultValue ty)) (hE : ∀ q, kp_E cy (kp_newA S q k n) q = .inl (cy k, a0))
    (hn : ¬ v < 0) (hv : v.toNatClampNeg = n) (hb : n * componentBytes ty ≤ 536870912) (hcells : cells + 1 ≤ R.cells) (hslots : slots + n ≤ R.slots) (hdg : decode cc pc = .ok (.newarray at0, 2))
    (kk : ∀ (q : Nat) (T : kp_S), q ∉ kp_L S → T = kp_newA S q k n → kp_le S T → kp_is T q k → ∀ (H1 : Heap), kp_H D cy A T s.heap H1 locs → W p l e R s m args below meth c H1 locs (cells + 1) (slots + n) Q (F0 m (pc + 2) ls (.ref q :: rest))) : W p l e R s m args below meth c H locs cells slots Q (F0 m pc ls (.int v :: rest)) := by
  have hts := X.2.2.2.2.1
  refine va_newa X.1 X.2.1 (hts _ hac) hty X.2.2.2.2.2.1 h.1 h.2.1 h.2.2.1 X.2.2.2.2.2.2.1 ha hn hv hb hcells hslots hdg (fun q cA H1 hK hP hD hS => ?_)
  have hcA : cA = cy k := kp_cy hK ht0 hra
  subst hcA
  have hq := kp_fresh hD
  have he : kp_pl cy S ++ [(q, .inl (cy k, a0))] = kp_pl cy (kp_newA S q k n) := kp_push_eq hq rfl (hE q) (fun b hb => kp_newA_ne hb)
  exact kk q _ hq rfl (kp_newA_le hq) kp_newA_is H1 ⟨by rw [← he]; exact hP, by rw [← he]; exact hD, hS, kp_newA_ok hk h.2.2.2 hq⟩
theorem kp_newi {n : Nat} {v : Int32} (X : kp_X D cy ad own cc nL p s m args c A) (h : kp_H D cy A S s.heap H locs) (hac : Cond.arrayClass .int ∈ kp_tb) (hn : ¬ v < 0) (hv : v.toNatClampNeg = n) (hb : n * 4 ≤ 536870912) (hcells : cells + 1 ≤ R.cells) (hslots : slots + n ≤ R.slots) (hdg : decode cc pc = .ok (.newarray .int, 2))
    (kk : ∀ (q : Nat) (T : kp_S), q ∉ kp_L S → T = kp_newA S q 14 n → kp_le S T → kp_is T q 14 → ∀ (H1 : Heap), kp_H D cy A T s.heap H1 locs → W p l e R s m args below meth c H1 locs (cells + 1) (slots + n) Q (F0 m (pc + 2) ls (.ref q :: rest))) : W p l e R s m args below meth c H locs cells slots Q (F0 m pc ls (.int v :: rest)) :=
  kp_newAK (t0 := 1) (at0 := .int) (ty := .int) X h hac rfl (fun _ _ h => h) rfl (by omega) (fun _ => rfl) (fun q => kp_newA_E (by omega)) hn hv hb hcells hslots hdg kk
theorem kp_newb {n : Nat} {v : Int32} (X : kp_X D cy ad own cc nL p s m args c A) (h : kp_H D cy A S s.heap H locs) (hac : Cond.arrayClass .byte ∈ kp_tb) (hn : ¬ v < 0) (hv : v.toNatClampNeg = n) (hb : n * 1 ≤ 536870912) (hcells : cells + 1 ≤ R.cells) (hslots : slots + n ≤ R.slots) (hdg : decode cc pc = .ok (.newarray .byte, 2))
    (kk : ∀ (q : Nat) (T : kp_S), q ∉ kp_L S → T = kp_newA S q 13 n → kp_le S T → kp_is T q 13 → ∀ (H1 : Heap), kp_H D cy A T s.heap H1 locs → W p l e R s m args below meth c H1 locs (cells + 1) (slots + n) Q (F0 m (pc + 2) ls (.ref q :: rest))) : W p l e R s m args below meth c H locs cells slots Q (F0 m pc ls (.int v :: rest)) :=
  kp_newAK (t0 := 0) (at0 := .byte) (ty := .byte) X h hac rfl (fun _ _ h => h) rfl (by omega) (fun _ => rfl) (fun q => kp_newA_E (by omega)) hn hv hb hcells hslots hdg kk
theorem kp_newz {n : Nat} {v : Int32} (X : kp_X D cy ad own cc nL p s m args c A) (h : kp_H D cy A S s.heap H locs) (hac : Cond.arrayClass .boolean ∈ kp_tb) (hn : ¬ v < 0) (hv : v.toNatClampNeg = n) (hb : n * 1 ≤ 536870912) (hcells : cells + 1 ≤ R.cells) (hslots : slots + n ≤ R.slots) (hdg : decode cc pc = .ok (.newarray .boolean, 2))
    (kk : ∀ (q : Nat) (T : kp_S), q ∉ kp_L S → T = kp_newA S q 16 n → kp_le S T → kp_is T q 16 → ∀ (H1 : Heap), kp_H D cy A T s.heap H1 locs → W p l e R s m args below meth c H1 locs (cells + 1) (slots + n) Q (F0 m (pc + 2) ls (.ref q :: rest))) : W p l e R s m args below meth c H locs cells slots Q (F0 m pc ls (.int v :: rest)) :=
  kp_newAK (t0 := 3) (at0 := .boolean) (ty := .boolean) X h hac rfl (fun _ _ h => h) rfl (by omega) (fun _ => rfl) (fun q => kp_newA_E (by omega)) hn hv hb hcells hslots hdg kk
theorem kp_newl {n : Nat} {v : Int32} (X : kp_X D cy ad own cc nL p s m args c A) (h : kp_H D cy A S s.heap H locs) (hac : Cond.arrayClass .long ∈ kp_tb) (hn : ¬ v < 0) (hv : v.toNatClampNeg = n) (hb : n * 8 ≤ 536870912) (hcells : cells + 1 ≤ R.cells) (hslots : slots + n ≤ R.slots) (hdg : decode cc pc = .ok (.newarray .long, 2))
    (kk : ∀ (q : Nat) (T : kp_S), q ∉ kp_L S → T = kp_newA S q 15 n → kp_le S T → kp_is T q 15 → ∀ (H1 : Heap), kp_H D cy A T s.heap H1 locs → W p l e R s m args below meth c H1 locs (cells + 1) (slots + n) Q (F0 m (pc + 2) ls (.ref q :: rest))) : W p l e R s m args below meth c H locs cells slots Q (F0 m pc ls (.int v :: rest)) :=
  kp_newAK (t0 := 2) (at0 := .long) (ty := .long) X h hac rfl (fun _ _ h => h) rfl (by omega) (fun _ => rfl) (fun q => kp_newA_El) hn hv hb hcells hslots hdg kk
theorem kp_newq {k n t0 index : Nat} {C : String} {v : Int32} (X : kp_X D cy ad own cc nL p s m args c A) (h : kp_H D cy A S s.heap H locs) (hcl : Cond.classLink own index C ∈ kp_tb) (hao : va_AO C s) (ht0 : (kp_tys cy)[t0]? = some (cy k, .object C)) (hk : k = 17 ∨ k = 18) (hn : ¬ v < 0) (hv : v.toNatClampNeg = n) (hb : n * 4 ≤ 536870912) (hcells : cells + 1 ≤ R.cells) (hslots : slots + n ≤ R.slots) (hdg : decode cc pc = .ok (.anewarray index, 3))
    (kk : ∀ (q : Nat) (T : kp_S), q ∉ kp_L S → T = kp_newA S q k n → kp_le S T → kp_is T q k → ∀ (H1 : Heap), kp_H D cy A T s.heap H1 locs → W p l e R s m args below meth c H1 locs (cells + 1) (slots + n) Q (F0 m (pc + 3) ls (.ref q :: rest))) : W p l e R s m args below meth c H locs cells slots Q (F0 m pc ls (.int v :: rest)) := by
  have hts := X.2.2.2.2.1
  refine va_newq X.1 X.2.1 X.2.2.2.1 (hts _ hcl) hao X.2.2.2.2.2.1 h.1 h.2.1 h.2.2.1 X.2.2.2.2.2.2.1 hn hv hb hcells hslots hdg (fun q cA H1 hK hP hD hS => ?_)
  have hcA : cA = cy k := kp_cy hK ht0 (fun _ _ h => by obtain ⟨_, _, _, _, _, h4⟩ := h; exact h4)
  subst hcA
  have hq := kp_fresh hD
  have he : kp_pl cy S ++ [(q, .inl (cy k, n, .inr (.inr (.inr (.inr (fun _ => none))))))] = kp_pl cy (kp_newA S q k n) := kp_push_eq hq rfl (kp_newA_Er hk) (fun b hb => kp_newA_ne hb)
  exact kk q _ hq rfl (kp_newA_le hq) kp_newA_is H1 ⟨by rw [← he]; exact hP, by rw [← he]; exact hD, hS, kp_newA_ok (by omega) h.2.2.2 hq⟩
end KPR
