/-! run MAY THROW: its contract, and the law's own run that catches. -/
abbrev kp_ise : String := "java/lang/IllegalStateException"
abbrev kp_iae : String := "java/lang/IllegalArgumentException"
abbrev kp_chain : List String := ["java/lang/RuntimeException", "java/lang/Exception"]
def kp_dl : List MethodName := [⟨"java/lang/RuntimeException", "<init>", "()V"⟩, ⟨"java/lang/Exception", "<init>", "()V"⟩, ⟨"java/lang/Throwable", "<init>", "()V"⟩]
def kp_Th (A : Nat → Prop) (U : State) (H : Heap) : Prop := vx_Zq Bundle.tN "UNASSIGNED_STACK" Bundle.steD A U H ∧ vx_Zq Bundle.tN "SUPPRESSED_SENTINEL" Bundle.listD A U H ∧ va_Nw (.castable kp_ise kp_ise) U ∧ va_Nw (.castable kp_iae kp_iae) U ∧ va_Nc kp_iae kp_ise U ∧ ∀ y ∈ kp_dl, va_Nw (.declares y) U
theorem kp_Th.go {A B : Nat → Prop} {s U : State} {H H1 : Heap} (h : kp_Th A s H) (hW : s.WarmedH U.vm) (hq : ∀ a : Nat, a < H.size → ¬ A a → H1[a]? = H[a]?) (hAB : ∀ q, B q → A q) : kp_Th B U H1 := by
  obtain ⟨h1, h2, h3, h4, h5, h6⟩ := h
  exact ⟨((h1.moved hW.alike).kept hq).narrow hAB, ((h2.moved hW.alike).kept hq).narrow hAB, h3.warmC hW, h4.warmC hW, h5.moved hW.alike, fun y hy => (h6 y hy).warmD hW⟩
theorem kp_Th.call {A : Nat → Prop} {U : State} {H : Heap} {g : JFrame} {mk : MethodId} {a : Array Value} (h : kp_Th A U H) : kp_Th A (U.calling g mk a) H := by
  obtain ⟨h1, h2, h3, h4, h5, h6⟩ := h
  have hv : U.vm.Alike (U.calling g mk a).vm := Vm.Alike.refl U.vm
  exact ⟨h1.moved hv, h2.moved hv, h3.warmC (U := U.calling g mk a) (State.WarmedH.refl U), h4.warmC (U := U.calling g mk a) (State.WarmedH.refl U), h5.moved hv, fun y hy => (h6 y hy).warmD (U := U.calling g mk a) (State.WarmedH.refl U)⟩
def kp_PreX (D : va_G) (cy : Nat → ClassId) (ad : (Nat → Nat) × (Nat → Nat)) (S : kp_S) (sz : Nat) (U : State) : Prop := kp_Pre D cy ad S sz U ∧ kp_Th (va_A (kp_pl cy S) sz) U U.heap
def kp_XC (D : va_G) (cy : Nat → ClassId) (A : Nat → Prop) (S : kp_S) (px : Int32 → kp_S → Prop) : String → State → State → Prop := vx_X (fun _ : kp_S => True) (fun E u t => ((E = kp_ise ∧ px 1 u) ∨ (E = kp_iae ∧ px 2 u)) ∧ kp_At D cy A S u t) A
def kp_MX (l : Launch) (y : MethodName) (cc : ByteArray) (n : Nat) (ret : Option FieldType) (rm : Room) (D : va_G) (cy : Nat → ClassId) (ad : (Nat → Nat) × (Nat → Nat)) (S : kp_S) (av : List Value) (mc ms : Nat) (Qc : (Nat → Prop) → Array Value → State → Outcome → State → Prop) (XC : (Nat → Prop) → String → State → State → Prop) : Prop :=
  ∀ sz : Nat, vx_Met l y (kp_ws y cc n ret) rm (va_Pc av (kp_PreX D cy ad S sz)) (Qc (va_A (kp_pl cy S) sz)) (XC (va_A (kp_pl cy S) sz)) mc ms (va_A (kp_pl cy S) sz)
theorem kp_startX {l : Launch} {y : MethodName} {cc : ByteArray} {nL : Nat} {ret : Option FieldType} {rm : Room} {D : va_G} {cy : Nat → ClassId} {ad : (Nat → Nat) × (Nat → Nat)} {S : kp_S} {av : List Value} {mc ms : Nat} {Qc : (Nat → Prop) → Array Value → State → Outcome → State → Prop} {XC : (Nat → Prop) → String → State → State → Prop} {own : String}
    (hy : plainName y.cls = true) (hown : y.cls = own) (hlen : (lg_sl av).length ≤ nL) (hS : kp_ok S)
    (body : ∀ (p : Program) (e : Env) (s : State) (m : MethodId) (below : List Frame) (meth : Method) (c : Code) (A : Nat → Prop) (ls : Array Slot), kp_X D cy ad own cc nL p s m av.toArray c A → meth.sig.returnType = ret → meth.locks = false → (∀ x ∈ c.exceptionTable.toList, False) → kp_Th A s s.heap → kp_H D cy A S s.heap s.heap [] → lv_has ls nL (lv_args 0 av) →
      W p l e rm s m av.toArray below meth c s.heap [] 0 0 (vx_MQ below (Qc A) (XC A) av.toArray s mc ms A) (F0 m 0 ls [])) : kp_MX l y cc nL ret rm D cy ad S av mc ms Qc XC := by
  intro sz
  refine vx_ofW (cc := cc) (maxL := nL) (ret := ret) hy rfl ?_
  intro p e s m args below meth c s₁ B hml htab hv
  obtain ⟨rfl, ⟨hsz, hP, hK, hD0, hEx⟩, hTh⟩ := hv
  have hts := atoms_spec (ws := kp_ws y cc nL ret) B.pre
  have hownm : s.vm.findClass own = some m.cls := hown ▸ findClass_of_methodNamed B.named
  subst hsz
  have hD := hD0.self (sz := s.heap.size)
  have hA : ∀ q : Nat, s.heap.size ≤ q → va_A (kp_pl cy S) s.heap.size q := fun q h => Or.inr h
  have hl := lv_entry av (n := nL) hlen
  rw [lg_entry_eq]
  exact body p e s m below meth c _ _ ⟨B.exec, B.bytes, hml, hownm, fun w hw => hts w (List.mem_cons_of_mem _ hw), hK, hA, hEx⟩ B.returns B.notSynchronized htab hTh ⟨hP, hD, va_S.rf, hS⟩ hl
/-- a throw of cls over entries ik, ic of own's constant pool -/
def kp_TW (own : String) (ik ic : Nat) (cls : String) : Prop := Bundle.fit cls = true ∧ (∀ n ∈ kp_chain, Bundle.fit n = true) ∧ Cond.classLink own ik cls ∈ kp_tb ∧ Cond.initialized cls ∈ kp_tb ∧ (∀ w ∈ (vx_at0 own ic cls kp_chain).filter goodWord, w ∈ kp_tb) ∧ (∀ w ∈ (vx_at0 own ic cls kp_chain).filter (fun w => !goodWord w), w ∈ (Cond.castable cls cls :: kp_dl.map Cond.declares)) ∧ (∀ w ∈ Cond.classLink own ik cls :: Cond.initialized cls :: vx_at0 own ic cls kp_chain, vx_ot w = true)
section KPX
variable {p : Program} {l : Launch} {e : Env} {R : Room} {s : State} {m : MethodId} {args : Array Value} {below : List Frame} {meth : Method} {c : Code} {H : Heap} {locs : List Loc} {cells slots : Nat} {Q : State → Prop}
variable {D : va_G} {cy : Nat → ClassId} {ad : (Nat → Nat) × (Nat → Nat)} {own : String} {cc : ByteArray} {nL : Nat} {A : Nat → Prop} {S S0 : kp_S} {pc : Nat} {ls : Array Slot} {rest : List Value} {a : Nat}
theorem kp_throw {cls : String} {ik ic mc ms : Nat} {Qc : Array Value → State → Outcome → State → Prop} {px : Int32 → kp_S → Prop} (X : kp_X D cy ad own cc nL p s m args c A) (hlt : l.stackTraces = false) (Th : kp_Th A s s.heap) (htab : ∀ x ∈ c.exceptionTable.toList, False) (hlocks : meth.locks = false) (h : kp_H D cy A S s.heap H locs) (hle : kp_le S0 S) (hls : ls.size = nL) (tw : kp_TW own ik ic cls) (hcast : va_Nw (.castable cls cls) s) (hp : (cls = kp_ise ∧ px 1 S) ∨ (cls = kp_iae ∧ px 2 S))
    (d0 : decode cc pc = .ok (.new ik, 3)) (d3 : decode cc (pc + 3) = .ok (.dup, 1)) (d4 : decode cc (pc + 4) = .ok (.invokespecial ic, 3)) (d7 : decode cc (pc + 7) = .ok (.athrow, 1))
    (hRf : 5 < R.frames) (hRl : (rest.map fun v => v.category).sum + 81 ≤ R.locals) (hRc : cells + 1 ≤ R.cells) (hRs : slots + 6 ≤ R.slots) (hc : cells + 1 ≤ mc) (hs : slots + 6 ≤ ms) :
    W p l e R s m args below meth c H locs cells slots (vx_MQ below Qc (kp_XC D cy A S0 px) args s mc ms A) (F0 m pc ls rest) := by
  obtain ⟨t1, t2, t3, t4, t5, t6, t7⟩ := tw
  have hts := X.2.2.2.2.1
  refine vx_throw0 (A := A) (names := kp_chain) X.1 X.2.1 hlt X.2.2.2.1 t1 t2 (hts _ t3) (hts _ t4) (vx_hat (fun w hw => hts w (t5 w hw)) t6 (fun w hw => by
    rcases List.mem_cons.mp hw with rfl | hw
    · exact va_any rfl hcast
    · obtain ⟨y, hy, rfl⟩ := List.mem_map.mp hw
      exact va_any rfl (Th.2.2.2.2.2 y hy))) t7 Th.1 Th.2.1 h.2.2.1 (by rw [X.2.2.1]; exact hls) d0 d3 d4 d7 (fun x hx => (htab x hx).elim) hRf hRl hRc hRs hlocks (fun t hal hsz hk => ?_) h.2.2.1.2.2 hc hs
  have hS := h.2.2.1
  refine ⟨S, trivial, ⟨hp, h.1.kept (fun k x hx => hk x.1 ((h.1 k x hx).lt)), va_K.moved hal X.2.2.2.2.2.1, h.2.1, h.2.2.2, hle⟩, Nat.le_trans hS.1 hsz, fun q hq hA => ?_⟩
  rw [hk q (Nat.lt_of_lt_of_le hq hS.1)]
  exact hS.2.1 q hq hA
end KPX
theorem tw_11_104_a : ∀ w ∈ (vx_at0 RX11 106 kp_ise kp_chain).filter goodWord, w ∈ lw_tbl := by decide +kernel
theorem tw_11_104 : kp_TW RX11 104 106 kp_ise := ⟨by decide +kernel, by decide +kernel, kp_mem 1262 (by decide +kernel) (by decide +kernel), kp_mem 226 (by decide +kernel) (by decide +kernel), fun w hw => List.mem_filter.mpr ⟨tw_11_104_a w hw, (List.mem_filter.mp hw).2⟩, by decide +kernel, by decide +kernel⟩
theorem tw_11_107_a : ∀ w ∈ (vx_at0 RX11 109 kp_iae kp_chain).filter goodWord, w ∈ lw_tbl := by decide +kernel
theorem tw_11_107 : kp_TW RX11 107 109 kp_iae := ⟨by decide +kernel, by decide +kernel, kp_mem 1324 (by decide +kernel) (by decide +kernel), kp_mem 227 (by decide +kernel) (by decide +kernel), fun w hw => List.mem_filter.mpr ⟨tw_11_107_a w hw, (List.mem_filter.mp hw).2⟩, by decide +kernel, by decide +kernel⟩
theorem kc_11_103 : Cond.constant RX11 103 200000 ∈ kp_tb := kp_mem 1261 (by decide +kernel) (by decide +kernel)
theorem cv_11_110 : kp_CV RX11 110 yX4_perform cX4_perform 7 (some .int) 5 4 := ⟨⟨kp_mem 1342 (by decide +kernel) (by decide +kernel), kp_mem 216 (by decide +kernel) (by decide +kernel), by decide +kernel⟩, kp_mem 1339 (by decide +kernel) (by decide +kernel), kp_mem 1340 (by decide +kernel) (by decide +kernel), kp_mem 1341 (by decide +kernel) (by decide +kernel), by decide, TX4, 15, rfl⟩
theorem dX11_run_0 : decode cX11_run 0 = .ok (.aload_n 0, 1) := by decide +kernel
theorem dX11_run_1 : decode cX11_run 1 = .ok (.invokevirtual 78, 3) := by decide +kernel
theorem dX11_run_4 : decode cX11_run 4 = .ok (.ifCond .eq 17, 3) := by decide +kernel
theorem dX11_run_7 : decode cX11_run 7 = .ok (.aload_n 0, 1) := by decide +kernel
theorem dX11_run_8 : decode cX11_run 8 = .ok (.getfield 41, 3) := by decide +kernel
theorem dX11_run_11 : decode cX11_run 11 = .ok (.bipush 17, 2) := by decide +kernel
theorem dX11_run_13 : decode cX11_run 13 = .ok (.invokevirtual 99, 3) := by decide +kernel
theorem dX11_run_16 : decode cX11_run 16 = .ok (.ldc 103, 2) := by decide +kernel
theorem dX11_run_18 : decode cX11_run 18 = .ok (.if_icmp .lt 11, 3) := by decide +kernel
theorem dX11_run_21 : decode cX11_run 21 = .ok (.new 104, 3) := by decide +kernel
theorem dX11_run_24 : decode cX11_run 24 = .ok (.dup, 1) := by decide +kernel
theorem dX11_run_25 : decode cX11_run 25 = .ok (.invokespecial 106, 3) := by decide +kernel
theorem dX11_run_28 : decode cX11_run 28 = .ok (.athrow, 1) := by decide +kernel
theorem dX11_run_29 : decode cX11_run 29 = .ok (.iload_n 1, 1) := by decide +kernel
theorem dX11_run_30 : decode cX11_run 30 = .ok (.ifCond .lt 27, 3) := by decide +kernel
theorem dX11_run_33 : decode cX11_run 33 = .ok (.iload_n 1, 1) := by decide +kernel
theorem dX11_run_34 : decode cX11_run 34 = .ok (.aload_n 0, 1) := by decide +kernel
theorem dX11_run_35 : decode cX11_run 35 = .ok (.getfield 18, 3) := by decide +kernel
theorem dX11_run_38 : decode cX11_run 38 = .ok (.getfield 82, 3) := by decide +kernel
theorem dX11_run_41 : decode cX11_run 41 = .ok (.if_icmp .ge 16, 3) := by decide +kernel
theorem dX11_run_44 : decode cX11_run 44 = .ok (.iload 4, 2) := by decide +kernel
theorem dX11_run_46 : decode cX11_run 46 = .ok (.ifCond .lt 11, 3) := by decide +kernel
theorem dX11_run_49 : decode cX11_run 49 = .ok (.iload 4, 2) := by decide +kernel
theorem dX11_run_51 : decode cX11_run 51 = .ok (.sipush 20000, 3) := by decide +kernel
theorem dX11_run_54 : decode cX11_run 54 = .ok (.if_icmp .le 11, 3) := by decide +kernel
theorem dX11_run_57 : decode cX11_run 57 = .ok (.new 107, 3) := by decide +kernel
theorem dX11_run_60 : decode cX11_run 60 = .ok (.dup, 1) := by decide +kernel
theorem dX11_run_61 : decode cX11_run 61 = .ok (.invokespecial 109, 3) := by decide +kernel
theorem dX11_run_64 : decode cX11_run 64 = .ok (.athrow, 1) := by decide +kernel
theorem dX11_run_65 : decode cX11_run 65 = .ok (.aload_n 0, 1) := by decide +kernel
theorem dX11_run_66 : decode cX11_run 66 = .ok (.getfield 50, 3) := by decide +kernel
theorem dX11_run_69 : decode cX11_run 69 = .ok (.aload_n 0, 1) := by decide +kernel
theorem dX11_run_70 : decode cX11_run 70 = .ok (.getfield 18, 3) := by decide +kernel
theorem dX11_run_73 : decode cX11_run 73 = .ok (.iload_n 1, 1) := by decide +kernel
theorem dX11_run_74 : decode cX11_run 74 = .ok (.iload_n 2, 1) := by decide +kernel
theorem dX11_run_75 : decode cX11_run 75 = .ok (.iload_n 3, 1) := by decide +kernel
theorem dX11_run_76 : decode cX11_run 76 = .ok (.iload 4, 2) := by decide +kernel
theorem dX11_run_78 : decode cX11_run 78 = .ok (.invokevirtual 110, 3) := by decide +kernel
theorem dX11_run_81 : decode cX11_run 81 = .ok (.ireturn, 1) := by decide +kernel
def wX11_run_b21 (a0 : Nat) (x1 : Int32) (x2 : Int32) (x3 : Int32) (x4 : Int32)  (Sn : kp_S) (post px : Int32 → kp_S → Prop) : Prop :=
  px 1 Sn
def wX11_run_b57 (a0 : Nat) (x1 : Int32) (x2 : Int32) (x3 : Int32) (x4 : Int32)  (Sn : kp_S) (post px : Int32 → kp_S → Prop) : Prop :=
  px 2 Sn
def wX11_run (a0 : Nat) (x1 : Int32) (x2 : Int32) (x3 : Int32) (x4 : Int32) (S : kp_S) (post px : Int32 → kp_S → Prop) : Prop :=
  wX11_hasBook a0 S (fun y2 T1 =>
  ((y2 = 0 →
  wX11_run_b21 a0 x1 x2 x3 x4   T1 post px) ∧ (¬ y2 = 0 →
  ∃ b3 : Nat, kp_R T1 2203 a0 = some b3 ∧
  wX7_get b3 17 T1 (fun y5 T4 =>
  ((y5 < 200000 →
  ((x1 < 0 →
  wX11_run_b57 a0 x1 x2 x3 x4   T4 post px) ∧ (¬ x1 < 0 →
  ∃ b6 : Nat, kp_R T4 2205 a0 = some b6 ∧
  (((kp_I T4 3 b6) ≤ x1 →
  wX11_run_b57 a0 x1 x2 x3 x4   T4 post px) ∧ (¬ (kp_I T4 3 b6) ≤ x1 →
  ((x4 < 0 →
  wX11_run_b57 a0 x1 x2 x3 x4   T4 post px) ∧ (¬ x4 < 0 →
  ((x4 ≤ 20000 →
  ∃ b7 : Nat, kp_R T4 2204 a0 = some b7 ∧
  wX4_perform b7 b6 x1 x2 x3 x4 T4 (fun y9 T8 =>
  post y9 T8)) ∧ (¬ x4 ≤ 20000 →
  wX11_run_b57 a0 x1 x2 x3 x4   T4 post px))))))))) ∧ (¬ y5 < 200000 →
  wX11_run_b21 a0 x1 x2 x3 x4   T4 post px))))))
set_option maxHeartbeats 4000000 in
set_option maxRecDepth 100000 in
theorem c_X11_run (l : Launch) (hlt : l.stackTraces = false) (D : va_G) (cy : Nat → ClassId) (ad : (Nat → Nat) × (Nat → Nat)) (S : kp_S) (a0 : Nat) (x1 : Int32) (x2 : Int32) (x3 : Int32) (x4 : Int32) (post px : Int32 → kp_S → Prop) (hS : kp_ok S) (f_a0 : kp_is S a0 11) (hw : wX11_run a0 x1 x2 x3 x4 S post px) : kp_MX l yX11_run cX11_run 5 (some .int) { frames := 7, cells := 1, slots := 6, locals := 163 } D cy ad S [.ref a0, .int x1, .int x2, .int x3, .int x4] 1 6 (fun A => kp_Qi D cy A S post) (fun A => kp_XC D cy A S px) := by
  refine kp_startX (own := RX11) (by decide) rfl (Nat.le_of_ble_eq_true rfl) hS ?_
  intro p e s m below meth c A ls X hr hlocks htab Th h hl
  have hle : kp_le S S := kp_le.rf
  have hl : lv_has ls 5 [(0, .ref a0), (1, .int x1), (2, .int x2), (3, .int x3), (4, .int x4)] := hl
  have j21 : ∀  (Sn : kp_S) (H : Heap) (locs : List Loc) (ls : Array Slot), lv_has ls 5 [] → kp_H D cy A Sn s.heap H locs → kp_le S Sn → kp_is Sn a0 11 → wX11_run_b21 a0 x1 x2 x3 x4   Sn post px → W p l e { frames := 7, cells := 1, slots := 6, locals := 163 } s m ([.ref a0, .int x1, .int x2, .int x3, .int x4] : List Value).toArray below meth c H locs 0 0 (vx_MQ below (kp_Qi D cy A S post) (kp_XC D cy A S px) ([.ref a0, .int x1, .int x2, .int x3, .int x4] : List Value).toArray s 1 6 A) (F0 m 21 ls []) := by
    intro  Sn H locs ls hl h hle f_a0 hw
    unfold wX11_run_b21 at hw
    exact kp_throw X hlt Th htab hlocks h hle hl.1 tw_11_104 Th.2.2.1 (Or.inl ⟨rfl, hw⟩) dX11_run_21 dX11_run_24 dX11_run_25 dX11_run_28 (by decide) (Nat.le_of_ble_eq_true rfl) (by decide) (by decide) (by decide) (by decide)
  have j57 : ∀  (Sn : kp_S) (H : Heap) (locs : List Loc) (ls : Array Slot), lv_has ls 5 [] → kp_H D cy A Sn s.heap H locs → kp_le S Sn → kp_is Sn a0 11 → wX11_run_b57 a0 x1 x2 x3 x4   Sn post px → W p l e { frames := 7, cells := 1, slots := 6, locals := 163 } s m ([.ref a0, .int x1, .int x2, .int x3, .int x4] : List Value).toArray below meth c H locs 0 0 (vx_MQ below (kp_Qi D cy A S post) (kp_XC D cy A S px) ([.ref a0, .int x1, .int x2, .int x3, .int x4] : List Value).toArray s 1 6 A) (F0 m 57 ls []) := by
    intro  Sn H locs ls hl h hle f_a0 hw
    unfold wX11_run_b57 at hw
    exact kp_throw X hlt Th htab hlocks h hle hl.1 tw_11_107 Th.2.2.2.1 (Or.inr ⟨rfl, hw⟩) dX11_run_57 dX11_run_60 dX11_run_61 dX11_run_64 (by decide) (Nat.le_of_ble_eq_true rfl) (by decide) (by decide) (by decide) (by decide)
  unfold wX11_run at hw
  have h : kp_H D cy A S s.heap s.heap [] := h
  revert h
  intro h
  refine lv_aload_n X.1 X.2.1 dX11_run_0 rfl (lv_at hl 0 rfl) ?_
  refine kp_calli X h (kp_runV (rm := { frames := 0, cells := 0, slots := 0, locals := 0 }) (mc := 0) (ms := 0) (rest := []) (Qc := fun A => kp_Qi D cy A S _) X h (c_X11_hasBook l D cy ad S a0 _ h.2.2.2 f_a0 hw) f_a0 cv_11_78 ⟨by decide, by decide, rfl, rfl, by decide, by decide⟩ rfl hl.1 rfl (Nat.le_of_ble_eq_true rfl) dX11_run_1) (fun y2 T1 hw l_T1 H locs h => ?_)
  have f_a0 := l_T1.is f_a0
  have hle := hle.tr l_T1
  refine lv_if_eq (tgt := 21) X.1 X.2.1 dX11_run_4 (by decide) (fun c15 => ?_) (fun c15 => ?_)
  · have hw := hw.1 c15
    exact j21  T1 _ _ ls (lv_sub hl [] rfl) h hle f_a0 hw
  · have hw := hw.2 c15
    refine lv_aload_n X.1 X.2.1 dX11_run_7 rfl (lv_at hl 0 rfl) ?_
    obtain ⟨b3, e_b3, hw⟩ := hw
    have f_b3 := h.2.2.2.rf (c := 11) (k := 3) f_a0 (by decide) (by decide) e_b3 (t := 7) rfl
    refine kp_get X h f_a0 ff_11_41.l (v := .ref b3) (congrArg va_rf e_b3) dX11_run_8 ?_
    refine lv_bipush (v := 17) X.1 X.2.1 dX11_run_11 (by decide) ?_
    refine kp_calli X h (kp_runV (rm := { frames := 0, cells := 0, slots := 0, locals := 0 }) (mc := 0) (ms := 0) (rest := []) (Qc := fun A => kp_Qi D cy A T1 _) X h (c_X7_get l D cy ad T1 b3 17 _ h.2.2.2 f_b3 hw) f_b3 cv_11_99 ⟨by decide, by decide, rfl, rfl, by decide, by decide⟩ rfl hl.1 rfl (Nat.le_of_ble_eq_true rfl) dX11_run_13) (fun y5 T4 hw l_T4 H locs h => ?_)
    have f_a0 := l_T4.is f_a0
    have f_b3 := l_T4.is f_b3
    have hle := hle.tr l_T4
    refine lv_ldc (v := 200000) X.1 X.2.1 X.2.2.2.1 (X.2.2.2.2.1 _ kc_11_103) dX11_run_16 ?_
    refine lv_icmp_lt (tgt := 29) X.1 X.2.1 dX11_run_18 (by decide) (fun c14 => ?_) (fun c14 => ?_)
    · have hw := hw.1 c14
      refine lv_iload_n X.1 X.2.1 dX11_run_29 rfl (lv_at hl 1 rfl) ?_
      refine lv_if_lt (tgt := 57) X.1 X.2.1 dX11_run_30 (by decide) (fun c13 => ?_) (fun c13 => ?_)
      · have hw := hw.1 c13
        exact j57  T4 _ _ ls (lv_sub hl [] rfl) h hle f_a0 hw
      · have hw := hw.2 c13
        refine lv_iload_n X.1 X.2.1 dX11_run_33 rfl (lv_at hl 1 rfl) ?_
        refine lv_aload_n X.1 X.2.1 dX11_run_34 rfl (lv_at hl 0 rfl) ?_
        obtain ⟨b6, e_b6, hw⟩ := hw
        have f_b6 := h.2.2.2.rf (c := 11) (k := 5) f_a0 (by decide) (by decide) e_b6 (t := 0) rfl
        refine kp_get X h f_a0 fp_11_18.l (v := .ref b6) (congrArg va_rf e_b6) dX11_run_35 ?_
        refine kp_get X h f_b6 fp_11_82.l (v := .int (kp_I T4 3 b6)) rfl dX11_run_38 ?_
        refine lv_icmp_ge (tgt := 57) X.1 X.2.1 dX11_run_41 (by decide) (fun c12 => ?_) (fun c12 => ?_)
        · have hw := hw.1 c12
          exact j57  T4 _ _ ls (lv_sub hl [] rfl) h hle f_a0 hw
        · have hw := hw.2 c12
          refine lv_iload X.1 X.2.1 dX11_run_44 (lv_at hl 4 rfl) ?_
          refine lv_if_lt (tgt := 57) X.1 X.2.1 dX11_run_46 (by decide) (fun c11 => ?_) (fun c11 => ?_)
          · have hw := hw.1 c11
            exact j57  T4 _ _ ls (lv_sub hl [] rfl) h hle f_a0 hw
          · have hw := hw.2 c11
            refine lv_iload X.1 X.2.1 dX11_run_49 (lv_at hl 4 rfl) ?_
            refine lv_sipush (v := 20000) X.1 X.2.1 dX11_run_51 (by decide) ?_
            refine lv_icmp_le (tgt := 65) X.1 X.2.1 dX11_run_54 (by decide) (fun c10 => ?_) (fun c10 => ?_)
            · have hw := hw.1 c10
              refine lv_aload_n X.1 X.2.1 dX11_run_65 rfl (lv_at hl 0 rfl) ?_
              obtain ⟨b7, e_b7, hw⟩ := hw
              have f_b7 := h.2.2.2.rf (c := 11) (k := 4) f_a0 (by decide) (by decide) e_b7 (t := 4) rfl
              refine kp_get X h f_a0 ff_11_50.l (v := .ref b7) (congrArg va_rf e_b7) dX11_run_66 ?_
              refine lv_aload_n X.1 X.2.1 dX11_run_69 rfl (lv_at hl 0 rfl) ?_
              refine kp_get X h f_a0 fp_11_18.l (v := .ref b6) (congrArg va_rf e_b6) dX11_run_70 ?_
              refine lv_iload_n X.1 X.2.1 dX11_run_73 rfl (lv_at hl 1 rfl) ?_
              refine lv_iload_n X.1 X.2.1 dX11_run_74 rfl (lv_at hl 2 rfl) ?_
              refine lv_iload_n X.1 X.2.1 dX11_run_75 rfl (lv_at hl 3 rfl) ?_
              refine lv_iload X.1 X.2.1 dX11_run_76 (lv_at hl 4 rfl) ?_
              refine kp_calli X h (kp_runV (rm := { frames := 6, cells := 0, slots := 0, locals := 137 }) (mc := 0) (ms := 0) (rest := []) (Qc := fun A => kp_Qi D cy A T4 _) X h (c_X4_perform l D cy ad T4 b7 b6 x1 x2 x3 x4 _ h.2.2.2 f_b7 f_b6 hw) f_b7 cv_11_110 ⟨by decide, by decide, rfl, rfl, by decide, by decide⟩ rfl hl.1 rfl (Nat.le_of_ble_eq_true rfl) dX11_run_78) (fun y9 T8 hw l_T8 H locs h => ?_)
              have f_a0 := l_T8.is f_a0
              have f_b3 := l_T8.is f_b3
              have f_b6 := l_T8.is f_b6
              have f_b7 := l_T8.is f_b7
              have hle := hle.tr l_T8
              refine W.widen (k := 1) (n := 6) (by decide) (by decide) ?_
              exact vx_ret (kp_reti X hr hlocks h hle rfl hw dX11_run_81)
            · have hw := hw.2 c10
              exact j57  T4 _ _ ls (lv_sub hl [] rfl) h hle f_a0 hw
    · have hw := hw.2 c14
      exact j21  T4 _ _ ls (lv_sub hl [] rfl) h hle f_a0 hw
/-! THE LAW'S run: it catches what run throws. -/
section KPC
variable {p : Program} {l : Launch} {e : Env} {R : Room} {s : State} {m : MethodId} {args : Array Value} {below : List Frame} {meth : Method} {c : Code} {H : Heap} {locs : List Loc} {cells slots : Nat} {Q : State → Prop}
variable {D : va_G} {cy : Nat → ClassId} {ad : (Nat → Nat) × (Nat → Nat)} {own : String} {cc : ByteArray} {nL : Nat} {A : Nat → Prop} {S S0 : kp_S} {pc : Nat} {ls : Array Slot} {rest : List Value} {a : Nat}
theorem kp_catch1 {name E : String} {ce : Cell} {q : Addr} {x : ExceptionTableEntry} {r : List ExceptionTableEntry} (hown : s.vm.findClass own = some m.cls) (ht : c.exceptionTable.toList = x :: r) (hx : covers x pc = true) (h0 : x.catchType ≠ 0) (hlink : (Cond.classLink own x.catchType name).before args s = true) (hcast : (Cond.castable E name).before args s = true) (hcell : H[q]? = some ce) (hv : ce.vm = .none) (hcl : s.vm.findClass E = some ce.cls)
    (kk : W p l e R s m args below meth c H locs cells slots Q (F0 m x.handlerPc ls [.ref q])) : vx_W p l e R s m args below meth c H locs cells slots Q (F0 m pc ls rest) q := by
  intro T hT Y
  have hpl : e.platform.magicAccessors = ({} : Platform).magicAccessors := by rw [Y.admits.platform]
  obtain ⟨c3, c4, hc3, hc4, hasg⟩ := Cond.castable_spec hcast
  cases Option.some.inj (hc3.symm.trans hcl)
  obtain ⟨c5, hc5, hcl5⟩ := Cond.classLink_spec hown hlink e.platform hpl
  cases Option.some.inj (hc4.symm.trans hc5)
  have hce : T.heap[q]? = some ce := by rw [hT]; exact hcell
  obtain ⟨vm', w1, w2⟩ := kc_first (e := e) (s0 := s) (S := (T.setTop (F0 m pc ls rest)).pushFrame (.throwing q)) (f := F0 m pc ls rest) (a := q) (meth := meth) (c := c) (cell := ce) Y.method' Y.code ht Y.warmed hce (VmData.ne_statics_of (by rw [hv]; rfl)) (by obtain ⟨k9, h9, -⟩ := Vm.findClass_spec hcl; exact ⟨k9, h9⟩) hx h0 hcl5 hasg
  obtain ⟨t, a1, b1⟩ := kk (T.setVm vm') hT (Y.noted w1)
  exact ⟨t, kc_steps (g := F0 m pc ls rest) Y.here w2 a1, b1⟩
theorem kp_catch2 {nx name E : String} {ce : Cell} {q : Addr} {x y : ExceptionTableEntry} {r : List ExceptionTableEntry} (hown : s.vm.findClass own = some m.cls) (ht : c.exceptionTable.toList = x :: y :: r) (hx : covers x pc = true) (h0 : x.catchType ≠ 0) (hlx : (Cond.classLink own x.catchType nx).before args s = true) (hno : va_Nc E nx s) (hy : covers y pc = true) (h0y : y.catchType ≠ 0) (hlink : (Cond.classLink own y.catchType name).before args s = true) (hcast : (Cond.castable E name).before args s = true) (hcell : H[q]? = some ce) (hv : ce.vm = .none) (hcl : s.vm.findClass E = some ce.cls)
    (kk : W p l e R s m args below meth c H locs cells slots Q (F0 m y.handlerPc ls [.ref q])) : vx_W p l e R s m args below meth c H locs cells slots Q (F0 m pc ls rest) q := by
  intro T hT Y
  have hpl : e.platform.magicAccessors = ({} : Platform).magicAccessors := by rw [Y.admits.platform]
  obtain ⟨c3, c4, hc3, hc4, hasg⟩ := Cond.castable_spec hcast
  cases Option.some.inj (hc3.symm.trans hcl)
  obtain ⟨c5, hc5, hcl5⟩ := Cond.classLink_spec hown hlink e.platform hpl
  cases Option.some.inj (hc4.symm.trans hc5)
  obtain ⟨c6, hc6, hcl6⟩ := Cond.classLink_spec hown hlx e.platform hpl
  obtain ⟨a8, b8, h1, h2, h3⟩ := hno
  cases Option.some.inj (h1.symm.trans hcl)
  cases Option.some.inj (h2.symm.trans hc6)
  have hce : T.heap[q]? = some ce := by rw [hT]; exact hcell
  obtain ⟨vm', w1, w2⟩ := kc_second (e := e) (s0 := s) (S := (T.setTop (F0 m pc ls rest)).pushFrame (.throwing q)) (f := F0 m pc ls rest) (a := q) (meth := meth) (c := c) (cell := ce) Y.method' Y.code ht Y.warmed hce (VmData.ne_statics_of (by rw [hv]; rfl)) (by obtain ⟨k9, h9, -⟩ := Vm.findClass_spec hcl; exact ⟨k9, h9⟩) hx h0 hcl6 h3 hy h0y hcl5 hasg
  obtain ⟨t, a1, b1⟩ := kk (T.setVm vm') hT (Y.noted w1)
  exact ⟨t, kc_steps (g := F0 m pc ls rest) Y.here w2 a1, b1⟩
theorem kp_blindX {av : List Value} {sz : Nat} : FrameBlind (va_Pc av (kp_PreX D cy ad S sz)) := fun a U g mk q => by
  obtain ⟨q0, q1, q2⟩ := q
  have := kp_blind (D := D) (cy := cy) (ad := ad) (S := S) (av := av) (sz := sz) a U g mk ⟨q0, q1⟩
  exact ⟨this.1, this.2, q2.call⟩
theorem kp_preX (X : kp_X D cy ad own cc nL p s m args c A) (Th : kp_Th A s s.heap) (h : kp_H D cy A S s.heap H locs) {U : State} (hU : U.heap = H) (hW : s.WarmedH U.vm) : kp_PreX D cy ad S H.size U := ⟨kp_pre X h hU hW, by rw [hU]; exact Th.go hW h.2.2.1.2.1 (fun q hq => kp_in_A h X hq)⟩
theorem kp_runVX {y : MethodName} {bytes : ByteArray} {maxL n mc ms ci index : Nat} {ret : Option FieldType} {rm : Room} {b : Nat} {As : List Value} {st : List Value} {Qc : (Nat → Prop) → Array Value → State → Outcome → State → Prop} {XC : (Nat → Prop) → String → State → State → Prop} (X : kp_X D cy ad own cc nL p s m args c A) (Th : kp_Th A s s.heap) (h : kp_H D cy A S s.heap H locs) (hM : kp_MX l y bytes maxL ret rm D cy ad S (.ref b :: As) mc ms Qc XC) (hb : kp_is S b ci) (L : kp_CV own index y bytes maxL ret n ci) (hR : kp_RM R rm maxL mc ms cells slots)
    (hn : As.length = n) (hls : ls.size = nL) (hst : st = As.reverse ++ .ref b :: rest) (hW : (rest.map fun v => v.category).sum ≤ 8) (hdg : decode cc pc = .ok (.invokevirtual index, 3)) : vx_Run p l e R s m args below meth c H locs cells slots mc ms (F0 m pc ls st) rest (Qc (va_A (kp_pl cy S) H.size) (Value.ref b :: As).toArray) (XC (va_A (kp_pl cy S) H.size)) (va_A (kp_pl cy S) H.size) := by
  obtain ⟨⟨l1, l2, l3⟩, l4, l5, l6, l7, T, N, l8⟩ := L
  obtain ⟨r1, r2, r3, r4, r5, r6⟩ := hR
  obtain ⟨q0, hq⟩ := kp_get_at (cy := cy) hb.1
  rw [kp_Eo hb.2 l7] at hq
  have hts := X.2.2.2.2.1
  exact vx_runV (C := y.cls) (As := As) (rest := rest) ⟨X.1, X.2.1, X.2.2.1, X.2.2.2.1, hts⟩ (hM H.size) ⟨callB_of n hts (kp_goodIn l1) rfl r3 r4 (hts _ l2) (hts _ l4) l3 ⟨r1, r2⟩, hts _ l5, hts _ l6⟩ ⟨kp_blindX, va_recv X.2.2.2.2.2.1 h.1 (ci := ci) (q0 := q0) l8 hq, fun U hU hW => ⟨rfl, kp_preX X Th h hU hW⟩⟩ rfl hn hls hst (lv_room hW) hdg ⟨r5, r6⟩
end KPC
/-- the contract of a static method with handlers of its own, that throws nothing -/
def kp_ML (l : Launch) (y : MethodName) (cc : ByteArray) (n : Nat) (ret : Option FieldType) (hh : List (Nat × Nat × Nat × Nat)) (rm : Room) (D : va_G) (cy : Nat → ClassId) (ad : (Nat → Nat) × (Nat → Nat)) (S : kp_S) (av : List Value) (mc ms : Nat) (Qc : (Nat → Prop) → Array Value → State → Outcome → State → Prop) : Prop :=
  ∀ sz : Nat, vx_Met l y (Cond.codeWith y cc n ret hh :: kp_tb) rm (va_Pc av (kp_PreX D cy ad S sz)) (Qc (va_A (kp_pl cy S) sz)) (vx_X (fun _ : Unit => False) (fun _ _ _ => True) (va_A (kp_pl cy S) sz)) mc ms (va_A (kp_pl cy S) sz)
abbrev kp_hh : List (Nat × Nat × Nat × Nat) := [(0, 14, 17, 13), (0, 14, 21, 15)]
def wL_run (a0 : Nat) (x1 x2 x3 x4 : Int32) (a5 : Nat) (S : kp_S) (post : Int32 → kp_S → Prop) : Prop := wX11_run a0 x1 x2 x3 x4 S (fun r S1 => vp_in (0 : Int32) (kp_N S1 a5) ∧ ∀ T : kp_S, T = kp_sB S1 a5 (vp_updL (kp_B S1 a5) ((0 : Int32).toNatClampNeg) r.toInt64) → post 0 T) (fun k S1 => post k S1)
theorem cv_L_7 : kp_CV RL 7 yX11_run cX11_run 5 (some .int) 4 11 := ⟨⟨kp_mem 1260 (by decide +kernel) (by decide +kernel), kp_mem 204 (by decide +kernel) (by decide +kernel), by decide +kernel⟩, kp_mem 1257 (by decide +kernel) (by decide +kernel), kp_mem 1258 (by decide +kernel) (by decide +kernel), kp_mem 1259 (by decide +kernel) (by decide +kernel), by decide, TX11, 9, rfl⟩
theorem lk_13 : Cond.classLink RL 13 kp_ise ∈ kp_tb := kp_mem 1255 (by decide +kernel) (by decide +kernel)
theorem lk_15 : Cond.classLink RL 15 kp_iae ∈ kp_tb := kp_mem 1256 (by decide +kernel) (by decide +kernel)
theorem dL_run_0 : decode cL_run 0 = .ok (.aload 5, 2) := by decide +kernel
theorem dL_run_2 : decode cL_run 2 = .ok (.iconst 0, 1) := by decide +kernel
theorem dL_run_3 : decode cL_run 3 = .ok (.aload_n 0, 1) := by decide +kernel
theorem dL_run_4 : decode cL_run 4 = .ok (.iload_n 1, 1) := by decide +kernel
theorem dL_run_5 : decode cL_run 5 = .ok (.iload_n 2, 1) := by decide +kernel
theorem dL_run_6 : decode cL_run 6 = .ok (.iload_n 3, 1) := by decide +kernel
theorem dL_run_7 : decode cL_run 7 = .ok (.iload 4, 2) := by decide +kernel
theorem dL_run_9 : decode cL_run 9 = .ok (.invokevirtual 7, 3) := by decide +kernel
theorem dL_run_12 : decode cL_run 12 = .ok (.i2l, 1) := by decide +kernel
theorem dL_run_13 : decode cL_run 13 = .ok (.lastore, 1) := by decide +kernel
theorem dL_run_14 : decode cL_run 14 = .ok (.goto 11, 3) := by decide +kernel
theorem dL_run_17 : decode cL_run 17 = .ok (.astore 6, 2) := by decide +kernel
theorem dL_run_19 : decode cL_run 19 = .ok (.iconst 1, 1) := by decide +kernel
theorem dL_run_20 : decode cL_run 20 = .ok (.ireturn, 1) := by decide +kernel
theorem dL_run_21 : decode cL_run 21 = .ok (.astore 6, 2) := by decide +kernel
theorem dL_run_23 : decode cL_run 23 = .ok (.iconst 2, 1) := by decide +kernel
theorem dL_run_24 : decode cL_run 24 = .ok (.ireturn, 1) := by decide +kernel
theorem dL_run_25 : decode cL_run 25 = .ok (.iconst 0, 1) := by decide +kernel
theorem dL_run_26 : decode cL_run 26 = .ok (.ireturn, 1) := by decide +kernel
set_option maxHeartbeats 4000000 in
set_option maxRecDepth 100000 in
theorem c_L_run (l : Launch) (hlt : l.stackTraces = false) (D : va_G) (cy : Nat → ClassId) (ad : (Nat → Nat) × (Nat → Nat)) (S : kp_S) (a0 : Nat) (x1 x2 x3 x4 : Int32) (a5 : Nat) (post : Int32 → kp_S → Prop) (hS : kp_ok S) (f_a0 : kp_is S a0 11) (f_a5 : kp_is S a5 15) (hw : wL_run a0 x1 x2 x3 x4 a5 S post) : kp_ML l yL_run cL_run 7 (some .int) kp_hh { frames := 8, cells := 1, slots := 6, locals := 187 } D cy ad S [.ref a0, .int x1, .int x2, .int x3, .int x4, .ref a5] 1 6 (fun A => kp_Qi D cy A S post) := by
  intro sz
  refine vx_ofWH (cc := cL_run) (maxL := 7) (ret := (some .int)) (hh := kp_hh) (by decide) rfl ?_
  intro p e s m args below meth c s₁ B hml hv
  obtain ⟨rfl, ⟨hsz, hP, hK, hD0, hEx⟩, Th⟩ := hv
  have hts := atoms_spec (ws := Cond.codeWith yL_run cL_run 7 (some .int) kp_hh :: kp_tb) B.pre
  have htab : c.exceptionTable.toList = tableOf kp_hh := vx_table (x := yL_run) B (hts _ List.mem_cons_self)
  have hown : s.vm.findClass RL = some m.cls := findClass_of_methodNamed B.named
  have hr := B.returns
  have hlocks := B.notSynchronized
  subst hsz
  have hD := hD0.self (sz := s.heap.size)
  generalize hAe : va_A (kp_pl cy S) s.heap.size = A at hD hEx Th ⊢
  have hA : ∀ q : Nat, s.heap.size ≤ q → A q := fun q h => by rw [← hAe]; exact Or.inr h
  have X : kp_X D cy ad RL cL_run 7 p s m ([.ref a0, .int x1, .int x2, .int x3, .int x4, .ref a5] : List Value).toArray c A := ⟨B.exec, B.bytes, hml, hown, fun w hw => hts w (List.mem_cons_of_mem _ hw), hK, hA, hEx⟩
  have h : kp_H D cy A S s.heap s.heap [] := ⟨hP, hD, va_S.rf, hS⟩
  have hl := lv_entry ([.ref a0, .int x1, .int x2, .int x3, .int x4, .ref a5]) (n := 7) (Nat.le_of_ble_eq_true rfl)
  rw [lg_entry_eq]
  generalize (lg_sl ([.ref a0, .int x1, .int x2, .int x3, .int x4, .ref a5]) ++ List.replicate (7 - (lg_sl ([.ref a0, .int x1, .int x2, .int x3, .int x4, .ref a5])).length) Slot.unset).toArray = ls at hl ⊢
  have hl : lv_has ls 7 [(0, .ref a0), (1, .int x1), (2, .int x2), (3, .int x3), (4, .int x4), (5, .ref a5)] := hl
  refine lv_aload X.1 X.2.1 dL_run_0 (lv_at hl 5 rfl) ?_
  refine lv_iconst (v := 0) X.1 X.2.1 dL_run_2 (by decide) ?_
  refine lv_aload_n X.1 X.2.1 dL_run_3 rfl (lv_at hl 0 rfl) ?_
  refine lv_iload_n X.1 X.2.1 dL_run_4 rfl (lv_at hl 1 rfl) ?_
  refine lv_iload_n X.1 X.2.1 dL_run_5 rfl (lv_at hl 2 rfl) ?_
  refine lv_iload_n X.1 X.2.1 dL_run_6 rfl (lv_at hl 3 rfl) ?_
  refine lv_iload X.1 X.2.1 dL_run_7 (lv_at hl 4 rfl) ?_
  have hrun := fun (below : List Frame) => kp_runVX (p := p) (l := l) (e := e) (R := { frames := 8, cells := 1, slots := 6, locals := 187 }) (below := below) (meth := meth) (cells := 0) (slots := 0) (pc := 9) (ls := ls) (rm := { frames := 7, cells := 1, slots := 6, locals := 163 }) (mc := 1) (ms := 6) (rest := [.int 0, .ref a5]) (As := [.int x1, .int x2, .int x3, .int x4]) X Th h (c_X11_run l hlt D cy ad S a0 x1 x2 x3 x4 _ _ hS f_a0 hw) f_a0 cv_L_7 ⟨by decide, by decide, rfl, rfl, by decide, by decide⟩ rfl hl.1 rfl (Nat.le_of_ble_eq_true rfl) dL_run_9
  refine vx_calli (hrun below) h.2.2.1 (fun q _ hq => kp_in_A h X hq) (fun q hq => kp_in_A h X hq) (fun q _ hq => kp_in_A h X hq) ?_ ?_
  · intro E ce q9 u t H1 locs1 ht hvm _ hB hz hk hS9 hcell hv hcl
    have h := kp_back X h ht hB.2 hS9
    have hle := hB.2.2.2.2.2
    rcases hB.1 with ⟨rfl, hpx⟩ | ⟨rfl, hpx⟩
    · refine kp_catch1 (own := RL) (name := kp_ise) (r := (tableOf kp_hh).drop 1) hown (by rw [htab]; rfl) rfl (by decide) (hts _ (List.mem_cons_of_mem _ lk_13)) (va_Nw.use rfl Th.2.2.1) hcell hv hcl ?_
      refine lv_astore (lv' := [(6, .ref q9), (0, .ref a0), (1, .int x1), (2, .int x2), (3, .int x3), (4, .int x4), (5, .ref a5)]) X.1 X.2.1 dL_run_17 hl (by decide) rfl (fun ls hl => ?_)
      refine lv_iconst (v := 1) X.1 X.2.1 dL_run_19 (by decide) ?_
      exact vx_ret (kp_reti X hr hlocks h hle rfl hpx dL_run_20)
    · refine kp_catch2 (own := RL) (nx := kp_ise) (name := kp_iae) (r := (tableOf kp_hh).drop 2) hown (by rw [htab]; rfl) rfl (by decide) (hts _ (List.mem_cons_of_mem _ lk_13)) Th.2.2.2.2.1 rfl (by decide) (hts _ (List.mem_cons_of_mem _ lk_15)) (va_Nw.use rfl Th.2.2.2.1) hcell hv hcl ?_
      refine lv_astore (lv' := [(6, .ref q9), (0, .ref a0), (1, .int x1), (2, .int x2), (3, .int x3), (4, .int x4), (5, .ref a5)]) X.1 X.2.1 dL_run_21 hl (by decide) rfl (fun ls hl => ?_)
      refine lv_iconst (v := 2) X.1 X.2.1 dL_run_23 (by decide) ?_
      exact vx_ret (kp_reti X hr hlocks h hle rfl hpx dL_run_24)
  · intro r u t H1 locs1 ht hvm hp hB hz hk hS9
    have h := kp_back X h ht hB hS9
    have hle := hB.2.2.2.2
    obtain ⟨hi, hp⟩ := hp
    refine lv_i2l X.1 X.2.1 dL_run_12 rfl ?_
    refine kp_last X h (hle.is f_a5) hi dL_run_13 (fun T eT le1 H locs h => ?_)
    refine lv_goto (tgt := 25) X.1 X.2.1 dL_run_14 (by decide) ?_
    refine lv_iconst (v := 0) X.1 X.2.1 dL_run_25 (by decide) ?_
    exact vx_ret (kp_reti X hr hlocks h (hle.tr le1) rfl (hp T eT) dL_run_26)
