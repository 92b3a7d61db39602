/-! TEXT CONSTANTS: rows over their places (ad.1 i the text, ad.2 i its bytes). -/
section KPS
variable {p : Program} {l : Launch} {e : Env} {R : Room} {s : State} {m : MethodId} {args : Array Value} {below : List Frame} {meth : Method} {c : Code} {H : Heap} {locs : List Loc} {cells slots : Nat} {Q : State → Prop}
variable {D : va_G} {cy : Nat → ClassId} {ad : (Nat → Nat) × (Nat → Nat)} {own : String} {cc : ByteArray} {nL : Nat} {A : Nat → Prop} {S : kp_S} {pc : Nat} {ls : Array Slot} {rest : List Value} {i : Nat}
theorem kp_ldcs {index : Nat} {tx : String} (X : kp_X D cy ad own cc nL p s m args c A) (i : Nat) (hi : kp_strs[i]? = some (own, index, tx)) (hdg : decode cc pc = .ok (.ldc index, 2))
    (kk : W p l e R s m args below meth c H locs cells slots Q (F0 m (pc + 2) ls (.ref (ad.1 i) :: rest))) : W p l e R s m args below meth c H locs cells slots Q (F0 m pc ls rest) :=
  va_ldcS X.1 X.2.1 X.2.2.2.1 (X.2.2.2.2.2.2.2.2.2.2.1 i _ hi) hdg kk
theorem kp_wideS {T : State} {text : String} {index : Nat} {a : Addr} (Y : Stand p l e R s m args below meth c T locs cells slots) (hexec : p.tables.exec = Jvm.exec) (hown : s.vm.findClass own = some m.cls) (hconst : (Cond.stringRef own index text).before args s = true) (hev : (Term.string own index).eval args s none [] s = some (.ref a)) {g : JFrame} (hg : g.method = m) (hdg : decode c.code g.pc = .ok (.ldc_w index, 3)) :
    ∀ target, Steps p.tables e below (T.setTop { g with pc := g.pc + 3, stack := .ref a :: g.stack }) target → Steps p.tables e below (T.setTop g) target := by
  obtain ⟨k, cf, i, a', hk, hcf, hcp, -, hr, hev'⟩ := Cond.stringRef_spec hown hconst
  cases hev.symm.trans hev'
  obtain ⟨k', hk', he⟩ := Y.warmed.alike.2.2 _ _ hk
  have hr' : k'.resolved[index]? = some (some (.string a)) := by
    rcases Y.warmed.entry hk hk' index with h | ⟨h, -⟩
    · rw [h]; exact hr
    · rw [hr] at h; cases h
  intro target hrest
  subst hg
  jvm_step Y.here [hexec, hdg, ldc_w.wp_string (e := e) (s := T) (f := g) Y.here.top hk' (by rw [he]; exact hcf) hcp hr']
  exact hrest
theorem kp_ldcsw {index : Nat} {tx : String} (X : kp_X D cy ad own cc nL p s m args c A) (i : Nat) (hi : kp_strs[i]? = some (own, index, tx)) (hdg : decode cc pc = .ok (.ldc_w index, 3))
    (kk : W p l e R s m args below meth c H locs cells slots Q (F0 m (pc + 3) ls (.ref (ad.1 i) :: rest))) : W p l e R s m args below meth c H locs cells slots Q (F0 m pc ls rest) := by
  have hZ := X.2.2.2.2.2.2.2.2.2.2.1 i _ hi
  intro T hT Y
  obtain ⟨t, a1, b1⟩ := kk T hT Y
  exact ⟨t, kp_wideS Y X.1 X.2.2.2.1 (text := tx) (a := ad.1 i) hZ.1 hZ.2 (g := F0 m pc ls rest) rfl (by rw [X.2.1]; exact hdg) t a1, b1⟩
theorem kp_sval {index : Nat} (X : kp_X D cy ad own cc nL p s m args c A) (h : kp_H D cy A S s.heap H locs) (hi : i < kp_sN) (hl : Cond.fieldLink own index "java/lang/String" "value" "[B" ∈ kp_tb) (hdg : decode cc pc = .ok (.getfield index, 3))
    (kk : W p l e R s m args below meth c H locs cells slots Q (F0 m (pc + 3) ls (.ref (ad.2 i) :: rest))) : W p l e R s m args below meth c H locs cells slots Q (F0 m pc ls (.ref (ad.1 i) :: rest)) :=
  vk_getf X.1 X.2.1 (X.2.2.2.2.2.2.2.2.2.1.1 i hi).2.2.1 h.2.2.1 X.2.2.2.1 (X.2.2.2.2.1 _ hl) (fun _ h => h) hdg kk
theorem kp_scod {index : Nat} (X : kp_X D cy ad own cc nL p s m args c A) (h : kp_H D cy A S s.heap H locs) (hi : i < kp_sN) (hl : Cond.fieldLink own index "java/lang/String" "coder" "B" ∈ kp_tb) (hdg : decode cc pc = .ok (.getfield index, 3))
    (kk : W p l e R s m args below meth c H locs cells slots Q (F0 m (pc + 3) ls (.int 0 :: rest))) : W p l e R s m args below meth c H locs cells slots Q (F0 m pc ls (.ref (ad.1 i) :: rest)) :=
  vk_getf X.1 X.2.1 (X.2.2.2.2.2.2.2.2.2.1.1 i hi).2.1 h.2.2.1 X.2.2.2.1 (X.2.2.2.2.1 _ hl) (fun _ h => h) hdg kk
theorem kp_slen (X : kp_X D cy ad own cc nL p s m args c A) (h : kp_H D cy A S s.heap H locs) (hi : i < kp_sN) (hdg : decode cc pc = .ok (.arraylength, 1))
    (kk : W p l e R s m args below meth c H locs cells slots Q (F0 m (pc + 1) ls (.int (nI (kp_sl.getD i 0)) :: rest))) : W p l e R s m args below meth c H locs cells slots Q (F0 m pc ls (.ref (ad.2 i) :: rest)) :=
  va_tlen X.1 X.2.1 (X.2.2.2.2.2.2.2.2.2.1.1 i hi).2.2.2 h.2.2.1 rfl hdg kk
theorem kp_sbld {j : Int32} (X : kp_X D cy ad own cc nL p s m args c A) (h : kp_H D cy A S s.heap H locs) (hi : i < kp_sN) (hj : vp_in j (kp_sl.getD i 0)) (hdg : decode cc pc = .ok (.baload, 1))
    (kk : W p l e R s m args below meth c H locs cells slots Q (F0 m (pc + 1) ls (.int ((kp_sb.getD i []).getD j.toNatClampNeg 0) :: rest))) : W p l e R s m args below meth c H locs cells slots Q (F0 m pc ls (.int j :: .ref (ad.2 i) :: rest)) :=
  va_tb X.1 X.2.1 (X.2.2.2.2.2.2.2.2.2.1.1 i hi).2.2.2 h.2.2.1 hj rfl hdg kk
theorem kp_gcs {index : Nat} (X : kp_X D cy ad own cc nL p s m args c A) (h : kp_H D cy A S s.heap H locs) (hl : Cond.fieldLink own index "java/lang/String" "COMPACT_STRINGS" "Z" ∈ kp_tb) (hdg : decode cc pc = .ok (.getstatic index, 3))
    (kk : W p l e R s m args below meth c H locs cells slots Q (F0 m (pc + 3) ls (.int 1 :: rest))) : W p l e R s m args below meth c H locs cells slots Q (F0 m pc ls rest) :=
  va_gets X.1 X.2.1 X.2.2.2.2.2.2.2.2.2.2.2.1 h.2.2.1 X.2.2.2.1 (X.2.2.2.2.1 _ hl) (fun _ h => h) hdg kk
def kp_CVs (own : String) (index : Nat) (y : MethodName) (bytes : ByteArray) (maxL : Nat) (ret : Option FieldType) (n : Nat) : Prop := kp_CB own index y bytes maxL ret n ∧ Cond.methodLink own index y ∈ kp_tb ∧ Cond.instanceMethod y ∈ kp_tb ∧ Cond.selects y.cls y y ∈ kp_tb ∧ y.cls = "java/lang/String"
theorem kp_runVs {y : MethodName} {bytes : ByteArray} {maxL n mc ms index : Nat} {ret : Option FieldType} {rm : Room} {As : List Value} {st : List Value} {Qc : (Nat → Prop) → Array Value → State → Outcome → State → Prop} (X : kp_X D cy ad own cc nL p s m args c A) (h : kp_H D cy A S s.heap H locs) (hM : kp_M l y bytes maxL ret rm D cy ad S (.ref (ad.1 i) :: As) mc ms Qc) (hi : i < kp_sN) (L : kp_CVs own index y bytes maxL ret n) (hR : kp_RM R rm maxL mc ms cells slots)
    (hn : As.length = n) (hls : ls.size = nL) (hst : st = As.reverse ++ .ref (ad.1 i) :: rest) (hW : (rest.map fun v => v.category).sum ≤ 8) (hdg : decode cc pc = .ok (.invokevirtual index, 3)) : va_Run p l e R s m args below meth c H locs cells slots mc ms (F0 m pc ls st) rest (Qc (va_A (kp_pl cy S) H.size) (Value.ref (ad.1 i) :: As).toArray) (va_A (kp_pl cy S) H.size) := by
  obtain ⟨⟨l1, l2, l3⟩, l4, l5, l6, l7⟩ := L
  obtain ⟨r1, r2, r3, r4, r5, r6⟩ := hR
  have hts := X.2.2.2.2.1
  exact va_runV (C := y.cls) (As := As) (rest := rest) ⟨X.1, X.2.1, X.2.2.1, X.2.2.2.1, hts⟩ (hM H.size) ⟨callB_of n hts (kp_goodIn l1) rfl r3 r4 (hts _ l2) (hts _ l4) l3 ⟨r1, r2⟩, hts _ l5, hts _ l6⟩ ⟨kp_blind, by rw [l7]; exact vk_recv X.2.2.2.2.2.2.2.2.2.1 hi h.2.2.1, fun U hU hW => ⟨rfl, kp_pre X h hU hW⟩⟩ rfl hn hls hst (lv_room hW) hdg ⟨r5, r6⟩
end KPS
theorem cs_J0_1059 : kp_CS RJ0 1059 yJ3_checkIndex_8e157 cJ3_checkIndex_8e157 3 (some .int) 3 := ⟨⟨kp_mem 299 (by decide +kernel) (by decide +kernel), kp_mem 210 (by decide +kernel) (by decide +kernel), by decide +kernel⟩, kp_mem 297 (by decide +kernel) (by decide +kernel), kp_mem 298 (by decide +kernel) (by decide +kernel)⟩
theorem gs_J0_1053 : Cond.fieldLink RJ0 1053 "jdk/internal/util/Preconditions" "SIOOBE_FORMATTER" "Ljava/util/function/BiFunction;" ∈ kp_tb := kp_mem 295 (by decide +kernel) (by decide +kernel)
theorem dJ3_checkIndex_8e157_0 : decode cJ3_checkIndex_8e157 0 = .ok (.iload_n 0, 1) := by decide +kernel
theorem dJ3_checkIndex_8e157_1 : decode cJ3_checkIndex_8e157 1 = .ok (.ifCond .lt 8, 3) := by decide +kernel
theorem dJ3_checkIndex_8e157_4 : decode cJ3_checkIndex_8e157 4 = .ok (.iload_n 0, 1) := by decide +kernel
theorem dJ3_checkIndex_8e157_5 : decode cJ3_checkIndex_8e157 5 = .ok (.iload_n 1, 1) := by decide +kernel
theorem dJ3_checkIndex_8e157_6 : decode cJ3_checkIndex_8e157 6 = .ok (.if_icmp .lt 10, 3) := by decide +kernel
theorem dJ3_checkIndex_8e157_9 : decode cJ3_checkIndex_8e157 9 = .ok (.aload_n 2, 1) := by decide +kernel
theorem dJ3_checkIndex_8e157_10 : decode cJ3_checkIndex_8e157 10 = .ok (.iload_n 0, 1) := by decide +kernel
theorem dJ3_checkIndex_8e157_11 : decode cJ3_checkIndex_8e157 11 = .ok (.iload_n 1, 1) := by decide +kernel
theorem dJ3_checkIndex_8e157_12 : decode cJ3_checkIndex_8e157 12 = .ok (.invokestatic 95, 3) := by decide +kernel
theorem dJ3_checkIndex_8e157_15 : decode cJ3_checkIndex_8e157 15 = .ok (.athrow, 1) := by decide +kernel
theorem dJ3_checkIndex_8e157_16 : decode cJ3_checkIndex_8e157 16 = .ok (.iload_n 0, 1) := by decide +kernel
theorem dJ3_checkIndex_8e157_17 : decode cJ3_checkIndex_8e157 17 = .ok (.ireturn, 1) := by decide +kernel
theorem dJ0_checkIndex_df160_0 : decode cJ0_checkIndex_df160 0 = .ok (.iload_n 0, 1) := by decide +kernel
theorem dJ0_checkIndex_df160_1 : decode cJ0_checkIndex_df160 1 = .ok (.iload_n 1, 1) := by decide +kernel
theorem dJ0_checkIndex_df160_2 : decode cJ0_checkIndex_df160 2 = .ok (.getstatic 1053, 3) := by decide +kernel
theorem dJ0_checkIndex_df160_5 : decode cJ0_checkIndex_df160 5 = .ok (.invokestatic 1059, 3) := by decide +kernel
theorem dJ0_checkIndex_df160_8 : decode cJ0_checkIndex_df160 8 = .ok (.pop, 1) := by decide +kernel
theorem dJ0_checkIndex_df160_9 : decode cJ0_checkIndex_df160 9 = .ok (.return_, 1) := by decide +kernel
set_option maxHeartbeats 4000000 in
set_option maxRecDepth 100000 in
theorem c_J3_checkIndex (l : Launch) (D : va_G) (cy : Nat → ClassId) (ad : (Nat → Nat) × (Nat → Nat)) (S : kp_S) (x0 x1 : Int32) (v : Value) (hv : v = .null ∨ ∃ t, v = .ref t) (post : Int32 → kp_S → Prop) (hS : kp_ok S) (h0 : ¬ x0 < 0) (h1 : x0 < x1) (hw : post x0 S) : kp_M l yJ3_checkIndex_8e157 cJ3_checkIndex_8e157 3 (some .int) { frames := 0, cells := 0, slots := 0, locals := 0 } D cy ad S [.int x0, .int x1, v] 0 0 (fun A => kp_Qi D cy A S post) := by
  have hle : kp_le S S := kp_le.rf
  rcases hv with rfl | ⟨t, rfl⟩
  · refine kp_start (own := RJ3) (by decide) rfl (Nat.le_of_ble_eq_true rfl) hS ?_
    intro p e s m below meth c A ls X hr hlocks hname h hl
    have hl : lv_has ls 3 [(0, .int x0), (1, .int x1), (2, .null)] := hl
    refine lv_iload_n X.1 X.2.1 dJ3_checkIndex_8e157_0 rfl (lv_at hl 0 rfl) ?_
    refine lv_if_lt (tgt := 9) X.1 X.2.1 dJ3_checkIndex_8e157_1 (by decide) (fun c1 => absurd c1 h0) (fun c1 => ?_)
    refine lv_iload_n X.1 X.2.1 dJ3_checkIndex_8e157_4 rfl (lv_at hl 0 rfl) ?_
    refine lv_iload_n X.1 X.2.1 dJ3_checkIndex_8e157_5 rfl (lv_at hl 1 rfl) ?_
    refine lv_icmp_lt (tgt := 16) X.1 X.2.1 dJ3_checkIndex_8e157_6 (by decide) (fun c2 => ?_) (fun c2 => absurd h1 c2)
    refine lv_iload_n X.1 X.2.1 dJ3_checkIndex_8e157_16 rfl (lv_at hl 0 rfl) ?_
    exact kp_reti X hr hlocks h hle rfl hw dJ3_checkIndex_8e157_17
  · refine kp_start (own := RJ3) (by decide) rfl (Nat.le_of_ble_eq_true rfl) hS ?_
    intro p e s m below meth c A ls X hr hlocks hname h hl
    have hl : lv_has ls 3 [(0, .int x0), (1, .int x1), (2, .ref t)] := hl
    refine lv_iload_n X.1 X.2.1 dJ3_checkIndex_8e157_0 rfl (lv_at hl 0 rfl) ?_
    refine lv_if_lt (tgt := 9) X.1 X.2.1 dJ3_checkIndex_8e157_1 (by decide) (fun c1 => absurd c1 h0) (fun c1 => ?_)
    refine lv_iload_n X.1 X.2.1 dJ3_checkIndex_8e157_4 rfl (lv_at hl 0 rfl) ?_
    refine lv_iload_n X.1 X.2.1 dJ3_checkIndex_8e157_5 rfl (lv_at hl 1 rfl) ?_
    refine lv_icmp_lt (tgt := 16) X.1 X.2.1 dJ3_checkIndex_8e157_6 (by decide) (fun c2 => ?_) (fun c2 => absurd h1 c2)
    refine lv_iload_n X.1 X.2.1 dJ3_checkIndex_8e157_16 rfl (lv_at hl 0 rfl) ?_
    exact kp_reti X hr hlocks h hle rfl hw dJ3_checkIndex_8e157_17
def wJ0_checkIndex_df160 (x0 : Int32) (x1 : Int32) (S : kp_S) (post : kp_S → Prop) : Prop := ¬ x0 < 0 ∧ x0 < x1 ∧ post S
set_option maxHeartbeats 4000000 in
set_option maxRecDepth 100000 in
theorem c_J0_checkIndex_df160 (l : Launch) (D : va_G) (cy : Nat → ClassId) (ad : (Nat → Nat) × (Nat → Nat)) (S : kp_S) (x0 : Int32) (x1 : Int32) (post : kp_S → Prop) (hS : kp_ok S) (hw : wJ0_checkIndex_df160 x0 x1 S post) : kp_M l yJ0_checkIndex_df160 cJ0_checkIndex_df160 2 none { frames := 1, cells := 0, slots := 0, locals := 22 } D cy ad S [.int x0, .int x1] 0 0 (fun A => kp_Qv D cy A S post) := by
  refine kp_start (own := RJ0) (by decide) rfl (Nat.le_of_ble_eq_true rfl) hS ?_
  intro p e s m below meth c A ls X hr hlocks hname h hl
  have hle : kp_le S S := kp_le.rf
  have hl : lv_has ls 2 [(0, .int x0), (1, .int x1)] := hl
  obtain ⟨w0, w1, hw⟩ := hw
  refine lv_iload_n X.1 X.2.1 dJ0_checkIndex_df160_0 rfl (lv_at hl 0 rfl) ?_
  refine lv_iload_n X.1 X.2.1 dJ0_checkIndex_df160_1 rfl (lv_at hl 1 rfl) ?_
  have key : ∀ v : Value, (v = .null ∨ ∃ t, v = .ref t) → W p l e { frames := 1, cells := 0, slots := 0, locals := 22 } s m ([.int x0, .int x1] : List Value).toArray below meth c s.heap [] 0 0 (MQ below (kp_Qv D cy A S post) ([.int x0, .int x1] : List Value).toArray s 0 0 A) (F0 m 5 ls [v, .int x1, .int x0]) := by
    intro v hv
    refine kp_calli (post := fun _ S1 => post S1) X h (kp_runS (rm := { frames := 0, cells := 0, slots := 0, locals := 0 }) (mc := 0) (ms := 0) (rest := []) (As := [.int x0, .int x1, v]) (Qc := fun A => kp_Qi D cy A S (fun _ S1 => post S1)) X h (c_J3_checkIndex l D cy ad S x0 x1 v hv (fun _ S1 => post S1) h.2.2.2 w0 w1 hw) cs_J0_1059 ⟨by decide, by decide, rfl, rfl, by decide, by decide⟩ rfl hl.1 rfl (by decide) dJ0_checkIndex_df160_5) (fun r S1 hw le1 H locs h => ?_)
    refine lv_pop X.1 X.2.1 dJ0_checkIndex_df160_8 rfl ?_
    exact kp_retv X hr hlocks h le1 hw dJ0_checkIndex_df160_9
  rcases X.2.2.2.2.2.2.2.2.2.2.2.2 with hz | ⟨t, hz⟩
  · exact va_gets X.1 X.2.1 hz h.2.2.1 X.2.2.2.1 (X.2.2.2.2.1 _ gs_J0_1053) (fun _ h => h) dJ0_checkIndex_df160_2 (key _ (Or.inl rfl))
  · exact va_gets X.1 X.2.1 hz h.2.2.1 X.2.2.2.1 (X.2.2.2.2.1 _ gs_J0_1053) (fun _ h => h) dJ0_checkIndex_df160_2 (key _ (Or.inr ⟨t, rfl⟩))
