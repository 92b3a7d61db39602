/-! ROWS over the pool: one instruction each. -/
/-- the tables' words that stay true wherever a method is entered -/
def kp_tb : List Cond := lw_tbl.filter goodWord
theorem kp_mem {w : Cond} (i : Nat) (h : lw_tbl[i]? = some w) (hg : goodWord w = true) : w ∈ kp_tb := List.mem_filter.mpr ⟨List.mem_of_getElem? h, hg⟩
theorem kp_tbl_good : kp_tb.all goodWord = true := List.all_eq_true.mpr fun _ h => (List.mem_filter.mp h).2
def kp_strs : List (String × Nat × String) := [("LockKeepers$Tokens", 19, "duty var note if else while each from to leave again answer fail hold try mend any always later stop ensure repeat until choose when other or and not open shut sluice sail level reach gate ship held kind cause "), ("LockKeepers$Tokens", 93, "(){},;:=<+-*/%"), ("LockKeepersModel", 248, "duty"), ("LockKeepersModel", 254, "var"), ("LockKeepersModel", 256, "note"), ("LockKeepersModel", 258, "if"), ("LockKeepersModel", 260, "else"), ("LockKeepersModel", 262, "while"), ("LockKeepersModel", 264, "each"), ("LockKeepersModel", 266, "from"), ("LockKeepersModel", 268, "to"), ("LockKeepersModel", 270, "leave"), ("LockKeepersModel", 272, "again"), ("LockKeepersModel", 274, "answer"), ("LockKeepersModel", 276, "fail"), ("LockKeepersModel", 278, "hold"), ("LockKeepersModel", 280, "try"), ("LockKeepersModel", 282, "mend"), ("LockKeepersModel", 284, "any"), ("LockKeepersModel", 286, "always"), ("LockKeepersModel", 288, "later"), ("LockKeepersModel", 290, "stop"), ("LockKeepersModel", 292, "or"), ("LockKeepersModel", 294, "and"), ("LockKeepersModel", 296, "not"), ("LockKeepersModel", 298, "open"), ("LockKeepersModel", 300, "shut"), ("LockKeepersModel", 302, "sluice"), ("LockKeepersModel", 304, "sail"), ("LockKeepersModel", 306, "level"), ("LockKeepersModel", 308, "reach"), ("LockKeepersModel", 309, "gate"), ("LockKeepersModel", 311, "ship"), ("LockKeepersModel", 313, "held"), ("LockKeepersModel", 315, "kind"), ("LockKeepersModel", 316, "cause"), ("LockKeepersModel", 318, "ensure"), ("LockKeepersModel", 320, "repeat"), ("LockKeepersModel", 322, "until"), ("LockKeepersModel", 324, "choose"), ("LockKeepersModel", 326, "when"), ("LockKeepersModel", 328, "other")]
def kp_sN : Nat := 42
def kp_sl : List Nat := [210, 14, 4, 3, 4, 2, 4, 5, 4, 4, 2, 5, 5, 6, 4, 4, 3, 4, 3, 6, 5, 4, 2, 3, 3, 4, 4, 6, 4, 5, 5, 4, 4, 4, 4, 5, 6, 6, 5, 6, 4, 5]
def kp_sb : List (List Int32) := [[100, 117, 116, 121, 32, 118, 97, 114, 32, 110, 111, 116, 101, 32, 105, 102, 32, 101, 108, 115, 101, 32, 119, 104, 105, 108, 101, 32, 101, 97, 99, 104, 32, 102, 114, 111, 109, 32, 116, 111, 32, 108, 101, 97, 118, 101, 32, 97, 103, 97, 105, 110, 32, 97, 110, 115, 119, 101, 114, 32, 102, 97, 105, 108, 32, 104, 111, 108, 100, 32, 116, 114, 121, 32, 109, 101, 110, 100, 32, 97, 110, 121, 32, 97, 108, 119, 97, 121, 115, 32, 108, 97, 116, 101, 114, 32, 115, 116, 111, 112, 32, 101, 110, 115, 117, 114, 101, 32, 114, 101, 112, 101, 97, 116, 32, 117, 110, 116, 105, 108, 32, 99, 104, 111, 111, 115, 101, 32, 119, 104, 101, 110, 32, 111, 116, 104, 101, 114, 32, 111, 114, 32, 97, 110, 100, 32, 110, 111, 116, 32, 111, 112, 101, 110, 32, 115, 104, 117, 116, 32, 115, 108, 117, 105, 99, 101, 32, 115, 97, 105, 108, 32, 108, 101, 118, 101, 108, 32, 114, 101, 97, 99, 104, 32, 103, 97, 116, 101, 32, 115, 104, 105, 112, 32, 104, 101, 108, 100, 32, 107, 105, 110, 100, 32, 99, 97, 117, 115, 101, 32], [40, 41, 123, 125, 44, 59, 58, 61, 60, 43, 45, 42, 47, 37], [100, 117, 116, 121], [118, 97, 114], [110, 111, 116, 101], [105, 102], [101, 108, 115, 101], [119, 104, 105, 108, 101], [101, 97, 99, 104], [102, 114, 111, 109], [116, 111], [108, 101, 97, 118, 101], [97, 103, 97, 105, 110], [97, 110, 115, 119, 101, 114], [102, 97, 105, 108], [104, 111, 108, 100], [116, 114, 121], [109, 101, 110, 100], [97, 110, 121], [97, 108, 119, 97, 121, 115], [108, 97, 116, 101, 114], [115, 116, 111, 112], [111, 114], [97, 110, 100], [110, 111, 116], [111, 112, 101, 110], [115, 104, 117, 116], [115, 108, 117, 105, 99, 101], [115, 97, 105, 108], [108, 101, 118, 101, 108], [114, 101, 97, 99, 104], [103, 97, 116, 101], [115, 104, 105, 112], [104, 101, 108, 100], [107, 105, 110, 100], [99, 97, 117, 115, 101], [101, 110, 115, 117, 114, 101], [114, 101, 112, 101, 97, 116], [117, 110, 116, 105, 108], [99, 104, 111, 111, 115, 101], [119, 104, 101, 110], [111, 116, 104, 101, 114]]
/-- what else stands at every method: arrays of Frame and Part can be made; the text constants, by their places; two statics of the JDK -/
def kp_Ex (ad : (Nat → Nat) × (Nat → Nat)) (A : Nat → Prop) (U : State) (H : Heap) : Prop :=
  va_AO "LockKeepers$Frame" U ∧ va_AO "LockKeepers$Part" U ∧ vk_S kp_sN kp_sl kp_sb ad.1 ad.2 A U H ∧ (∀ (i : Nat) (q : String × Nat × String), kp_strs[i]? = some q → vk_R q.1 q.2.1 q.2.2 (ad.1 i) U) ∧ va_Z "java/lang/String" "COMPACT_STRINGS" "Z" (.int 1) A U H ∧ va_Zq "jdk/internal/util/Preconditions" "SIOOBE_FORMATTER" "Ljava/util/function/BiFunction;" A U H
theorem kp_Ex.go {ad : (Nat → Nat) × (Nat → Nat)} {A B : Nat → Prop} {s U : State} {H H1 : Heap} (h : kp_Ex ad A s H) (hW : s.WarmedH U.vm) (hq : ∀ a : Nat, a < H.size → ¬ A a → H1[a]? = H[a]?) (hAB : ∀ q, B q → A q) : kp_Ex ad B U H1 := by
  obtain ⟨h1, h2, h3, h4, h5, h6⟩ := h
  exact ⟨h1.moved hW.alike, h2.moved hW.alike, ((h3.moved hW.alike).kept hq).narrow hAB, fun i q hi => (h4 i q hi).warm hW, ((h5.moved hW.alike).kept hq).narrow hAB, ((h6.moved hW.alike).kept hq).narrow hAB⟩
theorem kp_Ex.call {ad : (Nat → Nat) × (Nat → Nat)} {A : Nat → Prop} {U : State} {H : Heap} {g : JFrame} {mk : MethodId} {a : Array Value} (h : kp_Ex ad A U H) : kp_Ex ad A (U.calling g mk a) H := by
  obtain ⟨h1, h2, h3, h4, h5, h6⟩ := h
  have hv : U.vm.Alike (U.calling g mk a).vm := Vm.Alike.refl U.vm
  exact ⟨h1.moved hv, h2.moved hv, h3.moved hv, fun i q hi => (h4 i q hi).same rfl, h5.moved hv, h6.moved hv⟩
/-- the heap holds the pool S, apart and in A; since H0 nothing outside A changed; references are well typed -/
def kp_H (D : va_G) (cy : Nat → ClassId) (A : Nat → Prop) (S : kp_S) (H0 H : Heap) (locs : List Loc) : Prop := va_P D kp_cl (kp_pl cy S) H ∧ va_D A (kp_pl cy S) ∧ va_S A H0 H locs ∧ kp_ok S
/-- what stands at a method's every instruction -/
def kp_X (D : va_G) (cy : Nat → ClassId) (ad : (Nat → Nat) × (Nat → Nat)) (own : String) (cc : ByteArray) (nL : Nat) (p : Program) (s : State) (m : MethodId) (args : Array Value) (c : Code) (A : Nat → Prop) : Prop := p.tables.exec = Jvm.exec ∧ c.code = cc ∧ c.maxLocals = nL ∧ s.vm.findClass own = some m.cls ∧ (∀ w ∈ kp_tb, w.before args s = true) ∧ va_K D kp_cl (kp_tys cy) s ∧ (∀ q, s.heap.size ≤ q → A q) ∧ kp_Ex ad A s s.heap
/-- class ci of the pool: its row of kp_cl, its words in the tables -/
def kp_CL (ci : Nat) (C : String) (T : u_T) (N : Nat) : Prop := kp_cl[ci]? = some (C, T, N) ∧ ci < 13 ∧ kp_nf ci = N ∧ (∀ w ∈ u_ws C T N, w ∈ kp_tb) ∧ (∀ k, k < N → parseFieldDescriptor (T k).2.2.1 = some (kp_ty ci k)) ∧ (∀ a, a < N → ∀ b, b < N → a ≠ b → (T a).2.1 ≠ (T b).2.1)
/-- an entry of own's constant pool that names field k of class ci; of a nest mate -/
def kp_FL (own : String) (index ci k : Nat) : Prop := ∃ (C : String) (T : u_T) (N : Nat), kp_CL ci C T N ∧ k < N ∧ Cond.fieldLink own index (T k).1 (T k).2.1 (T k).2.2.1 ∈ kp_tb
def kp_FN (own : String) (index ci k : Nat) : Prop := ∃ (C : String) (T : u_T) (N : Nat) (host : String), kp_CL ci C T N ∧ k < N ∧ Cond.fieldLinkNest own index (T k).1 (T k).2.1 (T k).2.2.1 host ∈ kp_tb
/-- the same, of a field that isn't final -/
def kp_FP (own : String) (index ci k : Nat) : Prop := ∃ (C : String) (T : u_T) (N : Nat), kp_CL ci C T N ∧ k < N ∧ Cond.fieldLink own index (T k).1 (T k).2.1 (T k).2.2.1 ∈ kp_tb ∧ (T k).2.2.2 = false
def kp_NP (own : String) (index ci k : Nat) : Prop := ∃ (C : String) (T : u_T) (N : Nat) (host : String), kp_CL ci C T N ∧ k < N ∧ Cond.fieldLinkNest own index (T k).1 (T k).2.1 (T k).2.2.1 host ∈ kp_tb ∧ (T k).2.2.2 = false
/-- of a final one, in its own class's constructor -/
def kp_FF (own : String) (index ci k : Nat) : Prop := ∃ (C : String) (T : u_T) (N : Nat), kp_CL ci C T N ∧ k < N ∧ Cond.fieldLink own index (T k).1 (T k).2.1 (T k).2.2.1 ∈ kp_tb ∧ (T k).2.2.2 = true ∧ (T k).1 = own
section KP
variable {p : Program} {l : Launch} {e : Env} {R : Room} {s : State} {m : MethodId} {args : Array Value} {below : List Frame} {meth : Method} {c : Code} {H : Heap} {locs : List Loc} {cells slots : Nat} {Q : State → Prop}
variable {D : va_G} {cy : Nat → ClassId} {ad : (Nat → Nat) × (Nat → Nat)} {own : String} {cc : ByteArray} {nL : Nat} {A : Nat → Prop} {S : kp_S} {pc : Nat} {ls : Array Slot} {rest : List Value} {a : Nat}
theorem kp_get (X : kp_X D cy ad own cc nL p s m args c A) (h : kp_H D cy A S s.heap H locs) {index ci k : Nat} (ha : kp_is S a ci) (fl : kp_FL own index ci k) {v : Value} (hv : kp_val S a ci k = v) (hdg : decode cc pc = .ok (.getfield index, 3))
    (kk : W p l e R s m args below meth c H locs cells slots Q (F0 m (pc + 3) ls (v :: rest))) : W p l e R s m args below meth c H locs cells slots Q (F0 m pc ls (.ref a :: rest)) := by
  obtain ⟨C, T, N, ⟨h1, h2, h3, h4, h5, h6⟩, h7, h8⟩ := fl
  obtain ⟨q0, hq⟩ := kp_get_at (cy := cy) ha.1
  rw [kp_Eo ha.2 h2] at hq
  exact va_get (D := D) (ci := ci) (fs := kp_fs S a ci) X.1 X.2.1 X.2.2.2.2.1 h4 X.2.2.2.1 X.2.2.2.2.2.1 h.1 q0 hq h1 k h7 (X.2.2.2.2.1 _ h8) (fun _ h9 => h9) (by rw [kp_fs_get (by omega), hv]) hdg kk
theorem kp_getN (X : kp_X D cy ad own cc nL p s m args c A) (h : kp_H D cy A S s.heap H locs) {index ci k : Nat} (ha : kp_is S a ci) (fl : kp_FN own index ci k) {v : Value} (hv : kp_val S a ci k = v) (hdg : decode cc pc = .ok (.getfield index, 3))
    (kk : W p l e R s m args below meth c H locs cells slots Q (F0 m (pc + 3) ls (v :: rest))) : W p l e R s m args below meth c H locs cells slots Q (F0 m pc ls (.ref a :: rest)) := by
  obtain ⟨C, T, N, host, ⟨h1, h2, h3, h4, h5, h6⟩, h7, h8⟩ := fl
  obtain ⟨q0, hq⟩ := kp_get_at (cy := cy) ha.1
  rw [kp_Eo ha.2 h2] at hq
  exact va_getN (D := D) (ci := ci) (fs := kp_fs S a ci) X.1 X.2.1 X.2.2.2.2.1 h4 X.2.2.2.1 X.2.2.2.2.2.1 h.1 q0 hq h1 k h7 (X.2.2.2.2.1 _ h8) (fun _ h9 => h9) (by rw [kp_fs_get (by omega), hv]) hdg kk
/-- what a write of the value v to field k of a leaves -/
def kp_Wr (S T : kp_S) (a ci k : Nat) (v : Value) : Prop := kp_L T = kp_L S ∧ kp_K T = kp_K S ∧ kp_N T = kp_N S ∧ (kp_fs S a ci).set k v = kp_fs T a ci ∧ (∀ (cy : Nat → ClassId) (b : Nat), b ≠ a → kp_E cy T b = kp_E cy S b) ∧ (kp_ok S → kp_ok T)
theorem kp_Wr.le {T : kp_S} {ci k : Nat} {v : Value} (h : kp_Wr S T a ci k v) : kp_le S T := fun b hb => ⟨by rw [h.1]; exact hb, by rw [h.2.1], by rw [h.2.2.1]⟩
theorem kp_putW (X : kp_X D cy ad own cc nL p s m args c A) (h : kp_H D cy A S s.heap H locs) {index ci k : Nat} (ha : kp_is S a ci) (fl : kp_FP own index ci k) {v : Value} {T : kp_S} (hn : narrow (kp_ty ci k) v = v) (hfit : fits (kp_ty ci k) v = true) (hw : kp_Wr S T a ci k v) (hdg : decode cc pc = .ok (.putfield index, 3))
    (kk : ∀ (H1 : Heap) (locs1 : List Loc), kp_H D cy A T s.heap H1 locs1 → W p l e R s m args below meth c H1 locs1 cells slots Q (F0 m (pc + 3) ls rest)) : W p l e R s m args below meth c H locs cells slots Q (F0 m pc ls (v :: .ref a :: rest)) := by
  obtain ⟨C, T0, N, ⟨h1, h2, h3, h4, h5, h6⟩, h7, h8, h9⟩ := fl
  obtain ⟨q0, hq⟩ := kp_get_at (cy := cy) ha.1
  have he := kp_put_eq (e := .inr (ci, (kp_fs S a ci).set k v)) h.2.1 ha.1 hq hw.1 (by rw [kp_Eo (by rw [hw.2.1]; exact ha.2) h2, hw.2.2.2.1]) (hw.2.2.2.2.1 cy)
  rw [kp_Eo ha.2 h2] at hq
  refine va_put (D := D) (ci := ci) (fs := kp_fs S a ci) X.1 X.2.1 X.2.2.2.2.1 h4 (kp_ty ci) h5 h6 X.2.2.2.1 X.2.2.2.2.2.1 h.1 h.2.1 h.2.2.1 q0 hq h1 k h7 (X.2.2.2.2.1 _ h8) (fun _ h9 => h9) h9 (h5 k h7) hn hfit (by simp [kp_fs]; omega) hdg (fun H1 locs1 hP hD hS => kk H1 locs1 ⟨?_, ?_, hS, hw.2.2.2.2.2 h.2.2.2⟩)
  · rw [← he]; exact hP
  · rw [← he]; exact hD
theorem kp_putWN (X : kp_X D cy ad own cc nL p s m args c A) (h : kp_H D cy A S s.heap H locs) {index ci k : Nat} (ha : kp_is S a ci) (fl : kp_NP own index ci k) {v : Value} {T : kp_S} (hn : narrow (kp_ty ci k) v = v) (hfit : fits (kp_ty ci k) v = true) (hw : kp_Wr S T a ci k v) (hdg : decode cc pc = .ok (.putfield index, 3))
    (kk : ∀ (H1 : Heap) (locs1 : List Loc), kp_H D cy A T s.heap H1 locs1 → W p l e R s m args below meth c H1 locs1 cells slots Q (F0 m (pc + 3) ls rest)) : W p l e R s m args below meth c H locs cells slots Q (F0 m pc ls (v :: .ref a :: rest)) := by
  obtain ⟨C, T0, N, host, ⟨h1, h2, h3, h4, h5, h6⟩, h7, h8, h9⟩ := fl
  obtain ⟨q0, hq⟩ := kp_get_at (cy := cy) ha.1
  have he := kp_put_eq (e := .inr (ci, (kp_fs S a ci).set k v)) h.2.1 ha.1 hq hw.1 (by rw [kp_Eo (by rw [hw.2.1]; exact ha.2) h2, hw.2.2.2.1]) (hw.2.2.2.2.1 cy)
  rw [kp_Eo ha.2 h2] at hq
  refine va_putN (D := D) (ci := ci) (fs := kp_fs S a ci) X.1 X.2.1 X.2.2.2.2.1 h4 (kp_ty ci) h5 h6 X.2.2.2.1 X.2.2.2.2.2.1 h.1 h.2.1 h.2.2.1 q0 hq h1 k h7 (X.2.2.2.2.1 _ h8) (fun _ h9 => h9) h9 (h5 k h7) hn hfit (by simp [kp_fs]; omega) hdg (fun H1 locs1 hP hD hS => kk H1 locs1 ⟨?_, ?_, hS, hw.2.2.2.2.2 h.2.2.2⟩)
  · rw [← he]; exact hP
  · rw [← he]; exact hD
theorem kp_putWF (X : kp_X D cy ad own cc nL p s m args c A) (hin : meth.name = "<init>") (h : kp_H D cy A S s.heap H locs) {index ci k : Nat} (ha : kp_is S a ci) (fl : kp_FF own index ci k) {v : Value} {T : kp_S} (hn : narrow (kp_ty ci k) v = v) (hfit : fits (kp_ty ci k) v = true) (hw : kp_Wr S T a ci k v) (hdg : decode cc pc = .ok (.putfield index, 3))
    (kk : ∀ (H1 : Heap) (locs1 : List Loc), kp_H D cy A T s.heap H1 locs1 → W p l e R s m args below meth c H1 locs1 cells slots Q (F0 m (pc + 3) ls rest)) : W p l e R s m args below meth c H locs cells slots Q (F0 m pc ls (v :: .ref a :: rest)) := by
  obtain ⟨C, T0, N, ⟨h1, h2, h3, h4, h5, h6⟩, h7, h8, h9, h10⟩ := fl
  obtain ⟨q0, hq⟩ := kp_get_at (cy := cy) ha.1
  have he := kp_put_eq (e := .inr (ci, (kp_fs S a ci).set k v)) h.2.1 ha.1 hq hw.1 (by rw [kp_Eo (by rw [hw.2.1]; exact ha.2) h2, hw.2.2.2.1]) (hw.2.2.2.2.1 cy)
  rw [kp_Eo ha.2 h2] at hq
  refine va_putF (D := D) (ci := ci) (fs := kp_fs S a ci) X.1 X.2.1 X.2.2.2.2.1 h4 (kp_ty ci) h5 h6 X.2.2.2.1 X.2.2.2.2.2.1 h.1 h.2.1 h.2.2.1 q0 hq h1 k h7 (X.2.2.2.2.1 _ h8) (fun _ h9 => h9) h9 hin h10 (h5 k h7) hn hfit (by simp [kp_fs]; omega) hdg (fun H1 locs1 hP hD hS => kk H1 locs1 ⟨?_, ?_, hS, hw.2.2.2.2.2 h.2.2.2⟩)
  · rw [← he]; exact hP
  · rw [← he]; exact hD
theorem kp_wI {ci k : Nat} {v : Int32} (ht : kp_tk ci k = 0) : kp_Wr S (kp_sI S (kp_f ci k) a v) a ci k (.int v) := by
  refine ⟨rfl, rfl, rfl, kp_fs_set (fun _ => by rw [kp_vI]; simp [ht]) (fun j hj => by rw [kp_vI]; simp [hj]), fun cy b hb => ?_, fun h => h⟩
  exact kp_E_ne rfl rfl rfl rfl rfl (fun j => by simp [kp_sI, kp_I, kp_u2, hb]) (fun _ => rfl) (fun _ => rfl)
theorem kp_wJ {ci k : Nat} {v : Int64} (ht : kp_tk ci k = 1) : kp_Wr S (kp_sJ S (kp_f ci k) a v) a ci k (.long v) := by
  refine ⟨rfl, rfl, rfl, kp_fs_set (fun _ => by rw [kp_vJ]; simp [ht]) (fun j hj => by rw [kp_vJ]; simp [hj]), fun cy b hb => ?_, fun h => h⟩
  exact kp_E_ne rfl rfl rfl rfl rfl (fun _ => rfl) (fun j => by simp [kp_sJ, kp_J, kp_u2, hb]) (fun _ => rfl)
theorem kp_wR {ci k v : Nat} (ht : 2 ≤ kp_tk ci k) (hci : kp_K S a = ci) (hk : k < 200) (hv : kp_is S v (kp_tg ci k)) : kp_Wr S (kp_sR S (kp_f ci k) a v) a ci k (.ref v) := by
  refine ⟨rfl, rfl, rfl, kp_fs_set (fun _ => by rw [kp_vR]; simp [ht]) (fun j hj => by rw [kp_vR]; simp [hj]), fun cy b hb => ?_, fun h => ⟨fun x cx kx b hx hcx hkx hb => ?_, h.2⟩⟩
  · exact kp_E_ne rfl rfl rfl rfl rfl (fun _ => rfl) (fun _ => rfl) (fun j => by simp [kp_sR, kp_R, kp_u2, hb])
  · by_cases hh : kp_f cx kx = kp_f ci k ∧ x = a
    · have hb2 : b = v := by
        simp only [kp_sR, kp_R, kp_u2, hh, and_self, if_true] at hb
        exact (Option.some.inj hb).symm
      have hcc : cx = ci := by rw [← hci, ← hx.2, hh.2]; rfl
      have hkk : kx = k := by rw [hcc] at hh; exact kp_f_inj hh.1
      subst hb2; subst hcc; subst hkk
      exact hv
    · have hb2 : kp_R S (kp_f cx kx) x = some b := by
        simp only [kp_sR, kp_R, kp_u2, hh, if_false] at hb
        exact hb
      exact h.1 x cx kx b hx hcx hkx hb2
-- a write, named
theorem kp_putI (X : kp_X D cy ad own cc nL p s m args c A) (h : kp_H D cy A S s.heap H locs) {index ci k : Nat} (ha : kp_is S a ci) (fl : kp_FP own index ci k) {v : Int32} (ht : kp_tk ci k = 0) (hn : narrow (kp_ty ci k) (.int v) = .int v ∧ fits (kp_ty ci k) (.int v) = true) (hdg : decode cc pc = .ok (.putfield index, 3))
    (kk : ∀ T : kp_S, T = kp_sI S (kp_f ci k) a v → kp_le S T → ∀ (H1 : Heap) (locs1 : List Loc), kp_H D cy A T s.heap H1 locs1 → W p l e R s m args below meth c H1 locs1 cells slots Q (F0 m (pc + 3) ls rest)) : W p l e R s m args below meth c H locs cells slots Q (F0 m pc ls (.int v :: .ref a :: rest)) :=
  kp_putW X h ha fl hn.1 hn.2 (kp_wI ht) hdg (kk _ rfl (kp_wI ht).le)
theorem kp_putIN (X : kp_X D cy ad own cc nL p s m args c A) (h : kp_H D cy A S s.heap H locs) {index ci k : Nat} (ha : kp_is S a ci) (fl : kp_NP own index ci k) {v : Int32} (ht : kp_tk ci k = 0) (hn : narrow (kp_ty ci k) (.int v) = .int v ∧ fits (kp_ty ci k) (.int v) = true) (hdg : decode cc pc = .ok (.putfield index, 3))
    (kk : ∀ T : kp_S, T = kp_sI S (kp_f ci k) a v → kp_le S T → ∀ (H1 : Heap) (locs1 : List Loc), kp_H D cy A T s.heap H1 locs1 → W p l e R s m args below meth c H1 locs1 cells slots Q (F0 m (pc + 3) ls rest)) : W p l e R s m args below meth c H locs cells slots Q (F0 m pc ls (.int v :: .ref a :: rest)) :=
  kp_putWN X h ha fl hn.1 hn.2 (kp_wI ht) hdg (kk _ rfl (kp_wI ht).le)
theorem kp_putJ (X : kp_X D cy ad own cc nL p s m args c A) (h : kp_H D cy A S s.heap H locs) {index ci k : Nat} (ha : kp_is S a ci) (fl : kp_FP own index ci k) {v : Int64} (ht : kp_tk ci k = 1) (hn : narrow (kp_ty ci k) (.long v) = .long v ∧ fits (kp_ty ci k) (.long v) = true) (hdg : decode cc pc = .ok (.putfield index, 3))
    (kk : ∀ T : kp_S, T = kp_sJ S (kp_f ci k) a v → kp_le S T → ∀ (H1 : Heap) (locs1 : List Loc), kp_H D cy A T s.heap H1 locs1 → W p l e R s m args below meth c H1 locs1 cells slots Q (F0 m (pc + 3) ls rest)) : W p l e R s m args below meth c H locs cells slots Q (F0 m pc ls (.long v :: .ref a :: rest)) :=
  kp_putW X h ha fl hn.1 hn.2 (kp_wJ ht) hdg (kk _ rfl (kp_wJ ht).le)
theorem kp_putR (X : kp_X D cy ad own cc nL p s m args c A) (h : kp_H D cy A S s.heap H locs) {index ci k : Nat} (ha : kp_is S a ci) (fl : kp_FP own index ci k) {v t : Nat} (hv : kp_is S v t) (htg : kp_tg ci k = t) (ht : 2 ≤ kp_tk ci k ∧ k < 200) (hn : narrow (kp_ty ci k) (.ref v) = .ref v ∧ fits (kp_ty ci k) (.ref v) = true) (hdg : decode cc pc = .ok (.putfield index, 3))
    (kk : ∀ T : kp_S, T = kp_sR S (kp_f ci k) a v → kp_le S T → ∀ (H1 : Heap) (locs1 : List Loc), kp_H D cy A T s.heap H1 locs1 → W p l e R s m args below meth c H1 locs1 cells slots Q (F0 m (pc + 3) ls rest)) : W p l e R s m args below meth c H locs cells slots Q (F0 m pc ls (.ref v :: .ref a :: rest)) :=
  kp_putW X h ha fl hn.1 hn.2 (kp_wR ht.1 ha.2 ht.2 (htg ▸ hv)) hdg (kk _ rfl (kp_wR ht.1 ha.2 ht.2 (htg ▸ hv)).le)
theorem kp_putRF (X : kp_X D cy ad own cc nL p s m args c A) (hin : meth.name = "<init>") (h : kp_H D cy A S s.heap H locs) {index ci k : Nat} (ha : kp_is S a ci) (fl : kp_FF own index ci k) {v t : Nat} (hv : kp_is S v t) (htg : kp_tg ci k = t) (ht : 2 ≤ kp_tk ci k ∧ k < 200) (hn : narrow (kp_ty ci k) (.ref v) = .ref v ∧ fits (kp_ty ci k) (.ref v) = true) (hdg : decode cc pc = .ok (.putfield index, 3))
    (kk : ∀ T : kp_S, T = kp_sR S (kp_f ci k) a v → kp_le S T → ∀ (H1 : Heap) (locs1 : List Loc), kp_H D cy A T s.heap H1 locs1 → W p l e R s m args below meth c H1 locs1 cells slots Q (F0 m (pc + 3) ls rest)) : W p l e R s m args below meth c H locs cells slots Q (F0 m pc ls (.ref v :: .ref a :: rest)) :=
  kp_putWF X hin h ha fl hn.1 hn.2 (kp_wR ht.1 ha.2 ht.2 (htg ▸ hv)) hdg (kk _ rfl (kp_wR ht.1 ha.2 ht.2 (htg ▸ hv)).le)
-- arrays
theorem kp_Ea_ne {T : kp_S} (hL : kp_L T = kp_L S) : True := trivial
theorem kp_ialoadW {t0 : Nat} {ty : FieldType} (X : kp_X D cy ad own cc nL p s m args c A) (h : kp_H D cy A S s.heap H locs) (ha : kp_is S a 14) {i : Int32} (hi : vp_in i (kp_N S a)) (hdg : decode cc pc = .ok (.iaload, 1))
    (kk : W p l e R s m args below meth c H locs cells slots Q (F0 m (pc + 1) ls (.int (kp_A S a i.toNatClampNeg) :: rest))) : W p l e R s m args below meth c H locs cells slots Q (F0 m pc ls (.int i :: .ref a :: rest)) := by
  obtain ⟨q0, hq⟩ := kp_get_at (cy := cy) ha.1
  rw [kp_Ei ha.2 (by omega)] at hq
  exact va_iald X.1 X.2.1 X.2.2.2.2.2.1 h.1 q0 1 hq rfl hi hdg kk
theorem kp_iald (X : kp_X D cy ad own cc nL p s m args c A) (h : kp_H D cy A S s.heap H locs) (ha : kp_is S a 14) {i : Int32} (hi : vp_in i (kp_N S a)) (hdg : decode cc pc = .ok (.iaload, 1))
    (kk : W p l e R s m args below meth c H locs cells slots Q (F0 m (pc + 1) ls (.int (kp_A S a i.toNatClampNeg) :: rest))) : W p l e R s m args below meth c H locs cells slots Q (F0 m pc ls (.int i :: .ref a :: rest)) := by
  obtain ⟨q0, hq⟩ := kp_get_at (cy := cy) ha.1
  rw [kp_Ei ha.2 (by omega)] at hq
  exact va_iald X.1 X.2.1 X.2.2.2.2.2.1 h.1 q0 1 hq rfl hi hdg kk
theorem kp_bald (X : kp_X D cy ad own cc nL p s m args c A) (h : kp_H D cy A S s.heap H locs) (ha : kp_is S a 13) {i : Int32} (hi : vp_in i (kp_N S a)) (hdg : decode cc pc = .ok (.baload, 1))
    (kk : W p l e R s m args below meth c H locs cells slots Q (F0 m (pc + 1) ls (.int (kp_A S a i.toNatClampNeg) :: rest))) : W p l e R s m args below meth c H locs cells slots Q (F0 m pc ls (.int i :: .ref a :: rest)) := by
  obtain ⟨q0, hq⟩ := kp_get_at (cy := cy) ha.1
  rw [kp_Ei ha.2 (by omega)] at hq
  exact va_bald X.1 X.2.1 X.2.2.2.2.2.1 h.1 q0 0 hq rfl hi hdg kk
theorem kp_zald (X : kp_X D cy ad own cc nL p s m args c A) (h : kp_H D cy A S s.heap H locs) (ha : kp_is S a 16) {i : Int32} (hi : vp_in i (kp_N S a)) (hdg : decode cc pc = .ok (.baload, 1))
    (kk : W p l e R s m args below meth c H locs cells slots Q (F0 m (pc + 1) ls (.int (kp_A S a i.toNatClampNeg) :: rest))) : W p l e R s m args below meth c H locs cells slots Q (F0 m pc ls (.int i :: .ref a :: rest)) := by
  obtain ⟨q0, hq⟩ := kp_get_at (cy := cy) ha.1
  rw [kp_Ei ha.2 (by omega)] at hq
  exact va_zald X.1 X.2.1 X.2.2.2.2.2.1 h.1 q0 3 hq rfl hi hdg kk
theorem kp_lald (X : kp_X D cy ad own cc nL p s m args c A) (h : kp_H D cy A S s.heap H locs) (ha : kp_is S a 15) {i : Int32} (hi : vp_in i (kp_N S a)) (hdg : decode cc pc = .ok (.laload, 1))
    (kk : W p l e R s m args below meth c H locs cells slots Q (F0 m (pc + 1) ls (.long (kp_B S a i.toNatClampNeg) :: rest))) : W p l e R s m args below meth c H locs cells slots Q (F0 m pc ls (.int i :: .ref a :: rest)) := by
  obtain ⟨q0, hq⟩ := kp_get_at (cy := cy) ha.1
  rw [kp_El ha.2] at hq
  exact va_lald X.1 X.2.1 X.2.2.2.2.2.1 h.1 q0 2 hq rfl hi hdg kk
theorem kp_aldF (X : kp_X D cy ad own cc nL p s m args c A) (h : kp_H D cy A S s.heap H locs) (ha : kp_is S a 17) {i : Int32} (hi : vp_in i (kp_N S a)) {b : Nat} (hb : kp_C S a i.toNatClampNeg = some b) (hdg : decode cc pc = .ok (.aaload, 1))
    (kk : W p l e R s m args below meth c H locs cells slots Q (F0 m (pc + 1) ls (.ref b :: rest))) : W p l e R s m args below meth c H locs cells slots Q (F0 m pc ls (.int i :: .ref a :: rest)) := by
  obtain ⟨q0, hq⟩ := kp_get_at (cy := cy) ha.1
  rw [kp_Er ha.2 (by omega)] at hq
  exact va_aldq X.1 X.2.1 X.2.2.2.2.2.1 h.1 q0 4 hq rfl hi hdg (by rw [hb]; exact kk)
theorem kp_aldP (X : kp_X D cy ad own cc nL p s m args c A) (h : kp_H D cy A S s.heap H locs) (ha : kp_is S a 18) {i : Int32} (hi : vp_in i (kp_N S a)) {b : Nat} (hb : kp_C S a i.toNatClampNeg = some b) (hdg : decode cc pc = .ok (.aaload, 1))
    (kk : W p l e R s m args below meth c H locs cells slots Q (F0 m (pc + 1) ls (.ref b :: rest))) : W p l e R s m args below meth c H locs cells slots Q (F0 m pc ls (.int i :: .ref a :: rest)) := by
  obtain ⟨q0, hq⟩ := kp_get_at (cy := cy) ha.1
  rw [kp_Er ha.2 (by omega)] at hq
  exact va_aldq X.1 X.2.1 X.2.2.2.2.2.1 h.1 q0 5 hq rfl hi hdg (by rw [hb]; exact kk)
theorem kp_alen (X : kp_X D cy ad own cc nL p s m args c A) (h : kp_H D cy A S s.heap H locs) {k : Nat} (ha : kp_is S a k) (hk : 13 ≤ k ∧ k ≤ 18) (hdg : decode cc pc = .ok (.arraylength, 1))
    (kk : W p l e R s m args below meth c H locs cells slots Q (F0 m (pc + 1) ls (.int (nI (kp_N S a)) :: rest))) : W p l e R s m args below meth c H locs cells slots Q (F0 m pc ls (.ref a :: rest)) := by
  obtain ⟨q0, hq⟩ := kp_get_at (cy := cy) ha.1
  rcases (show k = 13 ∨ k = 14 ∨ k = 15 ∨ k = 16 ∨ k = 17 ∨ k = 18 by omega) with rfl | rfl | rfl | rfl | rfl | rfl
  · rw [kp_Ei ha.2 (by omega)] at hq
    exact va_alen X.1 X.2.1 X.2.2.2.2.2.1 h.1 q0 0 hq (ty := .byte) rfl rfl hdg kk
  · rw [kp_Ei ha.2 (by omega)] at hq
    exact va_alen X.1 X.2.1 X.2.2.2.2.2.1 h.1 q0 1 hq (ty := .int) rfl rfl hdg kk
  · rw [kp_El ha.2] at hq
    exact va_alen X.1 X.2.1 X.2.2.2.2.2.1 h.1 q0 2 hq (ty := .long) rfl rfl hdg kk
  · rw [kp_Ei ha.2 (by omega)] at hq
    exact va_alen X.1 X.2.1 X.2.2.2.2.2.1 h.1 q0 3 hq (ty := .boolean) rfl rfl hdg kk
  · rw [kp_Er ha.2 (by omega)] at hq
    exact va_alen X.1 X.2.1 X.2.2.2.2.2.1 h.1 q0 4 hq (ty := .object "LockKeepers$Frame") rfl rfl hdg kk
  · rw [kp_Er ha.2 (by omega)] at hq
    exact va_alen X.1 X.2.1 X.2.2.2.2.2.1 h.1 q0 5 hq (ty := .object "LockKeepers$Part") rfl rfl hdg kk
theorem kp_sA_le {r : Nat → Int32} : kp_le S (kp_sA S a r) := fun _ h => ⟨h, rfl, rfl⟩
theorem kp_sB_le {r : Nat → Int64} : kp_le S (kp_sB S a r) := fun _ h => ⟨h, rfl, rfl⟩
theorem kp_sC_le {r : Nat → Option Nat} : kp_le S (kp_sC S a r) := fun _ h => ⟨h, rfl, rfl⟩
theorem kp_sA_eq {k q0 : Nat} {r : Nat → Int32} (hD : va_D A (kp_pl cy S)) (ha : kp_is S a k) (hk : k = 13 ∨ k = 14 ∨ k = 16) (hq : (kp_pl cy S)[q0]? = some (a, kp_E cy S a)) : (kp_pl cy S).set q0 (a, .inl (cy k, kp_N S a, .inl r)) = kp_pl cy (kp_sA S a r) := by
  refine kp_put_eq hD ha.1 hq rfl ?_ (fun b hb => kp_E_ne rfl rfl ?_ rfl rfl (fun _ => rfl) (fun _ => rfl) (fun _ => rfl))
  · rw [kp_Ei (show kp_K (kp_sA S a r) a = k from ha.2) hk]
    simp [kp_sA, kp_A, kp_N, va_up]
  · simp [kp_sA, kp_A, va_up, hb]
theorem kp_iast (X : kp_X D cy ad own cc nL p s m args c A) (h : kp_H D cy A S s.heap H locs) (ha : kp_is S a 14) {i x : Int32} (hi : vp_in i (kp_N S a)) (hdg : decode cc pc = .ok (.iastore, 1))
    (kk : ∀ T : kp_S, T = kp_sA S a (upd (kp_A S a) i.toNatClampNeg x) → kp_le S T → ∀ (H1 : Heap) (locs1 : List Loc), kp_H D cy A T s.heap H1 locs1 → W p l e R s m args below meth c H1 locs1 cells slots Q (F0 m (pc + 1) ls rest)) : W p l e R s m args below meth c H locs cells slots Q (F0 m pc ls (.int x :: .int i :: .ref a :: rest)) := by
  obtain ⟨q0, hq⟩ := kp_get_at (cy := cy) ha.1
  have he := kp_sA_eq (r := upd (kp_A S a) i.toNatClampNeg x) h.2.1 ha (by omega) hq
  rw [kp_Ei ha.2 (by omega)] at hq
  refine va_iast X.1 X.2.1 X.2.2.2.2.2.1 h.1 h.2.1 h.2.2.1 q0 1 hq rfl hi hdg (fun H1 locs1 hP hD hS => kk _ rfl kp_sA_le H1 locs1 ⟨?_, ?_, hS, h.2.2.2⟩)
  · rw [← he]; exact hP
  · rw [← he]; exact hD
theorem kp_bast (X : kp_X D cy ad own cc nL p s m args c A) (h : kp_H D cy A S s.heap H locs) (ha : kp_is S a 13) {i x : Int32} (hi : vp_in i (kp_N S a)) (hdg : decode cc pc = .ok (.bastore, 1))
    (kk : ∀ T : kp_S, T = kp_sA S a (upd (kp_A S a) i.toNatClampNeg (vp_nar .byte x)) → kp_le S T → ∀ (H1 : Heap) (locs1 : List Loc), kp_H D cy A T s.heap H1 locs1 → W p l e R s m args below meth c H1 locs1 cells slots Q (F0 m (pc + 1) ls rest)) : W p l e R s m args below meth c H locs cells slots Q (F0 m pc ls (.int x :: .int i :: .ref a :: rest)) := by
  obtain ⟨q0, hq⟩ := kp_get_at (cy := cy) ha.1
  have he := kp_sA_eq (r := upd (kp_A S a) i.toNatClampNeg (vp_nar .byte x)) h.2.1 ha (by omega) hq
  rw [kp_Ei ha.2 (by omega)] at hq
  refine va_bast X.1 X.2.1 X.2.2.2.2.2.1 h.1 h.2.1 h.2.2.1 q0 0 hq rfl hi hdg (fun H1 locs1 hP hD hS => kk _ rfl kp_sA_le H1 locs1 ⟨?_, ?_, hS, h.2.2.2⟩)
  · rw [← he]; exact hP
  · rw [← he]; exact hD
theorem kp_zast (X : kp_X D cy ad own cc nL p s m args c A) (h : kp_H D cy A S s.heap H locs) (ha : kp_is S a 16) {i x : Int32} (hi : vp_in i (kp_N S a)) (hdg : decode cc pc = .ok (.bastore, 1))
    (kk : ∀ T : kp_S, T = kp_sA S a (upd (kp_A S a) i.toNatClampNeg (vp_nar .boolean x)) → kp_le S T → ∀ (H1 : Heap) (locs1 : List Loc), kp_H D cy A T s.heap H1 locs1 → W p l e R s m args below meth c H1 locs1 cells slots Q (F0 m (pc + 1) ls rest)) : W p l e R s m args below meth c H locs cells slots Q (F0 m pc ls (.int x :: .int i :: .ref a :: rest)) := by
  obtain ⟨q0, hq⟩ := kp_get_at (cy := cy) ha.1
  have he := kp_sA_eq (r := upd (kp_A S a) i.toNatClampNeg (vp_nar .boolean x)) h.2.1 ha (by omega) hq
  rw [kp_Ei ha.2 (by omega)] at hq
  refine va_zast X.1 X.2.1 X.2.2.2.2.2.1 h.1 h.2.1 h.2.2.1 q0 3 hq rfl hi hdg (fun H1 locs1 hP hD hS => kk _ rfl kp_sA_le H1 locs1 ⟨?_, ?_, hS, h.2.2.2⟩)
  · rw [← he]; exact hP
  · rw [← he]; exact hD
theorem kp_last (X : kp_X D cy ad own cc nL p s m args c A) (h : kp_H D cy A S s.heap H locs) (ha : kp_is S a 15) {i : Int32} {x : Int64} (hi : vp_in i (kp_N S a)) (hdg : decode cc pc = .ok (.lastore, 1))
    (kk : ∀ T : kp_S, T = kp_sB S a (vp_updL (kp_B S a) i.toNatClampNeg x) → kp_le S T → ∀ (H1 : Heap) (locs1 : List Loc), kp_H D cy A T s.heap H1 locs1 → W p l e R s m args below meth c H1 locs1 cells slots Q (F0 m (pc + 1) ls rest)) : W p l e R s m args below meth c H locs cells slots Q (F0 m pc ls (.long x :: .int i :: .ref a :: rest)) := by
  obtain ⟨q0, hq⟩ := kp_get_at (cy := cy) ha.1
  have he : (kp_pl cy S).set q0 (a, .inl (cy 15, kp_N S a, .inr (.inl (vp_updL (kp_B S a) i.toNatClampNeg x)))) = kp_pl cy (kp_sB S a (vp_updL (kp_B S a) i.toNatClampNeg x)) := by
    refine kp_put_eq h.2.1 ha.1 hq rfl ?_ (fun b hb => kp_E_ne rfl rfl rfl ?_ rfl (fun _ => rfl) (fun _ => rfl) (fun _ => rfl))
    · rw [kp_El (show kp_K (kp_sB S a _) a = 15 from ha.2)]
      simp [kp_sB, kp_B, kp_N, va_up]
    · simp [kp_sB, kp_B, va_up, hb]
  rw [kp_El ha.2] at hq
  refine va_last X.1 X.2.1 X.2.2.2.2.2.1 h.1 h.2.1 h.2.2.1 q0 2 hq rfl hi hdg (fun H1 locs1 hP hD hS => kk _ rfl kp_sB_le H1 locs1 ⟨?_, ?_, hS, h.2.2.2⟩)
  · rw [← he]; exact hP
  · rw [← he]; exact hD
theorem kp_sC_ok {k i v : Nat} (h : kp_ok S) (ha : kp_is S a k) (hv : kp_is S v (if k = 17 then 3 else 6)) : kp_ok (kp_sC S a (va_up (kp_C S a) i (some v))) := by
  refine ⟨h.1, fun x cx j b hx hc hb => ?_⟩
  by_cases hxa : x = a
  · subst hxa
    have hck : cx = k := hx.2.symm.trans ha.2
    subst hck
    have hb' : va_up (kp_C S x) i (some v) j = some b := by
      simpa [kp_sC, kp_C, va_up] using hb
    by_cases hj : j = i
    · subst hj
      rw [va_up_self] at hb'
      cases hb'
      exact hv
    · rw [va_up_ne _ _ hj] at hb'
      exact h.2 x cx j b hx hc hb'
  · refine h.2 x cx j b hx hc ?_
    simpa [kp_sC, kp_C, va_up, hxa] using hb
theorem kp_sC_eq {k q0 : Nat} {r : Nat → Option Nat} (hD : va_D A (kp_pl cy S)) (ha : kp_is S a k) (hk : k = 17 ∨ k = 18) (hq : (kp_pl cy S)[q0]? = some (a, kp_E cy S a)) : (kp_pl cy S).set q0 (a, .inl (cy k, kp_N S a, .inr (.inr (.inr (.inr r))))) = kp_pl cy (kp_sC S a r) := by
  refine kp_put_eq hD ha.1 hq rfl ?_ (fun b hb => kp_E_ne rfl rfl rfl rfl ?_ (fun _ => rfl) (fun _ => rfl) (fun _ => rfl))
  · rw [kp_Er (show kp_K (kp_sC S a r) a = k from ha.2) hk]
    simp [kp_sC, kp_C, kp_N, va_up]
  · simp [kp_sC, kp_C, va_up, hb]
theorem kp_astF (X : kp_X D cy ad own cc nL p s m args c A) (h : kp_H D cy A S s.heap H locs) (ha : kp_is S a 17) {i : Int32} {v : Nat} (hv : kp_is S v 3) (hi : vp_in i (kp_N S a)) (hdg : decode cc pc = .ok (.aastore, 1))
    (kk : ∀ T : kp_S, T = kp_sC S a (va_up (kp_C S a) i.toNatClampNeg (some v)) → kp_le S T → ∀ (H1 : Heap) (locs1 : List Loc), kp_H D cy A T s.heap H1 locs1 → W p l e R s m args below meth c H1 locs1 cells slots Q (F0 m (pc + 1) ls rest)) : W p l e R s m args below meth c H locs cells slots Q (F0 m pc ls (.ref v :: .int i :: .ref a :: rest)) := by
  obtain ⟨q0, hq⟩ := kp_get_at (cy := cy) ha.1
  obtain ⟨q1, hq1⟩ := kp_get_at (cy := cy) hv.1
  have he := kp_sC_eq (r := va_up (kp_C S a) i.toNatClampNeg (some v)) h.2.1 ha (by omega) hq
  rw [kp_Er ha.2 (by omega)] at hq
  rw [kp_Eo hv.2 (by omega)] at hq1
  refine va_astq X.1 X.2.1 X.2.2.2.2.2.1 h.1 h.2.1 h.2.2.1 q0 4 q1 3 (r := (RX3, TX3, 5)) hq rfl hq1 rfl hi hdg (fun H1 locs1 hP hD hS => kk _ rfl kp_sC_le H1 locs1 ⟨?_, ?_, hS, kp_sC_ok h.2.2.2 ha (by exact hv)⟩)
  · rw [← he]; exact hP
  · rw [← he]; exact hD
theorem kp_astP (X : kp_X D cy ad own cc nL p s m args c A) (h : kp_H D cy A S s.heap H locs) (ha : kp_is S a 18) {i : Int32} {v : Nat} (hv : kp_is S v 6) (hi : vp_in i (kp_N S a)) (hdg : decode cc pc = .ok (.aastore, 1))
    (kk : ∀ T : kp_S, T = kp_sC S a (va_up (kp_C S a) i.toNatClampNeg (some v)) → kp_le S T → ∀ (H1 : Heap) (locs1 : List Loc), kp_H D cy A T s.heap H1 locs1 → W p l e R s m args below meth c H1 locs1 cells slots Q (F0 m (pc + 1) ls rest)) : W p l e R s m args below meth c H locs cells slots Q (F0 m pc ls (.ref v :: .int i :: .ref a :: rest)) := by
  obtain ⟨q0, hq⟩ := kp_get_at (cy := cy) ha.1
  obtain ⟨q1, hq1⟩ := kp_get_at (cy := cy) hv.1
  have he := kp_sC_eq (r := va_up (kp_C S a) i.toNatClampNeg (some v)) h.2.1 ha (by omega) hq
  rw [kp_Er ha.2 (by omega)] at hq
  rw [kp_Eo hv.2 (by omega)] at hq1
  refine va_astq X.1 X.2.1 X.2.2.2.2.2.1 h.1 h.2.1 h.2.2.1 q0 5 q1 6 (r := (RX6, TX6, 9)) hq rfl hq1 rfl hi hdg (fun H1 locs1 hP hD hS => kk _ rfl kp_sC_le H1 locs1 ⟨?_, ?_, hS, kp_sC_ok h.2.2.2 ha (by exact hv)⟩)
  · rw [← he]; exact hP
  · rw [← he]; exact hD
end KP
