/-! THE POOL: every object and array of the system, by its address; one world for all methods. -/
/-- addresses; the kind of each (0 .. 12 classes, 13 byte, 14 int, 15 long, 16 boolean, 17 Frame, 18 Part arrays); int, long, reference fields by (200 * class + slot) and address; arrays' lengths; int, long, reference rows -/
abbrev kp_S : Type := (List Nat) × (Nat → Nat) × (Nat → Nat → Int32) × (Nat → Nat → Int64) × (Nat → Nat → Option Nat) × (Nat → Nat) × (Nat → Nat → Int32) × (Nat → Nat → Int64) × (Nat → Nat → Option Nat)
def kp_L (S : kp_S) : List Nat := S.1
def kp_K (S : kp_S) : Nat → Nat := S.2.1
def kp_I (S : kp_S) : Nat → Nat → Int32 := S.2.2.1
def kp_J (S : kp_S) : Nat → Nat → Int64 := S.2.2.2.1
def kp_R (S : kp_S) : Nat → Nat → Option Nat := S.2.2.2.2.1
def kp_N (S : kp_S) : Nat → Nat := S.2.2.2.2.2.1
def kp_A (S : kp_S) : Nat → Nat → Int32 := S.2.2.2.2.2.2.1
def kp_B (S : kp_S) : Nat → Nat → Int64 := S.2.2.2.2.2.2.2.1
def kp_C (S : kp_S) : Nat → Nat → Option Nat := S.2.2.2.2.2.2.2.2
def kp_u2 {α : Type} (f : Nat → Nat → α) (k a : Nat) (v : α) : Nat → Nat → α := fun j b => if j = k ∧ b = a then v else f j b
def kp_z {α : Type} (f : Nat → Nat → α) (q : Nat) (v : α) : Nat → Nat → α := fun j b => if b = q then v else f j b
def kp_sI (S : kp_S) (k a : Nat) (v : Int32) : kp_S := (kp_L S, kp_K S, kp_u2 (kp_I S) k a v, kp_J S, kp_R S, kp_N S, kp_A S, kp_B S, kp_C S)
def kp_sJ (S : kp_S) (k a : Nat) (v : Int64) : kp_S := (kp_L S, kp_K S, kp_I S, kp_u2 (kp_J S) k a v, kp_R S, kp_N S, kp_A S, kp_B S, kp_C S)
def kp_sR (S : kp_S) (k a : Nat) (v : Nat) : kp_S := (kp_L S, kp_K S, kp_I S, kp_J S, kp_u2 (kp_R S) k a (some v), kp_N S, kp_A S, kp_B S, kp_C S)
def kp_sA (S : kp_S) (a : Nat) (r : Nat → Int32) : kp_S := (kp_L S, kp_K S, kp_I S, kp_J S, kp_R S, kp_N S, va_up (kp_A S) a r, kp_B S, kp_C S)
def kp_sB (S : kp_S) (a : Nat) (r : Nat → Int64) : kp_S := (kp_L S, kp_K S, kp_I S, kp_J S, kp_R S, kp_N S, kp_A S, va_up (kp_B S) a r, kp_C S)
def kp_sC (S : kp_S) (a : Nat) (r : Nat → Option Nat) : kp_S := (kp_L S, kp_K S, kp_I S, kp_J S, kp_R S, kp_N S, kp_A S, kp_B S, va_up (kp_C S) a r)
/-- a new object of class c at q -/
def kp_new (S : kp_S) (q c : Nat) : kp_S := (kp_L S ++ [q], va_up (kp_K S) q c, kp_z (kp_I S) q 0, kp_z (kp_J S) q 0, kp_z (kp_R S) q none, kp_N S, kp_A S, kp_B S, kp_C S)
/-- a new array of kind c and length n at q -/
def kp_newA (S : kp_S) (q c n : Nat) : kp_S := (kp_L S ++ [q], va_up (kp_K S) q c, kp_I S, kp_J S, kp_R S, va_up (kp_N S) q n, va_up (kp_A S) q (fun _ => 0), va_up (kp_B S) q (fun _ => 0), va_up (kp_C S) q (fun _ => none))
def kp_f (c k : Nat) : Nat := 200 * c + k
def kp_nf (c : Nat) : Nat := [4, 5, 3, 5, 15, 13, 9, 3, 5, 11, 4, 9, 125].getD c 0
def kp_tkl : List (List Nat) := [[2, 0, 2, 0], [2, 2, 2, 2, 2], [2, 2, 2], [2, 2, 0, 0, 0], [2, 2, 2, 0, 2, 0, 2, 0, 2, 2, 0, 0, 0, 0, 0], [2, 2, 0, 2, 2, 0, 0, 2, 2, 0, 0, 0, 0], [0, 0, 0, 0, 0, 0, 0, 0, 2], [2, 2, 2], [2, 2, 2, 2, 0], [2, 2, 0, 0, 0, 0, 0, 0, 1, 0, 0], [0, 0, 0, 0], [2, 2, 2, 2, 2, 2, 0, 0, 0], [0, 2, 0, 2, 2, 2, 2, 0, 0, 0, 0, 0, 0, 0, 2, 2, 2, 0, 2, 2, 2, 2, 2, 2, 0, 0, 1, 2, 2, 2, 2, 2, 2, 0, 2, 2, 2, 2, 0, 2, 2, 0, 0, 2, 2, 0, 0, 0, 2, 2, 2, 2, 2, 2, 2, 2, 2, 2, 2, 2, 2, 2, 0, 2, 2, 2, 2, 2, 2, 2, 0, 0, 0, 0, 0, 0, 0, 0, 0, 0, 0, 0, 0, 0, 0, 0, 0, 0, 2, 2, 2, 2, 2, 2, 2, 2, 2, 2, 2, 2, 2, 0, 2, 2, 2, 2, 2, 2, 2, 2, 0, 0, 0, 0, 0, 2, 0, 0, 0, 0, 0, 0, 0, 0, 0]]
/-- the type of slot k of class c: 0 int or boolean, 1 long, 2 a reference -/
def kp_tk (c k : Nat) : Nat := (kp_tkl.getD c []).getD k 0
def kp_tgl : List (List Nat) := [[14, 0, 14, 0], [14, 14, 14, 14, 14], [9, 5, 0], [14, 14, 0, 0, 0], [1, 7, 14, 0, 17, 0, 18, 0, 10, 0, 0, 0, 0, 0, 0], [15, 14, 0, 15, 14, 0, 0, 15, 14, 0, 0, 0, 0], [0, 0, 0, 0, 0, 0, 0, 0, 10], [14, 14, 14], [9, 5, 2, 0, 0], [13, 15, 0, 0, 0, 0, 0, 0, 0, 0, 0], [0, 0, 0, 0], [13, 8, 1, 7, 4, 0, 0, 0, 0], [0, 14, 0, 15, 14, 14, 15, 0, 0, 0, 0, 0, 0, 0, 14, 14, 14, 0, 14, 14, 14, 14, 14, 14, 0, 0, 0, 15, 14, 14, 14, 14, 14, 0, 15, 14, 14, 14, 0, 15, 14, 0, 0, 15, 14, 0, 0, 0, 14, 14, 14, 14, 14, 14, 14, 14, 14, 14, 14, 14, 14, 14, 0, 14, 16, 14, 14, 14, 14, 14, 0, 0, 0, 0, 0, 0, 0, 0, 0, 0, 0, 0, 0, 0, 0, 0, 0, 0, 14, 14, 14, 14, 14, 15, 15, 14, 14, 14, 14, 14, 14, 0, 14, 14, 14, 14, 14, 14, 14, 14, 0, 0, 0, 0, 0, 14, 0, 0, 0, 0, 0, 0, 0, 0, 0]]
/-- the kind of what the reference in slot k of class c names -/
def kp_tg (c k : Nat) : Nat := (kp_tgl.getD c []).getD k 0
def kp_ty (c : Nat) : Nat → FieldType := match c with
  | 0 => tyX0
  | 1 => tyX1
  | 2 => tyX2
  | 3 => tyX3
  | 4 => tyX4
  | 5 => tyX5
  | 6 => tyX6
  | 7 => tyX7
  | 8 => tyX8
  | 9 => tyX9
  | 10 => tyX10
  | 11 => tyX11
  | _ => tyX12
abbrev kp_cl : List vw_C := [(RX0, TX0, 4), (RX1, TX1, 5), (RX2, TX2, 3), (RX3, TX3, 5), (RX4, TX4, 15), (RX5, TX5, 13), (RX6, TX6, 9), (RX7, TX7, 3), (RX8, TX8, 5), (RX9, TX9, 11), (RX10, TX10, 4), (RX11, TX11, 9), (RX12, TX12, 125)]
def kp_val (S : kp_S) (a c k : Nat) : Value := match kp_tk c k with
  | 0 => .int (kp_I S (kp_f c k) a)
  | 1 => .long (kp_J S (kp_f c k) a)
  | _ => va_rf (kp_R S (kp_f c k) a)
def kp_fs (S : kp_S) (a c : Nat) : List Value := (List.range (kp_nf c)).map (kp_val S a c)
def kp_E (cy : Nat → ClassId) (S : kp_S) (a : Nat) : va_E :=
  if kp_K S a < 13 then .inr (kp_K S a, kp_fs S a (kp_K S a))
  else if kp_K S a = 15 then .inl (cy 15, kp_N S a, .inr (.inl (kp_B S a)))
  else if kp_K S a < 17 then .inl (cy (kp_K S a), kp_N S a, .inl (kp_A S a))
  else .inl (cy (kp_K S a), kp_N S a, .inr (.inr (.inr (.inr (kp_C S a)))))
def kp_pl (cy : Nat → ClassId) (S : kp_S) : va_W := va_pl (kp_L S) (kp_E cy S)
def kp_tys (cy : Nat → ClassId) : List (ClassId × FieldType) := [(cy 13, .byte), (cy 14, .int), (cy 15, .long), (cy 16, .boolean), (cy 17, .object "LockKeepers$Frame"), (cy 18, .object "LockKeepers$Part")]
def kp_is (S : kp_S) (a c : Nat) : Prop := a ∈ kp_L S ∧ kp_K S a = c
/-- references hold what their types say -/
def kp_ok (S : kp_S) : Prop := (∀ a c k b : Nat, kp_is S a c → c < 13 → k < kp_nf c → kp_R S (kp_f c k) a = some b → kp_is S b (kp_tg c k)) ∧ (∀ a c i b : Nat, kp_is S a c → 17 ≤ c → kp_C S a i = some b → kp_is S b (if c = 17 then 3 else 6))
def kp_le (S T : kp_S) : Prop := ∀ a, a ∈ kp_L S → a ∈ kp_L T ∧ kp_K T a = kp_K S a ∧ kp_N T a = kp_N S a
theorem kp_le.rf {S : kp_S} : kp_le S S := fun _ h => ⟨h, rfl, rfl⟩
theorem kp_le.tr {S T U : kp_S} (h : kp_le S T) (g : kp_le T U) : kp_le S U := fun a ha => ⟨(g a (h a ha).1).1, (g a (h a ha).1).2.1.trans (h a ha).2.1, (g a (h a ha).1).2.2.trans (h a ha).2.2⟩
theorem kp_le.is {S T : kp_S} {a c : Nat} (h : kp_le S T) (ha : kp_is S a c) : kp_is T a c := ⟨(h a ha.1).1, (h a ha.1).2.1.trans ha.2⟩
theorem kp_le.n {S T : kp_S} {a c : Nat} (h : kp_le S T) (ha : kp_is S a c) : kp_N T a = kp_N S a := (h a ha.1).2.2
theorem kp_ok.rf {S : kp_S} (h : kp_ok S) {a c k b : Nat} (ha : kp_is S a c) (hc : c < 13) (hk : k < kp_nf c) (hb : kp_R S (kp_f c k) a = some b) {t : Nat} (ht : kp_tg c k = t) : kp_is S b t := ht ▸ h.1 a c k b ha hc hk hb
theorem kp_ok.rc {S : kp_S} (h : kp_ok S) {a c i b : Nat} (ha : kp_is S a c) (hc : 17 ≤ c) (hb : kp_C S a i = some b) {t : Nat} (ht : (if c = 17 then 3 else 6) = t) : kp_is S b t := ht ▸ h.2 a c i b ha hc hb
-- what a cell is
theorem kp_Eo {cy : Nat → ClassId} {S : kp_S} {a c : Nat} (h : kp_K S a = c) (hc : c < 13) : kp_E cy S a = .inr (c, kp_fs S a c) := by
  subst h; simp [kp_E, hc]
theorem kp_Ei {cy : Nat → ClassId} {S : kp_S} {a c : Nat} (h : kp_K S a = c) (hc : c = 13 ∨ c = 14 ∨ c = 16) : kp_E cy S a = .inl (cy c, kp_N S a, .inl (kp_A S a)) := by
  subst h; rcases hc with hc | hc | hc <;> simp [kp_E, hc]
theorem kp_El {cy : Nat → ClassId} {S : kp_S} {a : Nat} (h : kp_K S a = 15) : kp_E cy S a = .inl (cy 15, kp_N S a, .inr (.inl (kp_B S a))) := by
  simp [kp_E, h]
theorem kp_Er {cy : Nat → ClassId} {S : kp_S} {a c : Nat} (h : kp_K S a = c) (hc : c = 17 ∨ c = 18) : kp_E cy S a = .inl (cy c, kp_N S a, .inr (.inr (.inr (.inr (kp_C S a))))) := by
  subst h; rcases hc with hc | hc <;> simp [kp_E, hc]
theorem kp_fs_get {S : kp_S} {a c k : Nat} (hk : k < kp_nf c) : (kp_fs S a c)[k]? = some (kp_val S a c k) := by
  simp [kp_fs, List.getElem?_map, List.getElem?_range hk]
theorem kp_f_inj {c k j : Nat} (h : kp_f c j = kp_f c k) : j = k := by
  unfold kp_f at h; omega
-- writing a field
theorem kp_fs_ext {l : List Value} {S : kp_S} {a c : Nat} (hl : l.length = kp_nf c) (h : ∀ j, j < kp_nf c → l[j]? = some (kp_val S a c j)) : l = kp_fs S a c := by
  apply List.ext_getElem?
  intro j
  by_cases hj : j < kp_nf c
  · rw [h j hj, kp_fs_get hj]
  · rw [List.getElem?_eq_none (by omega), List.getElem?_eq_none (by simp [kp_fs]; omega)]
theorem kp_fs_set {S T : kp_S} {a c k : Nat} {v : Value} (hv : k < kp_nf c → kp_val T a c k = v) (ho : ∀ j, j ≠ k → kp_val T a c j = kp_val S a c j) : (kp_fs S a c).set k v = kp_fs T a c := by
  apply kp_fs_ext
  · simp [kp_fs]
  · intro j hj
    by_cases hjk : j = k
    · subst hjk
      rw [List.getElem?_set_self (by simp [kp_fs]; exact hj), hv hj]
    · rw [List.getElem?_set_ne (Ne.symm hjk), kp_fs_get hj, ho j hjk]
theorem kp_vI {S : kp_S} {a c k j : Nat} {v : Int32} : kp_val (kp_sI S (kp_f c k) a v) a c j = if j = k ∧ kp_tk c k = 0 then .int v else kp_val S a c j := by
  by_cases hj : j = k
  · subst hj
    by_cases ht : kp_tk c j = 0
    · simp [kp_val, ht, kp_sI, kp_I, kp_u2]
    · simp only [kp_val, ht, and_false, if_false]
      rcases h1 : kp_tk c j with _ | _ | n
      · exact absurd h1 ht
      · rfl
      · rfl
  · have hf : ¬ kp_f c j = kp_f c k := fun h => hj (kp_f_inj h)
    simp only [hj, false_and, if_false, kp_val]
    rcases h1 : kp_tk c j with _ | _ | n
    · simp [kp_sI, kp_I, kp_u2, hf]
    · rfl
    · rfl
theorem kp_vJ {S : kp_S} {a c k j : Nat} {v : Int64} : kp_val (kp_sJ S (kp_f c k) a v) a c j = if j = k ∧ kp_tk c k = 1 then .long v else kp_val S a c j := by
  by_cases hj : j = k
  · subst hj
    by_cases ht : kp_tk c j = 1
    · simp [kp_val, ht, kp_sJ, kp_J, kp_u2]
    · simp only [kp_val, ht, and_false, if_false]
      rcases h1 : kp_tk c j with _ | _ | n
      · rfl
      · exact absurd h1 ht
      · rfl
  · have hf : ¬ kp_f c j = kp_f c k := fun h => hj (kp_f_inj h)
    simp only [hj, false_and, if_false, kp_val]
    rcases h1 : kp_tk c j with _ | _ | n
    · rfl
    · simp [kp_sJ, kp_J, kp_u2, hf]
    · rfl
theorem kp_vR {S : kp_S} {a c k j : Nat} {v : Nat} : kp_val (kp_sR S (kp_f c k) a v) a c j = if j = k ∧ 2 ≤ kp_tk c k then .ref v else kp_val S a c j := by
  by_cases hj : j = k
  · subst hj
    rcases h1 : kp_tk c j with _ | _ | n
    · simp only [kp_val, h1]; rfl
    · simp only [kp_val, h1]; rfl
    · simp [kp_val, h1, kp_sR, kp_R, kp_u2, va_rf]
  · have hf : ¬ kp_f c j = kp_f c k := fun h => hj (kp_f_inj h)
    simp only [hj, false_and, if_false, kp_val]
    rcases h1 : kp_tk c j with _ | _ | n
    · rfl
    · rfl
    · simp [kp_sR, kp_R, kp_u2, hf]
theorem kp_E_ne {cy : Nat → ClassId} {S T : kp_S} {b : Nat} (hK : kp_K T b = kp_K S b) (hN : kp_N T b = kp_N S b) (hA : kp_A T b = kp_A S b) (hB : kp_B T b = kp_B S b) (hC : kp_C T b = kp_C S b) (hI : ∀ j, kp_I T j b = kp_I S j b) (hJ : ∀ j, kp_J T j b = kp_J S j b) (hR : ∀ j, kp_R T j b = kp_R S j b) : kp_E cy T b = kp_E cy S b := by
  have hf : ∀ c, kp_fs T b c = kp_fs S b c := fun c => by
    simp only [kp_fs]
    apply List.map_congr_left
    intro k _
    simp only [kp_val, hI, hJ, hR]
  simp only [kp_E, hK, hN, hA, hB, hC, hf]
theorem kp_put_eq {cy : Nat → ClassId} {A : Nat → Prop} {S T : kp_S} {a q0 : Nat} {e : va_E} (hD : va_D A (kp_pl cy S)) (ha : a ∈ kp_L S) (hk : (kp_pl cy S)[q0]? = some (a, kp_E cy S a)) (hL : kp_L T = kp_L S) (he : kp_E cy T a = e) (ho : ∀ b, b ≠ a → kp_E cy T b = kp_E cy S b) : (kp_pl cy S).set q0 (a, e) = kp_pl cy T := by
  have h1 := va_pl_set (X := []) (e := e) hD ha hk
  rw [List.nil_append, List.nil_append] at h1
  unfold kp_pl
  rw [h1, hL]
  apply va_pl_congr
  intro b
  by_cases hb : b = a
  · subst hb; rw [va_up_self, he]
  · rw [va_up_ne _ _ hb, ho b hb]
theorem kp_get_at {cy : Nat → ClassId} {S : kp_S} {a : Nat} (ha : a ∈ kp_L S) : ∃ q0 : Nat, (kp_pl cy S)[q0]? = some (a, kp_E cy S a) := va_pl_get (X := []) ha
