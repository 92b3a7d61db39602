/-! WAYS: the class's bits and the reference's -/
def wf (o : Int32) (x : Nat) : Bool := if x < 3 then o.toBitVec.getLsbD x else if x < 17 then o.toBitVec.getLsbD (3 + 2 * (x - 3)) else if x < 20 then false else if x < 34 then o.toBitVec.getLsbD (4 + 2 * (x - 20)) else false
def wy (l : Nat) (o : Int32) (z : Int64) : Prop := (∀ x, x < 64 → z.toBitVec.getLsbD x = wf o x) ∧ ∀ x, 3 + 2 * l ≤ x → o.toBitVec.getLsbD x = false
section
variable {l : Nat} {o o' : Int32} {z z' : Int64}
set_option maxHeartbeats 200000 in
theorem wf_or {x : Nat} : wf (o ||| o') x = (wf o x || wf o' x) := by
  unfold wf
  rw [Int32.toBitVec_or]
  simp only [BitVec.getLsbD_or]
  split
  · rfl
  · split
    · rfl
    · split
      · rfl
      · split <;> rfl
set_option maxHeartbeats 200000 in
theorem wf_and {x : Nat} : wf (o &&& o') x = (wf o x && wf o' x) := by
  unfold wf
  rw [Int32.toBitVec_and]
  simp only [BitVec.getLsbD_and]
  split
  · rfl
  · split
    · rfl
    · split
      · rfl
      · split <;> rfl
set_option maxHeartbeats 200000 in
theorem wy_or (h : wy l o z) (h' : wy l o' z') : wy l (o ||| o') (z ||| z') := by
  refine ⟨fun x hx => ?_, fun x hx => ?_⟩
  · rw [wf_or, Int64.toBitVec_or, BitVec.getLsbD_or, h.1 x hx, h'.1 x hx]
  · rw [Int32.toBitVec_or, BitVec.getLsbD_or, h.2 x hx, h'.2 x hx]; rfl
set_option maxHeartbeats 200000 in
theorem wy_and {l' : Nat} (h : wy l o z) (hm : ∀ x, (x < 17 ∨ 20 ≤ x ∧ x < 34) → z'.toBitVec.getLsbD x = wf o' x) (hb : ∀ x, 3 + 2 * l' ≤ x → x < 3 + 2 * l → o'.toBitVec.getLsbD x = false) : wy l' (o &&& o') (z &&& z') := by
  refine ⟨fun x hx => ?_, fun x hx => ?_⟩
  · rw [wf_and, Int64.toBitVec_and, BitVec.getLsbD_and, h.1 x hx]
    by_cases c : x < 17 ∨ 20 ≤ x ∧ x < 34
    · rw [hm x c]
    · have : wf o x = false := by
        unfold wf
        rw [if_neg (by omega), if_neg (by omega)]
        split
        · rfl
        · rw [if_neg (by omega)]
      rw [this]; rfl
  · rw [Int32.toBitVec_and, BitVec.getLsbD_and]
    by_cases c : x < 3 + 2 * l
    · rw [hb x hx c, Bool.and_false]
    · rw [h.2 x (by omega), Bool.false_and]
set_option maxHeartbeats 200000 in
theorem wy_le {l' : Nat} (h : wy l o z) (hl : l ≤ l') : wy l' o z := ⟨h.1, fun x hx => h.2 x (by omega)⟩
set_option maxHeartbeats 200000 in
theorem wy_c (h1 : ∀ x, x < 64 → z.toBitVec.getLsbD x = wf o x) (h2 : ∀ x, x < 32 → 3 ≤ x → o.toBitVec.getLsbD x = false) : wy l o z := ⟨h1, fun x hx => by
  by_cases c : x < 32
  · exact h2 x c (by omega)
  · exact BitVec.getLsbD_of_ge _ _ (by omega)⟩
set_option maxHeartbeats 200000 in
theorem wy_k : wy l 0 0 ∧ wy l 1 1 ∧ wy l 2 2 ∧ wy l 4 4 ∧ wy l 5 5 := ⟨wy_c (by decide) (by decide), wy_c (by decide) (by decide), wy_c (by decide) (by decide), wy_c (by decide) (by decide), wy_c (by decide) (by decide)⟩
set_option maxHeartbeats 200000 in
theorem b0_32 : (o &&& 1 = 0) ↔ o.toBitVec.getLsbD 0 = false := by
  constructor
  · intro h
    have := congrArg (fun y : Int32 => y.toBitVec.getLsbD 0) h
    simp only [Int32.toBitVec_and, BitVec.getLsbD_and] at this
    have e1 : (1 : Int32).toBitVec.getLsbD 0 = true := by decide
    have e0 : (0 : Int32).toBitVec.getLsbD 0 = false := by decide
    rw [e1, e0, Bool.and_true] at this; exact this
  · intro h
    apply Int32.toBitVec_inj.1
    apply BitVec.eq_of_getLsbD_eq
    intro x hx
    rw [Int32.toBitVec_and, BitVec.getLsbD_and]
    by_cases c : x = 0
    · rw [c, h]; decide
    · have e : ∀ y, y < 32 → y ≠ 0 → (1 : Int32).toBitVec.getLsbD y = false ∧ (0 : Int32).toBitVec.getLsbD y = false := by decide
      rw [(e x hx c).1, (e x hx c).2, Bool.and_false]
set_option maxHeartbeats 200000 in
theorem b0_64 : (z &&& 1 = 0) ↔ z.toBitVec.getLsbD 0 = false := by
  constructor
  · intro h
    have := congrArg (fun y : Int64 => y.toBitVec.getLsbD 0) h
    simp only [Int64.toBitVec_and, BitVec.getLsbD_and] at this
    have e1 : (1 : Int64).toBitVec.getLsbD 0 = true := by decide
    have e0 : (0 : Int64).toBitVec.getLsbD 0 = false := by decide
    rw [e1, e0, Bool.and_true] at this; exact this
  · intro h
    apply Int64.toBitVec_inj.1
    apply BitVec.eq_of_getLsbD_eq
    intro x hx
    rw [Int64.toBitVec_and, BitVec.getLsbD_and]
    by_cases c : x = 0
    · rw [c, h]; decide
    · have e : ∀ y, y < 64 → y ≠ 0 → (1 : Int64).toBitVec.getLsbD y = false ∧ (0 : Int64).toBitVec.getLsbD y = false := by decide
      rw [(e x hx c).1, (e x hx c).2, Bool.and_false]
set_option maxHeartbeats 200000 in
theorem wy_0 (h : wy l o z) : (o &&& 1 = 0) ↔ (z &&& 1 = 0) := by
  rw [b0_32, b0_64, h.1 0 (by omega)]; rfl
set_option maxHeartbeats 200000 in
theorem wy_n2 (h : wy l o z) : wy l (o &&& (-2)) (z &&& (-2)) := wy_and h (by
  have e : ∀ x, x < 34 → (x < 17 ∨ 20 ≤ x ∧ x < 34) → (-2 : Int64).toBitVec.getLsbD x = wf (-2) x := by decide
  exact fun x hx => e x (by omega) hx) (fun x h1 h2 => absurd h1 (by omega))
end
/-! STATEMENTS, read by both -/
def lsO (A : Nat → Nat × Nat) (b : Nat) : Nat → List (Nat × Nat)
  | 0 => []
  | t + 1 => A (b + t) :: lsO A b t
abbrev rd_Y : Type := List (Nat × Nat × Int32 × Nat × Nat × Nat)
def lok (T : co_T) (XL : Int32 → Int32 → Int32 → Prop) (y : Nat × Nat × Int32 × Nat × Nat × Nat) : Prop := co_c T (y.1 + 1) y.2.2.1 ∧ 1 ≤ y.2.2.2.2.2 ∧ y.2.2.2.2.2 ≤ 14 ∧ y.2.2.2.1 < 6016 ∧ dv_S T XL y.2.2.2.2.2 [] (y.1 + 5) y.2.2.2.1 y.2.1 y.2.2.2.2.1 ∧ co_c T y.2.2.2.1 54 ∧ co_r T 0 y.2.2.2.2.1 48
def zB (g : rd_G) (n i p q c d s : Nat) : Prop := z0 g i p q c ∧ 5 * d ≤ tka g i + 12 + n ∧ 2 * s ≤ tka g i + 10
def z1 (g : rd_G) (n i p q c d s : Nat) : Prop := z0 g i p q c ∧ 5 * d ≤ tka g i + 10 + n ∧ 2 * s ≤ tka g i + 10
/-- the ways of laters -/
def wl (A : rd_A) : Prop := wy 0 A.2.1 (A.2.2.1 &&& 6)
abbrev rd_D : Type := co_T → (Int32 → Int32 → Int32 → Prop) → Nat → List (Nat × Nat) → Nat → Nat → Nat → Nat → Prop
def SQ (DV : rd_D) (g : rd_G) (nu i n p : Nat) (C : Nat → Int32) (q d : Nat) (R : Nat → Nat → Int32) (K : rd_K) (k s l b : Nat) (A : rd_A) (e e' : Nat) (o : Int32) (z : Int64) (i1 p1 : Nat) (C1 : Nat → Int32) (q1 d1 : Nat) (r1 : Int32) (R1 : Nat → Nat → Int32) (K1 : rd_K) (k1 s1 : Nat) (A1 : rd_A) (e1 e1' : Nat) (Y : rd_Y) (v w : q_V) : Prop :=
  St g i1 n p1 C1 i1 n q1 d1 r1 R1 K1 k1 s1 l b A1 e1 e1' v w ∧ (i < i1 ∧ p1 + 2 * tka g i ≤ p + 2 * tka g i1 ∧ q1 + tka g i ≤ q + tka g i1 ∧ 3 * K1.length + tka g i ≤ 3 * K.length + tka g i1 ∧ 5 * d1 + tka g i ≤ 5 * d + tka g i1 ∧ 2 * s1 + tka g i ≤ 2 * s + tka g i1 ∧ p ≤ p1 ∧ q ≤ q1 ∧ d ≤ d1 ∧ s ≤ s1 ∧ k ≤ k1) ∧ ((∀ x, x < p → C1 x = C x) ∧ (∀ j x, j < 3 → x < q → R1 j x = R j x) ∧ (∀ j x, 3 ≤ j → x < d → R1 j x = R j x) ∧ ∃ t, K1 = t ++ K) ∧ (∀ m, i ≤ m → m < i1 → tkc g m ≠ 300) ∧ (A1.1 = A.1 ∧ wy l o z ∧ (wl A → wl A1)) ∧ (e1 ≤ e ∧ e1' ≤ e') ∧ ov g i1 s1 e1 e1' ∧ (∀ x, q ≤ x → x < q1 → R1 0 x = 41 → R1 1 x ≠ -1) ∧ ∀ T XL, hT g T → ag g T C1 R1 K1 p p1 q q1 d d1 → e1 = rd_N → (∀ y, y ∈ Y → XL (nI y.1) (nI y.2.1) y.2.2.1) → DV T XL nu (lsO A.1 b (l - b)) p p1 q q1 ∧ ∀ y, y ∈ Y → lok T XL y
def SP (DV : rd_D) (g : rd_G) (nu i n p : Nat) (C : Nat → Int32) (q d : Nat) (R : Nat → Nat → Int32) (K : rd_K) (k s l b : Nat) (A : rd_A) (e e' : Nat) (o : Int32) (v : q_V) (z : Int64) (w : q_V) : Prop := ∃ i1 p1 C1 q1 d1 r1 R1 K1 k1 s1 A1 e1 e1' Y, SQ DV g nu i n p C q d R K k s l b A e e' o z i1 p1 C1 q1 d1 r1 R1 K1 k1 s1 A1 e1 e1' Y v w
/-- a statement's tail, with room for its own order -/
def SPT (g : rd_G) (n i p : Nat) (C : Nat → Int32) (q d : Nat) (R : Nat → Nat → Int32) (K : rd_K) (k s l b : Nat) (A : rd_A) (e e' : Nat) (o : Int32) (v : q_V) (z : Int64) (w : q_V) : Prop := ∃ i1 p1 C1 q1 d1 r1 R1 K1 k1 s1 A1 e1 e1' Y, SQ dv_T g n i n p C q d R K k s l b A e e' o z i1 p1 C1 q1 d1 r1 R1 K1 k1 s1 A1 e1 e1' Y v w ∧ p1 + 2 * tka g i + 2 ≤ p + 2 * tka g i1 ∧ q1 + tka g i + 1 ≤ q + tka g i1
/-- the loops around stand ahead -/
def LB (A : rd_A) (l p d : Nat) : Prop := ∀ j, j < l → (A.1 j).1 < p ∧ (A.1 j).2 < d
set_option maxHeartbeats 200000 in
theorem LB_m {A A' : rd_A} {l p d p' d' : Nat} (h : LB A l p d) (hA : A'.1 = A.1) (h1 : p ≤ p') (h2 : d ≤ d') : LB A' l p' d' := fun j hj => by
  have := h j hj
  rw [hA]; omega
/-- a block -/
def BS (g : rd_G) (n : Nat) (B : q_V → Option (Int32 × q_V)) (B' : q_V → Option (Int64 × q_V)) : Prop := ∀ i p C q d r R K k s l b A e e' v w, St g i n p C i n q d r R K k s l b A e e' v w → zB g n i p q K.length d s → ov g i s e e' → (l ≤ n ∧ LB A l p d) → jn g l (3300 + 20 * (14 - n)) (fun o v z w => ∃ i1 p1 C1 q1 d1 r1 R1 K1 s1 A1 e1 e1' Y, SQ dv_S g (n + 1) i n p C q d R K k s l b A e e' o z i1 p1 C1 q1 d1 r1 R1 K1 k s1 A1 e1 e1' Y v w ∧ tkc g i = 123 ∧ n < 14 ∧ p1 + 2 * tka g i + 4 ≤ p + 2 * tka g i1 ∧ q1 + tka g i + 2 ≤ q + tka g i1 ∧ 3 * K1.length + tka g i + 2 ≤ 3 * K.length + tka g i1 ∧ 5 * d1 + tka g i + 2 ≤ 5 * d + tka g i1 ∧ 2 * s1 + tka g i + 2 ≤ 2 * s + tka g i1) (B v) (B' w)
/-- a statement's reading, behind its STATEMENT order -/
def TS (g : rd_G) (n i : Nat) (F : q_V → Option (Int32 × q_V)) (F' : q_V → Option (Int64 × q_V)) : Prop := ∀ p C q d R K k s l b A e e' v w, St g i n p C i n q d 0 R K k s l b A e e' v w → z1 g n i p q K.length d s → ov g i s e e' → (l + 1 ≤ n ∧ LB A l p d) → jn g l (3300 + 20 * (15 - n)) (SPT g n i p C q d R K k s l b A e e') (F v) (F' w)
