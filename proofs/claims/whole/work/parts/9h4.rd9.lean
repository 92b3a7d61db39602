/-! E's, read by both -/
def ag (g : rd_G) (T : co_T) (C : Nat → Int32) (R : Nat → Nat → Int32) (K : rd_K) (p p' q q' d d' : Nat) : Prop :=
  (∀ x, p ≤ x → x < p' → x < T.2.1 ∧ T.1 x = C x) ∧ (∀ x, q ≤ x → x < q' → x < 4000 ∧ T.2.2.1 0 x = R 0 x ∧ T.2.2.1 2 x = R 2 x ∧ (R 0 x ≠ 19 → T.2.2.1 1 x = R 1 x)) ∧ (∀ x, d ≤ x → x < d' → x < 640 ∧ ∀ j, 3 ≤ j → j < 9 → T.2.2.1 j x = R j x) ∧ (∀ m, m ∈ K → T.2.2.1 1 m.2.2.2 = nI (fdn g m.1))
def hT (g : rd_G) (T : co_T) : Prop := ∀ d, d < gd g → ∃ k pe qe, gp g d = nI k ∧ k ≤ 8 ∧ T.2.2.2 d = some (k, pe, qe)
def z0 (g : rd_G) (i p q c : Nat) : Prop := p ≤ 2 * tka g i + 10 ∧ q ≤ tka g i + 10 ∧ 3 * c ≤ tka g i + 10
def EQ (g : rd_G) (i n p : Nat) (C : Nat → Int32) (q d : Nat) (r : Int32) (R : Nat → Nat → Int32) (K : rd_K) (k s l b : Nat) (A : rd_A) (e e' hb : Nat) (a : Int32) (i1 p1 : Nat) (C1 : Nat → Int32) (q1 : Nat) (r1 : Int32) (R1 : Nat → Nat → Int32) (K1 : rd_K) (e1 e1' : Nat) (v w : q_V) : Prop :=
  St g i1 n p1 C1 i1 n q1 d r1 R1 K1 k s l b A e1 e1' v w ∧ (i < i1 ∧ p1 + 2 * tka g i ≤ p + 2 * tka g i1 ∧ q1 + tka g i ≤ q + tka g i1 ∧ 3 * K1.length + tka g i ≤ 3 * K.length + tka g i1 ∧ p ≤ p1 ∧ q ≤ q1) ∧ ((∀ x, x < p → C1 x = C x) ∧ (∀ j x, j < 3 → x < q → R1 j x = R j x) ∧ (∀ j, 3 ≤ j → R1 j = R j) ∧ ∃ t, K1 = t ++ K) ∧ (∀ m, i ≤ m → m < i1 → tkc g m ≠ 300) ∧ ((a = 0 ∨ a = 1 ∨ a = 2) ∧ (a = 2 ↔ pln g i i1) ∧ r1 = (if a = 1 then 1 else r)) ∧ (e1 ≤ e ∧ e1' ≤ e') ∧ (∀ x, q ≤ x → x < q1 → R1 0 x < 30) ∧ ∀ T XL, hT g T → ag g T C1 R1 K1 p p1 q q1 d d → e1 = rd_N → dv_A T XL 1 hb p p1 q q1
def EP (g : rd_G) (i n p : Nat) (C : Nat → Int32) (q d : Nat) (r : Int32) (R : Nat → Nat → Int32) (K : rd_K) (k s l b : Nat) (A : rd_A) (e e' hb : Nat) (a : Int32) (v : q_V) (_ : Unit) (w : q_V) : Prop := ∃ i1 p1 C1 q1 r1 R1 K1 e1 e1', EQ g i n p C q d r R K k s l b A e e' hb a i1 p1 C1 q1 r1 R1 K1 e1 e1' v w
/-- a reading of E's -/
def US (g : rd_G) (n hb Bd : Nat) (U : q_V → Option (Int32 × q_V)) (U' : q_V → Option q_V) : Prop := ∀ i p C q d r R K k s l b A e e' v w, St g i n p C i n q d r R K k s l b A e e' v w → z0 g i p q K.length → ov g i s e e' → (r = 0 ∨ r = 1) → jn g l Bd (EP g i n p C q d r R K k s l b A e e' hb) (U v) (vu (U' w))
section
variable {g : rd_G} {i n p i' n' q d k s l b e e' : Nat} {C : Nat → Int32} {r : Int32} {R : Nat → Nat → Int32} {K : rd_K} {A : rd_A} {v w : q_V} {T : co_T} {XL : Int32 → Int32 → Int32 → Prop}
set_option maxHeartbeats 200000 in
theorem tk_ne {j : Nat} (ok : rd_ok g) (h : j < gm g) : tkc g j ≠ 261 ∧ tkc g j ≠ 262 := ok.2.2.1.1 j h
set_option maxHeartbeats 200000 in
theorem tka_s (ok : rd_ok g) (h : tkc g i ≠ 261) : tka g i < tka g (i + 1) := by
  have := tk_nx (kw := kw_c) (i := i) ok.1 ok.2.1 h
  unfold tka; omega
set_option maxHeartbeats 200000 in
theorem tka_lt (ok : rd_ok g) : ∀ {j i : Nat}, i < j → j ≤ gm g → tka g i < tka g j := by
  intro j
  induction j with
  | zero => intro i h; omega
  | succ j ih =>
    intro i h1 h2
    have h3 := tka_s ok (tk_ne ok (show j < gm g by omega)).1
    by_cases c : i = j
    · rw [c]; exact h3
    · have := ih (i := i) (by omega) (by omega); omega
set_option maxHeartbeats 200000 in
theorem ov_m {j e1 e1' : Nat} (ok : rd_ok g) (h : ov g i s e e') (hj : i ≤ j) (hm : j ≤ gm g) (h1 : e1 ≤ e) (h2 : e1' ≤ e') : ov g j s e1 e1' := by
  intro z
  obtain ⟨o, o1, o2, o3⟩ := h z
  refine ⟨o, ?_, by omega, by omega⟩
  by_cases c : i = j
  · rw [← c]; exact o1
  · have := tka_lt ok (show i < j by omega) hm; omega
set_option maxHeartbeats 200000 in
theorem St_im (h : St g i n p C i' n' q d r R K k s l b A e e' v w) : i ≤ gm g ∧ i' ≤ gm g := ⟨h.2.2.1.2.2.2.2.2.2.2.1, h.2.2.2.2.1.2.2.2.1⟩
set_option maxHeartbeats 200000 in
theorem St_n (h : St g i n p C i' n' q d r R K k s l b A e e' v w) : n ≤ 14 := h.2.2.1.2.2.2.2.2.2.2.2
set_option maxHeartbeats 200000 in
theorem ag_c {p' q' d' x : Nat} (h : ag g T C R K p p' q q' d d') (h1 : p ≤ x) (h2 : x < p') : co_c T x (C x) := ⟨(h.1 x h1 h2).1, (h.1 x h1 h2).2⟩
set_option maxHeartbeats 200000 in
theorem ag_r0 {p' q' d' x : Nat} (h : ag g T C R K p p' q q' d d') (h1 : q ≤ x) (h2 : x < q') : co_r T 0 x (R 0 x) := ⟨(h.2.1 x h1 h2).1, (h.2.1 x h1 h2).2.1⟩
set_option maxHeartbeats 200000 in
theorem ag_r2 {p' q' d' x : Nat} (h : ag g T C R K p p' q q' d d') (h1 : q ≤ x) (h2 : x < q') : co_r T 2 x (R 2 x) := ⟨(h.2.1 x h1 h2).1, (h.2.1 x h1 h2).2.2.1⟩
set_option maxHeartbeats 200000 in
theorem ag_r1 {p' q' d' x : Nat} (h : ag g T C R K p p' q q' d d') (h1 : q ≤ x) (h2 : x < q') (h3 : R 0 x ≠ 19) : co_r T 1 x (R 1 x) := ⟨(h.2.1 x h1 h2).1, (h.2.1 x h1 h2).2.2.2 h3⟩
set_option maxHeartbeats 200000 in
theorem ag_E {C' : Nat → Int32} {R' : Nat → Nat → Int32} {K' : rd_K} {p1 p2 q1 q2 p' q' d' : Nat} (h : ag g T C' R' K' p p' q q' d d') (h1 : p ≤ p1) (h2 : p2 ≤ p') (h3 : q ≤ q1) (h4 : q2 ≤ q') (hC : ∀ x, p1 ≤ x → x < p2 → C' x = C x) (hR : ∀ j x, j < 3 → q1 ≤ x → x < q2 → R' j x = R j x) (hK : ∀ m, m ∈ K → m ∈ K') : ag g T C R K p1 p2 q1 q2 d d := by
  refine ⟨fun x a1 a2 => ?_, fun x a1 a2 => ?_, fun x a1 a2 => absurd a1 (by omega), fun m hm => h.2.2.2 m (hK m hm)⟩
  · rw [← hC x a1 a2]; exact h.1 x (by omega) (by omega)
  · rw [← hR 0 x (by omega) a1 a2, ← hR 1 x (by omega) a1 a2, ← hR 2 x (by omega) a1 a2]; exact h.2.1 x (by omega) (by omega)
set_option maxHeartbeats 200000 in
theorem dv_hb {hb hb' p' q' : Nat} (h : dv_A T XL 1 hb p p' q q') (hh : hb ≤ hb') : dv_A T XL 1 hb' p p' q q' := fun Fin a S f0 H => ru_SNOC (m := 0) ru_NIL (h Fin a S f0 H) (by omega)
set_option maxHeartbeats 200000 in
theorem dv_2 {hb hb1 hb2 p1 p2 q1 q2 : Nat} (h1 : dv_A T XL 1 hb1 p p1 q q1) (h2 : dv_A T XL 1 hb2 p1 p2 q1 q2) (hh : hb1 ≤ hb) (hh2 : hb2 + 1 ≤ hb) : dv_A T XL 2 hb p p2 q q2 := fun Fin a S f0 H => ru_SNOC (m := 1) ((dv_hb h1 hh) Fin a S f0 H) (h2 Fin a S f0 H) (by omega)
set_option maxHeartbeats 200000 in
theorem rE_0 {o a c : Int32} : rE R q o a c 0 = upd (R 0) q o := rfl
set_option maxHeartbeats 200000 in
theorem rE_1 {o a c : Int32} : rE R q o a c 1 = upd (R 1) q a := rfl
set_option maxHeartbeats 200000 in
theorem rE_2 {o a c : Int32} : rE R q o a c 2 = upd (R 2) q c := rfl
set_option maxHeartbeats 200000 in
theorem rE_j {j : Nat} {o a c : Int32} (h : 3 ≤ j) : rE R q o a c j = R j := by unfold rE; rw [if_neg (by omega), if_neg (by omega), if_neg (by omega)]
set_option maxHeartbeats 200000 in
theorem rE_x {j x : Nat} {o a c : Int32} (h : x ≠ q) : rE R q o a c j x = R j x := by
  unfold rE
  split
  · rename_i z; rw [upd_ne h, z]
  · split
    · rename_i z; rw [upd_ne h, z]
    · split
      · rename_i z; rw [upd_ne h, z]
      · rfl
set_option maxHeartbeats 200000 in
/-- one token that is an E by itself: how both note it -/
theorem u_leaf {o a0 a : Int32} {v1 w1 : q_V} (ok : rd_ok g) (h : St g (i + 1) n (p + 1) (upd C p o) (i + 1) n (q + 1) d r (rE R q a0 0 0) K k s l b A e e' v1 w1) (h3 : tkc g i ≠ 300) (ha : a = 0) (hp : ¬ pln g i (i + 1)) (ha0 : a0 < 30) (H : ∀ T XL, co_c T p o → co_r T 0 q a0 → dv_A T XL 1 1 p (p + 1) q (q + 1)) {hb : Nat} (hhb : 1 ≤ hb) : EP g i n p C q d r R K k s l b A e e' hb a v1 () w1 := by
  have hm := (St_im h).1
  have ht := tka_lt ok (show i < i + 1 by omega) hm
  refine ⟨i + 1, p + 1, _, q + 1, r, _, K, e, e', h, ⟨by omega, by omega, by omega, by omega, by omega, by omega⟩, ⟨fun x hx => upd_ne (by omega), fun j x hj hx => rE_x (by omega), fun j hj => rE_j hj, [], rfl⟩, fun m h1 h2 => ?_, ⟨Or.inl ha, ?_, by rw [if_neg (by rw [ha]; decide)]⟩, ⟨Nat.le_refl _, Nat.le_refl _⟩, fun x h1 h2 => ?_, fun T XL _ g1 _ => ?_⟩
  · have : m = i := by omega
    rw [this]; exact h3
  · rw [ha]; exact ⟨fun z => absurd z (by decide), fun z => absurd z hp⟩
  · rw [show x = q by omega, rE_0, upd_at]; exact ha0
  · have c0 := ag_c g1 (Nat.le_refl p) (by omega)
    have r0 := ag_r0 g1 (Nat.le_refl q) (by omega)
    rw [upd_at] at c0
    rw [rE_0, upd_at] at r0
    exact dv_hb (H T XL c0 r0) hhb
set_option maxHeartbeats 200000 in
theorem pln_no {a c : Nat} (h : a < c) (h1 : tkc g a ≠ 40) (h2 : tkc g a ≠ 260) (h3 : tkc g a ≠ 41) : ¬ pln g a c := fun z => by
  rcases pln_k z a (Nat.le_refl _) h with y | y | y
  · exact h1 y
  · exact h2 y
  · exact h3 y
end
