/-- what a piece may rest on: the ends of the run, and calls and laters with fewer steps left -/
def dv_H (Fin : q_V → q_V → Prop) (a : ru_P) (S : Nat) (T : co_T) (XL : Int32 → Int32 → Int32 → Prop) (f0 : Nat) : Prop :=
  ru_O Fin a T ∧ f0 ≤ 20000 ∧ ∀ S', S' < S → ru_HC Fin (ru_at a S') T XL f0
/-- pieces whose doing agrees: E's, statements and blocks, tails of statements -/
def dv_A (T : co_T) (XL : Int32 → Int32 → Int32 → Prop) (m hb p p' q q' : Nat) : Prop := ∀ Fin a S f0, dv_H Fin a S T XL f0 → ru_SA Fin (ru_at a S) T XL f0 m hb p p' q q'
def dv_S (T : co_T) (XL : Int32 → Int32 → Int32 → Prop) (nu : Nat) (L : List (Nat × Nat)) (p p' q q' : Nat) : Prop := ∀ Fin a S f0, dv_H Fin a S T XL f0 → ru_SS Fin (ru_at a S) T XL f0 nu L p p' q q'
def dv_T (T : co_T) (XL : Int32 → Int32 → Int32 → Prop) (nu : Nat) (L : List (Nat × Nat)) (p p' q q' : Nat) : Prop := ∀ Fin a S f0, dv_H Fin a S T XL f0 → ru_ST Fin (ru_at a S) T XL f0 nu L p p' q q'
/-- every duty's block and every later's block -/
def dv_D (T : co_T) (XL : Int32 → Int32 → Int32 → Prop) : Prop := ∀ d k pe qe, T.2.2.2 d = some (k, pe, qe) → ∃ pe' qe', pe' < 6016 ∧ dv_S T XL 1 [] pe pe' qe qe' ∧ co_c T pe' 54 ∧ co_r T 0 qe' 48
def dv_L (T : co_T) (XL : Int32 → Int32 → Int32 → Prop) : Prop := ∀ x y z, XL x y z → ∃ p q p2 q2 nu, x = nI p ∧ y = nI q ∧ co_c T (p + 1) z ∧ 1 ≤ nu ∧ nu ≤ 14 ∧ p2 < 6016 ∧ dv_S T XL nu [] (p + 5) p2 q q2 ∧ co_c T p2 54 ∧ co_r T 0 q2 48
section
variable {Fin : q_V → q_V → Prop} {a : ru_P} {T : co_T} {XL : Int32 → Int32 → Int32 → Prop} {f0 nu : Nat} {L : List (Nat × Nat)}
set_option maxHeartbeats 200000 in
/-- all calls and laters agree, whatever steps are left -/
theorem dv_main (HO : ru_O Fin a T) (hf0 : f0 ≤ 20000) (hd : dv_D T XL) (hx : dv_L T XL) : ∀ S, ru_HC Fin (ru_at a S) T XL f0 := by
  intro S
  induction S using Nat.strongRecOn with
  | ind S ih =>
    have H : dv_H Fin a S T XL f0 := ⟨HO, hf0, ih⟩
    refine ⟨fun d k pe qe e => ?_, fun x y z hz => ?_⟩
    · obtain ⟨pe', qe', h1, h2, h3, h4⟩ := hd d k pe qe e
      exact ⟨pe', qe', h1, h2 Fin a S f0 H, h3, h4⟩
    · obtain ⟨p, q, p2, q2, nu, h1, h2, h3, h4, h5, h6, h7, h8, h9⟩ := hx x y z hz
      exact ⟨p, q, p2, q2, nu, h1, h2, h3, h4, h5, h6, h7 Fin a S f0 H, h8, h9⟩
set_option maxHeartbeats 200000 in
theorem dv_CALL {hb p p1 q q1 k d pe qe : Nat} (s1 : dv_A T XL k hb p p1 q q1) (h0 : 1 ≤ hb) (hkb : k ≤ hb) (hT : T.2.2.2 d = some (k, pe, qe)) (c0 : co_c T p1 53) (c1 : co_c T (p1 + 1) (nI d)) (r0 : co_r T 0 q1 19) (r1 : co_r T 1 q1 (nI d)) (r2 : co_r T 2 q1 (nI k)) : dv_A T XL 1 hb p (p1 + 2) q (q1 + 1) :=
  fun Fin a S f0 H => ru_CALL (fun _ _ => H.1) H.2.1 (s1 Fin a S f0 H) h0 hkb hT c0 c1 r0 r1 r2 H.2.2
/-- what is asked of the end of the run's own call -/
def ru_E0 (Fin : q_V → q_V → Prop) (a : ru_P) (T : co_T) : Prop :=
  ∀ (p h f np cl q g t cl' : Nat) (vc vr : q_V), ru_S T vc vr → ru_A vc vr → ru_Q vc vr → ru_H 0 vc → f ≤ 20000 → ru_we [] vc vr → q_i vc 814 = (if q_f vc 2000 168 = 4 then 3 else 0) → q_i vr 2513 = 0 →
    ∃ y vc' vr', fX4_perform_b154 a.1 a.2.1 a.2.2.1 a.2.2.2.1 (mC vc p h f np cl) = some (y, vc') ∧ fX12_run_b147 a.1 a.2.1 a.2.2.1 a.2.2.2.1 (mR vr q g f t cl') = some (y, vr') ∧ Fin vc' vr'
set_option maxHeartbeats 200000 in
theorem ru_ends {B : Nat} {y : Int32} {vc vr vc' vr' : q_V} (n1 : ¬ q_i vc 814 = -1) (n2 : q_i vr 2513 = 0) (n3 : ¬ q_i vr 2514 = 0) (x1 : fX4_perform_b154 a.1 a.2.1 a.2.2.1 a.2.2.2.1 vc = some (y, vc')) (x2 : fX12_run_b147 a.1 a.2.1 a.2.2.1 a.2.2.2.1 vr = some (y, vr')) (x3 : Fin vc' vr') : ru_G Fin a B vc vr := by
  intro s h1' hS h2 h3
  refine ⟨y, vc', vr', 1, ?_, ?_, x3⟩
  · unfold ru_C
    rw [fX4_perform_L112, if_neg n1]
    split <;> exact x1
  · unfold ru_R
    rw [fX12_run_L126, if_pos n2, if_neg n3]; exact x2
set_option maxHeartbeats 200000 in
theorem ru_i814 {v : q_V} {p h f np cl : Nat} : q_i (mC v p h f np cl) 814 = q_i v 814 := rfl
set_option maxHeartbeats 200000 in
theorem ru_i2513 {v : q_V} {p h f np cl : Nat} : q_i (mR v p h f np cl) 2513 = q_i v 2513 := rfl
set_option maxHeartbeats 200000 in
theorem ru_i2514 {v : q_V} {p h f np cl : Nat} : q_i (mR v p h f np cl) 2514 = q_i v 2514 := rfl
set_option maxHeartbeats 200000 in
theorem ru_EH0 {f1 rq : Nat} {rp : Int32} {vB wB : q_V} (HE : ru_E0 Fin a T) (hf1 : f1 ≤ 20000) (e2 : q_a wB 2502 (0 + 1) = nI rq) (e3 : q_a wB 2503 (0 + 1) = rp) : ru_EH Fin a T XL 1 f1 0 0 0 0 0 vB wB := by
  intro f p0 h0 q0 g0 p1 h1 q1 g1 v0 w0 v w hf e1 er a0 b0 D we K m0 m0' kf eg hl hv
  have r2 : q_a w 2502 (0 + 1) = nI rq := ((K.2.2.2.2.1 (0 + 1) (by omega)).1).trans e2
  have r3 : q_a w 2503 (0 + 1) = rp := ((K.2.2.2.2.1 (0 + 1) (by omega)).2).trans e3
  rw [rs_b31z (by omega) (by omega) (by omega) m0' r2 r3 eg, if_pos rfl] at er
  rw [cs_ecC] at e1
  have wz : ru_w (mC (q_si v 814 (if q_f v 2000 168 = 4 then 3 else 0)) p1 h1 f 0 0) = 0 := by
    unfold ru_w; rw [mC_805, mC_f, q_f_si, ni_clamp (by omega), show 0 - 1 = 0 from rfl, m0, ni_clamp (by omega)]
  have lz : ru_l (q_si v 814 (if q_f v 2000 168 = 4 then 3 else 0)) = ru_l v := ru_l_si
  refine ru_cgL (B1 := 40000 * f) ⟨a0, Or.inr ⟨b0, e1⟩⟩ (by rw [ru_l_mC, ru_l_mC, lz]; omega) (by rw [wz]; omega) (ru_dL (ru_lz er rfl (by omega) ?_))
  have D2 : ru_D T XL 0 0 0 v (ru_ez w 0 rp 0) := ru_D_ez D
  have S2 : ru_S T (q_si v 814 (if q_f v 2000 168 = 4 then 3 else 0)) (ru_ez w 0 rp 1) := ru_S_e2 D2.1 (by rw [q_a_si]) (by rw [q_a_si]) (by rw [q_i_si, if_neg (by omega)]) (by rw [q_i_si, if_neg (by omega)]) rfl (fun j _ _ => by rw [ez_a, ez_a])
  have A2 : ru_A (q_si v 814 (if q_f v 2000 168 = 4 then 3 else 0)) (ru_ez w 0 rp 1) := ru_A_e2 D2.2.1 (fun j _ _ => by rw [q_a_si]) (fun j _ _ => by rw [ez_a, ez_a])
  have Q2 : ru_Q (q_si v 814 (if q_f v 2000 168 = 4 then 3 else 0)) (ru_ez w 0 rp 1) := ru_Q_e2 D2.2.2.1 (fun j _ _ => by rw [q_a_si]) (fun j _ _ => by rw [ez_a, ez_a]) (fun k hk => by rw [ez_i (by omega) (by omega), ez_i (by omega) (by omega)])
  have H2 : ru_H 0 (q_si v 814 (if q_f v 2000 168 = 4 then 3 else 0)) := fun k hk => by rw [q_a_si]; exact D.2.2.2.2.2 k hk
  have we2 : ru_we [] (q_si v 814 (if q_f v 2000 168 = 4 then 3 else 0)) (ru_ez w 0 rp 1) := by
    unfold ru_we ru_wl at we ⊢
    rw [q_f_si, ez_i (by omega) (by omega), ez_i (by omega) (by omega), ez_i (by omega) (by omega), ez_i (by omega) (by omega), ez_i (by omega) (by omega), ez_i (by omega) (by omega)]
    exact we
  obtain ⟨y, vc', vr', x1, x2, x3⟩ := HE p1 h1 f 0 0 q1 g1 0 0 _ _ S2 A2 Q2 H2 (by omega) we2 (by rw [q_i_si, if_pos rfl, q_f_si]) (by rw [ez_i (by omega) (by omega)]; exact D.2.2.2.2.1.2.2.2.1)
  refine ru_ends ?_ ?_ ?_ x1 x2 x3
  · rw [ru_i814, q_i_si, if_pos rfl]
    split <;> decide
  · rw [ru_i2513, ez_i (by omega) (by omega)]; exact D.2.2.2.2.1.2.2.2.1
  · rw [ru_i2514]; unfold ru_ez; rw [q_i_si, if_pos rfl]; decide
set_option maxHeartbeats 200000 in
/-- the run's own call, from its first order to the end of the run -/
theorem ru_TOP {f k d pe qe rq S : Nat} {rp : Int32} {v w : q_V} (HE : ru_E0 Fin a T) (hf : f ≤ f0) (hf0 : f0 ≤ 20000) (HC : ∀ S', S' ≤ S → ru_HC Fin (ru_at a S') T XL f0) (hT : T.2.2.2 d = some (k, pe, qe)) (D : ru_D T XL 1 1 1 v w) (V : ru_V v w) (a0 : q_f v 1200 0 = 53) (a1 : q_f v 1201 0 = 0) (a3 : q_f v 1203 0 = nI 0) (a7 : q_f v 1207 0 = ru_z w 0) (H : ru_H 0 v)
    (o8 : q_a w 2488 0 = 1) (o9 : q_a w 2489 0 = 6) (o1 : q_a w 2491 0 = 0) (o2 : q_a w 2492 0 = nI 0) (e2 : q_a w 2502 (0 + 1) = nI rq) (e3 : q_a w 2503 (0 + 1) = rp) : ∃ pe', pe' < 6016 ∧ ru_G Fin (ru_at a S) (40000 * f + 1 + 4 * (pe' + 1 - pe)) (mC v pe 0 f 1 1) (mR w qe 0 f 1 1) := by
  obtain ⟨pe', qe', x1, x2, x3, x4⟩ := (HC S (Nat.le_refl _)).1 d k pe qe hT
  refine ⟨pe', x1, ?_⟩
  have bd : ru_bd 1 f f0 0 0 (0 + 1) (0 + 1) (0 + 1) := ⟨hf, hf0, by omega, by omega, by omega, by omega, by omega, by omega, by omega, by omega⟩
  refine ru_BODY (a := ru_at a S) x2 x3 x4 D V bd ?_
  intro f' p'' h'' q'' g'' v' w' d' we pex hf' K'
  refine ru_EXIT (a := a) (cE := 1) (by omega) bd a0 a3 a7 H S (fun S' hS => (HC S' (by omega)).2) (fun S' hS => ru_EH0 (a := ru_at a S') HE (by omega) e2 e3) f' p'' h'' q'' g'' v' w' hf' ?_
  refine ⟨d', we, ⟨fun m n x y => K'.1 m n x (by omega), K'.2.1, fun j n x y z => K'.2.2.1 j n x y (by omega), K'.2.2.2.1, K'.2.2.2.2.1, K'.2.2.2.2.2.1, K'.2.2.2.2.2.2⟩, fun m y1 y2 y3 => K'.1 m 0 y1 (by omega), ?_, ?_, Or.inl ⟨?_, ?_, ?_⟩⟩
  · exact ((K'.2.2.1 2488 0 (by omega) (by omega) (by omega)).1).trans o8
  · exact ((K'.2.2.1 2492 0 (by omega) (by omega) (by omega)).1).trans o2
  · exact (K'.1 1201 0 (by omega) (by omega)).trans a1
  · exact ((K'.2.2.1 2489 0 (by omega) (by omega) (by omega)).1).trans o9
  · exact ((K'.2.2.1 2491 0 (by omega) (by omega) (by omega)).1).trans o1
end
