section
variable {g : rd_G} {i n p i' n' q d k s l b e e' : Nat} {C : Nat → Int32} {r : Int32} {R : Nat → Nat → Int32} {K : rd_K} {A : rd_A} {v w : q_V} {T : co_T} {XL : Int32 → Int32 → Int32 → Prop}
variable {B : q_V → Option (Int32 × q_V)} {B' : q_V → Option (Int64 × q_V)}
set_option maxHeartbeats 200000 in
theorem and_n2 {o : Int32} (h : o &&& 1 = 0) : o &&& (-2) = o := by
  rw [b0_32] at h
  apply Int32.toBitVec_inj.1
  apply BitVec.eq_of_getLsbD_eq
  intro x hx
  rw [Int32.toBitVec_and, BitVec.getLsbD_and]
  have e : ∀ y, y < 32 → y ≠ 0 → (-2 : Int32).toBitVec.getLsbD y = true := by decide
  by_cases c : x = 0
  · rw [c, h]; rfl
  · rw [e x hx c, Bool.and_true]
set_option maxHeartbeats 200000 in
theorem x_always {f p : Int32} {x y : Int32} (h : xc g f p l v) : cG g f p l (fX8_alwaysPart B x y v) := by
  unfold fX8_alwaysPart
  rw [if_neg (by rw [h.2.1]; decide)]; exact cG_s h
set_option maxHeartbeats 200000 in
theorem y_always {f p : Int32} {Bd : Nat} {x : Int32} {y : Int64} (h : xr g f p Bd w) : rG g f p Bd (fX12_always B' x y w) := by
  obtain ⟨w', e1, h'⟩ := y_skip (x := 27) h
  unfold fX12_always
  rw [e1, q_bd_s, if_pos rfl]; exact rG_s h'
/-- what an always part leaves -/
def AW (g : rd_G) (i n p : Nat) (C : Nat → Int32) (q d : Nat) (r : Int32) (R : Nat → Nat → Int32) (K : rd_K) (k s l b : Nat) (A : rd_A) (e e' at_ dd : Nat) (ah : Int32) (ah' : Int64) (o : Int32) (v : q_V) (z : Int64) (w : q_V) : Prop :=
  (tkc g i ≠ 317 ∧ o = ah ∧ z = ah' ∧ St g i n p C i n q d r R K k s l b A e e' v w) ∨ ∃ i1 p2 C2 q2 d2 r2 R2 K2 s2 A2 e2 e2' Y o2 z2 v2 w2, SQ dv_S g (n + 1) (i + 1) n p (upd C (at_ + 4) (nI p)) q d (rO R 4 dd (nI q)) K k s l b A e e' o2 z2 i1 p2 C2 q2 d2 r2 R2 K2 k s2 A2 e2 e2' Y v2 w2 ∧ (p2 + 2 * tka g (i + 1) + 4 ≤ p + 2 * tka g i1 ∧ q2 + tka g (i + 1) + 2 ≤ q + tka g i1 ∧ 3 * K2.length + tka g (i + 1) + 2 ≤ 3 * K.length + tka g i1 ∧ 5 * d2 + tka g (i + 1) + 2 ≤ 5 * d + tka g i1 ∧ 2 * s2 + tka g (i + 1) + 2 ≤ 2 * s + tka g i1) ∧ tkc g i = 317 ∧ wy l o z ∧ St g i1 n (p2 + 1) (upd C2 p2 54) i1 n (q2 + 1) d2 r2 (rE R2 q2 48 0 0) K2 k s2 l b A2 e2 e2' v w
set_option maxHeartbeats 200000 in
theorem j_always {at_ dd : Nat} {ah : Int32} {ah' : Int64} (ok : rd_ok g) (hn2 : n ≤ 14) (hB : BS g n B B') (h : St g i n p C i n q d r R K k s l b A e e' v w) (z : z1 g n i p q K.length d s) (o : ov g i s e e') (hln : l ≤ n ∧ LB A l p d) (hat : at_ + 4 < p) (hdd : dd < d) (hw : wy l ah ah') :
    jn g l (3301 + 20 * (14 - n)) (AW g i n p C q d r R K k s l b A e e' at_ dd ah ah') (fX8_alwaysPart B (nI at_) ah v) (fX12_always B' (nI dd) ah' w) := by
  obtain ⟨z, zd, zs⟩ := z
  have zp := z0_p ok z
  have hL := ok.1
  have hig := (St_im h).1
  have ta0 := tka_L ok i
  have hl14 := h.2.2.2.2.2.1.2.2.2.1.2.2.1
  unfold fX8_alwaysPart fX12_always
  rw [c_kind h]
  by_cases c : tkc g i = 317
  · obtain ⟨v2, a2, s2⟩ := c_adv ok h (by rw [c]; decide) (by rw [c]; decide)
    obtain ⟨w2, b2, s3⟩ := r_skip (c := 317) (x := 27) ok s2 rfl (by decide) c (by decide) (by decide)
    have him := (St_im s3).1
    have t0 := tka_lt ok (show i < i + 1 by omega) him
    have ta1 := tka_L ok (i + 1)
    obtain ⟨z1, z2, z3⟩ := z
    obtain ⟨v4, a4, s4⟩ := c_set (a := at_ + 4) (y := nI p) ok s3 (by omega)
    have s5 := r_set (j := 4) (a := dd) (y := nI q) s4 (by omega)
    have JB := hB (i + 1) p _ q d r _ K k s l b A e e' v4 _ s5 ⟨⟨by omega, by omega, by omega⟩, by omega, by omega⟩ (ov_m ok o (by omega) him (Nat.le_refl _) (Nat.le_refl _)) hln
    have hd6 : dd < 640 := by omega
    rw [if_pos c, a2, q_bv_s, c_size s3, q_bd_s, show nI at_ + 4 = nI (at_ + 4) from ni_add (b := 4), a4, q_bv_s, b2, q_bd_s, if_neg (show ¬ (1 : Int32) = 0 by decide), if_neg (in6 hd6), ni_clamp (show dd < 2147483648 by omega), q_lt_s, s4.2.2.2.2.1.1.2.2.2.1]
    refine jn_dd JB (fun f p a v h => ?_) (fun f p a w h => ?_) ?_
    · exact cG_d (x_add ok h) (fun a v h => cG_i (fun _ => cG_s h) (fun _ => cG_i (fun _ => cG_s h) (fun _ => cG_s h)))
    · exact rG_d (y_emit (by omega) h) (fun a w h => rG_i (fun _ => rG_s (xr_le h (by omega))) (fun _ => rG_i (fun _ => rG_s (xr_le h (by omega))) (fun _ => rG_s (xr_le h (by omega)))))
    · intro o2 v6 z6 w6 X
      obtain ⟨i2, p2, C2, q2, d2, r2, R2, K2, s2', A2, e2, e2', Y, X, cB, n14, H⟩ := X
      have F0 := X.1
      have hi2 := (St_im F0).1
      have ta2 := tka_L ok i2
      have hwy := X.2.2.2.2.1.2.1
      obtain ⟨H1, H2, H3, H4, H5⟩ := H
      obtain ⟨v7, a7, s7⟩ := c_add (y := 54) ok F0 (by omega)
      obtain ⟨w8, b8, s8⟩ := r_emit (o := 48) (a := 0) (c := 0) s7 (by omega)
      rw [a7, q_bd_s, b8, q_bd_s, lg_z (wy_z hw hl14), lg_z (wy_0 hwy)]
      unfold fX8_alwaysPart_b76 fX12_always_b64
      have fin : ∀ oo zz, wy l oo zz → AW g i n p C q d r R K k s l b A e e' at_ dd ah ah' oo v7 zz w8 := fun oo zz hoo => Or.inr ⟨i2, p2, C2, q2, d2, r2, R2, K2, s2', A2, e2, e2', Y, o2, z6, v6, w6, X, ⟨H1, H2, H3, H4, H5⟩, c, hoo, s8⟩
      by_cases c0 : ah = 0
      · rw [if_pos c0, if_pos c0]; exact jn_qq (fin _ _ wy_k.1)
      · rw [if_neg c0, if_neg c0]
        by_cases c1 : o2 &&& 1 = 0
        · rw [if_pos c1, if_pos c1]
          refine jn_qq (fin _ _ ?_)
          have := wy_n2 hwy
          rw [and_n2 c1] at this
          rw [show (z6 &&& -2) ||| 0 = z6 &&& -2 from Int64.or_zero]; exact this
        · rw [if_neg c1, if_neg c1]
          exact jn_qq (fin _ _ (wy_or (wy_n2 hwy) hw))
  · rw [if_neg c, r_skipN (c := 317) (x := 27) ok h rfl (by decide) c, q_bd_s, if_pos rfl]
    exact jn_qq (Or.inl ⟨c, rfl, rfl, h⟩)
set_option maxHeartbeats 200000 in
/-- a loop is entered by both -/
theorem j_enter {x : Int64} {at_ dd : Nat} (h : St g i n p C i' n' q d r R K k s l b A e e' v w) (hl : l ≤ 13) : ∃ v', fX5_enterLoop x (nI at_) v = some v' ∧ St g i n p C i' n' q d r R K k s (l + 1) b (fun j => if j = l then (at_, dd) else A.1 j, A.2) e e' v' (q_si (q_sa (q_sb w 2443 (vp_updL (q_b w 2443) l x)) 2444 (upd (q_a w 2444) l (nI dd))) 2445 (nI (l + 1))) := by
  obtain ⟨f, F, t, B, Y, N, M⟩ := h
  have e9 := N.2.2.2.1.1
  have n3 : (nI l < 0) = False := ni_neg (by omega)
  have n4 : (14 ≤ l) = False := eq_false (by omega)
  refine ⟨q_si (q_sa (q_sb v 1007 (vp_updL (q_b v 1007) l x)) 1008 (upd (q_a v 1008) l (nI at_))) 1009 (nI (l + 1)), ?_, ?_⟩
  · unfold fX5_enterLoop fX5_enterLoop_b29
    rw [if_neg (show ¬ (14 : Int32) ≤ q_i v 1009 by rw [e9]; exact ni_nle (a := 14) (by omega) (by omega))]
    simp only [e9, q_lt_s, q_i_sb, q_i_sa, q_a_sb, n3, n4, or_self, ↓reduceIte, ni_clamp (show l < 2147483648 by omega), ni_add1]
  · refine ⟨rdf_i (rdf_a (rdf_b f (by omega)) (by omega)) (by omega), rdF_i (rdF_a (rdF_b F (by omega)) (by omega)) (by omega), sT_ci (sT_a (sT_b t)) (by omega), sB_ci ?_ (by omega), sR_i ?_ (by omega), ?_, ?_⟩
    · unfold sB at B ⊢
      rw [q_i_sa, q_i_sb, q_a_sa, if_neg (by omega), q_a_sb]; exact B
    · refine ⟨Y.1, fun j hj => ?_, sK_e (w := w) ?_ ?_ ?_ ?_ Y.2.2.1, Y.2.2.2⟩
      · have := rdj_b hj
        rw [q_a_sa, if_neg (by omega), q_a_sb]; exact Y.2.1 j hj
      · rw [q_b_sa, q_b_sb, if_neg (by omega)]
      · rw [q_a_sa, if_neg (by omega), q_a_sb]
      · rw [q_a_sa, if_neg (by omega), q_a_sb]
      · rw [q_a_sa, if_neg (by omega), q_a_sb]
    · unfold sN at N ⊢
      obtain ⟨N1, N2, N3, N4, N5, N6⟩ := N
      have q1 : ∀ m, m ≠ 1009 → q_i (q_si (q_sa (q_sb v 1007 (vp_updL (q_b v 1007) l x)) 1008 (upd (q_a v 1008) l (nI at_))) 1009 (nI (l + 1))) m = q_i v m := fun m hm => by rw [q_i_ne hm, q_i_sa, q_i_sb]
      have q2 : ∀ m, m ≠ 2445 → q_i (q_si (q_sa (q_sb w 2443 (vp_updL (q_b w 2443) l x)) 2444 (upd (q_a w 2444) l (nI dd))) 2445 (nI (l + 1))) m = q_i w m := fun m hm => by rw [q_i_ne hm, q_i_sa, q_i_sb]
      have q3 : ∀ m, m ≠ 1008 → q_a (q_si (q_sa (q_sb v 1007 (vp_updL (q_b v 1007) l x)) 1008 (upd (q_a v 1008) l (nI at_))) 1009 (nI (l + 1))) m = q_a v m := fun m hm => by rw [q_a_si, q_a_sa, if_neg hm, q_a_sb]
      have q4 : ∀ m, m ≠ 2444 → q_a (q_si (q_sa (q_sb w 2443 (vp_updL (q_b w 2443) l x)) 2444 (upd (q_a w 2444) l (nI dd))) 2445 (nI (l + 1))) m = q_a w m := fun m hm => by rw [q_a_si, q_a_sa, if_neg hm, q_a_sb]
      have q5 : ∀ m, m ≠ 1007 → q_b (q_si (q_sa (q_sb v 1007 (vp_updL (q_b v 1007) l x)) 1008 (upd (q_a v 1008) l (nI at_))) 1009 (nI (l + 1))) m = q_b v m := fun m hm => by rw [q_b_si, q_b_sa, q_b_sb, if_neg hm]
      have q6 : ∀ m, m ≠ 2443 → q_b (q_si (q_sa (q_sb w 2443 (vp_updL (q_b w 2443) l x)) 2444 (upd (q_a w 2444) l (nI dd))) 2445 (nI (l + 1))) m = q_b w m := fun m hm => by rw [q_b_si, q_b_sa, q_b_sb, if_neg hm]
      rw [q1 1006 (by omega), q2 2442 (by omega), q2 2441 (by omega), q1 1005 (by omega), q5 1003 (by omega), q6 2439 (by omega), q3 1004 (by omega), q4 2440 (by omega), q_i_at, q_i_at, q1 1010 (by omega), q2 2446 (by omega), q1 1604 (by omega)]
      refine ⟨N1, N2, N3, ⟨rfl, rfl, by omega, N4.2.2.2.1, N4.2.2.2.2.1, by have := N4.2.2.2.2.2; omega⟩, N5, fun j hj => ?_⟩
      rw [q_b_si, q_b_sa, q_b_sb, if_pos rfl, q_b_si, q_b_sa, q_b_sb, if_pos rfl, q_a_si, q_a_sa, if_pos rfl, q_a_si, q_a_sa, if_pos rfl]
      unfold vp_updL upd
      dsimp only
      by_cases c : j = l
      · rw [if_pos c, if_pos c, if_pos c, if_pos c, if_pos c]; exact ⟨rfl, rfl, rfl⟩
      · rw [if_neg c, if_neg c, if_neg c, if_neg c, if_neg c]; exact N6 j (by omega)
    · unfold sM bl br at M ⊢
      rw [q_i_ne (by omega), q_i_sa, q_i_sb, q_i_ne (by omega), q_i_sa, q_i_sb, q_i_ne (by omega), q_i_sa, q_i_sb, q_i_ne (by omega), q_i_sa, q_i_sb]; exact M
set_option maxHeartbeats 200000 in
/-- and left -/
theorem j_leave {A' : rd_A} (h : St g i n p C i' n' q d r R K k s (l + 1) b A e e' v w) (hb : b ≤ l) (hA : ∀ j, j < l → A'.1 j = A.1 j) (hA2 : A'.2 = A.2) : St g i n p C i' n' q d r R K k s l b A' e e' (q_si v 1009 (nI l)) (q_si w 2445 (nI l)) := by
  obtain ⟨f, F, t, B, Y, N, M⟩ := h
  refine ⟨rdf_i f (by omega), rdF_i F (by omega), sT_ci t (by omega), sB_ci B (by omega), sR_i Y (by omega), ?_, sM_ri (sM_ci M (by omega)) (by omega)⟩
  unfold sN at N ⊢
  rw [q_i_ne (by omega), q_i_ne (by omega), q_i_ne (by omega), q_i_ne (by omega), q_i_at, q_i_at, q_i_ne (by omega), q_i_ne (by omega), q_i_ne (by omega), hA2]
  obtain ⟨N1, N2, N3, N4, N5, N6⟩ := N
  exact ⟨N1, N2, N3, ⟨rfl, rfl, by have := N4.2.2.1; omega, N4.2.2.2.1, N4.2.2.2.2.1, hb⟩, N5, fun j hj => by rw [hA j hj]; exact N6 j (by omega)⟩
end
