/-- a duty that is read: name, parameters, place, where its block stands in both, variables, ways -/
abbrev rd_R : Type := Int64 × Nat × Nat × Nat × Nat × Nat × Nat × Nat × Int32
/-- its facts in both -/
def dF (v w : q_V) (j : Nat) (r : rd_R) : Prop := (j < 30 → q_a v 2 (5 * j) = nI r.2.1 ∧ q_a v 2 (5 * j + 1) = nI r.2.2.2.2.2.2.2.1 ∧ q_a v 2 (5 * j + 2) = nI r.2.2.1 ∧ q_a v 2 (5 * j + 3) = r.2.2.2.2.2.2.2.2 ∧ q_a v 2 (5 * j + 4) = nI r.2.2.2.1) ∧ q_b w 2427 j = r.1 ∧ q_a w 2428 j = nI r.2.1 ∧ q_a w 2429 j = nI r.2.2.2.2.2.2.2.1 ∧ q_a w 2430 j = nI r.2.2.2.2.2.1 ∧ q_a w 2431 j = nI r.2.2.1 ∧ q_a w 2432 j = r.2.2.2.2.2.2.2.2
/-- some duties are read -/
def TX (g : rd_G) (v0 w0 : q_V) (dl : List rd_R) (i p : Nat) (C : Nat → Int32) (q d : Nat) (r : Int32) (R : Nat → Nat → Int32) (K : rd_K) (A : rd_A) (e e' : Nat) (Y : rd_Y) (v w : q_V) : Prop :=
  (rd_ok (reb g v w) ∧ rdk v0 v ∧ rdK w0 w) ∧ (∃ k s l b, SC g i 0 p C i 0 q d r R K k s l b A e e' v w) ∧ (10 * dl.length ≤ tka g i ∧ p ≤ 2 * tka g i ∧ q ≤ tka g i ∧ 3 * K.length ≤ tka g i ∧ 5 * d ≤ tka g i) ∧ (∃ n, CR g n 0 (dl.map (fun r => (r.1, r.2.1))) i) ∧ (q_n v 2 = 150 ∧ q_i v 3 = nI dl.length ∧ q_i w 2433 = nI dl.length) ∧ (∀ j r, dl[j]? = some r → dF v w j r) ∧ (e = rd_N → dl.length ≤ 30 ∧ ∀ r, r ∈ dl → r.2.1 ≤ 8) ∧ ∀ T XL, hT g T → ag g T C R K 0 p 0 q 0 d → e = rd_N → (∀ y, y ∈ Y → XL (nI y.1) (nI y.2.1) y.2.2.1) → (∀ r, r ∈ dl → r.2.2.2.2.1 < 6016 ∧ dv_S T XL 1 [] r.2.2.2.1 r.2.2.2.2.1 r.2.2.2.2.2.1 r.2.2.2.2.2.2.1 ∧ co_c T r.2.2.2.2.1 54 ∧ co_r T 0 r.2.2.2.2.2.2.1 48) ∧ ∀ y, y ∈ Y → lok T XL y
/-- what both hold between duties -/
def SD (g : rd_G) (i p : Nat) (C : Nat → Int32) (q d : Nat) (r : Int32) (R : Nat → Nat → Int32) (K : rd_K) (e e' : Nat) (v w : q_V) : Prop := sT g i 0 v ∧ sB p C v ∧ sR g i 0 q d r R K w ∧ sM g e e' K v w
/-- the same, where a duty is to begin -/
def TY (g : rd_G) (v0 w0 : q_V) (dl : List rd_R) (i p : Nat) (C : Nat → Int32) (q d : Nat) (r : Int32) (R : Nat → Nat → Int32) (K : rd_K) (e e' : Nat) (Y : rd_Y) (v w : q_V) : Prop :=
  (rd_ok (reb g v w) ∧ rdk v0 v ∧ rdK w0 w) ∧ SD g i p C q d r R K e e' v w ∧ (10 * dl.length ≤ tka g i ∧ p ≤ 2 * tka g i ∧ q ≤ tka g i ∧ 3 * K.length ≤ tka g i ∧ 5 * d ≤ tka g i) ∧ (∃ n, CR g n 0 (dl.map (fun r => (r.1, r.2.1))) i) ∧ (q_n v 2 = 150 ∧ q_i v 3 = nI dl.length ∧ q_i w 2433 = nI dl.length) ∧ (∀ j r, dl[j]? = some r → dF v w j r) ∧ (e = rd_N → dl.length ≤ 30 ∧ ∀ r, r ∈ dl → r.2.1 ≤ 8) ∧ ∀ T XL, hT g T → ag g T C R K 0 p 0 q 0 d → e = rd_N → (∀ y, y ∈ Y → XL (nI y.1) (nI y.2.1) y.2.2.1) → (∀ r, r ∈ dl → r.2.2.2.2.1 < 6016 ∧ dv_S T XL 1 [] r.2.2.2.1 r.2.2.2.2.1 r.2.2.2.2.2.1 r.2.2.2.2.2.2.1 ∧ co_c T r.2.2.2.2.1 54 ∧ co_r T 0 r.2.2.2.2.2.2.1 48) ∧ ∀ y, y ∈ Y → lok T XL y
set_option maxHeartbeats 200000 in
theorem TX_Y {g : rd_G} {v0 w0 : q_V} {dl : List rd_R} {i p : Nat} {C : Nat → Int32} {q d : Nat} {r : Int32} {R : Nat → Nat → Int32} {K : rd_K} {A : rd_A} {e e' : Nat} {Y : rd_Y} {v w : q_V} (h : TX g v0 w0 dl i p C q d r R K A e e' Y v w) : TY g v0 w0 dl i p C q d r R K e e' Y v w := by
  obtain ⟨h1, ⟨_, _, _, _, h2⟩, h3⟩ := h
  exact ⟨h1, ⟨h2.1, h2.2.1, h2.2.2.1, h2.2.2.2.2⟩, h3⟩
section
variable {g : rd_G} {i n p i' n' q d k s l b e e' D Bd : Nat} {C : Nat → Int32} {r : Int32} {R : Nat → Nat → Int32} {K : rd_K} {A : rd_A} {v w v0 w0 v1 w1 : q_V} {f x : Int32} {Y : rd_Y}
set_option maxHeartbeats 200000 in
theorem cF_2 {f y : Nat} {x : Int32} : q_a (cF D f x v) 2 y = if D < 30 ∧ y = 5 * D + f then x else q_a v 2 y := by
  unfold cF
  by_cases c : D < 30
  · rw [if_pos c, q_a_sa, if_pos rfl]
    by_cases c2 : y = 5 * D + f
    · rw [if_pos ⟨c, c2⟩, c2, upd_at]
    · rw [if_neg (fun z => c2 z.2), upd_ne c2]
  · rw [if_neg c, if_neg (fun z => c z.1)]
set_option maxHeartbeats 200000 in
theorem cF_n {f : Nat} {x : Int32} : q_n (cF D f x v) = q_n v := by unfold cF; split <;> rfl
set_option maxHeartbeats 200000 in
theorem xC_of (h : xc g f x l v) (hk : rdk v0 (gv g)) : xC v0 f x v := ⟨rdk_f hk h.1, h.2.1, h.2.2.1, h.2.2.2.1, h.2.2.2.2.1⟩
set_option maxHeartbeats 200000 in
theorem xR_of (h : xr g f x Bd w) (hk : rdK w0 (gw g)) : xR w0 f x w := ⟨rdK_f hk h.1.1, h.2.1, h.2.2.1, h.2.2.2.1⟩
set_option maxHeartbeats 200000 in
theorem SC_kp (h : SC g i n p C i' n' q d r R K k s l b A e e' v w) (hv : q_i v1 = q_i v ∧ q_j v1 = q_j v ∧ (∀ k, k ≠ 2 → q_a v1 k = q_a v k) ∧ q_b v1 = q_b v) (hw : q_i w1 = q_i w ∧ q_j w1 = q_j w ∧ (∀ k, ¬ (2428 ≤ k ∧ k ≤ 2432) → q_a w1 k = q_a w k) ∧ q_b w1 = q_b w) : SC g i n p C i' n' q d r R K k s l b A e e' v1 w1 := by
  obtain ⟨h1, h2, h3, h4, h5⟩ := h
  refine ⟨?_, ?_, ?_, ?_, ?_⟩
  · unfold sT at h1 ⊢; rw [hv.1, hv.2.1]; exact h1
  · unfold sB at h2 ⊢; rw [hv.1, hv.2.2.1 0 (by omega)]; exact h2
  · unfold sR at h3 ⊢
    rw [hw.1]
    refine ⟨h3.1, fun j hj => ?_, sK_e (w := w) (by rw [hw.2.2.2]) (hw.2.2.1 2435 (by omega)) (hw.2.2.1 2436 (by omega)) (hw.2.2.1 2437 (by omega)) h3.2.2.1, h3.2.2.2⟩
    have := rdj_b hj
    rw [hw.2.2.1 (rdj j) (by omega)]; exact h3.2.1 j hj
  · unfold sN at h4 ⊢
    rw [hv.1, hw.1, hw.2.1, hv.2.2.2, hw.2.2.2, hv.2.2.1 1004 (by omega), hv.2.2.1 1008 (by omega), hw.2.2.1 2440 (by omega), hw.2.2.1 2444 (by omega)]; exact h4
  · unfold sM bl br at h5 ⊢; rw [hv.1, hw.1]; exact h5
set_option maxHeartbeats 200000 in
theorem cF_v {f : Nat} {x : Int32} : q_j (cF D f x v) = q_j v ∧ (∀ k, k ≠ 2 → q_a (cF D f x v) k = q_a v k) ∧ q_b (cF D f x v) = q_b v := by
  unfold cF; split
  · exact ⟨rfl, fun k hk => by rw [q_a_sa, if_neg hk], rfl⟩
  · exact ⟨rfl, fun _ _ => rfl, rfl⟩
set_option maxHeartbeats 200000 in
/-- behind a duty's head -/
theorem d_tail {dl : List rd_R} {i1 k1 s1 e1 e1' : Nat} {A1 : rd_A} {va wa vb wb : q_V} (okt : rd_ok (reb g vb wb)) (X : TY g v0 w0 dl i p C q d r R K e e' Y va wa) (c300 : tkc g i = 300) (c259 : tkc g (i + 1) = 259)
    (kb : rdk v0 vb) (Kb : rdK w0 wb) (nb : q_n vb 2 = 150) (b3 : q_i vb 3 = nI (dl.length + 1)) (b33 : q_i wb 2433 = nI (dl.length + 1)) (FB : ∀ j r, dl[j]? = some r → dF vb wb j r) (FD : (dl.length < 30 → q_a vb 2 (5 * dl.length + 2) = nI (tka g (i + 1)) ∧ q_a vb 2 (5 * dl.length + 4) = nI p) ∧ q_b wb 2427 dl.length = tkw g (i + 1) ∧ q_a wb 2431 dl.length = nI (tka g (i + 1)))
    (S : St (reb g vb wb) i1 0 p C i1 0 q d r R K k1 s1 0 0 A1 e1 e1' v w) (hi1 : i + 3 ≤ i1) (H : ∀ m c h, HR g m i1 c h → ∃ m', HR g m' (i + 2) (c + s1) h) (hs : 2 * s1 + tka g (i + 2) ≤ tka g i1) (he : e1 ≤ e ∧ e1' ≤ e') (h30 : e1 = rd_N → dl.length < 30) (h8 : e1 = rd_N → s1 ≤ 8) (o : ov g i1 s1 e1 e1') :
    jd v0 w0 (fun v w => ∃ rc i p C q d r R K A e e' Y, TX g v0 w0 (dl ++ [rc]) i p C q d r R K A e e' Y v w) (fX8_readDuty_b94 (nI dl.length) v) (fX12_duty_b148 (nI dl.length) w) := by
  obtain ⟨_, sc0, ⟨z1, z2, z3, z4, z5⟩, ⟨nC, cr⟩, _, _, FE, SEM⟩ := X
  have hL : gL g ≤ 3000 := okt.1
  have hm3 : gm g ≤ 3000 := okt.2.2.1.2.2
  have hig : i1 ≤ gm g := (St_im S).1
  have ta1 : tka g i1 ≤ gL g := (tk_al okt.1 i1).2
  have t23 : tka g (i + 2) ≤ tka g i1 := by omega
  have ti2 : tka g i < tka g (i + 2) := tka_lt (g := reb g vb wb) okt (show i < i + 2 by omega) (by show i + 2 ≤ gm g; omega)
  have hD3 : dl.length < 320 := by omega
  rw [b94_e, b148_e hD3]
  by_cases c41 : tkc g i1 = 41
  · obtain ⟨v2, a2, s2⟩ := c_exp okt S c41 (by decide) (by decide)
    obtain ⟨w2, b2, s3⟩ := r_takeS (c := 41) okt s2 rfl (by decide) c41 (by decide) (by decide)
    have hi2 : i1 + 1 ≤ gm g := (St_im s3).1
    have t12 : tka g i1 < tka g (i1 + 1) := tka_lt (g := reb g vb wb) okt (show i1 < i1 + 1 by omega) hi2
    rw [a2, q_bv_s, b2, q_bv_s]
    unfold c94
    have fv : rdf vb v2 := s3.1
    have fw : rdF wb w2 := s3.2.1
    have ok2 : rd_ok (reb g v2 w2) := ok_reb (g := reb g vb wb) okt fv fw
    have ok4 : rd_ok (reb g (q_si v2 1604 0) (r148 dl.length w2)) := ok_ce ok2 (ce_i ce_0 (by omega)) re_148
    have sc4 := SC_un (SC_lw (D := dl.length) (St_SC s3))
    have s4 := SC_St sc4
    have k2 : rdk v0 (q_si v2 1604 0) := rdk_i (rdk_f kb fv) (by omega)
    have K2 : rdK w0 (r148 dl.length w2) := rdK_re (rdK_f Kb fw) re_148
    have n2 : q_n (q_si v2 1604 0) 2 = 150 := by rw [q_n_si, fv.2.2.2.2.2]; exact nb
    have e6 : q_i v2 1006 = nI s1 := s3.2.2.2.2.2.1.1.1
    have e42 : q_i w2 2442 = nI s1 := s3.2.2.2.2.2.1.1.2.1
    have e17 : q_i w2 2417 = nI q := s3.2.2.2.2.1.1.2.2.2.1
    have JB := BS_all ok4 (i1 + 1) p C q d r R K k1 s1 0 0 (A1.1, 0, 0, A1.2.2.2) e1 e1' _ _ s4 ⟨⟨by show p ≤ 2 * tka g (i1 + 1) + 10; omega, by show q ≤ tka g (i1 + 1) + 10; omega, by show 3 * K.length ≤ tka g (i1 + 1) + 10; omega⟩, by show 5 * d ≤ tka g (i1 + 1) + 12 + 0; omega, by show 2 * s1 ≤ tka g (i1 + 1) + 10; omega⟩ (ov_m (g := reb g vb wb) okt o (by omega) hi2 (Nat.le_refl _) (Nat.le_refl _)) ⟨Nat.le_refl _, fun j hj => absurd hj (by omega)⟩
    obtain ⟨oB, v5, zB, w5, a5, b5, JB⟩ := JB
    rw [a5, q_bd_s, b5, q_bd_s]
    rcases JB with ⟨f, x, x5, y5⟩ | JB
    · exact jd_xx (x_94b ok4 x5 k2 n2 hD3) (y_148b y5 K2 (by omega) hD3)
    · obtain ⟨i2, p2, C2, q2, d2, r2, R2, K3, s2', A2, e2, e2', Y2, ⟨F0, ⟨F1, F2, F3, F4, F5, F6, F7, F8, F9, F10, _⟩, ⟨G1, G2, G3, t2, G4⟩, F11, ⟨F12, F13, F14⟩, ⟨F15, F15'⟩, F16, F17, F18⟩, cB, n14, H1, H2, H3, H4, H5⟩ := JB
      have hi3 : i2 ≤ gm g := (St_im F0).1
      have ta2 : tka g i2 ≤ gL g := (tk_al okt.1 i2).2
      have F2' : p2 + 2 * tka g (i1 + 1) + 4 ≤ p + 2 * tka g i2 := H1
      have F3' : q2 + tka g (i1 + 1) + 2 ≤ q + tka g i2 := H2
      have F4' : 3 * K3.length + tka g (i1 + 1) + 2 ≤ 3 * K.length + tka g i2 := H3
      have F5' : 5 * d2 + tka g (i1 + 1) + 2 ≤ 5 * d + tka g i2 := H4
      have wid : tka g i + 5 ≤ tka g (i + 1) ∧ tka g (i + 1) < tka g (i + 2) ∧ tka g (i + 2) < tka g (i + 3) ∧ tka g (i + 3) ≤ tka g i1 := by
        have h1 := tk_kl (kw := kw_c) (j := 0) (k := 3) okt.2.1 okt.1 (by omega) c300 ((kw_len 0 (by omega)).2.1 (by omega))
        have h2 := tk_gap (kw := kw_c) (i := i) okt.1 okt.2.1 h1.2 (Nat.lt_of_lt_of_le (tka_lt (g := reb g vb wb) okt (show i < i + 1 by omega) (by show i + 1 ≤ gm g; omega)) (tk_al okt.1 (i + 1)).2) c259
        refine ⟨?_, tka_lt (g := reb g vb wb) okt (show i + 1 < i + 2 by omega) (by show i + 2 ≤ gm g; omega), tka_lt (g := reb g vb wb) okt (show i + 2 < i + 3 by omega) (by show i + 3 ≤ gm g; omega), ?_⟩
        · have h3 := h1.1
          show tk_a g.1 g.2.1 i + 5 ≤ tk_a g.1 g.2.1 (i + 1)
          have h4 : tk_a g.1 g.2.1 i + 3 + 1 ≤ tk_p g.1 g.2.1 (i + 1) := h3
          have h5 : tk_p g.1 g.2.1 (i + 1) < tk_a g.1 g.2.1 (i + 1) := h2
          omega
        · by_cases cc : i + 3 = i1
          · rw [cc]; exact Nat.le_refl _
          · exact Nat.le_of_lt (tka_lt (g := reb g vb wb) okt (show i + 3 < i1 by omega) hig)
      obtain ⟨w6a, w6b, w6c, w6d⟩ := wid
      obtain ⟨v6, a6, s6⟩ := c_add (y := 54) ok4 F0 (by show p2 < 2 * gL g + 16; omega)
      obtain ⟨w7, b7, s7⟩ := r_emit (o := 48) (a := 0) (c := 0) s6 (by omega)
      have SZ1 : 10 * (dl.length + 1) ≤ tka g i2 ∧ p2 + 1 ≤ 2 * tka g i2 ∧ q2 + 1 ≤ tka g i2 ∧ 3 * K3.length ≤ tka g i2 ∧ 5 * d2 ≤ tka g i2 := by
        clear hs o SEM F18 F17 F16
        exact ⟨by omega, by omega, by omega, by omega, by omega⟩
      have hp16 : p2 < 6016 := by omega
      have he1 : e1 ≤ rd_N := bl_le S.2.2.2.2.2.2.1
      have hee : e ≤ rd_N := bl_le sc0.2.2.2.1
      clear z1 z2 z3 z4 z5 ta1 ta2 t12 t23 ti2 F2 F3 F4 F5 F6 F2' F3' F4' F5' H1 H2 H3 H4 H5 w6a w6b w6c w6d hs
      have fv6 : rdf (q_si v2 1604 0) v6 := s7.1
      have fw7 : rdF (r148 dl.length w2) w7 := s7.2.1
      have hin : ¬ (nI dl.length < 0 ∨ 320 ≤ (nI dl.length).toNatClampNeg) := ni_nin hD3 (by omega)
      have mc : (nI dl.length).toNatClampNeg = dl.length := ni_clamp (by omega)
      have e06 : q_i v6 1006 = nI s2' := s7.2.2.2.2.2.1.1.1
      have e242 : q_i w7 2442 = nI s2' := s7.2.2.2.2.2.1.1.2.1
      have eA := s7.2.2.2.2.2.1.2.2.2.2.1.1
      have n6 : q_n v6 2 = 150 := by rw [fv6.2.2.2.2.2]; exact n2
      have hwl : wy 0 A2.2.1 (A2.2.2.1 &&& 6) := F14 (by show wy 0 0 ((0 : Int64) &&& 6); rw [show ((0 : Int64) &&& 6) = 0 by decide]; exact wy_k.1)
      have hww := wy_or F13 hwl
      -- the class
      have cc : c94b (nI dl.length) (q_i v2 1006) oB v5 = some (cF dl.length 3 (oB ||| A2.2.1) (cF dl.length 1 (nI s2') (cF dl.length 0 (nI s1) v6))) := by
        unfold c94b fX5_variableCount fX0_setCounts fX0_setWays
        rw [a6, q_bd_s, q_bd_s, e6, e06]
        rw [show fX0_setFact (nI dl.length) 0 = fX0_setFact (nI dl.length) (nI 0) from rfl, show fX0_setFact (nI dl.length) 1 = fX0_setFact (nI dl.length) (nI 1) from rfl, show fX0_setFact (nI dl.length) 3 = fX0_setFact (nI dl.length) (nI 3) from rfl]
        rw [c_fact n6 (by omega) hD3, q_bv_s, c_fact (by rw [cF_n]; exact n6) (by omega) hD3, q_bv_s, q_bv_s, c_fact (by rw [cF_n, cF_n]; exact n6) (by omega) hD3, q_bv_s, q_bv_s, cF_i, cF_i, eA.1]
      have rr : r148b (nI dl.length) zB w5 = some (q_sa (q_sa w7 2429 (upd (q_a w7 2429) dl.length (nI s2'))) 2432 (upd (q_a w7 2432) dl.length (oB ||| A2.2.1))) := by
        unfold r148b
        rw [b7, q_bd_s, if_neg hin, q_lt_s, if_neg hin, q_lt_s, mc, e242, q_j_sa, eA.2, q_a_sa, if_neg (by omega), wy_0i hww]
      rw [cc, rr]
      refine ⟨_, _, rfl, rfl, Or.inr ⟨(tkw g (i + 1), s1, tka g (i + 1), p, p2, q, q2, s2', oB ||| A2.2.1), i2, p2 + 1, upd C2 p2 54, q2 + 1, d2, r2, rE R2 q2 48 0 0, K3, A2, e2, e2', Y2 ++ Y, ⟨?_, ?_, ?_⟩, ⟨k1, s2', 0, 0, ?_⟩, ?_, ?_, ⟨?_, ?_, ?_⟩, ?_, ?_, ?_⟩⟩
      · exact ok_ce (ok_reb (g := reb g (q_si v2 1604 0) (r148 dl.length w2)) ok4 fv6 fw7) (cF_ce (cF_ce (cF_ce ce_0))) (re_a (re_a re_0 (by omega)) (by omega))
      · exact rdk_ce (rdk_f k2 fv6) (cF_ce (cF_ce (cF_ce ce_0)))
      · exact rdK_re (rdK_f K2 fw7) (re_a (re_a re_0 (by omega)) (by omega))
      · refine SC_kp (SC_un (St_SC s7)) ⟨by rw [cF_i, cF_i, cF_i], by rw [cF_v.1, cF_v.1, cF_v.1], fun k hk => by rw [cF_v.2.1 k hk, cF_v.2.1 k hk, cF_v.2.1 k hk], by rw [cF_v.2.2, cF_v.2.2, cF_v.2.2]⟩ ⟨rfl, rfl, fun k hk => by rw [q_a_sa, if_neg (by omega), q_a_sa, if_neg (by omega)], rfl⟩
      · rw [List.length_append, List.length_singleton]; exact SZ1
      · obtain ⟨m', hh⟩ := H 0 0 i1 ⟨rfl, rfl, fun z => by rcases z with z | z | z <;> (rw [c41] at z; exact absurd z (by decide))⟩
        rw [Nat.zero_add] at hh
        refine ⟨nC + (i2 - i1 + 1), ?_⟩
        rw [List.map_append]
        refine CR_app nC _ 0 _ i _ i2 cr (Or.inr (Or.inr ⟨c300, c259, m', s1, i1, [], hh, rfl, CR_skip (i2 - i1) i1 i2 (by omega) (fun u h1 h2 => ⟨?_, ?_⟩)⟩))
        · by_cases cu : u = i1
          · rw [cu, c41]; decide
          · exact F11 u (by omega) h2
        · exact (tk_ne (g := reb g vb wb) okt (show u < gm g by omega)).1
      · rw [cF_n, cF_n, cF_n]; exact n6
      · rw [cF_i, cF_i, cF_i, List.length_append, List.length_singleton, fv6.1 3 (by omega), q_i_ne (by omega), fv.1 3 (by omega)]; exact b3
      · rw [q_i_sa, q_i_sa, List.length_append, List.length_singleton, (fw7.1 2433 (by omega)).1, show q_i (r148 dl.length w2) 2433 = q_i w2 2433 from rfl, (fw.1 2433 (by omega)).1]; exact b33
      · intro j rc hj
        have a2e : ∀ y, q_a v6 2 y = q_a vb 2 y := fun y => by rw [(fv6.2.2.1 2 (by omega)).1, q_a_si, (fv.2.2.1 2 (by omega)).1]
        have r27 : q_b w7 2427 = q_b wb 2427 := by rw [(fw7.1 2427 (by omega)).2.2, show q_b (r148 dl.length w2) = q_b w2 from rfl, (fw.1 2427 (by omega)).2.2]
        have r28 : q_a w7 2428 = upd (q_a wb 2428) dl.length (nI s1) := by rw [(fw7.1 2428 (by omega)).2.1]; unfold r148; rw [q_a_sj, q_a_sa, if_neg (by omega), q_a_sa, if_pos rfl, e42, (fw.1 2428 (by omega)).2.1]
        have r29 : q_a w7 2429 = q_a wb 2429 := by rw [(fw7.1 2429 (by omega)).2.1]; unfold r148; rw [q_a_sj, q_a_sa, if_neg (by omega), q_a_sa, if_neg (by omega), (fw.1 2429 (by omega)).2.1]
        have r30 : q_a w7 2430 = upd (q_a wb 2430) dl.length (nI q) := by rw [(fw7.1 2430 (by omega)).2.1]; unfold r148; rw [q_a_sj, q_a_sa, if_pos rfl, e17, (fw.1 2430 (by omega)).2.1]
        have r31 : q_a w7 2431 = q_a wb 2431 := by rw [(fw7.1 2431 (by omega)).2.1]; unfold r148; rw [q_a_sj, q_a_sa, if_neg (by omega), q_a_sa, if_neg (by omega), (fw.1 2431 (by omega)).2.1]
        have r32 : q_a w7 2432 = q_a wb 2432 := by rw [(fw7.1 2432 (by omega)).2.1]; unfold r148; rw [q_a_sj, q_a_sa, if_neg (by omega), q_a_sa, if_neg (by omega), (fw.1 2432 (by omega)).2.1]
        unfold dF
        rw [q_b_sa, q_b_sa, r27]
        rw [show ∀ (a b : Nat → Int32), q_a (q_sa (q_sa w7 2429 a) 2432 b) 2428 = q_a w7 2428 from fun a b => by rw [q_a_sa, if_neg (by omega), q_a_sa, if_neg (by omega)], r28, show ∀ (a b : Nat → Int32), q_a (q_sa (q_sa w7 2429 a) 2432 b) 2429 = a from fun a b => by rw [q_a_sa, if_neg (by omega), q_a_sa, if_pos rfl], r29, show ∀ (a b : Nat → Int32), q_a (q_sa (q_sa w7 2429 a) 2432 b) 2430 = q_a w7 2430 from fun a b => by rw [q_a_sa, if_neg (by omega), q_a_sa, if_neg (by omega)], r30, show ∀ (a b : Nat → Int32), q_a (q_sa (q_sa w7 2429 a) 2432 b) 2431 = q_a w7 2431 from fun a b => by rw [q_a_sa, if_neg (by omega), q_a_sa, if_neg (by omega)], r31, show ∀ (a b : Nat → Int32), q_a (q_sa (q_sa w7 2429 a) 2432 b) 2432 = b from fun a b => by rw [q_a_sa, if_pos rfl], r32]
        rcases Nat.lt_or_ge j dl.length with cj | cj
        · rw [List.getElem?_append_left cj] at hj
          obtain ⟨h1, h2, h3, h4, h5, h6, h7⟩ := FB j rc hj
          refine ⟨fun j30 => ?_, h2, by rw [upd_ne (by omega)]; exact h3, by rw [upd_ne (by omega)]; exact h4, by rw [upd_ne (by omega)]; exact h5, h6, by rw [upd_ne (by omega)]; exact h7⟩
          have no : ∀ y, y < 5 * dl.length → q_a (cF dl.length 3 (oB ||| A2.2.1) (cF dl.length 1 (nI s2') (cF dl.length 0 (nI s1) v6))) 2 y = q_a vb 2 y := fun y hy => by
            rw [cF_2, if_neg (by omega), cF_2, if_neg (by omega), cF_2, if_neg (by omega)]; exact a2e y
          rw [no _ (by omega), no _ (by omega), no _ (by omega), no _ (by omega), no _ (by omega)]
          exact h1 j30
        · rw [List.getElem?_append_right cj] at hj
          have cj2 : j = dl.length := by
            rcases Nat.lt_or_ge dl.length j with z | z
            · rw [List.getElem?_eq_none (by rw [List.length_singleton]; omega)] at hj; cases hj
            · omega
          subst cj2
          rw [Nat.sub_self] at hj
          have := (Option.some.inj hj)
          subst this
          refine ⟨fun j30 => ?_, FD.2.1, by rw [upd_at], by rw [upd_at], by rw [upd_at], FD.2.2, by rw [upd_at]⟩
          obtain ⟨g1, g2⟩ := FD.1 j30
          refine ⟨?_, ?_, ?_, ?_, ?_⟩
          · rw [cF_2, if_neg (by omega), cF_2, if_neg (by omega), cF_2, if_pos ⟨j30, by omega⟩]
          · rw [cF_2, if_neg (by omega), cF_2, if_pos ⟨j30, rfl⟩]
          · rw [cF_2, if_neg (by omega), cF_2, if_neg (by omega), cF_2, if_neg (by omega), a2e]; exact g1
          · rw [cF_2, if_pos ⟨j30, rfl⟩]
          · rw [cF_2, if_neg (by omega), cF_2, if_neg (by omega), cF_2, if_neg (by omega), a2e]; exact g2
      · intro z
        have z1 : e1 = rd_N := by omega
        have := h30 z1
        have := h8 z1
        obtain ⟨_, q8⟩ := FE (by omega)
        refine ⟨by rw [List.length_append, List.length_singleton]; omega, fun rc hr => ?_⟩
        rcases List.mem_append.1 hr with hr | hr
        · exact q8 rc hr
        · rw [List.mem_singleton.1 hr]; exact this
      · intro T XL g1 g2 g3 g4
        have kC : ∀ y, y < p → upd C2 p2 54 y = C y := fun y hy => by rw [upd_ne (by omega)]; exact G1 y hy
        have y1 := SEM T XL g1 (ag_S g2 (Nat.le_refl _) (by omega) (Nat.le_refl _) (by omega) (Nat.le_refl _) F9 (fun y _ hy => kC y hy) (fun j y hj _ hy => by rw [rE_x (by omega)]; exact G2 j y hj hy) (fun j y hj _ hy => by rw [rE_j hj]; exact G3 j y hj hy) (fun y hy => by rw [G4]; exact List.mem_append_right _ hy)) (by omega) (fun y hy => g4 y (List.mem_append_right _ hy))
        have y2 := F18 T XL g1 (ag_reb (ag_S g2 (Nat.zero_le _) (by omega) (Nat.zero_le _) (by omega) (Nat.zero_le _) (Nat.le_refl _) (fun y _ hy => by rw [upd_ne (by omega)]) (fun j y hj _ hy => by rw [rE_x (by omega)]) (fun j y hj _ hy => by rw [rE_j hj]) (fun y hy => hy))) g3 (fun y hy => g4 y (List.mem_append_left _ hy))
        have c0 := ag_c g2 (Nat.zero_le p2) (by omega)
        have r0 := ag_r0 g2 (Nat.zero_le q2) (by omega)
        rw [upd_at] at c0
        rw [rE_0, upd_at] at r0
        refine ⟨fun rc hr => ?_, fun y hy => ?_⟩
        · rcases List.mem_append.1 hr with hr | hr
          · exact y1.1 rc hr
          · rw [List.mem_singleton.1 hr]; exact ⟨hp16, y2.1, c0, r0⟩
        · rcases List.mem_append.1 hy with hy | hy
          · exact y2.2 y hy
          · exact y1.2 y hy
  · obtain ⟨v2, a2, x2⟩ := c_expX S c41
    obtain ⟨w2, b2, y2⟩ := r_takeSX (c := 41) (Bd := 3011) okt S rfl (by decide) c41 (by omega)
    rw [a2, q_bv_s, b2, q_bv_s]
    exact jd_xx (x_94c okt x2 kb nb hD3) (y_148c y2 Kb (by omega) hD3)
end
