section
variable {g : rd_G} {i n p i' n' q d k s l b e e' : Nat} {C : Nat → Int32} {r : Int32} {R : Nat → Nat → Int32} {K : rd_K} {A : rd_A} {v w : q_V} {T : co_T} {XL : Int32 → Int32 → Int32 → Prop}
/-- the last loop with this label -/
def lastL (f : Nat → Int64) (b l : Nat) (x : Int64) (y : Int32) : Prop := (y = -1 ∧ ∀ j, b ≤ j → j < l → f j ≠ x) ∨ ∃ j, b ≤ j ∧ j < l ∧ f j = x ∧ y = nI j ∧ ∀ m, j < m → m < l → f m ≠ x
set_option maxHeartbeats 200000 in
theorem lastL_1 {f f' : Nat → Int64} {x : Int64} {y y' : Int32} (hf : ∀ j, j < l → f j = f' j) (h : lastL f b l x y) (h' : lastL f' b l x y') : y = y' := by
  rcases h with ⟨b1, b2⟩ | ⟨j, b0, b1, b2, b3, b4⟩
  · rcases h' with ⟨d1, d2⟩ | ⟨m, d0, d1, d2, d3, d4⟩
    · rw [b1, d1]
    · exact absurd ((hf m d1).trans d2) (b2 m d0 d1)
  · rcases h' with ⟨d1, d2⟩ | ⟨m, d0, d1, d2, d3, d4⟩
    · exact absurd ((hf j b1).symm.trans b2) (d2 j b0 b1)
    · have : j = m := by
        rcases Nat.lt_trichotomy j m with c | c | c
        · exact absurd ((hf m d1).trans d2) (b4 m c d1)
        · exact c
        · exact absurd ((hf j b1).symm.trans b2) (d4 j c b1)
      rw [b3, d3, this]
set_option maxHeartbeats 200000 in
theorem c_loop {x : Int64} (h9 : q_i v 1009 = nI l) (h10 : q_i v 1010 = nI b) (hl : l ≤ 14) (hb : b ≤ l) : ∃ y, fX5_findLoop x v = some (y, v) ∧ lastL (q_b v 1007) b l x y := by
  unfold fX5_findLoop
  rw [h9, if_neg (show ¬ (14 : Int32) < nI l from ni_nlt (a := 14) (by omega) (by omega)), q_lt_s]
  suffices H : ∀ t j N, b + t = j → j ≤ l → t < N → (∀ m, j ≤ m → m < l → q_b v 1007 m ≠ x) → ∃ y, fX5_findLoop_L12 x N (nI j - 1) v = some (y, v) ∧ lastL (q_b v 1007) b l x y from
    H (l - b) l q_N (by omega) (Nat.le_refl _) (by unfold q_N; omega) (fun m h1 h2 => absurd h1 (by omega))
  intro t
  induction t with
  | zero =>
    intro j N hj hjl hN hm
    obtain ⟨N, rfl⟩ : ∃ k, N = k + 1 := ⟨N - 1, by omega⟩
    rw [fX5_findLoop_L12, h10, if_pos]
    · exact ⟨-1, rfl, Or.inl ⟨rfl, fun m h1 h2 => hm m (by omega) h2⟩⟩
    · rw [show j = b by omega]
      by_cases c : b = 0
      · rw [c]; decide
      · obtain ⟨b, rfl⟩ : ∃ k, b = k + 1 := ⟨b - 1, by omega⟩
        rw [ni_pred]; exact ni_plt (by omega) (by omega)
  | succ t ih =>
    intro j N hj hjl hN hm
    obtain ⟨N, rfl⟩ : ∃ k, N = k + 1 := ⟨N - 1, by omega⟩
    obtain ⟨j, rfl⟩ : ∃ k, j = k + 1 := ⟨j - 1, by omega⟩
    rw [ni_pred, fX5_findLoop_L12, h10, if_neg (ni_nlt (by omega) (by omega)), if_neg (ni_nin (by omega) (by omega)), ni_clamp (by omega), lg_if, q_lt_s]
    by_cases z : q_b v 1007 j = x
    · rw [if_pos z]; exact ⟨_, rfl, Or.inr ⟨j, by omega, by omega, z, rfl, fun m h1 h2 => hm m (by omega) h2⟩⟩
    · rw [if_neg z, show nI j + -1 = nI j - 1 from (Int32.sub_eq_add_neg _ _).symm]
      exact ih j N (by omega) (by omega) (by omega) (fun m h1 h2 => by
        by_cases y : m = j
        · rw [y]; exact z
        · exact hm m (by omega) h2)
set_option maxHeartbeats 200000 in
theorem r_loop {x1 : Int32} {w2 x : Int64} {t : Nat} (h9 : q_i w 2445 = nI l) (hl : l ≤ 14) (hb : b ≤ l) (ht : t < 3002) (hx : q_b w 2406 t = x) : ∃ y, fX12_away_L39 x1 w2 q_N (nI t) (-1) (nI b) w = (if y = -1 then q_bv (fX12_bad 5 (nI t) w) (fun T => fX12_away_b127 x1 w2 y T) else fX12_away_b127 x1 w2 y w) ∧ lastL (q_b w 2443) b l x y := by
  suffices H : ∀ u j N y0, j + u = l → b ≤ j → u < N → lastL (q_b w 2443) b j x y0 → ∃ y, fX12_away_L39 x1 w2 N (nI t) y0 (nI j) w = (if y = -1 then q_bv (fX12_bad 5 (nI t) w) (fun T => fX12_away_b127 x1 w2 y T) else fX12_away_b127 x1 w2 y w) ∧ lastL (q_b w 2443) b l x y from
    H (l - b) b q_N (-1) (by omega) (Nat.le_refl _) (by unfold q_N; omega) (Or.inl ⟨rfl, fun m h1 h2 => absurd h1 (by omega)⟩)
  intro u
  induction u with
  | zero =>
    intro j N y0 hj hbj hN hy
    obtain ⟨N, rfl⟩ : ∃ k, N = k + 1 := ⟨N - 1, by omega⟩
    rw [fX12_away_L39, h9, if_pos (ni_ple (by omega) (by omega))]
    have : j = l := by omega
    subst this
    exact ⟨y0, rfl, hy⟩
  | succ u ih =>
    intro j N y0 hj hbj hN hy
    obtain ⟨N, rfl⟩ : ∃ k, N = k + 1 := ⟨N - 1, by omega⟩
    rw [fX12_away_L39, h9, if_neg (ni_nle (by omega) (by omega)), if_neg (ni_nin (by omega) (by omega)), if_neg (ni_nin ht (by omega)), ni_clamp (by omega), ni_clamp (by omega), hx, lg_if]
    unfold fX12_away_b73
    rw [q_lt_s, ni_add1]
    by_cases z : q_b w 2443 j = x
    · rw [if_pos z]
      exact ih (j + 1) N (nI j) (by omega) (by omega) (by omega) (Or.inr ⟨j, hbj, by omega, z, rfl, fun m h1 h2 => absurd h1 (by omega)⟩)
    · rw [if_neg z, q_lt_s]
      refine ih (j + 1) N y0 (by omega) (by omega) (by omega) ?_
      rcases hy with ⟨b1, b2⟩ | ⟨j0, b0, b1, b2, b3, b4⟩
      · exact Or.inl ⟨b1, fun m h1 h2 => by
          by_cases c : m = j
          · rw [c]; exact z
          · exact b2 m h1 (by omega)⟩
      · exact Or.inr ⟨j0, b0, by omega, b2, b3, fun m h1 h2 => by
          by_cases c : m = j
          · rw [c]; exact z
          · exact b4 m h1 (by omega)⟩
set_option maxHeartbeats 200000 in
theorem wy_lv : ∀ j, j < 14 → (∀ x, x < 64 → ((8 : Int64) <<< ((nI j).toInt64 &&& 63)).toBitVec.getLsbD x = wf ((8 : Int32) <<< ((2 * nI j) &&& 31)) x) ∧ (∀ x, x < 64 → ((1048576 : Int64) <<< ((nI j).toInt64 &&& 63)).toBitVec.getLsbD x = wf ((16 : Int32) <<< ((2 * nI j) &&& 31)) x) ∧ (∀ x, x < 32 → 5 + 2 * j ≤ x → ((8 : Int32) <<< ((2 * nI j) &&& 31)).toBitVec.getLsbD x = false ∧ ((16 : Int32) <<< ((2 * nI j) &&& 31)).toBitVec.getLsbD x = false) := by decide +kernel
set_option maxHeartbeats 200000 in
theorem wy_l1 {j : Nat} (hj : j < 14) (hl : j < l) : wy l ((8 : Int32) <<< ((2 * nI j) &&& 31)) ((8 : Int64) <<< ((nI j).toInt64 &&& 63)) ∧ wy l ((16 : Int32) <<< ((2 * nI j) &&& 31)) ((1048576 : Int64) <<< ((nI j).toInt64 &&& 63)) := by
  obtain ⟨h1, h2, h3⟩ := wy_lv j hj
  refine ⟨⟨h1, fun x hx => ?_⟩, ⟨h2, fun x hx => ?_⟩⟩
  · by_cases c : x < 32
    · exact (h3 x c (by omega)).1
    · exact BitVec.getLsbD_of_ge _ _ (by omega)
  · by_cases c : x < 32
    · exact (h3 x c (by omega)).2
    · exact BitVec.getLsbD_of_ge _ _ (by omega)
set_option maxHeartbeats 200000 in
theorem lsO_in {f : Nat → Nat × Nat} : ∀ t j, b ≤ j → j < b + t → f j ∈ lsO f b t := by
  intro t
  induction t with
  | zero => intro j h1 h2; omega
  | succ t ih =>
    intro j h1 h2
    rw [lsO]
    by_cases c : j = b + t
    · rw [c]; exact List.mem_cons_self ..
    · exact List.mem_cons_of_mem _ (ih j h1 (by omega))
set_option maxHeartbeats 200000 in
/-- the end of leave and again -/
theorem t_awayE {x y : Int32} {bit : Int64} {o : Bool} {i1 e1 e1' : Nat} {f : Int32} (ok : rd_ok g) (hn : 1 ≤ n) (hn2 : n ≤ 14) (ho : (o = true ∧ x = 40 ∧ y = 39 ∧ bit = 8) ∨ (o = false ∧ x = 41 ∧ y = 40 ∧ bit = 1048576)) (z : z0 g i p q K.length) (ov1 : ov g i s e e') (hi : i < i1) (hk : ∀ m, i ≤ m → m < i1 → tkc g m ≠ 300) (S : St g i1 n p C i1 n q d r R K k s l b A e1 e1' v w) (he : e1 ≤ e ∧ e1' ≤ e') (hf : (f = -1 ∧ e1 ≠ rd_N) ∨ ∃ j, b ≤ j ∧ j < l ∧ f = nI j) :
    jn g l (3300 + 20 * (15 - n)) (SPT g n i p C q d R K k s l b A e e') (fX8_leaveOrAgain_b69 x f v) (fX12_away_b127 y bit f w) := by
  have zp := z0_p ok z
  have hL := ok.1
  have t9 := tka_L ok i1
  obtain ⟨z1, z2, z3⟩ := z
  have N := S.2.2.2.2.2.1
  have hl := N.2.2.2.1.2.2.1
  have hi1 := (St_im S).1
  have t1 := tka_lt ok hi hi1
  have x41 : x ≠ 41 ∨ x = 41 := by by_cases c : x = 41 <;> simp [c]
  have hy41 : y ≠ 41 ∧ y ≠ 19 := by rcases ho with h | h <;> (rw [h.2.2.1]; decide)
  -- what both find
  obtain ⟨c1, d1, hw1, hw2, hd⟩ : ∃ c1 d1 : Int32, fX5_roundOf f v = some (c1, v) ∧ (∀ w', q_a w' 2444 = q_a w 2444 → (if f = -1 then fX12_away_b152 y bit f (-1) y w' else if f < 0 ∨ 20 ≤ f.toNatClampNeg then none else fX12_away_b152 y bit f (q_a w' 2444 f.toNatClampNeg) y w') = fX12_away_b152 y bit f d1 y w') ∧ (e1 = rd_N → ∃ j, b ≤ j ∧ j < l ∧ c1 = nI (A.1 j).1 ∧ d1 = nI (A.1 j).2) := by
    rcases hf with ⟨h1, h2⟩ | ⟨j, h1, h2, h3⟩
    · subst h1
      refine ⟨0, -1, rfl, fun w' _ => by rw [if_pos rfl], fun z => absurd z h2⟩
    · subst h3
      have nn : nI j ≠ -1 := m1_n (by omega)
      refine ⟨nI (A.1 j).1, nI (A.1 j).2, ?_, fun w' hw' => ?_, fun _ => ⟨j, h1, h2, rfl, rfl⟩⟩
      · unfold fX5_roundOf fX5_roundOf_b19 fX5_roundOf_b20
        rw [if_neg (by rw [ni_neg (by omega)]; exact not_false), if_neg (show ¬ (14 : Int32) ≤ nI j from ni_nle (a := 14) (by omega) (by omega)), if_neg (ni_nin (by omega) (by omega)), ni_clamp (by omega), (N.2.2.2.2.2 j h2).2.1]
      · rw [if_neg nn, if_neg (ni_nin (by omega) (by omega)), ni_clamp (by omega), hw', (N.2.2.2.2.2 j h2).2.2]
  obtain ⟨v3, a3, s3⟩ := c_add2 (x := x) (y := c1) ok S (by omega)
  unfold fX8_leaveOrAgain_b69 fX12_away_b127
  rw [hw1, q_bd_s, a3, q_bd_s]
  -- the ways
  obtain ⟨oo, zz, ho1, ho2, hwy⟩ : ∃ (oo : Int32) (zz : Int64), (∀ u : q_V, (if x = 40 then q_bd (fX10_leaveOf f u) (fun y2012 T2011 => fX8_leaveOrAgain_b112 x y2012 T2011) else q_bd (fX10_againOf f u) (fun y2010 T2009 => fX8_leaveOrAgain_b112 x y2010 T2009)) = some (oo, u)) ∧ (∀ u : q_V, (if f = -1 then fX12_away_b171 y bit 0 u else fX12_away_b171 y bit (bit <<< (f.toInt64 &&& 63)) u) = some (zz, u)) ∧ wy l oo zz := by
    unfold fX8_leaveOrAgain_b112 fX12_away_b171
    rcases hf with ⟨h1, h2⟩ | ⟨j, h1, h2, h3⟩
    · subst h1
      refine ⟨0, 0, fun u => ?_, fun u => by rw [if_pos rfl], wy_k.1⟩
      split <;> rfl
    · subst h3
      have nn : nI j ≠ -1 := m1_n (by omega)
      have W := wy_l1 (show j < 14 by omega) h2
      rcases ho with ho | ho
      · refine ⟨_, _, fun u => ?_, fun u => by rw [if_neg nn], by rw [ho.2.2.2]; exact W.1⟩
        unfold fX10_leaveOf fX10_leaveOf_b14
        rw [if_pos ho.2.1, if_neg (by rw [ni_neg (by omega)]; exact not_false), q_bd_s]
      · refine ⟨_, _, fun u => ?_, fun u => by rw [if_neg nn], by rw [ho.2.2.2]; exact W.2⟩
        unfold fX10_againOf fX10_againOf_b14
        rw [if_neg (by rw [ho.2.1]; decide), if_neg (by rw [ni_neg (by omega)]; exact not_false), q_bd_s]
  by_cases c59 : tkc g i1 = 59
  · obtain ⟨v4, a4, s4⟩ := c_exp ok s3 c59 (by decide) (by decide)
    obtain ⟨w5, b5, s5⟩ := r_takeS (c := 59) ok s4 rfl (by decide) c59 (by decide) (by decide)
    obtain ⟨w6, b6, s6⟩ := r_emit (o := y) (a := d1) (c := 0) s5 (by omega)
    have f5 : q_a w5 2444 = q_a w 2444 := by
      have e5 := b5
      unfold fX12_takeSign fX12_take fX12_take_b25 at e5
      rw [r_is (c := 59) (x := 100 + 59) ok s4 rfl (by decide), q_bd_s, if_pos c59, if_neg (by decide), q_lt_s, q_bv_s] at e5
      have := Option.some.inj e5
      rw [← this]; rfl
    unfold fX12_away_b152
    rw [a4, q_bv_s, ho1, b5, q_bv_s]
    have e7 := hw2 w5 f5
    unfold fX12_away_b152 at e7
    rw [e7, b6, q_bd_s, ho2]
    have him6 := (St_im s6).1
    have t2 := tka_lt ok (show i1 < i1 + 1 by omega) him6
    refine jn_qq ⟨i1 + 1, p + 2, _, q + 1, d, r, _, K, k, s, A, e1, e1', [], ⟨s6, ⟨by omega, by omega, by omega, by omega, by omega, by omega, by omega, by omega, by omega, by omega, by omega⟩, ⟨fun x hx => by rw [upd_ne (by omega), upd_ne (by omega)], fun j x hj hx => rE_x (by omega), fun j x hj _ => by rw [rE_j hj], [], rfl⟩, fun u h1 h2 => ?_, ⟨rfl, hwy, fun z => z⟩, he, ov_m ok ov1 (by omega) him6 he.1 he.2, fun x h1 h2 => ?_, fun T XL x1 x2 x3 x4 => ⟨?_, fun y hy => absurd hy (by simp)⟩⟩, by omega, by omega⟩
    · by_cases cu : u = i1
      · rw [cu, c59]; decide
      · exact hk u h1 (by omega)
    · rw [show x = q by omega, rE_0, upd_at]; exact fun z => absurd z hy41.1
    · obtain ⟨j, j1, j2, j3, j4⟩ := hd x3
      have c0 := ag_c x2 (Nat.le_refl p) (by omega)
      have c1' := ag_c x2 (show p ≤ p + 1 by omega) (by omega)
      have r0 := ag_r0 x2 (Nat.le_refl q) (by omega)
      have r1 := ag_r1 x2 (Nat.le_refl q) (by omega) (by rw [rE_0, upd_at]; exact hy41.2)
      rw [upd_ne (by omega), upd_at] at c0
      rw [upd_at, j3] at c1'
      rw [rE_0, upd_at] at r0
      rw [rE_1, upd_at, j4] at r1
      have hin : A.1 j ∈ lsO A.1 b (l - b) := lsO_in (l - b) j j1 (by omega)
      refine fun Fin a S f0 H => ru_STS (ru_LV (o := o) (at_ := (A.1 j).1) (d_ := (A.1 j).2) hin ?_ c1' ?_ r1)
      · rcases ho with ho | ho
        · rw [ho.1, if_pos rfl]; rw [ho.2.1] at c0; exact c0
        · rw [ho.1, if_neg (by decide)]; rw [ho.2.1] at c0; exact c0
      · rcases ho with ho | ho
        · rw [ho.1, if_pos rfl]; rw [ho.2.2.1] at r0; exact r0
        · rw [ho.1, if_neg (by decide)]; rw [ho.2.2.1] at r0; exact r0
  · obtain ⟨v4, a4, x4⟩ := c_expX s3 c59
    obtain ⟨w5, b5, y5⟩ := r_takeSX (c := 59) (Bd := 3011) ok s3 rfl (by decide) c59 (by omega)
    rw [a4, q_bv_s, ho1, b5, q_bv_s]
    refine jn_xx (cG_s x4) ?_
    have b152 : ∀ u : Int32, rG g (rf g i1) (nI (tka g i1)) (3300 + 20 * (15 - n)) (fX12_away_b152 y bit f u y w5) := by
      intro u
      unfold fX12_away_b152
      refine rG_d (y_emit (by omega) y5) (fun a w h => ?_)
      rw [ho2]; exact rG_s (xr_le h (by omega))
    refine rG_i (fun _ => b152 _) (fun c => ?_)
    rcases hf with ⟨h1, h2⟩ | ⟨j, h1, h2, h3⟩
    · exact absurd h1 c
    · rw [h3, if_neg (ni_nin (by omega) (by omega)), ← h3]; exact b152 _
set_option maxHeartbeats 200000 in
/-- leave and again -/
theorem t_away {x y : Int32} {bit : Int64} {o : Bool} (ok : rd_ok g) (hn : 1 ≤ n) (hn2 : n ≤ 14) (ho : (o = true ∧ x = 40 ∧ y = 39 ∧ bit = 8) ∨ (o = false ∧ x = 41 ∧ y = 40 ∧ bit = 1048576)) (hc : tkc g i ≠ 261 ∧ tkc g i ≠ 262 ∧ tkc g i ≠ 300) : TS g n i (fX8_leaveOrAgain x) (fX12_away y bit) := by
  intro p C q d R K k s l b A e e' v w h z ov1 hln
  obtain ⟨z, zd, zs⟩ := z
  have hm3 := ok.2.2.1.2.2
  have hN : rd_N = 1000000 := rfl
  have hL := ok.1
  obtain ⟨v1, a1, s1⟩ := c_adv ok h hc.1 hc.2.1
  have s2 := r_now ok s1 hc.1 hc.2.1
  have him := (St_im s2).1
  have hk : ∀ m, i ≤ m → m < i + 1 → tkc g m ≠ 300 := fun m h1 h2 => by rw [show m = i by omega]; exact hc.2.2
  have N := s2.2.2.2.2.2.1
  have ta := tka_L ok i
  have tb := tka_L ok (i + 1)
  unfold fX8_leaveOrAgain fX12_away
  rw [q_lt_s, c_place h, a1, q_bv_s, c_kind s1, q_lt_e (r_i h), q_lt_s, q_lt_e (r_i s2)]
  by_cases c1 : tkc g (i + 1) = 259
  · obtain ⟨w3, b3, s3⟩ := r_skip (c := 259) (x := 2) ok s2 rfl (by decide) c1 (by decide) (by decide)
    have N3 := s3.2.2.2.2.2.1
    obtain ⟨f, l1, l2⟩ := c_loop (v := v1) (x := tkw g (i + 1)) N3.2.2.2.1.1 N3.2.2.2.1.2.2.2.1 N3.2.2.2.1.2.2.1 N3.2.2.2.1.2.2.2.2.2
    obtain ⟨f', m1, m2⟩ := r_loop (x1 := y) (w2 := bit) (t := i + 1) (x := tkw g (i + 1)) N3.2.2.2.1.2.1 N3.2.2.2.1.2.2.1 N3.2.2.2.1.2.2.2.2.2 (by omega) (r_name ok s3 him c1)
    have ef : f = f' := lastL_1 (fun j hj => (N3.2.2.2.2.2 j hj).1) l2 m2
    subst ef
    rw [if_pos c1, b3, q_bd_s, if_neg (show ¬ (1 : Int32) = 0 by decide), N3.2.2.2.1.2.2.2.2.1, q_lt_s, m1, c_name s1 c1, c_place s1]
    unfold fX5_loopLabelled fX5_loopLabelled_b19
    rw [l1, q_bd_s]
    have hk2 : ∀ m, i ≤ m → m < i + 2 → tkc g m ≠ 300 := fun m h1 h2 => by
      by_cases c : m = i
      · rw [c]; exact hc.2.2
      · rw [show m = i + 1 by omega, c1]; decide
    by_cases fn : f = -1
    · obtain ⟨v4, w4, a4, b4, s4⟩ := j_blame (x := 5) (t := i + 1) ok s3 him (by omega) (by omega)
      obtain ⟨v5, a5, s5⟩ := c_adv ok s4 (by rw [c1]; decide) (by rw [c1]; decide)
      rw [if_pos fn, show (5 : Int32) = nI 5 from rfl, a4, q_bv_s, q_bd_s, a5, q_bv_s, if_pos fn, b4, q_bv_s]
      exact t_awayE ok hn hn2 ho z ov1 (by omega) hk2 s5 ⟨by omega, by omega⟩ (Or.inl ⟨fn, by omega⟩)
    · obtain ⟨v5, a5, s5⟩ := c_adv ok s3 (by rw [c1]; decide) (by rw [c1]; decide)
      rw [if_neg fn, q_bd_s, a5, q_bv_s, if_neg fn]
      refine t_awayE ok hn hn2 ho z ov1 (by omega) hk2 s5 ⟨Nat.le_refl _, Nat.le_refl _⟩ (Or.inr ?_)
      rcases l2 with ⟨q1, q2⟩ | ⟨j, q0, q1, q2, q3, q4⟩
      · exact absurd q1 fn
      · exact ⟨j, q0, q1, q3⟩
  · rw [if_neg c1, r_skipN (c := 259) (x := 2) ok s2 rfl (by decide) c1, q_bd_s, if_pos rfl, N.2.2.2.1.2.1, N.2.2.2.1.2.2.2.2.1]
    unfold fX5_innermostLoop
    rw [N.2.2.2.1.1, N.2.2.2.1.2.2.2.1]
    have hl := N.2.2.2.1.2.2.1
    have hbl := N.2.2.2.1.2.2.2.2.2
    by_cases cl : l ≤ b
    · obtain ⟨v4, w4, a4, b4, s4⟩ := j_blame (x := 6) (t := i) ok s2 (by omega) (by omega) (by omega)
      rw [if_pos (ni_ple cl (by omega)), if_pos (ni_ple cl (by omega)), show (6 : Int32) = nI 6 from rfl, a4, q_bv_s, q_bd_s, b4, q_bv_s]
      exact t_awayE ok hn hn2 ho z ov1 (by omega) hk s4 ⟨by omega, by omega⟩ (Or.inl ⟨rfl, by omega⟩)
    · obtain ⟨l', rfl⟩ : ∃ x, l = x + 1 := ⟨l - 1, by omega⟩
      rw [if_neg (ni_nle (by omega) (by omega)), if_neg (ni_nle (by omega) (by omega)), q_bd_s, q_lt_s, ni_pred]
      exact t_awayE ok hn hn2 ho z ov1 (by omega) hk s2 ⟨Nat.le_refl _, Nat.le_refl _⟩ (Or.inr ⟨l', by omega, by omega, rfl⟩)
end
