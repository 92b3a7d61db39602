section
variable {g : rd_G} {i n p i' n' q d k s l b e e' D : Nat} {C : Nat → Int32} {r : Int32} {R : Nat → Nat → Int32} {K : rd_K} {A : rd_A} {v w v0 w0 v1 w1 : q_V}
set_option maxHeartbeats 200000 in
/-- the reference looks a duty up -/
theorem r_dutyOf {x : Int64} {nm : Nat → Int64} {f : Nat} (h3 : q_i w 2433 = nI D) (hD : D < 320) (hn : ∀ j, j < D → q_b w 2427 j = nm j) (h1 : ∀ m, m < f → m < D → nm m ≠ x) (h2 : f < D → nm f = x) : fX12_dutyOf x w = some (if f < D then nI f else -1, w) := by
  suffices H : ∀ t j N, D - j = t → t < N → j ≤ D → j ≤ f → fX12_dutyOf_L2 x N (nI j) w = some (if f < D then nI f else -1, w) from H D 0 q_N rfl (by unfold q_N; omega) (by omega) (by omega)
  intro t
  induction t with
  | zero =>
    intro j N hj hN hjD hjf
    obtain ⟨N, rfl⟩ : ∃ y, N = y + 1 := ⟨N - 1, by omega⟩
    rw [fX12_dutyOf_L2, h3, if_pos (ni_ple (by omega) (by omega)), if_neg (by omega)]
  | succ t ih =>
    intro j N hj hN hjD hjf
    obtain ⟨N, rfl⟩ : ∃ y, N = y + 1 := ⟨N - 1, by omega⟩
    rw [fX12_dutyOf_L2, h3, if_neg (ni_nle (by omega) (by omega)), if_neg (ni_nin (by omega) (by omega)), ni_clamp (by omega), hn j (by omega), lg_if, q_lt_s, ni_add1]
    by_cases c : j = f
    · rw [if_pos (by rw [c]; exact h2 (by omega)), c, if_pos (by omega)]
    · rw [if_neg (h1 j (by omega) (by omega))]
      exact ih (j + 1) N (by omega) (by omega) (by omega) (by omega)
/-- a duty's fact in the class's book -/
def cF (D f : Nat) (x : Int32) (v : q_V) : q_V := if D < 30 then q_sa v 2 (upd (q_a v 2) (5 * D + f) x) else v
set_option maxHeartbeats 200000 in
theorem cF_ce {f : Nat} {x : Int32} (h : ce v0 v) : ce v0 (cF D f x v) := by
  unfold cF; split
  · exact ce_a h
  · exact h
set_option maxHeartbeats 200000 in
theorem cF_i {f : Nat} {x : Int32} : q_i (cF D f x v) = q_i v := by unfold cF; split <;> rfl
set_option maxHeartbeats 200000 in
theorem c_fact {f : Nat} {x : Int32} (hn : q_n v 2 = 150) (hf : f < 5) (hD : D < 320) : fX0_setFact (nI D) (nI f) x v = some (cF D f x v) := by
  unfold fX0_setFact fX0_setFact_b35 cF
  rw [ni_5, q_lt_s, if_neg (by rw [ni_neg (by omega)]; exact not_false), hn]
  by_cases c : D < 30
  · rw [if_neg (show ¬ (30 : Int32) ≤ nI D from ni_nle (a := 30) (by omega) (by omega)), if_neg (ni_nle (by omega) (by omega)), if_neg (ni_nin (by omega) (by omega)), q_lt_s, ni_clamp (by omega), if_pos c]
  · rw [if_pos (show (30 : Int32) ≤ nI D from ni_ple (a := 30) (by omega) (by omega)), if_neg c]
/-- what a duty's beginning blames -/
def dE (g : rd_G) (D t e : Nat) : Nat := if D < 30 then (if fdn g (tkw g t) < D then min e (16 * tka g t + 4) else e) else min (if fdn g (tkw g t) < D then min e (16 * tka g t + 4) else e) (16 * tka g t + 8)
set_option maxHeartbeats 200000 in
theorem fdn_D {x : Int64} (h : gn g D = x) (hD : D < gd g) : fdn g x ≤ D ∧ fdn g x < gd g ∧ (∀ m, m < fdn g x → gn g m ≠ x) ∧ gn g (fdn g x) = x := by
  obtain ⟨a, b, c⟩ := fd_s (g := g) (x := x) (gd g) 0
  have e : fdn g x ≤ D := by
    rcases Nat.lt_or_ge D (fdn g x) with z | z
    · exact absurd h (c D (by omega) z)
    · exact z
  refine ⟨e, by omega, fun m hm => c m (by omega) hm, (a ?_).2⟩
  show fdn g x < 0 + gd g
  omega
set_option maxHeartbeats 200000 in
theorem bo_i {k1 k2 j : Nat} {x y : Int32} (h : v1 = v ∨ v1 = q_si (q_si v k1 x) k2 y) (h1 : j ≠ k1) (h2 : j ≠ k2) : q_i v1 j = q_i v j := by
  rcases h with h | h
  · rw [h]
  · rw [h, q_i_ne h2, q_i_ne h1]
set_option maxHeartbeats 200000 in
theorem bo_a {k1 k2 : Nat} {x y : Int32} (h : v1 = v ∨ v1 = q_si (q_si v k1 x) k2 y) : q_a v1 = q_a v ∧ q_b v1 = q_b v ∧ q_j v1 = q_j v := by
  rcases h with h | h
  · rw [h]; exact ⟨rfl, rfl, rfl⟩
  · rw [h]; exact ⟨rfl, rfl, rfl⟩
set_option maxHeartbeats 200000 in
/-- the class begins a duty -/
theorem d_cb {t : Nat} (ok : rd_ok (reb g v w)) (hb : bl 1011 1012 e v) (hx : gn g D = tkw g t) (hD : D < gd g) : ∃ v', fX5_beginDuty (nI D) (tkw g t) (nI (tka g t)) v = some v' ∧ bl 1011 1012 (dE g D t e) v' ∧ ce v v' ∧ (q_i v' 1005 = 0 ∧ q_i v' 1006 = 0 ∧ q_i v' 1009 = 0 ∧ q_i v' 1010 = 0) ∧ q_i v' 3 = q_i v 3 ∧ q_a v' = q_a v ∧ q_i v' 1604 = q_i v 1604 := by
  have hL : gL g ≤ 3000 := ok.1
  have hN : rd_N = 1000000 := rfl
  have hta : tka g t ≤ gL g := (tk_al ok.1 t).2
  have hg : gd g ≤ 300 := ok.2.2.2.1
  have tb := ok.2.2.2.2.2.2.1
  obtain ⟨f1, f2, f3, f4⟩ := fdn_D hx hD
  have cr : ce v (q_si (q_si (q_si (q_si v 1005 0) 1006 0) 1009 0) 1010 0) := ce_i (ce_i (ce_i (ce_i ce_0 (by omega)) (by omega)) (by omega)) (by omega)
  have kd : fX5_dutyNamed (tkw g t) (q_si (q_si (q_si (q_si v 1005 0) 1006 0) 1009 0) 1010 0) = some (nI (fdn g (tkw g t)), q_si (q_si (q_si (q_si v 1005 0) 1006 0) 1009 0) 1010 0) := by
    rw [c_duty (g := g) (by rw [cr.1 1002 (by omega)]; exact tb.1) hg (fun d hd => by rw [cr.2.2.2.1]; exact (tb.2 d hd).1), if_pos f2]
  have hbr : bl 1011 1012 e (q_si (q_si (q_si (q_si v 1005 0) 1006 0) 1009 0) 1010 0) := by
    unfold bl at hb ⊢
    rw [q_i_ne (by omega), q_i_ne (by omega), q_i_ne (by omega), q_i_ne (by omega), q_i_ne (by omega), q_i_ne (by omega), q_i_ne (by omega), q_i_ne (by omega)]; exact hb
  have hr : (q_i (q_si (q_si (q_si (q_si v 1005 0) 1006 0) 1009 0) 1010 0) 1005 = 0 ∧ q_i (q_si (q_si (q_si (q_si v 1005 0) 1006 0) 1009 0) 1010 0) 1006 = 0 ∧ q_i (q_si (q_si (q_si (q_si v 1005 0) 1006 0) 1009 0) 1010 0) 1009 = 0 ∧ q_i (q_si (q_si (q_si (q_si v 1005 0) 1006 0) 1009 0) 1010 0) 1010 = 0) ∧ q_i (q_si (q_si (q_si (q_si v 1005 0) 1006 0) 1009 0) 1010 0) 3 = q_i v 3 ∧ q_a (q_si (q_si (q_si (q_si v 1005 0) 1006 0) 1009 0) 1010 0) = q_a v ∧ q_i (q_si (q_si (q_si (q_si v 1005 0) 1006 0) 1009 0) 1010 0) 1604 = q_i v 1604 := by
    refine ⟨⟨rfl, rfl, rfl, rfl⟩, rfl, rfl, rfl⟩
  unfold fX5_beginDuty fX5_beginDuty_b46 fX5_beginDuty_b60
  rw [q_lt_s, q_lt_s, q_lt_s, q_lt_s, kd, q_bd_s, if_neg (m1_n (by omega))]
  generalize q_si (q_si (q_si (q_si v 1005 0) 1006 0) 1009 0) 1010 0 = vr at *
  obtain ⟨v2, e2, a1, a2, a3⟩ : ∃ v2 e2, (∀ F : q_V → Option q_V, (if nI D ≤ nI (fdn g (tkw g t)) then F vr else q_bv (fX5_blame 4 (nI (tka g t)) vr) F) = F v2) ∧ (e2 = (if fdn g (tkw g t) < D then min e (16 * tka g t + 4) else e) ∧ bl 1011 1012 e2 v2) ∧ (v2 = vr ∨ v2 = q_si (q_si vr 1011 (nI 4)) 1012 (nI (tka g t))) := by
    by_cases c : fdn g (tkw g t) < D
    · obtain ⟨v2, x1, x2, x3⟩ := c_blm (x := 4) (y := tka g t) hbr (by omega) (by omega) (by omega)
      refine ⟨v2, _, fun F => ?_, ⟨rfl, by rw [if_pos c]; exact x2⟩, x3⟩
      rw [if_neg (ni_nle (by omega) (by omega)), show (4 : Int32) = nI 4 from rfl, x1, q_bv_s]
    · refine ⟨vr, _, fun F => ?_, ⟨rfl, by rw [if_neg c]; exact hbr⟩, Or.inl rfl⟩
      rw [if_pos (ni_ple (by omega) (by omega))]
  rw [a1 (fun T => if nI D < 30 then some T else q_bv (fX5_blame 8 (nI (tka g t)) T) fun T2001 => some T2001)]
  by_cases c : D < 30
  · rw [if_pos (show nI D < 30 from ni_plt (b := 30) c (by omega))]
    refine ⟨v2, rfl, ?_, ce_o cr a3, ?_, ?_, ?_, ?_⟩
    · unfold dE; rw [if_pos c, ← a2.1]; exact a2.2
    · rw [bo_i a3 (by omega) (by omega), bo_i a3 (by omega) (by omega), bo_i a3 (by omega) (by omega), bo_i a3 (by omega) (by omega)]; exact hr.1
    · rw [bo_i a3 (by omega) (by omega)]; exact hr.2.1
    · rw [(bo_a a3).1]; exact hr.2.2.1
    · rw [bo_i a3 (by omega) (by omega)]; exact hr.2.2.2
  · obtain ⟨v3, x1, x2, x3⟩ := c_blm (x := 8) (y := tka g t) a2.2 (by omega) (by omega) (by omega)
    rw [if_neg (show ¬ nI D < 30 from ni_nlt (b := 30) (by omega) (by omega)), show (8 : Int32) = nI 8 from rfl, x1, q_bv_s]
    refine ⟨v3, rfl, ?_, ce_o (ce_o cr a3) x3, ?_, ?_, ?_, ?_⟩
    · unfold dE; rw [if_neg c, ← a2.1]; exact x2
    · rw [bo_i x3 (by omega) (by omega), bo_i x3 (by omega) (by omega), bo_i x3 (by omega) (by omega), bo_i x3 (by omega) (by omega), bo_i a3 (by omega) (by omega), bo_i a3 (by omega) (by omega), bo_i a3 (by omega) (by omega), bo_i a3 (by omega) (by omega)]; exact hr.1
    · rw [bo_i x3 (by omega) (by omega), bo_i a3 (by omega) (by omega)]; exact hr.2.1
    · rw [(bo_a x3).1, (bo_a a3).1]; exact hr.2.2.1
    · rw [bo_i x3 (by omega) (by omega), bo_i a3 (by omega) (by omega)]; exact hr.2.2.2
set_option maxHeartbeats 200000 in
/-- the reference begins a duty -/
theorem d_rb {t : Nat} (ok : rd_ok (reb g v w)) (ht : t ≤ gm g) (hc : tkc g t = 259) (h0 : q_i w 2408 = 0) (hb : br e' w) (hx : gn g D = tkw g t) (hD : D < gd g) (h3 : q_i w 2433 = nI D) (hn : ∀ j, j < D → q_b w 2427 j = gn g j) : ∃ w1, q_bd (fX12_dutyOf (q_b w 2406 t) w) (fun y8 T7 => if y8 = (-1) then fX12_duty_b44 (nI t) T7 else q_bv (fX12_bad 4 (nI t) T7) (fun T9 => fX12_duty_b44 (nI t) T9)) = fX12_duty_b60 (nI t) w1 ∧ br (dE g D t e') w1 ∧ sb2 w w1 := by
  have hL : gL g ≤ 3000 := ok.1
  have hm : gm g ≤ 3000 := ok.2.2.1.2.2
  have hN : rd_N = 1000000 := rfl
  have hta : tka g t ≤ gL g := (tk_al ok.1 t).2
  have hg : gd g ≤ 300 := ok.2.2.2.1
  have tk := ok.2.2.2.2.2.2.2 t (by show t < gm g + 1; omega)
  have hnm : q_b w 2406 t = tkw g t := tk.2.2.1 hc
  have hpl : q_a w 2405 t = nI (tka g t) := tk.2.1
  obtain ⟨f1, f2, f3, f4⟩ := fdn_D hx hD
  rw [hnm, r_dutyOf h3 (by omega) hn (fun m hm _ => f3 m hm) (fun _ => f4), q_bd_s]
  obtain ⟨w2, e2, a1, a2, a3⟩ : ∃ w2 e2, (if (if fdn g (tkw g t) < D then nI (fdn g (tkw g t)) else -1) = (-1) then fX12_duty_b44 (nI t) w else q_bv (fX12_bad 4 (nI t) w) (fun T9 => fX12_duty_b44 (nI t) T9)) = fX12_duty_b44 (nI t) w2 ∧ (e2 = (if fdn g (tkw g t) < D then min e' (16 * tka g t + 4) else e') ∧ br e2 w2) ∧ sb2 w w2 := by
    by_cases c : fdn g (tkw g t) < D
    · obtain ⟨w2, x1, x2, x3⟩ := r_blm (g := g) (x := 4) hb h0 (t := t) (by omega) hpl (by omega) (by omega) (by omega)
      refine ⟨w2, _, ?_, ⟨rfl, by rw [if_pos c]; exact x2⟩, sb2_o x3⟩
      rw [if_pos c, if_neg (m1_n (by omega)), show (4 : Int32) = nI 4 from rfl, x1, q_bv_s]
    · refine ⟨w, _, ?_, ⟨rfl, by rw [if_neg c]; exact hb⟩, sb2_0⟩
      rw [if_neg c, if_pos rfl]
  rw [a1]
  unfold fX12_duty_b44
  rw [(sb2_i a3 (by omega)).trans h3]
  by_cases c : D < 30
  · rw [if_pos (show nI D < 30 from ni_plt (b := 30) c (by omega))]
    refine ⟨w2, rfl, ?_, a3⟩
    unfold dE; rw [if_pos c, ← a2.1]; exact a2.2
  · obtain ⟨w3, x1, x2, x3⟩ := r_blm (g := g) (x := 8) a2.2 ((sb2_i a3 (by omega)).trans h0) (t := t) (by omega) (by rw [(sb2_r a3).1]; exact hpl) (by omega) (by omega) (by omega)
    rw [if_neg (show ¬ nI D < 30 from ni_nlt (b := 30) (by omega) (by omega)), show (8 : Int32) = nI 8 from rfl, x1, q_bv_s]
    refine ⟨w3, rfl, ?_, sb2_t a3 (sb2_o x3)⟩
    unfold dE; rw [if_neg c, ← a2.1]; exact x2
end
