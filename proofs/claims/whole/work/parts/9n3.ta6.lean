/-- a fault, as the text's end shows it -/
def xC (v0 : q_V) (f p : Int32) (v : q_V) : Prop := rdk v0 v ∧ q_i v 1805 = 263 ∧ q_i v 1809 = f ∧ q_i v 1810 = p ∧ 0 < f
def xR (w0 : q_V) (f p : Int32) (w : q_V) : Prop := rdK w0 w ∧ q_i w 2408 = f ∧ q_i w 2409 = p ∧ 0 < f
def jd (v0 w0 : q_V) (Q : q_V → q_V → Prop) (X Y : Option q_V) : Prop := ∃ v w, X = some v ∧ Y = some w ∧ ((∃ f p, xC v0 f p v ∧ xR w0 f p w) ∨ Q v w)
section
variable {g : rd_G} {i n p i' n' q d k s l b e e' D Bd : Nat} {C : Nat → Int32} {r : Int32} {R : Nat → Nat → Int32} {K : rd_K} {A : rd_A} {v w v0 w0 v1 w1 : q_V} {f x : Int32}
set_option maxHeartbeats 200000 in
theorem jd_xx {Q : q_V → q_V → Prop} {X Y : Option q_V} (h1 : ∃ v, X = some v ∧ xC v0 f x v) (h2 : ∃ w, Y = some w ∧ xR w0 f x w) : jd v0 w0 Q X Y := by
  obtain ⟨v, a1, a2⟩ := h1
  obtain ⟨w, b1, b2⟩ := h2
  exact ⟨v, w, a1, b1, Or.inl ⟨f, x, a2, b2⟩⟩
set_option maxHeartbeats 200000 in
theorem q_bv_bv {β : Type} {X : Option q_V} {k : q_V → Option q_V} {m : q_V → Option β} : q_bv (q_bv X k) m = q_bv X (fun T => q_bv (k T) m) := by cases X <;> rfl
/-- a parameter, as the class reads one -/
def p_rd (S : q_V) : Option q_V := q_lt ((q_j S 1808) : Int64) (fun z => q_lt ((q_i S 1806) : Int32) (fun y => q_bv (fX9_expect 259 S) (fun T => q_bd (fX9_isStopped T) (fun o T => if o = 0 then fX5_tellParameter z y T else some T))))
set_option maxHeartbeats 200000 in
theorem p_rd_L {N : Nat} {m : Int32} {S : q_V} : fX8_readParameters_L2 (N + 1) m S = if 3000 ≤ m then some S else q_bv (p_rd S) (fun T => fX8_readParameters_b56 m (fun y T => fX8_readParameters_L2 N y T) T) := by
  rw [fX8_readParameters_L2]
  by_cases c : (3000 : Int32) ≤ m
  · rw [if_pos c, if_pos c]; rfl
  · rw [if_neg c, if_neg c]
    unfold p_rd
    rw [q_lt_s, q_lt_s, q_lt_s, q_lt_s]
    cases fX9_expect 259 S with
    | none => rfl
    | some T =>
      rw [q_bv_s, q_bv_s]
      cases fX9_isStopped T with
      | none => rfl
      | some r =>
        obtain ⟨o, T⟩ := r
        rw [q_bd_s, q_bd_s]
        by_cases z : o = 0
        · rw [if_pos z, if_pos z]
        · rw [if_neg z, if_neg z, q_bv_s]
set_option maxHeartbeats 200000 in
/-- a parameter -/
theorem p_one (ok : rd_ok g) (h : St g i n p C i n q d r R K k s l b A e e' v w) (o : ov g i s e e') (hs : s < 1600) (hq : q ≤ Bd) :
    (tkc g i = 259 ∧ ∃ v' w' A1 e1 e1', p_rd v = some v' ∧ fX12_parameter w = some w' ∧ St g (i + 1) n p C (i + 1) n q d r R K (k + 1) (s + 1) l b A1 e1 e1' v' w' ∧ e1 ≤ e ∧ e1' ≤ e' ∧ (e1 = rd_N → s < 8) ∧ ov g (i + 1) (s + 1) e1 e1') ∨ (∃ v' w' f x, p_rd v = some v' ∧ fX12_parameter w = some w' ∧ xc g f x l v' ∧ xr g f x Bd w') := by
  have hm3 := ok.2.2.1.2.2
  have hi := (St_im h).1
  have hin := r_in ok h
  unfold p_rd fX12_parameter
  rw [q_lt_s, q_lt_s, c_place h, q_lt_e (r_i h)]
  by_cases c : tkc g i = 259
  · left
    obtain ⟨v1, a1, s1⟩ := c_exp ok h c (by decide) (by decide)
    obtain ⟨w1, b1, s2⟩ := r_take (c := 259) (x := 2) ok s1 rfl (by decide) c (by decide) (by decide)
    have hi2 := (St_im s2).1
    obtain ⟨v2, w2, e1, e1', d1, d2, d3, d4, d5, d6, d7⟩ := j_par (t := i) ok s2 hi c o hs
    refine ⟨c, v2, w2, _, e1, e1', ?_, ?_, d3, d4, d5, d6, fun z => ⟨tka g i, tka_lt ok (by omega) hi2, (d7 z).1, (d7 z).2⟩⟩
    · rw [a1, q_bv_s, c_stop ok s1, q_bd_s, if_pos rfl, c_name h c, d1]
    · rw [b1, q_bv_s, r_fine s2, q_bd_s, if_neg (show ¬ (1 : Int32) = 0 by decide), if_neg hin.2.1]
      unfold parT at d2
      exact d2
  · right
    obtain ⟨v1, a1, x1⟩ := c_expX h c
    obtain ⟨w1, b1, y1⟩ := r_takeX (c := 259) (x := 2) (Bd := Bd) ok h rfl (by decide) c hq
    exact ⟨v1, w1, _, _, by rw [a1, q_bv_s, x_stop x1, q_bd_s, if_neg (show ¬ (1 : Int32) = 0 by decide)], by rw [b1, q_bv_s, y_fine y1, q_bd_s, if_pos rfl], x1, y1⟩
end
