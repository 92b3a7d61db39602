/-- the same text, with other views to hold against -/
def reb (g : rd_G) (v w : q_V) : rd_G := (g.1, g.2.1, g.2.2.1, g.2.2.2.1, g.2.2.2.2.1, g.2.2.2.2.2.1, v, w)
/-- what both hold, whatever else changed -/
def SC (g : rd_G) (i n p : Nat) (C : Nat → Int32) (i' n' q d : Nat) (r : Int32) (R : Nat → Nat → Int32) (K : rd_K) (k s l b : Nat) (A : rd_A) (e e' : Nat) (v w : q_V) : Prop := sT g i n v ∧ sB p C v ∧ sR g i' n' q d r R K w ∧ sN k s l b e A v w ∧ sM g e e' K v w
/-- what reading leaves alone -/
def rdk (v0 v : q_V) : Prop := (∀ k, (4 ≤ k ∧ k < 1000 ∨ 1013 ≤ k ∧ k < 1604 ∨ 1605 ≤ k ∧ k < 1802 ∨ 1811 ≤ k) → q_i v k = q_i v0 k) ∧ (∀ k, k ≠ 1808 → q_j v k = q_j v0 k) ∧ (∀ k, (k = 1 ∨ 3 ≤ k ∧ k < 1000 ∨ 1013 ≤ k) → q_a v k = q_a v0 k ∧ q_b v k = q_b v0 k) ∧ q_f v = q_f v0 ∧ q_c v = q_c v0 ∧ q_n v = q_n v0
def rdK (w0 w : q_V) : Prop := (∀ k, (k < 2404 ∨ 2447 ≤ k) → q_i w k = q_i w0 k ∧ q_a w k = q_a w0 k ∧ q_b w k = q_b w0 k) ∧ (∀ k, k ≠ 2426 → q_j w k = q_j w0 k) ∧ q_f w = q_f w0 ∧ q_c w = q_c w0 ∧ q_n w = q_n w0
section
variable {g : rd_G} {i n p i' n' q d k s l b e e' : Nat} {C : Nat → Int32} {r : Int32} {R : Nat → Nat → Int32} {K : rd_K} {A : rd_A} {v w v0 w0 v1 w1 : q_V}
set_option maxHeartbeats 200000 in
theorem rdf_0 : rdf v v := ⟨fun _ _ => rfl, fun _ _ => rfl, fun _ _ => ⟨rfl, rfl⟩, rfl, rfl, rfl⟩
set_option maxHeartbeats 200000 in
theorem rdF_0 : rdF w w := ⟨fun _ _ => ⟨rfl, rfl, rfl⟩, fun _ _ => rfl, rfl, rfl, rfl⟩
set_option maxHeartbeats 200000 in
theorem rdk_0 : rdk v v := ⟨fun _ _ => rfl, fun _ _ => rfl, fun _ _ => ⟨rfl, rfl⟩, rfl, rfl, rfl⟩
set_option maxHeartbeats 200000 in
theorem rdK_0 : rdK w w := ⟨fun _ _ => ⟨rfl, rfl, rfl⟩, fun _ _ => rfl, rfl, rfl, rfl⟩
set_option maxHeartbeats 200000 in
theorem rdk_f (h : rdk v0 v) (f : rdf v v1) : rdk v0 v1 := ⟨fun k hk => (f.1 k (by omega)).trans (h.1 k hk), fun k hk => (f.2.1 k hk).trans (h.2.1 k hk), fun k hk => ⟨(f.2.2.1 k (by omega)).1.trans (h.2.2.1 k hk).1, (f.2.2.1 k (by omega)).2.trans (h.2.2.1 k hk).2⟩, f.2.2.2.1.trans h.2.2.2.1, f.2.2.2.2.1.trans h.2.2.2.2.1, f.2.2.2.2.2.trans h.2.2.2.2.2⟩
set_option maxHeartbeats 200000 in
theorem rdK_f (h : rdK w0 w) (f : rdF w w1) : rdK w0 w1 := ⟨fun k hk => ⟨(f.1 k (by omega)).1.trans (h.1 k hk).1, (f.1 k (by omega)).2.1.trans (h.1 k hk).2.1, (f.1 k (by omega)).2.2.trans (h.1 k hk).2.2⟩, fun k hk => (f.2.1 k hk).trans (h.2.1 k hk), f.2.2.1.trans h.2.2.1, f.2.2.2.1.trans h.2.2.2.1, f.2.2.2.2.trans h.2.2.2.2⟩
set_option maxHeartbeats 200000 in
theorem rdk_i {k : Nat} {x : Int32} (h : rdk v0 v) (hk : k < 4 ∨ 1000 ≤ k ∧ k < 1013 ∨ k = 1604 ∨ 1802 ≤ k ∧ k < 1811) : rdk v0 (q_si v k x) := ⟨fun j hj => by rw [q_i_ne (by omega)]; exact h.1 j hj, h.2.1, h.2.2.1, h.2.2.2.1, h.2.2.2.2.1, h.2.2.2.2.2⟩
set_option maxHeartbeats 200000 in
theorem rdk_a {k : Nat} {x : Nat → Int32} (h : rdk v0 v) (hk : k = 0 ∨ k = 2 ∨ 1000 ≤ k ∧ k < 1013) : rdk v0 (q_sa v k x) := ⟨h.1, h.2.1, fun j hj => by rw [q_a_sa, if_neg (by omega), q_b_sa]; exact h.2.2.1 j hj, h.2.2.2.1, h.2.2.2.2.1, h.2.2.2.2.2⟩
set_option maxHeartbeats 200000 in
theorem rdK_i {k : Nat} {x : Int32} (h : rdK w0 w) (hk : 2404 ≤ k ∧ k < 2447) : rdK w0 (q_si w k x) := ⟨fun j hj => by rw [q_i_ne (by omega), q_a_si, q_b_si]; exact h.1 j hj, h.2.1, h.2.2.1, h.2.2.2.1, h.2.2.2.2⟩
set_option maxHeartbeats 200000 in
theorem rdK_a {k : Nat} {x : Nat → Int32} (h : rdK w0 w) (hk : 2404 ≤ k ∧ k < 2447) : rdK w0 (q_sa w k x) := ⟨fun j hj => by rw [q_i_sa, q_a_sa, if_neg (by omega), q_b_sa]; exact h.1 j hj, h.2.1, h.2.2.1, h.2.2.2.1, h.2.2.2.2⟩
set_option maxHeartbeats 200000 in
theorem rdK_b {k : Nat} {x : Nat → Int64} (h : rdK w0 w) (hk : 2404 ≤ k ∧ k < 2447) : rdK w0 (q_sb w k x) := ⟨fun j hj => by rw [q_i_sb, q_a_sb, q_b_sb, if_neg (by omega)]; exact h.1 j hj, h.2.1, h.2.2.1, h.2.2.2.1, h.2.2.2.2⟩
set_option maxHeartbeats 200000 in
theorem rdK_j {x : Int64} (h : rdK w0 w) : rdK w0 (q_sj w 2426 x) := ⟨h.1, fun j hj => by rw [q_j_sj, if_neg hj]; exact h.2.1 j hj, h.2.2.1, h.2.2.2.1, h.2.2.2.2⟩
set_option maxHeartbeats 200000 in
theorem fd_reb {x : Int64} : ∀ n d, fd (reb g v w) x n d = fd g x n d := by
  intro n
  induction n with
  | zero => intro d; rfl
  | succ n ih =>
    intro d
    rw [fd, fd, ih]; rfl
set_option maxHeartbeats 200000 in
theorem rdP_reb : ∀ K, rdP (reb g v w) K = rdP g K := by
  intro K
  induction K with
  | nil => rfl
  | cons a t ih =>
    rw [rdP, rdP, ih]
    have : bv (reb g v w) a = bv g a := by
      unfold bv fdn
      rw [fd_reb]; rfl
    rw [this]
set_option maxHeartbeats 200000 in
theorem sK_reb {R0 : Nat → Int32} : ∀ K, sK (reb g v1 w1) q R0 w K ↔ sK g q R0 w K := by
  intro K
  induction K with
  | nil => exact Iff.rfl
  | cons a t ih => exact ⟨fun h => ⟨h.1, ih.1 h.2⟩, fun h => ⟨h.1, ih.2 h.2⟩⟩
set_option maxHeartbeats 200000 in
theorem SC_reb (h : SC g i n p C i' n' q d r R K k s l b A e e' v w) : SC (reb g v1 w1) i n p C i' n' q d r R K k s l b A e e' v w := by
  obtain ⟨h1, h2, h3, h4, h5⟩ := h
  refine ⟨h1, h2, ⟨h3.1, h3.2.1, (sK_reb K).2 h3.2.2.1, h3.2.2.2⟩, h4, h5.1, h5.2.1, ?_⟩
  rw [rdP_reb]; exact h5.2.2
set_option maxHeartbeats 200000 in
theorem SC_un (h : SC (reb g v1 w1) i n p C i' n' q d r R K k s l b A e e' v w) : SC g i n p C i' n' q d r R K k s l b A e e' v w := by
  obtain ⟨h1, h2, h3, h4, h5⟩ := h
  refine ⟨h1, h2, ⟨h3.1, h3.2.1, (sK_reb K).1 h3.2.2.1, h3.2.2.2⟩, h4, h5.1, h5.2.1, ?_⟩
  have := h5.2.2
  rw [rdP_reb] at this; exact this
set_option maxHeartbeats 200000 in
theorem SC_St (h : SC g i n p C i' n' q d r R K k s l b A e e' v w) : St (reb g v w) i n p C i' n' q d r R K k s l b A e e' v w := ⟨rdf_0, rdF_0, SC_reb h⟩
set_option maxHeartbeats 200000 in
theorem St_SC (h : St g i n p C i' n' q d r R K k s l b A e e' v w) : SC g i n p C i' n' q d r R K k s l b A e e' v w := h.2.2
set_option maxHeartbeats 200000 in
theorem hT_reb {T : co_T} (h : hT g T) : hT (reb g v w) T := h
set_option maxHeartbeats 200000 in
theorem ag_reb {T : co_T} {p' q' d' : Nat} (h : ag g T C R K p p' q q' d d') : ag (reb g v w) T C R K p p' q q' d d' := ⟨h.1, h.2.1, h.2.2.1, fun m hm => by
  have := h.2.2.2 m hm
  unfold fdn at this ⊢
  rw [fd_reb]; exact this⟩
set_option maxHeartbeats 200000 in
/-- the text holds, whatever reading writes -/
theorem ok_reb (ok : rd_ok g) (h : rdf (gv g) v) (h' : rdF (gw g) w) : rd_ok (reb g v w) := by
  have e1 := rd_lx ok h
  have e2 := rd_n0 ok h
  have e3 := rd_tk ok h'
  obtain ⟨o1, o2, o3, o4, o5, o6, o7, o8⟩ := ok
  refine ⟨o1, o2, o3, o4, e1, e2, ⟨(h.1 1002 (by omega)).trans o7.1, fun d hd => ?_⟩, e3⟩
  have a := o7.2 d hd
  exact ⟨by rw [show gv (reb g v w) = v from rfl, (h.2.2.1 1000 (by omega)).2]; exact a.1, by rw [show gv (reb g v w) = v from rfl, (h.2.2.1 1001 (by omega)).1]; exact a.2⟩
/-- views of the class that differ in what a duty's beginning writes -/
def ce (v v' : q_V) : Prop := (∀ k, (k ≠ 3 ∧ k ≠ 1005 ∧ k ≠ 1006 ∧ k ≠ 1009 ∧ k ≠ 1010 ∧ k ≠ 1011 ∧ k ≠ 1012 ∧ k ≠ 1604) → q_i v' k = q_i v k) ∧ q_j v' = q_j v ∧ (∀ k, k ≠ 2 → q_a v' k = q_a v k) ∧ q_b v' = q_b v ∧ q_f v' = q_f v ∧ q_c v' = q_c v ∧ q_n v' = q_n v
def re (w w' : q_V) : Prop := (∀ k, (k ≠ 2412 ∧ k ≠ 2413 ∧ k ≠ 2433 ∧ k ≠ 2441 ∧ k ≠ 2442 ∧ k ≠ 2445 ∧ k ≠ 2446) → q_i w' k = q_i w k) ∧ (∀ k, k ≠ 2426 → q_j w' k = q_j w k) ∧ (∀ k, ¬ (2428 ≤ k ∧ k ≤ 2432) → q_a w' k = q_a w k) ∧ (∀ k, k ≠ 2427 → q_b w' k = q_b w k) ∧ q_f w' = q_f w ∧ q_c w' = q_c w ∧ q_n w' = q_n w
set_option maxHeartbeats 200000 in
theorem ce_0 : ce v v := ⟨fun _ _ => rfl, rfl, fun _ _ => rfl, rfl, rfl, rfl, rfl⟩
set_option maxHeartbeats 200000 in
theorem re_0 : re w w := ⟨fun _ _ => rfl, fun _ _ => rfl, fun _ _ => rfl, fun _ _ => rfl, rfl, rfl, rfl⟩
set_option maxHeartbeats 200000 in
theorem ce_i {k : Nat} {x : Int32} (h : ce v0 v) (hk : k = 3 ∨ k = 1005 ∨ k = 1006 ∨ k = 1009 ∨ k = 1010 ∨ k = 1011 ∨ k = 1012 ∨ k = 1604) : ce v0 (q_si v k x) := ⟨fun j hj => by rw [q_i_ne (by omega)]; exact h.1 j hj, h.2⟩
set_option maxHeartbeats 200000 in
theorem ce_a {x : Nat → Int32} (h : ce v0 v) : ce v0 (q_sa v 2 x) := ⟨h.1, h.2.1, fun j hj => by rw [q_a_sa, if_neg hj]; exact h.2.2.1 j hj, h.2.2.2⟩
set_option maxHeartbeats 200000 in
theorem ce_o {x y : Int32} (h : ce v0 v) (hv : v1 = v ∨ v1 = q_si (q_si v 1011 x) 1012 y) : ce v0 v1 := by
  rcases hv with hv | hv
  · rw [hv]; exact h
  · rw [hv]; exact ce_i (ce_i h (by omega)) (by omega)
set_option maxHeartbeats 200000 in
theorem re_i {k : Nat} {x : Int32} (h : re w0 w) (hk : k = 2412 ∨ k = 2413 ∨ k = 2433 ∨ k = 2441 ∨ k = 2442 ∨ k = 2445 ∨ k = 2446) : re w0 (q_si w k x) := ⟨fun j hj => by rw [q_i_ne (by omega)]; exact h.1 j hj, h.2⟩
set_option maxHeartbeats 200000 in
theorem re_a {k : Nat} {x : Nat → Int32} (h : re w0 w) (hk : 2428 ≤ k ∧ k ≤ 2432) : re w0 (q_sa w k x) := ⟨h.1, h.2.1, fun j hj => by rw [q_a_sa, if_neg (by omega)]; exact h.2.2.1 j hj, h.2.2.2⟩
set_option maxHeartbeats 200000 in
theorem re_b {x : Nat → Int64} (h : re w0 w) : re w0 (q_sb w 2427 x) := ⟨h.1, h.2.1, h.2.2.1, fun j hj => by rw [q_b_sb, if_neg hj]; exact h.2.2.2.1 j hj, h.2.2.2.2⟩
set_option maxHeartbeats 200000 in
theorem re_j {x : Int64} (h : re w0 w) : re w0 (q_sj w 2426 x) := ⟨h.1, fun j hj => by rw [q_j_sj, if_neg hj]; exact h.2.1 j hj, h.2.2⟩
set_option maxHeartbeats 200000 in
theorem re_o {x y : Int32} (h : re w0 w) (hv : w1 = w ∨ w1 = q_si (q_si w 2412 x) 2413 y) : re w0 w1 := by
  rcases hv with hv | hv
  · rw [hv]; exact h
  · rw [hv]; exact re_i (re_i h (by omega)) (by omega)
set_option maxHeartbeats 200000 in
theorem rdk_ce (h : rdk v0 v) (f : ce v v1) : rdk v0 v1 := ⟨fun k hk => (f.1 k (by omega)).trans (h.1 k hk), fun k hk => by rw [f.2.1]; exact h.2.1 k hk, fun k hk => ⟨(f.2.2.1 k (by omega)).trans (h.2.2.1 k hk).1, by rw [f.2.2.2.1]; exact (h.2.2.1 k hk).2⟩, f.2.2.2.2.1.trans h.2.2.2.1, f.2.2.2.2.2.1.trans h.2.2.2.2.1, f.2.2.2.2.2.2.trans h.2.2.2.2.2⟩
set_option maxHeartbeats 200000 in
theorem rdK_re (h : rdK w0 w) (f : re w w1) : rdK w0 w1 := ⟨fun k hk => ⟨(f.1 k (by omega)).trans (h.1 k hk).1, (f.2.2.1 k (by omega)).trans (h.1 k hk).2.1, (f.2.2.2.1 k (by omega)).trans (h.1 k hk).2.2⟩, fun k hk => (f.2.1 k hk).trans (h.2.1 k hk), f.2.2.2.2.1.trans h.2.2.1, f.2.2.2.2.2.1.trans h.2.2.2.1, f.2.2.2.2.2.2.trans h.2.2.2.2⟩
set_option maxHeartbeats 200000 in
theorem ok_ce (ok : rd_ok (reb g v w)) (f : ce v v1) (f' : re w w1) : rd_ok (reb g v1 w1) := by
  obtain ⟨o1, o2, o3, o4, o5, o6, o7, o8⟩ := ok
  refine ⟨o1, o2, o3, o4, ⟨?_, o5.2.1, fun j hj => ?_, fun j hj => ?_⟩, ?_, ⟨?_, fun d hd => ?_⟩, fun j hj => ?_⟩
  · show q_i v1 1802 = _; rw [f.1 1802 (by omega)]; exact o5.1
  · show q_a v1 2200 j = _; rw [f.2.2.1 2200 (by omega)]; exact o5.2.2.1 j hj
  · show q_b v1 1801 j = _; rw [f.2.2.2.1]; exact o5.2.2.2 j hj
  · show q_n v1 0 = _; rw [f.2.2.2.2.2.2]; exact o6
  · show q_i v1 1002 = _; rw [f.1 1002 (by omega)]; exact o7.1
  · show q_b v1 1000 d = _ ∧ q_a v1 1001 d = _; rw [f.2.2.2.1, f.2.2.1 1001 (by omega)]; exact o7.2 d hd
  · have := o8 j hj
    show q_a w1 2404 j = _ ∧ q_a w1 2405 j = _ ∧ (_ → q_b w1 2406 j = _) ∧ (_ → q_b w1 2406 j = _)
    rw [f'.2.2.1 2404 (by omega), f'.2.2.1 2405 (by omega), f'.2.2.2.1 2406 (by omega)]; exact this
set_option maxHeartbeats 200000 in
/-- at a duty's beginning all is forgotten -/
theorem SC_new {e1 e1' : Nat} {A' : rd_A} (h : sT g i n v ∧ sB p C v ∧ sR g i' n' q d r R K w) (f : ce v v1) (f' : re w w1) (c : q_i v1 1005 = 0 ∧ q_i v1 1006 = 0 ∧ q_i v1 1009 = 0 ∧ q_i v1 1010 = 0) (c' : q_i w1 2441 = 0 ∧ q_i w1 2442 = 0 ∧ q_i w1 2445 = 0 ∧ q_i w1 2446 = 0) (ha : q_i v1 1604 = A'.2.1 ∧ q_j w1 2426 = A'.2.2.1) (hM : sM g e1 e1' K v1 w1) : SC g i n p C i' n' q d r R K 0 0 0 0 A' e1 e1' v1 w1 := by
  obtain ⟨h1, h2, h3⟩ := h
  refine ⟨?_, ?_, ?_, ?_, hM⟩
  · unfold sT at h1 ⊢
    rw [f.1 1803 (by omega), f.1 1804 (by omega), f.1 1805 (by omega), f.1 1806 (by omega), f.1 1807 (by omega), f.1 1809 (by omega), f.2.1]; exact h1
  · unfold sB at h2 ⊢
    rw [f.1 1 (by omega), f.2.2.1 0 (by omega)]; exact h2
  · unfold sR at h3 ⊢
    rw [f'.1 2408 (by omega), f'.1 2410 (by omega), f'.1 2411 (by omega), f'.1 2417 (by omega), f'.1 2424 (by omega), f'.1 2438 (by omega), f'.1 2425 (by omega)]
    refine ⟨h3.1, fun j hj => ?_, sK_e (w := w) (f'.2.2.2.1 2434 (by omega)) (f'.2.2.1 2435 (by omega)) (f'.2.2.1 2436 (by omega)) (f'.2.2.1 2437 (by omega)) h3.2.2.1, h3.2.2.2⟩
    have := rdj_b hj
    rw [f'.2.2.1 (rdj j) (by omega)]; exact h3.2.1 j hj
  · exact ⟨⟨c.2.1, c'.2.1, c'.1, Nat.le_refl _, by omega⟩, ⟨0, c.1, by omega, fun _ => ⟨rfl, fun j hj => absurd hj (by omega)⟩⟩, fun _ j j' hj => absurd hj (by omega), ⟨c.2.2.1, c'.2.2.1, by omega, c.2.2.2, c'.2.2.2, Nat.le_refl _⟩, ⟨ha, fun j hj => absurd hj (by omega)⟩, fun j hj => absurd hj (by omega)⟩
end
