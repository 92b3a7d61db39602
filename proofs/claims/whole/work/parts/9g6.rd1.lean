/-! READING: what both readers hold, side by side. `g`: the bytes, how many, the last token's number, the duties' names and parameters as they were looked for ahead, how many, and the two views at the beginning. -/
abbrev rd_G : Type := (Nat → Int32) × Nat × Nat × (Nat → Int64) × (Nat → Int32) × Nat × q_V × q_V
def gL (g : rd_G) : Nat := g.2.1
def gm (g : rd_G) : Nat := g.2.2.1
def gn (g : rd_G) : Nat → Int64 := g.2.2.2.1
def gp (g : rd_G) : Nat → Int32 := g.2.2.2.2.1
def gd (g : rd_G) : Nat := g.2.2.2.2.2.1
def gv (g : rd_G) : q_V := g.2.2.2.2.2.2.1
def gw (g : rd_G) : q_V := g.2.2.2.2.2.2.2
def tkc (g : rd_G) (i : Nat) : Int32 := tk_c g.1 (gL g) kw_c i
def tka (g : rd_G) (i : Nat) : Nat := tk_a g.1 (gL g) i
def tkp (g : rd_G) (i : Nat) : Nat := tk_p g.1 (gL g) i
def tkw (g : rd_G) (i : Nat) : Int64 := (lx_we g.1 (gL g) (tka g i)).2
def tkn (g : rd_G) (i : Nat) : Nat := (lx_ne g.1 (gL g) (tka g i)).2
def rdf (v0 v : q_V) : Prop := (∀ k, (2 ≤ k ∧ k < 1003 ∨ 1013 ≤ k ∧ k < 1604 ∨ 1605 ≤ k ∧ k < 1803 ∨ 1811 ≤ k) → q_i v k = q_i v0 k) ∧ (∀ k, k ≠ 1808 → q_j v k = q_j v0 k) ∧ (∀ k, (1 ≤ k ∧ k < 1003 ∨ 1013 ≤ k) → q_a v k = q_a v0 k ∧ q_b v k = q_b v0 k) ∧ q_f v = q_f v0 ∧ q_c v = q_c v0 ∧ q_n v = q_n v0
def rdF (w0 w : q_V) : Prop := (∀ k, (k < 2408 ∨ 2427 ≤ k ∧ k ≤ 2433 ∨ 2447 ≤ k) → q_i w k = q_i w0 k ∧ q_a w k = q_a w0 k ∧ q_b w k = q_b w0 k) ∧ (∀ k, k ≠ 2426 → q_j w k = q_j w0 k) ∧ q_f w = q_f w0 ∧ q_c w = q_c w0 ∧ q_n w = q_n w0
def rd_ok (g : rd_G) : Prop := gL g ≤ 3000 ∧ (∀ j, j < gL g → ∃ b, b < 128 ∧ g.1 j = nI b) ∧ tk_E g.1 (gL g) kw_c (gm g) ∧ gd g ≤ 300 ∧ lx_v g.1 (gL g) kw_c (gv g) ∧ q_n (gv g) 0 = 2 * gL g + 16 ∧ (q_i (gv g) 1002 = nI (gd g) ∧ ∀ d, d < gd g → q_b (gv g) 1000 d = gn g d ∧ q_a (gv g) 1001 d = gp g d) ∧ tk_R g.1 (gL g) kw_c (gm g + 1) (gw g)
section
variable {v0 v w0 w : q_V}
set_option maxHeartbeats 200000 in
theorem rdf_i {k : Nat} {x : Int32} (h : rdf v0 v) (hk : k < 2 ∨ 1003 ≤ k ∧ k < 1013 ∨ k = 1604 ∨ 1803 ≤ k ∧ k < 1811) : rdf v0 (q_si v k x) := by
  refine ⟨fun j hj => ?_, h.2.1, h.2.2.1, h.2.2.2.1, h.2.2.2.2.1, h.2.2.2.2.2⟩
  rw [q_i_ne (by omega)]; exact h.1 j hj
set_option maxHeartbeats 200000 in
theorem rdf_j {x : Int64} (h : rdf v0 v) : rdf v0 (q_sj v 1808 x) := by
  refine ⟨h.1, fun j hj => ?_, h.2.2.1, h.2.2.2.1, h.2.2.2.2.1, h.2.2.2.2.2⟩
  rw [q_j_sj, if_neg hj]; exact h.2.1 j hj
set_option maxHeartbeats 200000 in
theorem rdf_a {k : Nat} {x : Nat → Int32} (h : rdf v0 v) (hk : k = 0 ∨ 1003 ≤ k ∧ k < 1013) : rdf v0 (q_sa v k x) := by
  refine ⟨h.1, h.2.1, fun j hj => ?_, h.2.2.2.1, h.2.2.2.2.1, h.2.2.2.2.2⟩
  rw [q_a_sa, if_neg (by omega), q_b_sa]; exact h.2.2.1 j hj
set_option maxHeartbeats 200000 in
theorem rdf_b {k : Nat} {x : Nat → Int64} (h : rdf v0 v) (hk : k = 0 ∨ 1003 ≤ k ∧ k < 1013) : rdf v0 (q_sb v k x) := by
  refine ⟨h.1, h.2.1, fun j hj => ?_, h.2.2.2.1, h.2.2.2.2.1, h.2.2.2.2.2⟩
  rw [q_b_sb, if_neg (by omega), q_a_sb]; exact h.2.2.1 j hj
set_option maxHeartbeats 200000 in
theorem rdf_l {v' : q_V} (h : rdf v0 v) (f : lx_fr v v') : rdf v0 v' :=
  ⟨fun k hk => (f.1 k (by omega)).trans (h.1 k hk), fun k hk => (f.2.1 k hk).trans (h.2.1 k hk), fun k hk => by rw [f.2.2.1, f.2.2.2.1]; exact h.2.2.1 k hk, f.2.2.2.2.1.trans h.2.2.2.1, f.2.2.2.2.2.1.trans h.2.2.2.2.1, f.2.2.2.2.2.2.trans h.2.2.2.2.2⟩
set_option maxHeartbeats 200000 in
theorem rdF_i {k : Nat} {x : Int32} (h : rdF w0 w) (hk : 2408 ≤ k ∧ k < 2427 ∨ 2434 ≤ k ∧ k < 2447) : rdF w0 (q_si w k x) := by
  refine ⟨fun j hj => ?_, h.2.1, h.2.2.1, h.2.2.2.1, h.2.2.2.2⟩
  rw [q_i_ne (by omega), q_a_si, q_b_si]; exact h.1 j hj
set_option maxHeartbeats 200000 in
theorem rdF_a {k : Nat} {x : Nat → Int32} (h : rdF w0 w) (hk : 2408 ≤ k ∧ k < 2427 ∨ 2434 ≤ k ∧ k < 2447) : rdF w0 (q_sa w k x) := by
  refine ⟨fun j hj => ?_, h.2.1, h.2.2.1, h.2.2.2.1, h.2.2.2.2⟩
  rw [q_i_sa, q_a_sa, if_neg (by omega), q_b_sa]; exact h.1 j hj
set_option maxHeartbeats 200000 in
theorem rdF_b {k : Nat} {x : Nat → Int64} (h : rdF w0 w) (hk : 2408 ≤ k ∧ k < 2427 ∨ 2434 ≤ k ∧ k < 2447) : rdF w0 (q_sb w k x) := by
  refine ⟨fun j hj => ?_, h.2.1, h.2.2.1, h.2.2.2.1, h.2.2.2.2⟩
  rw [q_i_sb, q_b_sb, if_neg (by omega), q_a_sb]; exact h.1 j hj
set_option maxHeartbeats 200000 in
theorem rdF_j {x : Int64} (h : rdF w0 w) : rdF w0 (q_sj w 2426 x) := by
  refine ⟨h.1, fun j hj => ?_, h.2.2.1, h.2.2.2.1, h.2.2.2.2⟩
  rw [q_j_sj, if_neg hj]; exact h.2.1 j hj
end
/-! the parts of what both hold -/
def sT (g : rd_G) (i n : Nat) (v : q_V) : Prop := q_i v 1803 = nI (tkp g (i + 1)) ∧ q_i v 1804 = nI n ∧ q_i v 1805 = tkc g i ∧ q_i v 1806 = nI (tka g i) ∧ (tkc g i = 259 → q_j v 1808 = tkw g i) ∧ (tkc g i = 260 → q_i v 1807 = nI (tkn g i)) ∧ q_i v 1809 = 0 ∧ i ≤ gm g ∧ n ≤ 14
def sB (p : Nat) (C : Nat → Int32) (v : q_V) : Prop := q_i v 1 = nI p ∧ q_a v 0 = C
def rdj (j : Nat) : Nat := if j < 3 then 2414 + j else 2415 + j
/-- the calls that were noted, the latest first: name, token, how many arguments, where -/
abbrev rd_K : Type := List (Int64 × Nat × Nat × Nat)
def sK (g : rd_G) (q : Nat) (R0 : Nat → Int32) (w : q_V) : rd_K → Prop
  | [] => True
  | e :: t => ((q_b w 2434 t.length = e.1 ∧ q_a w 2435 t.length = nI e.2.1 ∧ q_a w 2436 t.length = nI e.2.2.1 ∧ q_a w 2437 t.length = nI e.2.2.2) ∧ e.2.1 ≤ gm g ∧ e.2.2.2 < q ∧ R0 e.2.2.2 = 19 ∧ ∀ c, c ∈ t → c.2.2.2 < e.2.2.2) ∧ sK g q R0 w t
def sR (g : rd_G) (i n q d : Nat) (r : Int32) (R : Nat → Nat → Int32) (K : rd_K) (w : q_V) : Prop := (q_i w 2408 = 0 ∧ q_i w 2410 = nI i ∧ q_i w 2411 = nI n ∧ q_i w 2417 = nI q ∧ q_i w 2424 = nI d ∧ q_i w 2438 = nI K.length ∧ q_i w 2425 = r) ∧ (∀ j, j < 9 → q_a w (rdj j) = R j) ∧ sK g q (R 0) w K ∧ i ≤ gm g ∧ n ≤ 14
/-- a fault of a name's meaning, as one number: its place and kind -/
def rd_N : Nat := 1000000
def bl (k1 k2 b : Nat) (v : q_V) : Prop := (b = rd_N ∧ q_i v k1 = 0 ∧ (k2 = 1012 → q_i v k2 = -1)) ∨ (b < rd_N ∧ 0 < b % 16 ∧ q_i v k1 = nI (b % 16) ∧ q_i v k2 = nI (b / 16))
def br (b : Nat) (w : q_V) : Prop := (b = rd_N ∧ q_i w 2412 = 0 ∧ q_i w 2409 = -1) ∨ (b < rd_N ∧ 0 < b % 16 ∧ q_i w 2412 = nI (b % 16) ∧ q_i w 2413 = nI (b / 16))
def fd (g : rd_G) (x : Int64) : Nat → Nat → Nat
  | 0, d => d
  | n + 1, d => if gn g d = x then d else fd g x n (d + 1)
/-- which duty a name means: the first, or as many as there are -/
def fdn (g : rd_G) (x : Int64) : Nat := fd g x (gd g) 0
def bv (g : rd_G) (e : Int64 × Nat × Nat × Nat) : Nat := if fdn g e.1 < gd g then (if gp g (fdn g e.1) = nI e.2.2.1 then rd_N else 16 * tka g e.2.1 + 7) else 16 * tka g e.2.1 + 5
def rdP (g : rd_G) : rd_K → Nat
  | [] => rd_N
  | e :: t => min (bv g e) (rdP g t)
def sM (g : rd_G) (b b' : Nat) (K : rd_K) (v w : q_V) : Prop := bl 1011 1012 b v ∧ br b' w ∧ b = min b' (rdP g K)
/-- the loops around: where they stand in both; the ways of laters so far, of both; the variables that are known -/
abbrev rd_A : Type := (Nat → Nat × Nat) × Int32 × Int64 × (Nat → Int64 × Nat)
def sN (k s l b e : Nat) (A : rd_A) (v w : q_V) : Prop := (q_i v 1006 = nI s ∧ q_i w 2442 = nI s ∧ q_i w 2441 = nI k ∧ k ≤ s ∧ s ≤ 1600) ∧ (∃ c, q_i v 1005 = nI c ∧ c ≤ 24 ∧ (s ≤ 24 → c = k ∧ ∀ j, j < k → q_b v 1003 j = q_b w 2439 j ∧ q_a v 1004 j = q_a w 2440 j ∧ ∃ y, y < 24 ∧ q_a w 2440 j = nI y)) ∧ (e = rd_N → ∀ j j', j < k → j' < k → q_b w 2439 j = q_b w 2439 j' → j = j') ∧ (q_i v 1009 = nI l ∧ q_i w 2445 = nI l ∧ l ≤ 14 ∧ q_i v 1010 = nI b ∧ q_i w 2446 = nI b ∧ b ≤ l) ∧ ((q_i v 1604 = A.2.1 ∧ q_j w 2426 = A.2.2.1) ∧ ∀ j, j < k → q_b w 2439 j = (A.2.2.2 j).1 ∧ q_a w 2440 j = nI (A.2.2.2 j).2) ∧ ∀ j, j < l → q_b v 1007 j = q_b w 2443 j ∧ q_a v 1008 j = nI (A.1 j).1 ∧ q_a w 2444 j = nI (A.1 j).2
/-- what both hold -/
def St (g : rd_G) (i n p : Nat) (C : Nat → Int32) (i' n' q d : Nat) (r : Int32) (R : Nat → Nat → Int32) (K : rd_K) (k s l b : Nat) (A : rd_A) (e e' : Nat) (v w : q_V) : Prop :=
  rdf (gv g) v ∧ rdF (gw g) w ∧ sT g i n v ∧ sB p C v ∧ sR g i' n' q d r R K w ∧ sN k s l b e A v w ∧ sM g e e' K v w
/-- a fault of a token -/
def xc (g : rd_G) (f p : Int32) (l : Nat) (v : q_V) : Prop := rdf (gv g) v ∧ q_i v 1805 = 263 ∧ q_i v 1809 = f ∧ q_i v 1810 = p ∧ 0 < f ∧ q_i v 1009 = nI l
def xr1 (g : rd_G) (w : q_V) : Prop := rdF (gw g) w ∧ (∃ j, j ≤ gm g ∧ q_i w 2410 = nI j) ∧ ∃ k, k ≤ 1600 ∧ q_i w 2441 = nI k
def xr (g : rd_G) (f p : Int32) (B : Nat) (w : q_V) : Prop := xr1 g w ∧ q_i w 2408 = f ∧ q_i w 2409 = p ∧ 0 < f ∧ ∃ q, q ≤ B ∧ q_i w 2417 = nI q
def xx (g : rd_G) (l B : Nat) (v w : q_V) : Prop := ∃ f p, xc g f p l v ∧ xr g f p B w
def vu (o : Option q_V) : Option (Unit × q_V) := q_bv o (fun v => some ((), v))
def jn {α β : Type} (g : rd_G) (l B : Nat) (Q : α → q_V → β → q_V → Prop) (X : Option (α × q_V)) (Y : Option (β × q_V)) : Prop := ∃ a v b w, X = some (a, v) ∧ Y = some (b, w) ∧ (xx g l B v w ∨ Q a v b w)
def cG {α : Type} (g : rd_G) (f p : Int32) (l : Nat) (X : Option (α × q_V)) : Prop := ∃ a v, X = some (a, v) ∧ xc g f p l v
def rG {α : Type} (g : rd_G) (f p : Int32) (B : Nat) (X : Option (α × q_V)) : Prop := ∃ a v, X = some (a, v) ∧ xr g f p B v
section
variable {g : rd_G} {i n p i' n' q d k s l b e e' : Nat} {C : Nat → Int32} {r : Int32} {R : Nat → Nat → Int32} {K : rd_K} {A : rd_A} {v w : q_V}
set_option maxHeartbeats 200000 in
theorem rd_lx (ok : rd_ok g) (h : rdf (gv g) v) : lx_v g.1 (gL g) kw_c v := by
  have o := ok.2.2.2.2.1
  refine ⟨(h.1 1802 (by omega)).trans o.1, o.2.1, fun j hj => ?_, fun j hj => ?_⟩
  · rw [(h.2.2.1 2200 (by omega)).1]; exact o.2.2.1 j hj
  · rw [(h.2.2.1 1801 (by omega)).2]; exact o.2.2.2 j hj
set_option maxHeartbeats 200000 in
theorem rd_tk (ok : rd_ok g) (h : rdF (gw g) w) : tk_R g.1 (gL g) kw_c (gm g + 1) w := by
  have o := ok.2.2.2.2.2.2.2
  intro j hj
  rw [(h.1 2404 (by omega)).2.1, (h.1 2405 (by omega)).2.1, (h.1 2406 (by omega)).2.2]
  exact o j hj
set_option maxHeartbeats 200000 in
theorem rd_n0 (ok : rd_ok g) (h : rdf (gv g) v) : q_n v 0 = 2 * gL g + 16 := by rw [h.2.2.2.2.2]; exact ok.2.2.2.2.2.1
set_option maxHeartbeats 200000 in
/-- the class's step to the next token -/
theorem c_adv (ok : rd_ok g) (h : St g i n p C i' n' q d r R K k s l b A e e' v w) (h1 : tkc g i ≠ 261) (h2 : tkc g i ≠ 262) : ∃ v', fX9_advance v = some v' ∧ St g (i + 1) n p C i' n' q d r R K k s l b A e e' v' w := by
  obtain ⟨f, F, t, B, Y, N, M⟩ := h
  have hp : tkp g (i + 1) ≤ gL g := tk_pl ok.1 (i + 1)
  have n263 : q_i v 1805 ≠ 263 := by
    rw [t.2.2.1]; intro z
    have := tk_cV (kw := kw_c) (i := i) ok.2.1
    rw [show tk_c g.1 (gL g) kw_c i = tkc g i from rfl, z] at this
    exact absurd this (by decide)
  obtain ⟨v', a1, a2⟩ := lx_adv (rd_lx ok f) t.1 hp n263
  obtain ⟨q1, q2, q3, q4, q5, fr⟩ := a2
  refine ⟨v', a1, rdf_l f fr, F, ⟨q1, (fr.1 1804 (by omega)).trans t.2.1, q3, q2, q4, q5, (fr.1 1809 (by omega)).trans t.2.2.2.2.2.2.1, ?_, t.2.2.2.2.2.2.2.2⟩, ⟨(fr.1 1 (by omega)).trans B.1, by rw [fr.2.2.1]; exact B.2⟩, Y, ?_, ?_⟩
  · have := t.2.2.2.2.2.2.2.1
    have E := ok.2.2.1
    rcases Nat.lt_or_ge i (gm g) with z | z
    · exact z
    · have : i = gm g := by omega
      rcases E.2.1 with y | y
      · rw [← this] at y; exact absurd y h1
      · rw [← this] at y; exact absurd y h2
  · unfold sN at N ⊢
    rw [fr.1 1006 (by omega), fr.1 1005 (by omega), fr.1 1009 (by omega), fr.1 1010 (by omega), fr.1 1604 (by omega), fr.2.2.1, fr.2.2.2.1]; exact N
  · unfold sM bl at M ⊢
    rw [fr.1 1011 (by omega), fr.1 1012 (by omega)]; exact M
end
