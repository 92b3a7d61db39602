/-- the rows and tables that a run leaves alone -/
def ru_S (T : co_T) (vc vr : q_V) : Prop :=
  q_a vc 0 = T.1 ∧ ru_B T.2.1 vc ∧ (q_a vr 2448 = T.2.2.1 0 ∧ q_a vr 2449 = T.2.2.1 1 ∧ q_a vr 2450 = T.2.2.1 2 ∧ q_a vr 2451 = T.2.2.1 3 ∧ q_a vr 2452 = T.2.2.1 4 ∧ q_a vr 2453 = T.2.2.1 5 ∧ q_a vr 2454 = T.2.2.1 6 ∧ q_a vr 2455 = T.2.2.1 7 ∧ q_a vr 2456 = T.2.2.1 8) ∧
  q_n vc 2 = 150 ∧ ∃ D, D ≤ 30 ∧ q_i vc 3 = nI D ∧ ∀ d k pe qe, T.2.2.2 d = some (k, pe, qe) → d < D ∧ k ≤ 8 ∧ q_a vc 2 (5 * d) = nI k ∧ q_a vc 2 (5 * d + 4) = nI pe ∧ q_a vr 2457 d = nI qe
/-- the canal -/
def ru_A (vc vr : q_V) : Prop :=
  q_a vc 200 = q_a vr 2463 ∧ q_a vc 201 = q_a vr 2466 ∧ q_a vc 202 = q_a vr 2464 ∧ q_a vc 203 = q_a vr 2465 ∧ q_a vc 204 = q_a vr 2467 ∧
  (∀ k, k < 12 → q_a vc 202 k = 0 ∨ q_a vc 202 k = 1) ∧ (∀ k, k < 6 → ¬ q_a vc 200 k < 0 ∧ q_a vc 200 k ≤ 20000) ∧ (∀ k, k < 7 → ¬ q_a vc 201 k < 0 ∧ q_a vc 201 k ≤ 200000) ∧ (∀ k, k < 8 → ¬ q_a vc 204 k < 0 ∧ q_a vc 204 k ≤ 12)
/-- what is told -/
def ru_Q (vc vr : q_V) : Prop :=
  q_a vc 1400 6 = q_i vr 2471 ∧ q_a vc 1400 7 = q_i vr 2472 ∧ q_a vc 1400 8 = q_i vr 2473 ∧ q_a vc 1400 9 = q_i vr 2474 ∧ q_a vc 1400 10 = q_i vr 2475 ∧ q_a vc 1400 11 = q_i vr 2476 ∧ q_a vc 1400 12 = q_i vr 2477 ∧ q_a vc 1400 13 = q_i vr 2478 ∧ q_a vc 1400 14 = q_i vr 2479 ∧ q_a vc 1400 15 = q_i vr 2480 ∧ q_a vc 1400 16 = q_i vr 2470 ∧ q_a vc 1400 17 = q_i vr 2524 ∧ q_a vc 1401 = q_a vr 2468 ∧ q_a vc 1402 = q_a vr 2469 ∧ ¬ q_i vr 2470 < 0 ∧ (q_a vc 1400 1 = 0 ∧ q_a vc 1400 2 = 0 ∧ q_a vc 1400 3 = 0 ∧ q_a vc 1400 4 = -1 ∧ q_a vc 1400 18 = 0)
/-- the calls under way -/
def ru_F (XL : Int32 → Int32 → Int32 → Prop) (cl : Nat) (vc vr : q_V) : Prop :=
  ∀ i, i < cl → (∀ k, k < 24 → q_c vc 600 i k = q_a vr 2509 (24 * (i + 1) + k)) ∧ q_f vc 603 i = q_a vr 2504 (i + 1) ∧ q_f vc 604 i = q_a vr 2505 (i + 1) ∧
    ∃ w, w ≤ 40 ∧ q_f vc 602 i = nI w ∧ q_a vr 2506 (i + 1) = nI w ∧ ∀ j, j < w → XL (q_c vc 601 i j) (q_a vr 2507 (40 * (i + 1) + j)) (q_a vr 2508 (40 * (i + 1) + j))
/-- places, WITHIN, and that it goes on -/
def ru_Y (t : Nat) (vc vr : q_V) : Prop := True ∧ q_i vc 812 = ru_z vr t ∧ q_i vc 814 = -1 ∧ q_i vr 2513 = 0 ∧ q_i vr 2514 = 0
/-- no more HOLDS than parts -/
def ru_H (np : Nat) (vc : q_V) : Prop := ∀ k, k < 6 → ∃ m, m ≤ np ∧ q_a vc 203 k = nI m
def ru_D (T : co_T) (XL : Int32 → Int32 → Int32 → Prop) (cl t np : Nat) (vc vr : q_V) : Prop := ru_S T vc vr ∧ ru_A vc vr ∧ ru_Q vc vr ∧ ru_F XL cl vc vr ∧ ru_Y t vc vr ∧ ru_H np vc
/-- nothing is being left -/
def ru_W (vc vr : q_V) : Prop := q_f vc 2000 168 = 0 ∧ q_i vr 2481 = 0 ∧ q_i vc 811 = q_i vr 2511
/-- the same, but troubles may have places of their own -/
def ru_V (vc vr : q_V) : Prop := q_f vc 2000 168 = 0 ∧ q_i vr 2481 = 0
theorem ru_wv {vc vr : q_V} (h : ru_W vc vr) : ru_V vc vr := ⟨h.1, h.2.1⟩
/-- what a piece leaves as it was: parts and values below, regions and pile below, where calls go on -/
def ru_K (np t h g cl : Nat) (vc vr vc' vr' : q_V) : Prop :=
  (∀ k n, 1200 ≤ k → n < np → q_f vc' k n = q_f vc k n) ∧ (∀ i, i < h → q_a vc' 802 i = q_a vc 802 i) ∧
  (∀ j n, 2488 ≤ j → j ≤ 2500 → n < t → q_a vr' j n = q_a vr j n ∧ q_b vr' j n = q_b vr j n) ∧ (∀ i, i < g → q_a vr' 2515 i = q_a vr 2515 i) ∧
  (∀ i, i ≤ cl → q_a vr' 2502 i = q_a vr 2502 i ∧ q_a vr' 2503 i = q_a vr 2503 i) ∧ q_a vc' 203 = q_a vc 203 ∧ (∀ i, i + 1 < cl → q_f vc' 602 i = q_f vc 602 i)
theorem ru_K_id {np t h g cl : Nat} {vc vr : q_V} : ru_K np t h g cl vc vr vc vr := ⟨fun _ _ _ _ => rfl, fun _ _ => rfl, fun _ _ _ _ _ => ⟨rfl, rfl⟩, fun _ _ => rfl, fun _ _ => ⟨rfl, rfl⟩, rfl, fun _ _ => rfl⟩
theorem ru_K_tr {np t h g cl np' t' h' g' cl' : Nat} {vc vr vc1 vr1 vc2 vr2 : q_V} (a : ru_K np t h g cl vc vr vc1 vr1) (b : ru_K np' t' h' g' cl' vc1 vr1 vc2 vr2) (h1 : np ≤ np') (h2 : t ≤ t') (h3 : h ≤ h') (h4 : g ≤ g') (h5 : cl ≤ cl') : ru_K np t h g cl vc vr vc2 vr2 :=
  ⟨fun k n x y => (b.1 k n x (by omega)).trans (a.1 k n x y), fun i x => (b.2.1 i (by omega)).trans (a.2.1 i x), fun j n x y z => ⟨((b.2.2.1 j n x y (by omega)).1).trans (a.2.2.1 j n x y z).1, ((b.2.2.1 j n x y (by omega)).2).trans (a.2.2.1 j n x y z).2⟩, fun i x => (b.2.2.2.1 i (by omega)).trans (a.2.2.2.1 i x), fun i x => ⟨((b.2.2.2.2.1 i (by omega)).1).trans (a.2.2.2.2.1 i x).1, ((b.2.2.2.2.1 i (by omega)).2).trans (a.2.2.2.2.1 i x).2⟩, b.2.2.2.2.2.1.trans a.2.2.2.2.2.1, fun i x => (b.2.2.2.2.2.2 i (by omega)).trans (a.2.2.2.2.2.2 i x)⟩
/-- a value more on both piles -/
def ru_pc (vc : q_V) (h : Nat) (x : Int32) : q_V := q_sa vc 802 (upd (q_a vc 802) h x)
def ru_pr (vr : q_V) (g : Nat) (x : Int32) : q_V := q_sa vr 2515 (upd (q_a vr 2515) g x)
theorem ru_z_c {v w : q_V} {t : Nat} (h : ∀ n, n < t → q_a w 2491 n = q_a v 2491 n) : ru_z w t = ru_z v t := by
  induction t with
  | zero => rfl
  | succ t ih =>
    have e1 : ∀ u : q_V, ru_z u (t + 1) = if q_a u 2491 t ≤ 0 then ru_z u t else q_a u 2491 t := fun _ => rfl
    rw [e1, e1, h t (by omega), ih (fun n x => h n (by omega))]
theorem ru_D_p {T : co_T} {XL : Int32 → Int32 → Int32 → Prop} {cl t np h g : Nat} {vc vr : q_V} {x y : Int32} (d : ru_D T XL cl t np vc vr) : ru_D T XL cl t np (ru_pc vc h x) (ru_pr vr g y) :=
  ⟨d.1, d.2.1, d.2.2.1, d.2.2.2.1, ⟨d.2.2.2.2.1.1, d.2.2.2.2.1.2.1.trans (ru_z_c (v := vr) (w := ru_pr vr g y) (fun _ _ => rfl)).symm, d.2.2.2.2.1.2.2⟩, d.2.2.2.2.2⟩
theorem ru_W_p {h g : Nat} {vc vr : q_V} {x y : Int32} (d : ru_W vc vr) : ru_W (ru_pc vc h x) (ru_pr vr g y) := d
theorem ru_K_p {np t h g cl h' g' : Nat} {vc vr vc1 vr1 : q_V} {x y : Int32} (a : ru_K np t h g cl vc vr vc1 vr1) (h1 : h ≤ h') (h2 : g ≤ g') : ru_K np t h g cl vc vr (ru_pc vc1 h' x) (ru_pr vr1 g' y) :=
  ⟨a.1, fun i z => (show upd (q_a vc1 802) h' x i = _ from by unfold upd; rw [if_neg (by omega)]; exact a.2.1 i z), fun j n z1 z2 z3 => ⟨(show q_a (ru_pr vr1 g' y) j n = _ from by unfold ru_pr; rw [q_a_sa, if_neg (by omega)]; exact (a.2.2.1 j n z1 z2 z3).1), (a.2.2.1 j n z1 z2 z3).2⟩, fun i z => (show upd (q_a vr1 2515) g' y i = _ from by unfold upd; rw [if_neg (by omega)]; exact a.2.2.2.1 i z), a.2.2.2.2⟩
/-- the class's log cannot run over -/
theorem ru_G_l {Fin : q_V → q_V → Prop} {a : ru_P} {B : Nat} {vc vr : q_V} (h : ru_l vc ≤ 2000000000 → ru_G Fin a (B + 1) vc vr) : ru_G Fin a (B + 1) vc vr := fun s h1 h2 h3 h4 => h (by omega) s h1 h2 h3 h4
theorem ru_L_l {Fin : q_V → q_V → Prop} {a : ru_P} {B : Nat} {vc vr : q_V} (h : ru_l vc ≤ 2000000000 → ru_L Fin a (B + 1) vc vr) : ru_L Fin a (B + 1) vc vr := fun s h1 h2 h3 h4 => h (by omega) s h1 h2 h3 h4
theorem ru_L_l2 {Fin : q_V → q_V → Prop} {a : ru_P} {B : Nat} {vc vr : q_V} (h : ru_l vc ≤ 1999999998 → ru_L Fin a (B + 1) vc vr) : ru_L Fin a (B + 1) vc vr := fun s h1 h2 h3 h4 => h (by omega) s h1 h2 h3 h4
/-- a trouble on the way out -/
def ru_wt (vc vr : q_V) : Prop := q_f vc 2000 168 = 4 ∧ q_i vr 2481 = 4 ∧ q_f vc 2001 168 = q_i vr 2484 ∧ q_f vc 2002 168 = q_i vr 2485 ∧ q_f vc 2003 168 = q_i vr 2486 ∧ 0 < q_i vr 2484
/-- what the doing of a piece that leaves `m` values comes to -/
def ru_SA (Fin : q_V → q_V → Prop) (a : ru_P) (T : co_T) (XL : Int32 → Int32 → Int32 → Prop) (f0 : Nat) (m hb p p' q q' : Nat) : Prop :=
  p ≤ p' ∧ q ≤ q' ∧ ∀ c f h g np t cl vc vr, ru_D T XL cl t np vc vr → ru_W vc vr → f ≤ f0 → f0 ≤ 20000 → h + hb ≤ 140 * cl → g ≤ h → (1 ≤ np ∧ np ≤ 14 * cl) → t ≤ 15 * cl → 1 ≤ cl → cl ≤ 12 →
    (∀ f' vc' vr', ru_D T XL cl t np vc' vr' → ru_W vc' vr' → f' ≤ f → ru_K np t h g cl vc vr vc' vr' → (∀ i, i < m → q_a vc' 802 (h + i) = q_a vr' 2515 (g + i)) → ru_G Fin a (40000 * f' + c) (mC vc' p' (h + m) f' np cl) (mR vr' q' (g + m) f' t cl)) →
    (∀ f' p'' h'' q'' g'' vc' vr', ru_D T XL cl t np vc' vr' → ru_wt vc' vr' → f' ≤ f → ru_K np t h g cl vc vr vc' vr' → ru_L Fin a (40000 * f' + c) (mC vc' p'' h'' f' np cl) (mR vr' q'' g'' f' t cl)) →
    ru_G Fin a (40000 * f + c + 4 * (p' - p)) (mC vc p h f np cl) (mR vr q g f t cl)
