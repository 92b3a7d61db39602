theorem q_ext {v w : q_V} (h1 : ∀ k, q_i v k = q_i w k) (h2 : q_j v = q_j w) (h3 : q_a v = q_a w) (h4 : q_b v = q_b w) (h5 : q_f v = q_f w) (h6 : q_c v = q_c w) (h7 : q_n v = q_n w) : v = w := by
  obtain ⟨a, b, c, d, e, f, g⟩ := v
  obtain ⟨a', b', c', d', e', f', g'⟩ := w
  have h1' : a = a' := funext h1
  have h2' : b = b' := h2
  have h3' : c = c' := h3
  have h4' : d = d' := h4
  have h5' : e = e' := h5
  have h6' : f = f' := h6
  have h7' : g = g' := h7
  subst h1' h2' h3' h4' h5' h6' h7'; rfl
/-- the class's machine: next order, values, fuel, parts, calls laid over a view -/
def mC (v : q_V) (p h f np cl : Nat) : q_V := (fun k => if k = 810 then nI p else if k = 803 then nI h else if k = 813 then nI f else if k = 807 then nI np else if k = 805 then nI cl else q_i v k, q_j v, q_a v, q_b v, q_f v, q_c v, q_n v)
/-- the reference's: pc, high, fuel, top, depth -/
def mR (v : q_V) (q g f t cl : Nat) : q_V := (fun k => if k = 2510 then nI q else if k = 2516 then nI g else if k = 2512 then nI f else if k = 2487 then nI t else if k = 2501 then nI cl else q_i v k, q_j v, q_a v, q_b v, q_f v, q_c v, q_n v)
theorem mC_810 {v : q_V} {p h f np cl : Nat} : q_i (mC v p h f np cl) 810 = nI p := rfl
theorem mC_s810 {v : q_V} {p h f np cl : Nat} {p' : Nat} : q_si (mC v p h f np cl) 810 (nI p') = mC v p' h f np cl := by
  refine q_ext (fun k => ?_) rfl rfl rfl rfl rfl rfl
  show (if k = 810 then _ else _) = _
  unfold mC q_i; dsimp only; repeat' split <;> simp_all
theorem mC_803 {v : q_V} {p h f np cl : Nat} : q_i (mC v p h f np cl) 803 = nI h := rfl
theorem mC_s803 {v : q_V} {p h f np cl : Nat} {h' : Nat} : q_si (mC v p h f np cl) 803 (nI h') = mC v p h' f np cl := by
  refine q_ext (fun k => ?_) rfl rfl rfl rfl rfl rfl
  show (if k = 803 then _ else _) = _
  unfold mC q_i; dsimp only; repeat' split <;> simp_all
theorem mC_813 {v : q_V} {p h f np cl : Nat} : q_i (mC v p h f np cl) 813 = nI f := rfl
theorem mC_s813 {v : q_V} {p h f np cl : Nat} {f' : Nat} : q_si (mC v p h f np cl) 813 (nI f') = mC v p h f' np cl := by
  refine q_ext (fun k => ?_) rfl rfl rfl rfl rfl rfl
  show (if k = 813 then _ else _) = _
  unfold mC q_i; dsimp only; repeat' split <;> simp_all
theorem mC_807 {v : q_V} {p h f np cl : Nat} : q_i (mC v p h f np cl) 807 = nI np := rfl
theorem mC_s807 {v : q_V} {p h f np cl : Nat} {np' : Nat} : q_si (mC v p h f np cl) 807 (nI np') = mC v p h f np' cl := by
  refine q_ext (fun k => ?_) rfl rfl rfl rfl rfl rfl
  show (if k = 807 then _ else _) = _
  unfold mC q_i; dsimp only; repeat' split <;> simp_all
theorem mC_805 {v : q_V} {p h f np cl : Nat} : q_i (mC v p h f np cl) 805 = nI cl := rfl
theorem mC_s805 {v : q_V} {p h f np cl : Nat} {cl' : Nat} : q_si (mC v p h f np cl) 805 (nI cl') = mC v p h f np cl' := by
  refine q_ext (fun k => ?_) rfl rfl rfl rfl rfl rfl
  show (if k = 805 then _ else _) = _
  unfold mC q_i; dsimp only; repeat' split <;> simp_all
theorem mC_i {v : q_V} {p h f np cl : Nat} {k : Nat} : q_i (mC v p h f np cl) k = if k = 810 then nI p else if k = 803 then nI h else if k = 813 then nI f else if k = 807 then nI np else if k = 805 then nI cl else q_i v k := rfl
theorem mC_j {v : q_V} {p h f np cl : Nat} : q_j (mC v p h f np cl) = q_j v := rfl
theorem mC_a {v : q_V} {p h f np cl : Nat} : q_a (mC v p h f np cl) = q_a v := rfl
theorem mC_b {v : q_V} {p h f np cl : Nat} : q_b (mC v p h f np cl) = q_b v := rfl
theorem mC_f {v : q_V} {p h f np cl : Nat} : q_f (mC v p h f np cl) = q_f v := rfl
theorem mC_c {v : q_V} {p h f np cl : Nat} : q_c (mC v p h f np cl) = q_c v := rfl
theorem mC_n {v : q_V} {p h f np cl : Nat} : q_n (mC v p h f np cl) = q_n v := rfl
theorem mC_sa {v : q_V} {p h f np cl : Nat} {k : Nat} {x : Nat → Int32} : q_sa (mC v p h f np cl) k x = mC (q_sa v k x) p h f np cl := rfl
theorem mC_sb {v : q_V} {p h f np cl : Nat} {k : Nat} {x : Nat → Int64} : q_sb (mC v p h f np cl) k x = mC (q_sb v k x) p h f np cl := rfl
theorem mC_sf {v : q_V} {p h f np cl : Nat} {k n : Nat} {x : Int32} : q_sf (mC v p h f np cl) k n x = mC (q_sf v k n x) p h f np cl := rfl
theorem mC_sc {v : q_V} {p h f np cl : Nat} {k n : Nat} {x : Nat → Int32} : q_sc (mC v p h f np cl) k n x = mC (q_sc v k n x) p h f np cl := rfl
theorem mC_s811 {v : q_V} {p h f np cl : Nat} {x : Int32} : q_si (mC v p h f np cl) 811 x = mC (q_si v 811 x) p h f np cl := by
  refine q_ext (fun k => ?_) rfl rfl rfl rfl rfl rfl
  show (if k = 811 then _ else _) = _
  unfold mC q_si q_i; dsimp only; repeat' split <;> simp_all
theorem mC_s812 {v : q_V} {p h f np cl : Nat} {x : Int32} : q_si (mC v p h f np cl) 812 x = mC (q_si v 812 x) p h f np cl := by
  refine q_ext (fun k => ?_) rfl rfl rfl rfl rfl rfl
  show (if k = 812 then _ else _) = _
  unfold mC q_si q_i; dsimp only; repeat' split <;> simp_all
theorem mC_s814 {v : q_V} {p h f np cl : Nat} {x : Int32} : q_si (mC v p h f np cl) 814 x = mC (q_si v 814 x) p h f np cl := by
  refine q_ext (fun k => ?_) rfl rfl rfl rfl rfl rfl
  show (if k = 814 then _ else _) = _
  unfold mC q_si q_i; dsimp only; repeat' split <;> simp_all
theorem mC_of {v : q_V} {p h f np cl : Nat} (e0 : q_i v 810 = nI p) (e1 : q_i v 803 = nI h) (e2 : q_i v 813 = nI f) (e3 : q_i v 807 = nI np) (e4 : q_i v 805 = nI cl) : v = mC v p h f np cl := by
  refine q_ext (fun k => ?_) rfl rfl rfl rfl rfl rfl
  rw [mC_i]
  by_cases c0 : k = 810
  · rw [if_pos c0, c0, e0]
  rw [if_neg c0]
  by_cases c1 : k = 803
  · rw [if_pos c1, c1, e1]
  rw [if_neg c1]
  by_cases c2 : k = 813
  · rw [if_pos c2, c2, e2]
  rw [if_neg c2]
  by_cases c3 : k = 807
  · rw [if_pos c3, c3, e3]
  rw [if_neg c3]
  by_cases c4 : k = 805
  · rw [if_pos c4, c4, e4]
  rw [if_neg c4]
theorem mR_2510 {v : q_V} {q g f t cl : Nat} : q_i (mR v q g f t cl) 2510 = nI q := rfl
theorem mR_s2510 {v : q_V} {q g f t cl : Nat} {q' : Nat} : q_si (mR v q g f t cl) 2510 (nI q') = mR v q' g f t cl := by
  refine q_ext (fun k => ?_) rfl rfl rfl rfl rfl rfl
  show (if k = 2510 then _ else _) = _
  unfold mR q_i; dsimp only; repeat' split <;> simp_all
theorem mR_2516 {v : q_V} {q g f t cl : Nat} : q_i (mR v q g f t cl) 2516 = nI g := rfl
theorem mR_s2516 {v : q_V} {q g f t cl : Nat} {g' : Nat} : q_si (mR v q g f t cl) 2516 (nI g') = mR v q g' f t cl := by
  refine q_ext (fun k => ?_) rfl rfl rfl rfl rfl rfl
  show (if k = 2516 then _ else _) = _
  unfold mR q_i; dsimp only; repeat' split <;> simp_all
theorem mR_2512 {v : q_V} {q g f t cl : Nat} : q_i (mR v q g f t cl) 2512 = nI f := rfl
theorem mR_s2512 {v : q_V} {q g f t cl : Nat} {f' : Nat} : q_si (mR v q g f t cl) 2512 (nI f') = mR v q g f' t cl := by
  refine q_ext (fun k => ?_) rfl rfl rfl rfl rfl rfl
  show (if k = 2512 then _ else _) = _
  unfold mR q_i; dsimp only; repeat' split <;> simp_all
theorem mR_2487 {v : q_V} {q g f t cl : Nat} : q_i (mR v q g f t cl) 2487 = nI t := rfl
theorem mR_s2487 {v : q_V} {q g f t cl : Nat} {t' : Nat} : q_si (mR v q g f t cl) 2487 (nI t') = mR v q g f t' cl := by
  refine q_ext (fun k => ?_) rfl rfl rfl rfl rfl rfl
  show (if k = 2487 then _ else _) = _
  unfold mR q_i; dsimp only; repeat' split <;> simp_all
theorem mR_2501 {v : q_V} {q g f t cl : Nat} : q_i (mR v q g f t cl) 2501 = nI cl := rfl
theorem mR_s2501 {v : q_V} {q g f t cl : Nat} {cl' : Nat} : q_si (mR v q g f t cl) 2501 (nI cl') = mR v q g f t cl' := by
  refine q_ext (fun k => ?_) rfl rfl rfl rfl rfl rfl
  show (if k = 2501 then _ else _) = _
  unfold mR q_i; dsimp only; repeat' split <;> simp_all
theorem mR_i {v : q_V} {q g f t cl : Nat} {k : Nat} : q_i (mR v q g f t cl) k = if k = 2510 then nI q else if k = 2516 then nI g else if k = 2512 then nI f else if k = 2487 then nI t else if k = 2501 then nI cl else q_i v k := rfl
theorem mR_j {v : q_V} {q g f t cl : Nat} : q_j (mR v q g f t cl) = q_j v := rfl
theorem mR_a {v : q_V} {q g f t cl : Nat} : q_a (mR v q g f t cl) = q_a v := rfl
theorem mR_b {v : q_V} {q g f t cl : Nat} : q_b (mR v q g f t cl) = q_b v := rfl
theorem mR_f {v : q_V} {q g f t cl : Nat} : q_f (mR v q g f t cl) = q_f v := rfl
theorem mR_c {v : q_V} {q g f t cl : Nat} : q_c (mR v q g f t cl) = q_c v := rfl
theorem mR_n {v : q_V} {q g f t cl : Nat} : q_n (mR v q g f t cl) = q_n v := rfl
theorem mR_sa {v : q_V} {q g f t cl : Nat} {k : Nat} {x : Nat → Int32} : q_sa (mR v q g f t cl) k x = mR (q_sa v k x) q g f t cl := rfl
theorem mR_sb {v : q_V} {q g f t cl : Nat} {k : Nat} {x : Nat → Int64} : q_sb (mR v q g f t cl) k x = mR (q_sb v k x) q g f t cl := rfl
theorem mR_sf {v : q_V} {q g f t cl : Nat} {k n : Nat} {x : Int32} : q_sf (mR v q g f t cl) k n x = mR (q_sf v k n x) q g f t cl := rfl
theorem mR_sc {v : q_V} {q g f t cl : Nat} {k n : Nat} {x : Nat → Int32} : q_sc (mR v q g f t cl) k n x = mR (q_sc v k n x) q g f t cl := rfl
theorem mR_s2470 {v : q_V} {q g f t cl : Nat} {x : Int32} : q_si (mR v q g f t cl) 2470 x = mR (q_si v 2470 x) q g f t cl := by
  refine q_ext (fun k => ?_) rfl rfl rfl rfl rfl rfl
  show (if k = 2470 then _ else _) = _
  unfold mR q_si q_i; dsimp only; repeat' split <;> simp_all
theorem mR_s2471 {v : q_V} {q g f t cl : Nat} {x : Int32} : q_si (mR v q g f t cl) 2471 x = mR (q_si v 2471 x) q g f t cl := by
  refine q_ext (fun k => ?_) rfl rfl rfl rfl rfl rfl
  show (if k = 2471 then _ else _) = _
  unfold mR q_si q_i; dsimp only; repeat' split <;> simp_all
theorem mR_s2472 {v : q_V} {q g f t cl : Nat} {x : Int32} : q_si (mR v q g f t cl) 2472 x = mR (q_si v 2472 x) q g f t cl := by
  refine q_ext (fun k => ?_) rfl rfl rfl rfl rfl rfl
  show (if k = 2472 then _ else _) = _
  unfold mR q_si q_i; dsimp only; repeat' split <;> simp_all
theorem mR_s2473 {v : q_V} {q g f t cl : Nat} {x : Int32} : q_si (mR v q g f t cl) 2473 x = mR (q_si v 2473 x) q g f t cl := by
  refine q_ext (fun k => ?_) rfl rfl rfl rfl rfl rfl
  show (if k = 2473 then _ else _) = _
  unfold mR q_si q_i; dsimp only; repeat' split <;> simp_all
theorem mR_s2474 {v : q_V} {q g f t cl : Nat} {x : Int32} : q_si (mR v q g f t cl) 2474 x = mR (q_si v 2474 x) q g f t cl := by
  refine q_ext (fun k => ?_) rfl rfl rfl rfl rfl rfl
  show (if k = 2474 then _ else _) = _
  unfold mR q_si q_i; dsimp only; repeat' split <;> simp_all
theorem mR_s2475 {v : q_V} {q g f t cl : Nat} {x : Int32} : q_si (mR v q g f t cl) 2475 x = mR (q_si v 2475 x) q g f t cl := by
  refine q_ext (fun k => ?_) rfl rfl rfl rfl rfl rfl
  show (if k = 2475 then _ else _) = _
  unfold mR q_si q_i; dsimp only; repeat' split <;> simp_all
theorem mR_s2476 {v : q_V} {q g f t cl : Nat} {x : Int32} : q_si (mR v q g f t cl) 2476 x = mR (q_si v 2476 x) q g f t cl := by
  refine q_ext (fun k => ?_) rfl rfl rfl rfl rfl rfl
  show (if k = 2476 then _ else _) = _
  unfold mR q_si q_i; dsimp only; repeat' split <;> simp_all
theorem mR_s2477 {v : q_V} {q g f t cl : Nat} {x : Int32} : q_si (mR v q g f t cl) 2477 x = mR (q_si v 2477 x) q g f t cl := by
  refine q_ext (fun k => ?_) rfl rfl rfl rfl rfl rfl
  show (if k = 2477 then _ else _) = _
  unfold mR q_si q_i; dsimp only; repeat' split <;> simp_all
theorem mR_s2478 {v : q_V} {q g f t cl : Nat} {x : Int32} : q_si (mR v q g f t cl) 2478 x = mR (q_si v 2478 x) q g f t cl := by
  refine q_ext (fun k => ?_) rfl rfl rfl rfl rfl rfl
  show (if k = 2478 then _ else _) = _
  unfold mR q_si q_i; dsimp only; repeat' split <;> simp_all
theorem mR_s2479 {v : q_V} {q g f t cl : Nat} {x : Int32} : q_si (mR v q g f t cl) 2479 x = mR (q_si v 2479 x) q g f t cl := by
  refine q_ext (fun k => ?_) rfl rfl rfl rfl rfl rfl
  show (if k = 2479 then _ else _) = _
  unfold mR q_si q_i; dsimp only; repeat' split <;> simp_all
theorem mR_s2480 {v : q_V} {q g f t cl : Nat} {x : Int32} : q_si (mR v q g f t cl) 2480 x = mR (q_si v 2480 x) q g f t cl := by
  refine q_ext (fun k => ?_) rfl rfl rfl rfl rfl rfl
  show (if k = 2480 then _ else _) = _
  unfold mR q_si q_i; dsimp only; repeat' split <;> simp_all
theorem mR_s2481 {v : q_V} {q g f t cl : Nat} {x : Int32} : q_si (mR v q g f t cl) 2481 x = mR (q_si v 2481 x) q g f t cl := by
  refine q_ext (fun k => ?_) rfl rfl rfl rfl rfl rfl
  show (if k = 2481 then _ else _) = _
  unfold mR q_si q_i; dsimp only; repeat' split <;> simp_all
theorem mR_s2482 {v : q_V} {q g f t cl : Nat} {x : Int32} : q_si (mR v q g f t cl) 2482 x = mR (q_si v 2482 x) q g f t cl := by
  refine q_ext (fun k => ?_) rfl rfl rfl rfl rfl rfl
  show (if k = 2482 then _ else _) = _
  unfold mR q_si q_i; dsimp only; repeat' split <;> simp_all
theorem mR_s2483 {v : q_V} {q g f t cl : Nat} {x : Int32} : q_si (mR v q g f t cl) 2483 x = mR (q_si v 2483 x) q g f t cl := by
  refine q_ext (fun k => ?_) rfl rfl rfl rfl rfl rfl
  show (if k = 2483 then _ else _) = _
  unfold mR q_si q_i; dsimp only; repeat' split <;> simp_all
theorem mR_s2484 {v : q_V} {q g f t cl : Nat} {x : Int32} : q_si (mR v q g f t cl) 2484 x = mR (q_si v 2484 x) q g f t cl := by
  refine q_ext (fun k => ?_) rfl rfl rfl rfl rfl rfl
  show (if k = 2484 then _ else _) = _
  unfold mR q_si q_i; dsimp only; repeat' split <;> simp_all
theorem mR_s2485 {v : q_V} {q g f t cl : Nat} {x : Int32} : q_si (mR v q g f t cl) 2485 x = mR (q_si v 2485 x) q g f t cl := by
  refine q_ext (fun k => ?_) rfl rfl rfl rfl rfl rfl
  show (if k = 2485 then _ else _) = _
  unfold mR q_si q_i; dsimp only; repeat' split <;> simp_all
theorem mR_s2486 {v : q_V} {q g f t cl : Nat} {x : Int32} : q_si (mR v q g f t cl) 2486 x = mR (q_si v 2486 x) q g f t cl := by
  refine q_ext (fun k => ?_) rfl rfl rfl rfl rfl rfl
  show (if k = 2486 then _ else _) = _
  unfold mR q_si q_i; dsimp only; repeat' split <;> simp_all
theorem mR_s2511 {v : q_V} {q g f t cl : Nat} {x : Int32} : q_si (mR v q g f t cl) 2511 x = mR (q_si v 2511 x) q g f t cl := by
  refine q_ext (fun k => ?_) rfl rfl rfl rfl rfl rfl
  show (if k = 2511 then _ else _) = _
  unfold mR q_si q_i; dsimp only; repeat' split <;> simp_all
theorem mR_s2513 {v : q_V} {q g f t cl : Nat} {x : Int32} : q_si (mR v q g f t cl) 2513 x = mR (q_si v 2513 x) q g f t cl := by
  refine q_ext (fun k => ?_) rfl rfl rfl rfl rfl rfl
  show (if k = 2513 then _ else _) = _
  unfold mR q_si q_i; dsimp only; repeat' split <;> simp_all
theorem mR_s2514 {v : q_V} {q g f t cl : Nat} {x : Int32} : q_si (mR v q g f t cl) 2514 x = mR (q_si v 2514 x) q g f t cl := by
  refine q_ext (fun k => ?_) rfl rfl rfl rfl rfl rfl
  show (if k = 2514 then _ else _) = _
  unfold mR q_si q_i; dsimp only; repeat' split <;> simp_all
theorem mR_of {v : q_V} {q g f t cl : Nat} (e0 : q_i v 2510 = nI q) (e1 : q_i v 2516 = nI g) (e2 : q_i v 2512 = nI f) (e3 : q_i v 2487 = nI t) (e4 : q_i v 2501 = nI cl) : v = mR v q g f t cl := by
  refine q_ext (fun k => ?_) rfl rfl rfl rfl rfl rfl
  rw [mR_i]
  by_cases c0 : k = 2510
  · rw [if_pos c0, c0, e0]
  rw [if_neg c0]
  by_cases c1 : k = 2516
  · rw [if_pos c1, c1, e1]
  rw [if_neg c1]
  by_cases c2 : k = 2512
  · rw [if_pos c2, c2, e2]
  rw [if_neg c2]
  by_cases c3 : k = 2487
  · rw [if_pos c3, c3, e3]
  rw [if_neg c3]
  by_cases c4 : k = 2501
  · rw [if_pos c4, c4, e4]
  rw [if_neg c4]
