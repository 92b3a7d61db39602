/-! THE TWO ROWS OF ORDERS, SIDE BY SIDE. `T = (C, sz, R, pm)`: the class's row and its size, the reference's nine rows, the duties' parameters. A predicate `X` speaks of a piece: what it is (0 an E, 100 + m its m arguments, 1 a block, 2 a statement, 3 a list of a choose, 4 whens, 5 a list of a mend, 6 mends), what room it needs (an E: values; else: nests), the loops around, two targets, from where to where in both rows. -/
abbrev co_T : Type := (Nat → Int32) × Nat × (Nat → Nat → Int32) × (Nat → Option (Nat × Nat × Nat))
abbrev co_X : Type := Nat → Nat → List (Nat × Nat) → Nat → Nat → Nat → Nat → Nat → Nat → Prop
def co_c (T : co_T) (x : Nat) (y : Int32) : Prop := x < T.2.1 ∧ T.1 x = y
def co_r (T : co_T) (j x : Nat) (y : Int32) : Prop := x < 4000 ∧ T.2.2.1 j x = y
def co_d (T : co_T) (j x : Nat) (y : Int32) : Prop := x < 640 ∧ T.2.2.1 j x = y
def co_un : List (Int32 × Int32) := [(5, 5), (6, 6), (17, 20), (18, 21), (20, 23), (21, 24)]
def co_bi : List (Int32 × Int32) := [(8, 7), (9, 8), (10, 9), (11, 10), (12, 11), (13, 12), (14, 13), (15, 14), (16, 15), (19, 22)]
def co_or : List (Nat × Int32 × Int32) := [(1, 35, 31), (2, 36, 32), (2, 37, 33), (3, 38, 34), (2, 39, 35), (1, 43, 36), (1, 42, 38)]
/-- E's -/
def co_E (T : co_T) (X : co_X) : Prop :=
  (∀ hb p q y, 1 ≤ hb → co_c T p 1 → co_c T (p + 1) y → co_r T 0 q 1 → co_r T 1 q y → X 0 hb [] 0 0 p (p + 2) q (q + 1)) ∧
  (∀ hb p q (y : Nat), 1 ≤ hb → y < 24 → co_c T p 2 → co_c T (p + 1) (nI y) → co_r T 0 q 2 → co_r T 1 q (nI y) → X 0 hb [] 0 0 p (p + 2) q (q + 1)) ∧
  (∀ hb p q, 1 ≤ hb → co_c T p 3 → co_r T 0 q 25 → X 0 hb [] 0 0 p (p + 1) q (q + 1)) ∧
  (∀ hb p q, 1 ≤ hb → co_c T p 4 → co_r T 0 q 26 → X 0 hb [] 0 0 p (p + 1) q (q + 1)) ∧
  (∀ hb p p1 q q1 o, X 0 hb [] 0 0 p p1 q q1 → o ∈ co_un → co_c T p1 o.1 → co_r T 0 q1 o.2 → X 0 hb [] 0 0 p (p1 + 1) q (q1 + 1)) ∧
  (∀ hb p p2 q q2 o, X 102 hb [] 0 0 p p2 q q2 → o ∈ co_bi → co_c T p2 o.1 → co_r T 0 q2 o.2 → X 0 hb [] 0 0 p (p2 + 1) q (q2 + 1)) ∧
  (∀ hb p p1 p2 q q1 q2 (o : Bool), X 0 hb [] 0 0 p p1 q q1 → co_c T p1 (if o then 24 else 25) → co_c T (p1 + 1) (nI (p2 + 1)) → co_r T 0 q1 (if o then 16 else 17) → co_r T 1 q1 (nI (q2 + 1)) →
    X 0 hb [] 0 0 (p1 + 2) p2 (q1 + 1) q2 → co_c T p2 7 → co_r T 0 q2 18 → X 0 hb [] 0 0 p (p2 + 1) q (q2 + 1)) ∧
  (∀ hb p p1 q q1 k d pe qe, X (100 + k) hb [] 0 0 p p1 q q1 → 1 ≤ hb → T.2.2.2 d = some (k, pe, qe) → co_c T p1 53 → co_c T (p1 + 1) (nI d) → co_r T 0 q1 19 → co_r T 1 q1 (nI d) → co_r T 2 q1 (nI k) → X 0 hb [] 0 0 p (p1 + 2) q (q1 + 1)) ∧
  (∀ hb p q, X 100 hb [] 0 0 p p q q) ∧
  (∀ hb hb1 m p p1 p' q q1 q', X (100 + m) hb [] 0 0 p p1 q q1 → X 0 hb1 [] 0 0 p1 p' q1 q' → hb1 + m ≤ hb → X (100 + m + 1) hb [] 0 0 p p' q q')
