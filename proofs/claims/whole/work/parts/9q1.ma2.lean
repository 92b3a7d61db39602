/-- the graph between calls, what the machine owns may change -/
def q_Gm (g : q_G) (S0 S : kp_S) : Prop := q_inj g ∧ q_gr 3 g (kp_R S) (kp_C S) (kp_N S) ∧ kp_fr (q_own 0 g) S0 S
set_option maxHeartbeats 200000 in
theorem m_p200 {g : q_G} {S0 S : kp_S} (h : q_Gm g S0 S) : kp_R S 200 (g 0 1 0) = some (g 1 200 0) := h.2.1.1 _ (List.mem_of_getElem? (i := 2) rfl)
set_option maxHeartbeats 200000 in
theorem m_p201 {g : q_G} {S0 S : kp_S} (h : q_Gm g S0 S) : kp_R S 201 (g 0 1 0) = some (g 1 201 0) := h.2.1.1 _ (List.mem_of_getElem? (i := 3) rfl)
set_option maxHeartbeats 200000 in
theorem m_p202 {g : q_G} {S0 S : kp_S} (h : q_Gm g S0 S) : kp_R S 202 (g 0 1 0) = some (g 1 202 0) := h.2.1.1 _ (List.mem_of_getElem? (i := 4) rfl)
set_option maxHeartbeats 200000 in
theorem m_p203 {g : q_G} {S0 S : kp_S} (h : q_Gm g S0 S) : kp_R S 203 (g 0 1 0) = some (g 1 203 0) := h.2.1.1 _ (List.mem_of_getElem? (i := 5) rfl)
set_option maxHeartbeats 200000 in
theorem m_p204 {g : q_G} {S0 S : kp_S} (h : q_Gm g S0 S) : kp_R S 204 (g 0 1 0) = some (g 1 204 0) := h.2.1.1 _ (List.mem_of_getElem? (i := 6) rfl)
set_option maxHeartbeats 200000 in
theorem m_p1400 {g : q_G} {S0 S : kp_S} (h : q_Gm g S0 S) : kp_R S 1400 (g 0 7 0) = some (g 1 1400 0) := h.2.1.1 _ (List.mem_of_getElem? (i := 21) rfl)
set_option maxHeartbeats 200000 in
theorem m_p1401 {g : q_G} {S0 S : kp_S} (h : q_Gm g S0 S) : kp_R S 1401 (g 0 7 0) = some (g 1 1401 0) := h.2.1.1 _ (List.mem_of_getElem? (i := 22) rfl)
set_option maxHeartbeats 200000 in
theorem m_p1402 {g : q_G} {S0 S : kp_S} (h : q_Gm g S0 S) : kp_R S 1402 (g 0 7 0) = some (g 1 1402 0) := h.2.1.1 _ (List.mem_of_getElem? (i := 23) rfl)
set_option maxHeartbeats 200000 in
theorem m_p2202 {g : q_G} {S0 S : kp_S} (h : q_Gm g S0 S) : kp_R S 2202 (g 0 11 0) = some (g 0 1 0) := h.2.1.1 _ (List.mem_of_getElem? (i := 31) rfl)
set_option maxHeartbeats 200000 in
theorem m_p2203 {g : q_G} {S0 S : kp_S} (h : q_Gm g S0 S) : kp_R S 2203 (g 0 11 0) = some (g 0 7 0) := h.2.1.1 _ (List.mem_of_getElem? (i := 32) rfl)
set_option maxHeartbeats 200000 in
theorem m_l200 {g : q_G} {S0 S : kp_S} (h : q_Gm g S0 S) : kp_N S (g 1 200 0) = 6 := h.2.1.2.2.1 _ (List.mem_of_getElem? (i := 0) rfl)
set_option maxHeartbeats 200000 in
theorem m_l201 {g : q_G} {S0 S : kp_S} (h : q_Gm g S0 S) : kp_N S (g 1 201 0) = 7 := h.2.1.2.2.1 _ (List.mem_of_getElem? (i := 1) rfl)
set_option maxHeartbeats 200000 in
theorem m_l202 {g : q_G} {S0 S : kp_S} (h : q_Gm g S0 S) : kp_N S (g 1 202 0) = 12 := h.2.1.2.2.1 _ (List.mem_of_getElem? (i := 2) rfl)
set_option maxHeartbeats 200000 in
theorem m_l203 {g : q_G} {S0 S : kp_S} (h : q_Gm g S0 S) : kp_N S (g 1 203 0) = 6 := h.2.1.2.2.1 _ (List.mem_of_getElem? (i := 3) rfl)
set_option maxHeartbeats 200000 in
theorem m_l204 {g : q_G} {S0 S : kp_S} (h : q_Gm g S0 S) : kp_N S (g 1 204 0) = 8 := h.2.1.2.2.1 _ (List.mem_of_getElem? (i := 4) rfl)
set_option maxHeartbeats 200000 in
theorem m_l1400 {g : q_G} {S0 S : kp_S} (h : q_Gm g S0 S) : kp_N S (g 1 1400 0) = 19 := h.2.1.2.2.1 _ (List.mem_of_getElem? (i := 14) rfl)
set_option maxHeartbeats 200000 in
theorem m_l1401 {g : q_G} {S0 S : kp_S} (h : q_Gm g S0 S) : kp_N S (g 1 1401 0) = 300 := h.2.1.2.2.1 _ (List.mem_of_getElem? (i := 15) rfl)
set_option maxHeartbeats 200000 in
theorem m_l1402 {g : q_G} {S0 S : kp_S} (h : q_Gm g S0 S) : kp_N S (g 1 1402 0) = 300 := h.2.1.2.2.1 _ (List.mem_of_getElem? (i := 16) rfl)
set_option maxHeartbeats 200000 in
theorem m_wA {g : q_G} {S0 S T : kp_S} {k : Nat} {x : Nat → Int32} (h : q_Gm g S0 S) (e : T = kp_sA S (g 1 k 0) x) (ho : q_oc 0 1 k = true) : q_Gm g S0 T ∧ q_w g T = q_sa (q_w g S) k x := by
  subst e
  refine ⟨⟨h.1, h.2.1, q_fr h.2.2 (kp_fr.sA ⟨1, _, 0, ho, rfl⟩)⟩, ?_⟩
  refine Prod.ext rfl (Prod.ext rfl (Prod.ext (funext fun j => ?_) (Prod.ext rfl (Prod.ext rfl (Prod.ext (funext fun j => funext fun m => ?_) rfl)))))
  · show kp_A (kp_sA S (g 1 k 0) x) (g 1 j 0) = if j = k then x else kp_A S (g 1 j 0)
    rw [rd_A_sA]
    by_cases hj : j = k
    · subst hj; rw [if_pos rfl, if_pos rfl]
    · rw [if_neg (fun q => hj (h.1 _ _ _ _ _ _ q).2.1), if_neg hj]
  · show kp_A (kp_sA S (g 1 k 0) x) (g 3 j m) = kp_A S (g 3 j m)
    rw [rd_A_sA, if_neg (fun q => absurd (h.1 _ _ _ _ _ _ q).1 (by decide))]
set_option maxHeartbeats 200000 in
theorem m_fin {α : Type} {g : q_G} {S0 T : kp_S} {a y : α} {v : q_V} {post : α → kp_S → Prop} (h : some (a, q_w g T) = some (y, v)) (kk : ∀ S', q_Gm g S0 S' → v = q_w g S' → post y S') (R : q_Gm g S0 T) : post a T := by
  cases h; exact kk _ R rfl
set_option maxHeartbeats 200000 in
theorem m_X1_isLock_b15 {g : q_G} {S0 : kp_S} {x0 : Int32} {xt0 : Int32} {Sn : kp_S} {post : Int32 → kp_S → Prop} {y : Int32} {v : q_V} (R : q_Gm g S0 Sn)  (h : fX1_isLock_b15 x0 xt0 (q_w g Sn) = some (y, v)) (kk : ∀ S, q_Gm g S0 S → v = q_w g S → post y S) : wX1_isLock_b15 x0 xt0 Sn post := by
  unfold wX1_isLock_b15; unfold fX1_isLock_b15 at h
  obtain ⟨hi, h⟩ := q_in h
  refine ⟨Classical.not_not.mp hi, ?_⟩
  exact m_fin h kk R
set_option maxHeartbeats 200000 in
theorem m_X1_isLock_b14 {g : q_G} {S0 : kp_S} {x0 : Int32} {Sn : kp_S} {post : Int32 → kp_S → Prop} {y : Int32} {v : q_V} (R : q_Gm g S0 Sn)  (h : fX1_isLock_b14 x0 (q_w g Sn) = some (y, v)) (kk : ∀ S, q_Gm g S0 S → v = q_w g S → post y S) : wX1_isLock_b14 x0 Sn post := by
  unfold wX1_isLock_b14; unfold fX1_isLock_b14 at h
  exact m_X1_isLock_b15 R h kk
set_option maxHeartbeats 200000 in
theorem m_X1_isLock {g : q_G} {S0 : kp_S} {x0 : Int32} {S : kp_S} {post : Int32 → kp_S → Prop} {y : Int32} {v : q_V} (R : q_Gm g S0 S)  (h : fX1_isLock x0 (q_w g S) = some (y, v)) (kk : ∀ S, q_Gm g S0 S → v = q_w g S → post y S) : wX1_isLock x0 S post := by
  unfold wX1_isLock; unfold fX1_isLock at h
  refine ⟨fun c => ?_, fun c => ?_⟩
  · replace h := q_ifp h c
    exact m_X1_isLock_b14 R h kk
  · replace h := q_ifn h c
    refine ⟨fun c => ?_, fun c => ?_⟩
    · replace h := q_ifp h c
      exact m_X1_isLock_b14 R h kk
    · replace h := q_ifn h c
      exact m_X1_isLock_b15 R h kk
set_option maxHeartbeats 200000 in
theorem m_X1_isReach_b15 {g : q_G} {S0 : kp_S} {x0 : Int32} {xt0 : Int32} {Sn : kp_S} {post : Int32 → kp_S → Prop} {y : Int32} {v : q_V} (R : q_Gm g S0 Sn)  (h : fX1_isReach_b15 x0 xt0 (q_w g Sn) = some (y, v)) (kk : ∀ S, q_Gm g S0 S → v = q_w g S → post y S) : wX1_isReach_b15 x0 xt0 Sn post := by
  unfold wX1_isReach_b15; unfold fX1_isReach_b15 at h
  obtain ⟨hi, h⟩ := q_in h
  refine ⟨Classical.not_not.mp hi, ?_⟩
  exact m_fin h kk R
set_option maxHeartbeats 200000 in
theorem m_X1_isReach_b14 {g : q_G} {S0 : kp_S} {x0 : Int32} {Sn : kp_S} {post : Int32 → kp_S → Prop} {y : Int32} {v : q_V} (R : q_Gm g S0 Sn)  (h : fX1_isReach_b14 x0 (q_w g Sn) = some (y, v)) (kk : ∀ S, q_Gm g S0 S → v = q_w g S → post y S) : wX1_isReach_b14 x0 Sn post := by
  unfold wX1_isReach_b14; unfold fX1_isReach_b14 at h
  exact m_X1_isReach_b15 R h kk
set_option maxHeartbeats 200000 in
theorem m_X1_isReach {g : q_G} {S0 : kp_S} {x0 : Int32} {S : kp_S} {post : Int32 → kp_S → Prop} {y : Int32} {v : q_V} (R : q_Gm g S0 S)  (h : fX1_isReach x0 (q_w g S) = some (y, v)) (kk : ∀ S, q_Gm g S0 S → v = q_w g S → post y S) : wX1_isReach x0 S post := by
  unfold wX1_isReach; unfold fX1_isReach at h
  refine ⟨fun c => ?_, fun c => ?_⟩
  · replace h := q_ifp h c
    exact m_X1_isReach_b14 R h kk
  · replace h := q_ifn h c
    refine ⟨fun c => ?_, fun c => ?_⟩
    · replace h := q_ifp h c
      exact m_X1_isReach_b14 R h kk
    · replace h := q_ifn h c
      exact m_X1_isReach_b15 R h kk
set_option maxHeartbeats 200000 in
theorem m_X1_isShip_b15 {g : q_G} {S0 : kp_S} {x0 : Int32} {xt0 : Int32} {Sn : kp_S} {post : Int32 → kp_S → Prop} {y : Int32} {v : q_V} (R : q_Gm g S0 Sn)  (h : fX1_isShip_b15 x0 xt0 (q_w g Sn) = some (y, v)) (kk : ∀ S, q_Gm g S0 S → v = q_w g S → post y S) : wX1_isShip_b15 x0 xt0 Sn post := by
  unfold wX1_isShip_b15; unfold fX1_isShip_b15 at h
  obtain ⟨hi, h⟩ := q_in h
  refine ⟨Classical.not_not.mp hi, ?_⟩
  exact m_fin h kk R
set_option maxHeartbeats 200000 in
theorem m_X1_isShip_b14 {g : q_G} {S0 : kp_S} {x0 : Int32} {Sn : kp_S} {post : Int32 → kp_S → Prop} {y : Int32} {v : q_V} (R : q_Gm g S0 Sn)  (h : fX1_isShip_b14 x0 (q_w g Sn) = some (y, v)) (kk : ∀ S, q_Gm g S0 S → v = q_w g S → post y S) : wX1_isShip_b14 x0 Sn post := by
  unfold wX1_isShip_b14; unfold fX1_isShip_b14 at h
  exact m_X1_isShip_b15 R h kk
set_option maxHeartbeats 200000 in
theorem m_X1_isShip {g : q_G} {S0 : kp_S} {x0 : Int32} {S : kp_S} {post : Int32 → kp_S → Prop} {y : Int32} {v : q_V} (R : q_Gm g S0 S)  (h : fX1_isShip x0 (q_w g S) = some (y, v)) (kk : ∀ S, q_Gm g S0 S → v = q_w g S → post y S) : wX1_isShip x0 S post := by
  unfold wX1_isShip; unfold fX1_isShip at h
  refine ⟨fun c => ?_, fun c => ?_⟩
  · replace h := q_ifp h c
    exact m_X1_isShip_b14 R h kk
  · replace h := q_ifn h c
    refine ⟨fun c => ?_, fun c => ?_⟩
    · replace h := q_ifp h c
      exact m_X1_isShip_b14 R h kk
    · replace h := q_ifn h c
      exact m_X1_isShip_b15 R h kk
set_option maxHeartbeats 200000 in
theorem m_X1_isGate_b24 {g : q_G} {S0 : kp_S} {x0 : Int32} {x1 : Int32} {xt0 : Int32} {Sn : kp_S} {post : Int32 → kp_S → Prop} {y : Int32} {v : q_V} (R : q_Gm g S0 Sn)  (h : fX1_isGate_b24 x0 x1 xt0 (q_w g Sn) = some (y, v)) (kk : ∀ S, q_Gm g S0 S → v = q_w g S → post y S) : wX1_isGate_b24 x0 x1 xt0 Sn post := by
  unfold wX1_isGate_b24; unfold fX1_isGate_b24 at h
  obtain ⟨hi, h⟩ := q_in h
  refine ⟨Classical.not_not.mp hi, ?_⟩
  exact m_fin h kk R
set_option maxHeartbeats 200000 in
theorem m_X1_isGate_b23 {g : q_G} {S0 : kp_S} {x0 : Int32} {x1 : Int32} {Sn : kp_S} {post : Int32 → kp_S → Prop} {y : Int32} {v : q_V} (R : q_Gm g S0 Sn)  (h : fX1_isGate_b23 x0 x1 (q_w g Sn) = some (y, v)) (kk : ∀ S, q_Gm g S0 S → v = q_w g S → post y S) : wX1_isGate_b23 x0 x1 Sn post := by
  unfold wX1_isGate_b23; unfold fX1_isGate_b23 at h
  exact m_X1_isGate_b24 R h kk
set_option maxHeartbeats 200000 in
theorem m_X1_isGate_b19 {g : q_G} {S0 : kp_S} {x0 : Int32} {x1 : Int32} {Sn : kp_S} {post : Int32 → kp_S → Prop} {y : Int32} {v : q_V} (R : q_Gm g S0 Sn)  (h : fX1_isGate_b19 x0 x1 (q_w g Sn) = some (y, v)) (kk : ∀ S, q_Gm g S0 S → v = q_w g S → post y S) : wX1_isGate_b19 x0 x1 Sn post := by
  unfold wX1_isGate_b19; unfold fX1_isGate_b19 at h
  exact m_X1_isGate_b24 R h kk
set_option maxHeartbeats 200000 in
theorem m_X1_isGate {g : q_G} {S0 : kp_S} {x0 : Int32} {x1 : Int32} {S : kp_S} {post : Int32 → kp_S → Prop} {y : Int32} {v : q_V} (R : q_Gm g S0 S)  (h : fX1_isGate x0 x1 (q_w g S) = some (y, v)) (kk : ∀ S, q_Gm g S0 S → v = q_w g S → post y S) : wX1_isGate x0 x1 S post := by
  unfold wX1_isGate; unfold fX1_isGate at h
  refine ⟨fun c => ?_, fun c => ?_⟩
  · replace h := q_ifp h c
    exact m_X1_isGate_b23 R h kk
  · replace h := q_ifn h c
    refine ⟨fun c => ?_, fun c => ?_⟩
    · replace h := q_ifp h c
      exact m_X1_isGate_b23 R h kk
    · replace h := q_ifn h c
      refine ⟨fun c => ?_, fun c => ?_⟩
      · replace h := q_ifp h c
        exact m_X1_isGate_b19 R h kk
      · replace h := q_ifn h c
        refine ⟨fun c => ?_, fun c => ?_⟩
        · replace h := q_ifn h c
          exact m_X1_isGate_b23 R h kk
        · replace h := q_ifp h c
          exact m_X1_isGate_b19 R h kk
set_option maxHeartbeats 200000 in
theorem m_X1_fillReach_b17 {g : q_G} {S0 : kp_S} {x1 : Int32} {x2 : Int32} {Sn : kp_S} {post : Int32 → kp_S → Prop} {y : Int32} {v : q_V} (R : q_Gm g S0 Sn)  (h : fX1_fillReach_b17 x1 x2 (q_w g Sn) = some (y, v)) (kk : ∀ S, q_Gm g S0 S → v = q_w g S → post y S) : wX1_fillReach_b17 (g 0 1 0) x1 x2 Sn post := by
  unfold wX1_fillReach_b17; unfold fX1_fillReach_b17 at h
  exact m_fin h kk R
set_option maxHeartbeats 200000 in
theorem m_X1_fillReach {g : q_G} {S0 : kp_S} {x1 : Int32} {x2 : Int32} {S : kp_S} {post : Int32 → kp_S → Prop} {y : Int32} {v : q_V} (R : q_Gm g S0 S)  (h : fX1_fillReach x1 x2 (q_w g S) = some (y, v)) (kk : ∀ S, q_Gm g S0 S → v = q_w g S → post y S) : wX1_fillReach (g 0 1 0) x1 x2 S post := by
  unfold wX1_fillReach; unfold fX1_fillReach at h
  obtain ⟨y2, v1, h1, h⟩ := q_bdi h
  refine m_X1_isReach R h1 (fun T1 R q => ?_)
  subst q
  refine ⟨fun c => ?_, fun c => ?_⟩
  · replace h := q_ifp h c
    exact m_X1_fillReach_b17 R h kk
  · replace h := q_ifn h c
    refine ⟨fun c => ?_, fun c => ?_⟩
    · replace h := q_ifp h c
      exact m_X1_fillReach_b17 R h kk
    · replace h := q_ifn h c
      refine ⟨fun c => ?_, fun c => ?_⟩
      · replace h := q_ifp h c
        refine ⟨_, m_p201 R, ?_⟩
        rw [m_l201 R]
        obtain ⟨hi, h⟩ := q_in h
        refine ⟨hi, ?_⟩
        intro T4 q
        obtain ⟨R, q⟩ := m_wA R q rfl
        replace h := q_ltw h q
        exact m_fin h kk R
      · replace h := q_ifn h c
        exact m_X1_fillReach_b17 R h kk
set_option maxHeartbeats 200000 in
theorem m_X1_gateOf_b22 {g : q_G} {S0 : kp_S} {x1 : Int32} {x2 : Int32} {xt0 : Int32} {Sn : kp_S} {post : Int32 → kp_S → Prop} {y : Int32} {v : q_V} (R : q_Gm g S0 Sn)  (h : fX1_gateOf_b22 x1 x2 xt0 (q_w g Sn) = some (y, v)) (kk : ∀ S, q_Gm g S0 S → v = q_w g S → post y S) : wX1_gateOf_b22 (g 0 1 0) x1 x2 xt0 Sn post := by
  unfold wX1_gateOf_b22; unfold fX1_gateOf_b22 at h
  exact m_fin h kk R
set_option maxHeartbeats 200000 in
theorem m_X1_gateOf {g : q_G} {S0 : kp_S} {x1 : Int32} {x2 : Int32} {S : kp_S} {post : Int32 → kp_S → Prop} {y : Int32} {v : q_V} (R : q_Gm g S0 S)  (h : fX1_gateOf x1 x2 (q_w g S) = some (y, v)) (kk : ∀ S, q_Gm g S0 S → v = q_w g S → post y S) : wX1_gateOf (g 0 1 0) x1 x2 S post := by
  unfold wX1_gateOf; unfold fX1_gateOf at h
  obtain ⟨y2, v1, h1, h⟩ := q_bdi h
  refine m_X1_isGate R h1 (fun T1 R q => ?_)
  subst q
  refine ⟨fun c => ?_, fun c => ?_⟩
  · replace h := q_ifp h c
    exact m_X1_gateOf_b22 R h kk
  · replace h := q_ifn h c
    refine ⟨_, m_p202 R, ?_⟩
    rw [m_l202 R]
    obtain ⟨hi, h⟩ := q_in h
    refine ⟨hi, ?_⟩
    exact m_X1_gateOf_b22 R h kk
set_option maxHeartbeats 200000 in
theorem m_X1_fillChamber_b38 {g : q_G} {S0 : kp_S} {x1 : Int32} {x2 : Int32} {Sn : kp_S} {post : Int32 → kp_S → Prop} {y : Int32} {v : q_V} (R : q_Gm g S0 Sn)  (h : fX1_fillChamber_b38 x1 x2 (q_w g Sn) = some (y, v)) (kk : ∀ S, q_Gm g S0 S → v = q_w g S → post y S) : wX1_fillChamber_b38 (g 0 1 0) x1 x2 Sn post := by
  unfold wX1_fillChamber_b38; unfold fX1_fillChamber_b38 at h
  exact m_fin h kk R
set_option maxHeartbeats 200000 in
theorem m_X1_fillChamber {g : q_G} {S0 : kp_S} {x1 : Int32} {x2 : Int32} {S : kp_S} {post : Int32 → kp_S → Prop} {y : Int32} {v : q_V} (R : q_Gm g S0 S)  (h : fX1_fillChamber x1 x2 (q_w g S) = some (y, v)) (kk : ∀ S, q_Gm g S0 S → v = q_w g S → post y S) : wX1_fillChamber (g 0 1 0) x1 x2 S post := by
  unfold wX1_fillChamber; unfold fX1_fillChamber at h
  obtain ⟨y2, v1, h1, h⟩ := q_bdi h
  refine m_X1_isLock R h1 (fun T1 R q => ?_)
  subst q
  refine ⟨fun c => ?_, fun c => ?_⟩
  · replace h := q_ifp h c
    exact m_X1_fillChamber_b38 R h kk
  · replace h := q_ifn h c
    refine ⟨fun c => ?_, fun c => ?_⟩
    · replace h := q_ifp h c
      exact m_X1_fillChamber_b38 R h kk
    · replace h := q_ifn h c
      refine ⟨fun c => ?_, fun c => ?_⟩
      · replace h := q_ifp h c
        exact m_X1_fillChamber_b38 R h kk
      · replace h := q_ifn h c
        obtain ⟨y4, v1, h1, h⟩ := q_bdi h
        refine m_X1_gateOf R h1 (fun T3 R q => ?_)
        subst q
        refine ⟨fun c => ?_, fun c => ?_⟩
        · replace h := q_ifp h c
          exact m_X1_fillChamber_b38 R h kk
        · replace h := q_ifn h c
          obtain ⟨y6, v1, h1, h⟩ := q_bdi h
          refine m_X1_gateOf R h1 (fun T5 R q => ?_)
          subst q
          refine ⟨fun c => ?_, fun c => ?_⟩
          · replace h := q_ifn h c
            refine ⟨_, m_p200 R, ?_⟩
            rw [m_l200 R]
            obtain ⟨hi, h⟩ := q_in h
            refine ⟨hi, ?_⟩
            intro T8 q
            obtain ⟨R, q⟩ := m_wA R q rfl
            replace h := q_ltw h q
            exact m_fin h kk R
          · replace h := q_ifp h c
            exact m_X1_fillChamber_b38 R h kk
set_option maxHeartbeats 200000 in
theorem m_X1_isTaken_b33 {g : q_G} {S0 : kp_S} {x1 : Int32} {x2 : Int32} {xn3 : Int32} {K10f : Int32 → q_V → Option (Int32 × q_V)} {K10 : Int32 → kp_S → Prop} {Sn : kp_S} {post : Int32 → kp_S → Prop} {y : Int32} {v : q_V} (R : q_Gm g S0 Sn) (hK10 : ∀ (x0 : Int32) (S : kp_S), q_Gm g S0 S → K10f x0 (q_w g S) = some (y, v) → K10 x0 S) (h : fX1_isTaken_b33 x1 x2 xn3 K10f (q_w g Sn) = some (y, v)) (kk : ∀ S, q_Gm g S0 S → v = q_w g S → post y S) : wX1_isTaken_b33 (g 0 1 0) x1 x2 xn3 K10 Sn post := by
  unfold wX1_isTaken_b33; unfold fX1_isTaken_b33 at h
  intro y1001 q
  replace h := q_ltw h q
  exact hK10 _ _ R h
set_option maxHeartbeats 200000 in
theorem m_X1_isTaken_L10 {g : q_G} {S0 : kp_S} {x1 : Int32} {x2 : Int32} {post : Int32 → kp_S → Prop} {y : Int32} {v : q_V}  (kk : ∀ S, q_Gm g S0 S → v = q_w g S → post y S) : ∀ (n : Nat) (xn3 : Int32) (Sn : kp_S), q_Gm g S0 Sn → fX1_isTaken_L10 x1 x2 n xn3 (q_w g Sn) = some (y, v) → wX1_isTaken_L10 (g 0 1 0) x1 x2 post n xn3 Sn := by
  intro n
  induction n with
  | zero => intro xn3 Sn _ h; cases h
  | succ n ih =>
    intro xn3 Sn R h
    unfold wX1_isTaken_L10; unfold fX1_isTaken_L10 at h
    refine ⟨fun c => ?_, fun c => ?_⟩
    · replace h := q_ifp h c
      exact m_fin h kk R
    · replace h := q_ifn h c
      refine ⟨fun c => ?_, fun c => ?_⟩
      · replace h := q_ifp h c
        exact m_X1_isTaken_b33 R (fun xn3_ S_ R h => ih xn3_ S_ R h) h kk
      · replace h := q_ifn h c
        refine ⟨_, m_p204 R, ?_⟩
        rw [m_l204 R]
        obtain ⟨hi, h⟩ := q_in h
        refine ⟨hi, ?_⟩
        refine ⟨fun c => ?_, fun c => ?_⟩
        · replace h := q_ifn h c
          exact m_X1_isTaken_b33 R (fun xn3_ S_ R h => ih xn3_ S_ R h) h kk
        · replace h := q_ifp h c
          exact m_fin h kk R
set_option maxHeartbeats 200000 in
theorem m_X1_isTaken {g : q_G} {S0 : kp_S} {x1 : Int32} {x2 : Int32} {S : kp_S} {post : Int32 → kp_S → Prop} {y : Int32} {v : q_V} (R : q_Gm g S0 S)  (h : fX1_isTaken x1 x2 (q_w g S) = some (y, v)) (kk : ∀ S, q_Gm g S0 S → v = q_w g S → post y S) : wX1_isTaken (g 0 1 0) x1 x2 S post := by
  unfold wX1_isTaken; unfold fX1_isTaken at h
  refine ⟨fun c => ?_, fun c => ?_⟩
  · replace h := q_ifn h c
    exact ⟨q_N, m_X1_isTaken_L10 kk q_N _ _ R h⟩
  · replace h := q_ifp h c
    exact m_fin h kk R
set_option maxHeartbeats 200000 in
theorem m_X1_layShip_b26 {g : q_G} {S0 : kp_S} {x1 : Int32} {x2 : Int32} {Sn : kp_S} {post : Int32 → kp_S → Prop} {y : Int32} {v : q_V} (R : q_Gm g S0 Sn)  (h : fX1_layShip_b26 x1 x2 (q_w g Sn) = some (y, v)) (kk : ∀ S, q_Gm g S0 S → v = q_w g S → post y S) : wX1_layShip_b26 (g 0 1 0) x1 x2 Sn post := by
  unfold wX1_layShip_b26; unfold fX1_layShip_b26 at h
  exact m_fin h kk R
set_option maxHeartbeats 200000 in
theorem m_X1_layShip {g : q_G} {S0 : kp_S} {x1 : Int32} {x2 : Int32} {S : kp_S} {post : Int32 → kp_S → Prop} {y : Int32} {v : q_V} (R : q_Gm g S0 S)  (h : fX1_layShip x1 x2 (q_w g S) = some (y, v)) (kk : ∀ S, q_Gm g S0 S → v = q_w g S → post y S) : wX1_layShip (g 0 1 0) x1 x2 S post := by
  unfold wX1_layShip; unfold fX1_layShip at h
  obtain ⟨y2, v1, h1, h⟩ := q_bdi h
  refine m_X1_isShip R h1 (fun T1 R q => ?_)
  subst q
  refine ⟨fun c => ?_, fun c => ?_⟩
  · replace h := q_ifp h c
    exact m_X1_layShip_b26 R h kk
  · replace h := q_ifn h c
    refine ⟨fun c => ?_, fun c => ?_⟩
    · replace h := q_ifp h c
      exact m_X1_layShip_b26 R h kk
    · replace h := q_ifn h c
      refine ⟨fun c => ?_, fun c => ?_⟩
      · replace h := q_ifp h c
        exact m_X1_layShip_b26 R h kk
      · replace h := q_ifn h c
        obtain ⟨y4, v1, h1, h⟩ := q_bdi h
        refine m_X1_isTaken R h1 (fun T3 R q => ?_)
        subst q
        refine ⟨fun c => ?_, fun c => ?_⟩
        · replace h := q_ifp h c
          refine ⟨_, m_p204 R, ?_⟩
          rw [m_l204 R]
          obtain ⟨hi, h⟩ := q_in h
          refine ⟨hi, ?_⟩
          intro T6 q
          obtain ⟨R, q⟩ := m_wA R q rfl
          replace h := q_ltw h q
          exact m_fin h kk R
        · replace h := q_ifn h c
          exact m_X1_layShip_b26 R h kk
set_option maxHeartbeats 200000 in
theorem m_X1_levelOf_b17 {g : q_G} {S0 : kp_S} {x1 : Int32} {xt0 : Int32} {Sn : kp_S} {post : Int32 → kp_S → Prop} {y : Int32} {v : q_V} (R : q_Gm g S0 Sn)  (h : fX1_levelOf_b17 x1 xt0 (q_w g Sn) = some (y, v)) (kk : ∀ S, q_Gm g S0 S → v = q_w g S → post y S) : wX1_levelOf_b17 (g 0 1 0) x1 xt0 Sn post := by
  unfold wX1_levelOf_b17; unfold fX1_levelOf_b17 at h
  exact m_fin h kk R
set_option maxHeartbeats 200000 in
theorem m_X1_levelOf {g : q_G} {S0 : kp_S} {x1 : Int32} {S : kp_S} {post : Int32 → kp_S → Prop} {y : Int32} {v : q_V} (R : q_Gm g S0 S)  (h : fX1_levelOf x1 (q_w g S) = some (y, v)) (kk : ∀ S, q_Gm g S0 S → v = q_w g S → post y S) : wX1_levelOf (g 0 1 0) x1 S post := by
  unfold wX1_levelOf; unfold fX1_levelOf at h
  obtain ⟨y2, v1, h1, h⟩ := q_bdi h
  refine m_X1_isLock R h1 (fun T1 R q => ?_)
  subst q
  refine ⟨fun c => ?_, fun c => ?_⟩
  · replace h := q_ifp h c
    exact m_X1_levelOf_b17 R h kk
  · replace h := q_ifn h c
    refine ⟨_, m_p200 R, ?_⟩
    rw [m_l200 R]
    obtain ⟨hi, h⟩ := q_in h
    refine ⟨hi, ?_⟩
    exact m_X1_levelOf_b17 R h kk
set_option maxHeartbeats 200000 in
theorem m_X1_holdsOf_b17 {g : q_G} {S0 : kp_S} {x1 : Int32} {xt0 : Int32} {Sn : kp_S} {post : Int32 → kp_S → Prop} {y : Int32} {v : q_V} (R : q_Gm g S0 Sn)  (h : fX1_holdsOf_b17 x1 xt0 (q_w g Sn) = some (y, v)) (kk : ∀ S, q_Gm g S0 S → v = q_w g S → post y S) : wX1_holdsOf_b17 (g 0 1 0) x1 xt0 Sn post := by
  unfold wX1_holdsOf_b17; unfold fX1_holdsOf_b17 at h
  exact m_fin h kk R
set_option maxHeartbeats 200000 in
theorem m_X1_holdsOf {g : q_G} {S0 : kp_S} {x1 : Int32} {S : kp_S} {post : Int32 → kp_S → Prop} {y : Int32} {v : q_V} (R : q_Gm g S0 S)  (h : fX1_holdsOf x1 (q_w g S) = some (y, v)) (kk : ∀ S, q_Gm g S0 S → v = q_w g S → post y S) : wX1_holdsOf (g 0 1 0) x1 S post := by
  unfold wX1_holdsOf; unfold fX1_holdsOf at h
  obtain ⟨y2, v1, h1, h⟩ := q_bdi h
  refine m_X1_isLock R h1 (fun T1 R q => ?_)
  subst q
  refine ⟨fun c => ?_, fun c => ?_⟩
  · replace h := q_ifp h c
    exact m_X1_holdsOf_b17 R h kk
  · replace h := q_ifn h c
    refine ⟨_, m_p203 R, ?_⟩
    rw [m_l203 R]
    obtain ⟨hi, h⟩ := q_in h
    refine ⟨hi, ?_⟩
    exact m_X1_holdsOf_b17 R h kk
set_option maxHeartbeats 200000 in
theorem m_X1_placeOf_b17 {g : q_G} {S0 : kp_S} {x1 : Int32} {xt0 : Int32} {Sn : kp_S} {post : Int32 → kp_S → Prop} {y : Int32} {v : q_V} (R : q_Gm g S0 Sn)  (h : fX1_placeOf_b17 x1 xt0 (q_w g Sn) = some (y, v)) (kk : ∀ S, q_Gm g S0 S → v = q_w g S → post y S) : wX1_placeOf_b17 (g 0 1 0) x1 xt0 Sn post := by
  unfold wX1_placeOf_b17; unfold fX1_placeOf_b17 at h
  exact m_fin h kk R
set_option maxHeartbeats 200000 in
theorem m_X1_placeOf {g : q_G} {S0 : kp_S} {x1 : Int32} {S : kp_S} {post : Int32 → kp_S → Prop} {y : Int32} {v : q_V} (R : q_Gm g S0 S)  (h : fX1_placeOf x1 (q_w g S) = some (y, v)) (kk : ∀ S, q_Gm g S0 S → v = q_w g S → post y S) : wX1_placeOf (g 0 1 0) x1 S post := by
  unfold wX1_placeOf; unfold fX1_placeOf at h
  obtain ⟨y2, v1, h1, h⟩ := q_bdi h
  refine m_X1_isShip R h1 (fun T1 R q => ?_)
  subst q
  refine ⟨fun c => ?_, fun c => ?_⟩
  · replace h := q_ifp h c
    exact m_X1_placeOf_b17 R h kk
  · replace h := q_ifn h c
    refine ⟨_, m_p204 R, ?_⟩
    rw [m_l204 R]
    obtain ⟨hi, h⟩ := q_in h
    refine ⟨hi, ?_⟩
    exact m_X1_placeOf_b17 R h kk
set_option maxHeartbeats 200000 in
theorem m_X1_allWater_L27 {g : q_G} {S0 : kp_S} {post : Int32 → kp_S → Prop} {y : Int32} {v : q_V}  (kk : ∀ S, q_Gm g S0 S → v = q_w g S → post y S) : ∀ (n : Nat) (xn1 : Int32) (xn2 : Int32) (Sn : kp_S), q_Gm g S0 Sn → fX1_allWater_L27  n xn1 xn2 (q_w g Sn) = some (y, v) → wX1_allWater_L27 (g 0 1 0) post n xn1 xn2 Sn := by
  intro n
  induction n with
  | zero => intro xn1 xn2 Sn _ h; cases h
  | succ n ih =>
    intro xn1 xn2 Sn R h
    unfold wX1_allWater_L27; unfold fX1_allWater_L27 at h
    refine ⟨fun c => ?_, fun c => ?_⟩
    · replace h := q_ifp h c
      exact m_fin h kk R
    · replace h := q_ifn h c
      refine ⟨_, m_p201 R, ?_⟩
      rw [m_l201 R]
      obtain ⟨hi, h⟩ := q_in h
      refine ⟨hi, ?_⟩
      intro y1002 q
      replace h := q_ltw h q
      intro y1003 q
      replace h := q_ltw h q
      exact ih _ _ _ R h
set_option maxHeartbeats 200000 in
theorem m_X1_allWater_L4 {g : q_G} {S0 : kp_S} {post : Int32 → kp_S → Prop} {y : Int32} {v : q_V}  (kk : ∀ S, q_Gm g S0 S → v = q_w g S → post y S) : ∀ (n : Nat) (xn1 : Int32) (xn2 : Int32) (Sn : kp_S), q_Gm g S0 Sn → fX1_allWater_L4  n xn1 xn2 (q_w g Sn) = some (y, v) → wX1_allWater_L4 (g 0 1 0) post n xn1 xn2 Sn := by
  intro n
  induction n with
  | zero => intro xn1 xn2 Sn _ h; cases h
  | succ n ih =>
    intro xn1 xn2 Sn R h
    unfold wX1_allWater_L4; unfold fX1_allWater_L4 at h
    refine ⟨fun c => ?_, fun c => ?_⟩
    · replace h := q_ifp h c
      exact ⟨q_N, m_X1_allWater_L27 kk q_N _ _ _ R h⟩
    · replace h := q_ifn h c
      refine ⟨_, m_p200 R, ?_⟩
      rw [m_l200 R]
      obtain ⟨hi, h⟩ := q_in h
      refine ⟨hi, ?_⟩
      intro y2002 q
      replace h := q_ltw h q
      intro y2003 q
      replace h := q_ltw h q
      exact ih _ _ _ R h
set_option maxHeartbeats 200000 in
theorem m_X1_allWater {g : q_G} {S0 : kp_S} {S : kp_S} {post : Int32 → kp_S → Prop} {y : Int32} {v : q_V} (R : q_Gm g S0 S)  (h : fX1_allWater (q_w g S) = some (y, v)) (kk : ∀ S, q_Gm g S0 S → v = q_w g S → post y S) : wX1_allWater (g 0 1 0) S post := by
  unfold wX1_allWater; unfold fX1_allWater at h
  exact ⟨q_N, m_X1_allWater_L4 kk q_N _ _ _ R h⟩
set_option maxHeartbeats 200000 in
theorem m_X1_fact_b87 {g : q_G} {S0 : kp_S} {x1 : Int32} {x2 : Int32} {xt0 : Int32} {Sn : kp_S} {post : Int32 → kp_S → Prop} {y : Int32} {v : q_V} (R : q_Gm g S0 Sn)  (h : fX1_fact_b87 x1 x2 xt0 (q_w g Sn) = some (y, v)) (kk : ∀ S, q_Gm g S0 S → v = q_w g S → post y S) : wX1_fact_b87 (g 0 1 0) x1 x2 xt0 Sn post := by
  unfold wX1_fact_b87; unfold fX1_fact_b87 at h
  exact m_fin h kk R
set_option maxHeartbeats 200000 in
theorem m_X1_fact {g : q_G} {S0 : kp_S} {x1 : Int32} {x2 : Int32} {S : kp_S} {post : Int32 → kp_S → Prop} {y : Int32} {v : q_V} (R : q_Gm g S0 S)  (h : fX1_fact x1 x2 (q_w g S) = some (y, v)) (kk : ∀ S, q_Gm g S0 S → v = q_w g S → post y S) : wX1_fact (g 0 1 0) x1 x2 S post := by
  unfold wX1_fact; unfold fX1_fact at h
  refine ⟨fun c => ?_, fun c => ?_⟩
  · replace h := q_ifp h c
    obtain ⟨y3, v1, h1, h⟩ := q_bdi h
    refine m_X1_levelOf R h1 (fun T2 R q => ?_)
    subst q
    exact m_fin h kk R
  · replace h := q_ifn h c
    refine ⟨fun c => ?_, fun c => ?_⟩
    · replace h := q_ifp h c
      obtain ⟨y6, v1, h1, h⟩ := q_bdi h
      refine m_X1_gateOf R h1 (fun T5 R q => ?_)
      subst q
      exact m_fin h kk R
    · replace h := q_ifn h c
      refine ⟨fun c => ?_, fun c => ?_⟩
      · replace h := q_ifp h c
        obtain ⟨y9, v1, h1, h⟩ := q_bdi h
        refine m_X1_gateOf R h1 (fun T8 R q => ?_)
        subst q
        exact m_fin h kk R
      · replace h := q_ifn h c
        refine ⟨fun c => ?_, fun c => ?_⟩
        · replace h := q_ifp h c
          obtain ⟨y12, v1, h1, h⟩ := q_bdi h
          refine m_X1_holdsOf R h1 (fun T11 R q => ?_)
          subst q
          exact m_fin h kk R
        · replace h := q_ifn h c
          refine ⟨fun c => ?_, fun c => ?_⟩
          · replace h := q_ifp h c
            obtain ⟨y15, v1, h1, h⟩ := q_bdi h
            refine m_X1_isReach R h1 (fun T14 R q => ?_)
            subst q
            refine ⟨fun c => ?_, fun c => ?_⟩
            · replace h := q_ifp h c
              exact m_X1_fact_b87 R h kk
            · replace h := q_ifn h c
              refine ⟨_, m_p201 R, ?_⟩
              rw [m_l201 R]
              obtain ⟨hi, h⟩ := q_in h
              refine ⟨hi, ?_⟩
              exact m_X1_fact_b87 R h kk
          · replace h := q_ifn h c
            refine ⟨fun c => ?_, fun c => ?_⟩
            · replace h := q_ifp h c
              obtain ⟨y20, v1, h1, h⟩ := q_bdi h
              refine m_X1_placeOf R h1 (fun T19 R q => ?_)
              subst q
              exact m_fin h kk R
            · replace h := q_ifn h c
              refine ⟨fun c => ?_, fun c => ?_⟩
              · replace h := q_ifp h c
                obtain ⟨y23, v1, h1, h⟩ := q_bdi h
                refine m_X1_allWater R h1 (fun T22 R q => ?_)
                subst q
                exact m_fin h kk R
              · replace h := q_ifn h c
                exact m_fin h kk R
set_option maxHeartbeats 200000 in
theorem m_X7_get_b20 {g : q_G} {S0 : kp_S} {x1 : Int32} {xt0 : Int32} {Sn : kp_S} {post : Int32 → kp_S → Prop} {y : Int32} {v : q_V} (R : q_Gm g S0 Sn)  (h : fX7_get_b20 x1 xt0 (q_w g Sn) = some (y, v)) (kk : ∀ S, q_Gm g S0 S → v = q_w g S → post y S) : wX7_get_b20 (g 0 7 0) x1 xt0 Sn post := by
  unfold wX7_get_b20; unfold fX7_get_b20 at h
  exact m_fin h kk R
set_option maxHeartbeats 200000 in
theorem m_X7_get_b19 {g : q_G} {S0 : kp_S} {x1 : Int32} {Sn : kp_S} {post : Int32 → kp_S → Prop} {y : Int32} {v : q_V} (R : q_Gm g S0 Sn)  (h : fX7_get_b19 x1 (q_w g Sn) = some (y, v)) (kk : ∀ S, q_Gm g S0 S → v = q_w g S → post y S) : wX7_get_b19 (g 0 7 0) x1 Sn post := by
  unfold wX7_get_b19; unfold fX7_get_b19 at h
  exact m_X7_get_b20 R h kk
set_option maxHeartbeats 200000 in
theorem m_X7_get {g : q_G} {S0 : kp_S} {x1 : Int32} {S : kp_S} {post : Int32 → kp_S → Prop} {y : Int32} {v : q_V} (R : q_Gm g S0 S)  (h : fX7_get x1 (q_w g S) = some (y, v)) (kk : ∀ S, q_Gm g S0 S → v = q_w g S → post y S) : wX7_get (g 0 7 0) x1 S post := by
  unfold wX7_get; unfold fX7_get at h
  refine ⟨fun c => ?_, fun c => ?_⟩
  · replace h := q_ifp h c
    exact m_X7_get_b19 R h kk
  · replace h := q_ifn h c
    refine ⟨fun c => ?_, fun c => ?_⟩
    · replace h := q_ifp h c
      exact m_X7_get_b19 R h kk
    · replace h := q_ifn h c
      refine ⟨_, m_p1400 R, ?_⟩
      rw [m_l1400 R]
      obtain ⟨hi, h⟩ := q_in h
      refine ⟨hi, ?_⟩
      exact m_X7_get_b20 R h kk
set_option maxHeartbeats 200000 in
theorem m_X7_entry_b22 {g : q_G} {S0 : kp_S} {x1 : Int32} {x2 : Int32} {Sn : kp_S} {post : Int32 → kp_S → Prop} {y : Int32} {v : q_V} (R : q_Gm g S0 Sn)  (h : fX7_entry_b22 x1 x2 (q_w g Sn) = some (y, v)) (kk : ∀ S, q_Gm g S0 S → v = q_w g S → post y S) : wX7_entry_b22 (g 0 7 0) x1 x2 Sn post := by
  unfold wX7_entry_b22; unfold fX7_entry_b22 at h
  exact m_fin h kk R
set_option maxHeartbeats 200000 in
theorem m_X7_entry_b50 {g : q_G} {S0 : kp_S} {x1 : Int32} {x2 : Int32} {xt0 : Int32} {Sn : kp_S} {post : Int32 → kp_S → Prop} {y : Int32} {v : q_V} (R : q_Gm g S0 Sn)  (h : fX7_entry_b50 x1 x2 xt0 (q_w g Sn) = some (y, v)) (kk : ∀ S, q_Gm g S0 S → v = q_w g S → post y S) : wX7_entry_b50 (g 0 7 0) x1 x2 xt0 Sn post := by
  unfold wX7_entry_b50; unfold fX7_entry_b50 at h
  exact m_fin h kk R
set_option maxHeartbeats 200000 in
theorem m_X7_entry {g : q_G} {S0 : kp_S} {x1 : Int32} {x2 : Int32} {S : kp_S} {post : Int32 → kp_S → Prop} {y : Int32} {v : q_V} (R : q_Gm g S0 S)  (h : fX7_entry x1 x2 (q_w g S) = some (y, v)) (kk : ∀ S, q_Gm g S0 S → v = q_w g S → post y S) : wX7_entry (g 0 7 0) x1 x2 S post := by
  unfold wX7_entry; unfold fX7_entry at h
  refine ⟨fun c => ?_, fun c => ?_⟩
  · replace h := q_ifp h c
    exact m_X7_entry_b22 R h kk
  · replace h := q_ifn h c
    refine ⟨_, m_p1400 R, ?_⟩
    rw [m_l1400 R]
    obtain ⟨hi, h⟩ := q_in h
    refine ⟨hi, ?_⟩
    refine ⟨fun c => ?_, fun c => ?_⟩
    · replace h := q_ifp h c
      exact m_X7_entry_b22 R h kk
    · replace h := q_ifn h c
      refine ⟨fun c => ?_, fun c => ?_⟩
      · replace h := q_ifp h c
        refine ⟨fun c => ?_, fun c => ?_⟩
        · replace h := q_ifn h c
          refine ⟨fun c => ?_, fun c => ?_⟩
          · replace h := q_ifn h c
            exact m_X7_entry_b50 R h kk
          · replace h := q_ifp h c
            refine ⟨_, m_p1402 R, ?_⟩
            rw [m_l1402 R]
            obtain ⟨hi, h⟩ := q_in h
            refine ⟨hi, ?_⟩
            exact m_X7_entry_b50 R h kk
        · replace h := q_ifp h c
          refine ⟨_, m_p1401 R, ?_⟩
          rw [m_l1401 R]
          obtain ⟨hi, h⟩ := q_in h
          refine ⟨hi, ?_⟩
          exact m_fin h kk R
      · replace h := q_ifn h c
        exact m_X7_entry_b22 R h kk
set_option maxHeartbeats 200000 in
theorem m_X11_fill {g : q_G} {S0 : kp_S} {x1 : Int32} {x2 : Int32} {S : kp_S} {post : Int32 → kp_S → Prop} {y : Int32} {v : q_V} (R : q_Gm g S0 S)  (h : fX11_fill x1 x2 (q_w g S) = some (y, v)) (kk : ∀ S, q_Gm g S0 S → v = q_w g S → post y S) : wX11_fill (g 0 11 0) x1 x2 S post := by
  unfold wX11_fill; unfold fX11_fill at h
  refine ⟨_, m_p2202 R, ?_⟩
  obtain ⟨y3, v1, h1, h⟩ := q_bdi h
  refine m_X1_fillReach R h1 (fun T2 R q => ?_)
  subst q
  obtain ⟨hi, h⟩ := q_in h
  refine ⟨Classical.not_not.mp hi, ?_⟩
  exact m_fin h kk R
set_option maxHeartbeats 200000 in
theorem m_X11_chamber {g : q_G} {S0 : kp_S} {x1 : Int32} {x2 : Int32} {S : kp_S} {post : Int32 → kp_S → Prop} {y : Int32} {v : q_V} (R : q_Gm g S0 S)  (h : fX11_chamber x1 x2 (q_w g S) = some (y, v)) (kk : ∀ S, q_Gm g S0 S → v = q_w g S → post y S) : wX11_chamber (g 0 11 0) x1 x2 S post := by
  unfold wX11_chamber; unfold fX11_chamber at h
  refine ⟨_, m_p2202 R, ?_⟩
  obtain ⟨y3, v1, h1, h⟩ := q_bdi h
  refine m_X1_fillChamber R h1 (fun T2 R q => ?_)
  subst q
  obtain ⟨hi, h⟩ := q_in h
  refine ⟨Classical.not_not.mp hi, ?_⟩
  exact m_fin h kk R
set_option maxHeartbeats 200000 in
theorem m_X11_berth {g : q_G} {S0 : kp_S} {x1 : Int32} {x2 : Int32} {S : kp_S} {post : Int32 → kp_S → Prop} {y : Int32} {v : q_V} (R : q_Gm g S0 S)  (h : fX11_berth x1 x2 (q_w g S) = some (y, v)) (kk : ∀ S, q_Gm g S0 S → v = q_w g S → post y S) : wX11_berth (g 0 11 0) x1 x2 S post := by
  unfold wX11_berth; unfold fX11_berth at h
  refine ⟨_, m_p2202 R, ?_⟩
  obtain ⟨y3, v1, h1, h⟩ := q_bdi h
  refine m_X1_layShip R h1 (fun T2 R q => ?_)
  subst q
  obtain ⟨hi, h⟩ := q_in h
  refine ⟨Classical.not_not.mp hi, ?_⟩
  exact m_fin h kk R
set_option maxHeartbeats 200000 in
theorem m_X11_told {g : q_G} {S0 : kp_S} {x1 : Int32} {S : kp_S} {post : Int32 → kp_S → Prop} {y : Int32} {v : q_V} (R : q_Gm g S0 S)  (h : fX11_told x1 (q_w g S) = some (y, v)) (kk : ∀ S, q_Gm g S0 S → v = q_w g S → post y S) : wX11_told (g 0 11 0) x1 S post := by
  unfold wX11_told; unfold fX11_told at h
  refine ⟨_, m_p2203 R, ?_⟩
  obtain ⟨y3, v1, h1, h⟩ := q_bdi h
  refine m_X7_get R h1 (fun T2 R q => ?_)
  subst q
  exact m_fin h kk R
set_option maxHeartbeats 200000 in
theorem m_X11_log {g : q_G} {S0 : kp_S} {x1 : Int32} {x2 : Int32} {S : kp_S} {post : Int32 → kp_S → Prop} {y : Int32} {v : q_V} (R : q_Gm g S0 S)  (h : fX11_log x1 x2 (q_w g S) = some (y, v)) (kk : ∀ S, q_Gm g S0 S → v = q_w g S → post y S) : wX11_log (g 0 11 0) x1 x2 S post := by
  unfold wX11_log; unfold fX11_log at h
  refine ⟨_, m_p2203 R, ?_⟩
  obtain ⟨y3, v1, h1, h⟩ := q_bdi h
  refine m_X7_entry R h1 (fun T2 R q => ?_)
  subst q
  exact m_fin h kk R
set_option maxHeartbeats 200000 in
theorem m_X11_look {g : q_G} {S0 : kp_S} {x1 : Int32} {x2 : Int32} {S : kp_S} {post : Int32 → kp_S → Prop} {y : Int32} {v : q_V} (R : q_Gm g S0 S)  (h : fX11_look x1 x2 (q_w g S) = some (y, v)) (kk : ∀ S, q_Gm g S0 S → v = q_w g S → post y S) : wX11_look (g 0 11 0) x1 x2 S post := by
  unfold wX11_look; unfold fX11_look at h
  refine ⟨_, m_p2202 R, ?_⟩
  obtain ⟨y3, v1, h1, h⟩ := q_bdi h
  refine m_X1_fact R h1 (fun T2 R q => ?_)
  subst q
  exact m_fin h kk R
