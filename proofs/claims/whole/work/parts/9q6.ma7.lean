/-- what is wanted of read over the pool -/
def HRD (a : Nat) : Prop := ∀ (g : q_G) (S : kp_S) (P : kp_S → Prop), LI g S → LA g a S → (∀ g' T, LI g' T → LA g' a T → g' 0 11 0 = g 0 11 0 → g' 0 12 0 = g 0 12 0 → P T) → wX11_read (g 0 11 0) S (fun y T => wX12_read (g 0 12 0) T (fun y' T2 => (y = y' → P T2) ∧ (¬ y = y' → False)))
section
variable {g : q_G} {S : kp_S} {a L : Nat} {xs : Nat → Int32}
set_option maxHeartbeats 200000 in
theorem law_in {t k : Nat} (hk : k < 6) (h : 6 * t + 6 ≤ L) (hL : L ≤ 3072) : vp_in (nI (6 * t) + nI k) L := by
  rw [show nI (6 * t) + nI k = nI (6 * t + k) from (Int32.ofNat_add _ _).symm]
  exact ni_nin (by omega) (by omega)
set_option maxHeartbeats 200000 in
theorem law_c {t : Nat} (hL : L ≤ 3072) (ht : 6 * t ≤ L) : ((Int32.ofNat L) - 6 < nI (6 * t)) ↔ L < 6 * t + 6 := by
  rw [Int32.lt_iff_toInt_lt, Int32.toInt_sub, show (Int32.ofNat L).toInt = (L : Int) from ni_toInt (by omega), show (nI (6 * t)).toInt = ((6 * t : Nat) : Int) from ni_toInt (by omega), show (6 : Int32).toInt = 6 from rfl, Int.bmod_eq_of_le (by omega) (by omega)]
  omega
set_option maxHeartbeats 200000 in
/-- the law's loop, if read does what it should -/
theorem law_loop (hL : L ≤ 3072) (HR : HRD a) : ∀ (n t : Nat) (g : q_G) (S : kp_S), LI g S → LA g a S → L ≤ 6 * (t + n) + 5 → 6 * t ≤ L → wL_law_L23 L xs () (n + 1) (g 0 11 0) (g 0 12 0) a (nI (6 * t)) S := by
  intro n
  induction n with
  | zero =>
    intro t g S h ha hn ht
    unfold wL_law_L23
    exact ⟨fun _ => trivial, fun c => absurd ((law_c hL ht).mpr (by omega)) c⟩
  | succ n ih =>
    intro t g S h ha hn ht
    rw [wL_law_L23]
    refine ⟨fun _ => trivial, fun c => ?_⟩
    have h6 : 6 * t + 6 ≤ L := by
      rcases Nat.lt_or_ge L (6 * t + 6) with z | z
      · exact absurd ((law_c hL ht).mpr z) c
      · exact z
    have V1 : vp_in (nI (6 * t) + 1) L := law_in (k := 1) (by omega) h6 hL
    have V2 : vp_in (nI (6 * t) + 2) L := law_in (k := 2) (by omega) h6 hL
    have V3 : vp_in (nI (6 * t) + 3) L := law_in (k := 3) (by omega) h6 hL
    have V4 : vp_in (nI (6 * t) + 4) L := law_in (k := 4) (by omega) h6 hL
    have V5 : vp_in (nI (6 * t) + 5) L := law_in (k := 5) (by omega) h6 hL
    have go : ∀ g' T, LI g' T → LA g' a T → g' 0 11 0 = g 0 11 0 → g' 0 12 0 = g 0 12 0 → wL_law_b579 L xs (g 0 11 0) (g 0 12 0) a (nI (6 * t)) (fun an1_ an2_ an3_ xn4_ S_ => wL_law_L23 L xs () (n + 1) an1_ an2_ an3_ xn4_ S_) T () := fun g' T hT aT e1 e2 => by
      unfold wL_law_b579
      intro y ey
      subst ey
      rw [show nI (6 * t) + 6 = nI (6 * (t + 1)) from (Int32.ofNat_add (6 * t) 6).symm.trans (congrArg Int32.ofNat (by omega)), ← e1, ← e2]
      exact ih (t + 1) g' T hT aT (by omega) (by omega)
    have kk : ∀ T, LI g T → kp_le S T → wL_law_b579 L xs (g 0 11 0) (g 0 12 0) a (nI (6 * t)) (fun an1_ an2_ an3_ xn4_ S_ => wL_law_L23 L xs () (n + 1) an1_ an2_ an3_ xn4_ S_) T () := fun T hT l => go g T hT (LA_le ha l) rfl rfl
    refine ⟨ni_nin (by omega) (by omega), fun y _ => ?_⟩
    refine ⟨fun _ => ⟨V1, V2, V3, V4, V5, k_feed V1 V2 V3 V4 V5 h kk⟩, fun _ => ?_⟩
    refine ⟨fun _ => ⟨V1, k_end V1 h kk⟩, fun _ => ?_⟩
    refine ⟨fun _ => HR g S _ h ha go, fun _ => ?_⟩
    refine ⟨fun _ => ⟨V1, k_fault V1 h kk⟩, fun _ => ?_⟩
    refine ⟨fun _ => ⟨V1, V2, k_duty V1 V2 h kk⟩, fun _ => ?_⟩
    refine ⟨fun _ => ⟨V1, V2, k_fill V1 V2 h kk⟩, fun _ => ?_⟩
    refine ⟨fun _ => ⟨V1, V2, k_chamber V1 V2 h kk⟩, fun _ => ?_⟩
    refine ⟨fun _ => ⟨V1, V2, k_berth V1 V2 h kk⟩, fun _ => ?_⟩
    refine ⟨fun _ => ⟨V1, V2, V3, V4, k_run V1 V2 V3 V4 h ha kk⟩, fun _ => ?_⟩
    refine ⟨fun _ => ⟨V1, k_told V1 h kk⟩, fun _ => ?_⟩
    refine ⟨fun _ => ⟨V1, V2, k_log V1 V2 h kk⟩, fun _ => ?_⟩
    refine ⟨fun _ => ⟨V1, V2, k_look V1 V2 h kk⟩, fun _ => ?_⟩
    exact kk S h kp_le.rf
end
