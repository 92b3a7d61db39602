section
variable {g : rd_G}
set_option maxHeartbeats 200000 in
theorem BS_rec2 (ok : rd_ok g) : ∀ m n, n ≤ 14 → 14 ≤ n + m → BS g n (fX8_block (fx8_rec m 0)) (fX12_block (fx12s_rec m 0)) := by
  intro m
  induction m with
  | zero =>
    intro n h1 h2
    exact BS_block ok (fun h => absurd h (by omega))
  | succ m ih =>
    intro n h1 h2
    have hx : ∀ f p l v, xc g f p l v → cG g f p l (fx8_rec (m + 1) 0 v) := fun f p l v h => x_block h
    have hy : ∀ f p Bd w, xr g f p Bd w → rG g f p Bd (fx12s_rec (m + 1) 0 w) := fun f p Bd w h => y_block h
    have hb : ∀ k, n + 1 ≤ k → k ≤ 14 → BS g k (fx8_rec (m + 1) 0) (fx12s_rec (m + 1) 0) := fun k h1 h2 => ih k h2 (by omega)
    exact BS_block ok (fun h => SS_stm ok (by omega) (by omega) (hb (n + 1) (Nat.le_refl _) (by omega)) hx hy (fun i hc => t_trial ok (by omega) (by omega) (hb (n + 1) (Nat.le_refl _) (by omega)) hx hy hc) (fun i hc => t_choose ok (by omega) (by omega) (fun h14 => hb (n + 1 + 1) (by omega) (by omega)) hx hy hc))
set_option maxHeartbeats 200000 in
/-- every block of a duty -/
theorem BS_all (ok : rd_ok g) : BS g 0 fX8_block_t fX12_block_t := BS_rec2 ok 16 0 (by omega) (by omega)
end
