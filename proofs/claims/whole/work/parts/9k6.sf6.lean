section
variable {g : rd_G}
set_option maxHeartbeats 200000 in
/-- blocks in blocks -/
theorem BS_rec (ok : rd_ok g) (H : ∀ n B B', 1 ≤ n → n ≤ 14 → BS g n B B' → (∀ f p l v, xc g f p l v → cG g f p l (B v)) → (∀ f p Bd w, xr g f p Bd w → rG g f p Bd (B' w)) → SS g n (fX8_statement B) (fX12_statement B')) : ∀ m n, n ≤ 14 → 14 ≤ n + m → BS g n (fX8_block (fx8_rec m 0)) (fX12_block (fx12s_rec m 0)) := by
  intro m
  induction m with
  | zero =>
    intro n h1 h2
    exact BS_block ok (fun h => absurd h (by omega))
  | succ m ih =>
    intro n h1 h2
    refine BS_block ok (fun h => H (n + 1) _ _ (by omega) (by omega) ?_ (fun f p l v h => x_block h) (fun f p Bd w h => y_block h))
    exact ih (n + 1) (by omega) (by omega)
set_option maxHeartbeats 200000 in
theorem BS_t (ok : rd_ok g) (H : ∀ n B B', 1 ≤ n → n ≤ 14 → BS g n B B' → (∀ f p l v, xc g f p l v → cG g f p l (B v)) → (∀ f p Bd w, xr g f p Bd w → rG g f p Bd (B' w)) → SS g n (fX8_statement B) (fX12_statement B')) : BS g 0 fX8_block_t fX12_block_t := BS_rec ok H 16 0 (by omega) (by omega)
set_option maxHeartbeats 200000 in
theorem x_block_t {f p : Int32} {l : Nat} {v : q_V} (h : xc g f p l v) : cG g f p l (fX8_block_t v) := x_block h
set_option maxHeartbeats 200000 in
theorem y_block_t {f p : Int32} {Bd : Nat} {w : q_V} (h : xr g f p Bd w) : rG g f p Bd (fX12_block_t w) := y_block h
end
