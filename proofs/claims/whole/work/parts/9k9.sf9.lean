section
variable {g : rd_G} {n : Nat} {B : q_V → Option (Int32 × q_V)} {B' : q_V → Option (Int64 × q_V)}
set_option maxHeartbeats 200000 in
theorem st_C {v : q_V} : fX8_statement B v = if q_i v 1805 = 123 then q_bd (B v) (fun y T => some (y, T)) else q_bd (fX0_add_ 30 (q_i v 1806) v) (fun _ T => stC B (q_i v 1806) (q_i T 1805) T) := rfl
set_option maxHeartbeats 200000 in
theorem st_R {w : q_V} : fX12_statement B' w = q_bd (fX12_isSign 123 w) (fun y2 T1 => if y2 = 0 then if (q_i T1 2410) < 0 ∨ 3002 ≤ (q_i T1 2410).toNatClampNeg then none else q_bd (fX12_emit 30 (q_a T1 2405 (q_i T1 2410).toNatClampNeg) 0 T1) (fun _ T5 => if (q_i T1 2410) < 0 ∨ 3002 ≤ (q_i T1 2410).toNatClampNeg then none else stR B' (q_i T1 2410) (q_a (q_si T5 2425 0) 2404 (q_i T1 2410).toNatClampNeg) (q_si T5 2425 0)) else q_bd (B' T1) (fun z T => some (z, T))) := rfl
set_option maxHeartbeats 200000 in
/-- every statement -/
theorem SS_stm (ok : rd_ok g) (hn : 1 ≤ n) (hn2 : n ≤ 14) (hB : BS g n B B') (hxB : ∀ f p l v, xc g f p l v → cG g f p l (B v)) (hyB : ∀ f p Bd w, xr g f p Bd w → rG g f p Bd (B' w)) (hTr : ∀ i, tkc g i = 314 → TS g n i (fX8_trial B (nI (tka g i))) (fX12_trial B' (nI i))) (hCh : ∀ i, tkc g i = 323 → TS g n i (fX8_choose B) (fX12_choose B')) : SS g n (fX8_statement B) (fX12_statement B') := by
  intro i p C q d r R K k s l b A e e' v w h z o hln
  have hL := ok.1
  have hm3 := ok.2.2.1.2.2
  have hi := (St_im h).1
  have ta := tka_L ok i
  rw [st_C, st_R, c_kind h, r_sign (c := 123) ok h rfl (by decide), q_bd_s, lx_i0]
  by_cases c : tkc g i = 123
  · rw [if_pos c, if_pos c, q_bd_eta, q_bd_eta]
    exact s_blk ok hn hn2 hB h z o hln
  · obtain ⟨⟨z1, z2, z3⟩, zd, zs⟩ := z
    have hin := r_in ok h
    have hin2 : ¬ (nI i < 0 ∨ 3002 ≤ i) := by have := hin.2.1; rw [hin.2.2] at this; exact this
    obtain ⟨v1, a1, s1⟩ := c_add2 (x := 30) (y := nI (tka g i)) ok h (by omega)
    obtain ⟨w2, b2, s2⟩ := r_emit (o := 30) (a := nI (tka g i)) (c := 0) s1 (by omega)
    have s3 := r_risk (x := 0) s2
    rw [if_neg c, if_neg c, c_place h, a1, q_bd_s, c_kind s1, r_i h, if_neg hin.2.1, hin.2.2, r_place ok h hi, b2, q_bd_s, if_neg hin2, r_kind ok s3]
    exact jn_im (s_tail ok hn hn2 hB hxB hyB (hTr i) (hCh i) s3 ⟨⟨by omega, by omega, z3⟩, zd, zs⟩ o ⟨hln.1, LB_m hln.2 rfl (by omega) (Nat.le_refl _)⟩) (fun a v b w X => SPQ_S X)
end
