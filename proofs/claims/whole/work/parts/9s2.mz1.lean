set_option maxHeartbeats 200000 in
/-- the claim -/
theorem i_vc : Claimed_1_1 ∧ Claimed_1_2 := i_vc_open (fun L xs h => law_all L xs h)
