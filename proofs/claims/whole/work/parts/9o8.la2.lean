section
variable {v0 : q_V}
set_option maxHeartbeats 200000 in
theorem l_X12_in_b15 {x0 : Int32} {x1 : Int32} {x2 : Int32} {xt0 : Int32} {Sn : q_V} (h : lc bW v0 Sn) : lo_D bW v0 (fX12_in_b15 x0 x1 x2 xt0 Sn) := by
  unfold fX12_in_b15
  exact (lo_iD (fun _ => lo_nD) (fun _ => (lo_sD h)))
set_option maxHeartbeats 200000 in
theorem l_X12_in_b14 {x0 : Int32} {x1 : Int32} {x2 : Int32} {Sn : q_V} (h : lc bW v0 Sn) : lo_D bW v0 (fX12_in_b14 x0 x1 x2 Sn) := by
  unfold fX12_in_b14
  exact (l_X12_in_b15  h)
set_option maxHeartbeats 200000 in
theorem l_X12_in {x0 : Int32} {x1 : Int32} {x2 : Int32} {S : q_V} (h : lc bW v0 S) : lo_D bW v0 (fX12_in x0 x1 x2 S) := by
  unfold fX12_in
  exact (lo_iD (fun _ => (l_X12_in_b14  h)) (fun _ => (lo_iD (fun _ => (l_X12_in_b14  h)) (fun _ => (l_X12_in_b15  h)))))
set_option maxHeartbeats 200000 in
theorem l_X12_isTaken_b38 {x1 : Int32} {x2 : Int32} {xn4 : Int32} {xt0 : Int32} {K5 : Int32 → Int32 → q_V → Option (Int32 × q_V)} (kK5 : ∀ a0 a1 S, lc bW v0 S → lo_D bW v0 (K5 a0 a1 S)) {Sn : q_V} (h : lc bW v0 Sn) : lo_D bW v0 (fX12_isTaken_b38 x1 x2 xn4 xt0 K5 Sn) := by
  unfold fX12_isTaken_b38
  exact (lo_xD (kK5 _ _ _ h))
set_option maxHeartbeats 200000 in
theorem l_X12_isTaken_b37 {x1 : Int32} {x2 : Int32} {xn4 : Int32} {K5 : Int32 → Int32 → q_V → Option (Int32 × q_V)} (kK5 : ∀ a0 a1 S, lc bW v0 S → lo_D bW v0 (K5 a0 a1 S)) {Sn : q_V} (h : lc bW v0 Sn) : lo_D bW v0 (fX12_isTaken_b37 x1 x2 xn4 K5 Sn) := by
  unfold fX12_isTaken_b37
  exact (l_X12_isTaken_b38 kK5 h)
set_option maxHeartbeats 200000 in
theorem l_X12_isTaken_b33 {x1 : Int32} {x2 : Int32} {xn4 : Int32} {K5 : Int32 → Int32 → q_V → Option (Int32 × q_V)} (kK5 : ∀ a0 a1 S, lc bW v0 S → lo_D bW v0 (K5 a0 a1 S)) {Sn : q_V} (h : lc bW v0 Sn) : lo_D bW v0 (fX12_isTaken_b33 x1 x2 xn4 K5 Sn) := by
  unfold fX12_isTaken_b33
  exact (l_X12_isTaken_b38 kK5 h)
set_option maxHeartbeats 200000 in
theorem l_X12_isTaken_L5 {x1 : Int32} {x2 : Int32} : ∀ n xn3 xn4 Sn, lc bW v0 Sn → lo_D bW v0 (fX12_isTaken_L5 x1 x2 n xn3 xn4 Sn) := by
  intro n
  induction n with
  | zero => intro xn3 xn4 Sn _; exact lo_nD
  | succ n ih =>
    intro xn3 xn4 Sn h
    rw [fX12_isTaken_L5]
    exact (lo_iD (fun _ => (lo_iD (fun _ => lo_nD) (fun _ => (lo_sD h)))) (fun _ => (lo_iD (fun _ => (lo_iD (fun _ => (l_X12_isTaken_b37 (fun _ _ _ hk => (ih _ _ _ hk)) h)) (fun _ => (lo_iD (fun _ => lo_nD) (fun _ => (lo_iD (fun _ => (l_X12_isTaken_b33 (fun _ _ _ hk => (ih _ _ _ hk)) h)) (fun _ => (l_X12_isTaken_b37 (fun _ _ _ hk => (ih _ _ _ hk)) h)))))))) (fun _ => (l_X12_isTaken_b33 (fun _ _ _ hk => (ih _ _ _ hk)) h)))))
set_option maxHeartbeats 200000 in
theorem l_X12_isTaken {x1 : Int32} {x2 : Int32} {S : q_V} (h : lc bW v0 S) : lo_D bW v0 (fX12_isTaken x1 x2 S) := by
  unfold fX12_isTaken
  exact (l_X12_isTaken_L5  _ _ _ _ h)
set_option maxHeartbeats 200000 in
theorem l_X12_note_b30 {x1 : Int32} {x2 : Int32} {Sn : q_V} (h : lc bW v0 Sn) : lo_V bW v0 (fX12_note_b30 x1 x2 Sn) := by
  unfold fX12_note_b30
  exact (lo_wV (lcI h rfl) (fun _ hT1001 => (lo_sV hT1001)))
set_option maxHeartbeats 200000 in
theorem l_X12_note {x1 : Int32} {x2 : Int32} {S : q_V} (h : lc bW v0 S) : lo_V bW v0 (fX12_note x1 x2 S) := by
  unfold fX12_note
  exact (lo_iV (fun _ => (l_X12_note_b30  h)) (fun _ => (lo_iV (fun _ => lo_nV) (fun _ => (lo_wV (lcA h rfl) (fun _ hT2 => (lo_iV (fun _ => lo_nV) (fun _ => (lo_wV (lcA hT2 rfl) (fun _ hT4 => (l_X12_note_b30  hT4)))))))))))
set_option maxHeartbeats 200000 in
theorem l_X12_push {x1 : Int32} {S : q_V} (h : lc bW v0 S) : lo_V bW v0 (fX12_push x1 S) := by
  unfold fX12_push
  exact (lo_iV (fun _ => lo_nV) (fun _ => (lo_wV (lcA h rfl) (fun _ hT2 => (lo_wV (lcI hT2 rfl) (fun _ hT3 => (lo_sV hT3)))))))
set_option maxHeartbeats 200000 in
theorem l_X12_pop  {S : q_V} (h : lc bW v0 S) : lo_D bW v0 (fX12_pop  S) := by
  unfold fX12_pop
  exact (lo_wD (lcI h rfl) (fun _ hT1 => (lo_iD (fun _ => lo_nD) (fun _ => (lo_sD hT1)))))
set_option maxHeartbeats 200000 in
theorem l_X12_burns  {S : q_V} (h : lc bW v0 S) : lo_D bW v0 (fX12_burns  S) := by
  unfold fX12_burns
  exact (lo_iD (fun _ => (lo_wD (lcI h rfl) (fun _ hT2 => (lo_sD hT2)))) (fun _ => (lo_wD (lcI h rfl) (fun _ hT1 => (lo_sD hT1)))))
set_option maxHeartbeats 200000 in
theorem l_X12_opens {x1 : Int32} {x2 : Int32} {x3 : Int32} {S : q_V} (h : lc bW v0 S) : lo_V bW v0 (fX12_opens x1 x2 x3 S) := by
  unfold fX12_opens
  exact (lo_iV (fun _ => lo_nV) (fun _ => (lo_wV (lcA h rfl) (fun _ hT2 => (lo_iV (fun _ => lo_nV) (fun _ => (lo_wV (lcA hT2 rfl) (fun _ hT4 => (lo_iV (fun _ => lo_nV) (fun _ => (lo_wV (lcA hT4 rfl) (fun _ hT6 => (lo_iV (fun _ => lo_nV) (fun _ => (lo_wV (lcA hT6 rfl) (fun _ hT8 => (lo_iV (fun _ => lo_nV) (fun _ => (lo_wV (lcA hT8 rfl) (fun _ hT10 => (lo_wV (lcI hT10 rfl) (fun _ hT11 => (lo_sV hT11)))))))))))))))))))))))
set_option maxHeartbeats 200000 in
theorem l_X12_keepWay {x1 : Int32} {S : q_V} (h : lc bW v0 S) : lo_V bW v0 (fX12_keepWay x1 S) := by
  unfold fX12_keepWay
  exact (lo_iV (fun _ => lo_nV) (fun _ => (lo_wV (lcA h rfl) (fun _ hT2 => (lo_iV (fun _ => lo_nV) (fun _ => (lo_wV (lcA hT2 rfl) (fun _ hT4 => (lo_iV (fun _ => lo_nV) (fun _ => (lo_wV (lcA hT4 rfl) (fun _ hT6 => (lo_iV (fun _ => lo_nV) (fun _ => (lo_wV (lcA hT6 rfl) (fun _ hT8 => (lo_iV (fun _ => lo_nV) (fun _ => (lo_wV (lcA hT8 rfl) (fun _ hT10 => (lo_iV (fun _ => lo_nV) (fun _ => (lo_wV (lcA hT10 rfl) (fun _ hT12 => (lo_sV hT12)))))))))))))))))))))))))
set_option maxHeartbeats 200000 in
theorem l_X12_takeWay {x1 : Int32} {S : q_V} (h : lc bW v0 S) : lo_V bW v0 (fX12_takeWay x1 S) := by
  unfold fX12_takeWay
  exact (lo_iV (fun _ => lo_nV) (fun _ => (lo_wV (lcI h rfl) (fun _ hT2 => (lo_iV (fun _ => lo_nV) (fun _ => (lo_wV (lcI hT2 rfl) (fun _ hT4 => (lo_iV (fun _ => lo_nV) (fun _ => (lo_wV (lcI hT4 rfl) (fun _ hT6 => (lo_iV (fun _ => lo_nV) (fun _ => (lo_wV (lcI hT6 rfl) (fun _ hT8 => (lo_iV (fun _ => lo_nV) (fun _ => (lo_wV (lcI hT8 rfl) (fun _ hT10 => (lo_iV (fun _ => lo_nV) (fun _ => (lo_wV (lcI hT10 rfl) (fun _ hT12 => (lo_sV hT12)))))))))))))))))))))))))
set_option maxHeartbeats 200000 in
theorem l_X12_loses_b32 {x1 : Int32} {Sn : q_V} (h : lc bW v0 Sn) : lo_V bW v0 (fX12_loses_b32 x1 Sn) := by
  unfold fX12_loses_b32
  exact (lo_sV h)
set_option maxHeartbeats 200000 in
theorem l_X12_loses {x1 : Int32} {S : q_V} (h : lc bW v0 S) : lo_V bW v0 (fX12_loses x1 S) := by
  unfold fX12_loses
  exact (lo_iV (fun _ => lo_nV) (fun _ => (lo_iV (fun _ => (lo_wV (lcI h rfl) (fun _ hT2 => (lo_iV (fun _ => lo_nV) (fun _ => (lo_vV (l_X12_note  hT2) (fun _ hT4 => (l_X12_loses_b32  hT4)))))))) (fun _ => (l_X12_loses_b32  h)))))
set_option maxHeartbeats 200000 in
theorem l_X12_goes {x1 : Int32} {x2 : Int32} {S : q_V} (h : lc bW v0 S) : lo_V bW v0 (fX12_goes x1 x2 S) := by
  unfold fX12_goes
  exact (lo_wV (lcI h rfl) (fun _ hT1 => (lo_iV (fun _ => lo_nV) (fun _ => (lo_wV (lcI hT1 rfl) (fun _ hT3 => (lo_wV (lcI hT3 rfl) (fun _ hT4 => (lo_sV hT4)))))))))
set_option maxHeartbeats 200000 in
theorem l_X12_closes {x1 : Int32} {x2 : Int32} {S : q_V} (h : lc bW v0 S) : lo_D bW v0 (fX12_closes x1 x2 S) := by
  unfold fX12_closes
  exact (lo_wD (lcI h rfl) (fun _ hT1 => (lo_iD (fun _ => (lo_vD (l_X12_goes  hT1) (fun _ hT2 => (lo_sD hT2)))) (fun _ => (lo_sD hT1)))))
set_option maxHeartbeats 200000 in
theorem l_X12_leavesHold_b42 {x1 : Int32} {Sn : q_V} (h : lc bW v0 Sn) : lo_D bW v0 (fX12_leavesHold_b42 x1 Sn) := by
  unfold fX12_leavesHold_b42
  exact (lo_iD (fun _ => lo_nD) (fun _ => (lo_dD (l_X12_closes  h) (fun _ _ hT1002 => (lo_iD (fun _ => lo_nD) (fun _ => (lo_sD hT1002)))))))
set_option maxHeartbeats 200000 in
theorem l_X12_leavesHold {x1 : Int32} {S : q_V} (h : lc bW v0 S) : lo_D bW v0 (fX12_leavesHold x1 S) := by
  unfold fX12_leavesHold
  exact (lo_iD (fun _ => lo_nD) (fun _ => (lo_xD (lo_iD (fun _ => lo_nD) (fun _ => (lo_iD (fun _ => lo_nD) (fun _ => (lo_wD (lcA h rfl) (fun _ hT4 => (lo_wD (lcI hT4 rfl) (fun _ hT5 => (lo_iD (fun _ => lo_nD) (fun _ => (lo_iD (fun _ => (lo_vD (l_X12_note  hT5) (fun _ hT6 => (l_X12_leavesHold_b42  hT6)))) (fun _ => (l_X12_leavesHold_b42  hT5))))))))))))))))
set_option maxHeartbeats 200000 in
theorem l_X12_beginsAlways_b40 {x1 : Int32} {xn2 : Int32} {xt0 : Int32} {xt1 : Int32} {Sn : q_V} (h : lc bW v0 Sn) : lo_V bW v0 (fX12_beginsAlways_b40 x1 xn2 xt0 xt1 Sn) := by
  unfold fX12_beginsAlways_b40
  exact (lo_iV (fun _ => lo_nV) (fun _ => (lo_wV (lcA h rfl) (fun _ hT1001 => (lo_wV (lcI hT1001 rfl) (fun _ hT1002 => (lo_iV (fun _ => lo_nV) (fun _ => (lo_vV (l_X12_note  hT1002) (fun _ hT1004 => (lo_iV (fun _ => lo_nV) (fun _ => (lo_vV (l_X12_goes  hT1004) (fun _ hT1006 => (lo_sV hT1006)))))))))))))))
set_option maxHeartbeats 200000 in
theorem l_X12_beginsAlways {x1 : Int32} {S : q_V} (h : lc bW v0 S) : lo_V bW v0 (fX12_beginsAlways x1 S) := by
  unfold fX12_beginsAlways
  exact (lo_iV (fun _ => lo_nV) (fun _ => (lo_xV (lo_vV (l_X12_keepWay  h) (fun _ hT3 => (lo_iV (fun _ => lo_nV) (fun _ => (lo_wV (lcA hT3 rfl) (fun _ hT5 => (lo_iV (fun _ => (l_X12_beginsAlways_b40  hT5)) (fun _ => (l_X12_beginsAlways_b40  hT5))))))))))))
set_option maxHeartbeats 200000 in
theorem l_X12_endsAlways_b20 {x1 : Int32} {Sn : q_V} (h : lc bW v0 Sn) : lo_V bW v0 (fX12_endsAlways_b20 x1 Sn) := by
  unfold fX12_endsAlways_b20
  exact (lo_iV (fun _ => lo_nV) (fun _ => (lo_wV (lcA h rfl) (fun _ hT1002 => (lo_sV hT1002)))))
set_option maxHeartbeats 200000 in
theorem l_X12_endsAlways {x1 : Int32} {S : q_V} (h : lc bW v0 S) : lo_V bW v0 (fX12_endsAlways x1 S) := by
  unfold fX12_endsAlways
  exact (lo_iV (fun _ => (lo_vV (l_X12_takeWay  h) (fun _ hT2 => (l_X12_endsAlways_b20  hT2)))) (fun _ => (lo_vV (l_X12_loses  h) (fun _ hT1 => (l_X12_endsAlways_b20  hT1)))))
set_option maxHeartbeats 200000 in
theorem l_X12_leavesLoop_b93 {x1 : Int32} {xn2 : Int32} {Sn : q_V} (h : lc bW v0 Sn) : lo_D bW v0 (fX12_leavesLoop_b93 x1 xn2 Sn) := by
  unfold fX12_leavesLoop_b93
  exact (lo_iD (fun _ => lo_nD) (fun _ => (lo_wD (lcA h rfl) (fun _ hT1002 => (lo_iD (fun _ => lo_nD) (fun _ => (lo_vD (l_X12_goes  hT1002) (fun _ hT1004 => (lo_sD hT1004)))))))))
set_option maxHeartbeats 200000 in
theorem l_X12_leavesLoop_b134 {x1 : Int32} {xn2 : Int32} {Sn : q_V} (h : lc bW v0 Sn) : lo_D bW v0 (fX12_leavesLoop_b134 x1 xn2 Sn) := by
  unfold fX12_leavesLoop_b134
  exact (lo_iD (fun _ => lo_nD) (fun _ => (lo_dD (l_X12_closes  h) (fun _ _ hT2002 => (lo_iD (fun _ => lo_nD) (fun _ => (lo_sD hT2002)))))))
set_option maxHeartbeats 200000 in
theorem l_X12_leavesLoop_b113 {x1 : Int32} {xn2 : Int32} {Sn : q_V} (h : lc bW v0 Sn) : lo_D bW v0 (fX12_leavesLoop_b113 x1 xn2 Sn) := by
  unfold fX12_leavesLoop_b113
  exact (lo_iD (fun _ => (lo_iD (fun _ => (lo_wD (lcI h rfl) (fun _ hT3001 => (l_X12_leavesLoop_b134  hT3001)))) (fun _ => (l_X12_leavesLoop_b134  h)))) (fun _ => (l_X12_leavesLoop_b134  h)))
set_option maxHeartbeats 200000 in
theorem l_X12_leavesLoop_b70 {x1 : Int32} {xn2 : Int32} {Sn : q_V} (h : lc bW v0 Sn) : lo_D bW v0 (fX12_leavesLoop_b70 x1 xn2 Sn) := by
  unfold fX12_leavesLoop_b70
  exact (lo_iD (fun _ => (l_X12_leavesLoop_b93  h)) (fun _ => (lo_iD (fun _ => (lo_iD (fun _ => (l_X12_leavesLoop_b93  h)) (fun _ => (l_X12_leavesLoop_b113  h)))) (fun _ => (l_X12_leavesLoop_b113  h)))))
set_option maxHeartbeats 200000 in
theorem l_X12_leavesLoop_b55 {x1 : Int32} {xn2 : Int32} {Sn : q_V} (h : lc bW v0 Sn) : lo_D bW v0 (fX12_leavesLoop_b55 x1 xn2 Sn) := by
  unfold fX12_leavesLoop_b55
  exact (lo_iD (fun _ => lo_nD) (fun _ => (lo_iD (fun _ => (lo_vD (l_X12_endsAlways  h) (fun _ hT5002 => (l_X12_leavesLoop_b70  hT5002)))) (fun _ => (l_X12_leavesLoop_b70  h)))))
set_option maxHeartbeats 200000 in
theorem l_X12_leavesLoop {x1 : Int32} {S : q_V} (h : lc bW v0 S) : lo_D bW v0 (fX12_leavesLoop x1 S) := by
  unfold fX12_leavesLoop
  exact (lo_iD (fun _ => lo_nD) (fun _ => (lo_xD (lo_iD (fun _ => lo_nD) (fun _ => (lo_iD (fun _ => (lo_iD (fun _ => lo_nD) (fun _ => (lo_dD (l_X12_closes  h) (fun _ _ hT9 => (lo_iD (fun _ => lo_nD) (fun _ => (lo_sD hT9)))))))) (fun _ => (lo_iD (fun _ => lo_nD) (fun _ => (lo_iD (fun _ => (lo_iD (fun _ => lo_nD) (fun _ => (lo_iD (fun _ => (l_X12_leavesLoop_b55  h)) (fun _ => (lo_vD (l_X12_beginsAlways  h) (fun _ hT5 => (lo_sD hT5)))))))) (fun _ => (l_X12_leavesLoop_b55  h))))))))))))
set_option maxHeartbeats 200000 in
theorem l_X12_leavesTrial_b122 {x1 : Int32} {xn2 : Int32} {Sn : q_V} (h : lc bW v0 Sn) : lo_D bW v0 (fX12_leavesTrial_b122 x1 xn2 Sn) := by
  unfold fX12_leavesTrial_b122
  exact (lo_iD (fun _ => lo_nD) (fun _ => (lo_wD (lcA h rfl) (fun _ hT1002 => (lo_iD (fun _ => lo_nD) (fun _ => (lo_iD (fun _ => (lo_iD (fun _ => lo_nD) (fun _ => (lo_dD (l_X12_closes  hT1002) (fun _ _ hT1005 => (lo_iD (fun _ => lo_nD) (fun _ => (lo_sD hT1005)))))))) (fun _ => (lo_vD (l_X12_beginsAlways  hT1002) (fun _ hT1007 => (lo_sD hT1007)))))))))))
set_option maxHeartbeats 200000 in
theorem l_X12_leavesTrial_b80 {x1 : Int32} {xn2 : Int32} {Sn : q_V} (h : lc bW v0 Sn) : lo_D bW v0 (fX12_leavesTrial_b80 x1 xn2 Sn) := by
  unfold fX12_leavesTrial_b80
  exact (lo_iD (fun _ => lo_nD) (fun _ => (lo_iD (fun _ => (lo_vD (l_X12_endsAlways  h) (fun _ hT2004 => (lo_iD (fun _ => lo_nD) (fun _ => (lo_dD (l_X12_closes  hT2004) (fun _ _ hT2006 => (lo_iD (fun _ => lo_nD) (fun _ => (lo_sD hT2006)))))))))) (fun _ => (lo_iD (fun _ => lo_nD) (fun _ => (lo_iD (fun _ => (lo_vD (l_X12_loses  h) (fun _ hT2002 => (l_X12_leavesTrial_b122  hT2002)))) (fun _ => (l_X12_leavesTrial_b122  h)))))))))
set_option maxHeartbeats 200000 in
theorem l_X12_leavesTrial {x1 : Int32} {S : q_V} (h : lc bW v0 S) : lo_D bW v0 (fX12_leavesTrial x1 S) := by
  unfold fX12_leavesTrial
  exact (lo_iD (fun _ => lo_nD) (fun _ => (lo_xD (lo_iD (fun _ => lo_nD) (fun _ => (lo_iD (fun _ => (lo_iD (fun _ => (lo_iD (fun _ => lo_nD) (fun _ => (lo_iD (fun _ => (l_X12_leavesTrial_b80  h)) (fun _ => (lo_vD (l_X12_keepWay  h) (fun _ hT5 => (lo_iD (fun _ => lo_nD) (fun _ => (lo_wD (lcA hT5 rfl) (fun _ hT7 => (lo_iD (fun _ => lo_nD) (fun _ => (lo_wD (lcA hT7 rfl) (fun _ hT9 => (lo_iD (fun _ => lo_nD) (fun _ => (lo_wD (lcI hT9 rfl) (fun _ hT11 => (lo_iD (fun _ => lo_nD) (fun _ => (lo_vD (l_X12_goes  hT11) (fun _ hT13 => (lo_sD hT13)))))))))))))))))))))))) (fun _ => (l_X12_leavesTrial_b80  h)))) (fun _ => (l_X12_leavesTrial_b80  h))))))))
set_option maxHeartbeats 200000 in
theorem l_X12_leavesEnsure_b52 {x1 : Int32} {xn2 : Int32} {xt0 : Int32} {xt1 : Int32} {Sn : q_V} (h : lc bW v0 Sn) : lo_D bW v0 (fX12_leavesEnsure_b52 x1 xn2 xt0 xt1 Sn) := by
  unfold fX12_leavesEnsure_b52
  exact (lo_iD (fun _ => lo_nD) (fun _ => (lo_wD (lcA h rfl) (fun _ hT2001 => (lo_iD (fun _ => lo_nD) (fun _ => (lo_wD (lcI hT2001 rfl) (fun _ hT2003 => (lo_iD (fun _ => lo_nD) (fun _ => (lo_vD (l_X12_goes  hT2003) (fun _ hT2005 => (lo_dD (l_X12_burns  hT2005) (fun _ _ hT2006 => (lo_sD hT2006)))))))))))))))
set_option maxHeartbeats 200000 in
theorem l_X12_leavesEnsure_b97 {x1 : Int32} {xn2 : Int32} {Sn : q_V} (h : lc bW v0 Sn) : lo_D bW v0 (fX12_leavesEnsure_b97 x1 xn2 Sn) := by
  unfold fX12_leavesEnsure_b97
  exact (lo_iD (fun _ => lo_nD) (fun _ => (lo_dD (l_X12_closes  h) (fun _ _ hT1002 => (lo_iD (fun _ => lo_nD) (fun _ => (lo_sD hT1002)))))))
set_option maxHeartbeats 200000 in
theorem l_X12_leavesEnsure {x1 : Int32} {S : q_V} (h : lc bW v0 S) : lo_D bW v0 (fX12_leavesEnsure x1 S) := by
  unfold fX12_leavesEnsure
  exact (lo_iD (fun _ => lo_nD) (fun _ => (lo_xD (lo_iD (fun _ => lo_nD) (fun _ => (lo_iD (fun _ => (lo_vD (l_X12_keepWay  h) (fun _ hT6 => (lo_iD (fun _ => lo_nD) (fun _ => (lo_wD (lcA hT6 rfl) (fun _ hT8 => (lo_iD (fun _ => (l_X12_leavesEnsure_b52  hT8)) (fun _ => (l_X12_leavesEnsure_b52  hT8)))))))))) (fun _ => (lo_iD (fun _ => lo_nD) (fun _ => (lo_iD (fun _ => (lo_vD (l_X12_loses  h) (fun _ hT4 => (l_X12_leavesEnsure_b97  hT4)))) (fun _ => (l_X12_leavesEnsure_b97  h))))))))))))
set_option maxHeartbeats 200000 in
theorem l_X12_leavesCall_b233 {x1 : Int32} {xn2 : Int32} {xt0 : Int32} {Sn : q_V} (h : lc bW v0 Sn) : lo_D bW v0 (fX12_leavesCall_b233 x1 xn2 xt0 Sn) := by
  unfold fX12_leavesCall_b233
  exact (lo_vD (l_X12_goes  h) (fun _ hT1001 => (lo_vD (l_X12_push  hT1001) (fun _ hT1002 => (lo_sD hT1002)))))
set_option maxHeartbeats 200000 in
theorem l_X12_leavesCall_b195 {x1 : Int32} {xn2 : Int32} {xt0 : Int32} {Sn : q_V} (h : lc bW v0 Sn) : lo_D bW v0 (fX12_leavesCall_b195 x1 xn2 xt0 Sn) := by
  unfold fX12_leavesCall_b195
  exact (lo_iD (fun _ => lo_nD) (fun _ => (lo_wD (lcI h rfl) (fun _ hT2001 => (lo_iD (fun _ => (lo_iD (fun _ => (lo_sD hT2001)) (fun _ => (lo_iD (fun _ => (l_X12_leavesCall_b233  hT2001)) (fun _ => (l_X12_leavesCall_b233  hT2001)))))) (fun _ => (lo_sD hT2001)))))))
set_option maxHeartbeats 200000 in
theorem l_X12_leavesCall_b130 {x1 : Int32} {xn2 : Int32} {xt0 : Int32} {xt1 : Int32} {Sn : q_V} (h : lc bW v0 Sn) : lo_D bW v0 (fX12_leavesCall_b130 x1 xn2 xt0 xt1 Sn) := by
  unfold fX12_leavesCall_b130
  exact (lo_iD (fun _ => lo_nD) (fun _ => (lo_wD (lcA h rfl) (fun _ hT3001 => (lo_iD (fun _ => lo_nD) (fun _ => (lo_vD (l_X12_goes  hT3001) (fun _ hT3003 => (lo_sD hT3003)))))))))
set_option maxHeartbeats 200000 in
theorem l_X12_leavesCall_b31 {x1 : Int32} {Sn : q_V} (h : lc bW v0 Sn) : lo_D bW v0 (fX12_leavesCall_b31 x1 Sn) := by
  unfold fX12_leavesCall_b31
  exact (lo_vD (l_X12_keepWay  h) (fun _ hT4001 => (lo_iD (fun _ => lo_nD) (fun _ => (lo_wD (lcA hT4001 rfl) (fun _ hT4003 => (lo_iD (fun _ => lo_nD) (fun _ => (lo_iD (fun _ => (lo_wD (lcI hT4003 rfl) (fun _ hT4005 => (lo_iD (fun _ => lo_nD) (fun _ => (lo_wD (lcI hT4005 rfl) (fun _ hT4007 => (lo_iD (fun _ => lo_nD) (fun _ => (lo_xD (lo_wD (lcI hT4007 rfl) (fun _ hT4010 => (lo_iD (fun _ => (l_X12_leavesCall_b195  hT4010)) (fun _ => (l_X12_leavesCall_b195  hT4010))))))))))))))) (fun _ => (lo_iD (fun _ => lo_nD) (fun _ => (lo_iD (fun _ => lo_nD) (fun _ => (lo_wD (lcA hT4003 rfl) (fun _ hT4012 => (lo_iD (fun _ => lo_nD) (fun _ => (lo_xD (lo_wD (lcI hT4012 rfl) (fun _ hT4014 => (lo_iD (fun _ => lo_nD) (fun _ => (lo_vD (l_X12_note  hT4014) (fun _ hT4016 => (lo_iD (fun _ => (l_X12_leavesCall_b130  hT4016)) (fun _ => (l_X12_leavesCall_b130  hT4016))))))))))))))))))))))))))))
set_option maxHeartbeats 200000 in
theorem l_X12_leavesCall {x1 : Int32} {S : q_V} (h : lc bW v0 S) : lo_D bW v0 (fX12_leavesCall x1 S) := by
  unfold fX12_leavesCall
  exact (lo_iD (fun _ => lo_nD) (fun _ => (lo_iD (fun _ => (lo_iD (fun _ => (lo_vD (l_X12_takeWay  h) (fun _ hT3 => (l_X12_leavesCall_b31  hT3)))) (fun _ => (lo_vD (l_X12_loses  h) (fun _ hT2 => (l_X12_leavesCall_b31  hT2)))))) (fun _ => (l_X12_leavesCall_b31  h)))))
set_option maxHeartbeats 200000 in
theorem l_X12_leaves_b90 {xn1 : Int32} {K2 : Int32 → q_V → Option q_V} (kK2 : ∀ a0 S, lc bW v0 S → lo_V bW v0 (K2 a0 S)) {Sn : q_V} (h : lc bW v0 Sn) : lo_V bW v0 (fX12_leaves_b90 xn1 K2 Sn) := by
  unfold fX12_leaves_b90
  exact (kK2 _ _ h)
set_option maxHeartbeats 200000 in
theorem l_X12_leaves_L2  : ∀ n xn1 Sn, lc bW v0 Sn → lo_V bW v0 (fX12_leaves_L2  n xn1 Sn) := by
  intro n
  induction n with
  | zero => intro xn1 Sn _; exact lo_nV
  | succ n ih =>
    intro xn1 Sn h
    rw [fX12_leaves_L2]
    exact (lo_iV (fun _ => (lo_sV h)) (fun _ => (lo_xV (lo_iV (fun _ => lo_nV) (fun _ => (lo_xV (lo_iV (fun _ => (lo_dV (l_X12_leavesHold  h) (fun _ _ hT2005 => (l_X12_leaves_b90 (fun _ _ hk => (ih _ _ hk)) hT2005)))) (fun _ => (lo_iV (fun _ => (lo_dV (l_X12_leavesLoop  h) (fun _ _ hT2008 => (l_X12_leaves_b90 (fun _ _ hk => (ih _ _ hk)) hT2008)))) (fun _ => (lo_iV (fun _ => (lo_dV (l_X12_leavesTrial  h) (fun _ _ hT2011 => (l_X12_leaves_b90 (fun _ _ hk => (ih _ _ hk)) hT2011)))) (fun _ => (lo_iV (fun _ => (lo_dV (l_X12_leavesEnsure  h) (fun _ _ hT2014 => (l_X12_leaves_b90 (fun _ _ hk => (ih _ _ hk)) hT2014)))) (fun _ => (lo_dV (l_X12_leavesCall  h) (fun _ _ hT2016 => (l_X12_leaves_b90 (fun _ _ hk => (ih _ _ hk)) hT2016)))))))))))))))))
set_option maxHeartbeats 200000 in
theorem l_X12_leaves  {S : q_V} (h : lc bW v0 S) : lo_V bW v0 (fX12_leaves  S) := by
  unfold fX12_leaves
  exact (l_X12_leaves_L2  _ _ _ h)
set_option maxHeartbeats 200000 in
theorem l_X12_trouble_b48 {x1 : Int32} {xn2 : Int32} {xt0 : Int32} {K17 : Int32 → q_V → Option q_V} (kK17 : ∀ a0 S, lc bW v0 S → lo_V bW v0 (K17 a0 S)) {Sn : q_V} (h : lc bW v0 Sn) : lo_V bW v0 (fX12_trouble_b48 x1 xn2 xt0 K17 Sn) := by
  unfold fX12_trouble_b48
  exact (lo_wV (lcI h rfl) (fun _ hT1001 => (lo_xV (kK17 _ _ hT1001))))
set_option maxHeartbeats 200000 in
theorem l_X12_trouble_L17 {x1 : Int32} : ∀ n xn2 Sn, lc bW v0 Sn → lo_V bW v0 (fX12_trouble_L17 x1 n xn2 Sn) := by
  intro n
  induction n with
  | zero => intro xn2 Sn _; exact lo_nV
  | succ n ih =>
    intro xn2 Sn h
    rw [fX12_trouble_L17]
    exact (lo_iV (fun _ => (lo_wV (lcI h rfl) (fun _ hT2001 => (lo_wV (lcI hT2001 rfl) (fun _ hT2002 => (lo_vV (l_X12_note  hT2002) (fun _ hT2003 => (lo_vV (l_X12_leaves  hT2003) (fun _ hT2004 => (lo_sV hT2004)))))))))) (fun _ => (lo_iV (fun _ => lo_nV) (fun _ => (lo_iV (fun _ => (l_X12_trouble_b48 (fun _ _ hk => (ih _ _ hk)) h)) (fun _ => (lo_iV (fun _ => lo_nV) (fun _ => (l_X12_trouble_b48 (fun _ _ hk => (ih _ _ hk)) h)))))))))
set_option maxHeartbeats 200000 in
theorem l_X12_trouble {x1 : Int32} {S : q_V} (h : lc bW v0 S) : lo_V bW v0 (fX12_trouble x1 S) := by
  unfold fX12_trouble
  exact (lo_wV (lcI h rfl) (fun _ hT1 => (lo_wV (lcI hT1 rfl) (fun _ hT2 => (lo_wV (lcI hT2 rfl) (fun _ hT3 => (l_X12_trouble_L17  _ _ _ hT3)))))))
set_option maxHeartbeats 200000 in
theorem l_X12_ensures {x1 : Int32} {S : q_V} (h : lc bW v0 S) : lo_V bW v0 (fX12_ensures x1 S) := by
  unfold fX12_ensures
  exact (lo_iV (fun _ => (lo_vV (l_X12_trouble  h) (fun _ hT5 => (lo_sV hT5)))) (fun _ => (lo_vV (l_X12_takeWay  h) (fun _ hT1 => (lo_iV (fun _ => lo_nV) (fun _ => (lo_wV (lcA hT1 rfl) (fun _ hT3 => (lo_vV (l_X12_leaves  hT3) (fun _ hT4 => (lo_sV hT4)))))))))))
set_option maxHeartbeats 200000 in
theorem l_X12_calls_b94 {x1 : Int32} {x2 : Int32} {xn3 : Int32} {xt0 : Int32} {xt1 : Int32} {K55 : Int32 → q_V → Option q_V} (kK55 : ∀ a0 S, lc bW v0 S → lo_V bW v0 (K55 a0 S)) {Sn : q_V} (h : lc bW v0 Sn) : lo_V bW v0 (fX12_calls_b94 x1 x2 xn3 xt0 xt1 K55 Sn) := by
  unfold fX12_calls_b94
  exact (lo_iV (fun _ => lo_nV) (fun _ => (lo_wV (lcA h rfl) (fun _ hT1001 => (lo_xV (kK55 _ _ hT1001))))))
set_option maxHeartbeats 200000 in
theorem l_X12_calls_L55 {x1 : Int32} {x2 : Int32} : ∀ n xn3 Sn, lc bW v0 Sn → lo_V bW v0 (fX12_calls_L55 x1 x2 n xn3 Sn) := by
  intro n
  induction n with
  | zero => intro xn3 Sn _; exact lo_nV
  | succ n ih =>
    intro xn3 Sn h
    rw [fX12_calls_L55]
    exact (lo_iV (fun _ => (lo_vV (l_X12_opens  h) (fun _ hT2001 => (lo_iV (fun _ => lo_nV) (fun _ => (lo_wV (lcA hT2001 rfl) (fun _ hT2003 => (lo_iV (fun _ => lo_nV) (fun _ => (lo_wV (lcA hT2003 rfl) (fun _ hT2005 => (lo_iV (fun _ => lo_nV) (fun _ => (lo_wV (lcA hT2005 rfl) (fun _ hT2007 => (lo_iV (fun _ => lo_nV) (fun _ => (lo_wV (lcA hT2007 rfl) (fun _ hT2009 => (lo_iV (fun _ => lo_nV) (fun _ => (lo_wV (lcA hT2009 rfl) (fun _ hT2011 => (lo_iV (fun _ => lo_nV) (fun _ => (lo_wV (lcI hT2011 rfl) (fun _ hT2013 => (lo_sV hT2013)))))))))))))))))))))))))))) (fun _ => (lo_iV (fun _ => (l_X12_calls_b94 (fun _ _ hk => (ih _ _ hk)) h)) (fun _ => (lo_iV (fun _ => lo_nV) (fun _ => (l_X12_calls_b94 (fun _ _ hk => (ih _ _ hk)) h)))))))
set_option maxHeartbeats 200000 in
theorem l_X12_calls {x1 : Int32} {x2 : Int32} {S : q_V} (h : lc bW v0 S) : lo_V bW v0 (fX12_calls x1 x2 S) := by
  unfold fX12_calls
  exact (lo_dV (l_X12_burns  h) (fun _ _ hT1 => (lo_iV (fun _ => (lo_sV hT1)) (fun _ => (lo_iV (fun _ => (lo_vV (l_X12_trouble  hT1) (fun _ hT6 => (lo_sV hT6)))) (fun _ => (lo_wV (lcI hT1 rfl) (fun _ hT3 => (lo_wV (lcI hT3 rfl) (fun _ hT4 => (lo_wV (lcI hT4 rfl) (fun _ hT5 => (l_X12_calls_L55  _ _ _ hT5)))))))))))))
set_option maxHeartbeats 200000 in
theorem l_X12_reckon_b213 {x1 : Int32} {Sn : q_V} (h : lc bW v0 Sn) : lo_V bW v0 (fX12_reckon_b213 x1 Sn) := by
  unfold fX12_reckon_b213
  exact (lo_sV h)
set_option maxHeartbeats 200000 in
theorem l_X12_reckon_b188 {x1 : Int32} {xt0 : Int32} {Sn : q_V} (h : lc bW v0 Sn) : lo_V bW v0 (fX12_reckon_b188 x1 xt0 Sn) := by
  unfold fX12_reckon_b188
  exact (lo_vV (l_X12_push  h) (fun _ hT3001 => (l_X12_reckon_b213  hT3001)))
set_option maxHeartbeats 200000 in
theorem l_X12_reckon_b210 {x1 : Int32} {xt0 : Int32} {Sn : q_V} (h : lc bW v0 Sn) : lo_V bW v0 (fX12_reckon_b210 x1 xt0 Sn) := by
  unfold fX12_reckon_b210
  exact (lo_vV (l_X12_push  h) (fun _ hT2001 => (l_X12_reckon_b213  hT2001)))
set_option maxHeartbeats 200000 in
theorem l_X12_reckon_b158 {x1 : Int32} {xn2 : Int32} {xn3 : Int32} {Sn : q_V} (h : lc bW v0 Sn) : lo_V bW v0 (fX12_reckon_b158 x1 xn2 xn3 Sn) := by
  unfold fX12_reckon_b158
  exact (lo_iV (fun _ => (lo_vV (l_X12_trouble  h) (fun _ hT4004 => (l_X12_reckon_b213  hT4004)))) (fun _ => (lo_iV (fun _ => (lo_iV (fun _ => (l_X12_reckon_b188  h)) (fun _ => (l_X12_reckon_b188  h)))) (fun _ => (lo_iV (fun _ => (lo_iV (fun _ => lo_nV) (fun _ => (l_X12_reckon_b210  h)))) (fun _ => (lo_iV (fun _ => lo_nV) (fun _ => (l_X12_reckon_b210  h)))))))))
set_option maxHeartbeats 200000 in
theorem l_X12_reckon_b101 {x1 : Int32} {xt0 : Int32} {Sn : q_V} (h : lc bW v0 Sn) : lo_V bW v0 (fX12_reckon_b101 x1 xt0 Sn) := by
  unfold fX12_reckon_b101
  exact (lo_vV (l_X12_push  h) (fun _ hT5001 => (l_X12_reckon_b213  hT5001)))
set_option maxHeartbeats 200000 in
theorem l_X12_reckon_b118 {x1 : Int32} {xt0 : Int32} {Sn : q_V} (h : lc bW v0 Sn) : lo_V bW v0 (fX12_reckon_b118 x1 xt0 Sn) := by
  unfold fX12_reckon_b118
  exact (lo_vV (l_X12_push  h) (fun _ hT6001 => (l_X12_reckon_b213  hT6001)))
set_option maxHeartbeats 200000 in
theorem l_X12_reckon_b135 {x1 : Int32} {xt0 : Int32} {Sn : q_V} (h : lc bW v0 Sn) : lo_V bW v0 (fX12_reckon_b135 x1 xt0 Sn) := by
  unfold fX12_reckon_b135
  exact (lo_vV (l_X12_push  h) (fun _ hT7001 => (l_X12_reckon_b213  hT7001)))
set_option maxHeartbeats 200000 in
theorem l_X12_reckon_b152 {x1 : Int32} {xt0 : Int32} {Sn : q_V} (h : lc bW v0 Sn) : lo_V bW v0 (fX12_reckon_b152 x1 xt0 Sn) := by
  unfold fX12_reckon_b152
  exact (lo_vV (l_X12_push  h) (fun _ hT8001 => (l_X12_reckon_b213  hT8001)))
set_option maxHeartbeats 200000 in
theorem l_X12_reckon {x1 : Int32} {S : q_V} (h : lc bW v0 S) : lo_V bW v0 (fX12_reckon x1 S) := by
  unfold fX12_reckon
  exact (lo_dV (l_X12_pop  h) (fun _ _ hT1 => (lo_dV (l_X12_pop  hT1) (fun _ _ hT3 => (lo_iV (fun _ => (lo_vV (l_X12_push  hT3) (fun _ hT6 => (l_X12_reckon_b213  hT6)))) (fun _ => (lo_iV (fun _ => (lo_vV (l_X12_push  hT3) (fun _ hT8 => (l_X12_reckon_b213  hT8)))) (fun _ => (lo_iV (fun _ => (lo_vV (l_X12_push  hT3) (fun _ hT10 => (l_X12_reckon_b213  hT10)))) (fun _ => (lo_iV (fun _ => (l_X12_reckon_b158  hT3)) (fun _ => (lo_iV (fun _ => (l_X12_reckon_b158  hT3)) (fun _ => (lo_iV (fun _ => (lo_iV (fun _ => (l_X12_reckon_b101  hT3)) (fun _ => (l_X12_reckon_b101  hT3)))) (fun _ => (lo_iV (fun _ => (lo_iV (fun _ => (l_X12_reckon_b118  hT3)) (fun _ => (l_X12_reckon_b118  hT3)))) (fun _ => (lo_iV (fun _ => (lo_iV (fun _ => (l_X12_reckon_b135  hT3)) (fun _ => (l_X12_reckon_b135  hT3)))) (fun _ => (lo_iV (fun _ => (lo_iV (fun _ => (l_X12_reckon_b152  hT3)) (fun _ => (l_X12_reckon_b152  hT3)))) (fun _ => (l_X12_reckon_b158  hT3)))))))))))))))))))))))
set_option maxHeartbeats 200000 in
theorem l_X12_jumpIf {x1 : Int32} {x2 : Int32} {x3 : Int32} {S : q_V} (h : lc bW v0 S) : lo_V bW v0 (fX12_jumpIf x1 x2 x3 S) := by
  unfold fX12_jumpIf
  exact (lo_iV (fun _ => (lo_sV h)) (fun _ => (lo_vV (l_X12_push  h) (fun _ hT1 => (lo_wV (lcI hT1 rfl) (fun _ hT2 => (lo_sV hT2)))))))
set_option maxHeartbeats 200000 in
theorem l_X12_answers_b72 {x1 : Int32} {x2 : Int32} {x3 : Int32} {xt0 : Int32} {Sn : q_V} (h : lc bW v0 Sn) : lo_V bW v0 (fX12_answers_b72 x1 x2 x3 xt0 Sn) := by
  unfold fX12_answers_b72
  exact (lo_vV (l_X12_push  h) (fun _ hT1001 => (lo_sV hT1001)))
set_option maxHeartbeats 200000 in
theorem l_X12_answers {x1 : Int32} {x2 : Int32} {x3 : Int32} {S : q_V} (h : lc bW v0 S) : lo_V bW v0 (fX12_answers x1 x2 x3 S) := by
  unfold fX12_answers
  exact (lo_dV (l_X12_in  h) (fun _ _ hT1 => (lo_iV (fun _ => (lo_vV (l_X12_trouble  hT1) (fun _ hT10 => (lo_sV hT10)))) (fun _ => (lo_iV (fun _ => (lo_iV (fun _ => lo_nV) (fun _ => (l_X12_answers_b72  hT1)))) (fun _ => (lo_iV (fun _ => (lo_iV (fun _ => lo_nV) (fun _ => (l_X12_answers_b72  hT1)))) (fun _ => (lo_iV (fun _ => (lo_iV (fun _ => lo_nV) (fun _ => (l_X12_answers_b72  hT1)))) (fun _ => (lo_iV (fun _ => lo_nV) (fun _ => (l_X12_answers_b72  hT1)))))))))))))
set_option maxHeartbeats 200000 in
theorem l_X12_answersGate_b28  {Sn : q_V} (h : lc bW v0 Sn) : lo_V bW v0 (fX12_answersGate_b28  Sn) := by
  unfold fX12_answersGate_b28
  exact (lo_vV (l_X12_trouble  h) (fun _ hT1001 => (lo_sV hT1001)))
set_option maxHeartbeats 200000 in
theorem l_X12_answersGate_b53 {xt0 : Int32} {Sn : q_V} (h : lc bW v0 Sn) : lo_V bW v0 (fX12_answersGate_b53 xt0 Sn) := by
  unfold fX12_answersGate_b53
  exact (lo_vV (l_X12_push  h) (fun _ hT2001 => (lo_sV hT2001)))
set_option maxHeartbeats 200000 in
theorem l_X12_answersGate  {S : q_V} (h : lc bW v0 S) : lo_V bW v0 (fX12_answersGate  S) := by
  unfold fX12_answersGate
  exact (lo_dV (l_X12_pop  h) (fun _ _ hT1 => (lo_dV (l_X12_pop  hT1) (fun _ _ hT3 => (lo_dV (l_X12_in  hT3) (fun _ _ hT5 => (lo_iV (fun _ => (l_X12_answersGate_b28  hT5)) (fun _ => (lo_dV (l_X12_in  hT5) (fun _ _ hT7 => (lo_iV (fun _ => (l_X12_answersGate_b28  hT7)) (fun _ => (lo_iV (fun _ => lo_nV) (fun _ => (lo_iV (fun _ => (l_X12_answersGate_b53  hT7)) (fun _ => (l_X12_answersGate_b53  hT7)))))))))))))))))
set_option maxHeartbeats 200000 in
theorem l_X12_chooses {x1 : Int32} {x2 : Int32} {S : q_V} (h : lc bW v0 S) : lo_V bW v0 (fX12_chooses x1 x2 S) := by
  unfold fX12_chooses
  exact (lo_iV (fun _ => (lo_sV h)) (fun _ => (lo_wV (lcI h rfl) (fun _ hT1 => (lo_wV (lcI hT1 rfl) (fun _ hT2 => (lo_sV hT2)))))))
set_option maxHeartbeats 200000 in
theorem l_X12_fails_b18 {x1 : Int32} {xt0 : Int32} {Sn : q_V} (h : lc bW v0 Sn) : lo_V bW v0 (fX12_fails_b18 x1 xt0 Sn) := by
  unfold fX12_fails_b18
  exact (lo_vV (l_X12_trouble  h) (fun _ hT1001 => (lo_sV hT1001)))
set_option maxHeartbeats 200000 in
theorem l_X12_fails {x1 : Int32} {S : q_V} (h : lc bW v0 S) : lo_V bW v0 (fX12_fails x1 S) := by
  unfold fX12_fails
  exact (lo_dV (l_X12_in  h) (fun _ _ hT1 => (lo_iV (fun _ => (l_X12_fails_b18  hT1)) (fun _ => (l_X12_fails_b18  hT1)))))
set_option maxHeartbeats 200000 in
theorem l_X12_rounds_b55 {x1 : Int32} {x2 : Int32} {xt0 : Int32} {xt1 : Int32} {Sn : q_V} (h : lc bW v0 Sn) : lo_V bW v0 (fX12_rounds_b55 x1 x2 xt0 xt1 Sn) := by
  unfold fX12_rounds_b55
  exact (lo_wV (lcI h rfl) (fun _ hT1001 => (lo_sV hT1001)))
set_option maxHeartbeats 200000 in
theorem l_X12_rounds {x1 : Int32} {x2 : Int32} {S : q_V} (h : lc bW v0 S) : lo_V bW v0 (fX12_rounds x1 x2 S) := by
  unfold fX12_rounds
  exact (lo_xV (lo_iV (fun _ => (lo_wV (lcI h rfl) (fun _ hT6 => (lo_iV (fun _ => lo_nV) (fun _ => (lo_vV (l_X12_goes  hT6) (fun _ hT8 => (lo_sV hT8)))))))) (fun _ => (lo_iV (fun _ => lo_nV) (fun _ => (lo_wV (lcA h rfl) (fun _ hT3 => (lo_iV (fun _ => lo_nV) (fun _ => (lo_iV (fun _ => (l_X12_rounds_b55  hT3)) (fun _ => (l_X12_rounds_b55  hT3))))))))))))
set_option maxHeartbeats 200000 in
theorem l_X12_beginsEach {x1 : Int32} {S : q_V} (h : lc bW v0 S) : lo_V bW v0 (fX12_beginsEach x1 S) := by
  unfold fX12_beginsEach
  exact (lo_dV (l_X12_pop  h) (fun _ _ hT1 => (lo_dV (l_X12_pop  hT1) (fun _ _ hT3 => (lo_vV (l_X12_opens  hT3) (fun _ hT5 => (lo_iV (fun _ => lo_nV) (fun _ => (lo_wV (lcB hT5 rfl) (fun _ hT7 => (lo_iV (fun _ => lo_nV) (fun _ => (lo_wV (lcB hT7 rfl) (fun _ hT9 => (lo_sV hT9)))))))))))))))
set_option maxHeartbeats 200000 in
theorem l_X12_testsEach_b81 {x1 : Int32} {xn3 : Int32} {Sn : q_V} (h : lc bW v0 Sn) : lo_V bW v0 (fX12_testsEach_b81 x1 xn3 Sn) := by
  unfold fX12_testsEach_b81
  exact (lo_vV (l_X12_rounds  h) (fun _ hT1001 => (lo_sV hT1001)))
set_option maxHeartbeats 200000 in
theorem l_X12_testsEach_b41 {x1 : Int32} {xn2 : Int32} {xn3 : Int32} {Sn : q_V} (h : lc bW v0 Sn) : lo_V bW v0 (fX12_testsEach_b41 x1 xn2 xn3 Sn) := by
  unfold fX12_testsEach_b41
  exact (lo_iV (fun _ => (l_X12_testsEach_b81  h)) (fun _ => (lo_iV (fun _ => lo_nV) (fun _ => (lo_iV (fun _ => lo_nV) (fun _ => (lo_iV (fun _ => lo_nV) (fun _ => (lo_wV (lcA h rfl) (fun _ hT2004 => (lo_iV (fun _ => lo_nV) (fun _ => (lo_iV (fun _ => lo_nV) (fun _ => (lo_wV (lcB hT2004 rfl) (fun _ hT2005 => (l_X12_testsEach_b81  hT2005)))))))))))))))))
set_option maxHeartbeats 200000 in
theorem l_X12_testsEach_b28 {x1 : Int32} {xn2 : Int32} {xt0 : Int32} {Sn : q_V} (h : lc bW v0 Sn) : lo_V bW v0 (fX12_testsEach_b28 x1 xn2 xt0 Sn) := by
  unfold fX12_testsEach_b28
  exact (lo_iV (fun _ => (l_X12_testsEach_b41  h)) (fun _ => (lo_dV (l_X12_burns  h) (fun _ _ hT3001 => (lo_iV (fun _ => (lo_sV hT3001)) (fun _ => (l_X12_testsEach_b41  hT3001)))))))
set_option maxHeartbeats 200000 in
theorem l_X12_testsEach {x1 : Int32} {S : q_V} (h : lc bW v0 S) : lo_V bW v0 (fX12_testsEach x1 S) := by
  unfold fX12_testsEach
  exact (lo_xV (lo_iV (fun _ => lo_nV) (fun _ => (lo_iV (fun _ => lo_nV) (fun _ => (lo_iV (fun _ => (l_X12_testsEach_b28  h)) (fun _ => (l_X12_testsEach_b28  h))))))))
set_option maxHeartbeats 200000 in
theorem l_X12_takes_b51 {x1 : Int32} {x2 : Int32} {Sn : q_V} (h : lc bW v0 Sn) : lo_V bW v0 (fX12_takes_b51 x1 x2 Sn) := by
  unfold fX12_takes_b51
  exact (lo_vV (l_X12_opens  h) (fun _ hT1001 => (lo_iV (fun _ => lo_nV) (fun _ => (lo_wV (lcB hT1001 rfl) (fun _ hT1003 => (lo_sV hT1003)))))))
set_option maxHeartbeats 200000 in
theorem l_X12_takes {x1 : Int32} {x2 : Int32} {S : q_V} (h : lc bW v0 S) : lo_V bW v0 (fX12_takes x1 x2 S) := by
  unfold fX12_takes
  exact (lo_dV (l_X12_in  h) (fun _ _ hT1 => (lo_iV (fun _ => (lo_vV (l_X12_trouble  hT1) (fun _ hT8 => (lo_sV hT8)))) (fun _ => (lo_iV (fun _ => lo_nV) (fun _ => (lo_iV (fun _ => lo_nV) (fun _ => (lo_wV (lcA hT1 rfl) (fun _ hT4 => (lo_wV (lcI hT4 rfl) (fun _ hT5 => (lo_iV (fun _ => lo_nV) (fun _ => (lo_iV (fun _ => (lo_vV (l_X12_note  hT5) (fun _ hT6 => (l_X12_takes_b51  hT6)))) (fun _ => (l_X12_takes_b51  hT5)))))))))))))))))
set_option maxHeartbeats 200000 in
theorem l_X12_mends {x1 : Int32} {x2 : Int32} {S : q_V} (h : lc bW v0 S) : lo_V bW v0 (fX12_mends x1 x2 S) := by
  unfold fX12_mends
  exact (lo_iV (fun _ => (lo_sV h)) (fun _ => (lo_xV (lo_wV (lcI h rfl) (fun _ hT2 => (lo_iV (fun _ => lo_nV) (fun _ => (lo_vV (l_X12_note  hT2) (fun _ hT4 => (lo_iV (fun _ => lo_nV) (fun _ => (lo_iV (fun _ => lo_nV) (fun _ => (lo_wV (lcA hT4 rfl) (fun _ hT7 => (lo_iV (fun _ => lo_nV) (fun _ => (lo_iV (fun _ => lo_nV) (fun _ => (lo_wV (lcA hT7 rfl) (fun _ hT10 => (lo_iV (fun _ => lo_nV) (fun _ => (lo_wV (lcA hT10 rfl) (fun _ hT12 => (lo_vV (l_X12_goes  hT12) (fun _ hT13 => (lo_sV hT13))))))))))))))))))))))))))))
set_option maxHeartbeats 200000 in
theorem l_X12_pledges {x1 : Int32} {x2 : Int32} {S : q_V} (h : lc bW v0 S) : lo_V bW v0 (fX12_pledges x1 x2 S) := by
  unfold fX12_pledges
  exact (lo_iV (fun _ => lo_nV) (fun _ => (lo_iV (fun _ => (lo_vV (l_X12_trouble  h) (fun _ hT9 => (lo_sV hT9)))) (fun _ => (lo_iV (fun _ => lo_nV) (fun _ => (lo_xV (lo_iV (fun _ => lo_nV) (fun _ => (lo_wV (lcA h rfl) (fun _ hT4 => (lo_iV (fun _ => lo_nV) (fun _ => (lo_wV (lcA hT4 rfl) (fun _ hT6 => (lo_iV (fun _ => lo_nV) (fun _ => (lo_iV (fun _ => lo_nV) (fun _ => (lo_wV (lcA hT6 rfl) (fun _ hT7 => (lo_wV (lcI hT7 rfl) (fun _ hT8 => (lo_sV hT8))))))))))))))))))))))))
set_option maxHeartbeats 200000 in
theorem l_X12_levelBeside {x1 : Int32} {x2 : Int32} {S : q_V} (h : lc bW v0 S) : lo_D bW v0 (fX12_levelBeside x1 x2 S) := by
  unfold fX12_levelBeside
  exact (lo_iD (fun _ => lo_nD) (fun _ => (lo_sD h)))
set_option maxHeartbeats 200000 in
theorem l_X12_wrongSide_b18 {x1 : Int32} {x2 : Int32} {Sn : q_V} (h : lc bW v0 Sn) : lo_D bW v0 (fX12_wrongSide_b18 x1 x2 Sn) := by
  unfold fX12_wrongSide_b18
  exact (lo_sD h)
set_option maxHeartbeats 200000 in
theorem l_X12_wrongSide_b34 {x1 : Int32} {x2 : Int32} {xt0 : Int32} {Sn : q_V} (h : lc bW v0 Sn) : lo_D bW v0 (fX12_wrongSide_b34 x1 x2 xt0 Sn) := by
  unfold fX12_wrongSide_b34
  exact (lo_sD h)
set_option maxHeartbeats 200000 in
theorem l_X12_wrongSide {x1 : Int32} {x2 : Int32} {S : q_V} (h : lc bW v0 S) : lo_D bW v0 (fX12_wrongSide x1 x2 S) := by
  unfold fX12_wrongSide
  exact (lo_dD (l_X12_in  h) (fun _ _ hT1 => (lo_iD (fun _ => (l_X12_wrongSide_b18  hT1)) (fun _ => (lo_dD (l_X12_in  hT1) (fun _ _ hT3 => (lo_iD (fun _ => (l_X12_wrongSide_b18  hT3)) (fun _ => (lo_iD (fun _ => lo_nD) (fun _ => (lo_iD (fun _ => (l_X12_wrongSide_b34  hT3)) (fun _ => (l_X12_wrongSide_b34  hT3)))))))))))))
set_option maxHeartbeats 200000 in
theorem l_X12_moveGate_b122 {x1 : Int32} {xn2 : Int32} {xn3 : Int32} {xt0 : Int32} {Sn : q_V} (h : lc bW v0 Sn) : lo_V bW v0 (fX12_moveGate_b122 x1 xn2 xn3 xt0 Sn) := by
  unfold fX12_moveGate_b122
  exact (lo_vV (l_X12_note  h) (fun _ hT1001 => (lo_sV hT1001)))
set_option maxHeartbeats 200000 in
theorem l_X12_moveGate_b89 {x1 : Int32} {xn2 : Int32} {xn3 : Int32} {xn4 : Int32} {Sn : q_V} (h : lc bW v0 Sn) : lo_V bW v0 (fX12_moveGate_b89 x1 xn2 xn3 xn4 Sn) := by
  unfold fX12_moveGate_b89
  exact (lo_iV (fun _ => (lo_iV (fun _ => lo_nV) (fun _ => (lo_wV (lcA h rfl) (fun _ hT2002 => (lo_iV (fun _ => (l_X12_moveGate_b122  hT2002)) (fun _ => (l_X12_moveGate_b122  hT2002)))))))) (fun _ => (lo_vV (l_X12_trouble  h) (fun _ hT2004 => (lo_sV hT2004)))))
set_option maxHeartbeats 200000 in
theorem l_X12_moveGate_b87 {x1 : Int32} {xn2 : Int32} {xn3 : Int32} {xt0 : Int32} {Sn : q_V} (h : lc bW v0 Sn) : lo_V bW v0 (fX12_moveGate_b87 x1 xn2 xn3 xt0 Sn) := by
  unfold fX12_moveGate_b87
  exact (l_X12_moveGate_b89  h)
set_option maxHeartbeats 200000 in
theorem l_X12_moveGate_b82 {x1 : Int32} {xn2 : Int32} {xn3 : Int32} {Sn : q_V} (h : lc bW v0 Sn) : lo_V bW v0 (fX12_moveGate_b82 x1 xn2 xn3 Sn) := by
  unfold fX12_moveGate_b82
  exact (l_X12_moveGate_b87  h)
set_option maxHeartbeats 200000 in
theorem l_X12_moveGate_b46 {x1 : Int32} {xn2 : Int32} {xn3 : Int32} {xn4 : Int32} {Sn : q_V} (h : lc bW v0 Sn) : lo_V bW v0 (fX12_moveGate_b46 x1 xn2 xn3 xn4 Sn) := by
  unfold fX12_moveGate_b46
  exact (lo_iV (fun _ => (lo_iV (fun _ => (l_X12_moveGate_b89  h)) (fun _ => (lo_iV (fun _ => lo_nV) (fun _ => (lo_dV (l_X12_levelBeside  h) (fun _ _ hT5002 => (lo_xV (lo_iV (fun _ => (l_X12_moveGate_b82  hT5002)) (fun _ => (lo_iV (fun _ => (l_X12_moveGate_b87  hT5002)) (fun _ => (l_X12_moveGate_b82  hT5002))))))))))))) (fun _ => (l_X12_moveGate_b89  h)))
set_option maxHeartbeats 200000 in
theorem l_X12_moveGate {x1 : Int32} {S : q_V} (h : lc bW v0 S) : lo_V bW v0 (fX12_moveGate x1 S) := by
  unfold fX12_moveGate
  exact (lo_dV (l_X12_pop  h) (fun _ _ hT1 => (lo_dV (l_X12_pop  hT1) (fun _ _ hT3 => (lo_dV (l_X12_wrongSide  hT3) (fun _ _ hT5 => (lo_iV (fun _ => (lo_iV (fun _ => (l_X12_moveGate_b46  hT5)) (fun _ => (lo_iV (fun _ => lo_nV) (fun _ => (lo_iV (fun _ => (l_X12_moveGate_b46  hT5)) (fun _ => (l_X12_moveGate_b46  hT5)))))))) (fun _ => (l_X12_moveGate_b46  hT5)))))))))
set_option maxHeartbeats 200000 in
theorem l_X12_sluice_b208 {xn2 : Int32} {xn3 : Int32} {xn5 : Int32} {Sn : q_V} (h : lc bW v0 Sn) : lo_V bW v0 (fX12_sluice_b208 xn2 xn3 xn5 Sn) := by
  unfold fX12_sluice_b208
  exact (lo_vV (l_X12_note  h) (fun _ hT1001 => (lo_sV hT1001)))
set_option maxHeartbeats 200000 in
theorem l_X12_sluice_b200 {xn1 : Int32} {xn2 : Int32} {xn3 : Int32} {xn5 : Int32} {xn6 : Int32} {xn7 : Int32} {xt0 : Int32} {xt1 : Int32} {xt2 : Int32} {K102 : Int32 → Int32 → Int32 → Int32 → Int32 → Int32 → q_V → Option q_V} (kK102 : ∀ a0 a1 a2 a3 a4 a5 S, lc bW v0 S → lo_V bW v0 (K102 a0 a1 a2 a3 a4 a5 S)) {Sn : q_V} (h : lc bW v0 Sn) : lo_V bW v0 (fX12_sluice_b200 xn1 xn2 xn3 xn5 xn6 xn7 xt0 xt1 xt2 K102 Sn) := by
  unfold fX12_sluice_b200
  exact (lo_iV (fun _ => lo_nV) (fun _ => (lo_wV (lcA h rfl) (fun _ hT2001 => (lo_xV (kK102 _ _ _ _ _ _ _ hT2001))))))
set_option maxHeartbeats 200000 in
theorem l_X12_sluice_b179 {xn1 : Int32} {xn2 : Int32} {xn3 : Int32} {xn5 : Int32} {xn6 : Int32} {xn7 : Int32} {xt0 : Int32} {xt1 : Int32} {xt2 : Int32} {K102 : Int32 → Int32 → Int32 → Int32 → Int32 → Int32 → q_V → Option q_V} (kK102 : ∀ a0 a1 a2 a3 a4 a5 S, lc bW v0 S → lo_V bW v0 (K102 a0 a1 a2 a3 a4 a5 S)) {Sn : q_V} (h : lc bW v0 Sn) : lo_V bW v0 (fX12_sluice_b179 xn1 xn2 xn3 xn5 xn6 xn7 xt0 xt1 xt2 K102 Sn) := by
  unfold fX12_sluice_b179
  exact (lo_iV (fun _ => lo_nV) (fun _ => (lo_wV (lcA h rfl) (fun _ hT3001 => (lo_iV (fun _ => lo_nV) (fun _ => (lo_iV (fun _ => (l_X12_sluice_b200 kK102 hT3001)) (fun _ => (l_X12_sluice_b200 kK102 hT3001)))))))))
set_option maxHeartbeats 200000 in
theorem l_X12_sluice_b151 {xn1 : Int32} {xn2 : Int32} {xn3 : Int32} {xn5 : Int32} {xn6 : Int32} {K102 : Int32 → Int32 → Int32 → Int32 → Int32 → Int32 → q_V → Option q_V} (kK102 : ∀ a0 a1 a2 a3 a4 a5 S, lc bW v0 S → lo_V bW v0 (K102 a0 a1 a2 a3 a4 a5 S)) {Sn : q_V} (h : lc bW v0 Sn) : lo_V bW v0 (fX12_sluice_b151 xn1 xn2 xn3 xn5 xn6 K102 Sn) := by
  unfold fX12_sluice_b151
  exact (lo_dV (l_X12_burns  h) (fun _ _ hT4001 => (lo_iV (fun _ => (kK102 _ _ _ _ _ _ _ hT4001)) (fun _ => (lo_iV (fun _ => lo_nV) (fun _ => (lo_iV (fun _ => (l_X12_sluice_b179 kK102 hT4001)) (fun _ => (l_X12_sluice_b179 kK102 hT4001)))))))))
set_option maxHeartbeats 200000 in
theorem l_X12_sluice_L102  : ∀ n xn1 xn2 xn3 xn5 xn6 xn7 Sn, lc bW v0 Sn → lo_V bW v0 (fX12_sluice_L102  n xn1 xn2 xn3 xn5 xn6 xn7 Sn) := by
  intro n
  induction n with
  | zero => intro xn1 xn2 xn3 xn5 xn6 xn7 Sn _; exact lo_nV
  | succ n ih =>
    intro xn1 xn2 xn3 xn5 xn6 xn7 Sn h
    rw [fX12_sluice_L102]
    exact (lo_iV (fun _ => (l_X12_sluice_b208  h)) (fun _ => (lo_iV (fun _ => (l_X12_sluice_b208  h)) (fun _ => (lo_iV (fun _ => (lo_iV (fun _ => lo_nV) (fun _ => (lo_dV (l_X12_levelBeside  h) (fun _ _ hT5002 => (lo_iV (fun _ => (l_X12_sluice_b208  hT5002)) (fun _ => (l_X12_sluice_b151 (fun _ _ _ _ _ _ _ hk => (ih _ _ _ _ _ _ _ hk)) hT5002)))))))) (fun _ => (lo_iV (fun _ => lo_nV) (fun _ => (lo_dV (l_X12_levelBeside  h) (fun _ _ hT5006 => (lo_iV (fun _ => (l_X12_sluice_b208  hT5006)) (fun _ => (l_X12_sluice_b151 (fun _ _ _ _ _ _ _ hk => (ih _ _ _ _ _ _ _ hk)) hT5006)))))))))))))
set_option maxHeartbeats 200000 in
theorem l_X12_sluice_b97 {xn1 : Int32} {xn2 : Int32} {xn3 : Int32} {xn5 : Int32} {xt0 : Int32} {Sn : q_V} (h : lc bW v0 Sn) : lo_V bW v0 (fX12_sluice_b97 xn1 xn2 xn3 xn5 xt0 Sn) := by
  unfold fX12_sluice_b97
  exact (l_X12_sluice_L102  _ _ _ _ _ _ _ _ h)
set_option maxHeartbeats 200000 in
theorem l_X12_sluice_b62 {xn1 : Int32} {xn2 : Int32} {xn3 : Int32} {xn4 : Int32} {Sn : q_V} (h : lc bW v0 Sn) : lo_V bW v0 (fX12_sluice_b62 xn1 xn2 xn3 xn4 Sn) := by
  unfold fX12_sluice_b62
  exact (lo_iV (fun _ => (lo_iV (fun _ => lo_nV) (fun _ => (lo_dV (l_X12_levelBeside  h) (fun _ _ hT7002 => (lo_iV (fun _ => (l_X12_sluice_b97  hT7002)) (fun _ => (l_X12_sluice_b97  hT7002)))))))) (fun _ => (lo_vV (l_X12_trouble  h) (fun _ hT7005 => (lo_sV hT7005)))))
set_option maxHeartbeats 200000 in
theorem l_X12_sluice_b36 {xn1 : Int32} {xn2 : Int32} {xn3 : Int32} {xt0 : Int32} {Sn : q_V} (h : lc bW v0 Sn) : lo_V bW v0 (fX12_sluice_b36 xn1 xn2 xn3 xt0 Sn) := by
  unfold fX12_sluice_b36
  exact (lo_iV (fun _ => (lo_iV (fun _ => lo_nV) (fun _ => (lo_iV (fun _ => (l_X12_sluice_b62  h)) (fun _ => (l_X12_sluice_b62  h)))))) (fun _ => (l_X12_sluice_b62  h)))
set_option maxHeartbeats 200000 in
theorem l_X12_sluice  {S : q_V} (h : lc bW v0 S) : lo_V bW v0 (fX12_sluice  S) := by
  unfold fX12_sluice
  exact (lo_dV (l_X12_pop  h) (fun _ _ hT1 => (lo_dV (l_X12_pop  hT1) (fun _ _ hT3 => (lo_dV (l_X12_pop  hT3) (fun _ _ hT5 => (lo_dV (l_X12_in  hT5) (fun _ _ hT7 => (lo_iV (fun _ => (l_X12_sluice_b36  hT7)) (fun _ => (lo_dV (l_X12_wrongSide  hT7) (fun _ _ hT9 => (l_X12_sluice_b36  hT9)))))))))))))
set_option maxHeartbeats 200000 in
theorem l_X12_sail_b29  {Sn : q_V} (h : lc bW v0 Sn) : lo_V bW v0 (fX12_sail_b29  Sn) := by
  unfold fX12_sail_b29
  exact (lo_vV (l_X12_trouble  h) (fun _ hT1001 => (lo_sV hT1001)))
set_option maxHeartbeats 200000 in
theorem l_X12_sail_b185 {xn2 : Int32} {xn3 : Int32} {xt0 : Int32} {Sn : q_V} (h : lc bW v0 Sn) : lo_V bW v0 (fX12_sail_b185 xn2 xn3 xt0 Sn) := by
  unfold fX12_sail_b185
  exact (lo_iV (fun _ => (lo_iV (fun _ => lo_nV) (fun _ => (lo_wV (lcA h rfl) (fun _ hT2002 => (lo_vV (l_X12_note  hT2002) (fun _ hT2003 => (lo_sV hT2003)))))))) (fun _ => (lo_vV (l_X12_trouble  h) (fun _ hT2004 => (lo_sV hT2004)))))
set_option maxHeartbeats 200000 in
theorem l_X12_sail_b184 {xn2 : Int32} {xn3 : Int32} {Sn : q_V} (h : lc bW v0 Sn) : lo_V bW v0 (fX12_sail_b184 xn2 xn3 Sn) := by
  unfold fX12_sail_b184
  exact (l_X12_sail_b185  h)
set_option maxHeartbeats 200000 in
theorem l_X12_sail_b128 {xn2 : Int32} {xn3 : Int32} {xn4 : Int32} {xn6 : Int32} {xt0 : Int32} {Sn : q_V} (h : lc bW v0 Sn) : lo_V bW v0 (fX12_sail_b128 xn2 xn3 xn4 xn6 xt0 Sn) := by
  unfold fX12_sail_b128
  exact (lo_iV (fun _ => lo_nV) (fun _ => (lo_iV (fun _ => (l_X12_sail_b185  h)) (fun _ => (lo_iV (fun _ => lo_nV) (fun _ => (lo_iV (fun _ => (l_X12_sail_b185  h)) (fun _ => (lo_iV (fun _ => (lo_dV (l_X12_isTaken  h) (fun _ _ hT4003 => (lo_iV (fun _ => (l_X12_sail_b184  hT4003)) (fun _ => (l_X12_sail_b185  hT4003)))))) (fun _ => (l_X12_sail_b184  h)))))))))))
set_option maxHeartbeats 200000 in
theorem l_X12_sail_b106 {xn2 : Int32} {xn3 : Int32} {xn4 : Int32} {xt0 : Int32} {Sn : q_V} (h : lc bW v0 Sn) : lo_V bW v0 (fX12_sail_b106 xn2 xn3 xn4 xt0 Sn) := by
  unfold fX12_sail_b106
  exact (lo_xV (lo_iV (fun _ => (l_X12_sail_b128  h)) (fun _ => (l_X12_sail_b128  h))))
set_option maxHeartbeats 200000 in
theorem l_X12_sail_b87 {xn2 : Int32} {xn3 : Int32} {xt0 : Int32} {Sn : q_V} (h : lc bW v0 Sn) : lo_V bW v0 (fX12_sail_b87 xn2 xn3 xt0 Sn) := by
  unfold fX12_sail_b87
  exact (lo_iV (fun _ => (lo_iV (fun _ => lo_nV) (fun _ => (l_X12_sail_b106  h)))) (fun _ => (l_X12_sail_b106  h)))
set_option maxHeartbeats 200000 in
theorem l_X12_sail_b51 {xn2 : Int32} {xt0 : Int32} {xt1 : Int32} {Sn : q_V} (h : lc bW v0 Sn) : lo_V bW v0 (fX12_sail_b51 xn2 xt0 xt1 Sn) := by
  unfold fX12_sail_b51
  exact (lo_xV (lo_dV (l_X12_in  h) (fun _ _ hT7002 => (lo_iV (fun _ => (lo_vV (l_X12_trouble  hT7002) (fun _ hT7006 => (lo_sV hT7006)))) (fun _ => (lo_iV (fun _ => (l_X12_sail_b87  hT7002)) (fun _ => (lo_iV (fun _ => lo_nV) (fun _ => (l_X12_sail_b87  hT7002))))))))))
set_option maxHeartbeats 200000 in
theorem l_X12_sail  {S : q_V} (h : lc bW v0 S) : lo_V bW v0 (fX12_sail  S) := by
  unfold fX12_sail
  exact (lo_dV (l_X12_pop  h) (fun _ _ hT1 => (lo_dV (l_X12_pop  hT1) (fun _ _ hT3 => (lo_dV (l_X12_in  hT3) (fun _ _ hT5 => (lo_iV (fun _ => (l_X12_sail_b29  hT5)) (fun _ => (lo_dV (l_X12_in  hT5) (fun _ _ hT7 => (lo_iV (fun _ => (l_X12_sail_b29  hT7)) (fun _ => (lo_iV (fun _ => lo_nV) (fun _ => (lo_iV (fun _ => (l_X12_sail_b51  hT7)) (fun _ => (l_X12_sail_b51  hT7)))))))))))))))))
set_option maxHeartbeats 200000 in
theorem l_X12_stepOfStatement_b600 {x1 : Int32} {x2 : Int32} {x3 : Int32} {Sn : q_V} (h : lc bW v0 Sn) : lo_V bW v0 (fX12_stepOfStatement_b600 x1 x2 x3 Sn) := by
  unfold fX12_stepOfStatement_b600
  exact (lo_sV h)
set_option maxHeartbeats 200000 in
theorem l_X12_stepOfStatement_b250 {x1 : Int32} {x2 : Int32} {x3 : Int32} {xt0 : Int32} {Sn : q_V} (h : lc bW v0 Sn) : lo_V bW v0 (fX12_stepOfStatement_b250 x1 x2 x3 xt0 Sn) := by
  unfold fX12_stepOfStatement_b250
  exact (lo_wV (lcI h rfl) (fun _ hT2001 => (lo_wV (lcI hT2001 rfl) (fun _ hT2002 => (lo_vV (l_X12_leaves  hT2002) (fun _ hT2003 => (l_X12_stepOfStatement_b600  hT2003)))))))
set_option maxHeartbeats 200000 in
theorem l_X12_stepOfStatement_b238 {x1 : Int32} {x2 : Int32} {x3 : Int32} {Sn : q_V} (h : lc bW v0 Sn) : lo_V bW v0 (fX12_stepOfStatement_b238 x1 x2 x3 Sn) := by
  unfold fX12_stepOfStatement_b238
  exact (lo_iV (fun _ => (l_X12_stepOfStatement_b250  h)) (fun _ => (l_X12_stepOfStatement_b250  h)))
set_option maxHeartbeats 200000 in
theorem l_X12_stepOfStatement_b289 {x1 : Int32} {x2 : Int32} {x3 : Int32} {xt0 : Int32} {Sn : q_V} (h : lc bW v0 Sn) : lo_V bW v0 (fX12_stepOfStatement_b289 x1 x2 x3 xt0 Sn) := by
  unfold fX12_stepOfStatement_b289
  exact (lo_wV (lcI h rfl) (fun _ hT4001 => (l_X12_stepOfStatement_b600  hT4001)))
set_option maxHeartbeats 200000 in
theorem l_X12_stepOfStatement_b450 {x1 : Int32} {x2 : Int32} {x3 : Int32} {xt0 : Int32} {xt1 : Int32} {Sn : q_V} (h : lc bW v0 Sn) : lo_V bW v0 (fX12_stepOfStatement_b450 x1 x2 x3 xt0 xt1 Sn) := by
  unfold fX12_stepOfStatement_b450
  exact (lo_vV (l_X12_rounds  h) (fun _ hT5001 => (l_X12_stepOfStatement_b600  hT5001)))
set_option maxHeartbeats 200000 in
theorem l_X12_stepOfStatement_b518 {x1 : Int32} {x2 : Int32} {x3 : Int32} {xt0 : Int32} {xt1 : Int32} {Sn : q_V} (h : lc bW v0 Sn) : lo_V bW v0 (fX12_stepOfStatement_b518 x1 x2 x3 xt0 xt1 Sn) := by
  unfold fX12_stepOfStatement_b518
  exact (lo_wV (lcI h rfl) (fun _ hT6001 => (l_X12_stepOfStatement_b600  hT6001)))
set_option maxHeartbeats 200000 in
theorem l_X12_stepOfStatement_b549 {x1 : Int32} {x2 : Int32} {x3 : Int32} {xt0 : Int32} {Sn : q_V} (h : lc bW v0 Sn) : lo_V bW v0 (fX12_stepOfStatement_b549 x1 x2 x3 xt0 Sn) := by
  unfold fX12_stepOfStatement_b549
  exact (lo_vV (l_X12_mends  h) (fun _ hT7001 => (l_X12_stepOfStatement_b600  hT7001)))
set_option maxHeartbeats 200000 in
theorem l_X12_stepOfStatement_b594 {x1 : Int32} {x2 : Int32} {x3 : Int32} {Sn : q_V} (h : lc bW v0 Sn) : lo_V bW v0 (fX12_stepOfStatement_b594 x1 x2 x3 Sn) := by
  unfold fX12_stepOfStatement_b594
  exact (lo_vV (l_X12_pledges  h) (fun _ hT8001 => (l_X12_stepOfStatement_b600  hT8001)))
set_option maxHeartbeats 200000 in
theorem l_X12_stepOfStatement_b390 {x1 : Int32} {x2 : Int32} {x3 : Int32} {xt0 : Int32} {Sn : q_V} (h : lc bW v0 Sn) : lo_V bW v0 (fX12_stepOfStatement_b390 x1 x2 x3 xt0 Sn) := by
  unfold fX12_stepOfStatement_b390
  exact (lo_vV (l_X12_chooses  h) (fun _ hT9001 => (l_X12_stepOfStatement_b600  hT9001)))
set_option maxHeartbeats 200000 in
theorem l_X12_stepOfStatement_b430 {x1 : Int32} {x2 : Int32} {x3 : Int32} {xt0 : Int32} {Sn : q_V} (h : lc bW v0 Sn) : lo_V bW v0 (fX12_stepOfStatement_b430 x1 x2 x3 xt0 Sn) := by
  unfold fX12_stepOfStatement_b430
  exact (lo_vV (l_X12_ensures  h) (fun _ hT10001 => (l_X12_stepOfStatement_b600  hT10001)))
set_option maxHeartbeats 200000 in
theorem l_X12_stepOfStatement {x1 : Int32} {x2 : Int32} {x3 : Int32} {S : q_V} (h : lc bW v0 S) : lo_V bW v0 (fX12_stepOfStatement x1 x2 x3 S) := by
  unfold fX12_stepOfStatement
  exact (lo_iV (fun _ => (lo_wV (lcI h rfl) (fun _ hT2 => (lo_dV (l_X12_burns  hT2) (fun _ _ hT3 => (l_X12_stepOfStatement_b600  hT3)))))) (fun _ => (lo_iV (fun _ => (lo_dV (l_X12_pop  h) (fun _ _ hT6 => (lo_vV (l_X12_note  hT6) (fun _ hT8 => (l_X12_stepOfStatement_b600  hT8)))))) (fun _ => (lo_iV (fun _ => (lo_vV (l_X12_moveGate  h) (fun _ hT10 => (l_X12_stepOfStatement_b600  hT10)))) (fun _ => (lo_iV (fun _ => (lo_vV (l_X12_moveGate  h) (fun _ hT12 => (l_X12_stepOfStatement_b600  hT12)))) (fun _ => (lo_iV (fun _ => (lo_vV (l_X12_sluice  h) (fun _ hT14 => (l_X12_stepOfStatement_b600  hT14)))) (fun _ => (lo_iV (fun _ => (lo_vV (l_X12_sail  h) (fun _ hT16 => (l_X12_stepOfStatement_b600  hT16)))) (fun _ => (lo_iV (fun _ => (lo_dV (l_X12_pop  h) (fun _ _ hT18 => (lo_vV (l_X12_fails  hT18) (fun _ hT20 => (l_X12_stepOfStatement_b600  hT20)))))) (fun _ => (lo_iV (fun _ => (lo_wV (lcI h rfl) (fun _ hT22 => (l_X12_stepOfStatement_b600  hT22)))) (fun _ => (lo_iV (fun _ => (lo_dV (l_X12_pop  h) (fun _ _ hT24 => (lo_wV (lcI hT24 rfl) (fun _ hT26 => (lo_wV (lcI hT26 rfl) (fun _ hT27 => (lo_vV (l_X12_leaves  hT27) (fun _ hT28 => (l_X12_stepOfStatement_b600  hT28)))))))))) (fun _ => (lo_iV (fun _ => (l_X12_stepOfStatement_b238  h)) (fun _ => (lo_iV (fun _ => (l_X12_stepOfStatement_b238  h)) (fun _ => (lo_iV (fun _ => (lo_wV (lcI h rfl) (fun _ hT32 => (l_X12_stepOfStatement_b600  hT32)))) (fun _ => (lo_iV (fun _ => (lo_dV (l_X12_pop  h) (fun _ _ hT34 => (lo_iV (fun _ => (l_X12_stepOfStatement_b289  hT34)) (fun _ => (l_X12_stepOfStatement_b289  hT34)))))) (fun _ => (lo_iV (fun _ => (lo_vV (l_X12_opens  h) (fun _ hT38 => (l_X12_stepOfStatement_b600  hT38)))) (fun _ => (lo_iV (fun _ => (lo_wV (lcI h rfl) (fun _ hT40 => (lo_dV (l_X12_burns  hT40) (fun _ _ hT41 => (l_X12_stepOfStatement_b600  hT41)))))) (fun _ => (lo_iV (fun _ => (lo_dV (l_X12_pop  h) (fun _ _ hT44 => (lo_iV (fun _ => (l_X12_stepOfStatement_b450  hT44)) (fun _ => (l_X12_stepOfStatement_b450  hT44)))))) (fun _ => (lo_iV (fun _ => (lo_vV (l_X12_beginsEach  h) (fun _ hT48 => (l_X12_stepOfStatement_b600  hT48)))) (fun _ => (lo_iV (fun _ => (lo_vV (l_X12_testsEach  h) (fun _ hT50 => (l_X12_stepOfStatement_b600  hT50)))) (fun _ => (lo_iV (fun _ => (lo_vV (l_X12_leaves  h) (fun _ hT52 => (l_X12_stepOfStatement_b600  hT52)))) (fun _ => (lo_iV (fun _ => (lo_dV (l_X12_pop  h) (fun _ _ hT54 => (lo_vV (l_X12_takes  hT54) (fun _ hT56 => (l_X12_stepOfStatement_b600  hT56)))))) (fun _ => (lo_iV (fun _ => (lo_vV (l_X12_opens  h) (fun _ hT58 => (lo_iV (fun _ => lo_nV) (fun _ => (lo_iV (fun _ => (l_X12_stepOfStatement_b518  hT58)) (fun _ => (l_X12_stepOfStatement_b518  hT58)))))))) (fun _ => (lo_iV (fun _ => (lo_dV (l_X12_pop  h) (fun _ _ hT62 => (lo_iV (fun _ => lo_nV) (fun _ => (lo_iV (fun _ => (l_X12_stepOfStatement_b549  hT62)) (fun _ => (l_X12_stepOfStatement_b549  hT62)))))))) (fun _ => (lo_iV (fun _ => (lo_vV (l_X12_mends  h) (fun _ hT67 => (l_X12_stepOfStatement_b600  hT67)))) (fun _ => (lo_iV (fun _ => (lo_vV (l_X12_takeWay  h) (fun _ hT69 => (lo_iV (fun _ => lo_nV) (fun _ => (lo_wV (lcA hT69 rfl) (fun _ hT71 => (lo_vV (l_X12_leaves  hT71) (fun _ hT72 => (l_X12_stepOfStatement_b600  hT72)))))))))) (fun _ => (lo_iV (fun _ => (l_X12_stepOfStatement_b594  h)) (fun _ => (lo_iV (fun _ => (lo_wV (lcI h rfl) (fun _ hT75 => (l_X12_stepOfStatement_b600  hT75)))) (fun _ => (lo_iV (fun _ => (lo_dV (l_X12_burns  h) (fun _ _ hT77 => (lo_iV (fun _ => (l_X12_stepOfStatement_b600  hT77)) (fun _ => (lo_vV (l_X12_rounds  hT77) (fun _ hT79 => (l_X12_stepOfStatement_b600  hT79)))))))) (fun _ => (lo_iV (fun _ => (lo_dV (l_X12_pop  h) (fun _ _ hT82 => (lo_iV (fun _ => (lo_wV (lcI hT82 rfl) (fun _ hT85 => (l_X12_stepOfStatement_b600  hT85)))) (fun _ => (lo_vV (l_X12_rounds  hT82) (fun _ hT84 => (l_X12_stepOfStatement_b600  hT84)))))))) (fun _ => (lo_iV (fun _ => (lo_dV (l_X12_pop  h) (fun _ _ hT88 => (lo_iV (fun _ => lo_nV) (fun _ => (lo_iV (fun _ => (l_X12_stepOfStatement_b390  hT88)) (fun _ => (l_X12_stepOfStatement_b390  hT88)))))))) (fun _ => (lo_iV (fun _ => (lo_vV (l_X12_chooses  h) (fun _ hT93 => (l_X12_stepOfStatement_b600  hT93)))) (fun _ => (lo_iV (fun _ => (lo_vV (l_X12_opens  h) (fun _ hT95 => (l_X12_stepOfStatement_b600  hT95)))) (fun _ => (lo_iV (fun _ => (lo_dV (l_X12_pop  h) (fun _ _ hT97 => (lo_iV (fun _ => (l_X12_stepOfStatement_b430  hT97)) (fun _ => (l_X12_stepOfStatement_b430  hT97)))))) (fun _ => (l_X12_stepOfStatement_b594  h)))))))))))))))))))))))))))))))))))))))))))))))))))))))))))))))))
set_option maxHeartbeats 200000 in
theorem l_X12_step_b436  {Sn : q_V} (h : lc bW v0 Sn) : lo_V bW v0 (fX12_step_b436  Sn) := by
  unfold fX12_step_b436
  exact (lo_sV h)
set_option maxHeartbeats 200000 in
theorem l_X12_step_b260 {xt0 : Int32} {Sn : q_V} (h : lc bW v0 Sn) : lo_V bW v0 (fX12_step_b260 xt0 Sn) := by
  unfold fX12_step_b260
  exact (lo_vV (l_X12_push  h) (fun _ hT2001 => (l_X12_step_b436  hT2001)))
set_option maxHeartbeats 200000 in
theorem l_X12_step_b431 {xn1 : Int32} {Sn : q_V} (h : lc bW v0 Sn) : lo_V bW v0 (fX12_step_b431 xn1 Sn) := by
  unfold fX12_step_b431
  exact (lo_vV (l_X12_reckon  h) (fun _ hT3001 => (l_X12_step_b436  hT3001)))
set_option maxHeartbeats 200000 in
theorem l_X12_step_b279 {xn2 : Int32} {xt0 : Int32} {Sn : q_V} (h : lc bW v0 Sn) : lo_V bW v0 (fX12_step_b279 xn2 xt0 Sn) := by
  unfold fX12_step_b279
  exact (lo_vV (l_X12_jumpIf  h) (fun _ hT4001 => (l_X12_step_b436  hT4001)))
set_option maxHeartbeats 200000 in
theorem l_X12_step_b300 {xn2 : Int32} {xt0 : Int32} {Sn : q_V} (h : lc bW v0 Sn) : lo_V bW v0 (fX12_step_b300 xn2 xt0 Sn) := by
  unfold fX12_step_b300
  exact (lo_vV (l_X12_jumpIf  h) (fun _ hT5001 => (l_X12_step_b436  hT5001)))
set_option maxHeartbeats 200000 in
theorem l_X12_step_b321 {xt0 : Int32} {Sn : q_V} (h : lc bW v0 Sn) : lo_V bW v0 (fX12_step_b321 xt0 Sn) := by
  unfold fX12_step_b321
  exact (lo_vV (l_X12_push  h) (fun _ hT6001 => (l_X12_step_b436  hT6001)))
set_option maxHeartbeats 200000 in
theorem l_X12_step  {S : q_V} (h : lc bW v0 S) : lo_V bW v0 (fX12_step  S) := by
  unfold fX12_step
  exact (lo_iV (fun _ => lo_nV) (fun _ => (lo_xV (lo_iV (fun _ => lo_nV) (fun _ => (lo_xV (lo_iV (fun _ => lo_nV) (fun _ => (lo_xV (lo_wV (lcI h rfl) (fun _ hT7 => (lo_iV (fun _ => (lo_iV (fun _ => (lo_vV (l_X12_push  hT7) (fun _ hT9 => (l_X12_step_b436  hT9)))) (fun _ => (lo_iV (fun _ => (lo_iV (fun _ => lo_nV) (fun _ => (lo_vV (l_X12_push  hT7) (fun _ hT12 => (l_X12_step_b436  hT12)))))) (fun _ => (lo_iV (fun _ => (lo_dV (l_X12_pop  hT7) (fun _ _ hT15 => (lo_iV (fun _ => lo_nV) (fun _ => (lo_wV (lcA hT15 rfl) (fun _ hT17 => (l_X12_step_b436  hT17)))))))) (fun _ => (lo_iV (fun _ => (lo_wV (lcI hT7 rfl) (fun _ hT19 => (l_X12_step_b436  hT19)))) (fun _ => (lo_iV (fun _ => (lo_dV (l_X12_pop  hT7) (fun _ _ hT21 => (lo_vV (l_X12_push  hT21) (fun _ hT23 => (l_X12_step_b436  hT23)))))) (fun _ => (lo_iV (fun _ => (lo_dV (l_X12_pop  hT7) (fun _ _ hT25 => (lo_iV (fun _ => (l_X12_step_b260  hT25)) (fun _ => (l_X12_step_b260  hT25)))))) (fun _ => (lo_iV (fun _ => (l_X12_step_b431  hT7)) (fun _ => (lo_iV (fun _ => (l_X12_step_b431  hT7)) (fun _ => (lo_iV (fun _ => (l_X12_step_b431  hT7)) (fun _ => (lo_iV (fun _ => (l_X12_step_b431  hT7)) (fun _ => (lo_iV (fun _ => (l_X12_step_b431  hT7)) (fun _ => (lo_iV (fun _ => (l_X12_step_b431  hT7)) (fun _ => (lo_iV (fun _ => (l_X12_step_b431  hT7)) (fun _ => (lo_iV (fun _ => (l_X12_step_b431  hT7)) (fun _ => (lo_iV (fun _ => (l_X12_step_b431  hT7)) (fun _ => (lo_iV (fun _ => (lo_dV (l_X12_pop  hT7) (fun _ _ hT38 => (lo_iV (fun _ => (l_X12_step_b279  hT38)) (fun _ => (l_X12_step_b279  hT38)))))) (fun _ => (lo_iV (fun _ => (lo_dV (l_X12_pop  hT7) (fun _ _ hT42 => (lo_iV (fun _ => (l_X12_step_b300  hT42)) (fun _ => (l_X12_step_b300  hT42)))))) (fun _ => (lo_iV (fun _ => (lo_dV (l_X12_pop  hT7) (fun _ _ hT46 => (lo_iV (fun _ => (l_X12_step_b321  hT46)) (fun _ => (l_X12_step_b321  hT46)))))) (fun _ => (lo_iV (fun _ => (lo_vV (l_X12_calls  hT7) (fun _ hT50 => (l_X12_step_b436  hT50)))) (fun _ => (lo_iV (fun _ => (lo_dV (l_X12_pop  hT7) (fun _ _ hT52 => (lo_vV (l_X12_answers  hT52) (fun _ hT54 => (l_X12_step_b436  hT54)))))) (fun _ => (lo_iV (fun _ => (lo_dV (l_X12_pop  hT7) (fun _ _ hT56 => (lo_vV (l_X12_answers  hT56) (fun _ hT58 => (l_X12_step_b436  hT58)))))) (fun _ => (lo_iV (fun _ => (lo_vV (l_X12_answersGate  hT7) (fun _ hT60 => (l_X12_step_b436  hT60)))) (fun _ => (lo_iV (fun _ => (lo_dV (l_X12_pop  hT7) (fun _ _ hT62 => (lo_vV (l_X12_answers  hT62) (fun _ hT64 => (l_X12_step_b436  hT64)))))) (fun _ => (lo_iV (fun _ => (lo_dV (l_X12_pop  hT7) (fun _ _ hT66 => (lo_vV (l_X12_answers  hT66) (fun _ hT68 => (l_X12_step_b436  hT68)))))) (fun _ => (lo_iV (fun _ => (lo_iV (fun _ => lo_nV) (fun _ => (lo_vV (l_X12_push  hT7) (fun _ hT71 => (l_X12_step_b436  hT71)))))) (fun _ => (lo_iV (fun _ => (lo_iV (fun _ => lo_nV) (fun _ => (lo_vV (l_X12_push  hT7) (fun _ hT74 => (l_X12_step_b436  hT74)))))) (fun _ => (l_X12_step_b431  hT7)))))))))))))))))))))))))))))))))))))))))))))))))))))) (fun _ => (lo_vV (l_X12_stepOfStatement  hT7) (fun _ hT75 => (lo_sV hT75))))))))))))))))
set_option maxHeartbeats 200000 in
theorem l_X12_clear  {S : q_V} (h : lc bW v0 S) : lo_V bW v0 (fX12_clear  S) := by
  unfold fX12_clear
  exact (lo_wV (lcI h rfl) (fun _ hT1 => (lo_wV (lcI hT1 rfl) (fun _ hT2 => (lo_wV (lcI hT2 rfl) (fun _ hT3 => (lo_wV (lcI hT3 rfl) (fun _ hT4 => (lo_wV (lcI hT4 rfl) (fun _ hT5 => (lo_wV (lcI hT5 rfl) (fun _ hT6 => (lo_wV (lcI hT6 rfl) (fun _ hT7 => (lo_wV (lcI hT7 rfl) (fun _ hT8 => (lo_wV (lcI hT8 rfl) (fun _ hT9 => (lo_wV (lcI hT9 rfl) (fun _ hT10 => (lo_wV (lcI hT10 rfl) (fun _ hT11 => (lo_wV (lcI hT11 rfl) (fun _ hT12 => (lo_wV (lcI hT12 rfl) (fun _ hT13 => (lo_wV (lcI hT13 rfl) (fun _ hT14 => (lo_wV (lcI hT14 rfl) (fun _ hT15 => (lo_wV (lcI hT15 rfl) (fun _ hT16 => (lo_wV (lcI hT16 rfl) (fun _ hT17 => (lo_wV (lcI hT17 rfl) (fun _ hT18 => (lo_wV (lcI hT18 rfl) (fun _ hT19 => (lo_sV hT19)))))))))))))))))))))))))))))))))))))))
set_option maxHeartbeats 200000 in
theorem l_X12_tellEnd_b169  {Sn : q_V} (h : lc bW v0 Sn) : lo_V bW v0 (fX12_tellEnd_b169  Sn) := by
  unfold fX12_tellEnd_b169
  exact (lo_sV h)
set_option maxHeartbeats 200000 in
theorem l_X12_tellEnd_b166 {xt0 : Int32} {Sn : q_V} (h : lc bW v0 Sn) : lo_V bW v0 (fX12_tellEnd_b166 xt0 Sn) := by
  unfold fX12_tellEnd_b166
  exact (lo_wV (lcI h rfl) (fun _ hT2001 => (l_X12_tellEnd_b169  hT2001)))
set_option maxHeartbeats 200000 in
theorem l_X12_tellEnd_b111 {xt0 : Int32} {Sn : q_V} (h : lc bW v0 Sn) : lo_V bW v0 (fX12_tellEnd_b111 xt0 Sn) := by
  unfold fX12_tellEnd_b111
  exact (lo_wV (lcI h rfl) (fun _ hT3001 => (lo_iV (fun _ => (lo_wV (lcI hT3001 rfl) (fun _ hT3003 => (lo_wV (lcI hT3003 rfl) (fun _ hT3004 => (lo_wV (lcI hT3004 rfl) (fun _ hT3005 => (l_X12_tellEnd_b169  hT3005)))))))) (fun _ => (lo_iV (fun _ => (l_X12_tellEnd_b166  hT3001)) (fun _ => (l_X12_tellEnd_b166  hT3001)))))))
set_option maxHeartbeats 200000 in
theorem l_X12_tellEnd_L69  : ∀ n xn1 Sn, lc bW v0 Sn → lo_V bW v0 (fX12_tellEnd_L69  n xn1 Sn) := by
  intro n
  induction n with
  | zero => intro xn1 Sn _; exact lo_nV
  | succ n ih =>
    intro xn1 Sn h
    rw [fX12_tellEnd_L69]
    exact (lo_iV (fun _ => (lo_wV (lcI h rfl) (fun _ hT4001 => (lo_sV hT4001)))) (fun _ => (lo_iV (fun _ => lo_nV) (fun _ => (lo_wV (lcA h rfl) (fun _ hT4003 => (lo_xV (ih _ _ hT4003))))))))
set_option maxHeartbeats 200000 in
theorem l_X12_tellEnd_b57 {xt0 : Int32} {Sn : q_V} (h : lc bW v0 Sn) : lo_V bW v0 (fX12_tellEnd_b57 xt0 Sn) := by
  unfold fX12_tellEnd_b57
  exact (lo_wV (lcI h rfl) (fun _ hT5001 => (lo_iV (fun _ => (lo_iV (fun _ => (l_X12_tellEnd_b111  hT5001)) (fun _ => (l_X12_tellEnd_b111  hT5001)))) (fun _ => (l_X12_tellEnd_L69  _ _ _ hT5001)))))
set_option maxHeartbeats 200000 in
theorem l_X12_tellEnd  {S : q_V} (h : lc bW v0 S) : lo_V bW v0 (fX12_tellEnd  S) := by
  unfold fX12_tellEnd
  exact (lo_wV (lcI h rfl) (fun _ hT1 => (lo_wV (lcI hT1 rfl) (fun _ hT2 => (lo_wV (lcI hT2 rfl) (fun _ hT3 => (lo_wV (lcI hT3 rfl) (fun _ hT4 => (lo_iV (fun _ => (lo_iV (fun _ => (l_X12_tellEnd_b57  hT4)) (fun _ => (lo_iV (fun _ => (l_X12_tellEnd_b57  hT4)) (fun _ => (l_X12_tellEnd_b57  hT4)))))) (fun _ => (l_X12_tellEnd_b57  hT4)))))))))))
set_option maxHeartbeats 200000 in
theorem l_X12_run_b147 {x1 : Int32} {x2 : Int32} {x3 : Int32} {x4 : Int32} {Sn : q_V} (h : lc bW v0 Sn) : lo_D bW v0 (fX12_run_b147 x1 x2 x3 x4 Sn) := by
  unfold fX12_run_b147
  exact (lo_wD (lcI h rfl) (fun _ hT3001 => (lo_wD (lcI hT3001 rfl) (fun _ hT3002 => (lo_vD (l_X12_tellEnd  hT3002) (fun _ hT3003 => (lo_sD hT3003)))))))
set_option maxHeartbeats 200000 in
theorem l_X12_run_L126 {x1 : Int32} {x2 : Int32} {x3 : Int32} {x4 : Int32} : ∀ n Sn, lc bW v0 Sn → lo_D bW v0 (fX12_run_L126 x1 x2 x3 x4 n Sn) := by
  intro n
  induction n with
  | zero => intro Sn _; exact lo_nD
  | succ n ih =>
    intro Sn h
    rw [fX12_run_L126]
    exact (lo_iD (fun _ => (lo_iD (fun _ => (lo_vD (l_X12_step  h) (fun _ hT4001 => (ih _ hT4001)))) (fun _ => (l_X12_run_b147  h)))) (fun _ => (l_X12_run_b147  h)))
set_option maxHeartbeats 200000 in
theorem l_X12_run_b110 {x1 : Int32} {x2 : Int32} {x3 : Int32} {x4 : Int32} {xn5 : Int32} {xn6 : Int32} {xt0 : Int32} {K82 : Int32 → Int32 → q_V → Option (Int32 × q_V)} (kK82 : ∀ a0 a1 S, lc bW v0 S → lo_D bW v0 (K82 a0 a1 S)) {Sn : q_V} (h : lc bW v0 Sn) : lo_D bW v0 (fX12_run_b110 x1 x2 x3 x4 xn5 xn6 xt0 K82 Sn) := by
  unfold fX12_run_b110
  exact (lo_vD (l_X12_push  h) (fun _ hT5001 => (lo_xD (kK82 _ _ _ hT5001))))
set_option maxHeartbeats 200000 in
theorem l_X12_run_L82 {x1 : Int32} {x2 : Int32} {x3 : Int32} {x4 : Int32} : ∀ n xn5 xn6 Sn, lc bW v0 Sn → lo_D bW v0 (fX12_run_L82 x1 x2 x3 x4 n xn5 xn6 Sn) := by
  intro n
  induction n with
  | zero => intro xn5 xn6 Sn _; exact lo_nD
  | succ n ih =>
    intro xn5 xn6 Sn h
    rw [fX12_run_L82]
    exact (lo_iD (fun _ => (lo_vD (l_X12_calls  h) (fun _ hT6001 => (l_X12_run_L126  _ _ hT6001)))) (fun _ => (lo_iD (fun _ => (l_X12_run_b110 (fun _ _ _ hk => (ih _ _ _ hk)) h)) (fun _ => (lo_iD (fun _ => (l_X12_run_b110 (fun _ _ _ hk => (ih _ _ _ hk)) h)) (fun _ => (l_X12_run_b110 (fun _ _ _ hk => (ih _ _ _ hk)) h)))))))
end
