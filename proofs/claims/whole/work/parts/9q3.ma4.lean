section
variable {g : q_G} {S : kp_S} {P : kp_S → Prop} {x1 x2 x3 x4 x5 : Int32} {C1 C2 C3 C4 C5 : Prop}
set_option maxHeartbeats 200000 in
theorem k_feed (h1 : C1) (h2 : C2) (h3 : C3) (h4 : C4) (h5 : C5) (h : LI g S) (kk : ∀ T, LI g T → kp_le S T → P T) : wX11_feed (g 0 11 0) x1 x2 x3 x4 x5 S (fun y T => C1 ∧ C2 ∧ C3 ∧ C4 ∧ C5 ∧ wX12_feed (g 0 12 0) x1 x2 x3 x4 x5 T (fun y' T2 => (y = y' → P T2) ∧ (¬ y = y' → False))) :=
  li_two (f := fX11_feed x1 x2 x3 x4 x5) (r := fX12_feed x1 x2 x3 x4 x5) (w1 := fun S post => wX11_feed (g 0 11 0) x1 x2 x3 x4 x5 S post) (w2 := fun T post => C1 ∧ C2 ∧ C3 ∧ C4 ∧ C5 ∧ wX12_feed (g 0 12 0) x1 x2 x3 x4 x5 T post) h (g_feed (x1 := x1) (x2 := x2) (x3 := x3) (x4 := x4) (x5 := x5) h.2.2.2) (fun _ _ _ e z => b_X11_feed (G_f h) e (fun T R q => z T ⟨R.1, R.2.1, R.2.2.1⟩ q)) (fun _ _ _ _ R e z => ⟨h1, h2, h3, h4, h5, b_X12_feed R e z⟩) kk
set_option maxHeartbeats 200000 in
theorem k_end (h1 : C1) (h : LI g S) (kk : ∀ T, LI g T → kp_le S T → P T) : wX11_end (g 0 11 0) x1 S (fun y T => C1 ∧ wX12_end (g 0 12 0) x1 T (fun y' T2 => (y = y' → P T2) ∧ (¬ y = y' → False))) :=
  li_two (f := fX11_end x1) (r := fX12_end x1) (w1 := fun S post => wX11_end (g 0 11 0) x1 S post) (w2 := fun T post => C1 ∧ wX12_end (g 0 12 0) x1 T post) h (g_end (x := x1) h.2.2.2) (fun _ _ _ e z => b_X11_end (G_f h) e (fun T R q => z T ⟨R.1, R.2.1, R.2.2.1⟩ q)) (fun _ _ _ _ R e z => ⟨h1, b_X12_end R e z⟩) kk
set_option maxHeartbeats 200000 in
theorem k_fault (h1 : C1) (h : LI g S) (kk : ∀ T, LI g T → kp_le S T → P T) : wX11_fault (g 0 11 0) x1 S (fun y T => C1 ∧ wX12_fault (g 0 12 0) x1 T (fun y' T2 => (y = y' → P T2) ∧ (¬ y = y' → False))) :=
  li_two (f := fX11_fault x1) (r := fX12_fault x1) (w1 := fun S post => wX11_fault (g 0 11 0) x1 S post) (w2 := fun T post => C1 ∧ wX12_fault (g 0 12 0) x1 T post) h (g_fault (x := x1) h.2.2.2) (fun _ _ _ e z => b_X11_fault (G_f h) e (fun T R q => z T ⟨R.1, R.2.1, R.2.2.1⟩ q)) (fun _ _ _ _ R e z => ⟨h1, b_X12_fault R e z⟩) kk
set_option maxHeartbeats 200000 in
theorem k_duty (h1 : C1) (h2 : C2) (h : LI g S) (kk : ∀ T, LI g T → kp_le S T → P T) : wX11_duty (g 0 11 0) x1 x2 S (fun y T => C1 ∧ C2 ∧ wX12_duty_ (g 0 12 0) x1 x2 T (fun y' T2 => (y = y' → P T2) ∧ (¬ y = y' → False))) :=
  li_two (f := fX11_duty x1 x2) (r := fX12_duty_ x1 x2) (w1 := fun S post => wX11_duty (g 0 11 0) x1 x2 S post) (w2 := fun T post => C1 ∧ C2 ∧ wX12_duty_ (g 0 12 0) x1 x2 T post) h (g_duty (x1 := x1) (x2 := x2) h.2.2.2) (fun _ _ _ e z => b_X11_duty (G_f h) e (fun T R q => z T ⟨R.1, R.2.1, R.2.2.1⟩ q)) (fun _ _ _ _ R e z => ⟨h1, h2, b_X12_duty_ R e z⟩) kk
set_option maxHeartbeats 200000 in
theorem k_fill (h1 : C1) (h2 : C2) (h : LI g S) (kk : ∀ T, LI g T → kp_le S T → P T) : wX11_fill (g 0 11 0) x1 x2 S (fun y T => C1 ∧ C2 ∧ wX12_fill (g 0 12 0) x1 x2 T (fun y' T2 => (y = y' → P T2) ∧ (¬ y = y' → False))) :=
  li_two (f := fX11_fill x1 x2) (r := fX12_fill x1 x2) (w1 := fun S post => wX11_fill (g 0 11 0) x1 x2 S post) (w2 := fun T post => C1 ∧ C2 ∧ wX12_fill (g 0 12 0) x1 x2 T post) h (g_fill (x1 := x1) (x2 := x2) h.2.2.2) (fun _ _ _ e z => m_X11_fill (G_m h) e (fun T R q => z T ⟨R.1, R.2.1, R.2.2.1⟩ q)) (fun _ _ _ _ R e z => ⟨h1, h2, b_X12_fill R e z⟩) kk
set_option maxHeartbeats 200000 in
theorem k_chamber (h1 : C1) (h2 : C2) (h : LI g S) (kk : ∀ T, LI g T → kp_le S T → P T) : wX11_chamber (g 0 11 0) x1 x2 S (fun y T => C1 ∧ C2 ∧ wX12_chamber (g 0 12 0) x1 x2 T (fun y' T2 => (y = y' → P T2) ∧ (¬ y = y' → False))) :=
  li_two (f := fX11_chamber x1 x2) (r := fX12_chamber x1 x2) (w1 := fun S post => wX11_chamber (g 0 11 0) x1 x2 S post) (w2 := fun T post => C1 ∧ C2 ∧ wX12_chamber (g 0 12 0) x1 x2 T post) h (g_chamber (x1 := x1) (x2 := x2) h.2.2.2) (fun _ _ _ e z => m_X11_chamber (G_m h) e (fun T R q => z T ⟨R.1, R.2.1, R.2.2.1⟩ q)) (fun _ _ _ _ R e z => ⟨h1, h2, b_X12_chamber R e z⟩) kk
set_option maxHeartbeats 200000 in
theorem k_berth (h1 : C1) (h2 : C2) (h : LI g S) (kk : ∀ T, LI g T → kp_le S T → P T) : wX11_berth (g 0 11 0) x1 x2 S (fun y T => C1 ∧ C2 ∧ wX12_berth (g 0 12 0) x1 x2 T (fun y' T2 => (y = y' → P T2) ∧ (¬ y = y' → False))) :=
  li_two (f := fX11_berth x1 x2) (r := fX12_berth x1 x2) (w1 := fun S post => wX11_berth (g 0 11 0) x1 x2 S post) (w2 := fun T post => C1 ∧ C2 ∧ wX12_berth (g 0 12 0) x1 x2 T post) h (g_berth (x1 := x1) (x2 := x2) h.2.2.2) (fun _ _ _ e z => m_X11_berth (G_m h) e (fun T R q => z T ⟨R.1, R.2.1, R.2.2.1⟩ q)) (fun _ _ _ _ R e z => ⟨h1, h2, b_X12_berth R e z⟩) kk
set_option maxHeartbeats 200000 in
theorem k_told (h1 : C1) (h : LI g S) (kk : ∀ T, LI g T → kp_le S T → P T) : wX11_told (g 0 11 0) x1 S (fun y T => C1 ∧ wX12_told (g 0 12 0) x1 T (fun y' T2 => (y = y' → P T2) ∧ (¬ y = y' → False))) :=
  li_two (f := fX11_told x1) (r := fX12_told x1) (w1 := fun S post => wX11_told (g 0 11 0) x1 S post) (w2 := fun T post => C1 ∧ wX12_told (g 0 12 0) x1 T post) h (g_told (x := x1) h.2.2.2) (fun _ _ _ e z => m_X11_told (G_m h) e (fun T R q => z T ⟨R.1, R.2.1, R.2.2.1⟩ q)) (fun _ _ _ _ R e z => ⟨h1, b_X12_told R e z⟩) kk
set_option maxHeartbeats 200000 in
theorem k_log (h1 : C1) (h2 : C2) (h : LI g S) (kk : ∀ T, LI g T → kp_le S T → P T) : wX11_log (g 0 11 0) x1 x2 S (fun y T => C1 ∧ C2 ∧ wX12_log (g 0 12 0) x1 x2 T (fun y' T2 => (y = y' → P T2) ∧ (¬ y = y' → False))) :=
  li_two (f := fX11_log x1 x2) (r := fX12_log x1 x2) (w1 := fun S post => wX11_log (g 0 11 0) x1 x2 S post) (w2 := fun T post => C1 ∧ C2 ∧ wX12_log (g 0 12 0) x1 x2 T post) h (g_log (x1 := x1) (x2 := x2) h.2.2.2) (fun _ _ _ e z => m_X11_log (G_m h) e (fun T R q => z T ⟨R.1, R.2.1, R.2.2.1⟩ q)) (fun _ _ _ _ R e z => ⟨h1, h2, b_X12_log R e z⟩) kk
set_option maxHeartbeats 200000 in
theorem k_look (h1 : C1) (h2 : C2) (h : LI g S) (kk : ∀ T, LI g T → kp_le S T → P T) : wX11_look (g 0 11 0) x1 x2 S (fun y T => C1 ∧ C2 ∧ wX12_look (g 0 12 0) x1 x2 T (fun y' T2 => (y = y' → P T2) ∧ (¬ y = y' → False))) :=
  li_two (f := fX11_look x1 x2) (r := fX12_look x1 x2) (w1 := fun S post => wX11_look (g 0 11 0) x1 x2 S post) (w2 := fun T post => C1 ∧ C2 ∧ wX12_look (g 0 12 0) x1 x2 T post) h (g_look (x1 := x1) (x2 := x2) h.2.2.2) (fun _ _ _ e z => m_X11_look (G_m h) e (fun T R q => z T ⟨R.1, R.2.1, R.2.2.1⟩ q)) (fun _ _ _ _ R e z => ⟨h1, h2, b_X12_look R e z⟩) kk
end
