def cl_12_ix : List Nat := [1817, 1819, 1821, 1823, 1825, 1827, 1829, 1831, 1833, 1835, 1837, 1839, 1841, 1843, 1845, 1847, 1849, 1851, 1853, 1855, 1857, 1859, 1861, 1863, 1865, 1867, 1869, 1871, 1873, 1875, 1877, 1879, 1881, 1883, 1885, 1887, 1889, 1891, 1893, 1895, 1897, 1899, 1901, 1903, 1905, 1907, 1909, 1911, 1913, 1915, 1917, 1919, 1921, 1923, 1925, 1927, 1929, 1931, 1933, 1935, 1937, 1939, 1941, 1943, 1945, 1947, 1949, 1951, 1953, 1955, 1957, 1959, 1961, 1963, 1965, 1967, 1969, 1971, 1973, 1975, 1977, 1979, 1981, 1983, 1985, 1987, 1989, 1991, 1993, 1995, 1997, 1999, 2001, 2003, 2005, 2007, 2009, 2011, 2013, 2015, 2017, 2019, 2021, 2023, 2025, 2027, 2029, 2031, 2033, 2035, 2037, 2039, 2041, 2043, 2045, 2047, 2049, 2051, 2053, 2055, 2057, 2059, 2061, 2063, 2065]
theorem cl_12_0 : ∀ k, k < 5 → (lw_tbl[cl_12_ix.getD (0 + k) 0]? = some (u_lay RX12 TX12 (0 + k)) ∧ goodWord (u_lay RX12 TX12 (0 + k)) = true) := by decide +kernel
theorem cl_12_5 : ∀ k, k < 5 → (lw_tbl[cl_12_ix.getD (5 + k) 0]? = some (u_lay RX12 TX12 (5 + k)) ∧ goodWord (u_lay RX12 TX12 (5 + k)) = true) := by decide +kernel
theorem cl_12_10 : ∀ k, k < 5 → (lw_tbl[cl_12_ix.getD (10 + k) 0]? = some (u_lay RX12 TX12 (10 + k)) ∧ goodWord (u_lay RX12 TX12 (10 + k)) = true) := by decide +kernel
theorem cl_12_15 : ∀ k, k < 5 → (lw_tbl[cl_12_ix.getD (15 + k) 0]? = some (u_lay RX12 TX12 (15 + k)) ∧ goodWord (u_lay RX12 TX12 (15 + k)) = true) := by decide +kernel
theorem cl_12_20 : ∀ k, k < 5 → (lw_tbl[cl_12_ix.getD (20 + k) 0]? = some (u_lay RX12 TX12 (20 + k)) ∧ goodWord (u_lay RX12 TX12 (20 + k)) = true) := by decide +kernel
theorem cl_12_25 : ∀ k, k < 5 → (lw_tbl[cl_12_ix.getD (25 + k) 0]? = some (u_lay RX12 TX12 (25 + k)) ∧ goodWord (u_lay RX12 TX12 (25 + k)) = true) := by decide +kernel
theorem cl_12_30 : ∀ k, k < 5 → (lw_tbl[cl_12_ix.getD (30 + k) 0]? = some (u_lay RX12 TX12 (30 + k)) ∧ goodWord (u_lay RX12 TX12 (30 + k)) = true) := by decide +kernel
theorem cl_12_35 : ∀ k, k < 5 → (lw_tbl[cl_12_ix.getD (35 + k) 0]? = some (u_lay RX12 TX12 (35 + k)) ∧ goodWord (u_lay RX12 TX12 (35 + k)) = true) := by decide +kernel
theorem cl_12_40 : ∀ k, k < 5 → (lw_tbl[cl_12_ix.getD (40 + k) 0]? = some (u_lay RX12 TX12 (40 + k)) ∧ goodWord (u_lay RX12 TX12 (40 + k)) = true) := by decide +kernel
theorem cl_12_45 : ∀ k, k < 5 → (lw_tbl[cl_12_ix.getD (45 + k) 0]? = some (u_lay RX12 TX12 (45 + k)) ∧ goodWord (u_lay RX12 TX12 (45 + k)) = true) := by decide +kernel
theorem cl_12_50 : ∀ k, k < 5 → (lw_tbl[cl_12_ix.getD (50 + k) 0]? = some (u_lay RX12 TX12 (50 + k)) ∧ goodWord (u_lay RX12 TX12 (50 + k)) = true) := by decide +kernel
theorem cl_12_55 : ∀ k, k < 5 → (lw_tbl[cl_12_ix.getD (55 + k) 0]? = some (u_lay RX12 TX12 (55 + k)) ∧ goodWord (u_lay RX12 TX12 (55 + k)) = true) := by decide +kernel
theorem cl_12_60 : ∀ k, k < 5 → (lw_tbl[cl_12_ix.getD (60 + k) 0]? = some (u_lay RX12 TX12 (60 + k)) ∧ goodWord (u_lay RX12 TX12 (60 + k)) = true) := by decide +kernel
theorem cl_12_65 : ∀ k, k < 5 → (lw_tbl[cl_12_ix.getD (65 + k) 0]? = some (u_lay RX12 TX12 (65 + k)) ∧ goodWord (u_lay RX12 TX12 (65 + k)) = true) := by decide +kernel
theorem cl_12_70 : ∀ k, k < 5 → (lw_tbl[cl_12_ix.getD (70 + k) 0]? = some (u_lay RX12 TX12 (70 + k)) ∧ goodWord (u_lay RX12 TX12 (70 + k)) = true) := by decide +kernel
theorem cl_12_75 : ∀ k, k < 5 → (lw_tbl[cl_12_ix.getD (75 + k) 0]? = some (u_lay RX12 TX12 (75 + k)) ∧ goodWord (u_lay RX12 TX12 (75 + k)) = true) := by decide +kernel
theorem cl_12_80 : ∀ k, k < 5 → (lw_tbl[cl_12_ix.getD (80 + k) 0]? = some (u_lay RX12 TX12 (80 + k)) ∧ goodWord (u_lay RX12 TX12 (80 + k)) = true) := by decide +kernel
theorem cl_12_85 : ∀ k, k < 5 → (lw_tbl[cl_12_ix.getD (85 + k) 0]? = some (u_lay RX12 TX12 (85 + k)) ∧ goodWord (u_lay RX12 TX12 (85 + k)) = true) := by decide +kernel
theorem cl_12_90 : ∀ k, k < 5 → (lw_tbl[cl_12_ix.getD (90 + k) 0]? = some (u_lay RX12 TX12 (90 + k)) ∧ goodWord (u_lay RX12 TX12 (90 + k)) = true) := by decide +kernel
theorem cl_12_95 : ∀ k, k < 5 → (lw_tbl[cl_12_ix.getD (95 + k) 0]? = some (u_lay RX12 TX12 (95 + k)) ∧ goodWord (u_lay RX12 TX12 (95 + k)) = true) := by decide +kernel
theorem cl_12_100 : ∀ k, k < 5 → (lw_tbl[cl_12_ix.getD (100 + k) 0]? = some (u_lay RX12 TX12 (100 + k)) ∧ goodWord (u_lay RX12 TX12 (100 + k)) = true) := by decide +kernel
theorem cl_12_105 : ∀ k, k < 5 → (lw_tbl[cl_12_ix.getD (105 + k) 0]? = some (u_lay RX12 TX12 (105 + k)) ∧ goodWord (u_lay RX12 TX12 (105 + k)) = true) := by decide +kernel
theorem cl_12_110 : ∀ k, k < 5 → (lw_tbl[cl_12_ix.getD (110 + k) 0]? = some (u_lay RX12 TX12 (110 + k)) ∧ goodWord (u_lay RX12 TX12 (110 + k)) = true) := by decide +kernel
theorem cl_12_115 : ∀ k, k < 5 → (lw_tbl[cl_12_ix.getD (115 + k) 0]? = some (u_lay RX12 TX12 (115 + k)) ∧ goodWord (u_lay RX12 TX12 (115 + k)) = true) := by decide +kernel
theorem cl_12_120 : ∀ k, k < 5 → (lw_tbl[cl_12_ix.getD (120 + k) 0]? = some (u_lay RX12 TX12 (120 + k)) ∧ goodWord (u_lay RX12 TX12 (120 + k)) = true) := by decide +kernel
theorem cl_12_all : ∀ k, k < 125 → (lw_tbl[cl_12_ix.getD k 0]? = some (u_lay RX12 TX12 k) ∧ goodWord (u_lay RX12 TX12 k) = true) := by
  intro k hk
  by_cases h0 : k < 5
  · have := cl_12_0 (k - 0) (by omega); rwa [show 0 + (k - 0) = k by omega] at this
  by_cases h5 : k < 10
  · have := cl_12_5 (k - 5) (by omega); rwa [show 5 + (k - 5) = k by omega] at this
  by_cases h10 : k < 15
  · have := cl_12_10 (k - 10) (by omega); rwa [show 10 + (k - 10) = k by omega] at this
  by_cases h15 : k < 20
  · have := cl_12_15 (k - 15) (by omega); rwa [show 15 + (k - 15) = k by omega] at this
  by_cases h20 : k < 25
  · have := cl_12_20 (k - 20) (by omega); rwa [show 20 + (k - 20) = k by omega] at this
  by_cases h25 : k < 30
  · have := cl_12_25 (k - 25) (by omega); rwa [show 25 + (k - 25) = k by omega] at this
  by_cases h30 : k < 35
  · have := cl_12_30 (k - 30) (by omega); rwa [show 30 + (k - 30) = k by omega] at this
  by_cases h35 : k < 40
  · have := cl_12_35 (k - 35) (by omega); rwa [show 35 + (k - 35) = k by omega] at this
  by_cases h40 : k < 45
  · have := cl_12_40 (k - 40) (by omega); rwa [show 40 + (k - 40) = k by omega] at this
  by_cases h45 : k < 50
  · have := cl_12_45 (k - 45) (by omega); rwa [show 45 + (k - 45) = k by omega] at this
  by_cases h50 : k < 55
  · have := cl_12_50 (k - 50) (by omega); rwa [show 50 + (k - 50) = k by omega] at this
  by_cases h55 : k < 60
  · have := cl_12_55 (k - 55) (by omega); rwa [show 55 + (k - 55) = k by omega] at this
  by_cases h60 : k < 65
  · have := cl_12_60 (k - 60) (by omega); rwa [show 60 + (k - 60) = k by omega] at this
  by_cases h65 : k < 70
  · have := cl_12_65 (k - 65) (by omega); rwa [show 65 + (k - 65) = k by omega] at this
  by_cases h70 : k < 75
  · have := cl_12_70 (k - 70) (by omega); rwa [show 70 + (k - 70) = k by omega] at this
  by_cases h75 : k < 80
  · have := cl_12_75 (k - 75) (by omega); rwa [show 75 + (k - 75) = k by omega] at this
  by_cases h80 : k < 85
  · have := cl_12_80 (k - 80) (by omega); rwa [show 80 + (k - 80) = k by omega] at this
  by_cases h85 : k < 90
  · have := cl_12_85 (k - 85) (by omega); rwa [show 85 + (k - 85) = k by omega] at this
  by_cases h90 : k < 95
  · have := cl_12_90 (k - 90) (by omega); rwa [show 90 + (k - 90) = k by omega] at this
  by_cases h95 : k < 100
  · have := cl_12_95 (k - 95) (by omega); rwa [show 95 + (k - 95) = k by omega] at this
  by_cases h100 : k < 105
  · have := cl_12_100 (k - 100) (by omega); rwa [show 100 + (k - 100) = k by omega] at this
  by_cases h105 : k < 110
  · have := cl_12_105 (k - 105) (by omega); rwa [show 105 + (k - 105) = k by omega] at this
  by_cases h110 : k < 115
  · have := cl_12_110 (k - 110) (by omega); rwa [show 110 + (k - 110) = k by omega] at this
  by_cases h115 : k < 120
  · have := cl_12_115 (k - 115) (by omega); rwa [show 115 + (k - 115) = k by omega] at this
  have := cl_12_120 (k - 120) (by omega)
  rwa [show 120 + (k - 120) = k by omega] at this
theorem cl_12 : kp_CL 12 RX12 TX12 125 := ⟨rfl, by decide, rfl, kp_lay cl_12_ix cl_12_all, tyX12_ok, nmX12⟩
