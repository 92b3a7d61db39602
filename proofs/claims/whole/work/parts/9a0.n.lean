theorem ni_toInt {n : Nat} (h : n < 2147483648) : (nI n).toInt = n := by
  unfold nI; rw [Int32.toInt_ofNat_of_lt h]
theorem ni_lt {a b : Nat} (ha : a < 2147483648) (hb : b < 2147483648) : (nI a < nI b) = (a < b) := by
  rw [Int32.lt_iff_toInt_lt, ni_toInt ha, ni_toInt hb]; simp
theorem ni_le {a b : Nat} (ha : a < 2147483648) (hb : b < 2147483648) : (nI a ≤ nI b) = (a ≤ b) := by
  rw [Int32.le_iff_toInt_le, ni_toInt ha, ni_toInt hb]; simp
theorem ni_eq {a b : Nat} (ha : a < 2147483648) (hb : b < 2147483648) : (nI a = nI b) = (a = b) := by
  apply propext; constructor
  · intro h
    have := congrArg Int32.toInt h
    rw [ni_toInt ha, ni_toInt hb] at this; exact Int.ofNat.inj this
  · intro h; rw [h]
theorem ni_add {a b : Nat} : nI a + nI b = nI (a + b) := (Int32.ofNat_add a b).symm
theorem ni_add1 {a : Nat} : nI a + 1 = nI (a + 1) := (Int32.ofNat_add a 1).symm
theorem ni_clamp {a : Nat} (h : a < 2147483648) : (nI a).toNatClampNeg = a := by
  unfold Int32.toNatClampNeg; rw [ni_toInt h]; rfl
theorem ni_sub {a b : Nat} (h : b ≤ a) : nI a - nI b = nI (a - b) := by
  have e : nI a = nI (a - b) + nI b := by rw [ni_add]; congr 1; omega
  rw [e, Int32.add_sub_cancel]
theorem ni_neg {a : Nat} (ha : a < 2147483648) : (nI a < 0) = False := by
  rw [show (0 : Int32) = nI 0 from rfl, ni_lt ha (by decide)]; simp
theorem ni_in {a L : Nat} (h : a < L) (hL : L < 2147483648) : (nI a < 0 ∨ L ≤ (nI a).toNatClampNeg) = False := by
  rw [ni_neg (Nat.lt_trans h hL), ni_clamp (Nat.lt_trans h hL)]; simp; omega
theorem ni_lef {a L : Nat} (h : a < L) : (L ≤ a) = False := eq_false (by omega)
theorem ni_of {y : Int32} (h : ¬ y < 0) : nI y.toNatClampNeg = y := by
  unfold nI Int32.toNatClampNeg
  apply Int32.toInt_inj.1
  rw [Int32.lt_iff_toInt_lt] at h
  have h3 : (0 : Int32).toInt = 0 := rfl
  have h4 := Int32.toInt_lt y
  rw [Int32.toInt_ofNat_of_lt (by omega)]
  omega
theorem ni_ex {y : Int32} (h : ¬ y < 0) : ∃ n, n < 2147483648 ∧ y = nI n := ⟨y.toNatClampNeg, by
  have h4 := Int32.toInt_lt y
  unfold Int32.toNatClampNeg; omega, (ni_of h).symm⟩
theorem ni_pred {a : Nat} : nI (a + 1) - 1 = nI a := by rw [show (1 : Int32) = nI 1 from rfl, ni_sub (by omega)]; rfl
theorem ni_e0 {a : Nat} (h : a < 2147483647) : (nI (a + 1) = 0) = False := by
  rw [show (0 : Int32) = nI 0 from rfl, ni_eq (by omega) (by omega)]; simp
theorem ni_div {a b : Nat} (ha : a < 2147483648) (hb : b < 2147483648) : nI a / nI b = nI (a / b) := by
  apply Int32.toInt_inj.1
  have h1 : a / b ≤ a := Nat.div_le_self a b
  rw [Int32.toInt_div, ni_toInt ha, ni_toInt hb, ni_toInt (by omega)]
  rw [show Int.tdiv (a : Int) (b : Int) = ((a / b : Nat) : Int) from rfl]
  generalize a / b = c at *
  rw [Int.bmod_eq_of_le (by omega) (by omega)]
theorem ni_dm1 (x : Int32) : x / (-1) = -x := by
  apply Int32.toInt_inj.1
  rw [Int32.toInt_div, show (-1 : Int32).toInt = -1 from rfl, Int32.toInt_neg, Int.tdiv_neg, Int.tdiv_one]
theorem ni_rm1 (x : Int32) : x - x / (-1) * (-1) = 0 := by
  rw [ni_dm1]
  rw [Int32.neg_mul_neg, Int32.mul_one, Int32.sub_self]
