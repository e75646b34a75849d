/-! numbers: what an instruction's answer is as an integer -/
theorem zi_lt {x y : Int32} (h : x < y) : x.toInt < y.toInt := Int32.lt_iff_toInt_lt.mp h
theorem zi_nlt {x y : Int32} (h : ¬ x < y) : y.toInt ≤ x.toInt := Int.not_lt.mp (fun q => h (Int32.lt_iff_toInt_lt.mpr q))
theorem zi_le {x y : Int32} (h : x ≤ y) : x.toInt ≤ y.toInt := Int32.le_iff_toInt_le.mp h
theorem zi_nle {x y : Int32} (h : ¬ x ≤ y) : y.toInt < x.toInt := Int.not_le.mp (fun q => h (Int32.le_iff_toInt_le.mpr q))
theorem zi_eq {x y : Int32} (h : x = y) : x.toInt = y.toInt := congrArg Int32.toInt h
theorem zi_ne {x y : Int32} (h : ¬ x = y) : ¬ x.toInt = y.toInt := fun q => h (Int32.toInt_inj.mp q)
theorem zi_0 : (0 : Int32).toInt = 0 := by decide
theorem zi_lt0 {x : Int32} (h : x < 0) : x.toInt < 0 := zi_0 ▸ zi_lt h
theorem zi_nlt0 {x : Int32} (h : ¬ x < 0) : 0 ≤ x.toInt := zi_0 ▸ zi_nlt h
theorem zi_ge0 {x : Int32} (h : 0 ≤ x) : 0 ≤ x.toInt := zi_0 ▸ zi_le h
theorem zi_nge0 {x : Int32} (h : ¬ 0 ≤ x) : x.toInt < 0 := zi_0 ▸ zi_nle h
theorem zi_gt0 {x : Int32} (h : 0 < x) : 0 < x.toInt := zi_0 ▸ zi_lt h
theorem zi_ngt0 {x : Int32} (h : ¬ 0 < x) : x.toInt ≤ 0 := zi_0 ▸ zi_nlt h
theorem zi_le0 {x : Int32} (h : x ≤ 0) : x.toInt ≤ 0 := zi_0 ▸ zi_le h
theorem zi_nle0 {x : Int32} (h : ¬ x ≤ 0) : 0 < x.toInt := zi_0 ▸ zi_nle h
theorem zi_eq0 {x : Int32} (h : x = 0) : x.toInt = 0 := zi_0 ▸ zi_eq h
theorem zi_ne0 {x : Int32} (h : ¬ x = 0) : ¬ x.toInt = 0 := zi_0 ▸ zi_ne h
theorem zi_c {v k : Int32} {z : Int} (e : v = k) (h : k.toInt = z) : v.toInt = z := by rw [e]; exact h
theorem zi_rg (x : Int32) : -2147483648 ≤ x.toInt ∧ x.toInt ≤ 2147483647 := by
  have h1 := Int32.le_toInt x
  have h2 := Int32.toInt_lt x
  omega
theorem zi_add {v x y : Int32} (e : v = x + y) (h : -2147483648 ≤ x.toInt + y.toInt ∧ x.toInt + y.toInt ≤ 2147483647) : v.toInt = x.toInt + y.toInt := by
  rw [e, Int32.toInt_add]
  exact Int.bmod_eq_of_le (by omega) (by omega)
theorem zi_sub {v x y : Int32} (e : v = x - y) (h : -2147483648 ≤ x.toInt - y.toInt ∧ x.toInt - y.toInt ≤ 2147483647) : v.toInt = x.toInt - y.toInt := by
  rw [e, Int32.toInt_sub]
  exact Int.bmod_eq_of_le (by omega) (by omega)
theorem zi_mul {v x y : Int32} {k : Int} (e : v = x * y) (hk : y.toInt = k) (h : -2147483648 ≤ x.toInt * k ∧ x.toInt * k ≤ 2147483647) : v.toInt = x.toInt * k := by
  rw [e, Int32.toInt_mul, hk]
  exact Int.bmod_eq_of_le (by omega) (by omega)
theorem zi_mulL {v x y : Int32} {k : Int} (e : v = x * y) (hk : x.toInt = k) (h : -2147483648 ≤ k * y.toInt ∧ k * y.toInt ≤ 2147483647) : v.toInt = k * y.toInt := by
  rw [e, Int32.toInt_mul, hk]
  exact Int.bmod_eq_of_le (by omega) (by omega)
theorem zi_div {v x y : Int32} {k : Int} (e : v = x / y) (hk : y.toInt = k) (h : 0 ≤ x.toInt ∧ 0 < k) : v.toInt = x.toInt / k := by
  rw [e, lg_idiv_nonneg h.1 (by rw [hk]; exact h.2), hk]
theorem zi_rem {v x y : Int32} {k : Int} (e : v = x - x / y * y) (hk : y.toInt = k) (h : 0 ≤ x.toInt ∧ 0 < k) : v.toInt = x.toInt % k := by
  have h1 : (x / y).toInt = x.toInt / k := zi_div rfl hk h
  have hx := zi_rg x
  have hp := Int.mul_ediv_add_emod x.toInt k
  have hm := Int.emod_nonneg x.toInt (b := k) (by omega)
  have hq : 0 ≤ x.toInt / k := Int.ediv_nonneg h.1 (by omega)
  have hq2 : 0 ≤ k * (x.toInt / k) := Int.mul_nonneg (by omega) hq
  have h2 : (x / y * y).toInt = k * (x.toInt / k) := by
    rw [Int32.toInt_mul, h1, hk, Int.mul_comm]
    exact Int.bmod_eq_of_le (by omega) (by omega)
  rw [e, Int32.toInt_sub, h2]
  rw [Int.bmod_eq_of_le (by omega) (by omega)]
  omega
theorem zi_and {v x y m : Int32} (e : v = x &&& y) (ey : y = m) (k : Nat) {z : Int} (hm : m.toBitVec.toNat = 2 ^ k - 1) (hk : k ≤ 30) (hz : ((2 ^ k : Nat) : Int) = z) : 0 ≤ v.toInt ∧ v.toInt < z := by
  obtain ⟨j, hj, e2⟩ := pk_andE x k (m := m) hm
  have hp : 2 ^ k ≤ 2 ^ 30 := Nat.pow_le_pow_right (by decide) hk
  rw [e, ey, e2, nI_toInt (Nat.lt_of_lt_of_le hj (Nat.le_trans hp (by decide)))]
  rw [← hz]
  omega
theorem zi_in {x : Int32} {n : Nat} (h : 0 ≤ x.toInt ∧ x.toInt < n) : vp_in x n := vp_in_iff.mpr h
theorem zi_ne0' {x : Int32} {z : Int} (h : x.toInt = z) (hz : z ≠ 0) : ¬ x = 0 := fun e => hz (by rw [← h, e]; decide)
theorem zi_inc {v x : Int32} (k : Int32) {z : Int} (hk : k.toInt = z) (e : v = x + k) (h : -2147483648 ≤ x.toInt + z ∧ x.toInt + z ≤ 2147483647) : v.toInt = x.toInt + z := by
  rw [← hk] at h ⊢
  exact zi_add e h
theorem zi_min {v x y : Int32} (e : v = if y < x then y else x) : (v.toInt = x.toInt ∨ v.toInt = y.toInt) ∧ v.toInt ≤ x.toInt ∧ v.toInt ≤ y.toInt := by
  by_cases h : y < x
  · rw [if_pos h] at e
    have := zi_lt h
    subst e
    omega
  · rw [if_neg h] at e
    have := zi_nlt h
    subst e
    omega
theorem zb_01 {x : Int32} (h : 0 ≤ x.toInt ∧ x.toInt ≤ 1) : x = 0 ∨ x = 1 := by
  rcases (show x.toInt = 0 ∨ x.toInt = 1 by omega) with q | q
  · exact Or.inl (Int32.toInt_inj.mp (q.trans (by decide)))
  · exact Or.inr (Int32.toInt_inj.mp (q.trans (by decide)))
theorem zb_n {x : Int32} (h : 0 ≤ x.toInt ∧ x.toInt ≤ 1) : narrow .boolean (.int x) = .int x := by
  rcases zb_01 h with rfl | rfl <;> rfl
theorem zb_f {x : Int32} (h : 0 ≤ x.toInt ∧ x.toInt ≤ 1) : fits .boolean (.int x) = true := by
  rcases zb_01 h with rfl | rfl <;> rfl
theorem zi_xor {v x y : Int32} (e : v = x ^^^ y) (h : 0 ≤ x.toInt ∧ 0 ≤ y.toInt) : 0 ≤ v.toInt := by
  obtain ⟨i, hi, rfl⟩ := nI_of (x := x) (by rw [Int32.lt_iff_toInt_lt, zi_0]; omega)
  obtain ⟨j, hj, rfl⟩ := nI_of (x := y) (by rw [Int32.lt_iff_toInt_lt, zi_0]; omega)
  have e2 : nI i ^^^ nI j = nI (i ^^^ j) := by
    apply Int32.toBitVec_inj.mp
    apply BitVec.eq_of_toNat_eq
    show ((BitVec.ofNat 32 i) ^^^ (BitVec.ofNat 32 j)).toNat = (BitVec.ofNat 32 (i ^^^ j)).toNat
    rw [BitVec.toNat_xor, BitVec.toNat_ofNat, BitVec.toNat_ofNat, BitVec.toNat_ofNat, Nat.mod_eq_of_lt (by omega), Nat.mod_eq_of_lt (by omega), Nat.mod_eq_of_lt (Nat.lt_trans (Nat.xor_lt_two_pow hi hj) (by decide))]
  rw [e, e2, nI_toInt (Nat.xor_lt_two_pow hi hj)]
  omega
theorem zi_pne {y : Int32} (h : 0 < y.toInt) : ¬ y = 0 := fun e => by rw [e, zi_0] at h; omega
theorem zi_remv {v x y : Int32} (e : v = x - x / y * y) (h : 0 ≤ x.toInt) (hy : 0 < y.toInt) : (0 ≤ v.toInt ∧ v.toInt < y.toInt) ∧ v.toInt = x.toInt % y.toInt := by
  have h1 := zi_rem e (k := y.toInt) rfl ⟨h, hy⟩
  rw [h1]
  exact ⟨⟨Int.emod_nonneg _ (by omega), Int.emod_lt_of_pos _ hy⟩, rfl⟩
