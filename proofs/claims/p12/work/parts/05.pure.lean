/-! bits: of an int (bt), of a long (bl); a bit as an int (bi) -/
def bt (x : Int32) (i : Nat) : Bool := x.toBitVec.getLsbD i
def bl (x : Int64) (i : Nat) : Bool := x.toBitVec.getLsbD i
def bi (x : Bool) : Int32 := if x then 1 else 0
theorem bt_ext {x y : Int32} (h : ∀ i, i < 32 → bt x i = bt y i) : x = y := Int32.toBitVec_inj.mp (BitVec.eq_of_getLsbD_eq (fun i hi => h i hi))
theorem bl_ext {x y : Int64} (h : ∀ i, i < 64 → bl x i = bl y i) : x = y := Int64.toBitVec_inj.mp (BitVec.eq_of_getLsbD_eq (fun i hi => h i hi))
theorem bt_or (x y : Int32) (i : Nat) : bt (x ||| y) i = (bt x i || bt y i) := by unfold bt; rw [Int32.toBitVec_or, BitVec.getLsbD_or]
theorem bt_and (x y : Int32) (i : Nat) : bt (x &&& y) i = (bt x i && bt y i) := by unfold bt; rw [Int32.toBitVec_and, BitVec.getLsbD_and]
theorem bt_xor (x y : Int32) (i : Nat) : bt (x ^^^ y) i = (bt x i ^^ bt y i) := by unfold bt; rw [Int32.toBitVec_xor, BitVec.getLsbD_xor]
theorem bl_or (x y : Int64) (i : Nat) : bl (x ||| y) i = (bl x i || bl y i) := by unfold bl; rw [Int64.toBitVec_or, BitVec.getLsbD_or]
theorem bl_and (x y : Int64) (i : Nat) : bl (x &&& y) i = (bl x i && bl y i) := by unfold bl; rw [Int64.toBitVec_and, BitVec.getLsbD_and]
theorem bl_xor (x y : Int64) (i : Nat) : bl (x ^^^ y) i = (bl x i ^^ bl y i) := by unfold bl; rw [Int64.toBitVec_xor, BitVec.getLsbD_xor]
theorem bt_big {x : Int32} {i : Nat} (h : 32 ≤ i) : bt x i = false := BitVec.getLsbD_of_ge _ _ h
theorem bl_big {x : Int64} {i : Nat} (h : 64 ≤ i) : bl x i = false := BitVec.getLsbD_of_ge _ _ h
theorem bt_0 (i : Nat) : bt 0 i = false := BitVec.getLsbD_zero
theorem bl_0 (i : Nat) : bl 0 i = false := BitVec.getLsbD_zero
theorem bl_m1 : ∀ i, i < 64 → bl (-1) i = true := by decide +kernel
theorem bt_1 : ∀ i, i < 32 → bt 1 i = decide (i = 0) := by decide +kernel
theorem bl_1 : ∀ i, i < 64 → bl 1 i = decide (i = 0) := by decide +kernel
theorem bl_mask : ∀ i, i < 64 → bl 288230376151711743 i = decide (i < 58) := by decide +kernel
theorem bt_bi (b : Bool) (i : Nat) : bt (bi b) i = (b && decide (i = 0)) := by
  rcases Nat.lt_or_ge i 32 with h | h
  · cases b
    · show bt 0 i = _
      rw [bt_0]; rfl
    · show bt 1 i = _
      rw [bt_1 i h]; simp
  · rw [bt_big h]
    cases b
    · rfl
    · simp; omega
theorem bi_t0 (b : Bool) : bt (bi b) 0 = b := by rw [bt_bi]; simp
theorem bi_inj {a b : Bool} (h : bi a = bi b) : a = b := by rw [← bi_t0 a, h, bi_t0]
theorem bi_01 (b : Bool) : 0 ≤ (bi b).toInt ∧ (bi b).toInt ≤ 1 := by cases b <;> decide
theorem bi_of {x : Int32} (h : 0 ≤ x.toInt ∧ x.toInt ≤ 1) : x = bi (bt x 0) := by
  rcases zb_01 h with rfl | rfl <;> rfl
theorem and1 (x : Int32) : x &&& 1 = bi (bt x 0) := by
  apply bt_ext
  intro i hi
  rw [bt_and, bt_1 i hi, bt_bi]
  by_cases h : i = 0
  · subst h; simp
  · simp [h]
theorem bi_xor (a b : Bool) : bi a ^^^ bi b = bi (a ^^ b) := by cases a <;> cases b <;> rfl
theorem bi_not (a : Bool) : (1 : Int32) - bi a = bi (!a) := by cases a <;> rfl
theorem bi_byte (a : Bool) : vp_nar .byte (bi a).toInt8.toInt32 = bi a := by cases a <;> rfl
theorem bi_byte' (a : Bool) : vp_nar .byte (bi a) = bi a := by cases a <;> rfl
theorem bi_b (a : Bool) : (bi a).toInt8.toInt32 = bi a := by cases a <;> rfl
theorem sh_of {y : Int32} {k : Nat} (hy : y.toInt = k) (hk : k < 64) : y = nI k := Int32.toInt_inj.mp (hy.trans (nI_toInt (by omega)).symm)
theorem sh_c : ∀ k, k < 64 → ((nI k).toInt64 &&& 63) = lN k := by decide +kernel
theorem sh_cu : ∀ k, k < 64 → ((nI k).toInt64.toUInt64 &&& Int64.toUInt64 63) = UInt64.ofNat k := by decide +kernel
theorem sh_m : ∀ k, k < 64 → ((lN k).toBitVec.smod 64).toNat = k := by decide +kernel
theorem sh_mu : ∀ k, k < 64 → ((UInt64.ofNat k).toBitVec % 64).toNat = k := by decide +kernel
theorem bl_shl {x : Int64} {y : Int32} {k i : Nat} (hy : y.toInt = k) (hk : k < 64) (hi : i < 64) : bl (x <<< (y.toInt64 &&& 63)) i = (decide (k ≤ i) && bl x (i - k)) := by
  rw [sh_of hy hk, sh_c k hk]
  unfold bl
  rw [Int64.toBitVec_shiftLeft]
  show (x.toBitVec <<< ((lN k).toBitVec.smod 64).toNat).getLsbD i = _
  rw [sh_m k hk, BitVec.getLsbD_shiftLeft]
  rcases Nat.lt_or_ge i k with h | h
  · simp [h, Nat.not_le.mpr h]
  · simp [hi, h, Nat.not_lt.mpr h]
theorem bl_ushr {x : Int64} {y : Int32} {k i : Nat} (hy : y.toInt = k) (hk : k < 64) : bl ((x.toUInt64 >>> (y.toInt64.toUInt64 &&& Int64.toUInt64 63)).toInt64) i = bl x (k + i) := by
  rw [sh_of hy hk, sh_cu k hk]
  show (x.toUInt64 >>> UInt64.ofNat k).toBitVec.getLsbD i = x.toUInt64.toBitVec.getLsbD (k + i)
  rw [UInt64.toBitVec_shiftRight]
  show (x.toUInt64.toBitVec >>> ((UInt64.ofNat k).toBitVec % 64).toNat).getLsbD i = _
  rw [sh_mu k hk, BitVec.getLsbD_ushiftRight]
theorem bl_sshr {x : Int64} {y : Int32} {k i : Nat} (hy : y.toInt = k) (hk : k < 64) (hi : k + i < 64) : bl (x >>> (y.toInt64 &&& 63)) i = bl x (k + i) := by
  rw [sh_of hy hk, sh_c k hk]
  unfold bl
  rw [Int64.toBitVec_shiftRight]
  show (x.toBitVec.sshiftRight ((lN k).toBitVec.smod 64).toNat).getLsbD i = _
  rw [sh_m k hk, BitVec.getLsbD_sshiftRight]
  simp [hi, show i < 64 by omega]
theorem bt_l2i (x : Int64) {i : Nat} (hi : i < 32) : bt x.toInt32 i = bl x i := by
  unfold bt bl
  rw [Int64.toBitVec_toInt32, BitVec.getLsbD_signExtend]
  simp [hi, show i < 64 by omega]
theorem bl_i2l (x : Int32) {i : Nat} (hi : i < 64) : bl x.toInt64 i = if i < 32 then bt x i else bt x 31 := by
  unfold bt bl
  rw [Int32.toBitVec_toInt64, BitVec.getLsbD_signExtend, BitVec.msb_eq_getLsbD_last]
  simp [hi]
theorem bl_bi (b : Bool) {i : Nat} (hi : i < 64) : bl (bi b).toInt64 i = (b && decide (i = 0)) := by
  rw [bl_i2l _ hi]
  by_cases h : i < 32
  · rw [if_pos h, bt_bi]
  · rw [if_neg h, bt_bi]
    simp [show ¬ i = 0 by omega]
