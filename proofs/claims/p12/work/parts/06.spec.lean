/-! the line's bits; the scrambler's stream -/
def lnB (fw : Nat → Int64) (f i : Int) : Bool := bl (fw (((f + i) % 9088).toNat / 64)) (((f + i) % 9088).toNat % 64)
def scO (σ : Nat → Bool) (d : Bool) : Bool := (d ^^ σ 38) ^^ σ 57
def scN (σ : Nat → Bool) (o : Bool) : Nat → Bool := fun j => if j = 0 then o else σ (j - 1)
def scS (σ p : Nat → Bool) : Nat → Nat → Bool
  | 0 => σ
  | k + 1 => scN (scS σ p k) (scO (scS σ p k) (p k))
def scB (σ p : Nat → Bool) (k : Nat) : Bool := scO (scS σ p k) (p k)
theorem scS_cg {σ τ p q : Nat → Bool} (h : ∀ j, j < 58 → σ j = τ j) : ∀ k, (∀ j, j < k → p j = q j) → ∀ j, j < 58 → scS σ p k j = scS τ q k j := by
  intro k
  induction k with
  | zero => exact fun _ j hj => h j hj
  | succ k ih =>
    intro hp j hj
    have hk := ih (fun j hj => hp j (by omega))
    show scN (scS σ p k) (scO (scS σ p k) (p k)) j = scN (scS τ q k) (scO (scS τ q k) (q k)) j
    unfold scN scO
    rw [hk 38 (by omega), hk 57 (by omega), hp k (by omega)]
    by_cases h0 : j = 0
    · rw [if_pos h0, if_pos h0]
    · rw [if_neg h0, if_neg h0, hk (j - 1) (by omega)]
theorem scB_cg {σ τ p q : Nat → Bool} (h : ∀ j, j < 58 → σ j = τ j) (k : Nat) (hp : ∀ j, j < k + 1 → p j = q j) : scB σ p k = scB τ q k := by
  unfold scB scO
  rw [scS_cg h k (fun j hj => hp j (by omega)) 38 (by omega), scS_cg h k (fun j hj => hp j (by omega)) 57 (by omega), hp k (by omega)]
/-- reading: (int) (w >>> s) & 1 -/
theorem rd_bit {w : Int64} {s : Int32} {x : Int64} {k : Nat} {u y r : Int32} (hs : s.toInt = k) (hk : k < 64) (hx : x = (w.toUInt64 >>> (s.toInt64.toUInt64 &&& Int64.toUInt64 63)).toInt64) (hu : u = x.toInt32) (hy : y = 1) (hr : r = u &&& y) : r = bi (bl w k) := by
  rw [hr, hy, and1, hu, bt_l2i _ (by omega), hx, bl_ushr hs hk]
  rfl
/-- the clearing and setting of one bit -/
theorem up_bit {w m n z a o : Int64} {s b : Int32} {k : Nat} (hs : s.toInt = k) (hk : k < 64) (hm : m = (1 : Int64) <<< (s.toInt64 &&& 63)) (hn : n = m ^^^ (-1)) (ha : a = w &&& n) (hz : z = b.toInt64 <<< (s.toInt64 &&& 63)) (ho : o = a ||| z) (hb : 0 ≤ b.toInt ∧ b.toInt ≤ 1) {i : Nat} (hi : i < 64) : bl o i = if i = k then bt b 0 else bl w i := by
  rw [ho, bl_or, ha, bl_and, hn, bl_xor, hm, bl_shl hs hk hi, hz, bl_shl hs hk hi, bl_m1 i hi, bl_1 (i - k) (by omega), bi_of hb, bl_bi _ (by omega), bi_t0]
  by_cases h : i = k
  · subst h; simp
  · rw [if_neg h]
    by_cases h2 : k ≤ i
    · simp [h2, show ¬ i - k = 0 by omega]
    · simp [h2]
theorem fl_bit {w m o : Int64} {s : Int32} {k : Nat} (hs : s.toInt = k) (hk : k < 64) (hm : m = (1 : Int64) <<< (s.toInt64 &&& 63)) (ho : o = w ^^^ m) {i : Nat} (hi : i < 64) : bl o i = if i = k then !bl w i else bl w i := by
  rw [ho, bl_xor, hm, bl_shl hs hk hi, bl_1 (i - k) (by omega)]
  by_cases h : i = k
  · subst h; simp
  · rw [if_neg h]
    by_cases h2 : k ≤ i
    · simp [h2, show ¬ i - k = 0 by omega]
    · simp [h2]
/-- one place of the ring changed -/
theorem lnB_up {fw gw : Nat → Int64} {f p : Int} {c : Bool} (hp : 0 ≤ p ∧ p < 9088) (hsame : ∀ j, j ≠ p.toNat / 64 → gw j = fw j) (hbit : ∀ i, i < 64 → bl (gw (p.toNat / 64)) i = if i = p.toNat % 64 then c else bl (fw (p.toNat / 64)) i) (j : Int) : lnB gw f j = if (f + j) % 9088 = p then c else lnB fw f j := by
  unfold lnB
  have hr : 0 ≤ (f + j) % 9088 ∧ (f + j) % 9088 < 9088 := by omega
  by_cases h : (f + j) % 9088 = p
  · rw [if_pos h, h, hbit _ (by omega), if_pos rfl]
  · rw [if_neg h]
    by_cases h2 : ((f + j) % 9088).toNat / 64 = p.toNat / 64
    · rw [h2, hbit _ (by omega), if_neg (by omega)]
    · rw [hsame _ h2]
theorem lnB_drop {fw : Nat → Int64} {f g n : Int} (h : g = (f + n) % 9088) (j : Int) : lnB fw g j = lnB fw f (j + n) := by
  unfold lnB
  rw [show (g + j) % 9088 = (f + (j + n)) % 9088 by omega]
/-- the scrambler: what is mixed in, what is kept -/
theorem mx_bit {la x y : Int64} {a b c d e g o s t : Int32} (hs : s.toInt = 38) (ht : t.toInt = 57) (hx : x = (la.toUInt64 >>> (s.toInt64.toUInt64 &&& Int64.toUInt64 63)).toInt64) (ha : a = x.toInt32) (hb : b = a &&& c) (hc : c = 1) (hy : y = (la.toUInt64 >>> (t.toInt64.toUInt64 &&& Int64.toUInt64 63)).toInt64) (hd : d = y.toInt32) (he : e = d &&& g) (hg : g = 1) (ho : 0 ≤ o.toInt ∧ o.toInt ≤ 1) : (o ^^^ b) ^^^ e = bi (scO (bl la) (bt o 0)) := by
  rw [rd_bit (k := 38) hs (by omega) hx ha hc hb, rd_bit (k := 57) ht (by omega) hy hd hg he, bi_of ho, bi_xor, bi_xor, bi_t0]
  rfl
theorem kp_bit {la x y z o : Int64} {b s : Int32} (hs : s.toInt = 1) (hx : x = la <<< (s.toInt64 &&& 63)) (hy : y = b.toInt64) (hz : z = x ||| y) (ho : o = z &&& 288230376151711743) (hb : 0 ≤ b.toInt ∧ b.toInt ≤ 1) {j : Nat} (hj : j < 58) : bl o j = scN (bl la) (bt b 0) j := by
  rw [ho, bl_and, hz, bl_or, hx, bl_shl (k := 1) hs (by omega) (by omega), hy, bi_of hb, bl_bi _ (by omega), bi_t0, bl_mask j (by omega)]
  unfold scN
  by_cases h : j = 0
  · subst h; simp
  · simp [h, hj, show 1 ≤ j by omega]
