/-! the model's sending -/
def eP (p : Prop) : Prop := p
theorem eP_i {p : Prop} (h : p) : eP p := h
def sgB (gy : Nat → Int32) (j : Nat) : Bool := bt (gy j) 0
def mlB (gl : Nat → Int32) (j : Int) : Bool := bt (gl j.toNat) 0
def sndM (B σ : Nat → Bool) (c : Nat) (gl gl3 gy3 : Nat → Int32) (k : Nat) : Prop := (∀ j, j < c → gl3 j = gl j) ∧ (∀ q, q < k → gl3 (c + q) = bi (txB σ B q)) ∧ ∀ j, j < 58 → gy3 j = bi (scS σ (fun i => B (i + 2)) (k - 2) j)
theorem sndM_0 {B : Nat → Bool} {c : Nat} {gl gy : Nat → Int32} (hy : ∀ j, j < 58 → gy j = bi (bt (gy j) 0)) {k : Nat} (hk : k = 0) : sndM B (sgB gy) c gl gl gy k := by
  subst hk
  exact ⟨fun _ _ => rfl, fun q hq => absurd hq (by omega), fun j hj => hy j hj⟩
theorem sndM_l {B σ : Nat → Bool} {c k i : Nat} {gl gl3 F : Nat → Int32} {x y : Int32} {b : Bool} (h1 : ∀ j, j < c → gl3 j = gl j) (h2 : ∀ q, q < k → gl3 (c + q) = bi (txB σ B q)) (hx : x = bi b) (hb : b = txB σ B k) (hy : y = x.toInt8.toInt32) (hF : F = upd gl3 i (vp_nar .byte y)) (hi : i = c + k) : (∀ j, j < c → F j = gl j) ∧ (∀ q, q < k + 1 → F (c + q) = bi (txB σ B q)) := by
  have hv : vp_nar .byte y = bi b := by rw [hy, hx, bi_byte]
  rw [hF, hi, hv]
  refine ⟨fun j hj => ?_, fun q hq => ?_⟩
  · rw [pk_un (by omega)]; exact h1 j hj
  · by_cases e : q = k
    · subst e; rw [pk_us, hb]
    · rw [pk_un (by omega)]; exact h2 q (by omega)
theorem sndM_lo {B σ : Nat → Bool} {c k i k2 : Nat} {gl gl3 gy3 F : Nat → Int32} {x y : Int32} (h : sndM B σ c gl gl3 gy3 k) (hk : k < 2) (hx : x = bi (B k)) (hy : y = x.toInt8.toInt32) (hF : F = upd gl3 i (vp_nar .byte y)) (hi : i = c + k) (hk2 : k2 = k + 1) : sndM B σ c gl F gy3 k2 := by
  subst hk2
  obtain ⟨h1, h2, h3⟩ := h
  obtain ⟨a, b⟩ := sndM_l h1 h2 hx (by unfold txB; rw [if_pos hk]) hy hF hi
  refine ⟨a, b, fun j hj => ?_⟩
  rw [h3 j hj, show k - 2 = 0 by omega, show k + 1 - 2 = 0 by omega]
theorem sndM_hi {B σ : Nat → Bool} {c k i k2 : Nat} {gl gl3 gy3 gy4 F : Nat → Int32} {x r y : Int32} (h : sndM B σ c gl gl3 gy3 k) (hk : 2 ≤ k) (hx : x = bi (B k)) (hr : r = (x ^^^ gy3 38) ^^^ gy3 57) (hg0 : gy4 0 = r) (hgs : ∀ j, 1 ≤ j → j < 58 → gy4 j = gy3 (j - 1)) (hy : y = r.toInt8.toInt32) (hF : F = upd gl3 i (vp_nar .byte y)) (hi : i = c + k) (hk2 : k2 = k + 1) : sndM B σ c gl F gy4 k2 := by
  subst hk2
  obtain ⟨h1, h2, h3⟩ := h
  have hb : B k = (fun i => B (i + 2)) (k - 2) := by show B k = B (k - 2 + 2); rw [show k - 2 + 2 = k by omega]
  have hr2 : r = bi (scB σ (fun i => B (i + 2)) (k - 2)) := by
    rw [hr, hx, h3 38 (by omega), h3 57 (by omega), bi_xor, bi_xor, hb]; rfl
  obtain ⟨a, b⟩ := sndM_l h1 h2 hr2 (by unfold txB; rw [if_neg (by omega)]) hy hF hi
  refine ⟨a, b, fun j hj => ?_⟩
  rw [show k + 1 - 2 = (k - 2) + 1 by omega]
  show gy4 j = bi (scN (scS σ (fun i => B (i + 2)) (k - 2)) (scB σ (fun i => B (i + 2)) (k - 2)) j)
  unfold scN
  by_cases e : j = 0
  · rw [if_pos e, e, hg0, hr2]
  · rw [if_neg e, hgs j (by omega) hj, h3 (j - 1) (by omega)]
theorem sndM_e {B : Nat → Bool} {m m2 : Int} {gl gl3 gy gy3 : Nat → Int32} {k : Nat} (h : sndM B (sgB gy) m.toNat gl gl3 gy3 k) (hk : k = 66) (h0 : 0 ≤ m) (hm : m2 = m + 66) (hL : ∀ j : Nat, (j : Int) < m → gl j = bi (bt (gl j) 0)) : (∀ j, j < 58 → gy3 j = bi (bt (gy3 j) 0)) ∧ (∀ j : Nat, (j : Int) < m2 → gl3 j = bi (bt (gl3 j) 0)) ∧ sndR B m m2 (sgB gy) (sgB gy3) (mlB gl) (mlB gl3) := by
  subst hk
  obtain ⟨h1, h2, h3⟩ := h
  refine ⟨fun j hj => ?_, fun j hj => ?_, hm, fun q hq => ?_, fun j a b => ?_, fun j hj => ?_⟩
  · rw [h3 j hj, bi_t0]
  · rcases (show j < m.toNat ∨ m.toNat ≤ j by omega) with e | e
    · rw [h1 j e]; exact hL j (by omega)
    · rw [show j = m.toNat + (j - m.toNat) by omega, h2 _ (by omega), bi_t0]
  · show bt (gl3 (m + (q : Int)).toNat) 0 = _
    rw [show (m + (q : Int)).toNat = m.toNat + q by omega, h2 q hq, bi_t0]
  · show bt (gl3 j.toNat) 0 = bt (gl j.toNat) 0
    rw [h1 _ (by omega)]
  · show bt (gy3 j) 0 = _
    rw [h3 j hj, bi_t0]
theorem acc_lo {ch mw v : Int32} {cn : Int} {gg f : Nat → Int32} {σ : Nat → Bool} {X : Int → Bool} (e : f = upd gg mw.toNatClampNeg ch) (hv : v.toInt = mw.toInt + 1) (h0 : 0 ≤ mw.toInt ∧ mw.toInt < 7) : accR ch mw.toInt v.toInt cn cn gg f σ σ X X := by
  refine ⟨fun _ => ⟨hv, rfl, fun k hk => ?_, ?_, fun _ _ => rfl, fun _ _ _ => rfl⟩, fun q => by exfalso; omega⟩
  · rw [e]; exact pk_un (by show k ≠ mw.toInt.toNat; omega)
  · rw [e]; exact pk_us
theorem acc_hi {ch mw v : Int32} {cn cn2 : Int} {gg g2 f : Nat → Int32} {σ σ2 : Nat → Bool} {X X2 : Int → Bool} (e : f = upd gg mw.toNatClampNeg ch) (h7 : mw.toInt = 7) (hv : v.toInt = 0) (h : ∃ B, blkR f B ∧ sndR B cn cn2 σ σ2 X X2) : accR ch mw.toInt v.toInt cn cn2 gg g2 σ σ2 X X2 := by
  obtain ⟨B, h1, h2⟩ := h
  refine ⟨fun q => by exfalso; omega, fun _ => ⟨hv, f, B, fun k hk => ?_, ?_, h1, h2⟩⟩
  · rw [e]; exact pk_un (by show k ≠ mw.toInt.toNat; omega)
  · rw [e, show (7 : Nat) = mw.toNatClampNeg from by show 7 = mw.toInt.toNat; omega]; exact pk_us
theorem wch_s {w s x y r : Int32} {k : Nat} (hs : s.toInt = k) (hk : k ≤ 24) (hx : x = w >>> (s &&& 31)) (hy : y = 255) (hr : r = x &&& y) : r = wch w k := by
  have e : s = nI k := Int32.toInt_inj.mp (hs.trans (nI_toInt (by omega)).symm)
  rw [hr, hy]
  apply bt_ext
  intro i hi
  rw [bt_and, hx, e]
  have h1 : bt (w >>> (nI k &&& 31)) i = if k + i < 32 then bt w (k + i) else bt w 31 := by
    unfold bt
    rw [Int32.toBitVec_shiftRight]
    show (w.toBitVec.sshiftRight ((nI k &&& 31).toBitVec.smod 32).toNat).getLsbD i = _
    rw [ss_k k (by omega), BitVec.getLsbD_sshiftRight, BitVec.msb_eq_getLsbD_last]
    simp [hi]
  have h2 : bt 255 i = decide (i < 8) := (by decide +kernel : ∀ i, i < 32 → bt 255 i = decide (i < 8)) i hi
  have h3 : bt (wch w k) i = (decide (i < 8) && bt w (k + i)) := by
    unfold wch bt nI
    show (BitVec.ofNat 32 (w.toBitVec.toNat / 2 ^ k % 256)).getLsbD i = _
    rw [BitVec.getLsbD_ofNat, show (256 : Nat) = 2 ^ 8 from rfl, Nat.testBit_mod_two_pow, Nat.testBit_div_two_pow, Nat.add_comm]
    simp [hi, BitVec.getLsbD]
  rw [h1, h2, h3]
  by_cases e8 : i < 8
  · rw [if_pos (by omega)]; simp [e8]
  · simp [e8]
def wlv (x y : Int32) (k : Nat) : List Int32 := if k ≤ 4 then wl x k else wl x 4 ++ wl y (k - 4)
theorem wlv_lo {x y : Int32} {k : Nat} (h : k < 4) : wlv x y (k + 1) = wlv x y k ++ [wch x (24 - 8 * k)] := by
  unfold wlv
  rw [if_pos (by omega), if_pos (by omega)]
  rfl
theorem wlv_hi {x y : Int32} {k : Nat} (h : 4 ≤ k) : wlv x y (k + 1) = wlv x y k ++ [wch y (24 - 8 * (k - 4))] := by
  unfold wlv
  rw [if_neg (by omega), show k + 1 - 4 = (k - 4) + 1 by omega]
  by_cases e : k ≤ 4
  · obtain rfl : k = 4 := by omega
    rw [if_pos (by omega)]
    show wl x 4 ++ (wl y (4 - 4) ++ [wch y (24 - 8 * (4 - 4))]) = _
    rfl
  · rw [if_neg e]
    show wl x 4 ++ (wl y (k - 4) ++ [wch y (24 - 8 * (k - 4))]) = _
    rw [List.append_assoc]
theorem blk_I {g : Nat → Int32} {B : Nat → Bool} (hg : ∀ k, k < 8 → (g k).toInt = 256) (h : blkR g B) : ∀ G : Nat → Int32, (∀ k, k < 8 → (G k).toInt = 256) → blkR G B := by
  intro G hG
  have a := h.2.2.2.2.1 (fun k _ hk => Or.inl (hg k hk))
  exact blkR_qui (fun k _ hk => Or.inl (hG k hk)) ⟨a.1, fun k x y j hj => by rw [a.2 k x y j hj]; simp [hg k y, hG k y]⟩
theorem st_bit {x a b d : Int64} {k : Int32} {n : Nat} (hk : k.toInt = n) (hn : n < 58) (ha : a = x >>> (k.toInt64 &&& 63)) (hb : b = 1) (hd : d = a &&& b) : d.toInt32 = bi (bl x n) := by
  apply bt_ext
  intro i hi
  rw [bt_l2i _ hi, hd, bl_and, hb, bl_1 i (by omega), bt_bi]
  by_cases e : i = 0
  · subst e
    rw [ha, bl_sshr hk (by omega) (by omega)]
    rfl
  · simp [e]
theorem tn_bit {gl F : Nat → Int32} {i a b c d e : Int32} (h : gl i.toInt.toNat = bi (bt (gl i.toInt.toNat) 0)) (hb : b = gl i.toInt.toNat) (ha : a = 1) (hc : c = a - b) (hd : d = c.toInt8.toInt32) (eF : F = upd gl i.toNatClampNeg (vp_nar .byte d)) (he : e = F i.toNatClampNeg) : e = bi (!bt (gl i.toInt.toNat) 0) ∧ ∀ j : Nat, F j = if j = i.toInt.toNat then bi (!bt (gl i.toInt.toNat) 0) else gl j := by
  have hv : vp_nar .byte d = bi (!bt (gl i.toInt.toNat) 0) := by
    rw [hd, hc, ha, hb]
    rw [show (1 : Int32) - gl i.toInt.toNat = bi (!bt (gl i.toInt.toNat) 0) from by rw [← bi_not, ← h], bi_byte]
  refine ⟨?_, fun j => ?_⟩
  · rw [he, eF, pk_us, hv]
  · rw [eF, hv]
    by_cases g : j = i.toInt.toNat
    · rw [if_pos g, g]; exact pk_us
    · rw [if_neg g]; exact pk_un g
theorem ad_bit {gl F : Nat → Int32} {b v z : Int32} (hb : 0 ≤ b.toInt ∧ b.toInt ≤ 1) (e : v = b.toInt8.toInt32) (eF : F = upd gl z.toNatClampNeg (vp_nar .byte v)) (j : Nat) : F j = if j = z.toInt.toNat then bi (bt b 0) else gl j := by
  have hv : vp_nar .byte v = bi (bt b 0) := by rw [e, bi_of hb, bi_byte, bi_t0]
  rw [eF, hv]
  by_cases g : j = z.toInt.toNat
  · rw [if_pos g, g]; exact pk_us
  · rw [if_neg g]; exact pk_un g
theorem cp_bit {gl gl4 F : Nat → Int32} {i i2 v w : Int32} {m : Nat} (h : ∀ j : Nat, gl4 j = if (j : Int) < i.toInt then gl (j + m) else gl j) (hL : gl (i.toInt.toNat + m) = bi (bt (gl (i.toInt.toNat + m)) 0)) (hi : 0 ≤ i.toInt) (hw : w.toInt = i.toInt + m) (hv : v = gl4 w.toNatClampNeg) (eF : F = upd gl4 i.toNatClampNeg (vp_nar .byte v)) (hi2 : i2.toInt = i.toInt + 1) : ∀ j : Nat, F j = if (j : Int) < i2.toInt then gl (j + m) else gl j := by
  intro j
  have x : w.toNatClampNeg = i.toInt.toNat + m := by show w.toInt.toNat = _; omega
  have hv2 : vp_nar .byte v = gl (i.toInt.toNat + m) := by
    rw [hv, x, h, if_neg (by omega), hL]
    exact bi_byte' _
  rw [eF, hv2]
  by_cases g : j = i.toInt.toNat
  · rw [if_pos (by omega), g]
    exact pk_us
  · rw [pk_un (show j ≠ i.toNatClampNeg from g), h j]
    by_cases g2 : (j : Int) < i.toInt
    · rw [if_pos g2, if_pos (by omega)]
    · rw [if_neg g2, if_neg (by omega)]
