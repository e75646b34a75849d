def cpS (wa cn : Int) (fg gg : Nat → Int32) (la : Int64) (gy : Nat → Int32) (fw : Nat → Int64) (fi : Int) (gl : Nat → Int32) : Prop :=
  cplR wa cn fg gg (bl la) (sgB gy) (lnB fw fi) (mlB gl) ∧ (∀ k : Nat, (k : Int) < wa → 0 ≤ (fg k).toInt ∧ (fg k).toInt ≤ 259) ∧ (∀ j, j < 58 → gy j = bi (bt (gy j) 0)) ∧ (∀ j : Nat, (j : Int) < cn → gl j = bi (bt (gl j) 0))
set_option maxHeartbeats 4000000 in
theorem cp_put {fi : Int32} {cn : Int32} {wa : Int32} {mz : Int32} {mw : Int32} {fg : Nat → Int32} {gg : Nat → Int32} {gl : Nat → Int32} {gy : Nat → Int32} {la : Int64} {fw : Nat → Int64} {cn2 : Int32} {wa2 : Int32} {mz2 : Int32} {mw2 : Int32} {fg2 : Nat → Int32} {gg2 : Nat → Int32} {gl2 : Nat → Int32} {gy2 : Nat → Int32} {la2 : Int64} {fw2 : Nat → Int64} {ch : Int32} {rA : Int32} {rB : Int32} (hE : cn.toInt = mz.toInt ∧ wa.toInt = mw.toInt) (hR : (0 ≤ wa.toInt ∧ wa.toInt < 8) ∧ (0 ≤ cn.toInt ∧ cn.toInt ≤ 9066)) (hC : cpS wa.toInt cn.toInt fg gg la gy fw fi.toInt gl) (A : (((ch.toInt < 0 ∨ 259 < ch.toInt) → rA.toInt = -12 ∧ wa2.toInt = wa.toInt ∧ cn2.toInt = cn.toInt) ∧ ((0 ≤ ch.toInt ∧ ch.toInt ≤ 259) → ((wa.toInt = 7 ∧ 9000 ≤ cn.toInt) → rA.toInt = -14 ∧ wa2.toInt = wa.toInt ∧ cn2.toInt = cn.toInt) ∧ ((wa.toInt = 7 ∧ cn.toInt < 9000) → rA.toInt = 0 ∧ wa2.toInt = 0 ∧ cn2.toInt = cn.toInt + 66) ∧ (wa.toInt < 7 → rA.toInt = wa.toInt + 1 ∧ wa2.toInt = wa.toInt + 1 ∧ cn2.toInt = cn.toInt))) ∧ ((ch.toInt < 0 ∨ 259 < ch.toInt ∨ (wa.toInt = 7 ∧ 9000 ≤ cn.toInt)) → fg2 = fg ∧ la2 = la ∧ fw2 = fw) ∧ (¬ (ch.toInt < 0 ∨ 259 < ch.toInt ∨ (wa.toInt = 7 ∧ 9000 ≤ cn.toInt)) → accR ch wa.toInt wa2.toInt cn.toInt cn2.toInt fg fg2 (bl la) (bl la2) (lnB fw fi.toInt) (lnB fw2 fi.toInt))) (B : (((ch.toInt < 0 ∨ 259 < ch.toInt) → rB.toInt = -12 ∧ mw2.toInt = mw.toInt ∧ mz2.toInt = mz.toInt) ∧ ((0 ≤ ch.toInt ∧ ch.toInt ≤ 259) → ((mw.toInt = 7 ∧ 9000 ≤ mz.toInt) → rB.toInt = -14 ∧ mw2.toInt = mw.toInt ∧ mz2.toInt = mz.toInt) ∧ ((mw.toInt = 7 ∧ mz.toInt < 9000) → rB.toInt = 0 ∧ mw2.toInt = 0 ∧ mz2.toInt = mz.toInt + 66) ∧ (mw.toInt < 7 → rB.toInt = mw.toInt + 1 ∧ mw2.toInt = mw.toInt + 1 ∧ mz2.toInt = mz.toInt))) ∧ eP ((∀ j, j < 58 → gy2 j = bi (bt (gy2 j) 0)) ∧ (∀ j : Nat, (j : Int) < mz2.toInt → gl2 j = bi (bt (gl2 j) 0)) ∧ ((ch.toInt < 0 ∨ 259 < ch.toInt ∨ (mw.toInt = 7 ∧ 9000 ≤ mz.toInt)) → gg2 = gg ∧ gy2 = gy ∧ gl2 = gl) ∧ (¬ (ch.toInt < 0 ∨ 259 < ch.toInt ∨ (mw.toInt = 7 ∧ 9000 ≤ mz.toInt)) → accR ch mw.toInt mw2.toInt mz.toInt mz2.toInt gg gg2 (sgB gy) (sgB gy2) (mlB gl) (mlB gl2))))  : cpS wa2.toInt cn2.toInt fg2 gg2 la2 gy2 fw2 fi.toInt gl2 := by
  by_cases h : (ch.toInt < 0 ∨ 259 < ch.toInt ∨ (wa.toInt = 7 ∧ 9000 ≤ cn.toInt))
  · have q : wa2.toInt = wa.toInt ∧ cn2.toInt = cn.toInt := by have a := A.1; omega
    obtain ⟨rfl, rfl, rfl⟩ := A.2.1 h
    obtain ⟨rfl, rfl, rfl⟩ := B.2.2.2.1 (by omega)
    rw [q.1, q.2]
    exact hC
  · have a := A.2.2 h
    have b := B.2.2.2.2 (by omega)
    obtain ⟨c1, c2, c3⟩ := accR_cg hE.2 hE.1 ⟨hR.1, hR.2.1⟩ hC.1 a b
    exact ⟨c3, accR_v hC.2.1 (by omega) hR.1 a, B.2.1, fun j hj => B.2.2.1 j (by omega)⟩
set_option maxHeartbeats 4000000 in
theorem cp_word {fi : Int32} {cn : Int32} {wa : Int32} {mz : Int32} {mw : Int32} {fg : Nat → Int32} {gg : Nat → Int32} {gl : Nat → Int32} {gy : Nat → Int32} {la : Int64} {fw : Nat → Int64} {cn2 : Int32} {wa2 : Int32} {mz2 : Int32} {mw2 : Int32} {fg2 : Nat → Int32} {gg2 : Nat → Int32} {gl2 : Nat → Int32} {gy2 : Nat → Int32} {la2 : Int64} {fw2 : Nat → Int64} {x : Int32} {y : Int32} {rA : Int32} {rB : Int32} (hE : cn.toInt = mz.toInt ∧ wa.toInt = mw.toInt) (hR : (0 ≤ wa.toInt ∧ wa.toInt < 8) ∧ (0 ≤ cn.toInt ∧ cn.toInt ≤ 9066)) (hC : cpS wa.toInt cn.toInt fg gg la gy fw fi.toInt gl) (A : ((9000 ≤ cn.toInt → rA.toInt = -14 ∧ wa2.toInt = wa.toInt ∧ cn2.toInt = cn.toInt) ∧ (cn.toInt < 9000 → rA.toInt = wa.toInt ∧ wa2.toInt = wa.toInt ∧ cn2.toInt = cn.toInt + 66)) ∧ (∀ k : Nat, (k : Int) < wa2.toInt → 0 ≤ (fg2 k).toInt ∧ (fg2 k).toInt ≤ 259) ∧ (9000 ≤ cn.toInt → fg2 = fg ∧ la2 = la ∧ fw2 = fw) ∧ (cn.toInt < 9000 → accL (wl x 4 ++ wl y 4) (wa.toInt, cn.toInt, fg, bl la, lnB fw fi.toInt) (wa2.toInt, cn2.toInt, fg2, bl la2, lnB fw2 fi.toInt))) (B : ((9000 ≤ mz.toInt → rB.toInt = -14 ∧ mw2.toInt = mw.toInt ∧ mz2.toInt = mz.toInt) ∧ (mz.toInt < 9000 → rB.toInt = mw.toInt ∧ mw2.toInt = mw.toInt ∧ mz2.toInt = mz.toInt + 66)) ∧ (∀ j, j < 58 → gy2 j = bi (bt (gy2 j) 0)) ∧ (∀ j : Nat, (j : Int) < mz2.toInt → gl2 j = bi (bt (gl2 j) 0)) ∧ (9000 ≤ mz.toInt → gg2 = gg ∧ gy2 = gy ∧ gl2 = gl) ∧ (mz.toInt < 9000 → accL (wl x 4 ++ wl y 4) (mw.toInt, mz.toInt, gg, sgB gy, mlB gl) (mw2.toInt, mz2.toInt, gg2, sgB gy2, mlB gl2)))  : cpS wa2.toInt cn2.toInt fg2 gg2 la2 gy2 fw2 fi.toInt gl2 := by
  by_cases h : 9000 ≤ cn.toInt
  · have q : wa2.toInt = wa.toInt ∧ cn2.toInt = cn.toInt := by have a := A.1; omega
    obtain ⟨rfl, rfl, rfl⟩ := A.2.2.1 h
    obtain ⟨rfl, rfl, rfl⟩ := B.2.2.2.1 (by omega)
    rw [q.1, q.2]
    exact hC
  · have a := A.2.2.2 (by omega)
    have b := B.2.2.2.2 (by omega)
    obtain ⟨c1, c2, c3⟩ := accL_cg (show okA _ from ⟨hR.1, hR.2.1⟩) (show cplA _ _ from ⟨hE.2, hE.1, hC.1⟩) a b
    exact ⟨c3, A.2.1, B.2.1, fun j hj => B.2.2.1 j (by have q : cn2.toInt = mz2.toInt := c2; omega)⟩
set_option maxHeartbeats 4000000 in
theorem cp_idle {fi : Int32} {cn : Int32} {wa : Int32} {mz : Int32} {mw : Int32} {fg : Nat → Int32} {gg : Nat → Int32} {gl : Nat → Int32} {gy : Nat → Int32} {la : Int64} {fw : Nat → Int64} {cn2 : Int32} {wa2 : Int32} {mz2 : Int32} {mw2 : Int32} {fg2 : Nat → Int32} {gg2 : Nat → Int32} {gl2 : Nat → Int32} {gy2 : Nat → Int32} {la2 : Int64} {fw2 : Nat → Int64} {nn : Int32} {rA : Int32} {rB : Int32} (hE : cn.toInt = mz.toInt ∧ wa.toInt = mw.toInt) (hR : (0 ≤ wa.toInt ∧ wa.toInt < 8) ∧ (0 ≤ cn.toInt ∧ cn.toInt ≤ 9066)) (hC : cpS wa.toInt cn.toInt fg gg la gy fw fi.toInt gl) (A : ((wa2.toInt = wa.toInt) ∧ ((nn.toInt < 1 ∨ 100 < nn.toInt ∨ 0 < wa.toInt) → rA.toInt = -12 ∧ cn2.toInt = cn.toInt) ∧ ((1 ≤ nn.toInt ∧ nn.toInt ≤ 100 ∧ wa.toInt = 0) → (9000 ≤ cn.toInt + 66 * (nn.toInt - 1) → rA.toInt = -14 ∧ cn2.toInt = cn.toInt) ∧ (cn.toInt + 66 * (nn.toInt - 1) < 9000 → rA.toInt = cn.toInt + 66 * nn.toInt ∧ cn2.toInt = cn.toInt + 66 * nn.toInt))) ∧ ((nn.toInt < 1 ∨ 100 < nn.toInt ∨ 0 < wa.toInt ∨ 9000 ≤ cn.toInt + 66 * (nn.toInt - 1)) → fg2 = fg ∧ la2 = la ∧ fw2 = fw) ∧ (¬ (nn.toInt < 1 ∨ 100 < nn.toInt ∨ 0 < wa.toInt ∨ 9000 ≤ cn.toInt + 66 * (nn.toInt - 1)) → idlR nn.toInt.toNat cn.toInt cn2.toInt (bl la) (bl la2) (lnB fw fi.toInt) (lnB fw2 fi.toInt))) (B : ((mw2.toInt = mw.toInt) ∧ ((nn.toInt < 1 ∨ 100 < nn.toInt ∨ 0 < mw.toInt) → rB.toInt = -12 ∧ mz2.toInt = mz.toInt) ∧ ((1 ≤ nn.toInt ∧ nn.toInt ≤ 100 ∧ mw.toInt = 0) → (9000 ≤ mz.toInt + 66 * (nn.toInt - 1) → rB.toInt = -14 ∧ mz2.toInt = mz.toInt) ∧ (mz.toInt + 66 * (nn.toInt - 1) < 9000 → rB.toInt = mz.toInt + 66 * nn.toInt ∧ mz2.toInt = mz.toInt + 66 * nn.toInt))) ∧ (∀ j, j < 58 → gy2 j = bi (bt (gy2 j) 0)) ∧ (∀ j : Nat, (j : Int) < mz2.toInt → gl2 j = bi (bt (gl2 j) 0)) ∧ ((nn.toInt < 1 ∨ 100 < nn.toInt ∨ 0 < mw.toInt ∨ 9000 ≤ mz.toInt + 66 * (nn.toInt - 1)) → gg2 = gg ∧ gy2 = gy ∧ gl2 = gl) ∧ (¬ (nn.toInt < 1 ∨ 100 < nn.toInt ∨ 0 < mw.toInt ∨ 9000 ≤ mz.toInt + 66 * (nn.toInt - 1)) → idlR nn.toInt.toNat mz.toInt mz2.toInt (sgB gy) (sgB gy2) (mlB gl) (mlB gl2)))  : cpS wa2.toInt cn2.toInt fg2 gg2 la2 gy2 fw2 fi.toInt gl2 := by
  by_cases h : (nn.toInt < 1 ∨ 100 < nn.toInt ∨ 0 < wa.toInt ∨ 9000 ≤ cn.toInt + 66 * (nn.toInt - 1))
  · have q : wa2.toInt = wa.toInt ∧ cn2.toInt = cn.toInt := by have a := A.1; omega
    obtain ⟨rfl, rfl, rfl⟩ := A.2.1 h
    obtain ⟨rfl, rfl, rfl⟩ := B.2.2.2.1 (by omega)
    rw [q.1, q.2]
    exact hC
  · have q : wa2.toInt = 0 := by have a := A.1; omega
    have a := A.2.2 h
    have b := B.2.2.2.2 (by omega)
    obtain ⟨⟨c1, c2⟩, c3, c4⟩ := idlR_cg hE.1 hR.2.1 hC.1.2.1 hC.1.2.2 a b
    exact ⟨⟨fun k hk => absurd hk (by omega), c3, c4⟩, fun k hk => absurd hk (by omega), B.2.1, fun j hj => B.2.2.1 j (by omega)⟩
theorem cp_state {fi : Int32} {cn : Int32} {wa : Int32} {fg : Nat → Int32} {gg : Nat → Int32} {gl : Nat → Int32} {gy : Nat → Int32} {la : Int64} {fw : Nat → Int64} {la2 : Int64} {gy2 : Nat → Int32} {sd : Int32} {x : Int64} (hC : cpS wa.toInt cn.toInt fg gg la gy fw fi.toInt gl) (A1 : sd.toInt = 0 → ∀ j, j < 58 → bl la2 j = bl x j) (A2 : ¬ sd.toInt = 0 → la2 = la) (B1 : sd.toInt = 0 → ∀ j, j < 58 → gy2 j = bi (bl x j)) (B2 : ¬ sd.toInt = 0 → ∀ j, j < 58 → gy2 j = gy j) : cpS wa.toInt cn.toInt fg gg la2 gy2 fw fi.toInt gl := by
  by_cases h : sd.toInt = 0
  · exact ⟨⟨hC.1.1, fun j hj => by show bl la2 j = bt (gy2 j) 0; rw [A1 h j hj, B1 h j hj, bi_t0], hC.1.2.2⟩, hC.2.1, fun j hj => by rw [B1 h j hj, bi_t0], hC.2.2.2⟩
  · obtain rfl := A2 h
    exact ⟨⟨hC.1.1, fun j hj => by show bl _ j = bt (gy2 j) 0; rw [B2 h j hj]; exact hC.1.2.1 j hj, hC.1.2.2⟩, hC.2.1, fun j hj => by rw [B2 h j hj]; exact hC.2.2.1 j hj, hC.2.2.2⟩
theorem eq_bit {fi : Int32} {cn : Int32} {wa : Int32} {mz : Int32} {mw : Int32} {fg : Nat → Int32} {gg : Nat → Int32} {gl : Nat → Int32} {gy : Nat → Int32} {la : Int64} {fw : Nat → Int64} {i rA rB : Int32} (hE : cn.toInt = mz.toInt ∧ wa.toInt = mw.toInt) (hC : cpS wa.toInt cn.toInt fg gg la gy fw fi.toInt gl) (A : ((i.toInt < 0 ∨ cn.toInt ≤ i.toInt) → rA.toInt = -1) ∧ ((0 ≤ i.toInt ∧ i.toInt < cn.toInt) → rA = bi (lnB fw fi.toInt i.toInt))) (B : ((i.toInt < 0 ∨ mz.toInt ≤ i.toInt) → rB.toInt = -1) ∧ ((0 ≤ i.toInt ∧ i.toInt < mz.toInt) → rB = gl i.toInt.toNat)) : rA.toInt = rB.toInt := by
  rcases (show (i.toInt < 0 ∨ cn.toInt ≤ i.toInt) ∨ (0 ≤ i.toInt ∧ i.toInt < cn.toInt) by omega) with k | k
  · rw [A.1 k, B.1 (by omega)]
  · rw [A.2 k, B.2 (by omega), hC.2.2.2 i.toInt.toNat (by omega), hC.1.2.2 i.toInt k.1 k.2]
    rfl
set_option maxHeartbeats 4000000 in
theorem cp_turn {fi : Int32} {cn : Int32} {wa : Int32} {mz : Int32} {mw : Int32} {fg : Nat → Int32} {gg : Nat → Int32} {gl : Nat → Int32} {gy : Nat → Int32} {la : Int64} {fw : Nat → Int64} {gl2 : Nat → Int32} {fw2 : Nat → Int64} {i : Int32} {rA : Int32} {rB : Int32} (hE : cn.toInt = mz.toInt ∧ wa.toInt = mw.toInt) (hR : (0 ≤ wa.toInt ∧ wa.toInt < 8) ∧ (0 ≤ cn.toInt ∧ cn.toInt ≤ 9066)) (hC : cpS wa.toInt cn.toInt fg gg la gy fw fi.toInt gl) (A : ((i.toInt < 0 ∨ cn.toInt ≤ i.toInt) → rA.toInt = -12 ∧ fw2 = fw) ∧ ((0 ≤ i.toInt ∧ i.toInt < cn.toInt) → rA = bi (!lnB fw fi.toInt i.toInt) ∧ ∀ j : Int, 0 ≤ j → j < cn.toInt → lnB fw2 fi.toInt j = if j = i.toInt then !lnB fw fi.toInt j else lnB fw fi.toInt j)) (B : ((i.toInt < 0 ∨ mz.toInt ≤ i.toInt) → rB.toInt = -12 ∧ gl2 = gl) ∧ ((0 ≤ i.toInt ∧ i.toInt < mz.toInt) → rB = bi (!bt (gl i.toInt.toNat) 0) ∧ ∀ j : Nat, gl2 j = if j = i.toInt.toNat then bi (!bt (gl i.toInt.toNat) 0) else gl j))  : rA.toInt = rB.toInt ∧ cpS wa.toInt cn.toInt fg gg la gy fw2 fi.toInt gl2 := by
  rcases (show (i.toInt < 0 ∨ cn.toInt ≤ i.toInt) ∨ (0 ≤ i.toInt ∧ i.toInt < cn.toInt) by omega) with k | k
  · have a := A.1 k
    have b := B.1 (by omega)
    obtain ⟨a1, rfl⟩ := a
    obtain ⟨b1, rfl⟩ := b
    exact ⟨by omega, hC⟩
  · obtain ⟨a1, a2⟩ := A.2 k
    obtain ⟨b1, b2⟩ := B.2 (by omega)
    have hx : lnB fw fi.toInt i.toInt = bt (gl i.toInt.toNat) 0 := hC.1.2.2 i.toInt k.1 k.2
    refine ⟨by rw [a1, b1, hx], ⟨hC.1.1, hC.1.2.1, fun j x y => ?_⟩, hC.2.1, hC.2.2.1, fun j hj => ?_⟩
    · show lnB fw2 fi.toInt j = bt (gl2 j.toNat) 0
      rw [a2 j x y, b2 j.toNat]
      by_cases g : j = i.toInt
      · rw [if_pos g, if_pos (by omega), bi_t0, g, hx]
      · rw [if_neg g, if_neg (by omega)]
        exact hC.1.2.2 j x y
    · rw [b2 j]
      by_cases g : j = i.toInt.toNat
      · rw [if_pos g, bi_t0]
      · rw [if_neg g]
        exact hC.2.2.2 j hj
set_option maxHeartbeats 4000000 in
theorem cp_add {fi : Int32} {cn : Int32} {wa : Int32} {mz : Int32} {mw : Int32} {fg : Nat → Int32} {gg : Nat → Int32} {gl : Nat → Int32} {gy : Nat → Int32} {la : Int64} {fw : Nat → Int64} {cn2 : Int32} {mz2 : Int32} {gl2 : Nat → Int32} {fw2 : Nat → Int64} {b : Int32} {rA : Int32} {rB : Int32} (hE : cn.toInt = mz.toInt ∧ wa.toInt = mw.toInt) (hR : (0 ≤ wa.toInt ∧ wa.toInt < 8) ∧ (0 ≤ cn.toInt ∧ cn.toInt ≤ 9066)) (hC : cpS wa.toInt cn.toInt fg gg la gy fw fi.toInt gl) (A : (((¬ b.toInt = 0 ∧ ¬ b.toInt = 1) → rA.toInt = -12 ∧ cn2.toInt = cn.toInt) ∧ ((b.toInt = 0 ∨ b.toInt = 1) → (9066 ≤ cn.toInt → rA.toInt = -14 ∧ cn2.toInt = cn.toInt) ∧ (cn.toInt < 9066 → rA.toInt = cn.toInt + 1 ∧ cn2.toInt = cn.toInt + 1))) ∧ (¬ ((b.toInt = 0 ∨ b.toInt = 1) ∧ cn.toInt < 9066) → fw2 = fw) ∧ (((b.toInt = 0 ∨ b.toInt = 1) ∧ cn.toInt < 9066) → lnB fw2 fi.toInt cn.toInt = bt b 0 ∧ ∀ j : Int, 0 ≤ j → j < cn.toInt → lnB fw2 fi.toInt j = lnB fw fi.toInt j)) (B : (((¬ b.toInt = 0 ∧ ¬ b.toInt = 1) → rB.toInt = -12 ∧ mz2.toInt = mz.toInt) ∧ ((b.toInt = 0 ∨ b.toInt = 1) → (9066 ≤ mz.toInt → rB.toInt = -14 ∧ mz2.toInt = mz.toInt) ∧ (mz.toInt < 9066 → rB.toInt = mz.toInt + 1 ∧ mz2.toInt = mz.toInt + 1))) ∧ (¬ ((b.toInt = 0 ∨ b.toInt = 1) ∧ mz.toInt < 9066) → gl2 = gl) ∧ (((b.toInt = 0 ∨ b.toInt = 1) ∧ mz.toInt < 9066) → ∀ j : Nat, gl2 j = if j = mz.toInt.toNat then bi (bt b 0) else gl j))  : cpS wa.toInt cn2.toInt fg gg la gy fw2 fi.toInt gl2 := by
  by_cases k : (b.toInt = 0 ∨ b.toInt = 1) ∧ cn.toInt < 9066
  · obtain ⟨a1, a2⟩ := A.2.2 k
    have b2 := B.2.2 (by omega)
    have q : cn2.toInt = cn.toInt + 1 := by have a := A.1; omega
    have e0 := hE.1
    refine ⟨⟨hC.1.1, hC.1.2.1, fun j x y => ?_⟩, hC.2.1, hC.2.2.1, fun j hj => ?_⟩
    · show lnB fw2 fi.toInt j = bt (gl2 j.toNat) 0
      rw [b2 j.toNat]
      by_cases g : j = cn.toInt
      · rw [if_pos (by omega), bi_t0, g, a1]
      · rw [if_neg (by omega), a2 j x (by omega)]
        exact hC.1.2.2 j x (by omega)
    · rw [b2 j]
      by_cases g : j = mz.toInt.toNat
      · rw [if_pos g, bi_t0]
      · rw [if_neg g]
        exact hC.2.2.2 j (by omega)
  · have q : cn2.toInt = cn.toInt := by have a := A.1; omega
    obtain rfl := A.2.1 k
    obtain rfl := B.2.1 (by omega)
    rw [q]
    exact hC
theorem cp_rcv {fi : Int32} {cn : Int32} {wa : Int32} {mz : Int32} {mw : Int32} {fg : Nat → Int32} {gg : Nat → Int32} {gl : Nat → Int32} {gy : Nat → Int32} {la : Int64} {fw : Nat → Int64} {fi2 cn2 mz2 : Int32} {gl2 gy2 : Nat → Int32} (hE : cn.toInt = mz.toInt ∧ wa.toInt = mw.toInt) (hC : cpS wa.toInt cn.toInt fg gg la gy fw fi.toInt gl) (e2 : cn2.toInt = mz2.toInt) (r2 : 0 ≤ cn2.toInt ∧ cn2.toInt ≤ cn.toInt) (A : ∀ j : Int, lnB fw fi2.toInt j = lnB fw fi.toInt (j + (cn.toInt - cn2.toInt))) (B : ∀ j : Nat, (j : Int) < mz2.toInt → gl2 j = gl (j + (mz.toInt - mz2.toInt).toNat)) (Y : ∀ j, j < 58 → gy2 j = gy j) : cpS wa.toInt cn2.toInt fg gg la gy2 fw fi2.toInt gl2 := by
  have e0 := hE.1
  refine ⟨⟨hC.1.1, fun j hj => ?_, fun j x y => ?_⟩, hC.2.1, fun j hj => ?_, fun j hj => ?_⟩
  · show bl la j = bt (gy2 j) 0
    rw [Y j hj]
    exact hC.1.2.1 j hj
  · show lnB fw fi2.toInt j = bt (gl2 j.toNat) 0
    rw [A j, B j.toNat (by omega), hC.1.2.2 (j + (cn.toInt - cn2.toInt)) (by omega) (by omega)]
    show bt (gl (j + (cn.toInt - cn2.toInt)).toNat) 0 = _
    rw [show (j + (cn.toInt - cn2.toInt)).toNat = j.toNat + (mz.toInt - mz2.toInt).toNat by omega]
  · rw [Y j hj]
    exact hC.2.2.1 j hj
  · rw [B j (by omega)]
    exact hC.2.2.2 _ (by omega)
theorem rcv_le {c cn cn2 r : Int} (g : 0 ≤ cn ∧ cn ≤ 9066) (h1 : c < 0 → r = -12 ∧ cn2 = cn) (h2 : 0 ≤ c → (0 ≤ r ∧ r ≤ cn) ∧ (cn ≤ c → cn2 = 0) ∧ (c < cn → cn2 = cn - c)) : 0 ≤ cn2 ∧ cn2 ≤ cn := by
  rcases (show c < 0 ∨ 0 ≤ c by omega) with k | k
  · have a := h1 k
    omega
  · have a := h2 k
    omega
theorem cp_init : cpS (0 : Int32).toInt (0 : Int32).toInt (fun _ => 0) (fun _ => 0) 0 (fun _ => 0) (fun _ => 0) (0 : Int32).toInt (fun _ => 0) := by
  have z := zi_0
  refine ⟨⟨fun k hk => rfl, fun j hj => ?_, fun j x y => absurd y (by omega)⟩, fun k hk => absurd hk (by omega), fun j hj => ?_, fun j hj => absurd hj (by omega)⟩
  · show bl 0 j = bt 0 0
    rw [bl_0, bt_0]
  · show (0 : Int32) = bi (bt 0 0)
    rw [bt_0]
    rfl
def rcS (t hd hv lk dn ht sl br wh gc c0 c1 tk ss ml mh mp rw wr tc : Int) : Prop :=
  ((0 ≤ dn ∧ dn ≤ 1) ∧ (0 ≤ ht ∧ ht ≤ 63) ∧ (0 ≤ br ∧ br ≤ 63) ∧ (0 ≤ wh ∧ wh ≤ 15) ∧ (0 ≤ hv ∧ hv ≤ 65) ∧ (0 ≤ hd ∧ hd ≤ 3) ∧ (0 ≤ sl ∧ 4 * sl ≤ 9066 * t)) ∧ ((0 ≤ mh ∧ mh ≤ 63) ∧ (0 ≤ wr ∧ wr ≤ 15) ∧ (0 ≤ ss ∧ ss ≤ 1) ∧ (0 ≤ rw ∧ rw ≤ 64) ∧ (0 ≤ mp ∧ 4 * mp ≤ 9066 * t)) ∧ hdK hv hd ∧ rwK ml rw ∧ cpM hd hv lk dn ht sl br wh gc c0 c1 tk ss ml mh mp rw wr tc
theorem rcS_up {t t2 hd hv lk dn ht sl br wh gc c0 c1 tk ss ml mh mp rw wr tc : Int} (h : rcS t hd hv lk dn ht sl br wh gc c0 c1 tk ss ml mh mp rw wr tc) (k : t ≤ t2) : rcS t2 hd hv lk dn ht sl br wh gc c0 c1 tk ss ml mh mp rw wr tc := by
  obtain ⟨a, b, c⟩ := h
  exact ⟨by omega, by omega, c⟩
theorem cpM_eq {hd hv lk dn ht sl br wh gc c0 c1 tk ss ml mh mp rw wr tc : Int} (h : cpM hd hv lk dn ht sl br wh gc c0 c1 tk ss ml mh mp rw wr tc) : lk = ml ∧ ht = mh ∧ sl = mp ∧ hv = tk ∧ gc = tc ∧ wh = wr := by
  have a := h.1
  omega
theorem rc_init {t : Int} (h : 0 ≤ t) : rcS t (0 : Int32).toInt (0 : Int32).toInt (0 : Int32).toInt (0 : Int32).toInt (0 : Int32).toInt (0 : Int32).toInt (0 : Int32).toInt (0 : Int32).toInt (0 : Int32).toInt (0 : Int32).toInt (0 : Int32).toInt (0 : Int32).toInt (0 : Int32).toInt (0 : Int32).toInt (0 : Int32).toInt (0 : Int32).toInt (0 : Int32).toInt (0 : Int32).toInt (0 : Int32).toInt := by
  have z : (0 : Int32).toInt = 0 := zi_0
  rw [z]
  refine ⟨by omega, by omega, ⟨fun _ => rfl, fun q => by omega⟩, fun q => by omega, ⟨rfl, rfl, rfl, rfl, rfl, rfl, rfl⟩, ⟨by omega, fun _ => ⟨rfl, rfl⟩, fun _ => rfl⟩, fun _ => rfl, fun q => by omega, fun q => by omega, fun q => by omega⟩
theorem cnt_lt {c n : Int} {k : Nat} (h : k < cnt c n) (hn : 0 ≤ n) : (k : Int) < n := by
  unfold cnt at h
  by_cases q : c < n
  · rw [if_pos q] at h; omega
  · rw [if_neg q] at h; omega
set_option maxHeartbeats 4000000 in
theorem rc_rcv {t : Int} {fi : Int32} {cn : Int32} {wa : Int32} {mz : Int32} {nn : Int32} {rA : Int32} {rB : Int32} {hd : Int32} {hv : Int32} {lk : Int32} {dn : Int32} {ht : Int32} {sl : Int32} {br : Int32} {wh : Int32} {gc : Int32} {hd2 : Int32} {hv2 : Int32} {lk2 : Int32} {dn2 : Int32} {ht2 : Int32} {sl2 : Int32} {br2 : Int32} {wh2 : Int32} {gc2 : Int32} {tk : Int32} {ss : Int32} {ml : Int32} {mh : Int32} {mp : Int32} {rw : Int32} {wr : Int32} {tc : Int32} {tk2 : Int32} {ss2 : Int32} {ml2 : Int32} {mh2 : Int32} {mp2 : Int32} {rw2 : Int32} {wr2 : Int32} {tc2 : Int32} {fg : Nat → Int32} {gg : Nat → Int32} {gl : Nat → Int32} {gy : Nat → Int32} {go : Nat → Int32} {go2 : Nat → Int32} {la : Int64} {fw : Nat → Int64} (hE : cn.toInt = mz.toInt) (hR : 0 ≤ cn.toInt ∧ cn.toInt ≤ 9066) (hC : cpS wa.toInt cn.toInt fg gg la gy fw fi.toInt gl) (hM : cpM hd.toInt hv.toInt lk.toInt dn.toInt ht.toInt sl.toInt br.toInt wh.toInt gc.toInt (go 0).toInt (go 1).toInt tk.toInt ss.toInt ml.toInt mh.toInt mp.toInt rw.toInt wr.toInt tc.toInt) (hs : 0 ≤ sl.toInt ∧ 4 * sl.toInt ≤ 9066 * t) (hp : 0 ≤ mp.toInt ∧ 4 * mp.toInt ≤ 9066 * t) (A : (((((0 ≤ lk2.toInt ∧ lk2.toInt ≤ 1) ∧ (0 ≤ dn2.toInt ∧ dn2.toInt ≤ 1) ∧ (0 ≤ ht2.toInt ∧ ht2.toInt ≤ 63) ∧ (0 ≤ br2.toInt ∧ br2.toInt ≤ 63) ∧ (0 ≤ wh2.toInt ∧ wh2.toInt ≤ 15)) ∧ (sl.toInt ≤ sl2.toInt ∧ sl2.toInt ≤ sl.toInt + 9066) ∧ (0 ≤ hv2.toInt ∧ hv2.toInt ≤ 65) ∧ (0 ≤ hd2.toInt ∧ hd2.toInt ≤ 3)) ∧ hdK hv2.toInt hd2.toInt) ∧ rcA nn.toInt cn.toInt (fun q : Nat => (bi (lnB fw fi.toInt (q : Int))).toInt) (hd.toInt, hv.toInt, lk.toInt, dn.toInt, ht.toInt, sl.toInt, br.toInt, wh.toInt, gc.toInt) (hd2.toInt, hv2.toInt, lk2.toInt, dn2.toInt, ht2.toInt, sl2.toInt, br2.toInt, wh2.toInt, gc2.toInt) rA.toInt)) (B : (((((0 ≤ ml2.toInt ∧ ml2.toInt ≤ 1) ∧ (0 ≤ mh2.toInt ∧ mh2.toInt ≤ 63) ∧ (0 ≤ wr2.toInt ∧ wr2.toInt ≤ 15) ∧ (0 ≤ ss2.toInt ∧ ss2.toInt ≤ 1) ∧ (0 ≤ rw2.toInt ∧ rw2.toInt ≤ 64)) ∧ (mp.toInt ≤ mp2.toInt ∧ mp2.toInt ≤ mp.toInt + 9066)) ∧ rwK ml2.toInt rw2.toInt) ∧ rcM nn.toInt mz.toInt (fun q : Nat => (gl q).toInt) ((go 0).toInt, (go 1).toInt, tk.toInt, ss.toInt, ml.toInt, mh.toInt, mp.toInt, rw.toInt, wr.toInt, tc.toInt) ((go2 0).toInt, (go2 1).toInt, tk2.toInt, ss2.toInt, ml2.toInt, mh2.toInt, mp2.toInt, rw2.toInt, wr2.toInt, tc2.toInt) rB.toInt)) : rA.toInt = rB.toInt ∧ rcS (t + 4) hd2.toInt hv2.toInt lk2.toInt dn2.toInt ht2.toInt sl2.toInt br2.toInt wh2.toInt gc2.toInt (go2 0).toInt (go2 1).toInt tk2.toInt ss2.toInt ml2.toInt mh2.toInt mp2.toInt rw2.toInt wr2.toInt tc2.toInt := by
  obtain ⟨⟨a1, a2⟩, a3, a4, a5⟩ := A
  obtain ⟨⟨b1, b2⟩, b3, b4, b5⟩ := B
  rw [← hE] at b5
  have c := it_cpl (f := (fun q : Nat => (bi (lnB fw fi.toInt (q : Int))).toInt)) (g := (fun q : Nat => (gl q).toInt)) (S := (hd.toInt, hv.toInt, lk.toInt, dn.toInt, ht.toInt, sl.toInt, br.toInt, wh.toInt, gc.toInt)) (M := ((go 0).toInt, (go 1).toInt, tk.toInt, ss.toInt, ml.toInt, mh.toInt, mp.toInt, rw.toInt, wr.toInt, tc.toInt)) hM (cnt nn.toInt cn.toInt) (hd2.toInt, hv2.toInt, lk2.toInt, dn2.toInt, ht2.toInt, sl2.toInt, br2.toInt, wh2.toInt, gc2.toInt) ((go2 0).toInt, (go2 1).toInt, tk2.toInt, ss2.toInt, ml2.toInt, mh2.toInt, mp2.toInt, rw2.toInt, wr2.toInt, tc2.toInt) (fun k hk => ?_) a5 b5
  · have c : cpM hd2.toInt hv2.toInt lk2.toInt dn2.toInt ht2.toInt sl2.toInt br2.toInt wh2.toInt gc2.toInt (go2 0).toInt (go2 1).toInt tk2.toInt ss2.toInt ml2.toInt mh2.toInt mp2.toInt rw2.toInt wr2.toInt tc2.toInt := c
    refine ⟨?_, by omega, by omega, a2, b2, c⟩
    rcases (show nn.toInt < 0 ∨ 0 ≤ nn.toInt by omega) with q | q
    · rw [a3 q, b3 q]
    · have x : rA.toInt = gc2.toInt - gc.toInt := a4 q
      have y : rB.toInt = tc2.toInt - tc.toInt := b4 q
      have c1 := c.1
      have c2 := hM.1
      omega
  · have hk2 := cnt_lt hk hR.1
    refine ⟨?_, bi_01 _⟩
    show (gl k).toInt = (bi (lnB fw fi.toInt (k : Int))).toInt
    rw [hC.1.2.2 (k : Int) (by omega) hk2]
    exact congrArg Int32.toInt (hC.2.2.2 k hk2)
