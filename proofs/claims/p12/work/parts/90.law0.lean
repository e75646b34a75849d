theorem zi_len {v : Int32} {L : Nat} (e : v = Int32.ofNat L) (h : L ≤ 1000000) : v.toInt = (L : Int) := by
  rw [e]
  exact nI_toInt (by omega)
theorem zi_cmp (x : Int64) : (lg_cmp x x).toInt = 0 := by
  unfold lg_cmp
  rw [if_neg (by simp), if_pos rfl]
  exact zi_0
theorem law_st {sd : Int32} {la lb rA rB : Int64} {gy : Nat → Int32} (hz : la = 0 ∧ lb = 0 ∧ ∀ q, gy q = 0) (hA : (sd.toInt = 0 → rA = la) ∧ (sd.toInt = 1 → rA = lb) ∧ ((¬ sd.toInt = 0 ∧ ¬ sd.toInt = 1) → rA = -12)) (hB : ((sd.toInt < 0 ∨ 1 < sd.toInt) → rB = -12) ∧ ((0 ≤ sd.toInt ∧ sd.toInt ≤ 1 ∧ ∀ q, gy q = 0) → rB = 0)) : rA = rB := by
  obtain ⟨rfl, rfl, hg⟩ := hz
  rcases (show sd.toInt = 0 ∨ sd.toInt = 1 ∨ (sd.toInt < 0 ∨ 1 < sd.toInt) by omega) with h | h | h
  · rw [hA.1 h, hB.2 ⟨by omega, by omega, hg⟩]
  · rw [hA.2.1 h, hB.2 ⟨by omega, by omega, hg⟩]
  · rw [hA.2.2 (by omega), hB.1 h]
set_option maxHeartbeats 4000000 in
theorem eq_put {c wa cn wa2 cn2 mw mz mw2 mz2 r q : Int} (h : cn = mz ∧ wa = mw) (g : (0 ≤ wa ∧ wa < 8) ∧ (0 ≤ cn ∧ cn ≤ 9066)) (hA : ((c < 0 ∨ 259 < c) → r = -12 ∧ wa2 = wa ∧ cn2 = cn) ∧ ((0 ≤ c ∧ c ≤ 259) → ((wa = 7 ∧ 9000 ≤ cn) → r = -14 ∧ wa2 = wa ∧ cn2 = cn) ∧ ((wa = 7 ∧ cn < 9000) → r = 0 ∧ wa2 = 0 ∧ cn2 = cn + 66) ∧ (wa < 7 → r = wa + 1 ∧ wa2 = wa + 1 ∧ cn2 = cn))) (hB : ((c < 0 ∨ 259 < c) → q = -12 ∧ mw2 = mw ∧ mz2 = mz) ∧ ((0 ≤ c ∧ c ≤ 259) → ((mw = 7 ∧ 9000 ≤ mz) → q = -14 ∧ mw2 = mw ∧ mz2 = mz) ∧ ((mw = 7 ∧ mz < 9000) → q = 0 ∧ mw2 = 0 ∧ mz2 = mz + 66) ∧ (mw < 7 → q = mw + 1 ∧ mw2 = mw + 1 ∧ mz2 = mz))) : (r = q ∧ cn2 = mz2 ∧ wa2 = mw2) ∧ (0 ≤ wa2 ∧ wa2 < 8) ∧ (0 ≤ cn2 ∧ cn2 ≤ 9066) := by
  obtain ⟨rfl, rfl⟩ := h
  rcases (show (c < 0 ∨ 259 < c) ∨ (0 ≤ c ∧ c ≤ 259) by omega) with k | k
  · have a := hA.1 k
    have b := hB.1 k
    omega
  · have a := hA.2 k
    have b := hB.2 k
    rcases (show (wa = 7 ∧ 9000 ≤ cn) ∨ (wa = 7 ∧ cn < 9000) ∨ wa < 7 by omega) with k2 | k2 | k2
    · have a := a.1 k2
      have b := b.1 k2
      omega
    · have a := a.2.1 k2
      have b := b.2.1 k2
      omega
    · have a := a.2.2 k2
      have b := b.2.2 k2
      omega
set_option maxHeartbeats 4000000 in
theorem eq_word {wa cn wa2 cn2 mw mz mw2 mz2 r q : Int} (h : cn = mz ∧ wa = mw) (g : (0 ≤ wa ∧ wa < 8) ∧ (0 ≤ cn ∧ cn ≤ 9066)) (hA : (9000 ≤ cn → r = -14 ∧ wa2 = wa ∧ cn2 = cn) ∧ (cn < 9000 → r = wa ∧ wa2 = wa ∧ cn2 = cn + 66)) (hB : (9000 ≤ mz → q = -14 ∧ mw2 = mw ∧ mz2 = mz) ∧ (mz < 9000 → q = mw ∧ mw2 = mw ∧ mz2 = mz + 66)) : (r = q ∧ cn2 = mz2 ∧ wa2 = mw2) ∧ (0 ≤ wa2 ∧ wa2 < 8) ∧ (0 ≤ cn2 ∧ cn2 ≤ 9066) := by
  obtain ⟨rfl, rfl⟩ := h
  rcases (show 9000 ≤ cn ∨ cn < 9000 by omega) with k | k
  · have a := hA.1 k
    have b := hB.1 k
    omega
  · have a := hA.2 k
    have b := hB.2 k
    omega
set_option maxHeartbeats 4000000 in
theorem eq_idle {c wa cn wa2 cn2 mw mz mw2 mz2 r q : Int} (h : cn = mz ∧ wa = mw) (g : (0 ≤ wa ∧ wa < 8) ∧ (0 ≤ cn ∧ cn ≤ 9066)) (hA : (wa2 = wa) ∧ ((c < 1 ∨ 100 < c ∨ 0 < wa) → r = -12 ∧ cn2 = cn) ∧ ((1 ≤ c ∧ c ≤ 100 ∧ wa = 0) → (9000 ≤ cn + 66 * (c - 1) → r = -14 ∧ cn2 = cn) ∧ (cn + 66 * (c - 1) < 9000 → r = cn + 66 * c ∧ cn2 = cn + 66 * c))) (hB : (mw2 = mw) ∧ ((c < 1 ∨ 100 < c ∨ 0 < mw) → q = -12 ∧ mz2 = mz) ∧ ((1 ≤ c ∧ c ≤ 100 ∧ mw = 0) → (9000 ≤ mz + 66 * (c - 1) → q = -14 ∧ mz2 = mz) ∧ (mz + 66 * (c - 1) < 9000 → q = mz + 66 * c ∧ mz2 = mz + 66 * c))) : (r = q ∧ cn2 = mz2 ∧ wa2 = mw2) ∧ (0 ≤ wa2 ∧ wa2 < 8) ∧ (0 ≤ cn2 ∧ cn2 ≤ 9066) := by
  obtain ⟨rfl, rfl⟩ := h
  rcases (show (c < 1 ∨ 100 < c ∨ 0 < wa) ∨ (1 ≤ c ∧ c ≤ 100 ∧ wa = 0) by omega) with k | k
  · have a := hA.2.1 k
    have b := hB.2.1 k
    omega
  · have a := hA.2.2 k
    have b := hB.2.2 k
    rcases (show 9000 ≤ cn + 66 * (c - 1) ∨ cn + 66 * (c - 1) < 9000 by omega) with k2 | k2
    · have a := a.1 k2
      have b := b.1 k2
      omega
    · have a := a.2 k2
      have b := b.2 k2
      omega
theorem eq_add {c cn cn2 mz mz2 r q : Int} (h : cn = mz) (g : 0 ≤ cn ∧ cn ≤ 9066) (hA : ((¬ c = 0 ∧ ¬ c = 1) → r = -12 ∧ cn2 = cn) ∧ ((c = 0 ∨ c = 1) → (9066 ≤ cn → r = -14 ∧ cn2 = cn) ∧ (cn < 9066 → r = cn + 1 ∧ cn2 = cn + 1))) (hB : ((¬ c = 0 ∧ ¬ c = 1) → q = -12 ∧ mz2 = mz) ∧ ((c = 0 ∨ c = 1) → (9066 ≤ mz → q = -14 ∧ mz2 = mz) ∧ (mz < 9066 → q = mz + 1 ∧ mz2 = mz + 1))) : (r = q ∧ cn2 = mz2) ∧ (0 ≤ cn2 ∧ cn2 ≤ 9066) := by
  obtain rfl := h
  rcases (show (¬ c = 0 ∧ ¬ c = 1) ∨ (c = 0 ∨ c = 1) by omega) with k | k
  · have a := hA.1 k
    have b := hB.1 k
    omega
  · have a := hA.2 k
    have b := hB.2 k
    rcases (show 9066 ≤ cn ∨ cn < 9066 by omega) with k2 | k2
    · have a := a.1 k2
      have b := b.1 k2
      omega
    · have a := a.2 k2
      have b := b.2 k2
      omega
theorem eq_receive {c cn cn2 mz mz2 r q : Int} (h : cn = mz) (g : 0 ≤ cn ∧ cn ≤ 9066) (hA : (c < 0 → r = -12 ∧ cn2 = cn) ∧ (0 ≤ c → (0 ≤ r ∧ r ≤ cn) ∧ (cn ≤ c → cn2 = 0) ∧ (c < cn → cn2 = cn - c))) (hB : (c < 0 → q = -12 ∧ mz2 = mz) ∧ (0 ≤ c → (0 ≤ q ∧ q ≤ mz) ∧ (mz ≤ c → mz2 = 0) ∧ (c < mz → mz2 = mz - c))) : (cn2 = mz2 ∧ (0 ≤ cn2 ∧ cn2 ≤ 9066)) ∧ (cn = 0 → r = q) := by
  obtain rfl := h
  rcases (show c < 0 ∨ 0 ≤ c by omega) with k | k
  · have a := hA.1 k
    have b := hB.1 k
    omega
  · have a := hA.2 k
    have b := hB.2 k
    rcases (show cn ≤ c ∨ c < cn by omega) with k2 | k2
    · have a1 := a.2.1 k2
      have b1 := b.2.1 k2
      omega
    · have a1 := a.2.2 k2
      have b1 := b.2.2 k2
      omega
theorem eq_receiver {x r q lk ht sl hv gc wh ml mh mp tk tc wr : Int} (h : lk = ml ∧ ht = mh ∧ sl = mp ∧ hv = tk ∧ gc = tc ∧ wh = wr) (hA : (x = 0 → r = lk) ∧ (x = 1 → r = ht) ∧ (x = 2 → r = sl) ∧ (x = 3 → r = hv) ∧ (x = 4 → r = gc) ∧ (x = 5 → r = wh) ∧ ((x < 0 ∨ 5 < x) → r = -12)) (hB : (x = 0 → q = ml) ∧ (x = 1 → q = mh) ∧ (x = 2 → q = mp) ∧ (x = 3 → q = tk) ∧ (x = 4 → q = tc) ∧ (x = 5 → q = wr) ∧ ((x < 0 ∨ 5 < x) → q = -12)) : r = q := by
  rcases (show x = 0 ∨ x = 1 ∨ x = 2 ∨ x = 3 ∨ x = 4 ∨ x = 5 ∨ (x < 0 ∨ 5 < x) by omega) with k | k | k | k | k | k | k
  · rw [hA.1 k, hB.1 k]; exact h.1
  · rw [hA.2.1 k, hB.2.1 k]; exact h.2.1
  · rw [hA.2.2.1 k, hB.2.2.1 k]; exact h.2.2.1
  · rw [hA.2.2.2.1 k, hB.2.2.2.1 k]; exact h.2.2.2.1
  · rw [hA.2.2.2.2.1 k, hB.2.2.2.2.1 k]; exact h.2.2.2.2.1
  · rw [hA.2.2.2.2.2.1 k, hB.2.2.2.2.2.1 k]; exact h.2.2.2.2.2
  · rw [hA.2.2.2.2.2.2 k, hB.2.2.2.2.2.2 k]
def LI (A : Nat → Prop) (s : State) (D : va_G) (cI cJ cB : ClassId) (aX aL aW aS aC aG aR aB aQ aT aP aM bG bL bY bB bC bT : Nat) (t : Int) (H : Heap) (locs : List Loc) : Prop := ∃ (fi : Int32) (cn : Int32) (fw : Nat → Int64) (wa : Int32) (la : Int64) (fg : Nat → Int32) (hd : Int32) (pl : Int64) (hv : Int32) (lk : Int32) (dn : Int32) (ht : Int32) (sl : Int32) (br : Int32) (wh : Int32) (lb : Int64) (gc : Int32) (ft : Nat → Int32) (fp : Nat → Int64) (th : Int32) (mw : Int32) (mz : Int32) (tk : Int32) (ss : Int32) (ml : Int32) (mh : Int32) (mp : Int32) (rw : Int32) (wr : Int32) (tc : Int32) (gg : Nat → Int32) (gl : Nat → Int32) (gy : Nat → Int32) (gb : Nat → Int32) (go : Nat → Int32) (gt : Nat → Int32), ((cn.toInt = mz.toInt ∧ wa.toInt = mw.toInt) ∧ ((0 ≤ wa.toInt ∧ wa.toInt < 8) ∧ (0 ≤ cn.toInt ∧ cn.toInt ≤ 9066)) ∧ (0 ≤ fi.toInt ∧ fi.toInt < 9088) ∧ ((0 ≤ lk.toInt ∧ lk.toInt ≤ 1) ∧ (0 ≤ ml.toInt ∧ ml.toInt ≤ 1) ∧ (0 ≤ tk.toInt ∧ tk.toInt ≤ 65)) ∧ ((0 ≤ gc.toInt ∧ 4 * gc.toInt ≤ 9066 * t) ∧ (0 ≤ tc.toInt ∧ 4 * tc.toInt ≤ 9066 * t)) ∧ (cpS wa.toInt cn.toInt fg gg la gy fw fi.toInt gl) ∧ (rcS t hd.toInt hv.toInt lk.toInt dn.toInt ht.toInt sl.toInt br.toInt wh.toInt gc.toInt (go 0).toInt (go 1).toInt tk.toInt ss.toInt ml.toInt mh.toInt mp.toInt rw.toInt wr.toInt tc.toInt)) ∧ va_P D classes [(aX, .inr (5, [.ref aL, .ref aS, .ref aR])), (aL, .inr (1, [.ref aW, .int fi, .int cn])), (aW, .inl (cJ, 142, .inr (.inl fw))), (aS, .inr (4, [.ref aC, .ref aG, .int wa])), (aC, .inr (3, [.long la])), (aG, .inl (cI, 8, .inl fg)), (aR, .inr (2, [.ref aB, .ref aQ, .int hd, .long pl, .int hv, .int lk, .int dn, .int ht, .int sl, .int br, .int wh])), (aB, .inr (3, [.long lb])), (aQ, .inr (0, [.ref aT, .ref aP, .int gc])), (aT, .inl (cI, 300, .inl ft)), (aP, .inl (cJ, 300, .inr (.inl fp))), (aM, .inr (6, [.int th, .int mw, .ref bG, .int mz, .ref bL, .ref bY, .ref bB, .ref bC, .int tk, .int ss, .int ml, .int mh, .int mp, .int rw, .int wr, .int tc, .ref bT])), (bG, .inl (cI, 8, .inl gg)), (bL, .inl (cB, 9200, .inl gl)), (bY, .inl (cI, 116, .inl gy)), (bB, .inl (cI, 66, .inl gb)), (bC, .inl (cI, 66, .inl go)), (bT, .inl (cI, 2400, .inl gt))] H ∧ va_D A [(aX, .inr (5, [.ref aL, .ref aS, .ref aR])), (aL, .inr (1, [.ref aW, .int fi, .int cn])), (aW, .inl (cJ, 142, .inr (.inl fw))), (aS, .inr (4, [.ref aC, .ref aG, .int wa])), (aC, .inr (3, [.long la])), (aG, .inl (cI, 8, .inl fg)), (aR, .inr (2, [.ref aB, .ref aQ, .int hd, .long pl, .int hv, .int lk, .int dn, .int ht, .int sl, .int br, .int wh])), (aB, .inr (3, [.long lb])), (aQ, .inr (0, [.ref aT, .ref aP, .int gc])), (aT, .inl (cI, 300, .inl ft)), (aP, .inl (cJ, 300, .inr (.inl fp))), (aM, .inr (6, [.int th, .int mw, .ref bG, .int mz, .ref bL, .ref bY, .ref bB, .ref bC, .int tk, .int ss, .int ml, .int mh, .int mp, .int rw, .int wr, .int tc, .ref bT])), (bG, .inl (cI, 8, .inl gg)), (bL, .inl (cB, 9200, .inl gl)), (bY, .inl (cI, 116, .inl gy)), (bB, .inl (cI, 66, .inl gb)), (bC, .inl (cI, 66, .inl go)), (bT, .inl (cI, 2400, .inl gt))] ∧ va_S A s.heap H locs
set_option maxHeartbeats 8000000 in
set_option maxRecDepth 100000 in
theorem law_c0 {p : Program} {l : Launch} {e : Env} {s : State} {m : MethodId} {args : Array Value} {below : List Frame} {meth : Method} {c : Code} {A : Nat → Prop} {Q : State → Prop} {D : va_G} {cI cJ cB : ClassId} {b L : Nat} {xs : Nat → Int32} (hL : L ≤ 2048)
    (hx : p.tables.exec = Jvm.exec) (hb : c.code = cL_law) (hml : c.maxLocals = 4) (hown : s.vm.findClass RL = some m.cls) (hts : ∀ w ∈ lw_good, w.before args s = true) (hK : va_K D classes (tys3 cI cJ cB) s) (hA : ∀ q : Nat, s.heap.size ≤ q → A q) (hZ : st_T A s s.heap) (hN : nw_T s) (hX : va_X b L xs s s.heap) (hbl : b < s.heap.size) (hbA : ¬ A b)
    {aX aL aW aS aC aG aR aB aQ aT aP aM bG bL bY bB bC bT : Nat} {i : Int32} {H : Heap} {locs : List Loc} {ls : Array Slot} (hi : 0 ≤ i.toInt ∧ i.toInt + 4 ≤ (L : Int)) (hI0 : LI A s D cI cJ cB aX aL aW aS aC aG aR aB aQ aT aP aM bG bL bY bB bC bT i.toInt H locs) (hl : lv_has ls 4 [(3, .int i), (2, .ref aM), (1, .ref aX), (0, .ref b)])
    (kk : ∀ (H : Heap) (locs : List Loc) (ls : Array Slot), LI A s D cI cJ cB aX aL aW aS aC aG aR aB aQ aT aP aM bG bL bY bB bC bT (i.toInt + 4) H locs → lv_has ls 4 [(3, .int i), (2, .ref aM), (1, .ref aX), (0, .ref b)] → W p l e room_1 s m args below meth c H locs 18 12648 Q (F0 m 395 ls [])) :
    W p l e room_1 s m args below meth c H locs 18 12648 Q (F0 m 92 ls []) := by
  obtain ⟨fi, cn, fw, wa, la, fg, hd, pl, hv, lk, dn, ht, sl, br, wh, lb, gc, ft, fp, th, mw, mz, tk, ss, ml, mh, mp, rw, wr, tc, gg, gl, gy, gb, go, gt, hI, hP, hD, hS⟩ := hI0
  obtain ⟨hE, hR, hF, hB, hT, hC, hM⟩ := hI
  have hV := hC.2.1
  have hY := hC.2.2.1
  have hLn : ∀ j : Nat, (j : Int) < mz.toInt → gl j = bi (bt (gl j) 0) := fun j hj => hC.2.2.2 j (by omega)
  refine lv_aload_n hx hb dL_law_92 rfl (lv_at hl 2 rfl) ?_
  refine lv_aload_n hx hb dL_law_93 rfl (lv_at hl 3 rfl) ?_
  refine lv_iload_n hx hb dL_law_94 rfl (lv_at hl 0 rfl) ?_
  refine lv_iconst (v := 1) hx hb dL_law_95 (by decide) ?_
  refine lv_topi (fun v1 e1 => ?_)
  have z1 : v1.toInt = 1 := zi_c e1 (by decide)
  refine lv_iadd hx hb dL_law_96 ?_
  refine lv_topi (fun v2 e2 => ?_)
  first | have z2 := zi_add e2 (by omega) | skip
  refine va_sld hx hb hX hbl hbA hS (zi_in (by omega)) dL_law_97 ?_
  refine lv_topi (fun v3 e3 => ?_)
  have hh4 : 0 ≤ fi.toInt ∧ fi.toInt < 9088 := (by omega)
  have hh5 : 0 ≤ cn.toInt ∧ cn.toInt ≤ 9066 := (by omega)
  have hh6 : 0 ≤ wa.toInt ∧ wa.toInt < 8 := (by omega)
  have hh7 : ∀ k : Nat, (k : Int) < wa.toInt → 0 ≤ (fg k).toInt ∧ (fg k).toInt ≤ 259 := hV
  refine call_i (wc := [(aX, .inr (5, [.ref aL, .ref aS, .ref aR])), (aL, .inr (1, [.ref aW, .int fi, .int cn])), (aW, .inl (cJ, 142, .inr (.inl fw))), (aS, .inr (4, [.ref aC, .ref aG, .int wa])), (aC, .inr (3, [.long la])), (aG, .inl (cI, 8, .inl fg))]) (wr := [(aR, .inr (2, [.ref aB, .ref aQ, .int hd, .long pl, .int hv, .int lk, .int dn, .int ht, .int sl, .int br, .int wh])), (aB, .inr (3, [.long lb])), (aQ, .inr (0, [.ref aT, .ref aP, .int gc])), (aT, .inl (cI, 300, .inl ft)), (aP, .inl (cJ, 300, .inr (.inl fp))), (aM, .inr (6, [.int th, .int mw, .ref bG, .int mz, .ref bL, .ref bY, .ref bB, .ref bC, .int tk, .int ss, .int ml, .int mh, .int mp, .int rw, .int wr, .int tc, .ref bT])), (bG, .inl (cI, 8, .inl gg)), (bL, .inl (cB, 9200, .inl gl)), (bY, .inl (cI, 116, .inl gy)), (bB, .inl (cI, 66, .inl gb)), (bC, .inl (cI, 66, .inl go)), (bT, .inl (cI, 2400, .inl gt))]) (run_V (As := [.int v3]) (rest := []) kv_RL_13 ⟨by decide, by decide⟩ ⟨rfl, rfl⟩ ⟨hx, hb, hml, hown, hts⟩ (c_LB_put l D cI cJ cB aX aL aW aS aC aG aR fi cn wa fw la fg v3 hh4 hh5 hh6 hh7 _) ct_blind (ct_pre (wc := [(aX, .inr (5, [.ref aL, .ref aS, .ref aR])), (aL, .inr (1, [.ref aW, .int fi, .int cn])), (aW, .inl (cJ, 142, .inr (.inl fw))), (aS, .inr (4, [.ref aC, .ref aG, .int wa])), (aC, .inr (3, [.long la])), (aG, .inl (cI, 8, .inl fg))]) hK hP hD hS hA hZ hN [0, 1, 2, 3, 4, 5] (by decide) rfl rfl) (va_recv hK hP (ci := 5) (q0 := 0) rfl rfl) rfl hl.1 rfl (Nat.le_of_ble_eq_true rfl) dL_law_98 ⟨Nat.le_of_ble_eq_true rfl, Nat.le_of_ble_eq_true rfl⟩) hP hD hS hA [0, 1, 2, 3, 4, 5] [6, 7, 8, 9, 10, 11, 12, 13, 14, 15, 16, 17] rfl rfl (by decide) (by decide) (fun r8 u H locs hw8 hP1 hD1 hS1 => ?_)
  obtain ⟨cn2_8, wa2_8, fw2_8, la2_8, fg2_8⟩ := u
  have hw8 : (((v3.toInt < 0 ∨ 259 < v3.toInt) → r8.toInt = -12 ∧ wa2_8.toInt = wa.toInt ∧ cn2_8.toInt = cn.toInt) ∧ ((0 ≤ v3.toInt ∧ v3.toInt ≤ 259) → ((wa.toInt = 7 ∧ 9000 ≤ cn.toInt) → r8.toInt = -14 ∧ wa2_8.toInt = wa.toInt ∧ cn2_8.toInt = cn.toInt) ∧ ((wa.toInt = 7 ∧ cn.toInt < 9000) → r8.toInt = 0 ∧ wa2_8.toInt = 0 ∧ cn2_8.toInt = cn.toInt + 66) ∧ (wa.toInt < 7 → r8.toInt = wa.toInt + 1 ∧ wa2_8.toInt = wa.toInt + 1 ∧ cn2_8.toInt = cn.toInt))) ∧ ((v3.toInt < 0 ∨ 259 < v3.toInt ∨ (wa.toInt = 7 ∧ 9000 ≤ cn.toInt)) → fg2_8 = fg ∧ la2_8 = la ∧ fw2_8 = fw) ∧ (¬ (v3.toInt < 0 ∨ 259 < v3.toInt ∨ (wa.toInt = 7 ∧ 9000 ≤ cn.toInt)) → accR v3 wa.toInt wa2_8.toInt cn.toInt cn2_8.toInt fg fg2_8 (bl la) (bl la2_8) (lnB fw fi.toInt) (lnB fw2_8 fi.toInt)) := hw8
  clear hP hD hS
  have hP : va_P D classes [(aR, .inr (2, [.ref aB, .ref aQ, .int hd, .long pl, .int hv, .int lk, .int dn, .int ht, .int sl, .int br, .int wh])), (aB, .inr (3, [.long lb])), (aQ, .inr (0, [.ref aT, .ref aP, .int gc])), (aT, .inl (cI, 300, .inl ft)), (aP, .inl (cJ, 300, .inr (.inl fp))), (aM, .inr (6, [.int th, .int mw, .ref bG, .int mz, .ref bL, .ref bY, .ref bB, .ref bC, .int tk, .int ss, .int ml, .int mh, .int mp, .int rw, .int wr, .int tc, .ref bT])), (bG, .inl (cI, 8, .inl gg)), (bL, .inl (cB, 9200, .inl gl)), (bY, .inl (cI, 116, .inl gy)), (bB, .inl (cI, 66, .inl gb)), (bC, .inl (cI, 66, .inl go)), (bT, .inl (cI, 2400, .inl gt)), (aX, .inr (5, [.ref aL, .ref aS, .ref aR])), (aL, .inr (1, [.ref aW, .int fi, .int cn2_8])), (aW, .inl (cJ, 142, .inr (.inl fw2_8))), (aS, .inr (4, [.ref aC, .ref aG, .int wa2_8])), (aC, .inr (3, [.long la2_8])), (aG, .inl (cI, 8, .inl fg2_8))] H := hP1
  have hD : va_D A [(aR, .inr (2, [.ref aB, .ref aQ, .int hd, .long pl, .int hv, .int lk, .int dn, .int ht, .int sl, .int br, .int wh])), (aB, .inr (3, [.long lb])), (aQ, .inr (0, [.ref aT, .ref aP, .int gc])), (aT, .inl (cI, 300, .inl ft)), (aP, .inl (cJ, 300, .inr (.inl fp))), (aM, .inr (6, [.int th, .int mw, .ref bG, .int mz, .ref bL, .ref bY, .ref bB, .ref bC, .int tk, .int ss, .int ml, .int mh, .int mp, .int rw, .int wr, .int tc, .ref bT])), (bG, .inl (cI, 8, .inl gg)), (bL, .inl (cB, 9200, .inl gl)), (bY, .inl (cI, 116, .inl gy)), (bB, .inl (cI, 66, .inl gb)), (bC, .inl (cI, 66, .inl go)), (bT, .inl (cI, 2400, .inl gt)), (aX, .inr (5, [.ref aL, .ref aS, .ref aR])), (aL, .inr (1, [.ref aW, .int fi, .int cn2_8])), (aW, .inl (cJ, 142, .inr (.inl fw2_8))), (aS, .inr (4, [.ref aC, .ref aG, .int wa2_8])), (aC, .inr (3, [.long la2_8])), (aG, .inl (cI, 8, .inl fg2_8))] := hD1
  have hS := hS1
  clear hP1 hD1 hS1
  refine lv_pop hx hb dL_law_101 rfl ?_
  refine lv_aload_n hx hb dL_law_102 rfl (lv_at hl 1 rfl) ?_
  refine lv_aload_n hx hb dL_law_103 rfl (lv_at hl 3 rfl) ?_
  refine lv_iload_n hx hb dL_law_104 rfl (lv_at hl 0 rfl) ?_
  refine lv_iconst (v := 1) hx hb dL_law_105 (by decide) ?_
  refine lv_topi (fun v9 e9 => ?_)
  have z9 : v9.toInt = 1 := zi_c e9 (by decide)
  refine lv_iadd hx hb dL_law_106 ?_
  refine lv_topi (fun v10 e10 => ?_)
  first | have z10 := zi_add e10 (by omega) | skip
  refine va_sld hx hb hX hbl hbA hS (zi_in (by omega)) dL_law_107 ?_
  rw [show xs v10.toNatClampNeg = v3 from by rw [e3, show v10 = v2 from Int32.toInt_inj.mp (by omega)]]
  have hh11 : 0 ≤ mz.toInt ∧ mz.toInt ≤ 9066 := (by omega)
  have hh12 : 0 ≤ mw.toInt ∧ mw.toInt < 8 := (by omega)
  have hh13 : ∀ j, j < 58 → gy j = bi (bt (gy j) 0) := hY
  have hh14 : ∀ j : Nat, (j : Int) < mz.toInt → gl j = bi (bt (gl j) 0) := hLn
  refine call_i (wc := [(aM, .inr (6, [.int th, .int mw, .ref bG, .int mz, .ref bL, .ref bY, .ref bB, .ref bC, .int tk, .int ss, .int ml, .int mh, .int mp, .int rw, .int wr, .int tc, .ref bT])), (bG, .inl (cI, 8, .inl gg)), (bL, .inl (cB, 9200, .inl gl)), (bY, .inl (cI, 116, .inl gy)), (bB, .inl (cI, 66, .inl gb))]) (wr := [(aR, .inr (2, [.ref aB, .ref aQ, .int hd, .long pl, .int hv, .int lk, .int dn, .int ht, .int sl, .int br, .int wh])), (aB, .inr (3, [.long lb])), (aQ, .inr (0, [.ref aT, .ref aP, .int gc])), (aT, .inl (cI, 300, .inl ft)), (aP, .inl (cJ, 300, .inr (.inl fp))), (bC, .inl (cI, 66, .inl go)), (bT, .inl (cI, 2400, .inl gt)), (aX, .inr (5, [.ref aL, .ref aS, .ref aR])), (aL, .inr (1, [.ref aW, .int fi, .int cn2_8])), (aW, .inl (cJ, 142, .inr (.inl fw2_8))), (aS, .inr (4, [.ref aC, .ref aG, .int wa2_8])), (aC, .inr (3, [.long la2_8])), (aG, .inl (cI, 8, .inl fg2_8))]) (run_V (As := [.int v3]) (rest := []) kv_RL_17 ⟨by decide, by decide⟩ ⟨rfl, rfl⟩ ⟨hx, hb, hml, hown, hts⟩ (c_Mo_put l D cI cJ cB aM bG bL bY bB bC bT th mw mz tk ss ml mh mp rw wr tc gg gl gy gb v3 hh11 hh12 hh13 hh14 _) ct_blind (ct_pre (wc := [(aM, .inr (6, [.int th, .int mw, .ref bG, .int mz, .ref bL, .ref bY, .ref bB, .ref bC, .int tk, .int ss, .int ml, .int mh, .int mp, .int rw, .int wr, .int tc, .ref bT])), (bG, .inl (cI, 8, .inl gg)), (bL, .inl (cB, 9200, .inl gl)), (bY, .inl (cI, 116, .inl gy)), (bB, .inl (cI, 66, .inl gb))]) hK hP hD hS hA hZ hN [5, 6, 7, 8, 9] (by decide) rfl rfl) (va_recv hK hP (ci := 6) (q0 := 5) rfl rfl) rfl hl.1 rfl (Nat.le_of_ble_eq_true rfl) dL_law_108 ⟨Nat.le_of_ble_eq_true rfl, Nat.le_of_ble_eq_true rfl⟩) hP hD hS hA [5, 6, 7, 8, 9] [0, 1, 2, 3, 4, 10, 11, 12, 13, 14, 15, 16, 17] rfl rfl (by decide) (by decide) (fun r15 u H locs hw15 hP1 hD1 hS1 => ?_)
  obtain ⟨th2_15, mw2_15, mz2_15, gg2_15, gl2_15, gy2_15, gb2_15⟩ := u
  have hw15 : (((v3.toInt < 0 ∨ 259 < v3.toInt) → r15.toInt = -12 ∧ mw2_15.toInt = mw.toInt ∧ mz2_15.toInt = mz.toInt) ∧ ((0 ≤ v3.toInt ∧ v3.toInt ≤ 259) → ((mw.toInt = 7 ∧ 9000 ≤ mz.toInt) → r15.toInt = -14 ∧ mw2_15.toInt = mw.toInt ∧ mz2_15.toInt = mz.toInt) ∧ ((mw.toInt = 7 ∧ mz.toInt < 9000) → r15.toInt = 0 ∧ mw2_15.toInt = 0 ∧ mz2_15.toInt = mz.toInt + 66) ∧ (mw.toInt < 7 → r15.toInt = mw.toInt + 1 ∧ mw2_15.toInt = mw.toInt + 1 ∧ mz2_15.toInt = mz.toInt))) ∧ eP ((∀ j, j < 58 → gy2_15 j = bi (bt (gy2_15 j) 0)) ∧ (∀ j : Nat, (j : Int) < mz2_15.toInt → gl2_15 j = bi (bt (gl2_15 j) 0)) ∧ ((v3.toInt < 0 ∨ 259 < v3.toInt ∨ (mw.toInt = 7 ∧ 9000 ≤ mz.toInt)) → gg2_15 = gg ∧ gy2_15 = gy ∧ gl2_15 = gl) ∧ (¬ (v3.toInt < 0 ∨ 259 < v3.toInt ∨ (mw.toInt = 7 ∧ 9000 ≤ mz.toInt)) → accR v3 mw.toInt mw2_15.toInt mz.toInt mz2_15.toInt gg gg2_15 (sgB gy) (sgB gy2_15) (mlB gl) (mlB gl2_15))) := hw15
  clear hP hD hS
  have hP : va_P D classes [(aR, .inr (2, [.ref aB, .ref aQ, .int hd, .long pl, .int hv, .int lk, .int dn, .int ht, .int sl, .int br, .int wh])), (aB, .inr (3, [.long lb])), (aQ, .inr (0, [.ref aT, .ref aP, .int gc])), (aT, .inl (cI, 300, .inl ft)), (aP, .inl (cJ, 300, .inr (.inl fp))), (bC, .inl (cI, 66, .inl go)), (bT, .inl (cI, 2400, .inl gt)), (aX, .inr (5, [.ref aL, .ref aS, .ref aR])), (aL, .inr (1, [.ref aW, .int fi, .int cn2_8])), (aW, .inl (cJ, 142, .inr (.inl fw2_8))), (aS, .inr (4, [.ref aC, .ref aG, .int wa2_8])), (aC, .inr (3, [.long la2_8])), (aG, .inl (cI, 8, .inl fg2_8)), (aM, .inr (6, [.int th2_15, .int mw2_15, .ref bG, .int mz2_15, .ref bL, .ref bY, .ref bB, .ref bC, .int tk, .int ss, .int ml, .int mh, .int mp, .int rw, .int wr, .int tc, .ref bT])), (bG, .inl (cI, 8, .inl gg2_15)), (bL, .inl (cB, 9200, .inl gl2_15)), (bY, .inl (cI, 116, .inl gy2_15)), (bB, .inl (cI, 66, .inl gb2_15))] H := hP1
  have hD : va_D A [(aR, .inr (2, [.ref aB, .ref aQ, .int hd, .long pl, .int hv, .int lk, .int dn, .int ht, .int sl, .int br, .int wh])), (aB, .inr (3, [.long lb])), (aQ, .inr (0, [.ref aT, .ref aP, .int gc])), (aT, .inl (cI, 300, .inl ft)), (aP, .inl (cJ, 300, .inr (.inl fp))), (bC, .inl (cI, 66, .inl go)), (bT, .inl (cI, 2400, .inl gt)), (aX, .inr (5, [.ref aL, .ref aS, .ref aR])), (aL, .inr (1, [.ref aW, .int fi, .int cn2_8])), (aW, .inl (cJ, 142, .inr (.inl fw2_8))), (aS, .inr (4, [.ref aC, .ref aG, .int wa2_8])), (aC, .inr (3, [.long la2_8])), (aG, .inl (cI, 8, .inl fg2_8)), (aM, .inr (6, [.int th2_15, .int mw2_15, .ref bG, .int mz2_15, .ref bL, .ref bY, .ref bB, .ref bC, .int tk, .int ss, .int ml, .int mh, .int mp, .int rw, .int wr, .int tc, .ref bT])), (bG, .inl (cI, 8, .inl gg2_15)), (bL, .inl (cB, 9200, .inl gl2_15)), (bY, .inl (cI, 116, .inl gy2_15)), (bB, .inl (cI, 66, .inl gb2_15))] := hD1
  have hS := hS1
  clear hP1 hD1 hS1
  have hk := eq_put hE hR hw8.1 hw15.1
  have hC2 := cp_put hE hR hC hw8 hw15
  clear hw8 hw15 hC hV hY hLn
  have hC := hC2
  refine lv_pop hx hb dL_law_111 rfl ?_
  refine lv_goto (tgt := 395) hx hb dL_law_112 (by decide) ?_
  exact kk _ _ _ ⟨fi, cn2_8, fw2_8, wa2_8, la2_8, fg2_8, hd, pl, hv, lk, dn, ht, sl, br, wh, lb, gc, ft, fp, th2_15, mw2_15, mz2_15, tk, ss, ml, mh, mp, rw, wr, tc, gg2_15, gl2_15, gy2_15, gb2_15, go, gt, ⟨by omega, by omega, by omega, by omega, by omega, hC, rcS_up hM (by omega)⟩, hP.sub [7, 8, 9, 10, 11, 12, 0, 1, 2, 3, 4, 13, 14, 15, 16, 17, 5, 6] rfl, hD.sub [7, 8, 9, 10, 11, 12, 0, 1, 2, 3, 4, 13, 14, 15, 16, 17, 5, 6] (by decide) rfl, hS⟩ (lv_sub hl [0, 1, 2, 3] rfl)
set_option maxHeartbeats 8000000 in
set_option maxRecDepth 100000 in
theorem law_c1 {p : Program} {l : Launch} {e : Env} {s : State} {m : MethodId} {args : Array Value} {below : List Frame} {meth : Method} {c : Code} {A : Nat → Prop} {Q : State → Prop} {D : va_G} {cI cJ cB : ClassId} {b L : Nat} {xs : Nat → Int32} (hL : L ≤ 2048)
    (hx : p.tables.exec = Jvm.exec) (hb : c.code = cL_law) (hml : c.maxLocals = 4) (hown : s.vm.findClass RL = some m.cls) (hts : ∀ w ∈ lw_good, w.before args s = true) (hK : va_K D classes (tys3 cI cJ cB) s) (hA : ∀ q : Nat, s.heap.size ≤ q → A q) (hZ : st_T A s s.heap) (hN : nw_T s) (hX : va_X b L xs s s.heap) (hbl : b < s.heap.size) (hbA : ¬ A b)
    {aX aL aW aS aC aG aR aB aQ aT aP aM bG bL bY bB bC bT : Nat} {i : Int32} {H : Heap} {locs : List Loc} {ls : Array Slot} (hi : 0 ≤ i.toInt ∧ i.toInt + 4 ≤ (L : Int)) (hI0 : LI A s D cI cJ cB aX aL aW aS aC aG aR aB aQ aT aP aM bG bL bY bB bC bT i.toInt H locs) (hl : lv_has ls 4 [(3, .int i), (2, .ref aM), (1, .ref aX), (0, .ref b)])
    (kk : ∀ (H : Heap) (locs : List Loc) (ls : Array Slot), LI A s D cI cJ cB aX aL aW aS aC aG aR aB aQ aT aP aM bG bL bY bB bC bT (i.toInt + 4) H locs → lv_has ls 4 [(3, .int i), (2, .ref aM), (1, .ref aX), (0, .ref b)] → W p l e room_1 s m args below meth c H locs 18 12648 Q (F0 m 395 ls [])) :
    W p l e room_1 s m args below meth c H locs 18 12648 Q (F0 m 115 ls []) := by
  obtain ⟨fi, cn, fw, wa, la, fg, hd, pl, hv, lk, dn, ht, sl, br, wh, lb, gc, ft, fp, th, mw, mz, tk, ss, ml, mh, mp, rw, wr, tc, gg, gl, gy, gb, go, gt, hI, hP, hD, hS⟩ := hI0
  obtain ⟨hE, hR, hF, hB, hT, hC, hM⟩ := hI
  have hV := hC.2.1
  have hY := hC.2.2.1
  have hLn : ∀ j : Nat, (j : Int) < mz.toInt → gl j = bi (bt (gl j) 0) := fun j hj => hC.2.2.2 j (by omega)
  refine lv_aload_n hx hb dL_law_115 rfl (lv_at hl 2 rfl) ?_
  refine lv_aload_n hx hb dL_law_116 rfl (lv_at hl 3 rfl) ?_
  refine lv_iload_n hx hb dL_law_117 rfl (lv_at hl 0 rfl) ?_
  refine lv_iconst (v := 1) hx hb dL_law_118 (by decide) ?_
  refine lv_topi (fun v1 e1 => ?_)
  have z1 : v1.toInt = 1 := zi_c e1 (by decide)
  refine lv_iadd hx hb dL_law_119 ?_
  refine lv_topi (fun v2 e2 => ?_)
  first | have z2 := zi_add e2 (by omega) | skip
  refine va_sld hx hb hX hbl hbA hS (zi_in (by omega)) dL_law_120 ?_
  refine lv_topi (fun v3 e3 => ?_)
  refine lv_aload_n hx hb dL_law_121 rfl (lv_at hl 3 rfl) ?_
  refine lv_iload_n hx hb dL_law_122 rfl (lv_at hl 0 rfl) ?_
  refine lv_iconst (v := 2) hx hb dL_law_123 (by decide) ?_
  refine lv_topi (fun v4 e4 => ?_)
  have z4 : v4.toInt = 2 := zi_c e4 (by decide)
  refine lv_iadd hx hb dL_law_124 ?_
  refine lv_topi (fun v5 e5 => ?_)
  first | have z5 := zi_add e5 (by omega) | skip
  refine va_sld hx hb hX hbl hbA hS (zi_in (by omega)) dL_law_125 ?_
  refine lv_topi (fun v6 e6 => ?_)
  have hh7 : 0 ≤ fi.toInt ∧ fi.toInt < 9088 := (by omega)
  have hh8 : 0 ≤ cn.toInt ∧ cn.toInt ≤ 9066 := (by omega)
  have hh9 : 0 ≤ wa.toInt ∧ wa.toInt < 8 := (by omega)
  have hh10 : ∀ k : Nat, (k : Int) < wa.toInt → 0 ≤ (fg k).toInt ∧ (fg k).toInt ≤ 259 := hV
  refine call_i (wc := [(aX, .inr (5, [.ref aL, .ref aS, .ref aR])), (aL, .inr (1, [.ref aW, .int fi, .int cn])), (aW, .inl (cJ, 142, .inr (.inl fw))), (aS, .inr (4, [.ref aC, .ref aG, .int wa])), (aC, .inr (3, [.long la])), (aG, .inl (cI, 8, .inl fg))]) (wr := [(aR, .inr (2, [.ref aB, .ref aQ, .int hd, .long pl, .int hv, .int lk, .int dn, .int ht, .int sl, .int br, .int wh])), (aB, .inr (3, [.long lb])), (aQ, .inr (0, [.ref aT, .ref aP, .int gc])), (aT, .inl (cI, 300, .inl ft)), (aP, .inl (cJ, 300, .inr (.inl fp))), (aM, .inr (6, [.int th, .int mw, .ref bG, .int mz, .ref bL, .ref bY, .ref bB, .ref bC, .int tk, .int ss, .int ml, .int mh, .int mp, .int rw, .int wr, .int tc, .ref bT])), (bG, .inl (cI, 8, .inl gg)), (bL, .inl (cB, 9200, .inl gl)), (bY, .inl (cI, 116, .inl gy)), (bB, .inl (cI, 66, .inl gb)), (bC, .inl (cI, 66, .inl go)), (bT, .inl (cI, 2400, .inl gt))]) (run_V (As := [.int v3, .int v6]) (rest := []) kv_RL_18 ⟨by decide, by decide⟩ ⟨rfl, rfl⟩ ⟨hx, hb, hml, hown, hts⟩ (c_LB_word l D cI cJ cB aX aL aW aS aC aG aR fi cn wa fw la fg v3 v6 hh7 hh8 hh9 hh10 _) ct_blind (ct_pre (wc := [(aX, .inr (5, [.ref aL, .ref aS, .ref aR])), (aL, .inr (1, [.ref aW, .int fi, .int cn])), (aW, .inl (cJ, 142, .inr (.inl fw))), (aS, .inr (4, [.ref aC, .ref aG, .int wa])), (aC, .inr (3, [.long la])), (aG, .inl (cI, 8, .inl fg))]) hK hP hD hS hA hZ hN [0, 1, 2, 3, 4, 5] (by decide) rfl rfl) (va_recv hK hP (ci := 5) (q0 := 0) rfl rfl) rfl hl.1 rfl (Nat.le_of_ble_eq_true rfl) dL_law_126 ⟨Nat.le_of_ble_eq_true rfl, Nat.le_of_ble_eq_true rfl⟩) hP hD hS hA [0, 1, 2, 3, 4, 5] [6, 7, 8, 9, 10, 11, 12, 13, 14, 15, 16, 17] rfl rfl (by decide) (by decide) (fun r11 u H locs hw11 hP1 hD1 hS1 => ?_)
  obtain ⟨cn2_11, wa2_11, fw2_11, la2_11, fg2_11⟩ := u
  have hw11 : ((9000 ≤ cn.toInt → r11.toInt = -14 ∧ wa2_11.toInt = wa.toInt ∧ cn2_11.toInt = cn.toInt) ∧ (cn.toInt < 9000 → r11.toInt = wa.toInt ∧ wa2_11.toInt = wa.toInt ∧ cn2_11.toInt = cn.toInt + 66)) ∧ (∀ k : Nat, (k : Int) < wa2_11.toInt → 0 ≤ (fg2_11 k).toInt ∧ (fg2_11 k).toInt ≤ 259) ∧ (9000 ≤ cn.toInt → fg2_11 = fg ∧ la2_11 = la ∧ fw2_11 = fw) ∧ (cn.toInt < 9000 → accL (wl v3 4 ++ wl v6 4) (wa.toInt, cn.toInt, fg, bl la, lnB fw fi.toInt) (wa2_11.toInt, cn2_11.toInt, fg2_11, bl la2_11, lnB fw2_11 fi.toInt)) := hw11
  clear hP hD hS
  have hP : va_P D classes [(aR, .inr (2, [.ref aB, .ref aQ, .int hd, .long pl, .int hv, .int lk, .int dn, .int ht, .int sl, .int br, .int wh])), (aB, .inr (3, [.long lb])), (aQ, .inr (0, [.ref aT, .ref aP, .int gc])), (aT, .inl (cI, 300, .inl ft)), (aP, .inl (cJ, 300, .inr (.inl fp))), (aM, .inr (6, [.int th, .int mw, .ref bG, .int mz, .ref bL, .ref bY, .ref bB, .ref bC, .int tk, .int ss, .int ml, .int mh, .int mp, .int rw, .int wr, .int tc, .ref bT])), (bG, .inl (cI, 8, .inl gg)), (bL, .inl (cB, 9200, .inl gl)), (bY, .inl (cI, 116, .inl gy)), (bB, .inl (cI, 66, .inl gb)), (bC, .inl (cI, 66, .inl go)), (bT, .inl (cI, 2400, .inl gt)), (aX, .inr (5, [.ref aL, .ref aS, .ref aR])), (aL, .inr (1, [.ref aW, .int fi, .int cn2_11])), (aW, .inl (cJ, 142, .inr (.inl fw2_11))), (aS, .inr (4, [.ref aC, .ref aG, .int wa2_11])), (aC, .inr (3, [.long la2_11])), (aG, .inl (cI, 8, .inl fg2_11))] H := hP1
  have hD : va_D A [(aR, .inr (2, [.ref aB, .ref aQ, .int hd, .long pl, .int hv, .int lk, .int dn, .int ht, .int sl, .int br, .int wh])), (aB, .inr (3, [.long lb])), (aQ, .inr (0, [.ref aT, .ref aP, .int gc])), (aT, .inl (cI, 300, .inl ft)), (aP, .inl (cJ, 300, .inr (.inl fp))), (aM, .inr (6, [.int th, .int mw, .ref bG, .int mz, .ref bL, .ref bY, .ref bB, .ref bC, .int tk, .int ss, .int ml, .int mh, .int mp, .int rw, .int wr, .int tc, .ref bT])), (bG, .inl (cI, 8, .inl gg)), (bL, .inl (cB, 9200, .inl gl)), (bY, .inl (cI, 116, .inl gy)), (bB, .inl (cI, 66, .inl gb)), (bC, .inl (cI, 66, .inl go)), (bT, .inl (cI, 2400, .inl gt)), (aX, .inr (5, [.ref aL, .ref aS, .ref aR])), (aL, .inr (1, [.ref aW, .int fi, .int cn2_11])), (aW, .inl (cJ, 142, .inr (.inl fw2_11))), (aS, .inr (4, [.ref aC, .ref aG, .int wa2_11])), (aC, .inr (3, [.long la2_11])), (aG, .inl (cI, 8, .inl fg2_11))] := hD1
  have hS := hS1
  clear hP1 hD1 hS1
  refine lv_pop hx hb dL_law_129 rfl ?_
  refine lv_aload_n hx hb dL_law_130 rfl (lv_at hl 1 rfl) ?_
  refine lv_aload_n hx hb dL_law_131 rfl (lv_at hl 3 rfl) ?_
  refine lv_iload_n hx hb dL_law_132 rfl (lv_at hl 0 rfl) ?_
  refine lv_iconst (v := 1) hx hb dL_law_133 (by decide) ?_
  refine lv_topi (fun v12 e12 => ?_)
  have z12 : v12.toInt = 1 := zi_c e12 (by decide)
  refine lv_iadd hx hb dL_law_134 ?_
  refine lv_topi (fun v13 e13 => ?_)
  first | have z13 := zi_add e13 (by omega) | skip
  refine va_sld hx hb hX hbl hbA hS (zi_in (by omega)) dL_law_135 ?_
  rw [show xs v13.toNatClampNeg = v3 from by rw [e3, show v13 = v2 from Int32.toInt_inj.mp (by omega)]]
  refine lv_aload_n hx hb dL_law_136 rfl (lv_at hl 3 rfl) ?_
  refine lv_iload_n hx hb dL_law_137 rfl (lv_at hl 0 rfl) ?_
  refine lv_iconst (v := 2) hx hb dL_law_138 (by decide) ?_
  refine lv_topi (fun v14 e14 => ?_)
  have z14 : v14.toInt = 2 := zi_c e14 (by decide)
  refine lv_iadd hx hb dL_law_139 ?_
  refine lv_topi (fun v15 e15 => ?_)
  first | have z15 := zi_add e15 (by omega) | skip
  refine va_sld hx hb hX hbl hbA hS (zi_in (by omega)) dL_law_140 ?_
  rw [show xs v15.toNatClampNeg = v6 from by rw [e6, show v15 = v5 from Int32.toInt_inj.mp (by omega)]]
  have hh16 : 0 ≤ mz.toInt ∧ mz.toInt ≤ 9066 := (by omega)
  have hh17 : 0 ≤ mw.toInt ∧ mw.toInt < 8 := (by omega)
  have hh18 : ∀ j, j < 58 → gy j = bi (bt (gy j) 0) := hY
  have hh19 : ∀ j : Nat, (j : Int) < mz.toInt → gl j = bi (bt (gl j) 0) := hLn
  refine call_i (wc := [(aM, .inr (6, [.int th, .int mw, .ref bG, .int mz, .ref bL, .ref bY, .ref bB, .ref bC, .int tk, .int ss, .int ml, .int mh, .int mp, .int rw, .int wr, .int tc, .ref bT])), (bG, .inl (cI, 8, .inl gg)), (bL, .inl (cB, 9200, .inl gl)), (bY, .inl (cI, 116, .inl gy)), (bB, .inl (cI, 66, .inl gb))]) (wr := [(aR, .inr (2, [.ref aB, .ref aQ, .int hd, .long pl, .int hv, .int lk, .int dn, .int ht, .int sl, .int br, .int wh])), (aB, .inr (3, [.long lb])), (aQ, .inr (0, [.ref aT, .ref aP, .int gc])), (aT, .inl (cI, 300, .inl ft)), (aP, .inl (cJ, 300, .inr (.inl fp))), (bC, .inl (cI, 66, .inl go)), (bT, .inl (cI, 2400, .inl gt)), (aX, .inr (5, [.ref aL, .ref aS, .ref aR])), (aL, .inr (1, [.ref aW, .int fi, .int cn2_11])), (aW, .inl (cJ, 142, .inr (.inl fw2_11))), (aS, .inr (4, [.ref aC, .ref aG, .int wa2_11])), (aC, .inr (3, [.long la2_11])), (aG, .inl (cI, 8, .inl fg2_11))]) (run_V (As := [.int v3, .int v6]) (rest := []) kv_RL_22 ⟨by decide, by decide⟩ ⟨rfl, rfl⟩ ⟨hx, hb, hml, hown, hts⟩ (c_Mo_word l D cI cJ cB aM bG bL bY bB bC bT th mw mz tk ss ml mh mp rw wr tc gg gl gy gb v3 v6 hh16 hh17 hh18 hh19 _) ct_blind (ct_pre (wc := [(aM, .inr (6, [.int th, .int mw, .ref bG, .int mz, .ref bL, .ref bY, .ref bB, .ref bC, .int tk, .int ss, .int ml, .int mh, .int mp, .int rw, .int wr, .int tc, .ref bT])), (bG, .inl (cI, 8, .inl gg)), (bL, .inl (cB, 9200, .inl gl)), (bY, .inl (cI, 116, .inl gy)), (bB, .inl (cI, 66, .inl gb))]) hK hP hD hS hA hZ hN [5, 6, 7, 8, 9] (by decide) rfl rfl) (va_recv hK hP (ci := 6) (q0 := 5) rfl rfl) rfl hl.1 rfl (Nat.le_of_ble_eq_true rfl) dL_law_141 ⟨Nat.le_of_ble_eq_true rfl, Nat.le_of_ble_eq_true rfl⟩) hP hD hS hA [5, 6, 7, 8, 9] [0, 1, 2, 3, 4, 10, 11, 12, 13, 14, 15, 16, 17] rfl rfl (by decide) (by decide) (fun r20 u H locs hw20 hP1 hD1 hS1 => ?_)
  obtain ⟨th2_20, mw2_20, mz2_20, gg2_20, gl2_20, gy2_20, gb2_20⟩ := u
  have hw20 : ((9000 ≤ mz.toInt → r20.toInt = -14 ∧ mw2_20.toInt = mw.toInt ∧ mz2_20.toInt = mz.toInt) ∧ (mz.toInt < 9000 → r20.toInt = mw.toInt ∧ mw2_20.toInt = mw.toInt ∧ mz2_20.toInt = mz.toInt + 66)) ∧ (∀ j, j < 58 → gy2_20 j = bi (bt (gy2_20 j) 0)) ∧ (∀ j : Nat, (j : Int) < mz2_20.toInt → gl2_20 j = bi (bt (gl2_20 j) 0)) ∧ (9000 ≤ mz.toInt → gg2_20 = gg ∧ gy2_20 = gy ∧ gl2_20 = gl) ∧ (mz.toInt < 9000 → accL (wl v3 4 ++ wl v6 4) (mw.toInt, mz.toInt, gg, sgB gy, mlB gl) (mw2_20.toInt, mz2_20.toInt, gg2_20, sgB gy2_20, mlB gl2_20)) := hw20
  clear hP hD hS
  have hP : va_P D classes [(aR, .inr (2, [.ref aB, .ref aQ, .int hd, .long pl, .int hv, .int lk, .int dn, .int ht, .int sl, .int br, .int wh])), (aB, .inr (3, [.long lb])), (aQ, .inr (0, [.ref aT, .ref aP, .int gc])), (aT, .inl (cI, 300, .inl ft)), (aP, .inl (cJ, 300, .inr (.inl fp))), (bC, .inl (cI, 66, .inl go)), (bT, .inl (cI, 2400, .inl gt)), (aX, .inr (5, [.ref aL, .ref aS, .ref aR])), (aL, .inr (1, [.ref aW, .int fi, .int cn2_11])), (aW, .inl (cJ, 142, .inr (.inl fw2_11))), (aS, .inr (4, [.ref aC, .ref aG, .int wa2_11])), (aC, .inr (3, [.long la2_11])), (aG, .inl (cI, 8, .inl fg2_11)), (aM, .inr (6, [.int th2_20, .int mw2_20, .ref bG, .int mz2_20, .ref bL, .ref bY, .ref bB, .ref bC, .int tk, .int ss, .int ml, .int mh, .int mp, .int rw, .int wr, .int tc, .ref bT])), (bG, .inl (cI, 8, .inl gg2_20)), (bL, .inl (cB, 9200, .inl gl2_20)), (bY, .inl (cI, 116, .inl gy2_20)), (bB, .inl (cI, 66, .inl gb2_20))] H := hP1
  have hD : va_D A [(aR, .inr (2, [.ref aB, .ref aQ, .int hd, .long pl, .int hv, .int lk, .int dn, .int ht, .int sl, .int br, .int wh])), (aB, .inr (3, [.long lb])), (aQ, .inr (0, [.ref aT, .ref aP, .int gc])), (aT, .inl (cI, 300, .inl ft)), (aP, .inl (cJ, 300, .inr (.inl fp))), (bC, .inl (cI, 66, .inl go)), (bT, .inl (cI, 2400, .inl gt)), (aX, .inr (5, [.ref aL, .ref aS, .ref aR])), (aL, .inr (1, [.ref aW, .int fi, .int cn2_11])), (aW, .inl (cJ, 142, .inr (.inl fw2_11))), (aS, .inr (4, [.ref aC, .ref aG, .int wa2_11])), (aC, .inr (3, [.long la2_11])), (aG, .inl (cI, 8, .inl fg2_11)), (aM, .inr (6, [.int th2_20, .int mw2_20, .ref bG, .int mz2_20, .ref bL, .ref bY, .ref bB, .ref bC, .int tk, .int ss, .int ml, .int mh, .int mp, .int rw, .int wr, .int tc, .ref bT])), (bG, .inl (cI, 8, .inl gg2_20)), (bL, .inl (cB, 9200, .inl gl2_20)), (bY, .inl (cI, 116, .inl gy2_20)), (bB, .inl (cI, 66, .inl gb2_20))] := hD1
  have hS := hS1
  clear hP1 hD1 hS1
  have hk := eq_word hE hR hw11.1 hw20.1
  have hC2 := cp_word hE hR hC hw11 hw20
  clear hw11 hw20 hC hV hY hLn
  have hC := hC2
  refine lv_pop hx hb dL_law_144 rfl ?_
  refine lv_goto (tgt := 395) hx hb dL_law_145 (by decide) ?_
  exact kk _ _ _ ⟨fi, cn2_11, fw2_11, wa2_11, la2_11, fg2_11, hd, pl, hv, lk, dn, ht, sl, br, wh, lb, gc, ft, fp, th2_20, mw2_20, mz2_20, tk, ss, ml, mh, mp, rw, wr, tc, gg2_20, gl2_20, gy2_20, gb2_20, go, gt, ⟨by omega, by omega, by omega, by omega, by omega, hC, rcS_up hM (by omega)⟩, hP.sub [7, 8, 9, 10, 11, 12, 0, 1, 2, 3, 4, 13, 14, 15, 16, 17, 5, 6] rfl, hD.sub [7, 8, 9, 10, 11, 12, 0, 1, 2, 3, 4, 13, 14, 15, 16, 17, 5, 6] (by decide) rfl, hS⟩ (lv_sub hl [0, 1, 2, 3] rfl)
set_option maxHeartbeats 8000000 in
set_option maxRecDepth 100000 in
theorem law_c2 {p : Program} {l : Launch} {e : Env} {s : State} {m : MethodId} {args : Array Value} {below : List Frame} {meth : Method} {c : Code} {A : Nat → Prop} {Q : State → Prop} {D : va_G} {cI cJ cB : ClassId} {b L : Nat} {xs : Nat → Int32} (hL : L ≤ 2048)
    (hx : p.tables.exec = Jvm.exec) (hb : c.code = cL_law) (hml : c.maxLocals = 4) (hown : s.vm.findClass RL = some m.cls) (hts : ∀ w ∈ lw_good, w.before args s = true) (hK : va_K D classes (tys3 cI cJ cB) s) (hA : ∀ q : Nat, s.heap.size ≤ q → A q) (hZ : st_T A s s.heap) (hN : nw_T s) (hX : va_X b L xs s s.heap) (hbl : b < s.heap.size) (hbA : ¬ A b)
    {aX aL aW aS aC aG aR aB aQ aT aP aM bG bL bY bB bC bT : Nat} {i : Int32} {H : Heap} {locs : List Loc} {ls : Array Slot} (hi : 0 ≤ i.toInt ∧ i.toInt + 4 ≤ (L : Int)) (hI0 : LI A s D cI cJ cB aX aL aW aS aC aG aR aB aQ aT aP aM bG bL bY bB bC bT i.toInt H locs) (hl : lv_has ls 4 [(3, .int i), (2, .ref aM), (1, .ref aX), (0, .ref b)])
    (kk : ∀ (H : Heap) (locs : List Loc) (ls : Array Slot), LI A s D cI cJ cB aX aL aW aS aC aG aR aB aQ aT aP aM bG bL bY bB bC bT (i.toInt + 4) H locs → lv_has ls 4 [(3, .int i), (2, .ref aM), (1, .ref aX), (0, .ref b)] → W p l e room_1 s m args below meth c H locs 18 12648 Q (F0 m 395 ls [])) :
    W p l e room_1 s m args below meth c H locs 18 12648 Q (F0 m 148 ls []) := by
  obtain ⟨fi, cn, fw, wa, la, fg, hd, pl, hv, lk, dn, ht, sl, br, wh, lb, gc, ft, fp, th, mw, mz, tk, ss, ml, mh, mp, rw, wr, tc, gg, gl, gy, gb, go, gt, hI, hP, hD, hS⟩ := hI0
  obtain ⟨hE, hR, hF, hB, hT, hC, hM⟩ := hI
  have hV := hC.2.1
  have hY := hC.2.2.1
  have hLn : ∀ j : Nat, (j : Int) < mz.toInt → gl j = bi (bt (gl j) 0) := fun j hj => hC.2.2.2 j (by omega)
  refine lv_aload_n hx hb dL_law_148 rfl (lv_at hl 2 rfl) ?_
  refine lv_aload_n hx hb dL_law_149 rfl (lv_at hl 3 rfl) ?_
  refine lv_iload_n hx hb dL_law_150 rfl (lv_at hl 0 rfl) ?_
  refine lv_iconst (v := 1) hx hb dL_law_151 (by decide) ?_
  refine lv_topi (fun v1 e1 => ?_)
  have z1 : v1.toInt = 1 := zi_c e1 (by decide)
  refine lv_iadd hx hb dL_law_152 ?_
  refine lv_topi (fun v2 e2 => ?_)
  first | have z2 := zi_add e2 (by omega) | skip
  refine va_sld hx hb hX hbl hbA hS (zi_in (by omega)) dL_law_153 ?_
  refine lv_topi (fun v3 e3 => ?_)
  have hh4 : 0 ≤ fi.toInt ∧ fi.toInt < 9088 := (by omega)
  have hh5 : 0 ≤ cn.toInt ∧ cn.toInt ≤ 9066 := (by omega)
  have hh6 : 0 ≤ wa.toInt ∧ wa.toInt < 8 := (by omega)
  refine call_i (wc := [(aX, .inr (5, [.ref aL, .ref aS, .ref aR])), (aL, .inr (1, [.ref aW, .int fi, .int cn])), (aW, .inl (cJ, 142, .inr (.inl fw))), (aS, .inr (4, [.ref aC, .ref aG, .int wa])), (aC, .inr (3, [.long la])), (aG, .inl (cI, 8, .inl fg))]) (wr := [(aR, .inr (2, [.ref aB, .ref aQ, .int hd, .long pl, .int hv, .int lk, .int dn, .int ht, .int sl, .int br, .int wh])), (aB, .inr (3, [.long lb])), (aQ, .inr (0, [.ref aT, .ref aP, .int gc])), (aT, .inl (cI, 300, .inl ft)), (aP, .inl (cJ, 300, .inr (.inl fp))), (aM, .inr (6, [.int th, .int mw, .ref bG, .int mz, .ref bL, .ref bY, .ref bB, .ref bC, .int tk, .int ss, .int ml, .int mh, .int mp, .int rw, .int wr, .int tc, .ref bT])), (bG, .inl (cI, 8, .inl gg)), (bL, .inl (cB, 9200, .inl gl)), (bY, .inl (cI, 116, .inl gy)), (bB, .inl (cI, 66, .inl gb)), (bC, .inl (cI, 66, .inl go)), (bT, .inl (cI, 2400, .inl gt))]) (run_V (As := [.int v3]) (rest := []) kv_RL_23 ⟨by decide, by decide⟩ ⟨rfl, rfl⟩ ⟨hx, hb, hml, hown, hts⟩ (c_LB_idle l D cI cJ cB aX aL aW aS aC aG aR fi cn wa fw la fg v3 hh4 hh5 hh6 _) ct_blind (ct_pre (wc := [(aX, .inr (5, [.ref aL, .ref aS, .ref aR])), (aL, .inr (1, [.ref aW, .int fi, .int cn])), (aW, .inl (cJ, 142, .inr (.inl fw))), (aS, .inr (4, [.ref aC, .ref aG, .int wa])), (aC, .inr (3, [.long la])), (aG, .inl (cI, 8, .inl fg))]) hK hP hD hS hA hZ hN [0, 1, 2, 3, 4, 5] (by decide) rfl rfl) (va_recv hK hP (ci := 5) (q0 := 0) rfl rfl) rfl hl.1 rfl (Nat.le_of_ble_eq_true rfl) dL_law_154 ⟨Nat.le_of_ble_eq_true rfl, Nat.le_of_ble_eq_true rfl⟩) hP hD hS hA [0, 1, 2, 3, 4, 5] [6, 7, 8, 9, 10, 11, 12, 13, 14, 15, 16, 17] rfl rfl (by decide) (by decide) (fun r7 u H locs hw7 hP1 hD1 hS1 => ?_)
  obtain ⟨cn2_7, wa2_7, fw2_7, la2_7, fg2_7⟩ := u
  have hw7 : ((wa2_7.toInt = wa.toInt) ∧ ((v3.toInt < 1 ∨ 100 < v3.toInt ∨ 0 < wa.toInt) → r7.toInt = -12 ∧ cn2_7.toInt = cn.toInt) ∧ ((1 ≤ v3.toInt ∧ v3.toInt ≤ 100 ∧ wa.toInt = 0) → (9000 ≤ cn.toInt + 66 * (v3.toInt - 1) → r7.toInt = -14 ∧ cn2_7.toInt = cn.toInt) ∧ (cn.toInt + 66 * (v3.toInt - 1) < 9000 → r7.toInt = cn.toInt + 66 * v3.toInt ∧ cn2_7.toInt = cn.toInt + 66 * v3.toInt))) ∧ ((v3.toInt < 1 ∨ 100 < v3.toInt ∨ 0 < wa.toInt ∨ 9000 ≤ cn.toInt + 66 * (v3.toInt - 1)) → fg2_7 = fg ∧ la2_7 = la ∧ fw2_7 = fw) ∧ (¬ (v3.toInt < 1 ∨ 100 < v3.toInt ∨ 0 < wa.toInt ∨ 9000 ≤ cn.toInt + 66 * (v3.toInt - 1)) → idlR v3.toInt.toNat cn.toInt cn2_7.toInt (bl la) (bl la2_7) (lnB fw fi.toInt) (lnB fw2_7 fi.toInt)) := hw7
  clear hP hD hS
  have hP : va_P D classes [(aR, .inr (2, [.ref aB, .ref aQ, .int hd, .long pl, .int hv, .int lk, .int dn, .int ht, .int sl, .int br, .int wh])), (aB, .inr (3, [.long lb])), (aQ, .inr (0, [.ref aT, .ref aP, .int gc])), (aT, .inl (cI, 300, .inl ft)), (aP, .inl (cJ, 300, .inr (.inl fp))), (aM, .inr (6, [.int th, .int mw, .ref bG, .int mz, .ref bL, .ref bY, .ref bB, .ref bC, .int tk, .int ss, .int ml, .int mh, .int mp, .int rw, .int wr, .int tc, .ref bT])), (bG, .inl (cI, 8, .inl gg)), (bL, .inl (cB, 9200, .inl gl)), (bY, .inl (cI, 116, .inl gy)), (bB, .inl (cI, 66, .inl gb)), (bC, .inl (cI, 66, .inl go)), (bT, .inl (cI, 2400, .inl gt)), (aX, .inr (5, [.ref aL, .ref aS, .ref aR])), (aL, .inr (1, [.ref aW, .int fi, .int cn2_7])), (aW, .inl (cJ, 142, .inr (.inl fw2_7))), (aS, .inr (4, [.ref aC, .ref aG, .int wa2_7])), (aC, .inr (3, [.long la2_7])), (aG, .inl (cI, 8, .inl fg2_7))] H := hP1
  have hD : va_D A [(aR, .inr (2, [.ref aB, .ref aQ, .int hd, .long pl, .int hv, .int lk, .int dn, .int ht, .int sl, .int br, .int wh])), (aB, .inr (3, [.long lb])), (aQ, .inr (0, [.ref aT, .ref aP, .int gc])), (aT, .inl (cI, 300, .inl ft)), (aP, .inl (cJ, 300, .inr (.inl fp))), (aM, .inr (6, [.int th, .int mw, .ref bG, .int mz, .ref bL, .ref bY, .ref bB, .ref bC, .int tk, .int ss, .int ml, .int mh, .int mp, .int rw, .int wr, .int tc, .ref bT])), (bG, .inl (cI, 8, .inl gg)), (bL, .inl (cB, 9200, .inl gl)), (bY, .inl (cI, 116, .inl gy)), (bB, .inl (cI, 66, .inl gb)), (bC, .inl (cI, 66, .inl go)), (bT, .inl (cI, 2400, .inl gt)), (aX, .inr (5, [.ref aL, .ref aS, .ref aR])), (aL, .inr (1, [.ref aW, .int fi, .int cn2_7])), (aW, .inl (cJ, 142, .inr (.inl fw2_7))), (aS, .inr (4, [.ref aC, .ref aG, .int wa2_7])), (aC, .inr (3, [.long la2_7])), (aG, .inl (cI, 8, .inl fg2_7))] := hD1
  have hS := hS1
  clear hP1 hD1 hS1
  refine lv_pop hx hb dL_law_157 rfl ?_
  refine lv_aload_n hx hb dL_law_158 rfl (lv_at hl 1 rfl) ?_
  refine lv_aload_n hx hb dL_law_159 rfl (lv_at hl 3 rfl) ?_
  refine lv_iload_n hx hb dL_law_160 rfl (lv_at hl 0 rfl) ?_
  refine lv_iconst (v := 1) hx hb dL_law_161 (by decide) ?_
  refine lv_topi (fun v8 e8 => ?_)
  have z8 : v8.toInt = 1 := zi_c e8 (by decide)
  refine lv_iadd hx hb dL_law_162 ?_
  refine lv_topi (fun v9 e9 => ?_)
  first | have z9 := zi_add e9 (by omega) | skip
  refine va_sld hx hb hX hbl hbA hS (zi_in (by omega)) dL_law_163 ?_
  rw [show xs v9.toNatClampNeg = v3 from by rw [e3, show v9 = v2 from Int32.toInt_inj.mp (by omega)]]
  have hh10 : 0 ≤ mz.toInt ∧ mz.toInt ≤ 9066 := (by omega)
  have hh11 : 0 ≤ mw.toInt ∧ mw.toInt < 8 := (by omega)
  have hh12 : ∀ j, j < 58 → gy j = bi (bt (gy j) 0) := hY
  have hh13 : ∀ j : Nat, (j : Int) < mz.toInt → gl j = bi (bt (gl j) 0) := hLn
  refine call_i (wc := [(aM, .inr (6, [.int th, .int mw, .ref bG, .int mz, .ref bL, .ref bY, .ref bB, .ref bC, .int tk, .int ss, .int ml, .int mh, .int mp, .int rw, .int wr, .int tc, .ref bT])), (bG, .inl (cI, 8, .inl gg)), (bL, .inl (cB, 9200, .inl gl)), (bY, .inl (cI, 116, .inl gy)), (bB, .inl (cI, 66, .inl gb))]) (wr := [(aR, .inr (2, [.ref aB, .ref aQ, .int hd, .long pl, .int hv, .int lk, .int dn, .int ht, .int sl, .int br, .int wh])), (aB, .inr (3, [.long lb])), (aQ, .inr (0, [.ref aT, .ref aP, .int gc])), (aT, .inl (cI, 300, .inl ft)), (aP, .inl (cJ, 300, .inr (.inl fp))), (bC, .inl (cI, 66, .inl go)), (bT, .inl (cI, 2400, .inl gt)), (aX, .inr (5, [.ref aL, .ref aS, .ref aR])), (aL, .inr (1, [.ref aW, .int fi, .int cn2_7])), (aW, .inl (cJ, 142, .inr (.inl fw2_7))), (aS, .inr (4, [.ref aC, .ref aG, .int wa2_7])), (aC, .inr (3, [.long la2_7])), (aG, .inl (cI, 8, .inl fg2_7))]) (run_V (As := [.int v3]) (rest := []) kv_RL_26 ⟨by decide, by decide⟩ ⟨rfl, rfl⟩ ⟨hx, hb, hml, hown, hts⟩ (c_Mo_idle l D cI cJ cB aM bG bL bY bB bC bT th mw mz tk ss ml mh mp rw wr tc gg gl gy gb v3 hh10 hh11 hh12 hh13 _) ct_blind (ct_pre (wc := [(aM, .inr (6, [.int th, .int mw, .ref bG, .int mz, .ref bL, .ref bY, .ref bB, .ref bC, .int tk, .int ss, .int ml, .int mh, .int mp, .int rw, .int wr, .int tc, .ref bT])), (bG, .inl (cI, 8, .inl gg)), (bL, .inl (cB, 9200, .inl gl)), (bY, .inl (cI, 116, .inl gy)), (bB, .inl (cI, 66, .inl gb))]) hK hP hD hS hA hZ hN [5, 6, 7, 8, 9] (by decide) rfl rfl) (va_recv hK hP (ci := 6) (q0 := 5) rfl rfl) rfl hl.1 rfl (Nat.le_of_ble_eq_true rfl) dL_law_164 ⟨Nat.le_of_ble_eq_true rfl, Nat.le_of_ble_eq_true rfl⟩) hP hD hS hA [5, 6, 7, 8, 9] [0, 1, 2, 3, 4, 10, 11, 12, 13, 14, 15, 16, 17] rfl rfl (by decide) (by decide) (fun r14 u H locs hw14 hP1 hD1 hS1 => ?_)
  obtain ⟨th2_14, mw2_14, mz2_14, gg2_14, gl2_14, gy2_14, gb2_14⟩ := u
  have hw14 : ((mw2_14.toInt = mw.toInt) ∧ ((v3.toInt < 1 ∨ 100 < v3.toInt ∨ 0 < mw.toInt) → r14.toInt = -12 ∧ mz2_14.toInt = mz.toInt) ∧ ((1 ≤ v3.toInt ∧ v3.toInt ≤ 100 ∧ mw.toInt = 0) → (9000 ≤ mz.toInt + 66 * (v3.toInt - 1) → r14.toInt = -14 ∧ mz2_14.toInt = mz.toInt) ∧ (mz.toInt + 66 * (v3.toInt - 1) < 9000 → r14.toInt = mz.toInt + 66 * v3.toInt ∧ mz2_14.toInt = mz.toInt + 66 * v3.toInt))) ∧ (∀ j, j < 58 → gy2_14 j = bi (bt (gy2_14 j) 0)) ∧ (∀ j : Nat, (j : Int) < mz2_14.toInt → gl2_14 j = bi (bt (gl2_14 j) 0)) ∧ ((v3.toInt < 1 ∨ 100 < v3.toInt ∨ 0 < mw.toInt ∨ 9000 ≤ mz.toInt + 66 * (v3.toInt - 1)) → gg2_14 = gg ∧ gy2_14 = gy ∧ gl2_14 = gl) ∧ (¬ (v3.toInt < 1 ∨ 100 < v3.toInt ∨ 0 < mw.toInt ∨ 9000 ≤ mz.toInt + 66 * (v3.toInt - 1)) → idlR v3.toInt.toNat mz.toInt mz2_14.toInt (sgB gy) (sgB gy2_14) (mlB gl) (mlB gl2_14)) := hw14
  clear hP hD hS
  have hP : va_P D classes [(aR, .inr (2, [.ref aB, .ref aQ, .int hd, .long pl, .int hv, .int lk, .int dn, .int ht, .int sl, .int br, .int wh])), (aB, .inr (3, [.long lb])), (aQ, .inr (0, [.ref aT, .ref aP, .int gc])), (aT, .inl (cI, 300, .inl ft)), (aP, .inl (cJ, 300, .inr (.inl fp))), (bC, .inl (cI, 66, .inl go)), (bT, .inl (cI, 2400, .inl gt)), (aX, .inr (5, [.ref aL, .ref aS, .ref aR])), (aL, .inr (1, [.ref aW, .int fi, .int cn2_7])), (aW, .inl (cJ, 142, .inr (.inl fw2_7))), (aS, .inr (4, [.ref aC, .ref aG, .int wa2_7])), (aC, .inr (3, [.long la2_7])), (aG, .inl (cI, 8, .inl fg2_7)), (aM, .inr (6, [.int th2_14, .int mw2_14, .ref bG, .int mz2_14, .ref bL, .ref bY, .ref bB, .ref bC, .int tk, .int ss, .int ml, .int mh, .int mp, .int rw, .int wr, .int tc, .ref bT])), (bG, .inl (cI, 8, .inl gg2_14)), (bL, .inl (cB, 9200, .inl gl2_14)), (bY, .inl (cI, 116, .inl gy2_14)), (bB, .inl (cI, 66, .inl gb2_14))] H := hP1
  have hD : va_D A [(aR, .inr (2, [.ref aB, .ref aQ, .int hd, .long pl, .int hv, .int lk, .int dn, .int ht, .int sl, .int br, .int wh])), (aB, .inr (3, [.long lb])), (aQ, .inr (0, [.ref aT, .ref aP, .int gc])), (aT, .inl (cI, 300, .inl ft)), (aP, .inl (cJ, 300, .inr (.inl fp))), (bC, .inl (cI, 66, .inl go)), (bT, .inl (cI, 2400, .inl gt)), (aX, .inr (5, [.ref aL, .ref aS, .ref aR])), (aL, .inr (1, [.ref aW, .int fi, .int cn2_7])), (aW, .inl (cJ, 142, .inr (.inl fw2_7))), (aS, .inr (4, [.ref aC, .ref aG, .int wa2_7])), (aC, .inr (3, [.long la2_7])), (aG, .inl (cI, 8, .inl fg2_7)), (aM, .inr (6, [.int th2_14, .int mw2_14, .ref bG, .int mz2_14, .ref bL, .ref bY, .ref bB, .ref bC, .int tk, .int ss, .int ml, .int mh, .int mp, .int rw, .int wr, .int tc, .ref bT])), (bG, .inl (cI, 8, .inl gg2_14)), (bL, .inl (cB, 9200, .inl gl2_14)), (bY, .inl (cI, 116, .inl gy2_14)), (bB, .inl (cI, 66, .inl gb2_14))] := hD1
  have hS := hS1
  clear hP1 hD1 hS1
  have hk := eq_idle hE hR hw7.1 hw14.1
  have hC2 := cp_idle hE hR hC hw7 hw14
  clear hw7 hw14 hC hV hY hLn
  have hC := hC2
  refine lv_pop hx hb dL_law_167 rfl ?_
  refine lv_goto (tgt := 395) hx hb dL_law_168 (by decide) ?_
  exact kk _ _ _ ⟨fi, cn2_7, fw2_7, wa2_7, la2_7, fg2_7, hd, pl, hv, lk, dn, ht, sl, br, wh, lb, gc, ft, fp, th2_14, mw2_14, mz2_14, tk, ss, ml, mh, mp, rw, wr, tc, gg2_14, gl2_14, gy2_14, gb2_14, go, gt, ⟨by omega, by omega, by omega, by omega, by omega, hC, rcS_up hM (by omega)⟩, hP.sub [7, 8, 9, 10, 11, 12, 0, 1, 2, 3, 4, 13, 14, 15, 16, 17, 5, 6] rfl, hD.sub [7, 8, 9, 10, 11, 12, 0, 1, 2, 3, 4, 13, 14, 15, 16, 17, 5, 6] (by decide) rfl, hS⟩ (lv_sub hl [0, 1, 2, 3] rfl)
