set_option maxHeartbeats 8000000 in
set_option maxRecDepth 100000 in
theorem law_c8 {p : Program} {l : Launch} {e : Env} {s : State} {m : MethodId} {args : Array Value} {below : List Frame} {meth : Method} {c : Code} {A : Nat → Prop} {Q : State → Prop} {D : va_G} {cI cJ cB : ClassId} {b L : Nat} {xs : Nat → Int32} (hL : L ≤ 2048)
    (hx : p.tables.exec = Jvm.exec) (hb : c.code = cL_law) (hml : c.maxLocals = 4) (hown : s.vm.findClass RL = some m.cls) (hts : ∀ w ∈ lw_good, w.before args s = true) (hK : va_K D classes (tys3 cI cJ cB) s) (hA : ∀ q : Nat, s.heap.size ≤ q → A q) (hZ : st_T A s s.heap) (hN : nw_T s) (hX : va_X b L xs s s.heap) (hbl : b < s.heap.size) (hbA : ¬ A b)
    {aX aL aW aS aC aG aR aB aQ aT aP aM bG bL bY bB bC bT : Nat} {i : Int32} {H : Heap} {locs : List Loc} {ls : Array Slot} (hi : 0 ≤ i.toInt ∧ i.toInt + 4 ≤ (L : Int)) (hI0 : LI A s D cI cJ cB aX aL aW aS aC aG aR aB aQ aT aP aM bG bL bY bB bC bT i.toInt H locs) (hl : lv_has ls 4 [(3, .int i), (2, .ref aM), (1, .ref aX), (0, .ref b)])
    (kk : ∀ (H : Heap) (locs : List Loc) (ls : Array Slot), LI A s D cI cJ cB aX aL aW aS aC aG aR aB aQ aT aP aM bG bL bY bB bC bT (i.toInt + 4) H locs → lv_has ls 4 [(3, .int i), (2, .ref aM), (1, .ref aX), (0, .ref b)] → W p l e room_1 s m args below meth c H locs 18 12648 Q (F0 m 395 ls [])) :
    W p l e room_1 s m args below meth c H locs 18 12648 Q (F0 m 316 ls []) := by
  obtain ⟨fi, cn, fw, wa, la, fg, hd, pl, hv, lk, dn, ht, sl, br, wh, lb, gc, ft, fp, th, mw, mz, tk, ss, ml, mh, mp, rw, wr, tc, gg, gl, gy, gb, go, gt, hI, hP, hD, hS⟩ := hI0
  obtain ⟨hE, hR, hF, hB, hT, hC, hM⟩ := hI
  have hV := hC.2.1
  have hY := hC.2.2.1
  have hLn : ∀ j : Nat, (j : Int) < mz.toInt → gl j = bi (bt (gl j) 0) := fun j hj => hC.2.2.2 j (by omega)
  refine lv_aload_n hx hb dL_law_316 rfl (lv_at hl 2 rfl) ?_
  refine lv_aload_n hx hb dL_law_317 rfl (lv_at hl 3 rfl) ?_
  refine lv_iload_n hx hb dL_law_318 rfl (lv_at hl 0 rfl) ?_
  refine lv_iconst (v := 1) hx hb dL_law_319 (by decide) ?_
  refine lv_topi (fun v1 e1 => ?_)
  have z1 : v1.toInt = 1 := zi_c e1 (by decide)
  refine lv_iadd hx hb dL_law_320 ?_
  refine lv_topi (fun v2 e2 => ?_)
  first | have z2 := zi_add e2 (by omega) | skip
  refine va_sld hx hb hX hbl hbA hS (zi_in (by omega)) dL_law_321 ?_
  refine lv_topi (fun v3 e3 => ?_)
  obtain ⟨hM1, hM2, hM3, hM4, hM5⟩ := hM
  have hh4 : 0 ≤ fi.toInt ∧ fi.toInt < 9088 := (by omega)
  have hh5 : 0 ≤ cn.toInt ∧ cn.toInt ≤ 9066 := (by omega)
  have hh6 : 0 ≤ gc.toInt ∧ gc.toInt ≤ 900000000 := (by omega)
  have hh7 : (0 ≤ lk.toInt ∧ lk.toInt ≤ 1) ∧ (0 ≤ dn.toInt ∧ dn.toInt ≤ 1) ∧ (0 ≤ ht.toInt ∧ ht.toInt ≤ 63) ∧ (0 ≤ br.toInt ∧ br.toInt ≤ 63) ∧ (0 ≤ wh.toInt ∧ wh.toInt ≤ 15) ∧ (0 ≤ sl.toInt ∧ sl.toInt ≤ 900000000) ∧ (0 ≤ hv.toInt ∧ hv.toInt ≤ 65) ∧ (0 ≤ hd.toInt ∧ hd.toInt ≤ 3) := (by omega)
  have hh8 : hdK hv.toInt hd.toInt := hM3
  refine call_i (wc := [(aX, .inr (5, [.ref aL, .ref aS, .ref aR])), (aL, .inr (1, [.ref aW, .int fi, .int cn])), (aW, .inl (cJ, 142, .inr (.inl fw))), (aR, .inr (2, [.ref aB, .ref aQ, .int hd, .long pl, .int hv, .int lk, .int dn, .int ht, .int sl, .int br, .int wh])), (aB, .inr (3, [.long lb])), (aQ, .inr (0, [.ref aT, .ref aP, .int gc])), (aT, .inl (cI, 300, .inl ft)), (aP, .inl (cJ, 300, .inr (.inl fp)))]) (wr := [(aS, .inr (4, [.ref aC, .ref aG, .int wa])), (aC, .inr (3, [.long la])), (aG, .inl (cI, 8, .inl fg)), (aM, .inr (6, [.int th, .int mw, .ref bG, .int mz, .ref bL, .ref bY, .ref bB, .ref bC, .int tk, .int ss, .int ml, .int mh, .int mp, .int rw, .int wr, .int tc, .ref bT])), (bG, .inl (cI, 8, .inl gg)), (bL, .inl (cB, 9200, .inl gl)), (bY, .inl (cI, 116, .inl gy)), (bB, .inl (cI, 66, .inl gb)), (bC, .inl (cI, 66, .inl go)), (bT, .inl (cI, 2400, .inl gt))]) (run_V (As := [.int v3]) (rest := []) kv_RL_51 ⟨by decide, by decide⟩ ⟨rfl, rfl⟩ ⟨hx, hb, hml, hown, hts⟩ (c_LB_receive l D cI cJ cB aX aL aW aS fi cn v3 fw aR aB aQ aT aP hd pl hv lk dn ht sl br wh lb gc ft fp hh4 hh5 hh6 hh7 hh8 _) ct_blind (ct_pre (wc := [(aX, .inr (5, [.ref aL, .ref aS, .ref aR])), (aL, .inr (1, [.ref aW, .int fi, .int cn])), (aW, .inl (cJ, 142, .inr (.inl fw))), (aR, .inr (2, [.ref aB, .ref aQ, .int hd, .long pl, .int hv, .int lk, .int dn, .int ht, .int sl, .int br, .int wh])), (aB, .inr (3, [.long lb])), (aQ, .inr (0, [.ref aT, .ref aP, .int gc])), (aT, .inl (cI, 300, .inl ft)), (aP, .inl (cJ, 300, .inr (.inl fp)))]) hK hP hD hS hA hZ hN [0, 1, 2, 6, 7, 8, 9, 10] (by decide) rfl rfl) (va_recv hK hP (ci := 5) (q0 := 0) rfl rfl) rfl hl.1 rfl (Nat.le_of_ble_eq_true rfl) dL_law_322 ⟨Nat.le_of_ble_eq_true rfl, Nat.le_of_ble_eq_true rfl⟩) hP hD hS hA [0, 1, 2, 6, 7, 8, 9, 10] [3, 4, 5, 11, 12, 13, 14, 15, 16, 17] rfl rfl (by decide) (by decide) (fun r9 u H locs hw9 hP1 hD1 hS1 => ?_)
  obtain ⟨fi2_9, cn2_9, hd2_9, pl2_9, hv2_9, lk2_9, dn2_9, ht2_9, sl2_9, br2_9, wh2_9, lb2_9, gc2_9, ft2_9, fp2_9⟩ := u
  have hw9 : (((((0 ≤ lk2_9.toInt ∧ lk2_9.toInt ≤ 1) ∧ (0 ≤ dn2_9.toInt ∧ dn2_9.toInt ≤ 1) ∧ (0 ≤ ht2_9.toInt ∧ ht2_9.toInt ≤ 63) ∧ (0 ≤ br2_9.toInt ∧ br2_9.toInt ≤ 63) ∧ (0 ≤ wh2_9.toInt ∧ wh2_9.toInt ≤ 15)) ∧ (sl.toInt ≤ sl2_9.toInt ∧ sl2_9.toInt ≤ sl.toInt + 9066) ∧ (0 ≤ hv2_9.toInt ∧ hv2_9.toInt ≤ 65) ∧ (0 ≤ hd2_9.toInt ∧ hd2_9.toInt ≤ 3)) ∧ hdK hv2_9.toInt hd2_9.toInt) ∧ rcA v3.toInt cn.toInt (fun q : Nat => (bi (lnB fw fi.toInt (q : Int))).toInt) (hd.toInt, hv.toInt, lk.toInt, dn.toInt, ht.toInt, sl.toInt, br.toInt, wh.toInt, gc.toInt) (hd2_9.toInt, hv2_9.toInt, lk2_9.toInt, dn2_9.toInt, ht2_9.toInt, sl2_9.toInt, br2_9.toInt, wh2_9.toInt, gc2_9.toInt) r9.toInt) ∧ (0 ≤ fi2_9.toInt ∧ fi2_9.toInt < 9088) ∧ (gc.toInt ≤ gc2_9.toInt ∧ gc2_9.toInt ≤ gc.toInt + 9066) ∧ (0 ≤ lk2_9.toInt ∧ lk2_9.toInt ≤ 1) ∧ (v3.toInt < 0 → r9.toInt = -12 ∧ cn2_9.toInt = cn.toInt) ∧ (0 ≤ v3.toInt → (0 ≤ r9.toInt ∧ r9.toInt ≤ cn.toInt) ∧ (cn.toInt ≤ v3.toInt → cn2_9.toInt = 0) ∧ (v3.toInt < cn.toInt → cn2_9.toInt = cn.toInt - v3.toInt)) ∧ ∀ j : Int, lnB fw fi2_9.toInt j = lnB fw fi.toInt (j + (cn.toInt - cn2_9.toInt)) := hw9
  clear hP hD hS
  have hP : va_P D classes [(aS, .inr (4, [.ref aC, .ref aG, .int wa])), (aC, .inr (3, [.long la])), (aG, .inl (cI, 8, .inl fg)), (aM, .inr (6, [.int th, .int mw, .ref bG, .int mz, .ref bL, .ref bY, .ref bB, .ref bC, .int tk, .int ss, .int ml, .int mh, .int mp, .int rw, .int wr, .int tc, .ref bT])), (bG, .inl (cI, 8, .inl gg)), (bL, .inl (cB, 9200, .inl gl)), (bY, .inl (cI, 116, .inl gy)), (bB, .inl (cI, 66, .inl gb)), (bC, .inl (cI, 66, .inl go)), (bT, .inl (cI, 2400, .inl gt)), (aX, .inr (5, [.ref aL, .ref aS, .ref aR])), (aL, .inr (1, [.ref aW, .int fi2_9, .int cn2_9])), (aW, .inl (cJ, 142, .inr (.inl fw))), (aR, .inr (2, [.ref aB, .ref aQ, .int hd2_9, .long pl2_9, .int hv2_9, .int lk2_9, .int dn2_9, .int ht2_9, .int sl2_9, .int br2_9, .int wh2_9])), (aB, .inr (3, [.long lb2_9])), (aQ, .inr (0, [.ref aT, .ref aP, .int gc2_9])), (aT, .inl (cI, 300, .inl ft2_9)), (aP, .inl (cJ, 300, .inr (.inl fp2_9)))] H := hP1
  have hD : va_D A [(aS, .inr (4, [.ref aC, .ref aG, .int wa])), (aC, .inr (3, [.long la])), (aG, .inl (cI, 8, .inl fg)), (aM, .inr (6, [.int th, .int mw, .ref bG, .int mz, .ref bL, .ref bY, .ref bB, .ref bC, .int tk, .int ss, .int ml, .int mh, .int mp, .int rw, .int wr, .int tc, .ref bT])), (bG, .inl (cI, 8, .inl gg)), (bL, .inl (cB, 9200, .inl gl)), (bY, .inl (cI, 116, .inl gy)), (bB, .inl (cI, 66, .inl gb)), (bC, .inl (cI, 66, .inl go)), (bT, .inl (cI, 2400, .inl gt)), (aX, .inr (5, [.ref aL, .ref aS, .ref aR])), (aL, .inr (1, [.ref aW, .int fi2_9, .int cn2_9])), (aW, .inl (cJ, 142, .inr (.inl fw))), (aR, .inr (2, [.ref aB, .ref aQ, .int hd2_9, .long pl2_9, .int hv2_9, .int lk2_9, .int dn2_9, .int ht2_9, .int sl2_9, .int br2_9, .int wh2_9])), (aB, .inr (3, [.long lb2_9])), (aQ, .inr (0, [.ref aT, .ref aP, .int gc2_9])), (aT, .inl (cI, 300, .inl ft2_9)), (aP, .inl (cJ, 300, .inr (.inl fp2_9)))] := hD1
  have hS := hS1
  clear hP1 hD1 hS1
  refine lv_pop hx hb dL_law_325 rfl ?_
  refine lv_aload_n hx hb dL_law_326 rfl (lv_at hl 1 rfl) ?_
  refine lv_aload_n hx hb dL_law_327 rfl (lv_at hl 3 rfl) ?_
  refine lv_iload_n hx hb dL_law_328 rfl (lv_at hl 0 rfl) ?_
  refine lv_iconst (v := 1) hx hb dL_law_329 (by decide) ?_
  refine lv_topi (fun v10 e10 => ?_)
  have z10 : v10.toInt = 1 := zi_c e10 (by decide)
  refine lv_iadd hx hb dL_law_330 ?_
  refine lv_topi (fun v11 e11 => ?_)
  first | have z11 := zi_add e11 (by omega) | skip
  refine va_sld hx hb hX hbl hbA hS (zi_in (by omega)) dL_law_331 ?_
  rw [show xs v11.toNatClampNeg = v3 from by rw [e3, show v11 = v2 from Int32.toInt_inj.mp (by omega)]]
  have hh12 : 0 ≤ mz.toInt ∧ mz.toInt ≤ 9066 := (by omega)
  have hh13 : 0 ≤ tk.toInt ∧ tk.toInt ≤ 65 := (by omega)
  have hh14 : 0 ≤ tc.toInt ∧ tc.toInt ≤ 900000000 := (by omega)
  have hh15 : (0 ≤ ml.toInt ∧ ml.toInt ≤ 1) ∧ (0 ≤ mh.toInt ∧ mh.toInt ≤ 63) ∧ (0 ≤ wr.toInt ∧ wr.toInt ≤ 15) ∧ (0 ≤ ss.toInt ∧ ss.toInt ≤ 1) ∧ (0 ≤ rw.toInt ∧ rw.toInt ≤ 64) ∧ (0 ≤ mp.toInt ∧ mp.toInt ≤ 900000000) := (by omega)
  have hh16 : ∀ j : Nat, (j : Int) < mz.toInt → gl j = bi (bt (gl j) 0) := hLn
  have hh17 : rwK ml.toInt rw.toInt := hM4
  refine call_i (wc := [(aM, .inr (6, [.int th, .int mw, .ref bG, .int mz, .ref bL, .ref bY, .ref bB, .ref bC, .int tk, .int ss, .int ml, .int mh, .int mp, .int rw, .int wr, .int tc, .ref bT])), (bL, .inl (cB, 9200, .inl gl)), (bY, .inl (cI, 116, .inl gy)), (bC, .inl (cI, 66, .inl go)), (bT, .inl (cI, 2400, .inl gt))]) (wr := [(aS, .inr (4, [.ref aC, .ref aG, .int wa])), (aC, .inr (3, [.long la])), (aG, .inl (cI, 8, .inl fg)), (bG, .inl (cI, 8, .inl gg)), (bB, .inl (cI, 66, .inl gb)), (aX, .inr (5, [.ref aL, .ref aS, .ref aR])), (aL, .inr (1, [.ref aW, .int fi2_9, .int cn2_9])), (aW, .inl (cJ, 142, .inr (.inl fw))), (aR, .inr (2, [.ref aB, .ref aQ, .int hd2_9, .long pl2_9, .int hv2_9, .int lk2_9, .int dn2_9, .int ht2_9, .int sl2_9, .int br2_9, .int wh2_9])), (aB, .inr (3, [.long lb2_9])), (aQ, .inr (0, [.ref aT, .ref aP, .int gc2_9])), (aT, .inl (cI, 300, .inl ft2_9)), (aP, .inl (cJ, 300, .inr (.inl fp2_9)))]) (run_V (As := [.int v3]) (rest := []) kv_RL_54 ⟨by decide, by decide⟩ ⟨rfl, rfl⟩ ⟨hx, hb, hml, hown, hts⟩ (c_Mo_receive l D cI cJ cB aM bG bL bY bB bC bT th mw mz tk ss ml mh mp rw wr tc gl gy go gt v3 hh12 hh13 hh14 hh15 hh16 hh17 _) ct_blind (ct_pre (wc := [(aM, .inr (6, [.int th, .int mw, .ref bG, .int mz, .ref bL, .ref bY, .ref bB, .ref bC, .int tk, .int ss, .int ml, .int mh, .int mp, .int rw, .int wr, .int tc, .ref bT])), (bL, .inl (cB, 9200, .inl gl)), (bY, .inl (cI, 116, .inl gy)), (bC, .inl (cI, 66, .inl go)), (bT, .inl (cI, 2400, .inl gt))]) hK hP hD hS hA hZ hN [3, 5, 6, 8, 9] (by decide) rfl rfl) (va_recv hK hP (ci := 6) (q0 := 3) rfl rfl) rfl hl.1 rfl (Nat.le_of_ble_eq_true rfl) dL_law_332 ⟨Nat.le_of_ble_eq_true rfl, Nat.le_of_ble_eq_true rfl⟩) hP hD hS hA [3, 5, 6, 8, 9] [0, 1, 2, 4, 7, 10, 11, 12, 13, 14, 15, 16, 17] rfl rfl (by decide) (by decide) (fun r18 u H locs hw18 hP1 hD1 hS1 => ?_)
  obtain ⟨th2_18, mz2_18, tk2_18, ss2_18, ml2_18, mh2_18, mp2_18, rw2_18, wr2_18, tc2_18, gl2_18, gy2_18, go2_18, gt2_18⟩ := u
  have hw18 : (((((0 ≤ ml2_18.toInt ∧ ml2_18.toInt ≤ 1) ∧ (0 ≤ mh2_18.toInt ∧ mh2_18.toInt ≤ 63) ∧ (0 ≤ wr2_18.toInt ∧ wr2_18.toInt ≤ 15) ∧ (0 ≤ ss2_18.toInt ∧ ss2_18.toInt ≤ 1) ∧ (0 ≤ rw2_18.toInt ∧ rw2_18.toInt ≤ 64)) ∧ (mp.toInt ≤ mp2_18.toInt ∧ mp2_18.toInt ≤ mp.toInt + 9066)) ∧ rwK ml2_18.toInt rw2_18.toInt) ∧ rcM v3.toInt mz.toInt (fun q : Nat => (gl q).toInt) ((go 0).toInt, (go 1).toInt, tk.toInt, ss.toInt, ml.toInt, mh.toInt, mp.toInt, rw.toInt, wr.toInt, tc.toInt) ((go2_18 0).toInt, (go2_18 1).toInt, tk2_18.toInt, ss2_18.toInt, ml2_18.toInt, mh2_18.toInt, mp2_18.toInt, rw2_18.toInt, wr2_18.toInt, tc2_18.toInt) r18.toInt) ∧ (0 ≤ ml2_18.toInt ∧ ml2_18.toInt ≤ 1) ∧ (0 ≤ tk2_18.toInt ∧ tk2_18.toInt ≤ 65) ∧ (tc.toInt ≤ tc2_18.toInt ∧ tc2_18.toInt ≤ tc.toInt + 9066) ∧ (v3.toInt < 0 → r18.toInt = -12 ∧ mz2_18.toInt = mz.toInt) ∧ (0 ≤ v3.toInt → (0 ≤ r18.toInt ∧ r18.toInt ≤ mz.toInt) ∧ (mz.toInt ≤ v3.toInt → mz2_18.toInt = 0) ∧ (v3.toInt < mz.toInt → mz2_18.toInt = mz.toInt - v3.toInt)) ∧ (∀ j : Nat, (j : Int) < mz2_18.toInt → gl2_18 j = gl (j + (mz.toInt - mz2_18.toInt).toNat)) ∧ ∀ j, j < 58 → gy2_18 j = gy j := hw18
  clear hP hD hS
  have hP : va_P D classes [(aS, .inr (4, [.ref aC, .ref aG, .int wa])), (aC, .inr (3, [.long la])), (aG, .inl (cI, 8, .inl fg)), (bG, .inl (cI, 8, .inl gg)), (bB, .inl (cI, 66, .inl gb)), (aX, .inr (5, [.ref aL, .ref aS, .ref aR])), (aL, .inr (1, [.ref aW, .int fi2_9, .int cn2_9])), (aW, .inl (cJ, 142, .inr (.inl fw))), (aR, .inr (2, [.ref aB, .ref aQ, .int hd2_9, .long pl2_9, .int hv2_9, .int lk2_9, .int dn2_9, .int ht2_9, .int sl2_9, .int br2_9, .int wh2_9])), (aB, .inr (3, [.long lb2_9])), (aQ, .inr (0, [.ref aT, .ref aP, .int gc2_9])), (aT, .inl (cI, 300, .inl ft2_9)), (aP, .inl (cJ, 300, .inr (.inl fp2_9))), (aM, .inr (6, [.int th2_18, .int mw, .ref bG, .int mz2_18, .ref bL, .ref bY, .ref bB, .ref bC, .int tk2_18, .int ss2_18, .int ml2_18, .int mh2_18, .int mp2_18, .int rw2_18, .int wr2_18, .int tc2_18, .ref bT])), (bL, .inl (cB, 9200, .inl gl2_18)), (bY, .inl (cI, 116, .inl gy2_18)), (bC, .inl (cI, 66, .inl go2_18)), (bT, .inl (cI, 2400, .inl gt2_18))] H := hP1
  have hD : va_D A [(aS, .inr (4, [.ref aC, .ref aG, .int wa])), (aC, .inr (3, [.long la])), (aG, .inl (cI, 8, .inl fg)), (bG, .inl (cI, 8, .inl gg)), (bB, .inl (cI, 66, .inl gb)), (aX, .inr (5, [.ref aL, .ref aS, .ref aR])), (aL, .inr (1, [.ref aW, .int fi2_9, .int cn2_9])), (aW, .inl (cJ, 142, .inr (.inl fw))), (aR, .inr (2, [.ref aB, .ref aQ, .int hd2_9, .long pl2_9, .int hv2_9, .int lk2_9, .int dn2_9, .int ht2_9, .int sl2_9, .int br2_9, .int wh2_9])), (aB, .inr (3, [.long lb2_9])), (aQ, .inr (0, [.ref aT, .ref aP, .int gc2_9])), (aT, .inl (cI, 300, .inl ft2_9)), (aP, .inl (cJ, 300, .inr (.inl fp2_9))), (aM, .inr (6, [.int th2_18, .int mw, .ref bG, .int mz2_18, .ref bL, .ref bY, .ref bB, .ref bC, .int tk2_18, .int ss2_18, .int ml2_18, .int mh2_18, .int mp2_18, .int rw2_18, .int wr2_18, .int tc2_18, .ref bT])), (bL, .inl (cB, 9200, .inl gl2_18)), (bY, .inl (cI, 116, .inl gy2_18)), (bC, .inl (cI, 66, .inl go2_18)), (bT, .inl (cI, 2400, .inl gt2_18))] := hD1
  have hS := hS1
  clear hP1 hD1 hS1
  obtain ⟨hA8, hA9⟩ := hw9
  obtain ⟨hB8, hB9⟩ := hw18
  obtain ⟨hk9, hM⟩ := rc_rcv (t := i.toInt) hE.1 hR.2 hC hM5 hM1.2.2.2.2.2.2 hM2.2.2.2.2 hA8 hB8
  clear hM1 hM2 hM3 hM4 hM5 hA8 hB8
  have hk := eq_receive hE.1 hR.2 ⟨hA9.2.2.2.1, hA9.2.2.2.2.1⟩ ⟨hB9.2.2.2.1, hB9.2.2.2.2.1⟩
  have hC2 := cp_rcv hE hC hk.1.1 (rcv_le hR.2 hA9.2.2.2.1 hA9.2.2.2.2.1) hA9.2.2.2.2.2 hB9.2.2.2.2.2.1 hB9.2.2.2.2.2.2
  clear hC hV hY hLn
  have hC := hC2
  obtain ⟨ha1, ha2, ha3, -⟩ := hA9
  obtain ⟨hb1, hb2, hb3, -⟩ := hB9
  refine lv_pop hx hb dL_law_335 rfl ?_
  refine lv_goto (tgt := 395) hx hb dL_law_336 (by decide) ?_
  exact kk _ _ _ ⟨fi2_9, cn2_9, fw, wa, la, fg, hd2_9, pl2_9, hv2_9, lk2_9, dn2_9, ht2_9, sl2_9, br2_9, wh2_9, lb2_9, gc2_9, ft2_9, fp2_9, th2_18, mw, mz2_18, tk2_18, ss2_18, ml2_18, mh2_18, mp2_18, rw2_18, wr2_18, tc2_18, gg, gl2_18, gy2_18, gb, go2_18, gt2_18, ⟨by omega, by omega, by omega, by omega, by omega, hC, rcS_up hM (by omega)⟩, hP.sub [5, 6, 7, 0, 1, 2, 8, 9, 10, 11, 12, 13, 3, 14, 15, 4, 16, 17] rfl, hD.sub [5, 6, 7, 0, 1, 2, 8, 9, 10, 11, 12, 13, 3, 14, 15, 4, 16, 17] (by decide) rfl, hS⟩ (lv_sub hl [0, 1, 2, 3] rfl)
set_option maxHeartbeats 8000000 in
set_option maxRecDepth 100000 in
theorem law_c9 {p : Program} {l : Launch} {e : Env} {s : State} {m : MethodId} {args : Array Value} {below : List Frame} {meth : Method} {c : Code} {A : Nat → Prop} {Q : State → Prop} {D : va_G} {cI cJ cB : ClassId} {b L : Nat} {xs : Nat → Int32} (hL : L ≤ 2048)
    (hx : p.tables.exec = Jvm.exec) (hb : c.code = cL_law) (hml : c.maxLocals = 4) (hown : s.vm.findClass RL = some m.cls) (hts : ∀ w ∈ lw_good, w.before args s = true) (hK : va_K D classes (tys3 cI cJ cB) s) (hA : ∀ q : Nat, s.heap.size ≤ q → A q) (hZ : st_T A s s.heap) (hN : nw_T s) (hX : va_X b L xs s s.heap) (hbl : b < s.heap.size) (hbA : ¬ A b)
    {aX aL aW aS aC aG aR aB aQ aT aP aM bG bL bY bB bC bT : Nat} {i : Int32} {H : Heap} {locs : List Loc} {ls : Array Slot} (hi : 0 ≤ i.toInt ∧ i.toInt + 4 ≤ (L : Int)) (hI0 : LI A s D cI cJ cB aX aL aW aS aC aG aR aB aQ aT aP aM bG bL bY bB bC bT i.toInt H locs) (hl : lv_has ls 4 [(3, .int i), (2, .ref aM), (1, .ref aX), (0, .ref b)])
    (kk : ∀ (H : Heap) (locs : List Loc) (ls : Array Slot), LI A s D cI cJ cB aX aL aW aS aC aG aR aB aQ aT aP aM bG bL bY bB bC bT (i.toInt + 4) H locs → lv_has ls 4 [(3, .int i), (2, .ref aM), (1, .ref aX), (0, .ref b)] → W p l e room_1 s m args below meth c H locs 18 12648 Q (F0 m 395 ls [])) :
    W p l e room_1 s m args below meth c H locs 18 12648 Q (F0 m 339 ls []) := by
  obtain ⟨fi, cn, fw, wa, la, fg, hd, pl, hv, lk, dn, ht, sl, br, wh, lb, gc, ft, fp, th, mw, mz, tk, ss, ml, mh, mp, rw, wr, tc, gg, gl, gy, gb, go, gt, hI, hP, hD, hS⟩ := hI0
  obtain ⟨hE, hR, hF, hB, hT, hC, hM⟩ := hI
  have hV := hC.2.1
  have hY := hC.2.2.1
  have hLn : ∀ j : Nat, (j : Int) < mz.toInt → gl j = bi (bt (gl j) 0) := fun j hj => hC.2.2.2 j (by omega)
  refine lv_aload_n hx hb dL_law_339 rfl (lv_at hl 2 rfl) ?_
  refine lv_aload_n hx hb dL_law_340 rfl (lv_at hl 3 rfl) ?_
  refine lv_iload_n hx hb dL_law_341 rfl (lv_at hl 0 rfl) ?_
  refine lv_iconst (v := 1) hx hb dL_law_342 (by decide) ?_
  refine lv_topi (fun v1 e1 => ?_)
  have z1 : v1.toInt = 1 := zi_c e1 (by decide)
  refine lv_iadd hx hb dL_law_343 ?_
  refine lv_topi (fun v2 e2 => ?_)
  first | have z2 := zi_add e2 (by omega) | skip
  refine va_sld hx hb hX hbl hbA hS (zi_in (by omega)) dL_law_344 ?_
  refine lv_topi (fun v3 e3 => ?_)
  refine lv_aload_n hx hb dL_law_345 rfl (lv_at hl 3 rfl) ?_
  refine lv_iload_n hx hb dL_law_346 rfl (lv_at hl 0 rfl) ?_
  refine lv_iconst (v := 2) hx hb dL_law_347 (by decide) ?_
  refine lv_topi (fun v4 e4 => ?_)
  have z4 : v4.toInt = 2 := zi_c e4 (by decide)
  refine lv_iadd hx hb dL_law_348 ?_
  refine lv_topi (fun v5 e5 => ?_)
  first | have z5 := zi_add e5 (by omega) | skip
  refine va_sld hx hb hX hbl hbA hS (zi_in (by omega)) dL_law_349 ?_
  refine lv_topi (fun v6 e6 => ?_)
  refine call_i (wc := [(aX, .inr (5, [.ref aL, .ref aS, .ref aR])), (aR, .inr (2, [.ref aB, .ref aQ, .int hd, .long pl, .int hv, .int lk, .int dn, .int ht, .int sl, .int br, .int wh])), (aQ, .inr (0, [.ref aT, .ref aP, .int gc])), (aT, .inl (cI, 300, .inl ft)), (aP, .inl (cJ, 300, .inr (.inl fp)))]) (wr := [(aL, .inr (1, [.ref aW, .int fi, .int cn])), (aW, .inl (cJ, 142, .inr (.inl fw))), (aS, .inr (4, [.ref aC, .ref aG, .int wa])), (aC, .inr (3, [.long la])), (aG, .inl (cI, 8, .inl fg)), (aB, .inr (3, [.long lb])), (aM, .inr (6, [.int th, .int mw, .ref bG, .int mz, .ref bL, .ref bY, .ref bB, .ref bC, .int tk, .int ss, .int ml, .int mh, .int mp, .int rw, .int wr, .int tc, .ref bT])), (bG, .inl (cI, 8, .inl gg)), (bL, .inl (cB, 9200, .inl gl)), (bY, .inl (cI, 116, .inl gy)), (bB, .inl (cI, 66, .inl gb)), (bC, .inl (cI, 66, .inl go)), (bT, .inl (cI, 2400, .inl gt))]) (run_V (As := [.int v3, .int v6]) (rest := []) kv_RL_55 ⟨by decide, by decide⟩ ⟨rfl, rfl⟩ ⟨hx, hb, hml, hown, hts⟩ (c_LB_told l D cI cJ cB aX aL aS aR aB aQ aT aP hd pl hv lk dn ht sl br wh gc v3 v6 ft fp  _) ct_blind (ct_pre (wc := [(aX, .inr (5, [.ref aL, .ref aS, .ref aR])), (aR, .inr (2, [.ref aB, .ref aQ, .int hd, .long pl, .int hv, .int lk, .int dn, .int ht, .int sl, .int br, .int wh])), (aQ, .inr (0, [.ref aT, .ref aP, .int gc])), (aT, .inl (cI, 300, .inl ft)), (aP, .inl (cJ, 300, .inr (.inl fp)))]) hK hP hD hS hA hZ hN [0, 6, 8, 9, 10] (by decide) rfl rfl) (va_recv hK hP (ci := 5) (q0 := 0) rfl rfl) rfl hl.1 rfl (Nat.le_of_ble_eq_true rfl) dL_law_350 ⟨Nat.le_of_ble_eq_true rfl, Nat.le_of_ble_eq_true rfl⟩) hP hD hS hA [0, 6, 8, 9, 10] [1, 2, 3, 4, 5, 7, 11, 12, 13, 14, 15, 16, 17] rfl rfl (by decide) (by decide) (fun r7 u H locs hw7 hP1 hD1 hS1 => ?_)
  have hw7 : gc.toInt = 0 → r7.toInt = -1 := hw7
  clear hP hD hS
  have hP : va_P D classes [(aL, .inr (1, [.ref aW, .int fi, .int cn])), (aW, .inl (cJ, 142, .inr (.inl fw))), (aS, .inr (4, [.ref aC, .ref aG, .int wa])), (aC, .inr (3, [.long la])), (aG, .inl (cI, 8, .inl fg)), (aB, .inr (3, [.long lb])), (aM, .inr (6, [.int th, .int mw, .ref bG, .int mz, .ref bL, .ref bY, .ref bB, .ref bC, .int tk, .int ss, .int ml, .int mh, .int mp, .int rw, .int wr, .int tc, .ref bT])), (bG, .inl (cI, 8, .inl gg)), (bL, .inl (cB, 9200, .inl gl)), (bY, .inl (cI, 116, .inl gy)), (bB, .inl (cI, 66, .inl gb)), (bC, .inl (cI, 66, .inl go)), (bT, .inl (cI, 2400, .inl gt)), (aX, .inr (5, [.ref aL, .ref aS, .ref aR])), (aR, .inr (2, [.ref aB, .ref aQ, .int hd, .long pl, .int hv, .int lk, .int dn, .int ht, .int sl, .int br, .int wh])), (aQ, .inr (0, [.ref aT, .ref aP, .int gc])), (aT, .inl (cI, 300, .inl ft)), (aP, .inl (cJ, 300, .inr (.inl fp)))] H := hP1
  have hD : va_D A [(aL, .inr (1, [.ref aW, .int fi, .int cn])), (aW, .inl (cJ, 142, .inr (.inl fw))), (aS, .inr (4, [.ref aC, .ref aG, .int wa])), (aC, .inr (3, [.long la])), (aG, .inl (cI, 8, .inl fg)), (aB, .inr (3, [.long lb])), (aM, .inr (6, [.int th, .int mw, .ref bG, .int mz, .ref bL, .ref bY, .ref bB, .ref bC, .int tk, .int ss, .int ml, .int mh, .int mp, .int rw, .int wr, .int tc, .ref bT])), (bG, .inl (cI, 8, .inl gg)), (bL, .inl (cB, 9200, .inl gl)), (bY, .inl (cI, 116, .inl gy)), (bB, .inl (cI, 66, .inl gb)), (bC, .inl (cI, 66, .inl go)), (bT, .inl (cI, 2400, .inl gt)), (aX, .inr (5, [.ref aL, .ref aS, .ref aR])), (aR, .inr (2, [.ref aB, .ref aQ, .int hd, .long pl, .int hv, .int lk, .int dn, .int ht, .int sl, .int br, .int wh])), (aQ, .inr (0, [.ref aT, .ref aP, .int gc])), (aT, .inl (cI, 300, .inl ft)), (aP, .inl (cJ, 300, .inr (.inl fp)))] := hD1
  have hS := hS1
  clear hP1 hD1 hS1
  refine lv_pop hx hb dL_law_353 rfl ?_
  refine lv_aload_n hx hb dL_law_354 rfl (lv_at hl 1 rfl) ?_
  refine lv_aload_n hx hb dL_law_355 rfl (lv_at hl 3 rfl) ?_
  refine lv_iload_n hx hb dL_law_356 rfl (lv_at hl 0 rfl) ?_
  refine lv_iconst (v := 1) hx hb dL_law_357 (by decide) ?_
  refine lv_topi (fun v8 e8 => ?_)
  have z8 : v8.toInt = 1 := zi_c e8 (by decide)
  refine lv_iadd hx hb dL_law_358 ?_
  refine lv_topi (fun v9 e9 => ?_)
  first | have z9 := zi_add e9 (by omega) | skip
  refine va_sld hx hb hX hbl hbA hS (zi_in (by omega)) dL_law_359 ?_
  rw [show xs v9.toNatClampNeg = v3 from by rw [e3, show v9 = v2 from Int32.toInt_inj.mp (by omega)]]
  refine lv_aload_n hx hb dL_law_360 rfl (lv_at hl 3 rfl) ?_
  refine lv_iload_n hx hb dL_law_361 rfl (lv_at hl 0 rfl) ?_
  refine lv_iconst (v := 2) hx hb dL_law_362 (by decide) ?_
  refine lv_topi (fun v10 e10 => ?_)
  have z10 : v10.toInt = 2 := zi_c e10 (by decide)
  refine lv_iadd hx hb dL_law_363 ?_
  refine lv_topi (fun v11 e11 => ?_)
  first | have z11 := zi_add e11 (by omega) | skip
  refine va_sld hx hb hX hbl hbA hS (zi_in (by omega)) dL_law_364 ?_
  rw [show xs v11.toNatClampNeg = v6 from by rw [e6, show v11 = v5 from Int32.toInt_inj.mp (by omega)]]
  have hh12 : 0 ≤ tc.toInt ∧ tc.toInt ≤ 1000000000 := (by omega)
  refine call_i (wc := [(aM, .inr (6, [.int th, .int mw, .ref bG, .int mz, .ref bL, .ref bY, .ref bB, .ref bC, .int tk, .int ss, .int ml, .int mh, .int mp, .int rw, .int wr, .int tc, .ref bT])), (bT, .inl (cI, 2400, .inl gt))]) (wr := [(aL, .inr (1, [.ref aW, .int fi, .int cn])), (aW, .inl (cJ, 142, .inr (.inl fw))), (aS, .inr (4, [.ref aC, .ref aG, .int wa])), (aC, .inr (3, [.long la])), (aG, .inl (cI, 8, .inl fg)), (aB, .inr (3, [.long lb])), (bG, .inl (cI, 8, .inl gg)), (bL, .inl (cB, 9200, .inl gl)), (bY, .inl (cI, 116, .inl gy)), (bB, .inl (cI, 66, .inl gb)), (bC, .inl (cI, 66, .inl go)), (aX, .inr (5, [.ref aL, .ref aS, .ref aR])), (aR, .inr (2, [.ref aB, .ref aQ, .int hd, .long pl, .int hv, .int lk, .int dn, .int ht, .int sl, .int br, .int wh])), (aQ, .inr (0, [.ref aT, .ref aP, .int gc])), (aT, .inl (cI, 300, .inl ft)), (aP, .inl (cJ, 300, .inr (.inl fp)))]) (run_V (As := [.int v3, .int v6]) (rest := []) kv_RL_58 ⟨by decide, by decide⟩ ⟨rfl, rfl⟩ ⟨hx, hb, hml, hown, hts⟩ (c_Mo_told l D cI cJ cB aM bG bL bY bB bC bT th mw mz tk ss ml mh mp rw wr tc gt v3 v6 hh12 _) ct_blind (ct_pre (wc := [(aM, .inr (6, [.int th, .int mw, .ref bG, .int mz, .ref bL, .ref bY, .ref bB, .ref bC, .int tk, .int ss, .int ml, .int mh, .int mp, .int rw, .int wr, .int tc, .ref bT])), (bT, .inl (cI, 2400, .inl gt))]) hK hP hD hS hA hZ hN [6, 12] (by decide) rfl rfl) (va_recv hK hP (ci := 6) (q0 := 6) rfl rfl) rfl hl.1 rfl (Nat.le_of_ble_eq_true rfl) dL_law_365 ⟨Nat.le_of_ble_eq_true rfl, Nat.le_of_ble_eq_true rfl⟩) hP hD hS hA [6, 12] [0, 1, 2, 3, 4, 5, 7, 8, 9, 10, 11, 13, 14, 15, 16, 17] rfl rfl (by decide) (by decide) (fun r13 u H locs hw13 hP1 hD1 hS1 => ?_)
  obtain ⟨th2_13, hu9⟩ : ∃ z, z = u := ⟨_, rfl⟩
  subst hu9
  have hw13 : tc.toInt = 0 → r13.toInt = -1 := hw13
  clear hP hD hS
  have hP : va_P D classes [(aL, .inr (1, [.ref aW, .int fi, .int cn])), (aW, .inl (cJ, 142, .inr (.inl fw))), (aS, .inr (4, [.ref aC, .ref aG, .int wa])), (aC, .inr (3, [.long la])), (aG, .inl (cI, 8, .inl fg)), (aB, .inr (3, [.long lb])), (bG, .inl (cI, 8, .inl gg)), (bL, .inl (cB, 9200, .inl gl)), (bY, .inl (cI, 116, .inl gy)), (bB, .inl (cI, 66, .inl gb)), (bC, .inl (cI, 66, .inl go)), (aX, .inr (5, [.ref aL, .ref aS, .ref aR])), (aR, .inr (2, [.ref aB, .ref aQ, .int hd, .long pl, .int hv, .int lk, .int dn, .int ht, .int sl, .int br, .int wh])), (aQ, .inr (0, [.ref aT, .ref aP, .int gc])), (aT, .inl (cI, 300, .inl ft)), (aP, .inl (cJ, 300, .inr (.inl fp))), (aM, .inr (6, [.int th2_13, .int mw, .ref bG, .int mz, .ref bL, .ref bY, .ref bB, .ref bC, .int tk, .int ss, .int ml, .int mh, .int mp, .int rw, .int wr, .int tc, .ref bT])), (bT, .inl (cI, 2400, .inl gt))] H := hP1
  have hD : va_D A [(aL, .inr (1, [.ref aW, .int fi, .int cn])), (aW, .inl (cJ, 142, .inr (.inl fw))), (aS, .inr (4, [.ref aC, .ref aG, .int wa])), (aC, .inr (3, [.long la])), (aG, .inl (cI, 8, .inl fg)), (aB, .inr (3, [.long lb])), (bG, .inl (cI, 8, .inl gg)), (bL, .inl (cB, 9200, .inl gl)), (bY, .inl (cI, 116, .inl gy)), (bB, .inl (cI, 66, .inl gb)), (bC, .inl (cI, 66, .inl go)), (aX, .inr (5, [.ref aL, .ref aS, .ref aR])), (aR, .inr (2, [.ref aB, .ref aQ, .int hd, .long pl, .int hv, .int lk, .int dn, .int ht, .int sl, .int br, .int wh])), (aQ, .inr (0, [.ref aT, .ref aP, .int gc])), (aT, .inl (cI, 300, .inl ft)), (aP, .inl (cJ, 300, .inr (.inl fp))), (aM, .inr (6, [.int th2_13, .int mw, .ref bG, .int mz, .ref bL, .ref bY, .ref bB, .ref bC, .int tk, .int ss, .int ml, .int mh, .int mp, .int rw, .int wr, .int tc, .ref bT])), (bT, .inl (cI, 2400, .inl gt))] := hD1
  have hS := hS1
  clear hP1 hD1 hS1
  refine lv_pop hx hb dL_law_368 rfl ?_
  refine lv_goto (tgt := 395) hx hb dL_law_369 (by decide) ?_
  exact kk _ _ _ ⟨fi, cn, fw, wa, la, fg, hd, pl, hv, lk, dn, ht, sl, br, wh, lb, gc, ft, fp, th2_13, mw, mz, tk, ss, ml, mh, mp, rw, wr, tc, gg, gl, gy, gb, go, gt, ⟨by omega, by omega, by omega, by omega, by omega, hC, rcS_up hM (by omega)⟩, hP.sub [11, 0, 1, 2, 3, 4, 12, 5, 13, 14, 15, 16, 6, 7, 8, 9, 10, 17] rfl, hD.sub [11, 0, 1, 2, 3, 4, 12, 5, 13, 14, 15, 16, 6, 7, 8, 9, 10, 17] (by decide) rfl, hS⟩ (lv_sub hl [0, 1, 2, 3] rfl)
set_option maxHeartbeats 8000000 in
set_option maxRecDepth 100000 in
theorem law_c10 {p : Program} {l : Launch} {e : Env} {s : State} {m : MethodId} {args : Array Value} {below : List Frame} {meth : Method} {c : Code} {A : Nat → Prop} {Q : State → Prop} {D : va_G} {cI cJ cB : ClassId} {b L : Nat} {xs : Nat → Int32} (hL : L ≤ 2048)
    (hx : p.tables.exec = Jvm.exec) (hb : c.code = cL_law) (hml : c.maxLocals = 4) (hown : s.vm.findClass RL = some m.cls) (hts : ∀ w ∈ lw_good, w.before args s = true) (hK : va_K D classes (tys3 cI cJ cB) s) (hA : ∀ q : Nat, s.heap.size ≤ q → A q) (hZ : st_T A s s.heap) (hN : nw_T s) (hX : va_X b L xs s s.heap) (hbl : b < s.heap.size) (hbA : ¬ A b)
    {aX aL aW aS aC aG aR aB aQ aT aP aM bG bL bY bB bC bT : Nat} {i : Int32} {H : Heap} {locs : List Loc} {ls : Array Slot} (hi : 0 ≤ i.toInt ∧ i.toInt + 4 ≤ (L : Int)) (hI0 : LI A s D cI cJ cB aX aL aW aS aC aG aR aB aQ aT aP aM bG bL bY bB bC bT i.toInt H locs) (hl : lv_has ls 4 [(3, .int i), (2, .ref aM), (1, .ref aX), (0, .ref b)])
    (kk : ∀ (H : Heap) (locs : List Loc) (ls : Array Slot), LI A s D cI cJ cB aX aL aW aS aC aG aR aB aQ aT aP aM bG bL bY bB bC bT (i.toInt + 4) H locs → lv_has ls 4 [(3, .int i), (2, .ref aM), (1, .ref aX), (0, .ref b)] → W p l e room_1 s m args below meth c H locs 18 12648 Q (F0 m 395 ls [])) :
    W p l e room_1 s m args below meth c H locs 18 12648 Q (F0 m 372 ls []) := by
  obtain ⟨fi, cn, fw, wa, la, fg, hd, pl, hv, lk, dn, ht, sl, br, wh, lb, gc, ft, fp, th, mw, mz, tk, ss, ml, mh, mp, rw, wr, tc, gg, gl, gy, gb, go, gt, hI, hP, hD, hS⟩ := hI0
  obtain ⟨hE, hR, hF, hB, hT, hC, hM⟩ := hI
  have hV := hC.2.1
  have hY := hC.2.2.1
  have hLn : ∀ j : Nat, (j : Int) < mz.toInt → gl j = bi (bt (gl j) 0) := fun j hj => hC.2.2.2 j (by omega)
  refine lv_aload_n hx hb dL_law_372 rfl (lv_at hl 2 rfl) ?_
  refine lv_aload_n hx hb dL_law_373 rfl (lv_at hl 3 rfl) ?_
  refine lv_iload_n hx hb dL_law_374 rfl (lv_at hl 0 rfl) ?_
  refine lv_iconst (v := 1) hx hb dL_law_375 (by decide) ?_
  refine lv_topi (fun v1 e1 => ?_)
  have z1 : v1.toInt = 1 := zi_c e1 (by decide)
  refine lv_iadd hx hb dL_law_376 ?_
  refine lv_topi (fun v2 e2 => ?_)
  first | have z2 := zi_add e2 (by omega) | skip
  refine va_sld hx hb hX hbl hbA hS (zi_in (by omega)) dL_law_377 ?_
  refine lv_topi (fun v3 e3 => ?_)
  have hh4 : 0 ≤ lk.toInt ∧ lk.toInt ≤ 1 := (by omega)
  refine call_i (wc := [(aX, .inr (5, [.ref aL, .ref aS, .ref aR])), (aR, .inr (2, [.ref aB, .ref aQ, .int hd, .long pl, .int hv, .int lk, .int dn, .int ht, .int sl, .int br, .int wh])), (aQ, .inr (0, [.ref aT, .ref aP, .int gc]))]) (wr := [(aL, .inr (1, [.ref aW, .int fi, .int cn])), (aW, .inl (cJ, 142, .inr (.inl fw))), (aS, .inr (4, [.ref aC, .ref aG, .int wa])), (aC, .inr (3, [.long la])), (aG, .inl (cI, 8, .inl fg)), (aB, .inr (3, [.long lb])), (aT, .inl (cI, 300, .inl ft)), (aP, .inl (cJ, 300, .inr (.inl fp))), (aM, .inr (6, [.int th, .int mw, .ref bG, .int mz, .ref bL, .ref bY, .ref bB, .ref bC, .int tk, .int ss, .int ml, .int mh, .int mp, .int rw, .int wr, .int tc, .ref bT])), (bG, .inl (cI, 8, .inl gg)), (bL, .inl (cB, 9200, .inl gl)), (bY, .inl (cI, 116, .inl gy)), (bB, .inl (cI, 66, .inl gb)), (bC, .inl (cI, 66, .inl go)), (bT, .inl (cI, 2400, .inl gt))]) (run_V (As := [.int v3]) (rest := []) kv_RL_59 ⟨by decide, by decide⟩ ⟨rfl, rfl⟩ ⟨hx, hb, hml, hown, hts⟩ (c_LB_receiver l D cI cJ cB aX aL aS aR aB aQ aT aP hd pl hv lk dn ht sl br wh gc v3 hh4 _) ct_blind (ct_pre (wc := [(aX, .inr (5, [.ref aL, .ref aS, .ref aR])), (aR, .inr (2, [.ref aB, .ref aQ, .int hd, .long pl, .int hv, .int lk, .int dn, .int ht, .int sl, .int br, .int wh])), (aQ, .inr (0, [.ref aT, .ref aP, .int gc]))]) hK hP hD hS hA hZ hN [0, 6, 8] (by decide) rfl rfl) (va_recv hK hP (ci := 5) (q0 := 0) rfl rfl) rfl hl.1 rfl (Nat.le_of_ble_eq_true rfl) dL_law_378 ⟨Nat.le_of_ble_eq_true rfl, Nat.le_of_ble_eq_true rfl⟩) hP hD hS hA [0, 6, 8] [1, 2, 3, 4, 5, 7, 9, 10, 11, 12, 13, 14, 15, 16, 17] rfl rfl (by decide) (by decide) (fun r5 u H locs hw5 hP1 hD1 hS1 => ?_)
  have hw5 : (v3.toInt = 0 → r5.toInt = lk.toInt) ∧ (v3.toInt = 1 → r5.toInt = ht.toInt) ∧ (v3.toInt = 2 → r5.toInt = sl.toInt) ∧ (v3.toInt = 3 → r5.toInt = hv.toInt) ∧ (v3.toInt = 4 → r5.toInt = gc.toInt) ∧ (v3.toInt = 5 → r5.toInt = wh.toInt) ∧ ((v3.toInt < 0 ∨ 5 < v3.toInt) → r5.toInt = -12) := hw5
  clear hP hD hS
  have hP : va_P D classes [(aL, .inr (1, [.ref aW, .int fi, .int cn])), (aW, .inl (cJ, 142, .inr (.inl fw))), (aS, .inr (4, [.ref aC, .ref aG, .int wa])), (aC, .inr (3, [.long la])), (aG, .inl (cI, 8, .inl fg)), (aB, .inr (3, [.long lb])), (aT, .inl (cI, 300, .inl ft)), (aP, .inl (cJ, 300, .inr (.inl fp))), (aM, .inr (6, [.int th, .int mw, .ref bG, .int mz, .ref bL, .ref bY, .ref bB, .ref bC, .int tk, .int ss, .int ml, .int mh, .int mp, .int rw, .int wr, .int tc, .ref bT])), (bG, .inl (cI, 8, .inl gg)), (bL, .inl (cB, 9200, .inl gl)), (bY, .inl (cI, 116, .inl gy)), (bB, .inl (cI, 66, .inl gb)), (bC, .inl (cI, 66, .inl go)), (bT, .inl (cI, 2400, .inl gt)), (aX, .inr (5, [.ref aL, .ref aS, .ref aR])), (aR, .inr (2, [.ref aB, .ref aQ, .int hd, .long pl, .int hv, .int lk, .int dn, .int ht, .int sl, .int br, .int wh])), (aQ, .inr (0, [.ref aT, .ref aP, .int gc]))] H := hP1
  have hD : va_D A [(aL, .inr (1, [.ref aW, .int fi, .int cn])), (aW, .inl (cJ, 142, .inr (.inl fw))), (aS, .inr (4, [.ref aC, .ref aG, .int wa])), (aC, .inr (3, [.long la])), (aG, .inl (cI, 8, .inl fg)), (aB, .inr (3, [.long lb])), (aT, .inl (cI, 300, .inl ft)), (aP, .inl (cJ, 300, .inr (.inl fp))), (aM, .inr (6, [.int th, .int mw, .ref bG, .int mz, .ref bL, .ref bY, .ref bB, .ref bC, .int tk, .int ss, .int ml, .int mh, .int mp, .int rw, .int wr, .int tc, .ref bT])), (bG, .inl (cI, 8, .inl gg)), (bL, .inl (cB, 9200, .inl gl)), (bY, .inl (cI, 116, .inl gy)), (bB, .inl (cI, 66, .inl gb)), (bC, .inl (cI, 66, .inl go)), (bT, .inl (cI, 2400, .inl gt)), (aX, .inr (5, [.ref aL, .ref aS, .ref aR])), (aR, .inr (2, [.ref aB, .ref aQ, .int hd, .long pl, .int hv, .int lk, .int dn, .int ht, .int sl, .int br, .int wh])), (aQ, .inr (0, [.ref aT, .ref aP, .int gc]))] := hD1
  have hS := hS1
  clear hP1 hD1 hS1
  refine lv_aload_n hx hb dL_law_381 rfl (lv_at hl 1 rfl) ?_
  refine lv_aload_n hx hb dL_law_382 rfl (lv_at hl 3 rfl) ?_
  refine lv_iload_n hx hb dL_law_383 rfl (lv_at hl 0 rfl) ?_
  refine lv_iconst (v := 1) hx hb dL_law_384 (by decide) ?_
  refine lv_topi (fun v6 e6 => ?_)
  have z6 : v6.toInt = 1 := zi_c e6 (by decide)
  refine lv_iadd hx hb dL_law_385 ?_
  refine lv_topi (fun v7 e7 => ?_)
  first | have z7 := zi_add e7 (by omega) | skip
  refine va_sld hx hb hX hbl hbA hS (zi_in (by omega)) dL_law_386 ?_
  rw [show xs v7.toNatClampNeg = v3 from by rw [e3, show v7 = v2 from Int32.toInt_inj.mp (by omega)]]
  have hh8 : 0 ≤ ml.toInt ∧ ml.toInt ≤ 1 := (by omega)
  refine call_i (wc := [(aM, .inr (6, [.int th, .int mw, .ref bG, .int mz, .ref bL, .ref bY, .ref bB, .ref bC, .int tk, .int ss, .int ml, .int mh, .int mp, .int rw, .int wr, .int tc, .ref bT]))]) (wr := [(aL, .inr (1, [.ref aW, .int fi, .int cn])), (aW, .inl (cJ, 142, .inr (.inl fw))), (aS, .inr (4, [.ref aC, .ref aG, .int wa])), (aC, .inr (3, [.long la])), (aG, .inl (cI, 8, .inl fg)), (aB, .inr (3, [.long lb])), (aT, .inl (cI, 300, .inl ft)), (aP, .inl (cJ, 300, .inr (.inl fp))), (bG, .inl (cI, 8, .inl gg)), (bL, .inl (cB, 9200, .inl gl)), (bY, .inl (cI, 116, .inl gy)), (bB, .inl (cI, 66, .inl gb)), (bC, .inl (cI, 66, .inl go)), (bT, .inl (cI, 2400, .inl gt)), (aX, .inr (5, [.ref aL, .ref aS, .ref aR])), (aR, .inr (2, [.ref aB, .ref aQ, .int hd, .long pl, .int hv, .int lk, .int dn, .int ht, .int sl, .int br, .int wh])), (aQ, .inr (0, [.ref aT, .ref aP, .int gc]))]) (run_V (As := [.int v3]) (rest := [.int r5]) kv_RL_62 ⟨by decide, by decide⟩ ⟨rfl, rfl⟩ ⟨hx, hb, hml, hown, hts⟩ (c_Mo_receiver l D cI cJ cB aM bG bL bY bB bC bT th mw mz tk ss ml mh mp rw wr tc v3 hh8 _) ct_blind (ct_pre (wc := [(aM, .inr (6, [.int th, .int mw, .ref bG, .int mz, .ref bL, .ref bY, .ref bB, .ref bC, .int tk, .int ss, .int ml, .int mh, .int mp, .int rw, .int wr, .int tc, .ref bT]))]) hK hP hD hS hA hZ hN [8] (by decide) rfl rfl) (va_recv hK hP (ci := 6) (q0 := 8) rfl rfl) rfl hl.1 rfl (Nat.le_of_ble_eq_true rfl) dL_law_387 ⟨Nat.le_of_ble_eq_true rfl, Nat.le_of_ble_eq_true rfl⟩) hP hD hS hA [8] [0, 1, 2, 3, 4, 5, 6, 7, 9, 10, 11, 12, 13, 14, 15, 16, 17] rfl rfl (by decide) (by decide) (fun r9 u H locs hw9 hP1 hD1 hS1 => ?_)
  obtain ⟨th2_9, hu9⟩ : ∃ z, z = u := ⟨_, rfl⟩
  subst hu9
  have hw9 : (v3.toInt = 0 → r9.toInt = ml.toInt) ∧ (v3.toInt = 1 → r9.toInt = mh.toInt) ∧ (v3.toInt = 2 → r9.toInt = mp.toInt) ∧ (v3.toInt = 3 → r9.toInt = tk.toInt) ∧ (v3.toInt = 4 → r9.toInt = tc.toInt) ∧ (v3.toInt = 5 → r9.toInt = wr.toInt) ∧ ((v3.toInt < 0 ∨ 5 < v3.toInt) → r9.toInt = -12) := hw9
  clear hP hD hS
  have hP : va_P D classes [(aL, .inr (1, [.ref aW, .int fi, .int cn])), (aW, .inl (cJ, 142, .inr (.inl fw))), (aS, .inr (4, [.ref aC, .ref aG, .int wa])), (aC, .inr (3, [.long la])), (aG, .inl (cI, 8, .inl fg)), (aB, .inr (3, [.long lb])), (aT, .inl (cI, 300, .inl ft)), (aP, .inl (cJ, 300, .inr (.inl fp))), (bG, .inl (cI, 8, .inl gg)), (bL, .inl (cB, 9200, .inl gl)), (bY, .inl (cI, 116, .inl gy)), (bB, .inl (cI, 66, .inl gb)), (bC, .inl (cI, 66, .inl go)), (bT, .inl (cI, 2400, .inl gt)), (aX, .inr (5, [.ref aL, .ref aS, .ref aR])), (aR, .inr (2, [.ref aB, .ref aQ, .int hd, .long pl, .int hv, .int lk, .int dn, .int ht, .int sl, .int br, .int wh])), (aQ, .inr (0, [.ref aT, .ref aP, .int gc])), (aM, .inr (6, [.int th2_9, .int mw, .ref bG, .int mz, .ref bL, .ref bY, .ref bB, .ref bC, .int tk, .int ss, .int ml, .int mh, .int mp, .int rw, .int wr, .int tc, .ref bT]))] H := hP1
  have hD : va_D A [(aL, .inr (1, [.ref aW, .int fi, .int cn])), (aW, .inl (cJ, 142, .inr (.inl fw))), (aS, .inr (4, [.ref aC, .ref aG, .int wa])), (aC, .inr (3, [.long la])), (aG, .inl (cI, 8, .inl fg)), (aB, .inr (3, [.long lb])), (aT, .inl (cI, 300, .inl ft)), (aP, .inl (cJ, 300, .inr (.inl fp))), (bG, .inl (cI, 8, .inl gg)), (bL, .inl (cB, 9200, .inl gl)), (bY, .inl (cI, 116, .inl gy)), (bB, .inl (cI, 66, .inl gb)), (bC, .inl (cI, 66, .inl go)), (bT, .inl (cI, 2400, .inl gt)), (aX, .inr (5, [.ref aL, .ref aS, .ref aR])), (aR, .inr (2, [.ref aB, .ref aQ, .int hd, .long pl, .int hv, .int lk, .int dn, .int ht, .int sl, .int br, .int wh])), (aQ, .inr (0, [.ref aT, .ref aP, .int gc])), (aM, .inr (6, [.int th2_9, .int mw, .ref bG, .int mz, .ref bL, .ref bY, .ref bB, .ref bC, .int tk, .int ss, .int ml, .int mh, .int mp, .int rw, .int wr, .int tc, .ref bT]))] := hD1
  have hS := hS1
  clear hP1 hD1 hS1
  have hk := eq_receiver (cpM_eq hM.2.2.2.2) hw5 hw9
  clear hw5 hw9
  refine lv_icmp_eq (tgt := 395) hx hb dL_law_390 (by decide) (fun c10 => ?_) (fun c10 => by have z10 := zi_ne c10; exfalso; omega)
  have z10 := zi_eq c10
  exact kk _ _ _ ⟨fi, cn, fw, wa, la, fg, hd, pl, hv, lk, dn, ht, sl, br, wh, lb, gc, ft, fp, th2_9, mw, mz, tk, ss, ml, mh, mp, rw, wr, tc, gg, gl, gy, gb, go, gt, ⟨by omega, by omega, by omega, by omega, by omega, hC, rcS_up hM (by omega)⟩, hP.sub [14, 0, 1, 2, 3, 4, 15, 5, 16, 6, 7, 17, 8, 9, 10, 11, 12, 13] rfl, hD.sub [14, 0, 1, 2, 3, 4, 15, 5, 16, 6, 7, 17, 8, 9, 10, 11, 12, 13] (by decide) rfl, hS⟩ (lv_sub hl [0, 1, 2, 3] rfl)
