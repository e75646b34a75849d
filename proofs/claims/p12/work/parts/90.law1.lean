set_option maxHeartbeats 8000000 in
set_option maxRecDepth 100000 in
theorem law_c3 {p : Program} {l : Launch} {e : Env} {s : State} {m : MethodId} {args : Array Value} {below : List Frame} {meth : Method} {c : Code} {A : Nat → Prop} {Q : State → Prop} {D : va_G} {cI cJ cB : ClassId} {b L : Nat} {xs : Nat → Int32} (hL : L ≤ 2048)
    (hx : p.tables.exec = Jvm.exec) (hb : c.code = cL_law) (hml : c.maxLocals = 4) (hown : s.vm.findClass RL = some m.cls) (hts : ∀ w ∈ lw_good, w.before args s = true) (hK : va_K D classes (tys3 cI cJ cB) s) (hA : ∀ q : Nat, s.heap.size ≤ q → A q) (hZ : st_T A s s.heap) (hN : nw_T s) (hX : va_X b L xs s s.heap) (hbl : b < s.heap.size) (hbA : ¬ A b)
    {aX aL aW aS aC aG aR aB aQ aT aP aM bG bL bY bB bC bT : Nat} {i : Int32} {H : Heap} {locs : List Loc} {ls : Array Slot} (hi : 0 ≤ i.toInt ∧ i.toInt + 4 ≤ (L : Int)) (hI0 : LI A s D cI cJ cB aX aL aW aS aC aG aR aB aQ aT aP aM bG bL bY bB bC bT i.toInt H locs) (hl : lv_has ls 4 [(3, .int i), (2, .ref aM), (1, .ref aX), (0, .ref b)])
    (kk : ∀ (H : Heap) (locs : List Loc) (ls : Array Slot), LI A s D cI cJ cB aX aL aW aS aC aG aR aB aQ aT aP aM bG bL bY bB bC bT (i.toInt + 4) H locs → lv_has ls 4 [(3, .int i), (2, .ref aM), (1, .ref aX), (0, .ref b)] → W p l e room_1 s m args below meth c H locs 18 12648 Q (F0 m 395 ls [])) :
    W p l e room_1 s m args below meth c H locs 18 12648 Q (F0 m 171 ls []) := by
  obtain ⟨fi, cn, fw, wa, la, fg, hd, pl, hv, lk, dn, ht, sl, br, wh, lb, gc, ft, fp, th, mw, mz, tk, ss, ml, mh, mp, rw, wr, tc, gg, gl, gy, gb, go, gt, hI, hP, hD, hS⟩ := hI0
  obtain ⟨hE, hR, hF, hB, hT, hC, hM⟩ := hI
  have hV := hC.2.1
  have hY := hC.2.2.1
  have hLn : ∀ j : Nat, (j : Int) < mz.toInt → gl j = bi (bt (gl j) 0) := fun j hj => hC.2.2.2 j (by omega)
  refine lv_aload_n hx hb dL_law_171 rfl (lv_at hl 2 rfl) ?_
  refine lv_aload_n hx hb dL_law_172 rfl (lv_at hl 3 rfl) ?_
  refine lv_iload_n hx hb dL_law_173 rfl (lv_at hl 0 rfl) ?_
  refine lv_iconst (v := 1) hx hb dL_law_174 (by decide) ?_
  refine lv_topi (fun v1 e1 => ?_)
  have z1 : v1.toInt = 1 := zi_c e1 (by decide)
  refine lv_iadd hx hb dL_law_175 ?_
  refine lv_topi (fun v2 e2 => ?_)
  first | have z2 := zi_add e2 (by omega) | skip
  refine va_sld hx hb hX hbl hbA hS (zi_in (by omega)) dL_law_176 ?_
  refine lv_topi (fun v3 e3 => ?_)
  refine lv_aload_n hx hb dL_law_177 rfl (lv_at hl 3 rfl) ?_
  refine lv_iload_n hx hb dL_law_178 rfl (lv_at hl 0 rfl) ?_
  refine lv_iconst (v := 2) hx hb dL_law_179 (by decide) ?_
  refine lv_topi (fun v4 e4 => ?_)
  have z4 : v4.toInt = 2 := zi_c e4 (by decide)
  refine lv_iadd hx hb dL_law_180 ?_
  refine lv_topi (fun v5 e5 => ?_)
  first | have z5 := zi_add e5 (by omega) | skip
  refine va_sld hx hb hX hbl hbA hS (zi_in (by omega)) dL_law_181 ?_
  refine lv_topi (fun v6 e6 => ?_)
  refine lv_i2l hx hb dL_law_182 rfl ?_
  refine lv_topl (fun v7 e7 => ?_)
  refine lv_bipush (v := 32) hx hb dL_law_183 (by decide) ?_
  refine lv_topi (fun v8 e8 => ?_)
  have z8 : v8.toInt = 32 := zi_c e8 (by decide)
  refine lv_lshl hx hb dL_law_185 rfl ?_
  refine lv_topl (fun v9 e9 => ?_)
  refine lv_aload_n hx hb dL_law_186 rfl (lv_at hl 3 rfl) ?_
  refine lv_iload_n hx hb dL_law_187 rfl (lv_at hl 0 rfl) ?_
  refine lv_iconst (v := 3) hx hb dL_law_188 (by decide) ?_
  refine lv_topi (fun v10 e10 => ?_)
  have z10 : v10.toInt = 3 := zi_c e10 (by decide)
  refine lv_iadd hx hb dL_law_189 ?_
  refine lv_topi (fun v11 e11 => ?_)
  first | have z11 := zi_add e11 (by omega) | skip
  refine va_sld hx hb hX hbl hbA hS (zi_in (by omega)) dL_law_190 ?_
  refine lv_topi (fun v12 e12 => ?_)
  refine lv_i2l hx hb dL_law_191 rfl ?_
  refine lv_topl (fun v13 e13 => ?_)
  refine lv_ldc2 (v := 4294967295) hx hb hown (hts _ wk6) dL_law_192 ?_
  refine lv_topl (fun v14 e14 => ?_)
  refine lv_land hx hb dL_law_195 ?_
  refine lv_topl (fun v15 e15 => ?_)
  refine lv_lor hx hb dL_law_196 ?_
  refine lv_topl (fun v16 e16 => ?_)
  refine call_l (wc := [(aX, .inr (5, [.ref aL, .ref aS, .ref aR])), (aS, .inr (4, [.ref aC, .ref aG, .int wa])), (aC, .inr (3, [.long la])), (aR, .inr (2, [.ref aB, .ref aQ, .int hd, .long pl, .int hv, .int lk, .int dn, .int ht, .int sl, .int br, .int wh])), (aB, .inr (3, [.long lb]))]) (wr := [(aL, .inr (1, [.ref aW, .int fi, .int cn])), (aW, .inl (cJ, 142, .inr (.inl fw))), (aG, .inl (cI, 8, .inl fg)), (aQ, .inr (0, [.ref aT, .ref aP, .int gc])), (aT, .inl (cI, 300, .inl ft)), (aP, .inl (cJ, 300, .inr (.inl fp))), (aM, .inr (6, [.int th, .int mw, .ref bG, .int mz, .ref bL, .ref bY, .ref bB, .ref bC, .int tk, .int ss, .int ml, .int mh, .int mp, .int rw, .int wr, .int tc, .ref bT])), (bG, .inl (cI, 8, .inl gg)), (bL, .inl (cB, 9200, .inl gl)), (bY, .inl (cI, 116, .inl gy)), (bB, .inl (cI, 66, .inl gb)), (bC, .inl (cI, 66, .inl go)), (bT, .inl (cI, 2400, .inl gt))]) (run_V (As := [.int v3, .long v16]) (rest := []) kv_RL_29 ⟨by decide, by decide⟩ ⟨rfl, rfl⟩ ⟨hx, hb, hml, hown, hts⟩ (c_LB_state l D cI cJ cB aX aL aS aC aG aR aB aQ hd pl hv lk dn ht sl br wh v3 wa v16 la lb  _) ct_blind (ct_pre (wc := [(aX, .inr (5, [.ref aL, .ref aS, .ref aR])), (aS, .inr (4, [.ref aC, .ref aG, .int wa])), (aC, .inr (3, [.long la])), (aR, .inr (2, [.ref aB, .ref aQ, .int hd, .long pl, .int hv, .int lk, .int dn, .int ht, .int sl, .int br, .int wh])), (aB, .inr (3, [.long lb]))]) hK hP hD hS hA hZ hN [0, 3, 4, 6, 7] (by decide) rfl rfl) (va_recv hK hP (ci := 5) (q0 := 0) rfl rfl) rfl hl.1 rfl (Nat.le_of_ble_eq_true rfl) dL_law_197 ⟨Nat.le_of_ble_eq_true rfl, Nat.le_of_ble_eq_true rfl⟩) hP hD hS hA [0, 3, 4, 6, 7] [1, 2, 5, 8, 9, 10, 11, 12, 13, 14, 15, 16, 17] rfl rfl (by decide) (by decide) (fun r17 u H locs hw17 hP1 hD1 hS1 => ?_)
  obtain ⟨la2_17, lb2_17⟩ := u
  have hw17 : (v3.toInt = 0 → r17 = la) ∧ (v3.toInt = 1 → r17 = lb) ∧ ((¬ v3.toInt = 0 ∧ ¬ v3.toInt = 1) → r17 = -12) ∧ (v3.toInt = 0 → ∀ j, j < 58 → bl la2_17 j = bl v16 j) ∧ (¬ v3.toInt = 0 → la2_17 = la) := hw17
  clear hP hD hS
  have hP : va_P D classes [(aL, .inr (1, [.ref aW, .int fi, .int cn])), (aW, .inl (cJ, 142, .inr (.inl fw))), (aG, .inl (cI, 8, .inl fg)), (aQ, .inr (0, [.ref aT, .ref aP, .int gc])), (aT, .inl (cI, 300, .inl ft)), (aP, .inl (cJ, 300, .inr (.inl fp))), (aM, .inr (6, [.int th, .int mw, .ref bG, .int mz, .ref bL, .ref bY, .ref bB, .ref bC, .int tk, .int ss, .int ml, .int mh, .int mp, .int rw, .int wr, .int tc, .ref bT])), (bG, .inl (cI, 8, .inl gg)), (bL, .inl (cB, 9200, .inl gl)), (bY, .inl (cI, 116, .inl gy)), (bB, .inl (cI, 66, .inl gb)), (bC, .inl (cI, 66, .inl go)), (bT, .inl (cI, 2400, .inl gt)), (aX, .inr (5, [.ref aL, .ref aS, .ref aR])), (aS, .inr (4, [.ref aC, .ref aG, .int wa])), (aC, .inr (3, [.long la2_17])), (aR, .inr (2, [.ref aB, .ref aQ, .int hd, .long pl, .int hv, .int lk, .int dn, .int ht, .int sl, .int br, .int wh])), (aB, .inr (3, [.long lb2_17]))] H := hP1
  have hD : va_D A [(aL, .inr (1, [.ref aW, .int fi, .int cn])), (aW, .inl (cJ, 142, .inr (.inl fw))), (aG, .inl (cI, 8, .inl fg)), (aQ, .inr (0, [.ref aT, .ref aP, .int gc])), (aT, .inl (cI, 300, .inl ft)), (aP, .inl (cJ, 300, .inr (.inl fp))), (aM, .inr (6, [.int th, .int mw, .ref bG, .int mz, .ref bL, .ref bY, .ref bB, .ref bC, .int tk, .int ss, .int ml, .int mh, .int mp, .int rw, .int wr, .int tc, .ref bT])), (bG, .inl (cI, 8, .inl gg)), (bL, .inl (cB, 9200, .inl gl)), (bY, .inl (cI, 116, .inl gy)), (bB, .inl (cI, 66, .inl gb)), (bC, .inl (cI, 66, .inl go)), (bT, .inl (cI, 2400, .inl gt)), (aX, .inr (5, [.ref aL, .ref aS, .ref aR])), (aS, .inr (4, [.ref aC, .ref aG, .int wa])), (aC, .inr (3, [.long la2_17])), (aR, .inr (2, [.ref aB, .ref aQ, .int hd, .long pl, .int hv, .int lk, .int dn, .int ht, .int sl, .int br, .int wh])), (aB, .inr (3, [.long lb2_17]))] := hD1
  have hS := hS1
  clear hP1 hD1 hS1
  refine lv_pop2_2 hx hb dL_law_200 rfl ?_
  refine lv_aload_n hx hb dL_law_201 rfl (lv_at hl 1 rfl) ?_
  refine lv_aload_n hx hb dL_law_202 rfl (lv_at hl 3 rfl) ?_
  refine lv_iload_n hx hb dL_law_203 rfl (lv_at hl 0 rfl) ?_
  refine lv_iconst (v := 1) hx hb dL_law_204 (by decide) ?_
  refine lv_topi (fun v18 e18 => ?_)
  have z18 : v18.toInt = 1 := zi_c e18 (by decide)
  refine lv_iadd hx hb dL_law_205 ?_
  refine lv_topi (fun v19 e19 => ?_)
  first | have z19 := zi_add e19 (by omega) | skip
  refine va_sld hx hb hX hbl hbA hS (zi_in (by omega)) dL_law_206 ?_
  rw [show xs v19.toNatClampNeg = v3 from by rw [e3, show v19 = v2 from Int32.toInt_inj.mp (by omega)]]
  refine lv_aload_n hx hb dL_law_207 rfl (lv_at hl 3 rfl) ?_
  refine lv_iload_n hx hb dL_law_208 rfl (lv_at hl 0 rfl) ?_
  refine lv_iconst (v := 2) hx hb dL_law_209 (by decide) ?_
  refine lv_topi (fun v20 e20 => ?_)
  have z20 : v20.toInt = 2 := zi_c e20 (by decide)
  refine lv_iadd hx hb dL_law_210 ?_
  refine lv_topi (fun v21 e21 => ?_)
  first | have z21 := zi_add e21 (by omega) | skip
  refine va_sld hx hb hX hbl hbA hS (zi_in (by omega)) dL_law_211 ?_
  rw [show xs v21.toNatClampNeg = v6 from by rw [e6, show v21 = v5 from Int32.toInt_inj.mp (by omega)]]
  refine lv_i2l hx hb dL_law_212 rfl ?_
  refine lv_topl (fun v22 e22 => ?_)
  refine lv_bipush (v := 32) hx hb dL_law_213 (by decide) ?_
  refine lv_topi (fun v23 e23 => ?_)
  have z23 : v23.toInt = 32 := zi_c e23 (by decide)
  refine lv_lshl hx hb dL_law_215 rfl ?_
  refine lv_topl (fun v24 e24 => ?_)
  refine lv_aload_n hx hb dL_law_216 rfl (lv_at hl 3 rfl) ?_
  refine lv_iload_n hx hb dL_law_217 rfl (lv_at hl 0 rfl) ?_
  refine lv_iconst (v := 3) hx hb dL_law_218 (by decide) ?_
  refine lv_topi (fun v25 e25 => ?_)
  have z25 : v25.toInt = 3 := zi_c e25 (by decide)
  refine lv_iadd hx hb dL_law_219 ?_
  refine lv_topi (fun v26 e26 => ?_)
  first | have z26 := zi_add e26 (by omega) | skip
  refine va_sld hx hb hX hbl hbA hS (zi_in (by omega)) dL_law_220 ?_
  rw [show xs v26.toNatClampNeg = v12 from by rw [e12, show v26 = v11 from Int32.toInt_inj.mp (by omega)]]
  refine lv_i2l hx hb dL_law_221 rfl ?_
  refine lv_topl (fun v27 e27 => ?_)
  refine lv_ldc2 (v := 4294967295) hx hb hown (hts _ wk6) dL_law_222 ?_
  refine lv_topl (fun v28 e28 => ?_)
  refine lv_land hx hb dL_law_225 ?_
  refine lv_topl (fun v29 e29 => ?_)
  refine lv_lor hx hb dL_law_226 ?_
  refine lv_topl (fun v30 e30 => ?_)
  refine call_l (wc := [(aM, .inr (6, [.int th, .int mw, .ref bG, .int mz, .ref bL, .ref bY, .ref bB, .ref bC, .int tk, .int ss, .int ml, .int mh, .int mp, .int rw, .int wr, .int tc, .ref bT])), (bY, .inl (cI, 116, .inl gy))]) (wr := [(aL, .inr (1, [.ref aW, .int fi, .int cn])), (aW, .inl (cJ, 142, .inr (.inl fw))), (aG, .inl (cI, 8, .inl fg)), (aQ, .inr (0, [.ref aT, .ref aP, .int gc])), (aT, .inl (cI, 300, .inl ft)), (aP, .inl (cJ, 300, .inr (.inl fp))), (bG, .inl (cI, 8, .inl gg)), (bL, .inl (cB, 9200, .inl gl)), (bB, .inl (cI, 66, .inl gb)), (bC, .inl (cI, 66, .inl go)), (bT, .inl (cI, 2400, .inl gt)), (aX, .inr (5, [.ref aL, .ref aS, .ref aR])), (aS, .inr (4, [.ref aC, .ref aG, .int wa])), (aC, .inr (3, [.long la2_17])), (aR, .inr (2, [.ref aB, .ref aQ, .int hd, .long pl, .int hv, .int lk, .int dn, .int ht, .int sl, .int br, .int wh])), (aB, .inr (3, [.long lb2_17]))]) (run_V (As := [.int v3, .long v30]) (rest := []) kv_RL_33 ⟨by decide, by decide⟩ ⟨rfl, rfl⟩ ⟨hx, hb, hml, hown, hts⟩ (c_Mo_state l D cI cJ cB aM bG bL bY bB bC bT th mw mz tk ss ml mh mp rw wr tc gy v3 v30  _) ct_blind (ct_pre (wc := [(aM, .inr (6, [.int th, .int mw, .ref bG, .int mz, .ref bL, .ref bY, .ref bB, .ref bC, .int tk, .int ss, .int ml, .int mh, .int mp, .int rw, .int wr, .int tc, .ref bT])), (bY, .inl (cI, 116, .inl gy))]) hK hP hD hS hA hZ hN [6, 9] (by decide) rfl rfl) (va_recv hK hP (ci := 6) (q0 := 6) rfl rfl) rfl hl.1 rfl (Nat.le_of_ble_eq_true rfl) dL_law_227 ⟨Nat.le_of_ble_eq_true rfl, Nat.le_of_ble_eq_true rfl⟩) hP hD hS hA [6, 9] [0, 1, 2, 3, 4, 5, 7, 8, 10, 11, 12, 13, 14, 15, 16, 17] rfl rfl (by decide) (by decide) (fun r31 u H locs hw31 hP1 hD1 hS1 => ?_)
  obtain ⟨th2_31, gy2_31⟩ := u
  have hw31 : ((v3.toInt < 0 ∨ 1 < v3.toInt) → r31 = -12) ∧ ((0 ≤ v3.toInt ∧ v3.toInt ≤ 1 ∧ ∀ q, gy q = 0) → r31 = 0) ∧ (v3.toInt = 0 → ∀ j, j < 58 → gy2_31 j = bi (bl v30 j)) ∧ (¬ v3.toInt = 0 → ∀ j, j < 58 → gy2_31 j = gy j) := hw31
  clear hP hD hS
  have hP : va_P D classes [(aL, .inr (1, [.ref aW, .int fi, .int cn])), (aW, .inl (cJ, 142, .inr (.inl fw))), (aG, .inl (cI, 8, .inl fg)), (aQ, .inr (0, [.ref aT, .ref aP, .int gc])), (aT, .inl (cI, 300, .inl ft)), (aP, .inl (cJ, 300, .inr (.inl fp))), (bG, .inl (cI, 8, .inl gg)), (bL, .inl (cB, 9200, .inl gl)), (bB, .inl (cI, 66, .inl gb)), (bC, .inl (cI, 66, .inl go)), (bT, .inl (cI, 2400, .inl gt)), (aX, .inr (5, [.ref aL, .ref aS, .ref aR])), (aS, .inr (4, [.ref aC, .ref aG, .int wa])), (aC, .inr (3, [.long la2_17])), (aR, .inr (2, [.ref aB, .ref aQ, .int hd, .long pl, .int hv, .int lk, .int dn, .int ht, .int sl, .int br, .int wh])), (aB, .inr (3, [.long lb2_17])), (aM, .inr (6, [.int th2_31, .int mw, .ref bG, .int mz, .ref bL, .ref bY, .ref bB, .ref bC, .int tk, .int ss, .int ml, .int mh, .int mp, .int rw, .int wr, .int tc, .ref bT])), (bY, .inl (cI, 116, .inl gy2_31))] H := hP1
  have hD : va_D A [(aL, .inr (1, [.ref aW, .int fi, .int cn])), (aW, .inl (cJ, 142, .inr (.inl fw))), (aG, .inl (cI, 8, .inl fg)), (aQ, .inr (0, [.ref aT, .ref aP, .int gc])), (aT, .inl (cI, 300, .inl ft)), (aP, .inl (cJ, 300, .inr (.inl fp))), (bG, .inl (cI, 8, .inl gg)), (bL, .inl (cB, 9200, .inl gl)), (bB, .inl (cI, 66, .inl gb)), (bC, .inl (cI, 66, .inl go)), (bT, .inl (cI, 2400, .inl gt)), (aX, .inr (5, [.ref aL, .ref aS, .ref aR])), (aS, .inr (4, [.ref aC, .ref aG, .int wa])), (aC, .inr (3, [.long la2_17])), (aR, .inr (2, [.ref aB, .ref aQ, .int hd, .long pl, .int hv, .int lk, .int dn, .int ht, .int sl, .int br, .int wh])), (aB, .inr (3, [.long lb2_17])), (aM, .inr (6, [.int th2_31, .int mw, .ref bG, .int mz, .ref bL, .ref bY, .ref bB, .ref bC, .int tk, .int ss, .int ml, .int mh, .int mp, .int rw, .int wr, .int tc, .ref bT])), (bY, .inl (cI, 116, .inl gy2_31))] := hD1
  have hS := hS1
  clear hP1 hD1 hS1
  have hx9 : v30 = v16 := by simp only [e1, e2, e3, e4, e5, e6, e7, e8, e9, e10, e11, e12, e13, e14, e15, e16, e18, e19, e20, e21, e22, e23, e24, e25, e26, e27, e28, e29, e30]
  rw [hx9] at hw31
  have hC2 := cp_state hC hw17.2.2.2.1 hw17.2.2.2.2 hw31.2.2.1 hw31.2.2.2
  clear hw17 hw31 hC hV hY hLn
  have hC := hC2
  refine lv_pop2_2 hx hb dL_law_230 rfl ?_
  refine lv_goto (tgt := 395) hx hb dL_law_231 (by decide) ?_
  exact kk _ _ _ ⟨fi, cn, fw, wa, la2_17, fg, hd, pl, hv, lk, dn, ht, sl, br, wh, lb2_17, gc, ft, fp, th2_31, mw, mz, tk, ss, ml, mh, mp, rw, wr, tc, gg, gl, gy2_31, gb, go, gt, ⟨by omega, by omega, by omega, by omega, by omega, hC, rcS_up hM (by omega)⟩, hP.sub [11, 0, 1, 12, 13, 2, 14, 15, 3, 4, 5, 16, 6, 7, 17, 8, 9, 10] rfl, hD.sub [11, 0, 1, 12, 13, 2, 14, 15, 3, 4, 5, 16, 6, 7, 17, 8, 9, 10] (by decide) rfl, hS⟩ (lv_sub hl [0, 1, 2, 3] rfl)
set_option maxHeartbeats 8000000 in
set_option maxRecDepth 100000 in
theorem law_c4 {p : Program} {l : Launch} {e : Env} {s : State} {m : MethodId} {args : Array Value} {below : List Frame} {meth : Method} {c : Code} {A : Nat → Prop} {Q : State → Prop} {D : va_G} {cI cJ cB : ClassId} {b L : Nat} {xs : Nat → Int32} (hL : L ≤ 2048)
    (hx : p.tables.exec = Jvm.exec) (hb : c.code = cL_law) (hml : c.maxLocals = 4) (hown : s.vm.findClass RL = some m.cls) (hts : ∀ w ∈ lw_good, w.before args s = true) (hK : va_K D classes (tys3 cI cJ cB) s) (hA : ∀ q : Nat, s.heap.size ≤ q → A q) (hZ : st_T A s s.heap) (hN : nw_T s) (hX : va_X b L xs s s.heap) (hbl : b < s.heap.size) (hbA : ¬ A b)
    {aX aL aW aS aC aG aR aB aQ aT aP aM bG bL bY bB bC bT : Nat} {i : Int32} {H : Heap} {locs : List Loc} {ls : Array Slot} (hi : 0 ≤ i.toInt ∧ i.toInt + 4 ≤ (L : Int)) (hI0 : LI A s D cI cJ cB aX aL aW aS aC aG aR aB aQ aT aP aM bG bL bY bB bC bT i.toInt H locs) (hl : lv_has ls 4 [(3, .int i), (2, .ref aM), (1, .ref aX), (0, .ref b)])
    (kk : ∀ (H : Heap) (locs : List Loc) (ls : Array Slot), LI A s D cI cJ cB aX aL aW aS aC aG aR aB aQ aT aP aM bG bL bY bB bC bT (i.toInt + 4) H locs → lv_has ls 4 [(3, .int i), (2, .ref aM), (1, .ref aX), (0, .ref b)] → W p l e room_1 s m args below meth c H locs 18 12648 Q (F0 m 395 ls [])) :
    W p l e room_1 s m args below meth c H locs 18 12648 Q (F0 m 234 ls []) := by
  obtain ⟨fi, cn, fw, wa, la, fg, hd, pl, hv, lk, dn, ht, sl, br, wh, lb, gc, ft, fp, th, mw, mz, tk, ss, ml, mh, mp, rw, wr, tc, gg, gl, gy, gb, go, gt, hI, hP, hD, hS⟩ := hI0
  obtain ⟨hE, hR, hF, hB, hT, hC, hM⟩ := hI
  have hV := hC.2.1
  have hY := hC.2.2.1
  have hLn : ∀ j : Nat, (j : Int) < mz.toInt → gl j = bi (bt (gl j) 0) := fun j hj => hC.2.2.2 j (by omega)
  refine lv_aload_n hx hb dL_law_234 rfl (lv_at hl 2 rfl) ?_
  refine call_i (wc := [(aX, .inr (5, [.ref aL, .ref aS, .ref aR])), (aL, .inr (1, [.ref aW, .int fi, .int cn]))]) (wr := [(aW, .inl (cJ, 142, .inr (.inl fw))), (aS, .inr (4, [.ref aC, .ref aG, .int wa])), (aC, .inr (3, [.long la])), (aG, .inl (cI, 8, .inl fg)), (aR, .inr (2, [.ref aB, .ref aQ, .int hd, .long pl, .int hv, .int lk, .int dn, .int ht, .int sl, .int br, .int wh])), (aB, .inr (3, [.long lb])), (aQ, .inr (0, [.ref aT, .ref aP, .int gc])), (aT, .inl (cI, 300, .inl ft)), (aP, .inl (cJ, 300, .inr (.inl fp))), (aM, .inr (6, [.int th, .int mw, .ref bG, .int mz, .ref bL, .ref bY, .ref bB, .ref bC, .int tk, .int ss, .int ml, .int mh, .int mp, .int rw, .int wr, .int tc, .ref bT])), (bG, .inl (cI, 8, .inl gg)), (bL, .inl (cB, 9200, .inl gl)), (bY, .inl (cI, 116, .inl gy)), (bB, .inl (cI, 66, .inl gb)), (bC, .inl (cI, 66, .inl go)), (bT, .inl (cI, 2400, .inl gt))]) (run_V (As := []) (rest := []) kv_RL_34 ⟨by decide, by decide⟩ ⟨rfl, rfl⟩ ⟨hx, hb, hml, hown, hts⟩ (c_LB_bits l D cI cJ cB aX aL aW aS aR fi cn  _) ct_blind (ct_pre (wc := [(aX, .inr (5, [.ref aL, .ref aS, .ref aR])), (aL, .inr (1, [.ref aW, .int fi, .int cn]))]) hK hP hD hS hA hZ hN [0, 1] (by decide) rfl rfl) (va_recv hK hP (ci := 5) (q0 := 0) rfl rfl) rfl hl.1 rfl (Nat.le_of_ble_eq_true rfl) dL_law_235 ⟨Nat.le_of_ble_eq_true rfl, Nat.le_of_ble_eq_true rfl⟩) hP hD hS hA [0, 1] [2, 3, 4, 5, 6, 7, 8, 9, 10, 11, 12, 13, 14, 15, 16, 17] rfl rfl (by decide) (by decide) (fun r1 u H locs hw1 hP1 hD1 hS1 => ?_)
  have hw1 : r1.toInt = cn.toInt := hw1
  clear hP hD hS
  have hP : va_P D classes [(aW, .inl (cJ, 142, .inr (.inl fw))), (aS, .inr (4, [.ref aC, .ref aG, .int wa])), (aC, .inr (3, [.long la])), (aG, .inl (cI, 8, .inl fg)), (aR, .inr (2, [.ref aB, .ref aQ, .int hd, .long pl, .int hv, .int lk, .int dn, .int ht, .int sl, .int br, .int wh])), (aB, .inr (3, [.long lb])), (aQ, .inr (0, [.ref aT, .ref aP, .int gc])), (aT, .inl (cI, 300, .inl ft)), (aP, .inl (cJ, 300, .inr (.inl fp))), (aM, .inr (6, [.int th, .int mw, .ref bG, .int mz, .ref bL, .ref bY, .ref bB, .ref bC, .int tk, .int ss, .int ml, .int mh, .int mp, .int rw, .int wr, .int tc, .ref bT])), (bG, .inl (cI, 8, .inl gg)), (bL, .inl (cB, 9200, .inl gl)), (bY, .inl (cI, 116, .inl gy)), (bB, .inl (cI, 66, .inl gb)), (bC, .inl (cI, 66, .inl go)), (bT, .inl (cI, 2400, .inl gt)), (aX, .inr (5, [.ref aL, .ref aS, .ref aR])), (aL, .inr (1, [.ref aW, .int fi, .int cn]))] H := hP1
  have hD : va_D A [(aW, .inl (cJ, 142, .inr (.inl fw))), (aS, .inr (4, [.ref aC, .ref aG, .int wa])), (aC, .inr (3, [.long la])), (aG, .inl (cI, 8, .inl fg)), (aR, .inr (2, [.ref aB, .ref aQ, .int hd, .long pl, .int hv, .int lk, .int dn, .int ht, .int sl, .int br, .int wh])), (aB, .inr (3, [.long lb])), (aQ, .inr (0, [.ref aT, .ref aP, .int gc])), (aT, .inl (cI, 300, .inl ft)), (aP, .inl (cJ, 300, .inr (.inl fp))), (aM, .inr (6, [.int th, .int mw, .ref bG, .int mz, .ref bL, .ref bY, .ref bB, .ref bC, .int tk, .int ss, .int ml, .int mh, .int mp, .int rw, .int wr, .int tc, .ref bT])), (bG, .inl (cI, 8, .inl gg)), (bL, .inl (cB, 9200, .inl gl)), (bY, .inl (cI, 116, .inl gy)), (bB, .inl (cI, 66, .inl gb)), (bC, .inl (cI, 66, .inl go)), (bT, .inl (cI, 2400, .inl gt)), (aX, .inr (5, [.ref aL, .ref aS, .ref aR])), (aL, .inr (1, [.ref aW, .int fi, .int cn]))] := hD1
  have hS := hS1
  clear hP1 hD1 hS1
  refine lv_pop hx hb dL_law_238 rfl ?_
  refine lv_aload_n hx hb dL_law_239 rfl (lv_at hl 1 rfl) ?_
  refine call_i (wc := [(aM, .inr (6, [.int th, .int mw, .ref bG, .int mz, .ref bL, .ref bY, .ref bB, .ref bC, .int tk, .int ss, .int ml, .int mh, .int mp, .int rw, .int wr, .int tc, .ref bT]))]) (wr := [(aW, .inl (cJ, 142, .inr (.inl fw))), (aS, .inr (4, [.ref aC, .ref aG, .int wa])), (aC, .inr (3, [.long la])), (aG, .inl (cI, 8, .inl fg)), (aR, .inr (2, [.ref aB, .ref aQ, .int hd, .long pl, .int hv, .int lk, .int dn, .int ht, .int sl, .int br, .int wh])), (aB, .inr (3, [.long lb])), (aQ, .inr (0, [.ref aT, .ref aP, .int gc])), (aT, .inl (cI, 300, .inl ft)), (aP, .inl (cJ, 300, .inr (.inl fp))), (bG, .inl (cI, 8, .inl gg)), (bL, .inl (cB, 9200, .inl gl)), (bY, .inl (cI, 116, .inl gy)), (bB, .inl (cI, 66, .inl gb)), (bC, .inl (cI, 66, .inl go)), (bT, .inl (cI, 2400, .inl gt)), (aX, .inr (5, [.ref aL, .ref aS, .ref aR])), (aL, .inr (1, [.ref aW, .int fi, .int cn]))]) (run_V (As := []) (rest := []) kv_RL_38 ⟨by decide, by decide⟩ ⟨rfl, rfl⟩ ⟨hx, hb, hml, hown, hts⟩ (c_Mo_bits l D cI cJ cB aM bG bL bY bB bC bT th mw mz tk ss ml mh mp rw wr tc  _) ct_blind (ct_pre (wc := [(aM, .inr (6, [.int th, .int mw, .ref bG, .int mz, .ref bL, .ref bY, .ref bB, .ref bC, .int tk, .int ss, .int ml, .int mh, .int mp, .int rw, .int wr, .int tc, .ref bT]))]) hK hP hD hS hA hZ hN [9] (by decide) rfl rfl) (va_recv hK hP (ci := 6) (q0 := 9) rfl rfl) rfl hl.1 rfl (Nat.le_of_ble_eq_true rfl) dL_law_240 ⟨Nat.le_of_ble_eq_true rfl, Nat.le_of_ble_eq_true rfl⟩) hP hD hS hA [9] [0, 1, 2, 3, 4, 5, 6, 7, 8, 10, 11, 12, 13, 14, 15, 16, 17] rfl rfl (by decide) (by decide) (fun r2 u H locs hw2 hP1 hD1 hS1 => ?_)
  obtain ⟨th2_2, hu9⟩ : ∃ z, z = u := ⟨_, rfl⟩
  subst hu9
  have hw2 : r2.toInt = mz.toInt := hw2
  clear hP hD hS
  have hP : va_P D classes [(aW, .inl (cJ, 142, .inr (.inl fw))), (aS, .inr (4, [.ref aC, .ref aG, .int wa])), (aC, .inr (3, [.long la])), (aG, .inl (cI, 8, .inl fg)), (aR, .inr (2, [.ref aB, .ref aQ, .int hd, .long pl, .int hv, .int lk, .int dn, .int ht, .int sl, .int br, .int wh])), (aB, .inr (3, [.long lb])), (aQ, .inr (0, [.ref aT, .ref aP, .int gc])), (aT, .inl (cI, 300, .inl ft)), (aP, .inl (cJ, 300, .inr (.inl fp))), (bG, .inl (cI, 8, .inl gg)), (bL, .inl (cB, 9200, .inl gl)), (bY, .inl (cI, 116, .inl gy)), (bB, .inl (cI, 66, .inl gb)), (bC, .inl (cI, 66, .inl go)), (bT, .inl (cI, 2400, .inl gt)), (aX, .inr (5, [.ref aL, .ref aS, .ref aR])), (aL, .inr (1, [.ref aW, .int fi, .int cn])), (aM, .inr (6, [.int th2_2, .int mw, .ref bG, .int mz, .ref bL, .ref bY, .ref bB, .ref bC, .int tk, .int ss, .int ml, .int mh, .int mp, .int rw, .int wr, .int tc, .ref bT]))] H := hP1
  have hD : va_D A [(aW, .inl (cJ, 142, .inr (.inl fw))), (aS, .inr (4, [.ref aC, .ref aG, .int wa])), (aC, .inr (3, [.long la])), (aG, .inl (cI, 8, .inl fg)), (aR, .inr (2, [.ref aB, .ref aQ, .int hd, .long pl, .int hv, .int lk, .int dn, .int ht, .int sl, .int br, .int wh])), (aB, .inr (3, [.long lb])), (aQ, .inr (0, [.ref aT, .ref aP, .int gc])), (aT, .inl (cI, 300, .inl ft)), (aP, .inl (cJ, 300, .inr (.inl fp))), (bG, .inl (cI, 8, .inl gg)), (bL, .inl (cB, 9200, .inl gl)), (bY, .inl (cI, 116, .inl gy)), (bB, .inl (cI, 66, .inl gb)), (bC, .inl (cI, 66, .inl go)), (bT, .inl (cI, 2400, .inl gt)), (aX, .inr (5, [.ref aL, .ref aS, .ref aR])), (aL, .inr (1, [.ref aW, .int fi, .int cn])), (aM, .inr (6, [.int th2_2, .int mw, .ref bG, .int mz, .ref bL, .ref bY, .ref bB, .ref bC, .int tk, .int ss, .int ml, .int mh, .int mp, .int rw, .int wr, .int tc, .ref bT]))] := hD1
  have hS := hS1
  clear hP1 hD1 hS1
  refine lv_pop hx hb dL_law_243 rfl ?_
  refine lv_goto (tgt := 395) hx hb dL_law_244 (by decide) ?_
  exact kk _ _ _ ⟨fi, cn, fw, wa, la, fg, hd, pl, hv, lk, dn, ht, sl, br, wh, lb, gc, ft, fp, th2_2, mw, mz, tk, ss, ml, mh, mp, rw, wr, tc, gg, gl, gy, gb, go, gt, ⟨by omega, by omega, by omega, by omega, by omega, hC, rcS_up hM (by omega)⟩, hP.sub [15, 16, 0, 1, 2, 3, 4, 5, 6, 7, 8, 17, 9, 10, 11, 12, 13, 14] rfl, hD.sub [15, 16, 0, 1, 2, 3, 4, 5, 6, 7, 8, 17, 9, 10, 11, 12, 13, 14] (by decide) rfl, hS⟩ (lv_sub hl [0, 1, 2, 3] rfl)
set_option maxHeartbeats 8000000 in
set_option maxRecDepth 100000 in
theorem law_c5 {p : Program} {l : Launch} {e : Env} {s : State} {m : MethodId} {args : Array Value} {below : List Frame} {meth : Method} {c : Code} {A : Nat → Prop} {Q : State → Prop} {D : va_G} {cI cJ cB : ClassId} {b L : Nat} {xs : Nat → Int32} (hL : L ≤ 2048)
    (hx : p.tables.exec = Jvm.exec) (hb : c.code = cL_law) (hml : c.maxLocals = 4) (hown : s.vm.findClass RL = some m.cls) (hts : ∀ w ∈ lw_good, w.before args s = true) (hK : va_K D classes (tys3 cI cJ cB) s) (hA : ∀ q : Nat, s.heap.size ≤ q → A q) (hZ : st_T A s s.heap) (hN : nw_T s) (hX : va_X b L xs s s.heap) (hbl : b < s.heap.size) (hbA : ¬ A b)
    {aX aL aW aS aC aG aR aB aQ aT aP aM bG bL bY bB bC bT : Nat} {i : Int32} {H : Heap} {locs : List Loc} {ls : Array Slot} (hi : 0 ≤ i.toInt ∧ i.toInt + 4 ≤ (L : Int)) (hI0 : LI A s D cI cJ cB aX aL aW aS aC aG aR aB aQ aT aP aM bG bL bY bB bC bT i.toInt H locs) (hl : lv_has ls 4 [(3, .int i), (2, .ref aM), (1, .ref aX), (0, .ref b)])
    (kk : ∀ (H : Heap) (locs : List Loc) (ls : Array Slot), LI A s D cI cJ cB aX aL aW aS aC aG aR aB aQ aT aP aM bG bL bY bB bC bT (i.toInt + 4) H locs → lv_has ls 4 [(3, .int i), (2, .ref aM), (1, .ref aX), (0, .ref b)] → W p l e room_1 s m args below meth c H locs 18 12648 Q (F0 m 395 ls [])) :
    W p l e room_1 s m args below meth c H locs 18 12648 Q (F0 m 247 ls []) := by
  obtain ⟨fi, cn, fw, wa, la, fg, hd, pl, hv, lk, dn, ht, sl, br, wh, lb, gc, ft, fp, th, mw, mz, tk, ss, ml, mh, mp, rw, wr, tc, gg, gl, gy, gb, go, gt, hI, hP, hD, hS⟩ := hI0
  obtain ⟨hE, hR, hF, hB, hT, hC, hM⟩ := hI
  have hV := hC.2.1
  have hY := hC.2.2.1
  have hLn : ∀ j : Nat, (j : Int) < mz.toInt → gl j = bi (bt (gl j) 0) := fun j hj => hC.2.2.2 j (by omega)
  refine lv_aload_n hx hb dL_law_247 rfl (lv_at hl 2 rfl) ?_
  refine lv_aload_n hx hb dL_law_248 rfl (lv_at hl 3 rfl) ?_
  refine lv_iload_n hx hb dL_law_249 rfl (lv_at hl 0 rfl) ?_
  refine lv_iconst (v := 1) hx hb dL_law_250 (by decide) ?_
  refine lv_topi (fun v1 e1 => ?_)
  have z1 : v1.toInt = 1 := zi_c e1 (by decide)
  refine lv_iadd hx hb dL_law_251 ?_
  refine lv_topi (fun v2 e2 => ?_)
  first | have z2 := zi_add e2 (by omega) | skip
  refine va_sld hx hb hX hbl hbA hS (zi_in (by omega)) dL_law_252 ?_
  refine lv_topi (fun v3 e3 => ?_)
  have hh4 : 0 ≤ fi.toInt ∧ fi.toInt < 9088 := (by omega)
  have hh5 : 0 ≤ cn.toInt ∧ cn.toInt ≤ 9066 := (by omega)
  refine call_i (wc := [(aX, .inr (5, [.ref aL, .ref aS, .ref aR])), (aL, .inr (1, [.ref aW, .int fi, .int cn])), (aW, .inl (cJ, 142, .inr (.inl fw)))]) (wr := [(aS, .inr (4, [.ref aC, .ref aG, .int wa])), (aC, .inr (3, [.long la])), (aG, .inl (cI, 8, .inl fg)), (aR, .inr (2, [.ref aB, .ref aQ, .int hd, .long pl, .int hv, .int lk, .int dn, .int ht, .int sl, .int br, .int wh])), (aB, .inr (3, [.long lb])), (aQ, .inr (0, [.ref aT, .ref aP, .int gc])), (aT, .inl (cI, 300, .inl ft)), (aP, .inl (cJ, 300, .inr (.inl fp))), (aM, .inr (6, [.int th, .int mw, .ref bG, .int mz, .ref bL, .ref bY, .ref bB, .ref bC, .int tk, .int ss, .int ml, .int mh, .int mp, .int rw, .int wr, .int tc, .ref bT])), (bG, .inl (cI, 8, .inl gg)), (bL, .inl (cB, 9200, .inl gl)), (bY, .inl (cI, 116, .inl gy)), (bB, .inl (cI, 66, .inl gb)), (bC, .inl (cI, 66, .inl go)), (bT, .inl (cI, 2400, .inl gt))]) (run_V (As := [.int v3]) (rest := []) kv_RL_39 ⟨by decide, by decide⟩ ⟨rfl, rfl⟩ ⟨hx, hb, hml, hown, hts⟩ (c_LB_bit l D cI cJ cB aX aL aW aS aR fi cn v3 fw hh4 hh5 _) ct_blind (ct_pre (wc := [(aX, .inr (5, [.ref aL, .ref aS, .ref aR])), (aL, .inr (1, [.ref aW, .int fi, .int cn])), (aW, .inl (cJ, 142, .inr (.inl fw)))]) hK hP hD hS hA hZ hN [0, 1, 2] (by decide) rfl rfl) (va_recv hK hP (ci := 5) (q0 := 0) rfl rfl) rfl hl.1 rfl (Nat.le_of_ble_eq_true rfl) dL_law_253 ⟨Nat.le_of_ble_eq_true rfl, Nat.le_of_ble_eq_true rfl⟩) hP hD hS hA [0, 1, 2] [3, 4, 5, 6, 7, 8, 9, 10, 11, 12, 13, 14, 15, 16, 17] rfl rfl (by decide) (by decide) (fun r6 u H locs hw6 hP1 hD1 hS1 => ?_)
  have hw6 : ((v3.toInt < 0 ∨ cn.toInt ≤ v3.toInt) → r6.toInt = -1) ∧ ((0 ≤ v3.toInt ∧ v3.toInt < cn.toInt) → r6 = bi (lnB fw fi.toInt v3.toInt)) := hw6
  clear hP hD hS
  have hP : va_P D classes [(aS, .inr (4, [.ref aC, .ref aG, .int wa])), (aC, .inr (3, [.long la])), (aG, .inl (cI, 8, .inl fg)), (aR, .inr (2, [.ref aB, .ref aQ, .int hd, .long pl, .int hv, .int lk, .int dn, .int ht, .int sl, .int br, .int wh])), (aB, .inr (3, [.long lb])), (aQ, .inr (0, [.ref aT, .ref aP, .int gc])), (aT, .inl (cI, 300, .inl ft)), (aP, .inl (cJ, 300, .inr (.inl fp))), (aM, .inr (6, [.int th, .int mw, .ref bG, .int mz, .ref bL, .ref bY, .ref bB, .ref bC, .int tk, .int ss, .int ml, .int mh, .int mp, .int rw, .int wr, .int tc, .ref bT])), (bG, .inl (cI, 8, .inl gg)), (bL, .inl (cB, 9200, .inl gl)), (bY, .inl (cI, 116, .inl gy)), (bB, .inl (cI, 66, .inl gb)), (bC, .inl (cI, 66, .inl go)), (bT, .inl (cI, 2400, .inl gt)), (aX, .inr (5, [.ref aL, .ref aS, .ref aR])), (aL, .inr (1, [.ref aW, .int fi, .int cn])), (aW, .inl (cJ, 142, .inr (.inl fw)))] H := hP1
  have hD : va_D A [(aS, .inr (4, [.ref aC, .ref aG, .int wa])), (aC, .inr (3, [.long la])), (aG, .inl (cI, 8, .inl fg)), (aR, .inr (2, [.ref aB, .ref aQ, .int hd, .long pl, .int hv, .int lk, .int dn, .int ht, .int sl, .int br, .int wh])), (aB, .inr (3, [.long lb])), (aQ, .inr (0, [.ref aT, .ref aP, .int gc])), (aT, .inl (cI, 300, .inl ft)), (aP, .inl (cJ, 300, .inr (.inl fp))), (aM, .inr (6, [.int th, .int mw, .ref bG, .int mz, .ref bL, .ref bY, .ref bB, .ref bC, .int tk, .int ss, .int ml, .int mh, .int mp, .int rw, .int wr, .int tc, .ref bT])), (bG, .inl (cI, 8, .inl gg)), (bL, .inl (cB, 9200, .inl gl)), (bY, .inl (cI, 116, .inl gy)), (bB, .inl (cI, 66, .inl gb)), (bC, .inl (cI, 66, .inl go)), (bT, .inl (cI, 2400, .inl gt)), (aX, .inr (5, [.ref aL, .ref aS, .ref aR])), (aL, .inr (1, [.ref aW, .int fi, .int cn])), (aW, .inl (cJ, 142, .inr (.inl fw)))] := hD1
  have hS := hS1
  clear hP1 hD1 hS1
  refine lv_pop hx hb dL_law_256 rfl ?_
  refine lv_aload_n hx hb dL_law_257 rfl (lv_at hl 1 rfl) ?_
  refine lv_aload_n hx hb dL_law_258 rfl (lv_at hl 3 rfl) ?_
  refine lv_iload_n hx hb dL_law_259 rfl (lv_at hl 0 rfl) ?_
  refine lv_iconst (v := 1) hx hb dL_law_260 (by decide) ?_
  refine lv_topi (fun v7 e7 => ?_)
  have z7 : v7.toInt = 1 := zi_c e7 (by decide)
  refine lv_iadd hx hb dL_law_261 ?_
  refine lv_topi (fun v8 e8 => ?_)
  first | have z8 := zi_add e8 (by omega) | skip
  refine va_sld hx hb hX hbl hbA hS (zi_in (by omega)) dL_law_262 ?_
  rw [show xs v8.toNatClampNeg = v3 from by rw [e3, show v8 = v2 from Int32.toInt_inj.mp (by omega)]]
  have hh9 : 0 ≤ mz.toInt ∧ mz.toInt ≤ 9066 := (by omega)
  refine call_i (wc := [(aM, .inr (6, [.int th, .int mw, .ref bG, .int mz, .ref bL, .ref bY, .ref bB, .ref bC, .int tk, .int ss, .int ml, .int mh, .int mp, .int rw, .int wr, .int tc, .ref bT])), (bL, .inl (cB, 9200, .inl gl))]) (wr := [(aS, .inr (4, [.ref aC, .ref aG, .int wa])), (aC, .inr (3, [.long la])), (aG, .inl (cI, 8, .inl fg)), (aR, .inr (2, [.ref aB, .ref aQ, .int hd, .long pl, .int hv, .int lk, .int dn, .int ht, .int sl, .int br, .int wh])), (aB, .inr (3, [.long lb])), (aQ, .inr (0, [.ref aT, .ref aP, .int gc])), (aT, .inl (cI, 300, .inl ft)), (aP, .inl (cJ, 300, .inr (.inl fp))), (bG, .inl (cI, 8, .inl gg)), (bY, .inl (cI, 116, .inl gy)), (bB, .inl (cI, 66, .inl gb)), (bC, .inl (cI, 66, .inl go)), (bT, .inl (cI, 2400, .inl gt)), (aX, .inr (5, [.ref aL, .ref aS, .ref aR])), (aL, .inr (1, [.ref aW, .int fi, .int cn])), (aW, .inl (cJ, 142, .inr (.inl fw)))]) (run_V (As := [.int v3]) (rest := []) kv_RL_42 ⟨by decide, by decide⟩ ⟨rfl, rfl⟩ ⟨hx, hb, hml, hown, hts⟩ (c_Mo_bit l D cI cJ cB aM bG bL bY bB bC bT th mw mz tk ss ml mh mp rw wr tc gl v3 hh9 _) ct_blind (ct_pre (wc := [(aM, .inr (6, [.int th, .int mw, .ref bG, .int mz, .ref bL, .ref bY, .ref bB, .ref bC, .int tk, .int ss, .int ml, .int mh, .int mp, .int rw, .int wr, .int tc, .ref bT])), (bL, .inl (cB, 9200, .inl gl))]) hK hP hD hS hA hZ hN [8, 10] (by decide) rfl rfl) (va_recv hK hP (ci := 6) (q0 := 8) rfl rfl) rfl hl.1 rfl (Nat.le_of_ble_eq_true rfl) dL_law_263 ⟨Nat.le_of_ble_eq_true rfl, Nat.le_of_ble_eq_true rfl⟩) hP hD hS hA [8, 10] [0, 1, 2, 3, 4, 5, 6, 7, 9, 11, 12, 13, 14, 15, 16, 17] rfl rfl (by decide) (by decide) (fun r10 u H locs hw10 hP1 hD1 hS1 => ?_)
  obtain ⟨th2_10, hu9⟩ : ∃ z, z = u := ⟨_, rfl⟩
  subst hu9
  have hw10 : ((v3.toInt < 0 ∨ mz.toInt ≤ v3.toInt) → r10.toInt = -1) ∧ ((0 ≤ v3.toInt ∧ v3.toInt < mz.toInt) → r10 = gl v3.toInt.toNat) := hw10
  clear hP hD hS
  have hP : va_P D classes [(aS, .inr (4, [.ref aC, .ref aG, .int wa])), (aC, .inr (3, [.long la])), (aG, .inl (cI, 8, .inl fg)), (aR, .inr (2, [.ref aB, .ref aQ, .int hd, .long pl, .int hv, .int lk, .int dn, .int ht, .int sl, .int br, .int wh])), (aB, .inr (3, [.long lb])), (aQ, .inr (0, [.ref aT, .ref aP, .int gc])), (aT, .inl (cI, 300, .inl ft)), (aP, .inl (cJ, 300, .inr (.inl fp))), (bG, .inl (cI, 8, .inl gg)), (bY, .inl (cI, 116, .inl gy)), (bB, .inl (cI, 66, .inl gb)), (bC, .inl (cI, 66, .inl go)), (bT, .inl (cI, 2400, .inl gt)), (aX, .inr (5, [.ref aL, .ref aS, .ref aR])), (aL, .inr (1, [.ref aW, .int fi, .int cn])), (aW, .inl (cJ, 142, .inr (.inl fw))), (aM, .inr (6, [.int th2_10, .int mw, .ref bG, .int mz, .ref bL, .ref bY, .ref bB, .ref bC, .int tk, .int ss, .int ml, .int mh, .int mp, .int rw, .int wr, .int tc, .ref bT])), (bL, .inl (cB, 9200, .inl gl))] H := hP1
  have hD : va_D A [(aS, .inr (4, [.ref aC, .ref aG, .int wa])), (aC, .inr (3, [.long la])), (aG, .inl (cI, 8, .inl fg)), (aR, .inr (2, [.ref aB, .ref aQ, .int hd, .long pl, .int hv, .int lk, .int dn, .int ht, .int sl, .int br, .int wh])), (aB, .inr (3, [.long lb])), (aQ, .inr (0, [.ref aT, .ref aP, .int gc])), (aT, .inl (cI, 300, .inl ft)), (aP, .inl (cJ, 300, .inr (.inl fp))), (bG, .inl (cI, 8, .inl gg)), (bY, .inl (cI, 116, .inl gy)), (bB, .inl (cI, 66, .inl gb)), (bC, .inl (cI, 66, .inl go)), (bT, .inl (cI, 2400, .inl gt)), (aX, .inr (5, [.ref aL, .ref aS, .ref aR])), (aL, .inr (1, [.ref aW, .int fi, .int cn])), (aW, .inl (cJ, 142, .inr (.inl fw))), (aM, .inr (6, [.int th2_10, .int mw, .ref bG, .int mz, .ref bL, .ref bY, .ref bB, .ref bC, .int tk, .int ss, .int ml, .int mh, .int mp, .int rw, .int wr, .int tc, .ref bT])), (bL, .inl (cB, 9200, .inl gl))] := hD1
  have hS := hS1
  clear hP1 hD1 hS1
  have hk := eq_bit hE hC hw6 hw10
  clear hw6 hw10
  refine lv_pop hx hb dL_law_266 rfl ?_
  refine lv_goto (tgt := 395) hx hb dL_law_267 (by decide) ?_
  exact kk _ _ _ ⟨fi, cn, fw, wa, la, fg, hd, pl, hv, lk, dn, ht, sl, br, wh, lb, gc, ft, fp, th2_10, mw, mz, tk, ss, ml, mh, mp, rw, wr, tc, gg, gl, gy, gb, go, gt, ⟨by omega, by omega, by omega, by omega, by omega, hC, rcS_up hM (by omega)⟩, hP.sub [13, 14, 15, 0, 1, 2, 3, 4, 5, 6, 7, 16, 8, 17, 9, 10, 11, 12] rfl, hD.sub [13, 14, 15, 0, 1, 2, 3, 4, 5, 6, 7, 16, 8, 17, 9, 10, 11, 12] (by decide) rfl, hS⟩ (lv_sub hl [0, 1, 2, 3] rfl)
set_option maxHeartbeats 8000000 in
set_option maxRecDepth 100000 in
theorem law_c6 {p : Program} {l : Launch} {e : Env} {s : State} {m : MethodId} {args : Array Value} {below : List Frame} {meth : Method} {c : Code} {A : Nat → Prop} {Q : State → Prop} {D : va_G} {cI cJ cB : ClassId} {b L : Nat} {xs : Nat → Int32} (hL : L ≤ 2048)
    (hx : p.tables.exec = Jvm.exec) (hb : c.code = cL_law) (hml : c.maxLocals = 4) (hown : s.vm.findClass RL = some m.cls) (hts : ∀ w ∈ lw_good, w.before args s = true) (hK : va_K D classes (tys3 cI cJ cB) s) (hA : ∀ q : Nat, s.heap.size ≤ q → A q) (hZ : st_T A s s.heap) (hN : nw_T s) (hX : va_X b L xs s s.heap) (hbl : b < s.heap.size) (hbA : ¬ A b)
    {aX aL aW aS aC aG aR aB aQ aT aP aM bG bL bY bB bC bT : Nat} {i : Int32} {H : Heap} {locs : List Loc} {ls : Array Slot} (hi : 0 ≤ i.toInt ∧ i.toInt + 4 ≤ (L : Int)) (hI0 : LI A s D cI cJ cB aX aL aW aS aC aG aR aB aQ aT aP aM bG bL bY bB bC bT i.toInt H locs) (hl : lv_has ls 4 [(3, .int i), (2, .ref aM), (1, .ref aX), (0, .ref b)])
    (kk : ∀ (H : Heap) (locs : List Loc) (ls : Array Slot), LI A s D cI cJ cB aX aL aW aS aC aG aR aB aQ aT aP aM bG bL bY bB bC bT (i.toInt + 4) H locs → lv_has ls 4 [(3, .int i), (2, .ref aM), (1, .ref aX), (0, .ref b)] → W p l e room_1 s m args below meth c H locs 18 12648 Q (F0 m 395 ls [])) :
    W p l e room_1 s m args below meth c H locs 18 12648 Q (F0 m 270 ls []) := by
  obtain ⟨fi, cn, fw, wa, la, fg, hd, pl, hv, lk, dn, ht, sl, br, wh, lb, gc, ft, fp, th, mw, mz, tk, ss, ml, mh, mp, rw, wr, tc, gg, gl, gy, gb, go, gt, hI, hP, hD, hS⟩ := hI0
  obtain ⟨hE, hR, hF, hB, hT, hC, hM⟩ := hI
  have hV := hC.2.1
  have hY := hC.2.2.1
  have hLn : ∀ j : Nat, (j : Int) < mz.toInt → gl j = bi (bt (gl j) 0) := fun j hj => hC.2.2.2 j (by omega)
  refine lv_aload_n hx hb dL_law_270 rfl (lv_at hl 2 rfl) ?_
  refine lv_aload_n hx hb dL_law_271 rfl (lv_at hl 3 rfl) ?_
  refine lv_iload_n hx hb dL_law_272 rfl (lv_at hl 0 rfl) ?_
  refine lv_iconst (v := 1) hx hb dL_law_273 (by decide) ?_
  refine lv_topi (fun v1 e1 => ?_)
  have z1 : v1.toInt = 1 := zi_c e1 (by decide)
  refine lv_iadd hx hb dL_law_274 ?_
  refine lv_topi (fun v2 e2 => ?_)
  first | have z2 := zi_add e2 (by omega) | skip
  refine va_sld hx hb hX hbl hbA hS (zi_in (by omega)) dL_law_275 ?_
  refine lv_topi (fun v3 e3 => ?_)
  have hh4 : 0 ≤ fi.toInt ∧ fi.toInt < 9088 := (by omega)
  have hh5 : 0 ≤ cn.toInt ∧ cn.toInt ≤ 9066 := (by omega)
  refine call_i (wc := [(aX, .inr (5, [.ref aL, .ref aS, .ref aR])), (aL, .inr (1, [.ref aW, .int fi, .int cn])), (aW, .inl (cJ, 142, .inr (.inl fw)))]) (wr := [(aS, .inr (4, [.ref aC, .ref aG, .int wa])), (aC, .inr (3, [.long la])), (aG, .inl (cI, 8, .inl fg)), (aR, .inr (2, [.ref aB, .ref aQ, .int hd, .long pl, .int hv, .int lk, .int dn, .int ht, .int sl, .int br, .int wh])), (aB, .inr (3, [.long lb])), (aQ, .inr (0, [.ref aT, .ref aP, .int gc])), (aT, .inl (cI, 300, .inl ft)), (aP, .inl (cJ, 300, .inr (.inl fp))), (aM, .inr (6, [.int th, .int mw, .ref bG, .int mz, .ref bL, .ref bY, .ref bB, .ref bC, .int tk, .int ss, .int ml, .int mh, .int mp, .int rw, .int wr, .int tc, .ref bT])), (bG, .inl (cI, 8, .inl gg)), (bL, .inl (cB, 9200, .inl gl)), (bY, .inl (cI, 116, .inl gy)), (bB, .inl (cI, 66, .inl gb)), (bC, .inl (cI, 66, .inl go)), (bT, .inl (cI, 2400, .inl gt))]) (run_V (As := [.int v3]) (rest := []) kv_RL_43 ⟨by decide, by decide⟩ ⟨rfl, rfl⟩ ⟨hx, hb, hml, hown, hts⟩ (c_LB_turn l D cI cJ cB aX aL aW aS aR fi cn v3 fw hh4 hh5 _) ct_blind (ct_pre (wc := [(aX, .inr (5, [.ref aL, .ref aS, .ref aR])), (aL, .inr (1, [.ref aW, .int fi, .int cn])), (aW, .inl (cJ, 142, .inr (.inl fw)))]) hK hP hD hS hA hZ hN [0, 1, 2] (by decide) rfl rfl) (va_recv hK hP (ci := 5) (q0 := 0) rfl rfl) rfl hl.1 rfl (Nat.le_of_ble_eq_true rfl) dL_law_276 ⟨Nat.le_of_ble_eq_true rfl, Nat.le_of_ble_eq_true rfl⟩) hP hD hS hA [0, 1, 2] [3, 4, 5, 6, 7, 8, 9, 10, 11, 12, 13, 14, 15, 16, 17] rfl rfl (by decide) (by decide) (fun r6 u H locs hw6 hP1 hD1 hS1 => ?_)
  obtain ⟨fw2_6, hu9⟩ : ∃ z, z = u := ⟨_, rfl⟩
  subst hu9
  have hw6 : ((v3.toInt < 0 ∨ cn.toInt ≤ v3.toInt) → r6.toInt = -12 ∧ fw2_6 = fw) ∧ ((0 ≤ v3.toInt ∧ v3.toInt < cn.toInt) → r6 = bi (!lnB fw fi.toInt v3.toInt) ∧ ∀ j : Int, 0 ≤ j → j < cn.toInt → lnB fw2_6 fi.toInt j = if j = v3.toInt then !lnB fw fi.toInt j else lnB fw fi.toInt j) := hw6
  clear hP hD hS
  have hP : va_P D classes [(aS, .inr (4, [.ref aC, .ref aG, .int wa])), (aC, .inr (3, [.long la])), (aG, .inl (cI, 8, .inl fg)), (aR, .inr (2, [.ref aB, .ref aQ, .int hd, .long pl, .int hv, .int lk, .int dn, .int ht, .int sl, .int br, .int wh])), (aB, .inr (3, [.long lb])), (aQ, .inr (0, [.ref aT, .ref aP, .int gc])), (aT, .inl (cI, 300, .inl ft)), (aP, .inl (cJ, 300, .inr (.inl fp))), (aM, .inr (6, [.int th, .int mw, .ref bG, .int mz, .ref bL, .ref bY, .ref bB, .ref bC, .int tk, .int ss, .int ml, .int mh, .int mp, .int rw, .int wr, .int tc, .ref bT])), (bG, .inl (cI, 8, .inl gg)), (bL, .inl (cB, 9200, .inl gl)), (bY, .inl (cI, 116, .inl gy)), (bB, .inl (cI, 66, .inl gb)), (bC, .inl (cI, 66, .inl go)), (bT, .inl (cI, 2400, .inl gt)), (aX, .inr (5, [.ref aL, .ref aS, .ref aR])), (aL, .inr (1, [.ref aW, .int fi, .int cn])), (aW, .inl (cJ, 142, .inr (.inl fw2_6)))] H := hP1
  have hD : va_D A [(aS, .inr (4, [.ref aC, .ref aG, .int wa])), (aC, .inr (3, [.long la])), (aG, .inl (cI, 8, .inl fg)), (aR, .inr (2, [.ref aB, .ref aQ, .int hd, .long pl, .int hv, .int lk, .int dn, .int ht, .int sl, .int br, .int wh])), (aB, .inr (3, [.long lb])), (aQ, .inr (0, [.ref aT, .ref aP, .int gc])), (aT, .inl (cI, 300, .inl ft)), (aP, .inl (cJ, 300, .inr (.inl fp))), (aM, .inr (6, [.int th, .int mw, .ref bG, .int mz, .ref bL, .ref bY, .ref bB, .ref bC, .int tk, .int ss, .int ml, .int mh, .int mp, .int rw, .int wr, .int tc, .ref bT])), (bG, .inl (cI, 8, .inl gg)), (bL, .inl (cB, 9200, .inl gl)), (bY, .inl (cI, 116, .inl gy)), (bB, .inl (cI, 66, .inl gb)), (bC, .inl (cI, 66, .inl go)), (bT, .inl (cI, 2400, .inl gt)), (aX, .inr (5, [.ref aL, .ref aS, .ref aR])), (aL, .inr (1, [.ref aW, .int fi, .int cn])), (aW, .inl (cJ, 142, .inr (.inl fw2_6)))] := hD1
  have hS := hS1
  clear hP1 hD1 hS1
  refine lv_pop hx hb dL_law_279 rfl ?_
  refine lv_aload_n hx hb dL_law_280 rfl (lv_at hl 1 rfl) ?_
  refine lv_aload_n hx hb dL_law_281 rfl (lv_at hl 3 rfl) ?_
  refine lv_iload_n hx hb dL_law_282 rfl (lv_at hl 0 rfl) ?_
  refine lv_iconst (v := 1) hx hb dL_law_283 (by decide) ?_
  refine lv_topi (fun v7 e7 => ?_)
  have z7 : v7.toInt = 1 := zi_c e7 (by decide)
  refine lv_iadd hx hb dL_law_284 ?_
  refine lv_topi (fun v8 e8 => ?_)
  first | have z8 := zi_add e8 (by omega) | skip
  refine va_sld hx hb hX hbl hbA hS (zi_in (by omega)) dL_law_285 ?_
  rw [show xs v8.toNatClampNeg = v3 from by rw [e3, show v8 = v2 from Int32.toInt_inj.mp (by omega)]]
  have hh9 : 0 ≤ mz.toInt ∧ mz.toInt ≤ 9066 := (by omega)
  have hh10 : ∀ j : Nat, (j : Int) < mz.toInt → gl j = bi (bt (gl j) 0) := hLn
  refine call_i (wc := [(aM, .inr (6, [.int th, .int mw, .ref bG, .int mz, .ref bL, .ref bY, .ref bB, .ref bC, .int tk, .int ss, .int ml, .int mh, .int mp, .int rw, .int wr, .int tc, .ref bT])), (bL, .inl (cB, 9200, .inl gl))]) (wr := [(aS, .inr (4, [.ref aC, .ref aG, .int wa])), (aC, .inr (3, [.long la])), (aG, .inl (cI, 8, .inl fg)), (aR, .inr (2, [.ref aB, .ref aQ, .int hd, .long pl, .int hv, .int lk, .int dn, .int ht, .int sl, .int br, .int wh])), (aB, .inr (3, [.long lb])), (aQ, .inr (0, [.ref aT, .ref aP, .int gc])), (aT, .inl (cI, 300, .inl ft)), (aP, .inl (cJ, 300, .inr (.inl fp))), (bG, .inl (cI, 8, .inl gg)), (bY, .inl (cI, 116, .inl gy)), (bB, .inl (cI, 66, .inl gb)), (bC, .inl (cI, 66, .inl go)), (bT, .inl (cI, 2400, .inl gt)), (aX, .inr (5, [.ref aL, .ref aS, .ref aR])), (aL, .inr (1, [.ref aW, .int fi, .int cn])), (aW, .inl (cJ, 142, .inr (.inl fw2_6)))]) (run_V (As := [.int v3]) (rest := []) kv_RL_46 ⟨by decide, by decide⟩ ⟨rfl, rfl⟩ ⟨hx, hb, hml, hown, hts⟩ (c_Mo_turn l D cI cJ cB aM bG bL bY bB bC bT th mw mz tk ss ml mh mp rw wr tc gl v3 hh9 hh10 _) ct_blind (ct_pre (wc := [(aM, .inr (6, [.int th, .int mw, .ref bG, .int mz, .ref bL, .ref bY, .ref bB, .ref bC, .int tk, .int ss, .int ml, .int mh, .int mp, .int rw, .int wr, .int tc, .ref bT])), (bL, .inl (cB, 9200, .inl gl))]) hK hP hD hS hA hZ hN [8, 10] (by decide) rfl rfl) (va_recv hK hP (ci := 6) (q0 := 8) rfl rfl) rfl hl.1 rfl (Nat.le_of_ble_eq_true rfl) dL_law_286 ⟨Nat.le_of_ble_eq_true rfl, Nat.le_of_ble_eq_true rfl⟩) hP hD hS hA [8, 10] [0, 1, 2, 3, 4, 5, 6, 7, 9, 11, 12, 13, 14, 15, 16, 17] rfl rfl (by decide) (by decide) (fun r11 u H locs hw11 hP1 hD1 hS1 => ?_)
  obtain ⟨th2_11, gl2_11⟩ := u
  have hw11 : ((v3.toInt < 0 ∨ mz.toInt ≤ v3.toInt) → r11.toInt = -12 ∧ gl2_11 = gl) ∧ ((0 ≤ v3.toInt ∧ v3.toInt < mz.toInt) → r11 = bi (!bt (gl v3.toInt.toNat) 0) ∧ ∀ j : Nat, gl2_11 j = if j = v3.toInt.toNat then bi (!bt (gl v3.toInt.toNat) 0) else gl j) := hw11
  clear hP hD hS
  have hP : va_P D classes [(aS, .inr (4, [.ref aC, .ref aG, .int wa])), (aC, .inr (3, [.long la])), (aG, .inl (cI, 8, .inl fg)), (aR, .inr (2, [.ref aB, .ref aQ, .int hd, .long pl, .int hv, .int lk, .int dn, .int ht, .int sl, .int br, .int wh])), (aB, .inr (3, [.long lb])), (aQ, .inr (0, [.ref aT, .ref aP, .int gc])), (aT, .inl (cI, 300, .inl ft)), (aP, .inl (cJ, 300, .inr (.inl fp))), (bG, .inl (cI, 8, .inl gg)), (bY, .inl (cI, 116, .inl gy)), (bB, .inl (cI, 66, .inl gb)), (bC, .inl (cI, 66, .inl go)), (bT, .inl (cI, 2400, .inl gt)), (aX, .inr (5, [.ref aL, .ref aS, .ref aR])), (aL, .inr (1, [.ref aW, .int fi, .int cn])), (aW, .inl (cJ, 142, .inr (.inl fw2_6))), (aM, .inr (6, [.int th2_11, .int mw, .ref bG, .int mz, .ref bL, .ref bY, .ref bB, .ref bC, .int tk, .int ss, .int ml, .int mh, .int mp, .int rw, .int wr, .int tc, .ref bT])), (bL, .inl (cB, 9200, .inl gl2_11))] H := hP1
  have hD : va_D A [(aS, .inr (4, [.ref aC, .ref aG, .int wa])), (aC, .inr (3, [.long la])), (aG, .inl (cI, 8, .inl fg)), (aR, .inr (2, [.ref aB, .ref aQ, .int hd, .long pl, .int hv, .int lk, .int dn, .int ht, .int sl, .int br, .int wh])), (aB, .inr (3, [.long lb])), (aQ, .inr (0, [.ref aT, .ref aP, .int gc])), (aT, .inl (cI, 300, .inl ft)), (aP, .inl (cJ, 300, .inr (.inl fp))), (bG, .inl (cI, 8, .inl gg)), (bY, .inl (cI, 116, .inl gy)), (bB, .inl (cI, 66, .inl gb)), (bC, .inl (cI, 66, .inl go)), (bT, .inl (cI, 2400, .inl gt)), (aX, .inr (5, [.ref aL, .ref aS, .ref aR])), (aL, .inr (1, [.ref aW, .int fi, .int cn])), (aW, .inl (cJ, 142, .inr (.inl fw2_6))), (aM, .inr (6, [.int th2_11, .int mw, .ref bG, .int mz, .ref bL, .ref bY, .ref bB, .ref bC, .int tk, .int ss, .int ml, .int mh, .int mp, .int rw, .int wr, .int tc, .ref bT])), (bL, .inl (cB, 9200, .inl gl2_11))] := hD1
  have hS := hS1
  clear hP1 hD1 hS1
  obtain ⟨hk, hC2⟩ := cp_turn hE hR hC hw6 hw11
  clear hw6 hw11 hC hV hY hLn
  have hC := hC2
  refine lv_pop hx hb dL_law_289 rfl ?_
  refine lv_goto (tgt := 395) hx hb dL_law_290 (by decide) ?_
  exact kk _ _ _ ⟨fi, cn, fw2_6, wa, la, fg, hd, pl, hv, lk, dn, ht, sl, br, wh, lb, gc, ft, fp, th2_11, mw, mz, tk, ss, ml, mh, mp, rw, wr, tc, gg, gl2_11, gy, gb, go, gt, ⟨by omega, by omega, by omega, by omega, by omega, hC, rcS_up hM (by omega)⟩, hP.sub [13, 14, 15, 0, 1, 2, 3, 4, 5, 6, 7, 16, 8, 17, 9, 10, 11, 12] rfl, hD.sub [13, 14, 15, 0, 1, 2, 3, 4, 5, 6, 7, 16, 8, 17, 9, 10, 11, 12] (by decide) rfl, hS⟩ (lv_sub hl [0, 1, 2, 3] rfl)
set_option maxHeartbeats 8000000 in
set_option maxRecDepth 100000 in
theorem law_c7 {p : Program} {l : Launch} {e : Env} {s : State} {m : MethodId} {args : Array Value} {below : List Frame} {meth : Method} {c : Code} {A : Nat → Prop} {Q : State → Prop} {D : va_G} {cI cJ cB : ClassId} {b L : Nat} {xs : Nat → Int32} (hL : L ≤ 2048)
    (hx : p.tables.exec = Jvm.exec) (hb : c.code = cL_law) (hml : c.maxLocals = 4) (hown : s.vm.findClass RL = some m.cls) (hts : ∀ w ∈ lw_good, w.before args s = true) (hK : va_K D classes (tys3 cI cJ cB) s) (hA : ∀ q : Nat, s.heap.size ≤ q → A q) (hZ : st_T A s s.heap) (hN : nw_T s) (hX : va_X b L xs s s.heap) (hbl : b < s.heap.size) (hbA : ¬ A b)
    {aX aL aW aS aC aG aR aB aQ aT aP aM bG bL bY bB bC bT : Nat} {i : Int32} {H : Heap} {locs : List Loc} {ls : Array Slot} (hi : 0 ≤ i.toInt ∧ i.toInt + 4 ≤ (L : Int)) (hI0 : LI A s D cI cJ cB aX aL aW aS aC aG aR aB aQ aT aP aM bG bL bY bB bC bT i.toInt H locs) (hl : lv_has ls 4 [(3, .int i), (2, .ref aM), (1, .ref aX), (0, .ref b)])
    (kk : ∀ (H : Heap) (locs : List Loc) (ls : Array Slot), LI A s D cI cJ cB aX aL aW aS aC aG aR aB aQ aT aP aM bG bL bY bB bC bT (i.toInt + 4) H locs → lv_has ls 4 [(3, .int i), (2, .ref aM), (1, .ref aX), (0, .ref b)] → W p l e room_1 s m args below meth c H locs 18 12648 Q (F0 m 395 ls [])) :
    W p l e room_1 s m args below meth c H locs 18 12648 Q (F0 m 293 ls []) := by
  obtain ⟨fi, cn, fw, wa, la, fg, hd, pl, hv, lk, dn, ht, sl, br, wh, lb, gc, ft, fp, th, mw, mz, tk, ss, ml, mh, mp, rw, wr, tc, gg, gl, gy, gb, go, gt, hI, hP, hD, hS⟩ := hI0
  obtain ⟨hE, hR, hF, hB, hT, hC, hM⟩ := hI
  have hV := hC.2.1
  have hY := hC.2.2.1
  have hLn : ∀ j : Nat, (j : Int) < mz.toInt → gl j = bi (bt (gl j) 0) := fun j hj => hC.2.2.2 j (by omega)
  refine lv_aload_n hx hb dL_law_293 rfl (lv_at hl 2 rfl) ?_
  refine lv_aload_n hx hb dL_law_294 rfl (lv_at hl 3 rfl) ?_
  refine lv_iload_n hx hb dL_law_295 rfl (lv_at hl 0 rfl) ?_
  refine lv_iconst (v := 1) hx hb dL_law_296 (by decide) ?_
  refine lv_topi (fun v1 e1 => ?_)
  have z1 : v1.toInt = 1 := zi_c e1 (by decide)
  refine lv_iadd hx hb dL_law_297 ?_
  refine lv_topi (fun v2 e2 => ?_)
  first | have z2 := zi_add e2 (by omega) | skip
  refine va_sld hx hb hX hbl hbA hS (zi_in (by omega)) dL_law_298 ?_
  refine lv_topi (fun v3 e3 => ?_)
  have hh4 : 0 ≤ fi.toInt ∧ fi.toInt < 9088 := (by omega)
  have hh5 : 0 ≤ cn.toInt ∧ cn.toInt ≤ 9066 := (by omega)
  refine call_i (wc := [(aX, .inr (5, [.ref aL, .ref aS, .ref aR])), (aL, .inr (1, [.ref aW, .int fi, .int cn])), (aW, .inl (cJ, 142, .inr (.inl fw)))]) (wr := [(aS, .inr (4, [.ref aC, .ref aG, .int wa])), (aC, .inr (3, [.long la])), (aG, .inl (cI, 8, .inl fg)), (aR, .inr (2, [.ref aB, .ref aQ, .int hd, .long pl, .int hv, .int lk, .int dn, .int ht, .int sl, .int br, .int wh])), (aB, .inr (3, [.long lb])), (aQ, .inr (0, [.ref aT, .ref aP, .int gc])), (aT, .inl (cI, 300, .inl ft)), (aP, .inl (cJ, 300, .inr (.inl fp))), (aM, .inr (6, [.int th, .int mw, .ref bG, .int mz, .ref bL, .ref bY, .ref bB, .ref bC, .int tk, .int ss, .int ml, .int mh, .int mp, .int rw, .int wr, .int tc, .ref bT])), (bG, .inl (cI, 8, .inl gg)), (bL, .inl (cB, 9200, .inl gl)), (bY, .inl (cI, 116, .inl gy)), (bB, .inl (cI, 66, .inl gb)), (bC, .inl (cI, 66, .inl go)), (bT, .inl (cI, 2400, .inl gt))]) (run_V (As := [.int v3]) (rest := []) kv_RL_47 ⟨by decide, by decide⟩ ⟨rfl, rfl⟩ ⟨hx, hb, hml, hown, hts⟩ (c_LB_add l D cI cJ cB aX aL aW aS aR fi cn v3 fw hh4 hh5 _) ct_blind (ct_pre (wc := [(aX, .inr (5, [.ref aL, .ref aS, .ref aR])), (aL, .inr (1, [.ref aW, .int fi, .int cn])), (aW, .inl (cJ, 142, .inr (.inl fw)))]) hK hP hD hS hA hZ hN [0, 1, 2] (by decide) rfl rfl) (va_recv hK hP (ci := 5) (q0 := 0) rfl rfl) rfl hl.1 rfl (Nat.le_of_ble_eq_true rfl) dL_law_299 ⟨Nat.le_of_ble_eq_true rfl, Nat.le_of_ble_eq_true rfl⟩) hP hD hS hA [0, 1, 2] [3, 4, 5, 6, 7, 8, 9, 10, 11, 12, 13, 14, 15, 16, 17] rfl rfl (by decide) (by decide) (fun r6 u H locs hw6 hP1 hD1 hS1 => ?_)
  obtain ⟨cn2_6, fw2_6⟩ := u
  have hw6 : (((¬ v3.toInt = 0 ∧ ¬ v3.toInt = 1) → r6.toInt = -12 ∧ cn2_6.toInt = cn.toInt) ∧ ((v3.toInt = 0 ∨ v3.toInt = 1) → (9066 ≤ cn.toInt → r6.toInt = -14 ∧ cn2_6.toInt = cn.toInt) ∧ (cn.toInt < 9066 → r6.toInt = cn.toInt + 1 ∧ cn2_6.toInt = cn.toInt + 1))) ∧ (¬ ((v3.toInt = 0 ∨ v3.toInt = 1) ∧ cn.toInt < 9066) → fw2_6 = fw) ∧ (((v3.toInt = 0 ∨ v3.toInt = 1) ∧ cn.toInt < 9066) → lnB fw2_6 fi.toInt cn.toInt = bt v3 0 ∧ ∀ j : Int, 0 ≤ j → j < cn.toInt → lnB fw2_6 fi.toInt j = lnB fw fi.toInt j) := hw6
  clear hP hD hS
  have hP : va_P D classes [(aS, .inr (4, [.ref aC, .ref aG, .int wa])), (aC, .inr (3, [.long la])), (aG, .inl (cI, 8, .inl fg)), (aR, .inr (2, [.ref aB, .ref aQ, .int hd, .long pl, .int hv, .int lk, .int dn, .int ht, .int sl, .int br, .int wh])), (aB, .inr (3, [.long lb])), (aQ, .inr (0, [.ref aT, .ref aP, .int gc])), (aT, .inl (cI, 300, .inl ft)), (aP, .inl (cJ, 300, .inr (.inl fp))), (aM, .inr (6, [.int th, .int mw, .ref bG, .int mz, .ref bL, .ref bY, .ref bB, .ref bC, .int tk, .int ss, .int ml, .int mh, .int mp, .int rw, .int wr, .int tc, .ref bT])), (bG, .inl (cI, 8, .inl gg)), (bL, .inl (cB, 9200, .inl gl)), (bY, .inl (cI, 116, .inl gy)), (bB, .inl (cI, 66, .inl gb)), (bC, .inl (cI, 66, .inl go)), (bT, .inl (cI, 2400, .inl gt)), (aX, .inr (5, [.ref aL, .ref aS, .ref aR])), (aL, .inr (1, [.ref aW, .int fi, .int cn2_6])), (aW, .inl (cJ, 142, .inr (.inl fw2_6)))] H := hP1
  have hD : va_D A [(aS, .inr (4, [.ref aC, .ref aG, .int wa])), (aC, .inr (3, [.long la])), (aG, .inl (cI, 8, .inl fg)), (aR, .inr (2, [.ref aB, .ref aQ, .int hd, .long pl, .int hv, .int lk, .int dn, .int ht, .int sl, .int br, .int wh])), (aB, .inr (3, [.long lb])), (aQ, .inr (0, [.ref aT, .ref aP, .int gc])), (aT, .inl (cI, 300, .inl ft)), (aP, .inl (cJ, 300, .inr (.inl fp))), (aM, .inr (6, [.int th, .int mw, .ref bG, .int mz, .ref bL, .ref bY, .ref bB, .ref bC, .int tk, .int ss, .int ml, .int mh, .int mp, .int rw, .int wr, .int tc, .ref bT])), (bG, .inl (cI, 8, .inl gg)), (bL, .inl (cB, 9200, .inl gl)), (bY, .inl (cI, 116, .inl gy)), (bB, .inl (cI, 66, .inl gb)), (bC, .inl (cI, 66, .inl go)), (bT, .inl (cI, 2400, .inl gt)), (aX, .inr (5, [.ref aL, .ref aS, .ref aR])), (aL, .inr (1, [.ref aW, .int fi, .int cn2_6])), (aW, .inl (cJ, 142, .inr (.inl fw2_6)))] := hD1
  have hS := hS1
  clear hP1 hD1 hS1
  refine lv_pop hx hb dL_law_302 rfl ?_
  refine lv_aload_n hx hb dL_law_303 rfl (lv_at hl 1 rfl) ?_
  refine lv_aload_n hx hb dL_law_304 rfl (lv_at hl 3 rfl) ?_
  refine lv_iload_n hx hb dL_law_305 rfl (lv_at hl 0 rfl) ?_
  refine lv_iconst (v := 1) hx hb dL_law_306 (by decide) ?_
  refine lv_topi (fun v7 e7 => ?_)
  have z7 : v7.toInt = 1 := zi_c e7 (by decide)
  refine lv_iadd hx hb dL_law_307 ?_
  refine lv_topi (fun v8 e8 => ?_)
  first | have z8 := zi_add e8 (by omega) | skip
  refine va_sld hx hb hX hbl hbA hS (zi_in (by omega)) dL_law_308 ?_
  rw [show xs v8.toNatClampNeg = v3 from by rw [e3, show v8 = v2 from Int32.toInt_inj.mp (by omega)]]
  have hh9 : 0 ≤ mz.toInt ∧ mz.toInt ≤ 9066 := (by omega)
  refine call_i (wc := [(aM, .inr (6, [.int th, .int mw, .ref bG, .int mz, .ref bL, .ref bY, .ref bB, .ref bC, .int tk, .int ss, .int ml, .int mh, .int mp, .int rw, .int wr, .int tc, .ref bT])), (bL, .inl (cB, 9200, .inl gl))]) (wr := [(aS, .inr (4, [.ref aC, .ref aG, .int wa])), (aC, .inr (3, [.long la])), (aG, .inl (cI, 8, .inl fg)), (aR, .inr (2, [.ref aB, .ref aQ, .int hd, .long pl, .int hv, .int lk, .int dn, .int ht, .int sl, .int br, .int wh])), (aB, .inr (3, [.long lb])), (aQ, .inr (0, [.ref aT, .ref aP, .int gc])), (aT, .inl (cI, 300, .inl ft)), (aP, .inl (cJ, 300, .inr (.inl fp))), (bG, .inl (cI, 8, .inl gg)), (bY, .inl (cI, 116, .inl gy)), (bB, .inl (cI, 66, .inl gb)), (bC, .inl (cI, 66, .inl go)), (bT, .inl (cI, 2400, .inl gt)), (aX, .inr (5, [.ref aL, .ref aS, .ref aR])), (aL, .inr (1, [.ref aW, .int fi, .int cn2_6])), (aW, .inl (cJ, 142, .inr (.inl fw2_6)))]) (run_V (As := [.int v3]) (rest := []) kv_RL_50 ⟨by decide, by decide⟩ ⟨rfl, rfl⟩ ⟨hx, hb, hml, hown, hts⟩ (c_Mo_add l D cI cJ cB aM bG bL bY bB bC bT th mw mz tk ss ml mh mp rw wr tc gl v3 hh9 _) ct_blind (ct_pre (wc := [(aM, .inr (6, [.int th, .int mw, .ref bG, .int mz, .ref bL, .ref bY, .ref bB, .ref bC, .int tk, .int ss, .int ml, .int mh, .int mp, .int rw, .int wr, .int tc, .ref bT])), (bL, .inl (cB, 9200, .inl gl))]) hK hP hD hS hA hZ hN [8, 10] (by decide) rfl rfl) (va_recv hK hP (ci := 6) (q0 := 8) rfl rfl) rfl hl.1 rfl (Nat.le_of_ble_eq_true rfl) dL_law_309 ⟨Nat.le_of_ble_eq_true rfl, Nat.le_of_ble_eq_true rfl⟩) hP hD hS hA [8, 10] [0, 1, 2, 3, 4, 5, 6, 7, 9, 11, 12, 13, 14, 15, 16, 17] rfl rfl (by decide) (by decide) (fun r10 u H locs hw10 hP1 hD1 hS1 => ?_)
  obtain ⟨th2_10, mz2_10, gl2_10⟩ := u
  have hw10 : (((¬ v3.toInt = 0 ∧ ¬ v3.toInt = 1) → r10.toInt = -12 ∧ mz2_10.toInt = mz.toInt) ∧ ((v3.toInt = 0 ∨ v3.toInt = 1) → (9066 ≤ mz.toInt → r10.toInt = -14 ∧ mz2_10.toInt = mz.toInt) ∧ (mz.toInt < 9066 → r10.toInt = mz.toInt + 1 ∧ mz2_10.toInt = mz.toInt + 1))) ∧ (¬ ((v3.toInt = 0 ∨ v3.toInt = 1) ∧ mz.toInt < 9066) → gl2_10 = gl) ∧ (((v3.toInt = 0 ∨ v3.toInt = 1) ∧ mz.toInt < 9066) → ∀ j : Nat, gl2_10 j = if j = mz.toInt.toNat then bi (bt v3 0) else gl j) := hw10
  clear hP hD hS
  have hP : va_P D classes [(aS, .inr (4, [.ref aC, .ref aG, .int wa])), (aC, .inr (3, [.long la])), (aG, .inl (cI, 8, .inl fg)), (aR, .inr (2, [.ref aB, .ref aQ, .int hd, .long pl, .int hv, .int lk, .int dn, .int ht, .int sl, .int br, .int wh])), (aB, .inr (3, [.long lb])), (aQ, .inr (0, [.ref aT, .ref aP, .int gc])), (aT, .inl (cI, 300, .inl ft)), (aP, .inl (cJ, 300, .inr (.inl fp))), (bG, .inl (cI, 8, .inl gg)), (bY, .inl (cI, 116, .inl gy)), (bB, .inl (cI, 66, .inl gb)), (bC, .inl (cI, 66, .inl go)), (bT, .inl (cI, 2400, .inl gt)), (aX, .inr (5, [.ref aL, .ref aS, .ref aR])), (aL, .inr (1, [.ref aW, .int fi, .int cn2_6])), (aW, .inl (cJ, 142, .inr (.inl fw2_6))), (aM, .inr (6, [.int th2_10, .int mw, .ref bG, .int mz2_10, .ref bL, .ref bY, .ref bB, .ref bC, .int tk, .int ss, .int ml, .int mh, .int mp, .int rw, .int wr, .int tc, .ref bT])), (bL, .inl (cB, 9200, .inl gl2_10))] H := hP1
  have hD : va_D A [(aS, .inr (4, [.ref aC, .ref aG, .int wa])), (aC, .inr (3, [.long la])), (aG, .inl (cI, 8, .inl fg)), (aR, .inr (2, [.ref aB, .ref aQ, .int hd, .long pl, .int hv, .int lk, .int dn, .int ht, .int sl, .int br, .int wh])), (aB, .inr (3, [.long lb])), (aQ, .inr (0, [.ref aT, .ref aP, .int gc])), (aT, .inl (cI, 300, .inl ft)), (aP, .inl (cJ, 300, .inr (.inl fp))), (bG, .inl (cI, 8, .inl gg)), (bY, .inl (cI, 116, .inl gy)), (bB, .inl (cI, 66, .inl gb)), (bC, .inl (cI, 66, .inl go)), (bT, .inl (cI, 2400, .inl gt)), (aX, .inr (5, [.ref aL, .ref aS, .ref aR])), (aL, .inr (1, [.ref aW, .int fi, .int cn2_6])), (aW, .inl (cJ, 142, .inr (.inl fw2_6))), (aM, .inr (6, [.int th2_10, .int mw, .ref bG, .int mz2_10, .ref bL, .ref bY, .ref bB, .ref bC, .int tk, .int ss, .int ml, .int mh, .int mp, .int rw, .int wr, .int tc, .ref bT])), (bL, .inl (cB, 9200, .inl gl2_10))] := hD1
  have hS := hS1
  clear hP1 hD1 hS1
  have hk := eq_add hE.1 hR.2 hw6.1 hw10.1
  have hC2 := cp_add hE hR hC hw6 hw10
  clear hw6 hw10 hC hV hY hLn
  have hC := hC2
  refine lv_pop hx hb dL_law_312 rfl ?_
  refine lv_goto (tgt := 395) hx hb dL_law_313 (by decide) ?_
  exact kk _ _ _ ⟨fi, cn2_6, fw2_6, wa, la, fg, hd, pl, hv, lk, dn, ht, sl, br, wh, lb, gc, ft, fp, th2_10, mw, mz2_10, tk, ss, ml, mh, mp, rw, wr, tc, gg, gl2_10, gy, gb, go, gt, ⟨by omega, by omega, by omega, by omega, by omega, hC, rcS_up hM (by omega)⟩, hP.sub [13, 14, 15, 0, 1, 2, 3, 4, 5, 6, 7, 16, 8, 17, 9, 10, 11, 12] rfl, hD.sub [13, 14, 15, 0, 1, 2, 3, 4, 5, 6, 7, 16, 8, 17, 9, 10, 11, 12] (by decide) rfl, hS⟩ (lv_sub hl [0, 1, 2, 3] rfl)
