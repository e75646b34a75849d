set_option maxHeartbeats 8000000 in
set_option maxRecDepth 100000 in
theorem law_loop {p : Program} {l : Launch} {e : Env} {s : State} {m : MethodId} {args : Array Value} {below : List Frame} {meth : Method} {c : Code} {A : Nat → Prop} {Q : State → Prop} {D : va_G} {cI cJ cB : ClassId} {b L : Nat} {xs : Nat → Int32} (hL : L ≤ 2048)
    (hx : p.tables.exec = Jvm.exec) (hb : c.code = cL_law) (hml : c.maxLocals = 4) (hown : s.vm.findClass RL = some m.cls) (hts : ∀ w ∈ lw_good, w.before args s = true) (hK : va_K D classes (tys3 cI cJ cB) s) (hA : ∀ q : Nat, s.heap.size ≤ q → A q) (hZ : st_T A s s.heap) (hN : nw_T s) (hX : va_X b L xs s s.heap) (hbl : b < s.heap.size) (hbA : ¬ A b)
    {aX aL aW aS aC aG aR aB aQ aT aP aM bG bL bY bB bC bT : Nat} (hret : ∀ (v : Int32) (H : Heap) (locs : List Loc) (pc : Nat) (ls : Array Slot), decode cL_law pc = .ok (.ireturn, 1) → v.toInt = 1 → va_S A s.heap H locs → W p l e room_1 s m args below meth c H locs 18 12648 Q (F0 m pc ls [.int v])) :
    ∀ (n : Nat) (i : Int32) (H : Heap) (locs : List Loc) (ls : Array Slot), (6144 - i.toInt).toNat < n → (0 ≤ i.toInt ∧ i.toInt ≤ 2051) → LI A s D cI cJ cB aX aL aW aS aC aG aR aB aQ aT aP aM bG bL bY bB bC bT i.toInt H locs → lv_has ls 4 [(3, .int i), (2, .ref aM), (1, .ref aX), (0, .ref b)] → W p l e room_1 s m args below meth c H locs 18 12648 Q (F0 m 18 ls []) := by
  intro n
  induction n with
  | zero => intro i H locs ls hmu; exact absurd hmu (Nat.not_lt_zero _)
  | succ n ih =>
    intro i H locs ls hmu hi hI0 hl
    have hS : va_S A s.heap H locs := by
      obtain ⟨fi, cn, fw, wa, la, fg, hd, pl, hv, lk, dn, ht, sl, br, wh, lb, gc, ft, fp, th, mw, mz, tk, ss, ml, mh, mp, rw, wr, tc, gg, gl, gy, gb, go, gt, hI, hP, hD, hS⟩ := hI0
      exact hS
    have K395 : i.toInt + 4 ≤ (L : Int) → ∀ (H : Heap) (locs : List Loc) (ls : Array Slot), LI A s D cI cJ cB aX aL aW aS aC aG aR aB aQ aT aP aM bG bL bY bB bC bT (i.toInt + 4) H locs → lv_has ls 4 [(3, .int i), (2, .ref aM), (1, .ref aX), (0, .ref b)] → W p l e room_1 s m args below meth c H locs 18 12648 Q (F0 m 395 ls []) := by
      intro hlt H locs ls hI hl
      obtain ⟨v, ev⟩ : ∃ y : Int32, y = i + 4 := ⟨_, rfl⟩
      have zv := zi_inc (z := 4) 4 (by decide) ev (by omega)
      refine lv_iinc (v := v) (lv' := [(3, .int v), (2, .ref aM), (1, .ref aX), (0, .ref b)]) hx hb dL_law_395 hl (k := 0) rfl (by rw [ev]; rfl) (by decide) rfl (fun ls hl => ?_)
      refine lv_goto (tgt := 18) hx hb dL_law_398 (by decide) ?_
      exact ih v _ _ _ (by omega) (by omega) (by rw [zv]; exact hI) hl
    refine lv_iload_n hx hb dL_law_18 rfl (lv_at hl 0 rfl) ?_
    refine lv_aload_n hx hb dL_law_19 rfl (lv_at hl 3 rfl) ?_
    refine va_slen hx hb hX hbl hbA hS dL_law_20 ?_
    refine lv_topi (fun v1 e1 => ?_)
    have z1 := zi_len e1 (by omega)
    refine lv_iconst (v := 4) hx hb dL_law_21 (by decide) ?_
    refine lv_topi (fun v2 e2 => ?_)
    have z2 : v2.toInt = 4 := zi_c e2 (by decide)
    refine lv_isub hx hb dL_law_22 ?_
    refine lv_topi (fun v3 e3 => ?_)
    first | have z3 := zi_sub e3 (by omega) | skip
    refine lv_icmp_gt (tgt := 401) hx hb dL_law_23 (by decide) (fun c4 => ?_) (fun c4 => ?_)
    ·
      have z4 := zi_lt c4
      refine lv_iconst (v := 1) hx hb dL_law_401 (by decide) ?_
      refine lv_topi (fun v5 e5 => ?_)
      have z5 : v5.toInt = 1 := zi_c e5 (by decide)
      exact hret v5 _ _ _ _ dL_law_402 (by omega) hS
    ·
      have z4 := zi_nlt c4
      refine lv_aload_n hx hb dL_law_26 rfl (lv_at hl 3 rfl) ?_
      refine lv_iload_n hx hb dL_law_27 rfl (lv_at hl 0 rfl) ?_
      refine va_sld hx hb hX hbl hbA hS (zi_in (by omega)) dL_law_28 ?_
      refine lv_topi (fun v6 e6 => ?_)
      refine lv_bipush (v := 15) hx hb dL_law_29 (by decide) ?_
      refine lv_topi (fun v7 e7 => ?_)
      have z7 : v7.toInt = 15 := zi_c e7 (by decide)
      refine lv_iand hx hb dL_law_31 ?_
      refine lv_topi (fun v8 e8 => ?_)
      have z8 := zi_and e8 e7 4 (z := 16) (by decide) (by decide) (by decide)
      have hs9 : (v8.toInt < 0 ∨ 10 < v8.toInt) ∨ v8.toInt = 0 ∨ v8.toInt = 1 ∨ v8.toInt = 2 ∨ v8.toInt = 3 ∨ v8.toInt = 4 ∨ v8.toInt = 5 ∨ v8.toInt = 6 ∨ v8.toInt = 7 ∨ v8.toInt = 8 ∨ v8.toInt = 9 ∨ v8.toInt = 10 := by omega
      rcases hs9 with z9 | z9 | z9 | z9 | z9 | z9 | z9 | z9 | z9 | z9 | z9 | z9
      ·
        refine lv_tableOut (tgt := 395) hx hb dL_law_32 z9 (by decide) ?_
        obtain ⟨fi, cn, fw, wa, la, fg, hd, pl, hv, lk, dn, ht, sl, br, wh, lb, gc, ft, fp, th, mw, mz, tk, ss, ml, mh, mp, rw, wr, tc, gg, gl, gy, gb, go, gt, hI, hP, hD, hS⟩ := hI0
        obtain ⟨hE, hR, hF, hB, hT, hC, hM⟩ := hI
        have hV := hC.2.1
        have hY := hC.2.2.1
        have hLn : ∀ j : Nat, (j : Int) < mz.toInt → gl j = bi (bt (gl j) 0) := fun j hj => hC.2.2.2 j (by omega)
        exact K395 (by omega) _ _ _ ⟨fi, cn, fw, wa, la, fg, hd, pl, hv, lk, dn, ht, sl, br, wh, lb, gc, ft, fp, th, mw, mz, tk, ss, ml, mh, mp, rw, wr, tc, gg, gl, gy, gb, go, gt, ⟨by omega, by omega, by omega, by omega, by omega, hC, rcS_up hM (by omega)⟩, hP, hD, hS⟩ hl
      ·
        refine lv_tableIn (tgt := 92) hx hb dL_law_32 (by omega) (by omega) (by rw [z9]; rfl) (by decide) ?_
        exact law_c0 hL hx hb hml hown hts hK hA hZ hN hX hbl hbA (by omega) hI0 hl (K395 (by omega))
      ·
        refine lv_tableIn (tgt := 115) hx hb dL_law_32 (by omega) (by omega) (by rw [z9]; rfl) (by decide) ?_
        exact law_c1 hL hx hb hml hown hts hK hA hZ hN hX hbl hbA (by omega) hI0 hl (K395 (by omega))
      ·
        refine lv_tableIn (tgt := 148) hx hb dL_law_32 (by omega) (by omega) (by rw [z9]; rfl) (by decide) ?_
        exact law_c2 hL hx hb hml hown hts hK hA hZ hN hX hbl hbA (by omega) hI0 hl (K395 (by omega))
      ·
        refine lv_tableIn (tgt := 171) hx hb dL_law_32 (by omega) (by omega) (by rw [z9]; rfl) (by decide) ?_
        exact law_c3 hL hx hb hml hown hts hK hA hZ hN hX hbl hbA (by omega) hI0 hl (K395 (by omega))
      ·
        refine lv_tableIn (tgt := 234) hx hb dL_law_32 (by omega) (by omega) (by rw [z9]; rfl) (by decide) ?_
        exact law_c4 hL hx hb hml hown hts hK hA hZ hN hX hbl hbA (by omega) hI0 hl (K395 (by omega))
      ·
        refine lv_tableIn (tgt := 247) hx hb dL_law_32 (by omega) (by omega) (by rw [z9]; rfl) (by decide) ?_
        exact law_c5 hL hx hb hml hown hts hK hA hZ hN hX hbl hbA (by omega) hI0 hl (K395 (by omega))
      ·
        refine lv_tableIn (tgt := 270) hx hb dL_law_32 (by omega) (by omega) (by rw [z9]; rfl) (by decide) ?_
        exact law_c6 hL hx hb hml hown hts hK hA hZ hN hX hbl hbA (by omega) hI0 hl (K395 (by omega))
      ·
        refine lv_tableIn (tgt := 293) hx hb dL_law_32 (by omega) (by omega) (by rw [z9]; rfl) (by decide) ?_
        exact law_c7 hL hx hb hml hown hts hK hA hZ hN hX hbl hbA (by omega) hI0 hl (K395 (by omega))
      ·
        refine lv_tableIn (tgt := 316) hx hb dL_law_32 (by omega) (by omega) (by rw [z9]; rfl) (by decide) ?_
        exact law_c8 hL hx hb hml hown hts hK hA hZ hN hX hbl hbA (by omega) hI0 hl (K395 (by omega))
      ·
        refine lv_tableIn (tgt := 339) hx hb dL_law_32 (by omega) (by omega) (by rw [z9]; rfl) (by decide) ?_
        exact law_c9 hL hx hb hml hown hts hK hA hZ hN hX hbl hbA (by omega) hI0 hl (K395 (by omega))
      ·
        refine lv_tableIn (tgt := 372) hx hb dL_law_32 (by omega) (by omega) (by rw [z9]; rfl) (by decide) ?_
        exact law_c10 hL hx hb hml hown hts hK hA hZ hN hX hbl hbA (by omega) hI0 hl (K395 (by omega))
set_option maxHeartbeats 8000000 in
set_option maxRecDepth 100000 in
theorem law_core {p : Program} {l : Launch} {e : Env} {s : State} {m : MethodId} {args : Array Value} {below : List Frame} {meth : Method} {c : Code} {A : Nat → Prop} {Q : State → Prop} {D : va_G} {cI cJ cB : ClassId} {b L : Nat} {xs : Nat → Int32} (hL : L ≤ 2048)
    (hx : p.tables.exec = Jvm.exec) (hb : c.code = cL_law) (hml : c.maxLocals = 4) (hown : s.vm.findClass RL = some m.cls) (hts : ∀ w ∈ lw_good, w.before args s = true) (hK : va_K D classes (tys3 cI cJ cB) s) (hA : ∀ q : Nat, s.heap.size ≤ q → A q) (hZ : st_T A s s.heap) (hN : nw_T s) (hX : va_X b L xs s s.heap) (hbl : b < s.heap.size) (hbA : ¬ A b) {ls : Array Slot} (hl : lv_has ls 4 [(0, .ref b)])
    (hret : ∀ (v : Int32) (H : Heap) (locs : List Loc) (pc : Nat) (ls : Array Slot), decode cL_law pc = .ok (.ireturn, 1) → v.toInt = 1 → va_S A s.heap H locs → W p l e room_1 s m args below meth c H locs 18 12648 Q (F0 m pc ls [.int v])) :
    W p l e room_1 s m args below meth c s.heap [] 0 0 Q (F0 m 0 ls []) := by
  have hP : va_P D classes [] s.heap := fun k q h => by simp at h
  have hD : va_D A [] := ⟨fun i j p q h => by simp at h, fun k q h => by simp at h⟩
  have hS : va_S A s.heap s.heap [] := va_S.rf
  have zz0 := zi_0
  refine va_new (ci := 5) (fs := [.null, .null, .null]) (C := RX6) (T := TX6) (N := 3) hx hb hts in_X6 tyX6 tyX6_ok hown (hts _ wk0) (hts _ wk1) (hts _ wk2) hK hP hD hS hA rfl (fun j hj => by rcases (show j = 0 ∨ j = 1 ∨ j = 2 by omega) with rfl | rfl | rfl <;> rfl) (Nat.le_of_ble_eq_true rfl) (Nat.le_of_ble_eq_true rfl) dL_law_0 (fun q1 H hP1 hD1 hS1 => ?_)
  clear hP hD hS
  have hP : va_P D classes [(q1, .inr (5, [.null, .null, .null]))] H := hP1
  have hD : va_D A [(q1, .inr (5, [.null, .null, .null]))] := hD1
  have hS := hS1
  clear hP1 hD1 hS1
  refine W.widen (k := 1) (n := 3) (Nat.le_refl _) (Nat.le_refl _) ?_
  refine lv_dup hx hb dL_law_3 rfl ?_
  refine call_v (wc := [(q1, .inr (5, [.null, .null, .null]))]) (wr := []) (run_I (As := []) (rest := [.ref q1]) ki_RL_9 ⟨by decide, by decide⟩ ⟨rfl, rfl⟩ ⟨hx, hb, hml, hown, hts⟩ (c_LB_init l D cI cJ cB q1  _) ct_blind (ct_pre (wc := [(q1, .inr (5, [.null, .null, .null]))]) hK hP hD hS hA hZ hN [0] (by decide) rfl rfl) rfl hl.1 rfl (Nat.le_of_ble_eq_true rfl) dL_law_4 ⟨Nat.le_of_ble_eq_true rfl, Nat.le_of_ble_eq_true rfl⟩) hP hD hS hA [0] [] rfl rfl (by decide) (by decide) (fun u H locs hw2 hP1 hD1 hS1 => ?_)
  obtain ⟨aL_2, aW_2, aS_2, aC_2, aG_2, aR_2, aB_2, aQ_2, aT_2, aP_2⟩ := u
  clear hw2
  clear hP hD hS
  have hP : va_P D classes [(q1, .inr (5, [.ref aL_2, .ref aS_2, .ref aR_2])), (aL_2, .inr (1, [.ref aW_2, .int 0, .int 0])), (aW_2, .inl (cJ, 142, .inr (.inl (fun _ => 0)))), (aS_2, .inr (4, [.ref aC_2, .ref aG_2, .int 0])), (aC_2, .inr (3, [.long 0])), (aG_2, .inl (cI, 8, .inl (fun _ => 0))), (aR_2, .inr (2, [.ref aB_2, .ref aQ_2, .int 0, .long 0, .int 0, .int 0, .int 0, .int 0, .int 0, .int 0, .int 0])), (aB_2, .inr (3, [.long 0])), (aQ_2, .inr (0, [.ref aT_2, .ref aP_2, .int 0])), (aT_2, .inl (cI, 300, .inl (fun _ => 0))), (aP_2, .inl (cJ, 300, .inr (.inl (fun _ => 0))))] H := hP1
  have hD : va_D A [(q1, .inr (5, [.ref aL_2, .ref aS_2, .ref aR_2])), (aL_2, .inr (1, [.ref aW_2, .int 0, .int 0])), (aW_2, .inl (cJ, 142, .inr (.inl (fun _ => 0)))), (aS_2, .inr (4, [.ref aC_2, .ref aG_2, .int 0])), (aC_2, .inr (3, [.long 0])), (aG_2, .inl (cI, 8, .inl (fun _ => 0))), (aR_2, .inr (2, [.ref aB_2, .ref aQ_2, .int 0, .long 0, .int 0, .int 0, .int 0, .int 0, .int 0, .int 0, .int 0])), (aB_2, .inr (3, [.long 0])), (aQ_2, .inr (0, [.ref aT_2, .ref aP_2, .int 0])), (aT_2, .inl (cI, 300, .inl (fun _ => 0))), (aP_2, .inl (cJ, 300, .inr (.inl (fun _ => 0))))] := hD1
  have hS := hS1
  clear hP1 hD1 hS1
  refine W.widen (k := 11) (n := 775) (Nat.le_refl _) (Nat.le_refl _) ?_
  refine lv_astore_n (lv' := [(1, .ref q1), (0, .ref b)]) hx hb dL_law_7 rfl hl (by decide) rfl (fun ls hl => ?_)
  refine va_new (ci := 6) (fs := [.int 0, .int 0, .null, .int 0, .null, .null, .null, .null, .int 0, .int 0, .int 0, .int 0, .int 0, .int 0, .int 0, .int 0, .null]) (C := RX7) (T := TX7) (N := 17) hx hb hts in_X7 tyX7 tyX7_ok hown (hts _ wk3) (hts _ wk4) (hts _ wk5) hK hP hD hS hA rfl (fun j hj => by rcases (show j = 0 ∨ j = 1 ∨ j = 2 ∨ j = 3 ∨ j = 4 ∨ j = 5 ∨ j = 6 ∨ j = 7 ∨ j = 8 ∨ j = 9 ∨ j = 10 ∨ j = 11 ∨ j = 12 ∨ j = 13 ∨ j = 14 ∨ j = 15 ∨ j = 16 by omega) with rfl | rfl | rfl | rfl | rfl | rfl | rfl | rfl | rfl | rfl | rfl | rfl | rfl | rfl | rfl | rfl | rfl <;> rfl) (Nat.le_of_ble_eq_true rfl) (Nat.le_of_ble_eq_true rfl) dL_law_8 (fun q3 H hP1 hD1 hS1 => ?_)
  clear hP hD hS
  have hP : va_P D classes [(q1, .inr (5, [.ref aL_2, .ref aS_2, .ref aR_2])), (aL_2, .inr (1, [.ref aW_2, .int 0, .int 0])), (aW_2, .inl (cJ, 142, .inr (.inl (fun _ => 0)))), (aS_2, .inr (4, [.ref aC_2, .ref aG_2, .int 0])), (aC_2, .inr (3, [.long 0])), (aG_2, .inl (cI, 8, .inl (fun _ => 0))), (aR_2, .inr (2, [.ref aB_2, .ref aQ_2, .int 0, .long 0, .int 0, .int 0, .int 0, .int 0, .int 0, .int 0, .int 0])), (aB_2, .inr (3, [.long 0])), (aQ_2, .inr (0, [.ref aT_2, .ref aP_2, .int 0])), (aT_2, .inl (cI, 300, .inl (fun _ => 0))), (aP_2, .inl (cJ, 300, .inr (.inl (fun _ => 0)))), (q3, .inr (6, [.int 0, .int 0, .null, .int 0, .null, .null, .null, .null, .int 0, .int 0, .int 0, .int 0, .int 0, .int 0, .int 0, .int 0, .null]))] H := hP1
  have hD : va_D A [(q1, .inr (5, [.ref aL_2, .ref aS_2, .ref aR_2])), (aL_2, .inr (1, [.ref aW_2, .int 0, .int 0])), (aW_2, .inl (cJ, 142, .inr (.inl (fun _ => 0)))), (aS_2, .inr (4, [.ref aC_2, .ref aG_2, .int 0])), (aC_2, .inr (3, [.long 0])), (aG_2, .inl (cI, 8, .inl (fun _ => 0))), (aR_2, .inr (2, [.ref aB_2, .ref aQ_2, .int 0, .long 0, .int 0, .int 0, .int 0, .int 0, .int 0, .int 0, .int 0])), (aB_2, .inr (3, [.long 0])), (aQ_2, .inr (0, [.ref aT_2, .ref aP_2, .int 0])), (aT_2, .inl (cI, 300, .inl (fun _ => 0))), (aP_2, .inl (cJ, 300, .inr (.inl (fun _ => 0)))), (q3, .inr (6, [.int 0, .int 0, .null, .int 0, .null, .null, .null, .null, .int 0, .int 0, .int 0, .int 0, .int 0, .int 0, .int 0, .int 0, .null]))] := hD1
  have hS := hS1
  clear hP1 hD1 hS1
  refine W.widen (k := 12) (n := 792) (Nat.le_refl _) (Nat.le_refl _) ?_
  refine lv_dup hx hb dL_law_11 rfl ?_
  refine call_v (wc := [(q3, .inr (6, [.int 0, .int 0, .null, .int 0, .null, .null, .null, .null, .int 0, .int 0, .int 0, .int 0, .int 0, .int 0, .int 0, .int 0, .null]))]) (wr := [(q1, .inr (5, [.ref aL_2, .ref aS_2, .ref aR_2])), (aL_2, .inr (1, [.ref aW_2, .int 0, .int 0])), (aW_2, .inl (cJ, 142, .inr (.inl (fun _ => 0)))), (aS_2, .inr (4, [.ref aC_2, .ref aG_2, .int 0])), (aC_2, .inr (3, [.long 0])), (aG_2, .inl (cI, 8, .inl (fun _ => 0))), (aR_2, .inr (2, [.ref aB_2, .ref aQ_2, .int 0, .long 0, .int 0, .int 0, .int 0, .int 0, .int 0, .int 0, .int 0])), (aB_2, .inr (3, [.long 0])), (aQ_2, .inr (0, [.ref aT_2, .ref aP_2, .int 0])), (aT_2, .inl (cI, 300, .inl (fun _ => 0))), (aP_2, .inl (cJ, 300, .inr (.inl (fun _ => 0))))]) (run_I (As := []) (rest := [.ref q3]) ki_RL_12 ⟨by decide, by decide⟩ ⟨rfl, rfl⟩ ⟨hx, hb, hml, hown, hts⟩ (c_Mo_init l D cI cJ cB q3  _) ct_blind (ct_pre (wc := [(q3, .inr (6, [.int 0, .int 0, .null, .int 0, .null, .null, .null, .null, .int 0, .int 0, .int 0, .int 0, .int 0, .int 0, .int 0, .int 0, .null]))]) hK hP hD hS hA hZ hN [11] (by decide) rfl rfl) rfl hl.1 rfl (Nat.le_of_ble_eq_true rfl) dL_law_12 ⟨Nat.le_of_ble_eq_true rfl, Nat.le_of_ble_eq_true rfl⟩) hP hD hS hA [11] [0, 1, 2, 3, 4, 5, 6, 7, 8, 9, 10] rfl rfl (by decide) (by decide) (fun u H locs hw4 hP1 hD1 hS1 => ?_)
  obtain ⟨ms2_4, bG_4, bL_4, bY_4, bB_4, bC_4, bT_4⟩ := u
  have hw4 : ms2_4.toInt = 0 := hw4
  clear hP hD hS
  have hP : va_P D classes [(q1, .inr (5, [.ref aL_2, .ref aS_2, .ref aR_2])), (aL_2, .inr (1, [.ref aW_2, .int 0, .int 0])), (aW_2, .inl (cJ, 142, .inr (.inl (fun _ => 0)))), (aS_2, .inr (4, [.ref aC_2, .ref aG_2, .int 0])), (aC_2, .inr (3, [.long 0])), (aG_2, .inl (cI, 8, .inl (fun _ => 0))), (aR_2, .inr (2, [.ref aB_2, .ref aQ_2, .int 0, .long 0, .int 0, .int 0, .int 0, .int 0, .int 0, .int 0, .int 0])), (aB_2, .inr (3, [.long 0])), (aQ_2, .inr (0, [.ref aT_2, .ref aP_2, .int 0])), (aT_2, .inl (cI, 300, .inl (fun _ => 0))), (aP_2, .inl (cJ, 300, .inr (.inl (fun _ => 0)))), (q3, .inr (6, [.int 0, .int 0, .ref bG_4, .int ms2_4, .ref bL_4, .ref bY_4, .ref bB_4, .ref bC_4, .int 0, .int 0, .int 0, .int 0, .int 0, .int 0, .int 0, .int 0, .ref bT_4])), (bG_4, .inl (cI, 8, .inl (fun _ => 0))), (bL_4, .inl (cB, 9200, .inl (fun _ => 0))), (bY_4, .inl (cI, 116, .inl (fun _ => 0))), (bB_4, .inl (cI, 66, .inl (fun _ => 0))), (bC_4, .inl (cI, 66, .inl (fun _ => 0))), (bT_4, .inl (cI, 2400, .inl (fun _ => 0)))] H := hP1
  have hD : va_D A [(q1, .inr (5, [.ref aL_2, .ref aS_2, .ref aR_2])), (aL_2, .inr (1, [.ref aW_2, .int 0, .int 0])), (aW_2, .inl (cJ, 142, .inr (.inl (fun _ => 0)))), (aS_2, .inr (4, [.ref aC_2, .ref aG_2, .int 0])), (aC_2, .inr (3, [.long 0])), (aG_2, .inl (cI, 8, .inl (fun _ => 0))), (aR_2, .inr (2, [.ref aB_2, .ref aQ_2, .int 0, .long 0, .int 0, .int 0, .int 0, .int 0, .int 0, .int 0, .int 0])), (aB_2, .inr (3, [.long 0])), (aQ_2, .inr (0, [.ref aT_2, .ref aP_2, .int 0])), (aT_2, .inl (cI, 300, .inl (fun _ => 0))), (aP_2, .inl (cJ, 300, .inr (.inl (fun _ => 0)))), (q3, .inr (6, [.int 0, .int 0, .ref bG_4, .int ms2_4, .ref bL_4, .ref bY_4, .ref bB_4, .ref bC_4, .int 0, .int 0, .int 0, .int 0, .int 0, .int 0, .int 0, .int 0, .ref bT_4])), (bG_4, .inl (cI, 8, .inl (fun _ => 0))), (bL_4, .inl (cB, 9200, .inl (fun _ => 0))), (bY_4, .inl (cI, 116, .inl (fun _ => 0))), (bB_4, .inl (cI, 66, .inl (fun _ => 0))), (bC_4, .inl (cI, 66, .inl (fun _ => 0))), (bT_4, .inl (cI, 2400, .inl (fun _ => 0)))] := hD1
  have hS := hS1
  clear hP1 hD1 hS1
  refine W.widen (k := 18) (n := 12648) (Nat.le_refl _) (Nat.le_refl _) ?_
  refine lv_astore_n (lv' := [(2, .ref q3), (1, .ref q1), (0, .ref b)]) hx hb dL_law_15 rfl hl (by decide) rfl (fun ls hl => ?_)
  refine lv_iconst (v := 0) hx hb dL_law_16 (by decide) ?_
  refine lv_topi (fun v5 e5 => ?_)
  have z5 : v5.toInt = 0 := zi_c e5 (by decide)
  refine lv_istore_n (lv' := [(3, .int v5), (2, .ref q3), (1, .ref q1), (0, .ref b)]) hx hb dL_law_17 rfl hl (by decide) rfl (fun ls hl => ?_)
  exact law_loop hL hx hb hml hown hts hK hA hZ hN hX hbl hbA hret _ v5 _ _ _ (Nat.lt_succ_self _) (by omega) ⟨0, 0, fun _ => 0, 0, 0, fun _ => 0, 0, 0, 0, 0, 0, 0, 0, 0, 0, 0, 0, fun _ => 0, fun _ => 0, 0, 0, ms2_4, 0, 0, 0, 0, 0, 0, 0, 0, fun _ => 0, fun _ => 0, fun _ => 0, fun _ => 0, fun _ => 0, fun _ => 0, ⟨by omega, by omega, by omega, by omega, by omega, cp_init, rc_init (by omega)⟩, hP.sub [0, 1, 2, 3, 4, 5, 6, 7, 8, 9, 10, 11, 12, 13, 14, 15, 16, 17] rfl, hD.sub [0, 1, 2, 3, 4, 5, 6, 7, 8, 9, 10, 11, 12, 13, 14, 15, 16, 17] (by decide) rfl, hS⟩ (lv_sub hl [0, 1, 2, 3] rfl)
