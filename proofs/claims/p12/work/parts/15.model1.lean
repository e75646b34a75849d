set_option maxHeartbeats 4000000 in
set_option maxRecDepth 100000 in
theorem c_Mo_send (l : Launch) (D : va_G) (cI cJ cB : ClassId) (aM : Nat) (bG : Nat) (bL : Nat) (bY : Nat) (bB : Nat) (bC : Nat) (bT : Nat) (th : Int32) (mw : Int32) (mz : Int32) (tk : Int32) (ss : Int32) (ml : Int32) (mh : Int32) (mp : Int32) (rw : Int32) (wr : Int32) (tc : Int32) (gg : Nat → Int32) (gl : Nat → Int32) (gy : Nat → Int32) (gb : Nat → Int32) (h1 : 0 ≤ mz.toInt ∧ mz.toInt + 66 ≤ 9200) (h2 : ∀ j, j < 58 → gy j = bi (bt (gy j) 0)) (h3 : ∀ j : Nat, (j : Int) < mz.toInt → gl j = bi (bt (gl j) 0)) :
    ctv l yX7_send (wsOf yX7_send cX7_send 3 none) (rmL 3 69 0 0) D classes (tys3 cI cJ cB) [.ref aM] [(aM, .inr (6, [.int th, .int mw, .ref bG, .int mz, .ref bL, .ref bY, .ref bB, .ref bC, .int tk, .int ss, .int ml, .int mh, .int mp, .int rw, .int wr, .int tc, .ref bT])), (bG, .inl (cI, 8, .inl gg)), (bL, .inl (cB, 9200, .inl gl)), (bY, .inl (cI, 116, .inl gy)), (bB, .inl (cI, 66, .inl gb))] (fun u : Int32 × Int32 × (Nat → Int32) × (Nat → Int32) × (Nat → Int32) × (Nat → Int32) => (u.1.toInt = 0 ∧ u.2.1.toInt = mz.toInt + 66) ∧ (∀ j, j < 58 → u.2.2.2.2.1 j = bi (bt (u.2.2.2.2.1 j) 0)) ∧ (∀ j : Nat, (j : Int) < u.2.1.toInt → u.2.2.2.1 j = bi (bt (u.2.2.2.1 j) 0)) ∧ ∃ B, blkR gg B ∧ sndR B mz.toInt u.2.1.toInt (sgB gy) (sgB u.2.2.2.2.1) (mlB gl) (mlB u.2.2.2.1)) (fun u : Int32 × Int32 × (Nat → Int32) × (Nat → Int32) × (Nat → Int32) × (Nat → Int32) => ([(aM, .inr (6, [.int th, .int u.1, .ref bG, .int u.2.1, .ref bL, .ref bY, .ref bB, .ref bC, .int tk, .int ss, .int ml, .int mh, .int mp, .int rw, .int wr, .int tc, .ref bT])), (bG, .inl (cI, 8, .inl u.2.2.1)), (bL, .inl (cB, 9200, .inl u.2.2.2.1)), (bY, .inl (cI, 116, .inl u.2.2.2.2.1)), (bB, .inl (cI, 66, .inl u.2.2.2.2.2))] : va_W)) 0 0 := by
  refine ctv.of (by first | exact plainFor_of_name (by decide) | decide +kernel) (Nat.le_of_ble_eq_true rfl) (fun p e s m args below meth c A ls Q h hret => ?_)
  obtain ⟨hx, hb, hml, hown, hts, hnm, hP, hK, hD, hA, hS, hZ, hN, hl⟩ := h
  have hown : s.vm.findClass RX7 = some m.cls := hown
  have hl : lv_has ls 3 [(0, .ref aM)] := hl
  have hP : va_P D classes [(aM, .inr (6, [.int th, .int mw, .ref bG, .int mz, .ref bL, .ref bY, .ref bB, .ref bC, .int tk, .int ss, .int ml, .int mh, .int mp, .int rw, .int wr, .int tc, .ref bT])), (bG, .inl (cI, 8, .inl gg)), (bL, .inl (cB, 9200, .inl gl)), (bY, .inl (cI, 116, .inl gy)), (bB, .inl (cI, 66, .inl gb))] s.heap := hP
  have hD : va_D A [(aM, .inr (6, [.int th, .int mw, .ref bG, .int mz, .ref bL, .ref bY, .ref bB, .ref bC, .int tk, .int ss, .int ml, .int mh, .int mp, .int rw, .int wr, .int tc, .ref bT])), (bG, .inl (cI, 8, .inl gg)), (bL, .inl (cB, 9200, .inl gl)), (bY, .inl (cI, 116, .inl gy)), (bB, .inl (cI, 66, .inl gb))] := hD
  have rg_th := zi_rg th
  have rg_mw := zi_rg mw
  have rg_mz := zi_rg mz
  have rg_tk := zi_rg tk
  have rg_ss := zi_rg ss
  have rg_ml := zi_rg ml
  have rg_mh := zi_rg mh
  have rg_mp := zi_rg mp
  have rg_rw := zi_rg rw
  have rg_wr := zi_rg wr
  have rg_tc := zi_rg tc
  refine lv_aload_n hx hb dX7_send_0 rfl (lv_at hl 0 rfl) ?_
  refine call_v (wc := [(aM, .inr (6, [.int th, .int mw, .ref bG, .int mz, .ref bL, .ref bY, .ref bB, .ref bC, .int tk, .int ss, .int ml, .int mh, .int mp, .int rw, .int wr, .int tc, .ref bT])), (bG, .inl (cI, 8, .inl gg)), (bB, .inl (cI, 66, .inl gb))]) (wr := [(bL, .inl (cB, 9200, .inl gl)), (bY, .inl (cI, 116, .inl gy))]) (run_V (As := []) (rest := []) kv_RX7_63 ⟨by decide, by decide⟩ ⟨rfl, rfl⟩ ⟨hx, hb, hml, hown, hts⟩ (c_Mo_encode l D cI cJ cB aM bG bL bY bB bC bT th mw mz tk ss ml mh mp rw wr tc gg gb  _) ct_blind (ct_pre (wc := [(aM, .inr (6, [.int th, .int mw, .ref bG, .int mz, .ref bL, .ref bY, .ref bB, .ref bC, .int tk, .int ss, .int ml, .int mh, .int mp, .int rw, .int wr, .int tc, .ref bT])), (bG, .inl (cI, 8, .inl gg)), (bB, .inl (cI, 66, .inl gb))]) hK hP hD hS hA hZ hN [0, 1, 4] (by decide) rfl rfl) (va_recv hK hP (ci := 6) (q0 := 0) rfl rfl) rfl hl.1 rfl (Nat.le_of_ble_eq_true rfl) dX7_send_1 ⟨Nat.le_of_ble_eq_true rfl, Nat.le_of_ble_eq_true rfl⟩) hP hD hS hA [0, 1, 4] [2, 3] rfl rfl (by decide) (by decide) (fun u H locs hw1 hP1 hD1 hS1 => ?_)
  obtain ⟨gg2_1, gb2_1⟩ := u
  have hw1 : okE gg gb2_1 := hw1
  clear hP hD hS
  have hP : va_P D classes [(bL, .inl (cB, 9200, .inl gl)), (bY, .inl (cI, 116, .inl gy)), (aM, .inr (6, [.int th, .int mw, .ref bG, .int mz, .ref bL, .ref bY, .ref bB, .ref bC, .int tk, .int ss, .int ml, .int mh, .int mp, .int rw, .int wr, .int tc, .ref bT])), (bG, .inl (cI, 8, .inl gg2_1)), (bB, .inl (cI, 66, .inl gb2_1))] H := hP1
  have hD : va_D A [(bL, .inl (cB, 9200, .inl gl)), (bY, .inl (cI, 116, .inl gy)), (aM, .inr (6, [.int th, .int mw, .ref bG, .int mz, .ref bL, .ref bY, .ref bB, .ref bC, .int tk, .int ss, .int ml, .int mh, .int mp, .int rw, .int wr, .int tc, .ref bT])), (bG, .inl (cI, 8, .inl gg2_1)), (bB, .inl (cI, 66, .inl gb2_1))] := hD1
  have hS := hS1
  clear hP1 hD1 hS1
  refine lv_iconst (v := 0) hx hb dX7_send_4 (by decide) ?_
  refine lv_topi (fun v2 e2 => ?_)
  have z2 : v2.toInt = 0 := zi_c e2 (by decide)
  refine lv_istore_n (lv' := [(1, .int v2), (0, .ref aM)]) hx hb dX7_send_5 rfl hl (by decide) rfl (fun ls hl => ?_)
  have J6 : ∀ (n : Nat) (k : Int32) (mz3 : Int32) (gl3 : Nat → Int32) (gy3 : Nat → Int32) (H : Heap) (locs : List Loc) (ls : Array Slot), ((66 - k.toInt).toNat) < n → (0 ≤ k.toInt ∧ k.toInt ≤ 66) → (mz3.toInt = mz.toInt + k.toInt) → (sndM (fun q => bt (gb2_1 q) 0) (sgB gy) mz.toInt.toNat gl gl3 gy3 k.toInt.toNat) → va_P D classes [(bL, .inl (cB, 9200, .inl gl3)), (bY, .inl (cI, 116, .inl gy3)), (aM, .inr (6, [.int th, .int mw, .ref bG, .int mz3, .ref bL, .ref bY, .ref bB, .ref bC, .int tk, .int ss, .int ml, .int mh, .int mp, .int rw, .int wr, .int tc, .ref bT])), (bG, .inl (cI, 8, .inl gg2_1)), (bB, .inl (cI, 66, .inl gb2_1))] H → va_D A [(bL, .inl (cB, 9200, .inl gl3)), (bY, .inl (cI, 116, .inl gy3)), (aM, .inr (6, [.int th, .int mw, .ref bG, .int mz3, .ref bL, .ref bY, .ref bB, .ref bC, .int tk, .int ss, .int ml, .int mh, .int mp, .int rw, .int wr, .int tc, .ref bT])), (bG, .inl (cI, 8, .inl gg2_1)), (bB, .inl (cI, 66, .inl gb2_1))] → va_S A s.heap H locs → lv_has ls 3 [(0, .ref aM), (1, .int k)] → W p l e (rmL 3 69 0 0) s m args below meth c H locs 0 0 Q (F0 m 6 ls []) := by
    intro n
    induction n with
    | zero => intro k mz3 gl3 gy3 H locs ls hmu; exact absurd hmu (Nat.not_lt_zero _)
    | succ n ih6 =>
      intro k mz3 gl3 gy3 H locs ls hmu6 i6_0 i6_1 i6_2 hP hD hS hl
      have rg_k := zi_rg k
      have rg_mz3 := zi_rg mz3
      refine lv_iload_n hx hb dX7_send_6 rfl (lv_at hl 1 rfl) ?_
      refine lv_bipush (v := 66) hx hb dX7_send_7 (by decide) ?_
      refine lv_topi (fun v3 e3 => ?_)
      have z3 : v3.toInt = 66 := zi_c e3 (by decide)
      refine lv_icmp_ge (tgt := 76) hx hb dX7_send_9 (by decide) (fun c4 => ?_) (fun c4 => ?_)
      ·
        have z4 := zi_le c4
        refine lv_aload_n hx hb dX7_send_76 rfl (lv_at hl 0 rfl) ?_
        refine lv_iconst (v := 0) hx hb dX7_send_77 (by decide) ?_
        refine lv_topi (fun v5 e5 => ?_)
        have z5 : v5.toInt = 0 := zi_c e5 (by decide)
        refine va_put (D := D) (ci := 6) (v := .int v5) (ty := .int) (C := RX7) (T := TX7) (N := 17) hx hb hts in_X7 tyX7 tyX7_ok nmX7 hown hK hP hD hS 2 rfl rfl 1 (by decide) (hts _ wk164) (fun _ h9 => h9) rfl (by decide +kernel) rfl rfl (Nat.le_of_ble_eq_true rfl) dX7_send_78 (fun H locs hP1 hD1 hS1 => ?_)
        clear hP hD hS
        have hP : va_P D classes [(bL, .inl (cB, 9200, .inl gl3)), (bY, .inl (cI, 116, .inl gy3)), (aM, .inr (6, [.int th, .int v5, .ref bG, .int mz3, .ref bL, .ref bY, .ref bB, .ref bC, .int tk, .int ss, .int ml, .int mh, .int mp, .int rw, .int wr, .int tc, .ref bT])), (bG, .inl (cI, 8, .inl gg2_1)), (bB, .inl (cI, 66, .inl gb2_1))] H := hP1
        have hD : va_D A [(bL, .inl (cB, 9200, .inl gl3)), (bY, .inl (cI, 116, .inl gy3)), (aM, .inr (6, [.int th, .int v5, .ref bG, .int mz3, .ref bL, .ref bY, .ref bB, .ref bC, .int tk, .int ss, .int ml, .int mh, .int mp, .int rw, .int wr, .int tc, .ref bT])), (bG, .inl (cI, 8, .inl gg2_1)), (bB, .inl (cI, 66, .inl gb2_1))] := hD1
        have hS := hS1
        clear hP1 hD1 hS1
        have hq6 : (v5.toInt = 0 ∧ mz3.toInt = mz.toInt + 66) ∧ (∀ j, j < 58 → gy3 j = bi (bt (gy3 j) 0)) ∧ (∀ j : Nat, (j : Int) < mz3.toInt → gl3 j = bi (bt (gl3 j) 0)) ∧ ∃ B, blkR gg B ∧ sndR B mz.toInt mz3.toInt (sgB gy) (sgB gy3) (mlB gl) (mlB gl3) := (by obtain ⟨w1, w2, w3⟩ := sndM_e (m2 := mz3.toInt) i6_2 (by omega) (by omega) (by omega) h3; exact ⟨by omega, w1, w2, _, hw1.1, w3⟩)
        exact hret (v5, mz3, gg2_1, gl3, gy3, gb2_1) _ _ _ _ dX7_send_81 hq6 (hP.sub [2, 3, 0, 1, 4] rfl) (hD.sub [2, 3, 0, 1, 4] (by decide) rfl) hS
      ·
        have z4 := zi_nle c4
        refine lv_iload_n hx hb dX7_send_12 rfl (lv_at hl 1 rfl) ?_
        refine lv_iconst (v := 2) hx hb dX7_send_13 (by decide) ?_
        refine lv_topi (fun v7 e7 => ?_)
        have z7 : v7.toInt = 2 := zi_c e7 (by decide)
        refine lv_icmp_ge (tgt := 26) hx hb dX7_send_14 (by decide) (fun c8 => ?_) (fun c8 => ?_)
        ·
          have z8 := zi_le c8
          refine lv_aload_n hx hb dX7_send_26 rfl (lv_at hl 0 rfl) ?_
          refine lv_iconst (v := 0) hx hb dX7_send_27 (by decide) ?_
          refine lv_topi (fun v9 e9 => ?_)
          have z9 : v9.toInt = 0 := zi_c e9 (by decide)
          refine lv_aload_n hx hb dX7_send_28 rfl (lv_at hl 0 rfl) ?_
          refine va_get (D := D) (ci := 6) (v := .ref bB) (C := RX7) (T := TX7) (N := 17) hx hb hts in_X7 hown hK hP 2 rfl rfl 6 (by decide) (hts _ wk64) (fun _ h9 => h9) rfl dX7_send_29 ?_
          refine lv_iload_n hx hb dX7_send_32 rfl (lv_at hl 1 rfl) ?_
          refine va_iald hx hb hK hP 4 0 rfl rfl (zi_in (by omega)) dX7_send_33 ?_
          refine lv_topi (fun v10 e10 => ?_)
          have hh11 : 0 ≤ v9.toInt ∧ v9.toInt ≤ 1 := (by omega)
          refine call_i (wc := [(aM, .inr (6, [.int th, .int mw, .ref bG, .int mz3, .ref bL, .ref bY, .ref bB, .ref bC, .int tk, .int ss, .int ml, .int mh, .int mp, .int rw, .int wr, .int tc, .ref bT])), (bY, .inl (cI, 116, .inl gy3))]) (wr := [(bL, .inl (cB, 9200, .inl gl3)), (bG, .inl (cI, 8, .inl gg2_1)), (bB, .inl (cI, 66, .inl gb2_1))]) (run_V (As := [.int v9, .int v10]) (rest := []) kv_RX7_66 ⟨by decide, by decide⟩ ⟨rfl, rfl⟩ ⟨hx, hb, hml, hown, hts⟩ (c_Mo_mixed l D cI cJ cB aM bG bL bY bB bC bT th mw mz3 tk ss ml mh mp rw wr tc gy3 v9 v10 hh11 _) ct_blind (ct_pre (wc := [(aM, .inr (6, [.int th, .int mw, .ref bG, .int mz3, .ref bL, .ref bY, .ref bB, .ref bC, .int tk, .int ss, .int ml, .int mh, .int mp, .int rw, .int wr, .int tc, .ref bT])), (bY, .inl (cI, 116, .inl gy3))]) hK hP hD hS hA hZ hN [2, 1] (by decide) rfl rfl) (va_recv hK hP (ci := 6) (q0 := 2) rfl rfl) rfl hl.1 rfl (Nat.le_of_ble_eq_true rfl) dX7_send_34 ⟨Nat.le_of_ble_eq_true rfl, Nat.le_of_ble_eq_true rfl⟩) hP hD hS hA [2, 1] [0, 3, 4] rfl rfl (by decide) (by decide) (fun r12 u H locs hw12 hP1 hD1 hS1 => ?_)
          have hw12 : r12 = (v10 ^^^ gy3 (58 * v9.toInt + 38).toNat) ^^^ gy3 (58 * v9.toInt + 57).toNat := hw12
          clear hP hD hS
          have hP : va_P D classes [(bL, .inl (cB, 9200, .inl gl3)), (bG, .inl (cI, 8, .inl gg2_1)), (bB, .inl (cI, 66, .inl gb2_1)), (aM, .inr (6, [.int th, .int mw, .ref bG, .int mz3, .ref bL, .ref bY, .ref bB, .ref bC, .int tk, .int ss, .int ml, .int mh, .int mp, .int rw, .int wr, .int tc, .ref bT])), (bY, .inl (cI, 116, .inl gy3))] H := hP1
          have hD : va_D A [(bL, .inl (cB, 9200, .inl gl3)), (bG, .inl (cI, 8, .inl gg2_1)), (bB, .inl (cI, 66, .inl gb2_1)), (aM, .inr (6, [.int th, .int mw, .ref bG, .int mz3, .ref bL, .ref bY, .ref bB, .ref bC, .int tk, .int ss, .int ml, .int mh, .int mp, .int rw, .int wr, .int tc, .ref bT])), (bY, .inl (cI, 116, .inl gy3))] := hD1
          have hS := hS1
          clear hP1 hD1 hS1
          have rg_r12 := zi_rg r12
          refine lv_istore_n (lv' := [(2, .int r12), (0, .ref aM), (1, .int k)]) hx hb dX7_send_37 rfl hl (by decide) rfl (fun ls hl => ?_)
          refine lv_iload_n hx hb dX7_send_38 rfl (lv_at hl 2 rfl) ?_
          refine lv_iconst (v := 1) hx hb dX7_send_39 (by decide) ?_
          refine lv_topi (fun v13 e13 => ?_)
          have z13 : v13.toInt = 1 := zi_c e13 (by decide)
          refine lv_icmp_le (tgt := 49) hx hb dX7_send_40 (by decide) (fun c14 => ?_) (fun c14 => ?_)
          ·
            have z14 := zi_le c14
            refine lv_aload_n hx hb dX7_send_49 rfl (lv_at hl 1 rfl) ?_
            refine va_get (D := D) (ci := 6) (v := .ref bL) (C := RX7) (T := TX7) (N := 17) hx hb hts in_X7 hown hK hP 3 rfl rfl 4 (by decide) (hts _ wk62) (fun _ h9 => h9) rfl dX7_send_50 ?_
            refine lv_aload_n hx hb dX7_send_53 rfl (lv_at hl 1 rfl) ?_
            refine va_get (D := D) (ci := 6) (v := .int mz3) (C := RX7) (T := TX7) (N := 17) hx hb hts in_X7 hown hK hP 3 rfl rfl 3 (by decide) (hts _ wk67) (fun _ h9 => h9) rfl dX7_send_54 ?_
            refine lv_iload_n hx hb dX7_send_57 rfl (lv_at hl 0 rfl) ?_
            refine lv_i2b hx hb dX7_send_58 rfl ?_
            refine lv_topi (fun v15 e15 => ?_)
            obtain ⟨f16, ef16⟩ : ∃ z9, z9 = upd gl3 mz3.toNatClampNeg (vp_nar .byte v15) := ⟨_, rfl⟩
            refine va_bast hx hb hK hP hD hS 0 2 rfl rfl (zi_in (by omega)) dX7_send_59 (fun H locs hP1 hD1 hS1 => ?_)
            rw [← ef16] at hP1 hD1
            clear hP hD hS
            have hP : va_P D classes [(bL, .inl (cB, 9200, .inl f16)), (bG, .inl (cI, 8, .inl gg2_1)), (bB, .inl (cI, 66, .inl gb2_1)), (aM, .inr (6, [.int th, .int mw, .ref bG, .int mz3, .ref bL, .ref bY, .ref bB, .ref bC, .int tk, .int ss, .int ml, .int mh, .int mp, .int rw, .int wr, .int tc, .ref bT])), (bY, .inl (cI, 116, .inl gy3))] H := hP1
            have hD : va_D A [(bL, .inl (cB, 9200, .inl f16)), (bG, .inl (cI, 8, .inl gg2_1)), (bB, .inl (cI, 66, .inl gb2_1)), (aM, .inr (6, [.int th, .int mw, .ref bG, .int mz3, .ref bL, .ref bY, .ref bB, .ref bC, .int tk, .int ss, .int ml, .int mh, .int mp, .int rw, .int wr, .int tc, .ref bT])), (bY, .inl (cI, 116, .inl gy3))] := hD1
            have hS := hS1
            clear hP1 hD1 hS1
            refine lv_aload_n hx hb dX7_send_60 rfl (lv_at hl 1 rfl) ?_
            refine lv_dup hx hb dX7_send_61 rfl ?_
            refine va_get (D := D) (ci := 6) (v := .int mz3) (C := RX7) (T := TX7) (N := 17) hx hb hts in_X7 hown hK hP 3 rfl rfl 3 (by decide) (hts _ wk67) (fun _ h9 => h9) rfl dX7_send_62 ?_
            refine lv_iconst (v := 1) hx hb dX7_send_65 (by decide) ?_
            refine lv_topi (fun v17 e17 => ?_)
            have z17 : v17.toInt = 1 := zi_c e17 (by decide)
            refine lv_iadd hx hb dX7_send_66 ?_
            refine lv_topi (fun v18 e18 => ?_)
            first | have z18 := zi_add e18 (by omega) | skip
            refine va_put (D := D) (ci := 6) (v := .int v18) (ty := .int) (C := RX7) (T := TX7) (N := 17) hx hb hts in_X7 tyX7 tyX7_ok nmX7 hown hK hP hD hS 3 rfl rfl 3 (by decide) (hts _ wk67) (fun _ h9 => h9) rfl (by decide +kernel) rfl rfl (Nat.le_of_ble_eq_true rfl) dX7_send_67 (fun H locs hP1 hD1 hS1 => ?_)
            clear hP hD hS
            have hP : va_P D classes [(bL, .inl (cB, 9200, .inl f16)), (bG, .inl (cI, 8, .inl gg2_1)), (bB, .inl (cI, 66, .inl gb2_1)), (aM, .inr (6, [.int th, .int mw, .ref bG, .int v18, .ref bL, .ref bY, .ref bB, .ref bC, .int tk, .int ss, .int ml, .int mh, .int mp, .int rw, .int wr, .int tc, .ref bT])), (bY, .inl (cI, 116, .inl gy3))] H := hP1
            have hD : va_D A [(bL, .inl (cB, 9200, .inl f16)), (bG, .inl (cI, 8, .inl gg2_1)), (bB, .inl (cI, 66, .inl gb2_1)), (aM, .inr (6, [.int th, .int mw, .ref bG, .int v18, .ref bL, .ref bY, .ref bB, .ref bC, .int tk, .int ss, .int ml, .int mh, .int mp, .int rw, .int wr, .int tc, .ref bT])), (bY, .inl (cI, 116, .inl gy3))] := hD1
            have hS := hS1
            clear hP1 hD1 hS1
            obtain ⟨v19, e19⟩ : ∃ y : Int32, y = k + 1 := ⟨_, rfl⟩
            first | have z19 := zi_inc (z := 1) 1 (by decide) e19 (by omega) | skip
            refine lv_iinc (v := v19) (lv' := [(1, .int v19), (2, .int r12), (0, .ref aM)]) hx hb dX7_send_70 hl (k := 2) rfl (by rw [e19]; rfl) (by decide) rfl (fun ls hl => ?_)
            refine lv_goto (tgt := 6) hx hb dX7_send_73 (by decide) ?_
            exact ih6 v19 v18 f16 gy3 _ _ _ (by omega) (by omega) (by omega) (by first | exact sndM_hi i6_2 (by omega) (show v10 = bi (bt (gb2_1 k.toInt.toNat) 0) from by rw [e10]; exact hw1.2 k.toInt.toNat (by omega)) (by rw [hw12, show (58 * v9.toInt + 38).toNat = 38 by omega, show (58 * v9.toInt + 57).toNat = 57 by omega]) (by rw [hw22 0, if_pos (by omega)]) (fun j a b => by rw [hw22 j, if_neg (by omega), if_pos (by omega)]) e23 ef24 (by show mz3.toInt.toNat = _; omega) (by omega) | exact sndM_lo i6_2 (by omega) (show v28 = bi (bt (gb2_1 k.toInt.toNat) 0) from by rw [e28]; exact hw1.2 k.toInt.toNat (by omega)) e31 ef32 (by show mz3.toInt.toNat = _; omega) (by omega) | (exfalso; omega)) (hP.sub [0, 4, 3, 1, 2] rfl) (hD.sub [0, 4, 3, 1, 2] (by decide) rfl) hS (lv_sub hl [2, 0] rfl)
          ·
            have z14 := zi_nle c14
            refine lv_aload_n hx hb dX7_send_43 rfl (lv_at hl 1 rfl) ?_
            refine lv_iconst (v := 0) hx hb dX7_send_44 (by decide) ?_
            refine lv_topi (fun v20 e20 => ?_)
            have z20 : v20.toInt = 0 := zi_c e20 (by decide)
            refine lv_iload_n hx hb dX7_send_45 rfl (lv_at hl 0 rfl) ?_
            have hh21 : 0 ≤ v20.toInt ∧ v20.toInt ≤ 1 := (by omega)
            refine call_v (wc := [(aM, .inr (6, [.int th, .int mw, .ref bG, .int mz3, .ref bL, .ref bY, .ref bB, .ref bC, .int tk, .int ss, .int ml, .int mh, .int mp, .int rw, .int wr, .int tc, .ref bT])), (bY, .inl (cI, 116, .inl gy3))]) (wr := [(bL, .inl (cB, 9200, .inl gl3)), (bG, .inl (cI, 8, .inl gg2_1)), (bB, .inl (cI, 66, .inl gb2_1))]) (run_V (As := [.int v20, .int r12]) (rest := []) kv_RX7_70 ⟨by decide, by decide⟩ ⟨rfl, rfl⟩ ⟨hx, hb, hml, hown, hts⟩ (c_Mo_remember l D cI cJ cB aM bG bL bY bB bC bT th mw mz3 tk ss ml mh mp rw wr tc gy3 v20 r12 hh21 _) ct_blind (ct_pre (wc := [(aM, .inr (6, [.int th, .int mw, .ref bG, .int mz3, .ref bL, .ref bY, .ref bB, .ref bC, .int tk, .int ss, .int ml, .int mh, .int mp, .int rw, .int wr, .int tc, .ref bT])), (bY, .inl (cI, 116, .inl gy3))]) hK hP hD hS hA hZ hN [3, 4] (by decide) rfl rfl) (va_recv hK hP (ci := 6) (q0 := 3) rfl rfl) rfl hl.1 rfl (Nat.le_of_ble_eq_true rfl) dX7_send_46 ⟨Nat.le_of_ble_eq_true rfl, Nat.le_of_ble_eq_true rfl⟩) hP hD hS hA [3, 4] [0, 1, 2] rfl rfl (by decide) (by decide) (fun u H locs hw22 hP1 hD1 hS1 => ?_)
            obtain ⟨gy2_22, hu9⟩ : ∃ z, z = u := ⟨_, rfl⟩
            subst hu9
            have hw22 : ∀ j : Nat, gy2_22 j = if (j : Int) = 58 * v20.toInt then r12 else if 58 * v20.toInt < j ∧ (j : Int) ≤ 58 * v20.toInt + 57 then gy3 (j - 1) else gy3 j := hw22
            clear hP hD hS
            have hP : va_P D classes [(bL, .inl (cB, 9200, .inl gl3)), (bG, .inl (cI, 8, .inl gg2_1)), (bB, .inl (cI, 66, .inl gb2_1)), (aM, .inr (6, [.int th, .int mw, .ref bG, .int mz3, .ref bL, .ref bY, .ref bB, .ref bC, .int tk, .int ss, .int ml, .int mh, .int mp, .int rw, .int wr, .int tc, .ref bT])), (bY, .inl (cI, 116, .inl gy2_22))] H := hP1
            have hD : va_D A [(bL, .inl (cB, 9200, .inl gl3)), (bG, .inl (cI, 8, .inl gg2_1)), (bB, .inl (cI, 66, .inl gb2_1)), (aM, .inr (6, [.int th, .int mw, .ref bG, .int mz3, .ref bL, .ref bY, .ref bB, .ref bC, .int tk, .int ss, .int ml, .int mh, .int mp, .int rw, .int wr, .int tc, .ref bT])), (bY, .inl (cI, 116, .inl gy2_22))] := hD1
            have hS := hS1
            clear hP1 hD1 hS1
            refine lv_aload_n hx hb dX7_send_49 rfl (lv_at hl 1 rfl) ?_
            refine va_get (D := D) (ci := 6) (v := .ref bL) (C := RX7) (T := TX7) (N := 17) hx hb hts in_X7 hown hK hP 3 rfl rfl 4 (by decide) (hts _ wk62) (fun _ h9 => h9) rfl dX7_send_50 ?_
            refine lv_aload_n hx hb dX7_send_53 rfl (lv_at hl 1 rfl) ?_
            refine va_get (D := D) (ci := 6) (v := .int mz3) (C := RX7) (T := TX7) (N := 17) hx hb hts in_X7 hown hK hP 3 rfl rfl 3 (by decide) (hts _ wk67) (fun _ h9 => h9) rfl dX7_send_54 ?_
            refine lv_iload_n hx hb dX7_send_57 rfl (lv_at hl 0 rfl) ?_
            refine lv_i2b hx hb dX7_send_58 rfl ?_
            refine lv_topi (fun v23 e23 => ?_)
            obtain ⟨f24, ef24⟩ : ∃ z9, z9 = upd gl3 mz3.toNatClampNeg (vp_nar .byte v23) := ⟨_, rfl⟩
            refine va_bast hx hb hK hP hD hS 0 2 rfl rfl (zi_in (by omega)) dX7_send_59 (fun H locs hP1 hD1 hS1 => ?_)
            rw [← ef24] at hP1 hD1
            clear hP hD hS
            have hP : va_P D classes [(bL, .inl (cB, 9200, .inl f24)), (bG, .inl (cI, 8, .inl gg2_1)), (bB, .inl (cI, 66, .inl gb2_1)), (aM, .inr (6, [.int th, .int mw, .ref bG, .int mz3, .ref bL, .ref bY, .ref bB, .ref bC, .int tk, .int ss, .int ml, .int mh, .int mp, .int rw, .int wr, .int tc, .ref bT])), (bY, .inl (cI, 116, .inl gy2_22))] H := hP1
            have hD : va_D A [(bL, .inl (cB, 9200, .inl f24)), (bG, .inl (cI, 8, .inl gg2_1)), (bB, .inl (cI, 66, .inl gb2_1)), (aM, .inr (6, [.int th, .int mw, .ref bG, .int mz3, .ref bL, .ref bY, .ref bB, .ref bC, .int tk, .int ss, .int ml, .int mh, .int mp, .int rw, .int wr, .int tc, .ref bT])), (bY, .inl (cI, 116, .inl gy2_22))] := hD1
            have hS := hS1
            clear hP1 hD1 hS1
            refine lv_aload_n hx hb dX7_send_60 rfl (lv_at hl 1 rfl) ?_
            refine lv_dup hx hb dX7_send_61 rfl ?_
            refine va_get (D := D) (ci := 6) (v := .int mz3) (C := RX7) (T := TX7) (N := 17) hx hb hts in_X7 hown hK hP 3 rfl rfl 3 (by decide) (hts _ wk67) (fun _ h9 => h9) rfl dX7_send_62 ?_
            refine lv_iconst (v := 1) hx hb dX7_send_65 (by decide) ?_
            refine lv_topi (fun v25 e25 => ?_)
            have z25 : v25.toInt = 1 := zi_c e25 (by decide)
            refine lv_iadd hx hb dX7_send_66 ?_
            refine lv_topi (fun v26 e26 => ?_)
            first | have z26 := zi_add e26 (by omega) | skip
            refine va_put (D := D) (ci := 6) (v := .int v26) (ty := .int) (C := RX7) (T := TX7) (N := 17) hx hb hts in_X7 tyX7 tyX7_ok nmX7 hown hK hP hD hS 3 rfl rfl 3 (by decide) (hts _ wk67) (fun _ h9 => h9) rfl (by decide +kernel) rfl rfl (Nat.le_of_ble_eq_true rfl) dX7_send_67 (fun H locs hP1 hD1 hS1 => ?_)
            clear hP hD hS
            have hP : va_P D classes [(bL, .inl (cB, 9200, .inl f24)), (bG, .inl (cI, 8, .inl gg2_1)), (bB, .inl (cI, 66, .inl gb2_1)), (aM, .inr (6, [.int th, .int mw, .ref bG, .int v26, .ref bL, .ref bY, .ref bB, .ref bC, .int tk, .int ss, .int ml, .int mh, .int mp, .int rw, .int wr, .int tc, .ref bT])), (bY, .inl (cI, 116, .inl gy2_22))] H := hP1
            have hD : va_D A [(bL, .inl (cB, 9200, .inl f24)), (bG, .inl (cI, 8, .inl gg2_1)), (bB, .inl (cI, 66, .inl gb2_1)), (aM, .inr (6, [.int th, .int mw, .ref bG, .int v26, .ref bL, .ref bY, .ref bB, .ref bC, .int tk, .int ss, .int ml, .int mh, .int mp, .int rw, .int wr, .int tc, .ref bT])), (bY, .inl (cI, 116, .inl gy2_22))] := hD1
            have hS := hS1
            clear hP1 hD1 hS1
            obtain ⟨v27, e27⟩ : ∃ y : Int32, y = k + 1 := ⟨_, rfl⟩
            first | have z27 := zi_inc (z := 1) 1 (by decide) e27 (by omega) | skip
            refine lv_iinc (v := v27) (lv' := [(1, .int v27), (2, .int r12), (0, .ref aM)]) hx hb dX7_send_70 hl (k := 2) rfl (by rw [e27]; rfl) (by decide) rfl (fun ls hl => ?_)
            refine lv_goto (tgt := 6) hx hb dX7_send_73 (by decide) ?_
            exact ih6 v27 v26 f24 gy2_22 _ _ _ (by omega) (by omega) (by omega) (by first | exact sndM_hi i6_2 (by omega) (show v10 = bi (bt (gb2_1 k.toInt.toNat) 0) from by rw [e10]; exact hw1.2 k.toInt.toNat (by omega)) (by rw [hw12, show (58 * v9.toInt + 38).toNat = 38 by omega, show (58 * v9.toInt + 57).toNat = 57 by omega]) (by rw [hw22 0, if_pos (by omega)]) (fun j a b => by rw [hw22 j, if_neg (by omega), if_pos (by omega)]) e23 ef24 (by show mz3.toInt.toNat = _; omega) (by omega) | exact sndM_lo i6_2 (by omega) (show v28 = bi (bt (gb2_1 k.toInt.toNat) 0) from by rw [e28]; exact hw1.2 k.toInt.toNat (by omega)) e31 ef32 (by show mz3.toInt.toNat = _; omega) (by omega) | (exfalso; omega)) (hP.sub [0, 4, 3, 1, 2] rfl) (hD.sub [0, 4, 3, 1, 2] (by decide) rfl) hS (lv_sub hl [2, 0] rfl)
        ·
          have z8 := zi_nle c8
          refine lv_aload_n hx hb dX7_send_17 rfl (lv_at hl 0 rfl) ?_
          refine va_get (D := D) (ci := 6) (v := .ref bB) (C := RX7) (T := TX7) (N := 17) hx hb hts in_X7 hown hK hP 2 rfl rfl 6 (by decide) (hts _ wk64) (fun _ h9 => h9) rfl dX7_send_18 ?_
          refine lv_iload_n hx hb dX7_send_21 rfl (lv_at hl 1 rfl) ?_
          refine va_iald hx hb hK hP 4 0 rfl rfl (zi_in (by omega)) dX7_send_22 ?_
          refine lv_topi (fun v28 e28 => ?_)
          refine lv_goto (tgt := 37) hx hb dX7_send_23 (by decide) ?_
          refine lv_istore_n (lv' := [(2, .int v28), (0, .ref aM), (1, .int k)]) hx hb dX7_send_37 rfl hl (by decide) rfl (fun ls hl => ?_)
          refine lv_iload_n hx hb dX7_send_38 rfl (lv_at hl 2 rfl) ?_
          refine lv_iconst (v := 1) hx hb dX7_send_39 (by decide) ?_
          refine lv_topi (fun v29 e29 => ?_)
          have z29 : v29.toInt = 1 := zi_c e29 (by decide)
          refine lv_icmp_le (tgt := 49) hx hb dX7_send_40 (by decide) (fun c30 => ?_) (fun c30 => ?_)
          ·
            have z30 := zi_le c30
            refine lv_aload_n hx hb dX7_send_49 rfl (lv_at hl 1 rfl) ?_
            refine va_get (D := D) (ci := 6) (v := .ref bL) (C := RX7) (T := TX7) (N := 17) hx hb hts in_X7 hown hK hP 2 rfl rfl 4 (by decide) (hts _ wk62) (fun _ h9 => h9) rfl dX7_send_50 ?_
            refine lv_aload_n hx hb dX7_send_53 rfl (lv_at hl 1 rfl) ?_
            refine va_get (D := D) (ci := 6) (v := .int mz3) (C := RX7) (T := TX7) (N := 17) hx hb hts in_X7 hown hK hP 2 rfl rfl 3 (by decide) (hts _ wk67) (fun _ h9 => h9) rfl dX7_send_54 ?_
            refine lv_iload_n hx hb dX7_send_57 rfl (lv_at hl 0 rfl) ?_
            refine lv_i2b hx hb dX7_send_58 rfl ?_
            refine lv_topi (fun v31 e31 => ?_)
            obtain ⟨f32, ef32⟩ : ∃ z9, z9 = upd gl3 mz3.toNatClampNeg (vp_nar .byte v31) := ⟨_, rfl⟩
            refine va_bast hx hb hK hP hD hS 0 2 rfl rfl (zi_in (by omega)) dX7_send_59 (fun H locs hP1 hD1 hS1 => ?_)
            rw [← ef32] at hP1 hD1
            clear hP hD hS
            have hP : va_P D classes [(bL, .inl (cB, 9200, .inl f32)), (bY, .inl (cI, 116, .inl gy3)), (aM, .inr (6, [.int th, .int mw, .ref bG, .int mz3, .ref bL, .ref bY, .ref bB, .ref bC, .int tk, .int ss, .int ml, .int mh, .int mp, .int rw, .int wr, .int tc, .ref bT])), (bG, .inl (cI, 8, .inl gg2_1)), (bB, .inl (cI, 66, .inl gb2_1))] H := hP1
            have hD : va_D A [(bL, .inl (cB, 9200, .inl f32)), (bY, .inl (cI, 116, .inl gy3)), (aM, .inr (6, [.int th, .int mw, .ref bG, .int mz3, .ref bL, .ref bY, .ref bB, .ref bC, .int tk, .int ss, .int ml, .int mh, .int mp, .int rw, .int wr, .int tc, .ref bT])), (bG, .inl (cI, 8, .inl gg2_1)), (bB, .inl (cI, 66, .inl gb2_1))] := hD1
            have hS := hS1
            clear hP1 hD1 hS1
            refine lv_aload_n hx hb dX7_send_60 rfl (lv_at hl 1 rfl) ?_
            refine lv_dup hx hb dX7_send_61 rfl ?_
            refine va_get (D := D) (ci := 6) (v := .int mz3) (C := RX7) (T := TX7) (N := 17) hx hb hts in_X7 hown hK hP 2 rfl rfl 3 (by decide) (hts _ wk67) (fun _ h9 => h9) rfl dX7_send_62 ?_
            refine lv_iconst (v := 1) hx hb dX7_send_65 (by decide) ?_
            refine lv_topi (fun v33 e33 => ?_)
            have z33 : v33.toInt = 1 := zi_c e33 (by decide)
            refine lv_iadd hx hb dX7_send_66 ?_
            refine lv_topi (fun v34 e34 => ?_)
            first | have z34 := zi_add e34 (by omega) | skip
            refine va_put (D := D) (ci := 6) (v := .int v34) (ty := .int) (C := RX7) (T := TX7) (N := 17) hx hb hts in_X7 tyX7 tyX7_ok nmX7 hown hK hP hD hS 2 rfl rfl 3 (by decide) (hts _ wk67) (fun _ h9 => h9) rfl (by decide +kernel) rfl rfl (Nat.le_of_ble_eq_true rfl) dX7_send_67 (fun H locs hP1 hD1 hS1 => ?_)
            clear hP hD hS
            have hP : va_P D classes [(bL, .inl (cB, 9200, .inl f32)), (bY, .inl (cI, 116, .inl gy3)), (aM, .inr (6, [.int th, .int mw, .ref bG, .int v34, .ref bL, .ref bY, .ref bB, .ref bC, .int tk, .int ss, .int ml, .int mh, .int mp, .int rw, .int wr, .int tc, .ref bT])), (bG, .inl (cI, 8, .inl gg2_1)), (bB, .inl (cI, 66, .inl gb2_1))] H := hP1
            have hD : va_D A [(bL, .inl (cB, 9200, .inl f32)), (bY, .inl (cI, 116, .inl gy3)), (aM, .inr (6, [.int th, .int mw, .ref bG, .int v34, .ref bL, .ref bY, .ref bB, .ref bC, .int tk, .int ss, .int ml, .int mh, .int mp, .int rw, .int wr, .int tc, .ref bT])), (bG, .inl (cI, 8, .inl gg2_1)), (bB, .inl (cI, 66, .inl gb2_1))] := hD1
            have hS := hS1
            clear hP1 hD1 hS1
            obtain ⟨v35, e35⟩ : ∃ y : Int32, y = k + 1 := ⟨_, rfl⟩
            first | have z35 := zi_inc (z := 1) 1 (by decide) e35 (by omega) | skip
            refine lv_iinc (v := v35) (lv' := [(1, .int v35), (2, .int v28), (0, .ref aM)]) hx hb dX7_send_70 hl (k := 2) rfl (by rw [e35]; rfl) (by decide) rfl (fun ls hl => ?_)
            refine lv_goto (tgt := 6) hx hb dX7_send_73 (by decide) ?_
            exact ih6 v35 v34 f32 gy3 _ _ _ (by omega) (by omega) (by omega) (by first | exact sndM_hi i6_2 (by omega) (show v10 = bi (bt (gb2_1 k.toInt.toNat) 0) from by rw [e10]; exact hw1.2 k.toInt.toNat (by omega)) (by rw [hw12, show (58 * v9.toInt + 38).toNat = 38 by omega, show (58 * v9.toInt + 57).toNat = 57 by omega]) (by rw [hw22 0, if_pos (by omega)]) (fun j a b => by rw [hw22 j, if_neg (by omega), if_pos (by omega)]) e23 ef24 (by show mz3.toInt.toNat = _; omega) (by omega) | exact sndM_lo i6_2 (by omega) (show v28 = bi (bt (gb2_1 k.toInt.toNat) 0) from by rw [e28]; exact hw1.2 k.toInt.toNat (by omega)) e31 ef32 (by show mz3.toInt.toNat = _; omega) (by omega) | (exfalso; omega)) (hP.sub [0, 1, 2, 3, 4] rfl) (hD.sub [0, 1, 2, 3, 4] (by decide) rfl) hS (lv_sub hl [2, 0] rfl)
          ·
            have z30 := zi_nle c30
            refine lv_aload_n hx hb dX7_send_43 rfl (lv_at hl 1 rfl) ?_
            refine lv_iconst (v := 0) hx hb dX7_send_44 (by decide) ?_
            refine lv_topi (fun v36 e36 => ?_)
            have z36 : v36.toInt = 0 := zi_c e36 (by decide)
            refine lv_iload_n hx hb dX7_send_45 rfl (lv_at hl 0 rfl) ?_
            have hh37 : 0 ≤ v36.toInt ∧ v36.toInt ≤ 1 := (by omega)
            refine call_v (wc := [(aM, .inr (6, [.int th, .int mw, .ref bG, .int mz3, .ref bL, .ref bY, .ref bB, .ref bC, .int tk, .int ss, .int ml, .int mh, .int mp, .int rw, .int wr, .int tc, .ref bT])), (bY, .inl (cI, 116, .inl gy3))]) (wr := [(bL, .inl (cB, 9200, .inl gl3)), (bG, .inl (cI, 8, .inl gg2_1)), (bB, .inl (cI, 66, .inl gb2_1))]) (run_V (As := [.int v36, .int v28]) (rest := []) kv_RX7_70 ⟨by decide, by decide⟩ ⟨rfl, rfl⟩ ⟨hx, hb, hml, hown, hts⟩ (c_Mo_remember l D cI cJ cB aM bG bL bY bB bC bT th mw mz3 tk ss ml mh mp rw wr tc gy3 v36 v28 hh37 _) ct_blind (ct_pre (wc := [(aM, .inr (6, [.int th, .int mw, .ref bG, .int mz3, .ref bL, .ref bY, .ref bB, .ref bC, .int tk, .int ss, .int ml, .int mh, .int mp, .int rw, .int wr, .int tc, .ref bT])), (bY, .inl (cI, 116, .inl gy3))]) hK hP hD hS hA hZ hN [2, 1] (by decide) rfl rfl) (va_recv hK hP (ci := 6) (q0 := 2) rfl rfl) rfl hl.1 rfl (Nat.le_of_ble_eq_true rfl) dX7_send_46 ⟨Nat.le_of_ble_eq_true rfl, Nat.le_of_ble_eq_true rfl⟩) hP hD hS hA [2, 1] [0, 3, 4] rfl rfl (by decide) (by decide) (fun u H locs hw38 hP1 hD1 hS1 => ?_)
            obtain ⟨gy2_38, hu9⟩ : ∃ z, z = u := ⟨_, rfl⟩
            subst hu9
            have hw38 : ∀ j : Nat, gy2_38 j = if (j : Int) = 58 * v36.toInt then v28 else if 58 * v36.toInt < j ∧ (j : Int) ≤ 58 * v36.toInt + 57 then gy3 (j - 1) else gy3 j := hw38
            clear hP hD hS
            have hP : va_P D classes [(bL, .inl (cB, 9200, .inl gl3)), (bG, .inl (cI, 8, .inl gg2_1)), (bB, .inl (cI, 66, .inl gb2_1)), (aM, .inr (6, [.int th, .int mw, .ref bG, .int mz3, .ref bL, .ref bY, .ref bB, .ref bC, .int tk, .int ss, .int ml, .int mh, .int mp, .int rw, .int wr, .int tc, .ref bT])), (bY, .inl (cI, 116, .inl gy2_38))] H := hP1
            have hD : va_D A [(bL, .inl (cB, 9200, .inl gl3)), (bG, .inl (cI, 8, .inl gg2_1)), (bB, .inl (cI, 66, .inl gb2_1)), (aM, .inr (6, [.int th, .int mw, .ref bG, .int mz3, .ref bL, .ref bY, .ref bB, .ref bC, .int tk, .int ss, .int ml, .int mh, .int mp, .int rw, .int wr, .int tc, .ref bT])), (bY, .inl (cI, 116, .inl gy2_38))] := hD1
            have hS := hS1
            clear hP1 hD1 hS1
            refine lv_aload_n hx hb dX7_send_49 rfl (lv_at hl 1 rfl) ?_
            refine va_get (D := D) (ci := 6) (v := .ref bL) (C := RX7) (T := TX7) (N := 17) hx hb hts in_X7 hown hK hP 3 rfl rfl 4 (by decide) (hts _ wk62) (fun _ h9 => h9) rfl dX7_send_50 ?_
            refine lv_aload_n hx hb dX7_send_53 rfl (lv_at hl 1 rfl) ?_
            refine va_get (D := D) (ci := 6) (v := .int mz3) (C := RX7) (T := TX7) (N := 17) hx hb hts in_X7 hown hK hP 3 rfl rfl 3 (by decide) (hts _ wk67) (fun _ h9 => h9) rfl dX7_send_54 ?_
            refine lv_iload_n hx hb dX7_send_57 rfl (lv_at hl 0 rfl) ?_
            refine lv_i2b hx hb dX7_send_58 rfl ?_
            refine lv_topi (fun v39 e39 => ?_)
            obtain ⟨f40, ef40⟩ : ∃ z9, z9 = upd gl3 mz3.toNatClampNeg (vp_nar .byte v39) := ⟨_, rfl⟩
            refine va_bast hx hb hK hP hD hS 0 2 rfl rfl (zi_in (by omega)) dX7_send_59 (fun H locs hP1 hD1 hS1 => ?_)
            rw [← ef40] at hP1 hD1
            clear hP hD hS
            have hP : va_P D classes [(bL, .inl (cB, 9200, .inl f40)), (bG, .inl (cI, 8, .inl gg2_1)), (bB, .inl (cI, 66, .inl gb2_1)), (aM, .inr (6, [.int th, .int mw, .ref bG, .int mz3, .ref bL, .ref bY, .ref bB, .ref bC, .int tk, .int ss, .int ml, .int mh, .int mp, .int rw, .int wr, .int tc, .ref bT])), (bY, .inl (cI, 116, .inl gy2_38))] H := hP1
            have hD : va_D A [(bL, .inl (cB, 9200, .inl f40)), (bG, .inl (cI, 8, .inl gg2_1)), (bB, .inl (cI, 66, .inl gb2_1)), (aM, .inr (6, [.int th, .int mw, .ref bG, .int mz3, .ref bL, .ref bY, .ref bB, .ref bC, .int tk, .int ss, .int ml, .int mh, .int mp, .int rw, .int wr, .int tc, .ref bT])), (bY, .inl (cI, 116, .inl gy2_38))] := hD1
            have hS := hS1
            clear hP1 hD1 hS1
            refine lv_aload_n hx hb dX7_send_60 rfl (lv_at hl 1 rfl) ?_
            refine lv_dup hx hb dX7_send_61 rfl ?_
            refine va_get (D := D) (ci := 6) (v := .int mz3) (C := RX7) (T := TX7) (N := 17) hx hb hts in_X7 hown hK hP 3 rfl rfl 3 (by decide) (hts _ wk67) (fun _ h9 => h9) rfl dX7_send_62 ?_
            refine lv_iconst (v := 1) hx hb dX7_send_65 (by decide) ?_
            refine lv_topi (fun v41 e41 => ?_)
            have z41 : v41.toInt = 1 := zi_c e41 (by decide)
            refine lv_iadd hx hb dX7_send_66 ?_
            refine lv_topi (fun v42 e42 => ?_)
            first | have z42 := zi_add e42 (by omega) | skip
            refine va_put (D := D) (ci := 6) (v := .int v42) (ty := .int) (C := RX7) (T := TX7) (N := 17) hx hb hts in_X7 tyX7 tyX7_ok nmX7 hown hK hP hD hS 3 rfl rfl 3 (by decide) (hts _ wk67) (fun _ h9 => h9) rfl (by decide +kernel) rfl rfl (Nat.le_of_ble_eq_true rfl) dX7_send_67 (fun H locs hP1 hD1 hS1 => ?_)
            clear hP hD hS
            have hP : va_P D classes [(bL, .inl (cB, 9200, .inl f40)), (bG, .inl (cI, 8, .inl gg2_1)), (bB, .inl (cI, 66, .inl gb2_1)), (aM, .inr (6, [.int th, .int mw, .ref bG, .int v42, .ref bL, .ref bY, .ref bB, .ref bC, .int tk, .int ss, .int ml, .int mh, .int mp, .int rw, .int wr, .int tc, .ref bT])), (bY, .inl (cI, 116, .inl gy2_38))] H := hP1
            have hD : va_D A [(bL, .inl (cB, 9200, .inl f40)), (bG, .inl (cI, 8, .inl gg2_1)), (bB, .inl (cI, 66, .inl gb2_1)), (aM, .inr (6, [.int th, .int mw, .ref bG, .int v42, .ref bL, .ref bY, .ref bB, .ref bC, .int tk, .int ss, .int ml, .int mh, .int mp, .int rw, .int wr, .int tc, .ref bT])), (bY, .inl (cI, 116, .inl gy2_38))] := hD1
            have hS := hS1
            clear hP1 hD1 hS1
            obtain ⟨v43, e43⟩ : ∃ y : Int32, y = k + 1 := ⟨_, rfl⟩
            first | have z43 := zi_inc (z := 1) 1 (by decide) e43 (by omega) | skip
            refine lv_iinc (v := v43) (lv' := [(1, .int v43), (2, .int v28), (0, .ref aM)]) hx hb dX7_send_70 hl (k := 2) rfl (by rw [e43]; rfl) (by decide) rfl (fun ls hl => ?_)
            refine lv_goto (tgt := 6) hx hb dX7_send_73 (by decide) ?_
            exact ih6 v43 v42 f40 gy2_38 _ _ _ (by omega) (by omega) (by omega) (by first | exact sndM_hi i6_2 (by omega) (show v10 = bi (bt (gb2_1 k.toInt.toNat) 0) from by rw [e10]; exact hw1.2 k.toInt.toNat (by omega)) (by rw [hw12, show (58 * v9.toInt + 38).toNat = 38 by omega, show (58 * v9.toInt + 57).toNat = 57 by omega]) (by rw [hw22 0, if_pos (by omega)]) (fun j a b => by rw [hw22 j, if_neg (by omega), if_pos (by omega)]) e23 ef24 (by show mz3.toInt.toNat = _; omega) (by omega) | exact sndM_lo i6_2 (by omega) (show v28 = bi (bt (gb2_1 k.toInt.toNat) 0) from by rw [e28]; exact hw1.2 k.toInt.toNat (by omega)) e31 ef32 (by show mz3.toInt.toNat = _; omega) (by omega) | (exfalso; omega)) (hP.sub [0, 4, 3, 1, 2] rfl) (hD.sub [0, 4, 3, 1, 2] (by decide) rfl) hS (lv_sub hl [2, 0] rfl)
  exact J6 _ v2 mz gl gy _ _ _ (Nat.lt_succ_self _) (by omega) (by omega) (sndM_0 h2 (by omega)) (hP.sub [0, 1, 2, 3, 4] rfl) (hD.sub [0, 1, 2, 3, 4] (by decide) rfl) hS (lv_sub hl [1, 0] rfl)

set_option maxHeartbeats 4000000 in
set_option maxRecDepth 100000 in
theorem c_Mo_put (l : Launch) (D : va_G) (cI cJ cB : ClassId) (aM : Nat) (bG : Nat) (bL : Nat) (bY : Nat) (bB : Nat) (bC : Nat) (bT : Nat) (th : Int32) (mw : Int32) (mz : Int32) (tk : Int32) (ss : Int32) (ml : Int32) (mh : Int32) (mp : Int32) (rw : Int32) (wr : Int32) (tc : Int32) (gg : Nat → Int32) (gl : Nat → Int32) (gy : Nat → Int32) (gb : Nat → Int32) (ch : Int32) (h1 : 0 ≤ mz.toInt ∧ mz.toInt ≤ 9066) (h2 : 0 ≤ mw.toInt ∧ mw.toInt < 8) (h3 : ∀ j, j < 58 → gy j = bi (bt (gy j) 0)) (h4 : ∀ j : Nat, (j : Int) < mz.toInt → gl j = bi (bt (gl j) 0)) :
    cti l yX7_put (wsOf yX7_put cX7_put 2 (some .int)) (rmL 4 91 0 0) D classes (tys3 cI cJ cB) [.ref aM, .int ch] [(aM, .inr (6, [.int th, .int mw, .ref bG, .int mz, .ref bL, .ref bY, .ref bB, .ref bC, .int tk, .int ss, .int ml, .int mh, .int mp, .int rw, .int wr, .int tc, .ref bT])), (bG, .inl (cI, 8, .inl gg)), (bL, .inl (cB, 9200, .inl gl)), (bY, .inl (cI, 116, .inl gy)), (bB, .inl (cI, 66, .inl gb))] (fun (r : Int32) (u : Int32 × Int32 × Int32 × (Nat → Int32) × (Nat → Int32) × (Nat → Int32) × (Nat → Int32)) => (((ch.toInt < 0 ∨ 259 < ch.toInt) → r.toInt = -12 ∧ u.2.1.toInt = mw.toInt ∧ u.2.2.1.toInt = mz.toInt) ∧ ((0 ≤ ch.toInt ∧ ch.toInt ≤ 259) → ((mw.toInt = 7 ∧ 9000 ≤ mz.toInt) → r.toInt = -14 ∧ u.2.1.toInt = mw.toInt ∧ u.2.2.1.toInt = mz.toInt) ∧ ((mw.toInt = 7 ∧ mz.toInt < 9000) → r.toInt = 0 ∧ u.2.1.toInt = 0 ∧ u.2.2.1.toInt = mz.toInt + 66) ∧ (mw.toInt < 7 → r.toInt = mw.toInt + 1 ∧ u.2.1.toInt = mw.toInt + 1 ∧ u.2.2.1.toInt = mz.toInt))) ∧ eP ((∀ j, j < 58 → u.2.2.2.2.2.1 j = bi (bt (u.2.2.2.2.2.1 j) 0)) ∧ (∀ j : Nat, (j : Int) < u.2.2.1.toInt → u.2.2.2.2.1 j = bi (bt (u.2.2.2.2.1 j) 0)) ∧ ((ch.toInt < 0 ∨ 259 < ch.toInt ∨ (mw.toInt = 7 ∧ 9000 ≤ mz.toInt)) → u.2.2.2.1 = gg ∧ u.2.2.2.2.2.1 = gy ∧ u.2.2.2.2.1 = gl) ∧ (¬ (ch.toInt < 0 ∨ 259 < ch.toInt ∨ (mw.toInt = 7 ∧ 9000 ≤ mz.toInt)) → accR ch mw.toInt u.2.1.toInt mz.toInt u.2.2.1.toInt gg u.2.2.2.1 (sgB gy) (sgB u.2.2.2.2.2.1) (mlB gl) (mlB u.2.2.2.2.1)))) (fun u : Int32 × Int32 × Int32 × (Nat → Int32) × (Nat → Int32) × (Nat → Int32) × (Nat → Int32) => ([(aM, .inr (6, [.int u.1, .int u.2.1, .ref bG, .int u.2.2.1, .ref bL, .ref bY, .ref bB, .ref bC, .int tk, .int ss, .int ml, .int mh, .int mp, .int rw, .int wr, .int tc, .ref bT])), (bG, .inl (cI, 8, .inl u.2.2.2.1)), (bL, .inl (cB, 9200, .inl u.2.2.2.2.1)), (bY, .inl (cI, 116, .inl u.2.2.2.2.2.1)), (bB, .inl (cI, 66, .inl u.2.2.2.2.2.2))] : va_W)) := by
  refine cti.of (by first | exact plainFor_of_name (by decide) | decide +kernel) (Nat.le_of_ble_eq_true rfl) (fun p e s m args below meth c A ls Q h hret => ?_)
  obtain ⟨hx, hb, hml, hown, hts, hnm, hP, hK, hD, hA, hS, hZ, hN, hl⟩ := h
  have hown : s.vm.findClass RX7 = some m.cls := hown
  have hl : lv_has ls 2 [(0, .ref aM), (1, .int ch)] := hl
  have hP : va_P D classes [(aM, .inr (6, [.int th, .int mw, .ref bG, .int mz, .ref bL, .ref bY, .ref bB, .ref bC, .int tk, .int ss, .int ml, .int mh, .int mp, .int rw, .int wr, .int tc, .ref bT])), (bG, .inl (cI, 8, .inl gg)), (bL, .inl (cB, 9200, .inl gl)), (bY, .inl (cI, 116, .inl gy)), (bB, .inl (cI, 66, .inl gb))] s.heap := hP
  have hD : va_D A [(aM, .inr (6, [.int th, .int mw, .ref bG, .int mz, .ref bL, .ref bY, .ref bB, .ref bC, .int tk, .int ss, .int ml, .int mh, .int mp, .int rw, .int wr, .int tc, .ref bT])), (bG, .inl (cI, 8, .inl gg)), (bL, .inl (cB, 9200, .inl gl)), (bY, .inl (cI, 116, .inl gy)), (bB, .inl (cI, 66, .inl gb))] := hD
  have rg_th := zi_rg th
  have rg_mw := zi_rg mw
  have rg_mz := zi_rg mz
  have rg_tk := zi_rg tk
  have rg_ss := zi_rg ss
  have rg_ml := zi_rg ml
  have rg_mh := zi_rg mh
  have rg_mp := zi_rg mp
  have rg_rw := zi_rg rw
  have rg_wr := zi_rg wr
  have rg_tc := zi_rg tc
  have rg_ch := zi_rg ch
  refine lv_aload_n hx hb dX7_put_0 rfl (lv_at hl 0 rfl) ?_
  refine lv_iconst (v := 0) hx hb dX7_put_1 (by decide) ?_
  refine lv_topi (fun v1 e1 => ?_)
  have z1 : v1.toInt = 0 := zi_c e1 (by decide)
  refine va_put (D := D) (ci := 6) (v := .int v1) (ty := .int) (C := RX7) (T := TX7) (N := 17) hx hb hts in_X7 tyX7 tyX7_ok nmX7 hown hK hP hD hS 0 rfl rfl 0 (by decide) (hts _ wk163) (fun _ h9 => h9) rfl (by decide +kernel) rfl rfl (Nat.le_of_ble_eq_true rfl) dX7_put_2 (fun H locs hP1 hD1 hS1 => ?_)
  clear hP hD hS
  have hP : va_P D classes [(aM, .inr (6, [.int v1, .int mw, .ref bG, .int mz, .ref bL, .ref bY, .ref bB, .ref bC, .int tk, .int ss, .int ml, .int mh, .int mp, .int rw, .int wr, .int tc, .ref bT])), (bG, .inl (cI, 8, .inl gg)), (bL, .inl (cB, 9200, .inl gl)), (bY, .inl (cI, 116, .inl gy)), (bB, .inl (cI, 66, .inl gb))] H := hP1
  have hD : va_D A [(aM, .inr (6, [.int v1, .int mw, .ref bG, .int mz, .ref bL, .ref bY, .ref bB, .ref bC, .int tk, .int ss, .int ml, .int mh, .int mp, .int rw, .int wr, .int tc, .ref bT])), (bG, .inl (cI, 8, .inl gg)), (bL, .inl (cB, 9200, .inl gl)), (bY, .inl (cI, 116, .inl gy)), (bB, .inl (cI, 66, .inl gb))] := hD1
  have hS := hS1
  clear hP1 hD1 hS1
  refine lv_iload_n hx hb dX7_put_5 rfl (lv_at hl 1 rfl) ?_
  refine lv_if_lt (tgt := 16) hx hb dX7_put_6 (by decide) (fun c2 => ?_) (fun c2 => ?_)
  ·
    have z2 := zi_lt0 c2
    refine lv_bipush (v := -12) hx hb dX7_put_16 (by decide) ?_
    refine lv_topi (fun v3 e3 => ?_)
    have z3 : v3.toInt = (-12) := zi_c e3 (by decide)
    have hq4 : (((ch.toInt < 0 ∨ 259 < ch.toInt) → v3.toInt = -12 ∧ mw.toInt = mw.toInt ∧ mz.toInt = mz.toInt) ∧ ((0 ≤ ch.toInt ∧ ch.toInt ≤ 259) → ((mw.toInt = 7 ∧ 9000 ≤ mz.toInt) → v3.toInt = -14 ∧ mw.toInt = mw.toInt ∧ mz.toInt = mz.toInt) ∧ ((mw.toInt = 7 ∧ mz.toInt < 9000) → v3.toInt = 0 ∧ mw.toInt = 0 ∧ mz.toInt = mz.toInt + 66) ∧ (mw.toInt < 7 → v3.toInt = mw.toInt + 1 ∧ mw.toInt = mw.toInt + 1 ∧ mz.toInt = mz.toInt))) ∧ eP ((∀ j, j < 58 → gy j = bi (bt (gy j) 0)) ∧ (∀ j : Nat, (j : Int) < mz.toInt → gl j = bi (bt (gl j) 0)) ∧ ((ch.toInt < 0 ∨ 259 < ch.toInt ∨ (mw.toInt = 7 ∧ 9000 ≤ mz.toInt)) → gg = gg ∧ gy = gy ∧ gl = gl) ∧ (¬ (ch.toInt < 0 ∨ 259 < ch.toInt ∨ (mw.toInt = 7 ∧ 9000 ≤ mz.toInt)) → accR ch mw.toInt mw.toInt mz.toInt mz.toInt gg gg (sgB gy) (sgB gy) (mlB gl) (mlB gl))) := (by first | exact ⟨by omega, eP_i ⟨h3, h4, fun _ => ⟨rfl, rfl, rfl⟩, fun q => by exfalso; omega⟩⟩ | exact ⟨by omega, eP_i ⟨h3, h4, fun q => by exfalso; omega, fun _ => acc_lo ef9 (by omega) (by omega)⟩⟩ | exact ⟨by omega, eP_i ⟨hw18.2.1, hw18.2.2.1, fun q => by exfalso; omega, fun _ => acc_hi ef9 (by omega) hw18.1.1 hw18.2.2.2⟩⟩ | exact ⟨by omega, eP_i ⟨h3, h4, fun q => by exfalso; omega, fun _ => acc_lo ef22 (by omega) (by omega)⟩⟩ | exact ⟨by omega, eP_i ⟨hw31.2.1, hw31.2.2.1, fun q => by exfalso; omega, fun _ => acc_hi ef22 (by omega) hw31.1.1 hw31.2.2.2⟩⟩ | (exfalso; omega))
    exact hret v3 (v1, mw, mz, gg, gl, gy, gb) _ _ _ _ dX7_put_18 hq4 (hP.sub [0, 1, 2, 3, 4] rfl) (hD.sub [0, 1, 2, 3, 4] (by decide) rfl) hS
  ·
    have z2 := zi_nlt0 c2
    refine lv_iload_n hx hb dX7_put_9 rfl (lv_at hl 1 rfl) ?_
    refine lv_sipush (v := 259) hx hb dX7_put_10 (by decide) ?_
    refine lv_topi (fun v5 e5 => ?_)
    have z5 : v5.toInt = 259 := zi_c e5 (by decide)
    refine lv_icmp_le (tgt := 19) hx hb dX7_put_13 (by decide) (fun c6 => ?_) (fun c6 => ?_)
    ·
      have z6 := zi_le c6
      refine lv_aload_n hx hb dX7_put_19 rfl (lv_at hl 0 rfl) ?_
      refine va_get (D := D) (ci := 6) (v := .int mw) (C := RX7) (T := TX7) (N := 17) hx hb hts in_X7 hown hK hP 0 rfl rfl 1 (by decide) (hts _ wk164) (fun _ h9 => h9) rfl dX7_put_20 ?_
      refine lv_bipush (v := 7) hx hb dX7_put_23 (by decide) ?_
      refine lv_topi (fun v7 e7 => ?_)
      have z7 : v7.toInt = 7 := zi_c e7 (by decide)
      refine lv_icmp_ne (tgt := 41) hx hb dX7_put_25 (by decide) (fun c8 => ?_) (fun c8 => ?_)
      ·
        have z8 := zi_ne c8
        refine lv_aload_n hx hb dX7_put_41 rfl (lv_at hl 0 rfl) ?_
        refine va_get (D := D) (ci := 6) (v := .ref bG) (C := RX7) (T := TX7) (N := 17) hx hb hts in_X7 hown hK hP 0 rfl rfl 2 (by decide) (hts _ wk60) (fun _ h9 => h9) rfl dX7_put_42 ?_
        refine lv_aload_n hx hb dX7_put_45 rfl (lv_at hl 0 rfl) ?_
        refine va_get (D := D) (ci := 6) (v := .int mw) (C := RX7) (T := TX7) (N := 17) hx hb hts in_X7 hown hK hP 0 rfl rfl 1 (by decide) (hts _ wk164) (fun _ h9 => h9) rfl dX7_put_46 ?_
        refine lv_iload_n hx hb dX7_put_49 rfl (lv_at hl 1 rfl) ?_
        obtain ⟨f9, ef9⟩ : ∃ z9, z9 = upd gg mw.toNatClampNeg ch := ⟨_, rfl⟩
        refine va_iast hx hb hK hP hD hS 1 0 rfl rfl (zi_in (by omega)) dX7_put_50 (fun H locs hP1 hD1 hS1 => ?_)
        rw [← ef9] at hP1 hD1
        clear hP hD hS
        have hP : va_P D classes [(aM, .inr (6, [.int v1, .int mw, .ref bG, .int mz, .ref bL, .ref bY, .ref bB, .ref bC, .int tk, .int ss, .int ml, .int mh, .int mp, .int rw, .int wr, .int tc, .ref bT])), (bG, .inl (cI, 8, .inl f9)), (bL, .inl (cB, 9200, .inl gl)), (bY, .inl (cI, 116, .inl gy)), (bB, .inl (cI, 66, .inl gb))] H := hP1
        have hD : va_D A [(aM, .inr (6, [.int v1, .int mw, .ref bG, .int mz, .ref bL, .ref bY, .ref bB, .ref bC, .int tk, .int ss, .int ml, .int mh, .int mp, .int rw, .int wr, .int tc, .ref bT])), (bG, .inl (cI, 8, .inl f9)), (bL, .inl (cB, 9200, .inl gl)), (bY, .inl (cI, 116, .inl gy)), (bB, .inl (cI, 66, .inl gb))] := hD1
        have hS := hS1
        clear hP1 hD1 hS1
        refine lv_aload_n hx hb dX7_put_51 rfl (lv_at hl 0 rfl) ?_
        refine lv_dup hx hb dX7_put_52 rfl ?_
        refine va_get (D := D) (ci := 6) (v := .int mw) (C := RX7) (T := TX7) (N := 17) hx hb hts in_X7 hown hK hP 0 rfl rfl 1 (by decide) (hts _ wk164) (fun _ h9 => h9) rfl dX7_put_53 ?_
        refine lv_iconst (v := 1) hx hb dX7_put_56 (by decide) ?_
        refine lv_topi (fun v10 e10 => ?_)
        have z10 : v10.toInt = 1 := zi_c e10 (by decide)
        refine lv_iadd hx hb dX7_put_57 ?_
        refine lv_topi (fun v11 e11 => ?_)
        first | have z11 := zi_add e11 (by omega) | skip
        refine va_put (D := D) (ci := 6) (v := .int v11) (ty := .int) (C := RX7) (T := TX7) (N := 17) hx hb hts in_X7 tyX7 tyX7_ok nmX7 hown hK hP hD hS 0 rfl rfl 1 (by decide) (hts _ wk164) (fun _ h9 => h9) rfl (by decide +kernel) rfl rfl (Nat.le_of_ble_eq_true rfl) dX7_put_58 (fun H locs hP1 hD1 hS1 => ?_)
        clear hP hD hS
        have hP : va_P D classes [(aM, .inr (6, [.int v1, .int v11, .ref bG, .int mz, .ref bL, .ref bY, .ref bB, .ref bC, .int tk, .int ss, .int ml, .int mh, .int mp, .int rw, .int wr, .int tc, .ref bT])), (bG, .inl (cI, 8, .inl f9)), (bL, .inl (cB, 9200, .inl gl)), (bY, .inl (cI, 116, .inl gy)), (bB, .inl (cI, 66, .inl gb))] H := hP1
        have hD : va_D A [(aM, .inr (6, [.int v1, .int v11, .ref bG, .int mz, .ref bL, .ref bY, .ref bB, .ref bC, .int tk, .int ss, .int ml, .int mh, .int mp, .int rw, .int wr, .int tc, .ref bT])), (bG, .inl (cI, 8, .inl f9)), (bL, .inl (cB, 9200, .inl gl)), (bY, .inl (cI, 116, .inl gy)), (bB, .inl (cI, 66, .inl gb))] := hD1
        have hS := hS1
        clear hP1 hD1 hS1
        refine lv_aload_n hx hb dX7_put_61 rfl (lv_at hl 0 rfl) ?_
        refine va_get (D := D) (ci := 6) (v := .int v11) (C := RX7) (T := TX7) (N := 17) hx hb hts in_X7 hown hK hP 0 rfl rfl 1 (by decide) (hts _ wk164) (fun _ h9 => h9) rfl dX7_put_62 ?_
        refine lv_bipush (v := 8) hx hb dX7_put_65 (by decide) ?_
        refine lv_topi (fun v12 e12 => ?_)
        have z12 : v12.toInt = 8 := zi_c e12 (by decide)
        refine lv_icmp_ne (tgt := 74) hx hb dX7_put_67 (by decide) (fun c13 => ?_) (fun c13 => ?_)
        ·
          have z13 := zi_ne c13
          refine lv_aload_n hx hb dX7_put_74 rfl (lv_at hl 0 rfl) ?_
          refine va_get (D := D) (ci := 6) (v := .int v11) (C := RX7) (T := TX7) (N := 17) hx hb hts in_X7 hown hK hP 0 rfl rfl 1 (by decide) (hts _ wk164) (fun _ h9 => h9) rfl dX7_put_75 ?_
          have hq14 : (((ch.toInt < 0 ∨ 259 < ch.toInt) → v11.toInt = -12 ∧ v11.toInt = mw.toInt ∧ mz.toInt = mz.toInt) ∧ ((0 ≤ ch.toInt ∧ ch.toInt ≤ 259) → ((mw.toInt = 7 ∧ 9000 ≤ mz.toInt) → v11.toInt = -14 ∧ v11.toInt = mw.toInt ∧ mz.toInt = mz.toInt) ∧ ((mw.toInt = 7 ∧ mz.toInt < 9000) → v11.toInt = 0 ∧ v11.toInt = 0 ∧ mz.toInt = mz.toInt + 66) ∧ (mw.toInt < 7 → v11.toInt = mw.toInt + 1 ∧ v11.toInt = mw.toInt + 1 ∧ mz.toInt = mz.toInt))) ∧ eP ((∀ j, j < 58 → gy j = bi (bt (gy j) 0)) ∧ (∀ j : Nat, (j : Int) < mz.toInt → gl j = bi (bt (gl j) 0)) ∧ ((ch.toInt < 0 ∨ 259 < ch.toInt ∨ (mw.toInt = 7 ∧ 9000 ≤ mz.toInt)) → f9 = gg ∧ gy = gy ∧ gl = gl) ∧ (¬ (ch.toInt < 0 ∨ 259 < ch.toInt ∨ (mw.toInt = 7 ∧ 9000 ≤ mz.toInt)) → accR ch mw.toInt v11.toInt mz.toInt mz.toInt gg f9 (sgB gy) (sgB gy) (mlB gl) (mlB gl))) := (by first | exact ⟨by omega, eP_i ⟨h3, h4, fun _ => ⟨rfl, rfl, rfl⟩, fun q => by exfalso; omega⟩⟩ | exact ⟨by omega, eP_i ⟨h3, h4, fun q => by exfalso; omega, fun _ => acc_lo ef9 (by omega) (by omega)⟩⟩ | exact ⟨by omega, eP_i ⟨hw18.2.1, hw18.2.2.1, fun q => by exfalso; omega, fun _ => acc_hi ef9 (by omega) hw18.1.1 hw18.2.2.2⟩⟩ | exact ⟨by omega, eP_i ⟨h3, h4, fun q => by exfalso; omega, fun _ => acc_lo ef22 (by omega) (by omega)⟩⟩ | exact ⟨by omega, eP_i ⟨hw31.2.1, hw31.2.2.1, fun q => by exfalso; omega, fun _ => acc_hi ef22 (by omega) hw31.1.1 hw31.2.2.2⟩⟩ | (exfalso; omega))
          exact hret v11 (v1, v11, mz, f9, gl, gy, gb) _ _ _ _ dX7_put_78 hq14 (hP.sub [0, 1, 2, 3, 4] rfl) (hD.sub [0, 1, 2, 3, 4] (by decide) rfl) hS
        ·
          have z13 := zi_eq c13
          refine lv_aload_n hx hb dX7_put_70 rfl (lv_at hl 0 rfl) ?_
          have hh15 : 0 ≤ mz.toInt ∧ mz.toInt + 66 ≤ 9200 := (by omega)
          have hh16 : ∀ j, j < 58 → gy j = bi (bt (gy j) 0) := h3
          have hh17 : ∀ j : Nat, (j : Int) < mz.toInt → gl j = bi (bt (gl j) 0) := h4
          refine call_v (wc := [(aM, .inr (6, [.int v1, .int v11, .ref bG, .int mz, .ref bL, .ref bY, .ref bB, .ref bC, .int tk, .int ss, .int ml, .int mh, .int mp, .int rw, .int wr, .int tc, .ref bT])), (bG, .inl (cI, 8, .inl f9)), (bL, .inl (cB, 9200, .inl gl)), (bY, .inl (cI, 116, .inl gy)), (bB, .inl (cI, 66, .inl gb))]) (wr := []) (run_V (As := []) (rest := []) kv_RX7_76 ⟨by decide, by decide⟩ ⟨rfl, rfl⟩ ⟨hx, hb, hml, hown, hts⟩ (c_Mo_send l D cI cJ cB aM bG bL bY bB bC bT v1 v11 mz tk ss ml mh mp rw wr tc f9 gl gy gb hh15 hh16 hh17 _) ct_blind (ct_pre (wc := [(aM, .inr (6, [.int v1, .int v11, .ref bG, .int mz, .ref bL, .ref bY, .ref bB, .ref bC, .int tk, .int ss, .int ml, .int mh, .int mp, .int rw, .int wr, .int tc, .ref bT])), (bG, .inl (cI, 8, .inl f9)), (bL, .inl (cB, 9200, .inl gl)), (bY, .inl (cI, 116, .inl gy)), (bB, .inl (cI, 66, .inl gb))]) hK hP hD hS hA hZ hN [0, 1, 2, 3, 4] (by decide) rfl rfl) (va_recv hK hP (ci := 6) (q0 := 0) rfl rfl) rfl hl.1 rfl (Nat.le_of_ble_eq_true rfl) dX7_put_71 ⟨Nat.le_of_ble_eq_true rfl, Nat.le_of_ble_eq_true rfl⟩) hP hD hS hA [0, 1, 2, 3, 4] [] rfl rfl (by decide) (by decide) (fun u H locs hw18 hP1 hD1 hS1 => ?_)
          obtain ⟨mw2_18, mz2_18, gg2_18, gl2_18, gy2_18, gb2_18⟩ := u
          have hw18 : (mw2_18.toInt = 0 ∧ mz2_18.toInt = mz.toInt + 66) ∧ (∀ j, j < 58 → gy2_18 j = bi (bt (gy2_18 j) 0)) ∧ (∀ j : Nat, (j : Int) < mz2_18.toInt → gl2_18 j = bi (bt (gl2_18 j) 0)) ∧ ∃ B, blkR f9 B ∧ sndR B mz.toInt mz2_18.toInt (sgB gy) (sgB gy2_18) (mlB gl) (mlB gl2_18) := hw18
          clear hP hD hS
          have hP : va_P D classes [(aM, .inr (6, [.int v1, .int mw2_18, .ref bG, .int mz2_18, .ref bL, .ref bY, .ref bB, .ref bC, .int tk, .int ss, .int ml, .int mh, .int mp, .int rw, .int wr, .int tc, .ref bT])), (bG, .inl (cI, 8, .inl gg2_18)), (bL, .inl (cB, 9200, .inl gl2_18)), (bY, .inl (cI, 116, .inl gy2_18)), (bB, .inl (cI, 66, .inl gb2_18))] H := hP1
          have hD : va_D A [(aM, .inr (6, [.int v1, .int mw2_18, .ref bG, .int mz2_18, .ref bL, .ref bY, .ref bB, .ref bC, .int tk, .int ss, .int ml, .int mh, .int mp, .int rw, .int wr, .int tc, .ref bT])), (bG, .inl (cI, 8, .inl gg2_18)), (bL, .inl (cB, 9200, .inl gl2_18)), (bY, .inl (cI, 116, .inl gy2_18)), (bB, .inl (cI, 66, .inl gb2_18))] := hD1
          have hS := hS1
          clear hP1 hD1 hS1
          have rg_mw2_18 := zi_rg mw2_18
          have rg_mz2_18 := zi_rg mz2_18
          refine lv_aload_n hx hb dX7_put_74 rfl (lv_at hl 0 rfl) ?_
          refine va_get (D := D) (ci := 6) (v := .int mw2_18) (C := RX7) (T := TX7) (N := 17) hx hb hts in_X7 hown hK hP 0 rfl rfl 1 (by decide) (hts _ wk164) (fun _ h9 => h9) rfl dX7_put_75 ?_
          have hq19 : (((ch.toInt < 0 ∨ 259 < ch.toInt) → mw2_18.toInt = -12 ∧ mw2_18.toInt = mw.toInt ∧ mz2_18.toInt = mz.toInt) ∧ ((0 ≤ ch.toInt ∧ ch.toInt ≤ 259) → ((mw.toInt = 7 ∧ 9000 ≤ mz.toInt) → mw2_18.toInt = -14 ∧ mw2_18.toInt = mw.toInt ∧ mz2_18.toInt = mz.toInt) ∧ ((mw.toInt = 7 ∧ mz.toInt < 9000) → mw2_18.toInt = 0 ∧ mw2_18.toInt = 0 ∧ mz2_18.toInt = mz.toInt + 66) ∧ (mw.toInt < 7 → mw2_18.toInt = mw.toInt + 1 ∧ mw2_18.toInt = mw.toInt + 1 ∧ mz2_18.toInt = mz.toInt))) ∧ eP ((∀ j, j < 58 → gy2_18 j = bi (bt (gy2_18 j) 0)) ∧ (∀ j : Nat, (j : Int) < mz2_18.toInt → gl2_18 j = bi (bt (gl2_18 j) 0)) ∧ ((ch.toInt < 0 ∨ 259 < ch.toInt ∨ (mw.toInt = 7 ∧ 9000 ≤ mz.toInt)) → gg2_18 = gg ∧ gy2_18 = gy ∧ gl2_18 = gl) ∧ (¬ (ch.toInt < 0 ∨ 259 < ch.toInt ∨ (mw.toInt = 7 ∧ 9000 ≤ mz.toInt)) → accR ch mw.toInt mw2_18.toInt mz.toInt mz2_18.toInt gg gg2_18 (sgB gy) (sgB gy2_18) (mlB gl) (mlB gl2_18))) := (by first | exact ⟨by omega, eP_i ⟨h3, h4, fun _ => ⟨rfl, rfl, rfl⟩, fun q => by exfalso; omega⟩⟩ | exact ⟨by omega, eP_i ⟨h3, h4, fun q => by exfalso; omega, fun _ => acc_lo ef9 (by omega) (by omega)⟩⟩ | exact ⟨by omega, eP_i ⟨hw18.2.1, hw18.2.2.1, fun q => by exfalso; omega, fun _ => acc_hi ef9 (by omega) hw18.1.1 hw18.2.2.2⟩⟩ | exact ⟨by omega, eP_i ⟨h3, h4, fun q => by exfalso; omega, fun _ => acc_lo ef22 (by omega) (by omega)⟩⟩ | exact ⟨by omega, eP_i ⟨hw31.2.1, hw31.2.2.1, fun q => by exfalso; omega, fun _ => acc_hi ef22 (by omega) hw31.1.1 hw31.2.2.2⟩⟩ | (exfalso; omega))
          exact hret mw2_18 (v1, mw2_18, mz2_18, gg2_18, gl2_18, gy2_18, gb2_18) _ _ _ _ dX7_put_78 hq19 (hP.sub [0, 1, 2, 3, 4] rfl) (hD.sub [0, 1, 2, 3, 4] (by decide) rfl) hS
      ·
        have z8 := zi_eq c8
        refine lv_aload_n hx hb dX7_put_28 rfl (lv_at hl 0 rfl) ?_
        refine va_get (D := D) (ci := 6) (v := .int mz) (C := RX7) (T := TX7) (N := 17) hx hb hts in_X7 hown hK hP 0 rfl rfl 3 (by decide) (hts _ wk67) (fun _ h9 => h9) rfl dX7_put_29 ?_
        refine lv_sipush (v := 9000) hx hb dX7_put_32 (by decide) ?_
        refine lv_topi (fun v20 e20 => ?_)
        have z20 : v20.toInt = 9000 := zi_c e20 (by decide)
        refine lv_icmp_lt (tgt := 41) hx hb dX7_put_35 (by decide) (fun c21 => ?_) (fun c21 => ?_)
        ·
          have z21 := zi_lt c21
          refine lv_aload_n hx hb dX7_put_41 rfl (lv_at hl 0 rfl) ?_
          refine va_get (D := D) (ci := 6) (v := .ref bG) (C := RX7) (T := TX7) (N := 17) hx hb hts in_X7 hown hK hP 0 rfl rfl 2 (by decide) (hts _ wk60) (fun _ h9 => h9) rfl dX7_put_42 ?_
          refine lv_aload_n hx hb dX7_put_45 rfl (lv_at hl 0 rfl) ?_
          refine va_get (D := D) (ci := 6) (v := .int mw) (C := RX7) (T := TX7) (N := 17) hx hb hts in_X7 hown hK hP 0 rfl rfl 1 (by decide) (hts _ wk164) (fun _ h9 => h9) rfl dX7_put_46 ?_
          refine lv_iload_n hx hb dX7_put_49 rfl (lv_at hl 1 rfl) ?_
          obtain ⟨f22, ef22⟩ : ∃ z9, z9 = upd gg mw.toNatClampNeg ch := ⟨_, rfl⟩
          refine va_iast hx hb hK hP hD hS 1 0 rfl rfl (zi_in (by omega)) dX7_put_50 (fun H locs hP1 hD1 hS1 => ?_)
          rw [← ef22] at hP1 hD1
          clear hP hD hS
          have hP : va_P D classes [(aM, .inr (6, [.int v1, .int mw, .ref bG, .int mz, .ref bL, .ref bY, .ref bB, .ref bC, .int tk, .int ss, .int ml, .int mh, .int mp, .int rw, .int wr, .int tc, .ref bT])), (bG, .inl (cI, 8, .inl f22)), (bL, .inl (cB, 9200, .inl gl)), (bY, .inl (cI, 116, .inl gy)), (bB, .inl (cI, 66, .inl gb))] H := hP1
          have hD : va_D A [(aM, .inr (6, [.int v1, .int mw, .ref bG, .int mz, .ref bL, .ref bY, .ref bB, .ref bC, .int tk, .int ss, .int ml, .int mh, .int mp, .int rw, .int wr, .int tc, .ref bT])), (bG, .inl (cI, 8, .inl f22)), (bL, .inl (cB, 9200, .inl gl)), (bY, .inl (cI, 116, .inl gy)), (bB, .inl (cI, 66, .inl gb))] := hD1
          have hS := hS1
          clear hP1 hD1 hS1
          refine lv_aload_n hx hb dX7_put_51 rfl (lv_at hl 0 rfl) ?_
          refine lv_dup hx hb dX7_put_52 rfl ?_
          refine va_get (D := D) (ci := 6) (v := .int mw) (C := RX7) (T := TX7) (N := 17) hx hb hts in_X7 hown hK hP 0 rfl rfl 1 (by decide) (hts _ wk164) (fun _ h9 => h9) rfl dX7_put_53 ?_
          refine lv_iconst (v := 1) hx hb dX7_put_56 (by decide) ?_
          refine lv_topi (fun v23 e23 => ?_)
          have z23 : v23.toInt = 1 := zi_c e23 (by decide)
          refine lv_iadd hx hb dX7_put_57 ?_
          refine lv_topi (fun v24 e24 => ?_)
          first | have z24 := zi_add e24 (by omega) | skip
          refine va_put (D := D) (ci := 6) (v := .int v24) (ty := .int) (C := RX7) (T := TX7) (N := 17) hx hb hts in_X7 tyX7 tyX7_ok nmX7 hown hK hP hD hS 0 rfl rfl 1 (by decide) (hts _ wk164) (fun _ h9 => h9) rfl (by decide +kernel) rfl rfl (Nat.le_of_ble_eq_true rfl) dX7_put_58 (fun H locs hP1 hD1 hS1 => ?_)
          clear hP hD hS
          have hP : va_P D classes [(aM, .inr (6, [.int v1, .int v24, .ref bG, .int mz, .ref bL, .ref bY, .ref bB, .ref bC, .int tk, .int ss, .int ml, .int mh, .int mp, .int rw, .int wr, .int tc, .ref bT])), (bG, .inl (cI, 8, .inl f22)), (bL, .inl (cB, 9200, .inl gl)), (bY, .inl (cI, 116, .inl gy)), (bB, .inl (cI, 66, .inl gb))] H := hP1
          have hD : va_D A [(aM, .inr (6, [.int v1, .int v24, .ref bG, .int mz, .ref bL, .ref bY, .ref bB, .ref bC, .int tk, .int ss, .int ml, .int mh, .int mp, .int rw, .int wr, .int tc, .ref bT])), (bG, .inl (cI, 8, .inl f22)), (bL, .inl (cB, 9200, .inl gl)), (bY, .inl (cI, 116, .inl gy)), (bB, .inl (cI, 66, .inl gb))] := hD1
          have hS := hS1
          clear hP1 hD1 hS1
          refine lv_aload_n hx hb dX7_put_61 rfl (lv_at hl 0 rfl) ?_
          refine va_get (D := D) (ci := 6) (v := .int v24) (C := RX7) (T := TX7) (N := 17) hx hb hts in_X7 hown hK hP 0 rfl rfl 1 (by decide) (hts _ wk164) (fun _ h9 => h9) rfl dX7_put_62 ?_
          refine lv_bipush (v := 8) hx hb dX7_put_65 (by decide) ?_
          refine lv_topi (fun v25 e25 => ?_)
          have z25 : v25.toInt = 8 := zi_c e25 (by decide)
          refine lv_icmp_ne (tgt := 74) hx hb dX7_put_67 (by decide) (fun c26 => ?_) (fun c26 => ?_)
          ·
            have z26 := zi_ne c26
            refine lv_aload_n hx hb dX7_put_74 rfl (lv_at hl 0 rfl) ?_
            refine va_get (D := D) (ci := 6) (v := .int v24) (C := RX7) (T := TX7) (N := 17) hx hb hts in_X7 hown hK hP 0 rfl rfl 1 (by decide) (hts _ wk164) (fun _ h9 => h9) rfl dX7_put_75 ?_
            have hq27 : (((ch.toInt < 0 ∨ 259 < ch.toInt) → v24.toInt = -12 ∧ v24.toInt = mw.toInt ∧ mz.toInt = mz.toInt) ∧ ((0 ≤ ch.toInt ∧ ch.toInt ≤ 259) → ((mw.toInt = 7 ∧ 9000 ≤ mz.toInt) → v24.toInt = -14 ∧ v24.toInt = mw.toInt ∧ mz.toInt = mz.toInt) ∧ ((mw.toInt = 7 ∧ mz.toInt < 9000) → v24.toInt = 0 ∧ v24.toInt = 0 ∧ mz.toInt = mz.toInt + 66) ∧ (mw.toInt < 7 → v24.toInt = mw.toInt + 1 ∧ v24.toInt = mw.toInt + 1 ∧ mz.toInt = mz.toInt))) ∧ eP ((∀ j, j < 58 → gy j = bi (bt (gy j) 0)) ∧ (∀ j : Nat, (j : Int) < mz.toInt → gl j = bi (bt (gl j) 0)) ∧ ((ch.toInt < 0 ∨ 259 < ch.toInt ∨ (mw.toInt = 7 ∧ 9000 ≤ mz.toInt)) → f22 = gg ∧ gy = gy ∧ gl = gl) ∧ (¬ (ch.toInt < 0 ∨ 259 < ch.toInt ∨ (mw.toInt = 7 ∧ 9000 ≤ mz.toInt)) → accR ch mw.toInt v24.toInt mz.toInt mz.toInt gg f22 (sgB gy) (sgB gy) (mlB gl) (mlB gl))) := (by first | exact ⟨by omega, eP_i ⟨h3, h4, fun _ => ⟨rfl, rfl, rfl⟩, fun q => by exfalso; omega⟩⟩ | exact ⟨by omega, eP_i ⟨h3, h4, fun q => by exfalso; omega, fun _ => acc_lo ef9 (by omega) (by omega)⟩⟩ | exact ⟨by omega, eP_i ⟨hw18.2.1, hw18.2.2.1, fun q => by exfalso; omega, fun _ => acc_hi ef9 (by omega) hw18.1.1 hw18.2.2.2⟩⟩ | exact ⟨by omega, eP_i ⟨h3, h4, fun q => by exfalso; omega, fun _ => acc_lo ef22 (by omega) (by omega)⟩⟩ | exact ⟨by omega, eP_i ⟨hw31.2.1, hw31.2.2.1, fun q => by exfalso; omega, fun _ => acc_hi ef22 (by omega) hw31.1.1 hw31.2.2.2⟩⟩ | (exfalso; omega))
            exact hret v24 (v1, v24, mz, f22, gl, gy, gb) _ _ _ _ dX7_put_78 hq27 (hP.sub [0, 1, 2, 3, 4] rfl) (hD.sub [0, 1, 2, 3, 4] (by decide) rfl) hS
          ·
            have z26 := zi_eq c26
            refine lv_aload_n hx hb dX7_put_70 rfl (lv_at hl 0 rfl) ?_
            have hh28 : 0 ≤ mz.toInt ∧ mz.toInt + 66 ≤ 9200 := (by omega)
            have hh29 : ∀ j, j < 58 → gy j = bi (bt (gy j) 0) := h3
            have hh30 : ∀ j : Nat, (j : Int) < mz.toInt → gl j = bi (bt (gl j) 0) := h4
            refine call_v (wc := [(aM, .inr (6, [.int v1, .int v24, .ref bG, .int mz, .ref bL, .ref bY, .ref bB, .ref bC, .int tk, .int ss, .int ml, .int mh, .int mp, .int rw, .int wr, .int tc, .ref bT])), (bG, .inl (cI, 8, .inl f22)), (bL, .inl (cB, 9200, .inl gl)), (bY, .inl (cI, 116, .inl gy)), (bB, .inl (cI, 66, .inl gb))]) (wr := []) (run_V (As := []) (rest := []) kv_RX7_76 ⟨by decide, by decide⟩ ⟨rfl, rfl⟩ ⟨hx, hb, hml, hown, hts⟩ (c_Mo_send l D cI cJ cB aM bG bL bY bB bC bT v1 v24 mz tk ss ml mh mp rw wr tc f22 gl gy gb hh28 hh29 hh30 _) ct_blind (ct_pre (wc := [(aM, .inr (6, [.int v1, .int v24, .ref bG, .int mz, .ref bL, .ref bY, .ref bB, .ref bC, .int tk, .int ss, .int ml, .int mh, .int mp, .int rw, .int wr, .int tc, .ref bT])), (bG, .inl (cI, 8, .inl f22)), (bL, .inl (cB, 9200, .inl gl)), (bY, .inl (cI, 116, .inl gy)), (bB, .inl (cI, 66, .inl gb))]) hK hP hD hS hA hZ hN [0, 1, 2, 3, 4] (by decide) rfl rfl) (va_recv hK hP (ci := 6) (q0 := 0) rfl rfl) rfl hl.1 rfl (Nat.le_of_ble_eq_true rfl) dX7_put_71 ⟨Nat.le_of_ble_eq_true rfl, Nat.le_of_ble_eq_true rfl⟩) hP hD hS hA [0, 1, 2, 3, 4] [] rfl rfl (by decide) (by decide) (fun u H locs hw31 hP1 hD1 hS1 => ?_)
            obtain ⟨mw2_31, mz2_31, gg2_31, gl2_31, gy2_31, gb2_31⟩ := u
            have hw31 : (mw2_31.toInt = 0 ∧ mz2_31.toInt = mz.toInt + 66) ∧ (∀ j, j < 58 → gy2_31 j = bi (bt (gy2_31 j) 0)) ∧ (∀ j : Nat, (j : Int) < mz2_31.toInt → gl2_31 j = bi (bt (gl2_31 j) 0)) ∧ ∃ B, blkR f22 B ∧ sndR B mz.toInt mz2_31.toInt (sgB gy) (sgB gy2_31) (mlB gl) (mlB gl2_31) := hw31
            clear hP hD hS
            have hP : va_P D classes [(aM, .inr (6, [.int v1, .int mw2_31, .ref bG, .int mz2_31, .ref bL, .ref bY, .ref bB, .ref bC, .int tk, .int ss, .int ml, .int mh, .int mp, .int rw, .int wr, .int tc, .ref bT])), (bG, .inl (cI, 8, .inl gg2_31)), (bL, .inl (cB, 9200, .inl gl2_31)), (bY, .inl (cI, 116, .inl gy2_31)), (bB, .inl (cI, 66, .inl gb2_31))] H := hP1
            have hD : va_D A [(aM, .inr (6, [.int v1, .int mw2_31, .ref bG, .int mz2_31, .ref bL, .ref bY, .ref bB, .ref bC, .int tk, .int ss, .int ml, .int mh, .int mp, .int rw, .int wr, .int tc, .ref bT])), (bG, .inl (cI, 8, .inl gg2_31)), (bL, .inl (cB, 9200, .inl gl2_31)), (bY, .inl (cI, 116, .inl gy2_31)), (bB, .inl (cI, 66, .inl gb2_31))] := hD1
            have hS := hS1
            clear hP1 hD1 hS1
            have rg_mw2_31 := zi_rg mw2_31
            have rg_mz2_31 := zi_rg mz2_31
            refine lv_aload_n hx hb dX7_put_74 rfl (lv_at hl 0 rfl) ?_
            refine va_get (D := D) (ci := 6) (v := .int mw2_31) (C := RX7) (T := TX7) (N := 17) hx hb hts in_X7 hown hK hP 0 rfl rfl 1 (by decide) (hts _ wk164) (fun _ h9 => h9) rfl dX7_put_75 ?_
            have hq32 : (((ch.toInt < 0 ∨ 259 < ch.toInt) → mw2_31.toInt = -12 ∧ mw2_31.toInt = mw.toInt ∧ mz2_31.toInt = mz.toInt) ∧ ((0 ≤ ch.toInt ∧ ch.toInt ≤ 259) → ((mw.toInt = 7 ∧ 9000 ≤ mz.toInt) → mw2_31.toInt = -14 ∧ mw2_31.toInt = mw.toInt ∧ mz2_31.toInt = mz.toInt) ∧ ((mw.toInt = 7 ∧ mz.toInt < 9000) → mw2_31.toInt = 0 ∧ mw2_31.toInt = 0 ∧ mz2_31.toInt = mz.toInt + 66) ∧ (mw.toInt < 7 → mw2_31.toInt = mw.toInt + 1 ∧ mw2_31.toInt = mw.toInt + 1 ∧ mz2_31.toInt = mz.toInt))) ∧ eP ((∀ j, j < 58 → gy2_31 j = bi (bt (gy2_31 j) 0)) ∧ (∀ j : Nat, (j : Int) < mz2_31.toInt → gl2_31 j = bi (bt (gl2_31 j) 0)) ∧ ((ch.toInt < 0 ∨ 259 < ch.toInt ∨ (mw.toInt = 7 ∧ 9000 ≤ mz.toInt)) → gg2_31 = gg ∧ gy2_31 = gy ∧ gl2_31 = gl) ∧ (¬ (ch.toInt < 0 ∨ 259 < ch.toInt ∨ (mw.toInt = 7 ∧ 9000 ≤ mz.toInt)) → accR ch mw.toInt mw2_31.toInt mz.toInt mz2_31.toInt gg gg2_31 (sgB gy) (sgB gy2_31) (mlB gl) (mlB gl2_31))) := (by first | exact ⟨by omega, eP_i ⟨h3, h4, fun _ => ⟨rfl, rfl, rfl⟩, fun q => by exfalso; omega⟩⟩ | exact ⟨by omega, eP_i ⟨h3, h4, fun q => by exfalso; omega, fun _ => acc_lo ef9 (by omega) (by omega)⟩⟩ | exact ⟨by omega, eP_i ⟨hw18.2.1, hw18.2.2.1, fun q => by exfalso; omega, fun _ => acc_hi ef9 (by omega) hw18.1.1 hw18.2.2.2⟩⟩ | exact ⟨by omega, eP_i ⟨h3, h4, fun q => by exfalso; omega, fun _ => acc_lo ef22 (by omega) (by omega)⟩⟩ | exact ⟨by omega, eP_i ⟨hw31.2.1, hw31.2.2.1, fun q => by exfalso; omega, fun _ => acc_hi ef22 (by omega) hw31.1.1 hw31.2.2.2⟩⟩ | (exfalso; omega))
            exact hret mw2_31 (v1, mw2_31, mz2_31, gg2_31, gl2_31, gy2_31, gb2_31) _ _ _ _ dX7_put_78 hq32 (hP.sub [0, 1, 2, 3, 4] rfl) (hD.sub [0, 1, 2, 3, 4] (by decide) rfl) hS
        ·
          have z21 := zi_nlt c21
          refine lv_bipush (v := -14) hx hb dX7_put_38 (by decide) ?_
          refine lv_topi (fun v33 e33 => ?_)
          have z33 : v33.toInt = (-14) := zi_c e33 (by decide)
          have hq34 : (((ch.toInt < 0 ∨ 259 < ch.toInt) → v33.toInt = -12 ∧ mw.toInt = mw.toInt ∧ mz.toInt = mz.toInt) ∧ ((0 ≤ ch.toInt ∧ ch.toInt ≤ 259) → ((mw.toInt = 7 ∧ 9000 ≤ mz.toInt) → v33.toInt = -14 ∧ mw.toInt = mw.toInt ∧ mz.toInt = mz.toInt) ∧ ((mw.toInt = 7 ∧ mz.toInt < 9000) → v33.toInt = 0 ∧ mw.toInt = 0 ∧ mz.toInt = mz.toInt + 66) ∧ (mw.toInt < 7 → v33.toInt = mw.toInt + 1 ∧ mw.toInt = mw.toInt + 1 ∧ mz.toInt = mz.toInt))) ∧ eP ((∀ j, j < 58 → gy j = bi (bt (gy j) 0)) ∧ (∀ j : Nat, (j : Int) < mz.toInt → gl j = bi (bt (gl j) 0)) ∧ ((ch.toInt < 0 ∨ 259 < ch.toInt ∨ (mw.toInt = 7 ∧ 9000 ≤ mz.toInt)) → gg = gg ∧ gy = gy ∧ gl = gl) ∧ (¬ (ch.toInt < 0 ∨ 259 < ch.toInt ∨ (mw.toInt = 7 ∧ 9000 ≤ mz.toInt)) → accR ch mw.toInt mw.toInt mz.toInt mz.toInt gg gg (sgB gy) (sgB gy) (mlB gl) (mlB gl))) := (by first | exact ⟨by omega, eP_i ⟨h3, h4, fun _ => ⟨rfl, rfl, rfl⟩, fun q => by exfalso; omega⟩⟩ | exact ⟨by omega, eP_i ⟨h3, h4, fun q => by exfalso; omega, fun _ => acc_lo ef9 (by omega) (by omega)⟩⟩ | exact ⟨by omega, eP_i ⟨hw18.2.1, hw18.2.2.1, fun q => by exfalso; omega, fun _ => acc_hi ef9 (by omega) hw18.1.1 hw18.2.2.2⟩⟩ | exact ⟨by omega, eP_i ⟨h3, h4, fun q => by exfalso; omega, fun _ => acc_lo ef22 (by omega) (by omega)⟩⟩ | exact ⟨by omega, eP_i ⟨hw31.2.1, hw31.2.2.1, fun q => by exfalso; omega, fun _ => acc_hi ef22 (by omega) hw31.1.1 hw31.2.2.2⟩⟩ | (exfalso; omega))
          exact hret v33 (v1, mw, mz, gg, gl, gy, gb) _ _ _ _ dX7_put_40 hq34 (hP.sub [0, 1, 2, 3, 4] rfl) (hD.sub [0, 1, 2, 3, 4] (by decide) rfl) hS
    ·
      have z6 := zi_nle c6
      refine lv_bipush (v := -12) hx hb dX7_put_16 (by decide) ?_
      refine lv_topi (fun v35 e35 => ?_)
      have z35 : v35.toInt = (-12) := zi_c e35 (by decide)
      have hq36 : (((ch.toInt < 0 ∨ 259 < ch.toInt) → v35.toInt = -12 ∧ mw.toInt = mw.toInt ∧ mz.toInt = mz.toInt) ∧ ((0 ≤ ch.toInt ∧ ch.toInt ≤ 259) → ((mw.toInt = 7 ∧ 9000 ≤ mz.toInt) → v35.toInt = -14 ∧ mw.toInt = mw.toInt ∧ mz.toInt = mz.toInt) ∧ ((mw.toInt = 7 ∧ mz.toInt < 9000) → v35.toInt = 0 ∧ mw.toInt = 0 ∧ mz.toInt = mz.toInt + 66) ∧ (mw.toInt < 7 → v35.toInt = mw.toInt + 1 ∧ mw.toInt = mw.toInt + 1 ∧ mz.toInt = mz.toInt))) ∧ eP ((∀ j, j < 58 → gy j = bi (bt (gy j) 0)) ∧ (∀ j : Nat, (j : Int) < mz.toInt → gl j = bi (bt (gl j) 0)) ∧ ((ch.toInt < 0 ∨ 259 < ch.toInt ∨ (mw.toInt = 7 ∧ 9000 ≤ mz.toInt)) → gg = gg ∧ gy = gy ∧ gl = gl) ∧ (¬ (ch.toInt < 0 ∨ 259 < ch.toInt ∨ (mw.toInt = 7 ∧ 9000 ≤ mz.toInt)) → accR ch mw.toInt mw.toInt mz.toInt mz.toInt gg gg (sgB gy) (sgB gy) (mlB gl) (mlB gl))) := (by first | exact ⟨by omega, eP_i ⟨h3, h4, fun _ => ⟨rfl, rfl, rfl⟩, fun q => by exfalso; omega⟩⟩ | exact ⟨by omega, eP_i ⟨h3, h4, fun q => by exfalso; omega, fun _ => acc_lo ef9 (by omega) (by omega)⟩⟩ | exact ⟨by omega, eP_i ⟨hw18.2.1, hw18.2.2.1, fun q => by exfalso; omega, fun _ => acc_hi ef9 (by omega) hw18.1.1 hw18.2.2.2⟩⟩ | exact ⟨by omega, eP_i ⟨h3, h4, fun q => by exfalso; omega, fun _ => acc_lo ef22 (by omega) (by omega)⟩⟩ | exact ⟨by omega, eP_i ⟨hw31.2.1, hw31.2.2.1, fun q => by exfalso; omega, fun _ => acc_hi ef22 (by omega) hw31.1.1 hw31.2.2.2⟩⟩ | (exfalso; omega))
      exact hret v35 (v1, mw, mz, gg, gl, gy, gb) _ _ _ _ dX7_put_18 hq36 (hP.sub [0, 1, 2, 3, 4] rfl) (hD.sub [0, 1, 2, 3, 4] (by decide) rfl) hS

set_option maxHeartbeats 4000000 in
set_option maxRecDepth 100000 in
theorem c_Mo_word (l : Launch) (D : va_G) (cI cJ cB : ClassId) (aM : Nat) (bG : Nat) (bL : Nat) (bY : Nat) (bB : Nat) (bC : Nat) (bT : Nat) (th : Int32) (mw : Int32) (mz : Int32) (tk : Int32) (ss : Int32) (ml : Int32) (mh : Int32) (mp : Int32) (rw : Int32) (wr : Int32) (tc : Int32) (gg : Nat → Int32) (gl : Nat → Int32) (gy : Nat → Int32) (gb : Nat → Int32) (x : Int32) (y : Int32) (h1 : 0 ≤ mz.toInt ∧ mz.toInt ≤ 9066) (h2 : 0 ≤ mw.toInt ∧ mw.toInt < 8) (h3 : ∀ j, j < 58 → gy j = bi (bt (gy j) 0)) (h4 : ∀ j : Nat, (j : Int) < mz.toInt → gl j = bi (bt (gl j) 0)) :
    cti l yX7_word (wsOf yX7_word cX7_word 4 (some .int)) (rmL 5 112 0 0) D classes (tys3 cI cJ cB) [.ref aM, .int x, .int y] [(aM, .inr (6, [.int th, .int mw, .ref bG, .int mz, .ref bL, .ref bY, .ref bB, .ref bC, .int tk, .int ss, .int ml, .int mh, .int mp, .int rw, .int wr, .int tc, .ref bT])), (bG, .inl (cI, 8, .inl gg)), (bL, .inl (cB, 9200, .inl gl)), (bY, .inl (cI, 116, .inl gy)), (bB, .inl (cI, 66, .inl gb))] (fun (r : Int32) (u : Int32 × Int32 × Int32 × (Nat → Int32) × (Nat → Int32) × (Nat → Int32) × (Nat → Int32)) => ((9000 ≤ mz.toInt → r.toInt = -14 ∧ u.2.1.toInt = mw.toInt ∧ u.2.2.1.toInt = mz.toInt) ∧ (mz.toInt < 9000 → r.toInt = mw.toInt ∧ u.2.1.toInt = mw.toInt ∧ u.2.2.1.toInt = mz.toInt + 66)) ∧ (∀ j, j < 58 → u.2.2.2.2.2.1 j = bi (bt (u.2.2.2.2.2.1 j) 0)) ∧ (∀ j : Nat, (j : Int) < u.2.2.1.toInt → u.2.2.2.2.1 j = bi (bt (u.2.2.2.2.1 j) 0)) ∧ (9000 ≤ mz.toInt → u.2.2.2.1 = gg ∧ u.2.2.2.2.2.1 = gy ∧ u.2.2.2.2.1 = gl) ∧ (mz.toInt < 9000 → accL (wl x 4 ++ wl y 4) (mw.toInt, mz.toInt, gg, sgB gy, mlB gl) (u.2.1.toInt, u.2.2.1.toInt, u.2.2.2.1, sgB u.2.2.2.2.2.1, mlB u.2.2.2.2.1))) (fun u : Int32 × Int32 × Int32 × (Nat → Int32) × (Nat → Int32) × (Nat → Int32) × (Nat → Int32) => ([(aM, .inr (6, [.int u.1, .int u.2.1, .ref bG, .int u.2.2.1, .ref bL, .ref bY, .ref bB, .ref bC, .int tk, .int ss, .int ml, .int mh, .int mp, .int rw, .int wr, .int tc, .ref bT])), (bG, .inl (cI, 8, .inl u.2.2.2.1)), (bL, .inl (cB, 9200, .inl u.2.2.2.2.1)), (bY, .inl (cI, 116, .inl u.2.2.2.2.2.1)), (bB, .inl (cI, 66, .inl u.2.2.2.2.2.2))] : va_W)) := by
  refine cti.of (by first | exact plainFor_of_name (by decide) | decide +kernel) (Nat.le_of_ble_eq_true rfl) (fun p e s m args below meth c A ls Q h hret => ?_)
  obtain ⟨hx, hb, hml, hown, hts, hnm, hP, hK, hD, hA, hS, hZ, hN, hl⟩ := h
  have hown : s.vm.findClass RX7 = some m.cls := hown
  have hl : lv_has ls 4 [(0, .ref aM), (1, .int x), (2, .int y)] := hl
  have hP : va_P D classes [(aM, .inr (6, [.int th, .int mw, .ref bG, .int mz, .ref bL, .ref bY, .ref bB, .ref bC, .int tk, .int ss, .int ml, .int mh, .int mp, .int rw, .int wr, .int tc, .ref bT])), (bG, .inl (cI, 8, .inl gg)), (bL, .inl (cB, 9200, .inl gl)), (bY, .inl (cI, 116, .inl gy)), (bB, .inl (cI, 66, .inl gb))] s.heap := hP
  have hD : va_D A [(aM, .inr (6, [.int th, .int mw, .ref bG, .int mz, .ref bL, .ref bY, .ref bB, .ref bC, .int tk, .int ss, .int ml, .int mh, .int mp, .int rw, .int wr, .int tc, .ref bT])), (bG, .inl (cI, 8, .inl gg)), (bL, .inl (cB, 9200, .inl gl)), (bY, .inl (cI, 116, .inl gy)), (bB, .inl (cI, 66, .inl gb))] := hD
  have rg_th := zi_rg th
  have rg_mw := zi_rg mw
  have rg_mz := zi_rg mz
  have rg_tk := zi_rg tk
  have rg_ss := zi_rg ss
  have rg_ml := zi_rg ml
  have rg_mh := zi_rg mh
  have rg_mp := zi_rg mp
  have rg_rw := zi_rg rw
  have rg_wr := zi_rg wr
  have rg_tc := zi_rg tc
  have rg_x := zi_rg x
  have rg_y := zi_rg y
  refine lv_aload_n hx hb dX7_word_0 rfl (lv_at hl 0 rfl) ?_
  refine lv_iconst (v := 0) hx hb dX7_word_1 (by decide) ?_
  refine lv_topi (fun v1 e1 => ?_)
  have z1 : v1.toInt = 0 := zi_c e1 (by decide)
  refine va_put (D := D) (ci := 6) (v := .int v1) (ty := .int) (C := RX7) (T := TX7) (N := 17) hx hb hts in_X7 tyX7 tyX7_ok nmX7 hown hK hP hD hS 0 rfl rfl 0 (by decide) (hts _ wk163) (fun _ h9 => h9) rfl (by decide +kernel) rfl rfl (Nat.le_of_ble_eq_true rfl) dX7_word_2 (fun H locs hP1 hD1 hS1 => ?_)
  clear hP hD hS
  have hP : va_P D classes [(aM, .inr (6, [.int v1, .int mw, .ref bG, .int mz, .ref bL, .ref bY, .ref bB, .ref bC, .int tk, .int ss, .int ml, .int mh, .int mp, .int rw, .int wr, .int tc, .ref bT])), (bG, .inl (cI, 8, .inl gg)), (bL, .inl (cB, 9200, .inl gl)), (bY, .inl (cI, 116, .inl gy)), (bB, .inl (cI, 66, .inl gb))] H := hP1
  have hD : va_D A [(aM, .inr (6, [.int v1, .int mw, .ref bG, .int mz, .ref bL, .ref bY, .ref bB, .ref bC, .int tk, .int ss, .int ml, .int mh, .int mp, .int rw, .int wr, .int tc, .ref bT])), (bG, .inl (cI, 8, .inl gg)), (bL, .inl (cB, 9200, .inl gl)), (bY, .inl (cI, 116, .inl gy)), (bB, .inl (cI, 66, .inl gb))] := hD1
  have hS := hS1
  clear hP1 hD1 hS1
  refine lv_aload_n hx hb dX7_word_5 rfl (lv_at hl 0 rfl) ?_
  refine va_get (D := D) (ci := 6) (v := .int mz) (C := RX7) (T := TX7) (N := 17) hx hb hts in_X7 hown hK hP 0 rfl rfl 3 (by decide) (hts _ wk67) (fun _ h9 => h9) rfl dX7_word_6 ?_
  refine lv_sipush (v := 9000) hx hb dX7_word_9 (by decide) ?_
  refine lv_topi (fun v2 e2 => ?_)
  have z2 : v2.toInt = 9000 := zi_c e2 (by decide)
  refine lv_icmp_lt (tgt := 18) hx hb dX7_word_12 (by decide) (fun c3 => ?_) (fun c3 => ?_)
  ·
    have z3 := zi_lt c3
    refine lv_iconst (v := 0) hx hb dX7_word_18 (by decide) ?_
    refine lv_topi (fun v4 e4 => ?_)
    have z4 : v4.toInt = 0 := zi_c e4 (by decide)
    refine lv_istore_n (lv' := [(3, .int v4), (0, .ref aM), (1, .int x), (2, .int y)]) hx hb dX7_word_19 rfl hl (by decide) rfl (fun ls hl => ?_)
    have J20 : ∀ (n : Nat) (k : Int32) (th3 : Int32) (mw3 : Int32) (mz3 : Int32) (gg3 : Nat → Int32) (gl3 : Nat → Int32) (gy3 : Nat → Int32) (gb3 : Nat → Int32) (H : Heap) (locs : List Loc) (ls : Array Slot), ((8 - k.toInt).toNat) < n → (0 ≤ k.toInt ∧ k.toInt ≤ 8) → ((mw.toInt + k.toInt < 8 ∧ mw3.toInt = mw.toInt + k.toInt ∧ mz3.toInt = mz.toInt) ∨ (8 ≤ mw.toInt + k.toInt ∧ mw3.toInt = mw.toInt + k.toInt - 8 ∧ mz3.toInt = mz.toInt + 66)) → (∀ j, j < 58 → gy3 j = bi (bt (gy3 j) 0)) → (∀ j : Nat, (j : Int) < mz3.toInt → gl3 j = bi (bt (gl3 j) 0)) → (accL (wlv x y k.toInt.toNat) (mw.toInt, mz.toInt, gg, sgB gy, mlB gl) (mw3.toInt, mz3.toInt, gg3, sgB gy3, mlB gl3)) → va_P D classes [(aM, .inr (6, [.int th3, .int mw3, .ref bG, .int mz3, .ref bL, .ref bY, .ref bB, .ref bC, .int tk, .int ss, .int ml, .int mh, .int mp, .int rw, .int wr, .int tc, .ref bT])), (bG, .inl (cI, 8, .inl gg3)), (bL, .inl (cB, 9200, .inl gl3)), (bY, .inl (cI, 116, .inl gy3)), (bB, .inl (cI, 66, .inl gb3))] H → va_D A [(aM, .inr (6, [.int th3, .int mw3, .ref bG, .int mz3, .ref bL, .ref bY, .ref bB, .ref bC, .int tk, .int ss, .int ml, .int mh, .int mp, .int rw, .int wr, .int tc, .ref bT])), (bG, .inl (cI, 8, .inl gg3)), (bL, .inl (cB, 9200, .inl gl3)), (bY, .inl (cI, 116, .inl gy3)), (bB, .inl (cI, 66, .inl gb3))] → va_S A s.heap H locs → lv_has ls 4 [(0, .ref aM), (1, .int x), (2, .int y), (3, .int k)] → W p l e (rmL 5 112 0 0) s m args below meth c H locs 0 0 Q (F0 m 20 ls []) := by
      intro n
      induction n with
      | zero => intro k th3 mw3 mz3 gg3 gl3 gy3 gb3 H locs ls hmu; exact absurd hmu (Nat.not_lt_zero _)
      | succ n ih20 =>
        intro k th3 mw3 mz3 gg3 gl3 gy3 gb3 H locs ls hmu20 i20_0 i20_1 i20_2 i20_3 i20_4 hP hD hS hl
        have rg_k := zi_rg k
        have rg_th3 := zi_rg th3
        have rg_mw3 := zi_rg mw3
        have rg_mz3 := zi_rg mz3
        refine lv_iload_n hx hb dX7_word_20 rfl (lv_at hl 3 rfl) ?_
        refine lv_bipush (v := 8) hx hb dX7_word_21 (by decide) ?_
        refine lv_topi (fun v5 e5 => ?_)
        have z5 : v5.toInt = 8 := zi_c e5 (by decide)
        refine lv_icmp_ge (tgt := 61) hx hb dX7_word_23 (by decide) (fun c6 => ?_) (fun c6 => ?_)
        ·
          have z6 := zi_le c6
          refine lv_aload_n hx hb dX7_word_61 rfl (lv_at hl 0 rfl) ?_
          refine va_get (D := D) (ci := 6) (v := .int mw3) (C := RX7) (T := TX7) (N := 17) hx hb hts in_X7 hown hK hP 0 rfl rfl 1 (by decide) (hts _ wk164) (fun _ h9 => h9) rfl dX7_word_62 ?_
          have hq7 : ((9000 ≤ mz.toInt → mw3.toInt = -14 ∧ mw3.toInt = mw.toInt ∧ mz3.toInt = mz.toInt) ∧ (mz.toInt < 9000 → mw3.toInt = mw.toInt ∧ mw3.toInt = mw.toInt ∧ mz3.toInt = mz.toInt + 66)) ∧ (∀ j, j < 58 → gy3 j = bi (bt (gy3 j) 0)) ∧ (∀ j : Nat, (j : Int) < mz3.toInt → gl3 j = bi (bt (gl3 j) 0)) ∧ (9000 ≤ mz.toInt → gg3 = gg ∧ gy3 = gy ∧ gl3 = gl) ∧ (mz.toInt < 9000 → accL (wl x 4 ++ wl y 4) (mw.toInt, mz.toInt, gg, sgB gy, mlB gl) (mw3.toInt, mz3.toInt, gg3, sgB gy3, mlB gl3)) := ⟨by omega, i20_2, i20_3, fun q => by exfalso; omega, fun _ => by have q := i20_4; rw [show k.toInt.toNat = 8 by omega] at q; exact q⟩
          exact hret mw3 (th3, mw3, mz3, gg3, gl3, gy3, gb3) _ _ _ _ dX7_word_65 hq7 (hP.sub [0, 1, 2, 3, 4] rfl) (hD.sub [0, 1, 2, 3, 4] (by decide) rfl) hS
        ·
          have z6 := zi_nle c6
          refine lv_aload_n hx hb dX7_word_26 rfl (lv_at hl 0 rfl) ?_
          refine lv_iload_n hx hb dX7_word_27 rfl (lv_at hl 3 rfl) ?_
          refine lv_iconst (v := 4) hx hb dX7_word_28 (by decide) ?_
          refine lv_topi (fun v8 e8 => ?_)
          have z8 : v8.toInt = 4 := zi_c e8 (by decide)
          refine lv_icmp_ge (tgt := 36) hx hb dX7_word_29 (by decide) (fun c9 => ?_) (fun c9 => ?_)
          ·
            have z9 := zi_le c9
            refine lv_iload_n hx hb dX7_word_36 rfl (lv_at hl 2 rfl) ?_
            refine lv_bipush (v := 24) hx hb dX7_word_37 (by decide) ?_
            refine lv_topi (fun v10 e10 => ?_)
            have z10 : v10.toInt = 24 := zi_c e10 (by decide)
            refine lv_bipush (v := 8) hx hb dX7_word_39 (by decide) ?_
            refine lv_topi (fun v11 e11 => ?_)
            have z11 : v11.toInt = 8 := zi_c e11 (by decide)
            refine lv_iload_n hx hb dX7_word_41 rfl (lv_at hl 3 rfl) ?_
            refine lv_iconst (v := 4) hx hb dX7_word_42 (by decide) ?_
            refine lv_topi (fun v12 e12 => ?_)
            have z12 : v12.toInt = 4 := zi_c e12 (by decide)
            refine lv_irem hx hb dX7_word_43 (zi_ne0' (z := 4) (by omega) (by decide)) ?_
            refine lv_topi (fun v13 e13 => ?_)
            first | have z13 := zi_rem (k := 4) e13 (by omega) (by omega) | skip
            refine lv_imul hx hb dX7_word_44 ?_
            refine lv_topi (fun v14 e14 => ?_)
            first | have z14 := zi_mulL (k := 8) e14 (by omega) (by omega) | skip
            refine lv_isub hx hb dX7_word_45 ?_
            refine lv_topi (fun v15 e15 => ?_)
            first | have z15 := zi_sub e15 (by omega) | skip
            refine lv_ishr hx hb dX7_word_46 ?_
            refine lv_topi (fun v16 e16 => ?_)
            refine lv_sipush (v := 255) hx hb dX7_word_47 (by decide) ?_
            refine lv_topi (fun v17 e17 => ?_)
            have z17 : v17.toInt = 255 := zi_c e17 (by decide)
            refine lv_iand hx hb dX7_word_50 ?_
            refine lv_topi (fun v18 e18 => ?_)
            have z18 := zi_and e18 e17 8 (z := 256) (by decide) (by decide) (by decide)
            have hh19 : 0 ≤ mz3.toInt ∧ mz3.toInt ≤ 9066 := (by omega)
            have hh20 : 0 ≤ mw3.toInt ∧ mw3.toInt < 8 := (by omega)
            have hh21 : ∀ j, j < 58 → gy3 j = bi (bt (gy3 j) 0) := i20_2
            have hh22 : ∀ j : Nat, (j : Int) < mz3.toInt → gl3 j = bi (bt (gl3 j) 0) := i20_3
            refine call_i (wc := [(aM, .inr (6, [.int th3, .int mw3, .ref bG, .int mz3, .ref bL, .ref bY, .ref bB, .ref bC, .int tk, .int ss, .int ml, .int mh, .int mp, .int rw, .int wr, .int tc, .ref bT])), (bG, .inl (cI, 8, .inl gg3)), (bL, .inl (cB, 9200, .inl gl3)), (bY, .inl (cI, 116, .inl gy3)), (bB, .inl (cI, 66, .inl gb3))]) (wr := []) (run_V (As := [.int v18]) (rest := []) kv_RX7_79 ⟨by decide, by decide⟩ ⟨rfl, rfl⟩ ⟨hx, hb, hml, hown, hts⟩ (c_Mo_put l D cI cJ cB aM bG bL bY bB bC bT th3 mw3 mz3 tk ss ml mh mp rw wr tc gg3 gl3 gy3 gb3 v18 hh19 hh20 hh21 hh22 _) ct_blind (ct_pre (wc := [(aM, .inr (6, [.int th3, .int mw3, .ref bG, .int mz3, .ref bL, .ref bY, .ref bB, .ref bC, .int tk, .int ss, .int ml, .int mh, .int mp, .int rw, .int wr, .int tc, .ref bT])), (bG, .inl (cI, 8, .inl gg3)), (bL, .inl (cB, 9200, .inl gl3)), (bY, .inl (cI, 116, .inl gy3)), (bB, .inl (cI, 66, .inl gb3))]) hK hP hD hS hA hZ hN [0, 1, 2, 3, 4] (by decide) rfl rfl) (va_recv hK hP (ci := 6) (q0 := 0) rfl rfl) rfl hl.1 rfl (Nat.le_of_ble_eq_true rfl) dX7_word_51 ⟨Nat.le_of_ble_eq_true rfl, Nat.le_of_ble_eq_true rfl⟩) hP hD hS hA [0, 1, 2, 3, 4] [] rfl rfl (by decide) (by decide) (fun r23 u H locs hw23 hP1 hD1 hS1 => ?_)
            obtain ⟨th2_23, mw2_23, mz2_23, gg2_23, gl2_23, gy2_23, gb2_23⟩ := u
            have hw23 : (((v18.toInt < 0 ∨ 259 < v18.toInt) → r23.toInt = -12 ∧ mw2_23.toInt = mw3.toInt ∧ mz2_23.toInt = mz3.toInt) ∧ ((0 ≤ v18.toInt ∧ v18.toInt ≤ 259) → ((mw3.toInt = 7 ∧ 9000 ≤ mz3.toInt) → r23.toInt = -14 ∧ mw2_23.toInt = mw3.toInt ∧ mz2_23.toInt = mz3.toInt) ∧ ((mw3.toInt = 7 ∧ mz3.toInt < 9000) → r23.toInt = 0 ∧ mw2_23.toInt = 0 ∧ mz2_23.toInt = mz3.toInt + 66) ∧ (mw3.toInt < 7 → r23.toInt = mw3.toInt + 1 ∧ mw2_23.toInt = mw3.toInt + 1 ∧ mz2_23.toInt = mz3.toInt))) ∧ eP ((∀ j, j < 58 → gy2_23 j = bi (bt (gy2_23 j) 0)) ∧ (∀ j : Nat, (j : Int) < mz2_23.toInt → gl2_23 j = bi (bt (gl2_23 j) 0)) ∧ ((v18.toInt < 0 ∨ 259 < v18.toInt ∨ (mw3.toInt = 7 ∧ 9000 ≤ mz3.toInt)) → gg2_23 = gg3 ∧ gy2_23 = gy3 ∧ gl2_23 = gl3) ∧ (¬ (v18.toInt < 0 ∨ 259 < v18.toInt ∨ (mw3.toInt = 7 ∧ 9000 ≤ mz3.toInt)) → accR v18 mw3.toInt mw2_23.toInt mz3.toInt mz2_23.toInt gg3 gg2_23 (sgB gy3) (sgB gy2_23) (mlB gl3) (mlB gl2_23))) := hw23
            clear hP hD hS
            have hP : va_P D classes [(aM, .inr (6, [.int th2_23, .int mw2_23, .ref bG, .int mz2_23, .ref bL, .ref bY, .ref bB, .ref bC, .int tk, .int ss, .int ml, .int mh, .int mp, .int rw, .int wr, .int tc, .ref bT])), (bG, .inl (cI, 8, .inl gg2_23)), (bL, .inl (cB, 9200, .inl gl2_23)), (bY, .inl (cI, 116, .inl gy2_23)), (bB, .inl (cI, 66, .inl gb2_23))] H := hP1
            have hD : va_D A [(aM, .inr (6, [.int th2_23, .int mw2_23, .ref bG, .int mz2_23, .ref bL, .ref bY, .ref bB, .ref bC, .int tk, .int ss, .int ml, .int mh, .int mp, .int rw, .int wr, .int tc, .ref bT])), (bG, .inl (cI, 8, .inl gg2_23)), (bL, .inl (cB, 9200, .inl gl2_23)), (bY, .inl (cI, 116, .inl gy2_23)), (bB, .inl (cI, 66, .inl gb2_23))] := hD1
            have hS := hS1
            clear hP1 hD1 hS1
            have rg_th2_23 := zi_rg th2_23
            have rg_mw2_23 := zi_rg mw2_23
            have rg_mz2_23 := zi_rg mz2_23
            have rg_r23 := zi_rg r23
            refine lv_pop hx hb dX7_word_54 rfl ?_
            obtain ⟨v24, e24⟩ : ∃ y : Int32, y = k + 1 := ⟨_, rfl⟩
            first | have z24 := zi_inc (z := 1) 1 (by decide) e24 (by omega) | skip
            refine lv_iinc (v := v24) (lv' := [(3, .int v24), (0, .ref aM), (1, .int x), (2, .int y)]) hx hb dX7_word_55 hl (k := 3) rfl (by rw [e24]; rfl) (by decide) rfl (fun ls hl => ?_)
            refine lv_goto (tgt := 20) hx hb dX7_word_58 (by decide) ?_
            exact ih20 v24 th2_23 mw2_23 mz2_23 gg2_23 gl2_23 gy2_23 gb2_23 _ _ _ (by omega) (by omega) (by omega) (by first | exact hw23.2.1 | exact hw38.2.1) (by first | exact hw23.2.2.1 | exact hw38.2.2.1) (by first | exact (by rw [show v24.toInt.toNat = k.toInt.toNat + 1 by omega, wlv_hi (by omega)]; exact accL_snoc i20_4 (by rw [← wch_s (w := y) (s := v15) (k := 24 - 8 * (k.toInt.toNat - 4)) (by omega) (by omega) e16 e17 e18]; exact hw23.2.2.2.2 (by omega))) | exact (by rw [show v39.toInt.toNat = k.toInt.toNat + 1 by omega, wlv_lo (by omega)]; exact accL_snoc i20_4 (by rw [← wch_s (w := x) (s := v30) (k := 24 - 8 * k.toInt.toNat) (by omega) (by omega) e31 e32 e33]; exact hw38.2.2.2.2 (by omega)))) (hP.sub [0, 1, 2, 3, 4] rfl) (hD.sub [0, 1, 2, 3, 4] (by decide) rfl) hS (lv_sub hl [1, 2, 3, 0] rfl)
          ·
            have z9 := zi_nle c9
            refine lv_iload_n hx hb dX7_word_32 rfl (lv_at hl 1 rfl) ?_
            refine lv_goto (tgt := 37) hx hb dX7_word_33 (by decide) ?_
            refine lv_bipush (v := 24) hx hb dX7_word_37 (by decide) ?_
            refine lv_topi (fun v25 e25 => ?_)
            have z25 : v25.toInt = 24 := zi_c e25 (by decide)
            refine lv_bipush (v := 8) hx hb dX7_word_39 (by decide) ?_
            refine lv_topi (fun v26 e26 => ?_)
            have z26 : v26.toInt = 8 := zi_c e26 (by decide)
            refine lv_iload_n hx hb dX7_word_41 rfl (lv_at hl 3 rfl) ?_
            refine lv_iconst (v := 4) hx hb dX7_word_42 (by decide) ?_
            refine lv_topi (fun v27 e27 => ?_)
            have z27 : v27.toInt = 4 := zi_c e27 (by decide)
            refine lv_irem hx hb dX7_word_43 (zi_ne0' (z := 4) (by omega) (by decide)) ?_
            refine lv_topi (fun v28 e28 => ?_)
            first | have z28 := zi_rem (k := 4) e28 (by omega) (by omega) | skip
            refine lv_imul hx hb dX7_word_44 ?_
            refine lv_topi (fun v29 e29 => ?_)
            first | have z29 := zi_mulL (k := 8) e29 (by omega) (by omega) | skip
            refine lv_isub hx hb dX7_word_45 ?_
            refine lv_topi (fun v30 e30 => ?_)
            first | have z30 := zi_sub e30 (by omega) | skip
            refine lv_ishr hx hb dX7_word_46 ?_
            refine lv_topi (fun v31 e31 => ?_)
            refine lv_sipush (v := 255) hx hb dX7_word_47 (by decide) ?_
            refine lv_topi (fun v32 e32 => ?_)
            have z32 : v32.toInt = 255 := zi_c e32 (by decide)
            refine lv_iand hx hb dX7_word_50 ?_
            refine lv_topi (fun v33 e33 => ?_)
            have z33 := zi_and e33 e32 8 (z := 256) (by decide) (by decide) (by decide)
            have hh34 : 0 ≤ mz3.toInt ∧ mz3.toInt ≤ 9066 := (by omega)
            have hh35 : 0 ≤ mw3.toInt ∧ mw3.toInt < 8 := (by omega)
            have hh36 : ∀ j, j < 58 → gy3 j = bi (bt (gy3 j) 0) := i20_2
            have hh37 : ∀ j : Nat, (j : Int) < mz3.toInt → gl3 j = bi (bt (gl3 j) 0) := i20_3
            refine call_i (wc := [(aM, .inr (6, [.int th3, .int mw3, .ref bG, .int mz3, .ref bL, .ref bY, .ref bB, .ref bC, .int tk, .int ss, .int ml, .int mh, .int mp, .int rw, .int wr, .int tc, .ref bT])), (bG, .inl (cI, 8, .inl gg3)), (bL, .inl (cB, 9200, .inl gl3)), (bY, .inl (cI, 116, .inl gy3)), (bB, .inl (cI, 66, .inl gb3))]) (wr := []) (run_V (As := [.int v33]) (rest := []) kv_RX7_79 ⟨by decide, by decide⟩ ⟨rfl, rfl⟩ ⟨hx, hb, hml, hown, hts⟩ (c_Mo_put l D cI cJ cB aM bG bL bY bB bC bT th3 mw3 mz3 tk ss ml mh mp rw wr tc gg3 gl3 gy3 gb3 v33 hh34 hh35 hh36 hh37 _) ct_blind (ct_pre (wc := [(aM, .inr (6, [.int th3, .int mw3, .ref bG, .int mz3, .ref bL, .ref bY, .ref bB, .ref bC, .int tk, .int ss, .int ml, .int mh, .int mp, .int rw, .int wr, .int tc, .ref bT])), (bG, .inl (cI, 8, .inl gg3)), (bL, .inl (cB, 9200, .inl gl3)), (bY, .inl (cI, 116, .inl gy3)), (bB, .inl (cI, 66, .inl gb3))]) hK hP hD hS hA hZ hN [0, 1, 2, 3, 4] (by decide) rfl rfl) (va_recv hK hP (ci := 6) (q0 := 0) rfl rfl) rfl hl.1 rfl (Nat.le_of_ble_eq_true rfl) dX7_word_51 ⟨Nat.le_of_ble_eq_true rfl, Nat.le_of_ble_eq_true rfl⟩) hP hD hS hA [0, 1, 2, 3, 4] [] rfl rfl (by decide) (by decide) (fun r38 u H locs hw38 hP1 hD1 hS1 => ?_)
            obtain ⟨th2_38, mw2_38, mz2_38, gg2_38, gl2_38, gy2_38, gb2_38⟩ := u
            have hw38 : (((v33.toInt < 0 ∨ 259 < v33.toInt) → r38.toInt = -12 ∧ mw2_38.toInt = mw3.toInt ∧ mz2_38.toInt = mz3.toInt) ∧ ((0 ≤ v33.toInt ∧ v33.toInt ≤ 259) → ((mw3.toInt = 7 ∧ 9000 ≤ mz3.toInt) → r38.toInt = -14 ∧ mw2_38.toInt = mw3.toInt ∧ mz2_38.toInt = mz3.toInt) ∧ ((mw3.toInt = 7 ∧ mz3.toInt < 9000) → r38.toInt = 0 ∧ mw2_38.toInt = 0 ∧ mz2_38.toInt = mz3.toInt + 66) ∧ (mw3.toInt < 7 → r38.toInt = mw3.toInt + 1 ∧ mw2_38.toInt = mw3.toInt + 1 ∧ mz2_38.toInt = mz3.toInt))) ∧ eP ((∀ j, j < 58 → gy2_38 j = bi (bt (gy2_38 j) 0)) ∧ (∀ j : Nat, (j : Int) < mz2_38.toInt → gl2_38 j = bi (bt (gl2_38 j) 0)) ∧ ((v33.toInt < 0 ∨ 259 < v33.toInt ∨ (mw3.toInt = 7 ∧ 9000 ≤ mz3.toInt)) → gg2_38 = gg3 ∧ gy2_38 = gy3 ∧ gl2_38 = gl3) ∧ (¬ (v33.toInt < 0 ∨ 259 < v33.toInt ∨ (mw3.toInt = 7 ∧ 9000 ≤ mz3.toInt)) → accR v33 mw3.toInt mw2_38.toInt mz3.toInt mz2_38.toInt gg3 gg2_38 (sgB gy3) (sgB gy2_38) (mlB gl3) (mlB gl2_38))) := hw38
            clear hP hD hS
            have hP : va_P D classes [(aM, .inr (6, [.int th2_38, .int mw2_38, .ref bG, .int mz2_38, .ref bL, .ref bY, .ref bB, .ref bC, .int tk, .int ss, .int ml, .int mh, .int mp, .int rw, .int wr, .int tc, .ref bT])), (bG, .inl (cI, 8, .inl gg2_38)), (bL, .inl (cB, 9200, .inl gl2_38)), (bY, .inl (cI, 116, .inl gy2_38)), (bB, .inl (cI, 66, .inl gb2_38))] H := hP1
            have hD : va_D A [(aM, .inr (6, [.int th2_38, .int mw2_38, .ref bG, .int mz2_38, .ref bL, .ref bY, .ref bB, .ref bC, .int tk, .int ss, .int ml, .int mh, .int mp, .int rw, .int wr, .int tc, .ref bT])), (bG, .inl (cI, 8, .inl gg2_38)), (bL, .inl (cB, 9200, .inl gl2_38)), (bY, .inl (cI, 116, .inl gy2_38)), (bB, .inl (cI, 66, .inl gb2_38))] := hD1
            have hS := hS1
            clear hP1 hD1 hS1
            have rg_th2_38 := zi_rg th2_38
            have rg_mw2_38 := zi_rg mw2_38
            have rg_mz2_38 := zi_rg mz2_38
            have rg_r38 := zi_rg r38
            refine lv_pop hx hb dX7_word_54 rfl ?_
            obtain ⟨v39, e39⟩ : ∃ y : Int32, y = k + 1 := ⟨_, rfl⟩
            first | have z39 := zi_inc (z := 1) 1 (by decide) e39 (by omega) | skip
            refine lv_iinc (v := v39) (lv' := [(3, .int v39), (0, .ref aM), (1, .int x), (2, .int y)]) hx hb dX7_word_55 hl (k := 3) rfl (by rw [e39]; rfl) (by decide) rfl (fun ls hl => ?_)
            refine lv_goto (tgt := 20) hx hb dX7_word_58 (by decide) ?_
            exact ih20 v39 th2_38 mw2_38 mz2_38 gg2_38 gl2_38 gy2_38 gb2_38 _ _ _ (by omega) (by omega) (by omega) (by first | exact hw23.2.1 | exact hw38.2.1) (by first | exact hw23.2.2.1 | exact hw38.2.2.1) (by first | exact (by rw [show v24.toInt.toNat = k.toInt.toNat + 1 by omega, wlv_hi (by omega)]; exact accL_snoc i20_4 (by rw [← wch_s (w := y) (s := v15) (k := 24 - 8 * (k.toInt.toNat - 4)) (by omega) (by omega) e16 e17 e18]; exact hw23.2.2.2.2 (by omega))) | exact (by rw [show v39.toInt.toNat = k.toInt.toNat + 1 by omega, wlv_lo (by omega)]; exact accL_snoc i20_4 (by rw [← wch_s (w := x) (s := v30) (k := 24 - 8 * k.toInt.toNat) (by omega) (by omega) e31 e32 e33]; exact hw38.2.2.2.2 (by omega)))) (hP.sub [0, 1, 2, 3, 4] rfl) (hD.sub [0, 1, 2, 3, 4] (by decide) rfl) hS (lv_sub hl [1, 2, 3, 0] rfl)
    exact J20 _ v4 v1 mw mz gg gl gy gb _ _ _ (Nat.lt_succ_self _) (by omega) (by omega) h3 h4 (by rw [show v4.toInt.toNat = 0 by omega]; exact rfl) (hP.sub [0, 1, 2, 3, 4] rfl) (hD.sub [0, 1, 2, 3, 4] (by decide) rfl) hS (lv_sub hl [1, 2, 3, 0] rfl)
  ·
    have z3 := zi_nlt c3
    refine lv_bipush (v := -14) hx hb dX7_word_15 (by decide) ?_
    refine lv_topi (fun v40 e40 => ?_)
    have z40 : v40.toInt = (-14) := zi_c e40 (by decide)
    have hq41 : ((9000 ≤ mz.toInt → v40.toInt = -14 ∧ mw.toInt = mw.toInt ∧ mz.toInt = mz.toInt) ∧ (mz.toInt < 9000 → v40.toInt = mw.toInt ∧ mw.toInt = mw.toInt ∧ mz.toInt = mz.toInt + 66)) ∧ (∀ j, j < 58 → gy j = bi (bt (gy j) 0)) ∧ (∀ j : Nat, (j : Int) < mz.toInt → gl j = bi (bt (gl j) 0)) ∧ (9000 ≤ mz.toInt → gg = gg ∧ gy = gy ∧ gl = gl) ∧ (mz.toInt < 9000 → accL (wl x 4 ++ wl y 4) (mw.toInt, mz.toInt, gg, sgB gy, mlB gl) (mw.toInt, mz.toInt, gg, sgB gy, mlB gl)) := ⟨by omega, h3, h4, fun _ => ⟨rfl, rfl, rfl⟩, fun q => by exfalso; omega⟩
    exact hret v40 (v1, mw, mz, gg, gl, gy, gb) _ _ _ _ dX7_word_17 hq41 (hP.sub [0, 1, 2, 3, 4] rfl) (hD.sub [0, 1, 2, 3, 4] (by decide) rfl) hS
