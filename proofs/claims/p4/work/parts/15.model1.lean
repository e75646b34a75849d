set_option maxHeartbeats 4000000 in
set_option maxRecDepth 100000 in
theorem c_Mo_send (l : Launch) (D : va_G) (cI cJ cB : ClassId) (aM : Nat) (bG : Nat) (bL : Nat) (bY : Nat) (bB : Nat) (bC : Nat) (bT : Nat) (th : Int32) (mw : Int32) (mz : Int32) (tk : Int32) (ss : Int32) (ml : Int32) (mh : Int32) (mp : Int32) (rw : Int32) (wr : Int32) (tc : Int32) (gg : Nat → Int32) (gl : Nat → Int32) (gy : Nat → Int32) (gb : Nat → Int32) (h1 : 0 ≤ mz.toInt ∧ mz.toInt + 66 ≤ 9200) :
    ctv l yX7_send (wsOf yX7_send cX7_send 3 none) (rmL 3 69 0 0) D classes (tys3 cI cJ cB) [.ref aM] [(aM, .inr (6, [.int th, .int mw, .ref bG, .int mz, .ref bL, .ref bY, .ref bB, .ref bC, .int tk, .int ss, .int ml, .int mh, .int mp, .int rw, .int wr, .int tc, .ref bT])), (bG, .inl (cI, 8, .inl gg)), (bL, .inl (cB, 9200, .inl gl)), (bY, .inl (cI, 116, .inl gy)), (bB, .inl (cI, 66, .inl gb))] (fun u : Int32 × Int32 × (Nat → Int32) × (Nat → Int32) × (Nat → Int32) × (Nat → Int32) => u.1.toInt = 0 ∧ u.2.1.toInt = mz.toInt + 66) (fun u : Int32 × Int32 × (Nat → Int32) × (Nat → Int32) × (Nat → Int32) × (Nat → Int32) => ([(aM, .inr (6, [.int th, .int u.1, .ref bG, .int u.2.1, .ref bL, .ref bY, .ref bB, .ref bC, .int tk, .int ss, .int ml, .int mh, .int mp, .int rw, .int wr, .int tc, .ref bT])), (bG, .inl (cI, 8, .inl u.2.2.1)), (bL, .inl (cB, 9200, .inl u.2.2.2.1)), (bY, .inl (cI, 116, .inl u.2.2.2.2.1)), (bB, .inl (cI, 66, .inl u.2.2.2.2.2))] : va_W)) 0 0 := by
  refine ctv.of (by first | exact plainFor_of_name (by decide) | decide +kernel) (Nat.le_of_ble_eq_true rfl) (fun p e s m args below meth c A ls Q h hret => ?_)
  obtain ⟨hx, hb, hml, hown, hts, hnm, hP, hK, hD, hA, hS, hZ, hN, hl⟩ := h
  have hown : s.vm.findClass RX7 = some m.cls := hown
  have hl : lv_has ls 3 [(0, .ref aM)] := hl
  have hP : va_P D classes [(aM, .inr (6, [.int th, .int mw, .ref bG, .int mz, .ref bL, .ref bY, .ref bB, .ref bC, .int tk, .int ss, .int ml, .int mh, .int mp, .int rw, .int wr, .int tc, .ref bT])), (bG, .inl (cI, 8, .inl gg)), (bL, .inl (cB, 9200, .inl gl)), (bY, .inl (cI, 116, .inl gy)), (bB, .inl (cI, 66, .inl gb))] s.heap := hP
  have hD : va_D A [(aM, .inr (6, [.int th, .int mw, .ref bG, .int mz, .ref bL, .ref bY, .ref bB, .ref bC, .int tk, .int ss, .int ml, .int mh, .int mp, .int rw, .int wr, .int tc, .ref bT])), (bG, .inl (cI, 8, .inl gg)), (bL, .inl (cB, 9200, .inl gl)), (bY, .inl (cI, 116, .inl gy)), (bB, .inl (cI, 66, .inl gb))] := hD
  have rg_th := zi_rg th
  have rg_mw := zi_rg mw
  have rg_mz := zi_rg mz
  have rg_tk := zi_rg tk
  have rg_ss := zi_rg ss
  have rg_ml := zi_rg ml
  have rg_mh := zi_rg mh
  have rg_mp := zi_rg mp
  have rg_rw := zi_rg rw
  have rg_wr := zi_rg wr
  have rg_tc := zi_rg tc
  refine lv_aload_n hx hb dX7_send_0 rfl (lv_at hl 0 rfl) ?_
  refine call_v (wc := [(aM, .inr (6, [.int th, .int mw, .ref bG, .int mz, .ref bL, .ref bY, .ref bB, .ref bC, .int tk, .int ss, .int ml, .int mh, .int mp, .int rw, .int wr, .int tc, .ref bT])), (bG, .inl (cI, 8, .inl gg)), (bB, .inl (cI, 66, .inl gb))]) (wr := [(bL, .inl (cB, 9200, .inl gl)), (bY, .inl (cI, 116, .inl gy))]) (run_V (As := []) (rest := []) kv_RX7_63 ⟨by decide, by decide⟩ ⟨rfl, rfl⟩ ⟨hx, hb, hml, hown, hts⟩ (c_Mo_encode l D cI cJ cB aM bG bL bY bB bC bT th mw mz tk ss ml mh mp rw wr tc gg gb  _) ct_blind (ct_pre (wc := [(aM, .inr (6, [.int th, .int mw, .ref bG, .int mz, .ref bL, .ref bY, .ref bB, .ref bC, .int tk, .int ss, .int ml, .int mh, .int mp, .int rw, .int wr, .int tc, .ref bT])), (bG, .inl (cI, 8, .inl gg)), (bB, .inl (cI, 66, .inl gb))]) hK hP hD hS hA hZ hN [0, 1, 4] (by decide) rfl rfl) (va_recv hK hP (ci := 6) (q0 := 0) rfl rfl) rfl hl.1 rfl (Nat.le_of_ble_eq_true rfl) dX7_send_1 ⟨Nat.le_of_ble_eq_true rfl, Nat.le_of_ble_eq_true rfl⟩) hP hD hS hA [0, 1, 4] [2, 3] rfl rfl (by decide) (by decide) (fun u H locs hw1 hP1 hD1 hS1 => ?_)
  obtain ⟨gg2_1, gb2_1⟩ := u
  clear hw1
  clear hP hD hS
  have hP : va_P D classes [(bL, .inl (cB, 9200, .inl gl)), (bY, .inl (cI, 116, .inl gy)), (aM, .inr (6, [.int th, .int mw, .ref bG, .int mz, .ref bL, .ref bY, .ref bB, .ref bC, .int tk, .int ss, .int ml, .int mh, .int mp, .int rw, .int wr, .int tc, .ref bT])), (bG, .inl (cI, 8, .inl gg2_1)), (bB, .inl (cI, 66, .inl gb2_1))] H := hP1
  have hD : va_D A [(bL, .inl (cB, 9200, .inl gl)), (bY, .inl (cI, 116, .inl gy)), (aM, .inr (6, [.int th, .int mw, .ref bG, .int mz, .ref bL, .ref bY, .ref bB, .ref bC, .int tk, .int ss, .int ml, .int mh, .int mp, .int rw, .int wr, .int tc, .ref bT])), (bG, .inl (cI, 8, .inl gg2_1)), (bB, .inl (cI, 66, .inl gb2_1))] := hD1
  have hS := hS1
  clear hP1 hD1 hS1
  refine lv_iconst (v := 0) hx hb dX7_send_4 (by decide) ?_
  refine lv_topi (fun v2 e2 => ?_)
  have z2 : v2.toInt = 0 := zi_c e2 (by decide)
  refine lv_istore_n (lv' := [(1, .int v2), (0, .ref aM)]) hx hb dX7_send_5 rfl hl (by decide) rfl (fun ls hl => ?_)
  have J6 : ∀ (n : Nat) (k : Int32) (mz3 : Int32) (gl3 : Nat → Int32) (gy3 : Nat → Int32) (H : Heap) (locs : List Loc) (ls : Array Slot), ((66 - k.toInt).toNat) < n → (0 ≤ k.toInt ∧ k.toInt ≤ 66) → (mz3.toInt = mz.toInt + k.toInt) → va_P D classes [(bL, .inl (cB, 9200, .inl gl3)), (bY, .inl (cI, 116, .inl gy3)), (aM, .inr (6, [.int th, .int mw, .ref bG, .int mz3, .ref bL, .ref bY, .ref bB, .ref bC, .int tk, .int ss, .int ml, .int mh, .int mp, .int rw, .int wr, .int tc, .ref bT])), (bG, .inl (cI, 8, .inl gg2_1)), (bB, .inl (cI, 66, .inl gb2_1))] H → va_D A [(bL, .inl (cB, 9200, .inl gl3)), (bY, .inl (cI, 116, .inl gy3)), (aM, .inr (6, [.int th, .int mw, .ref bG, .int mz3, .ref bL, .ref bY, .ref bB, .ref bC, .int tk, .int ss, .int ml, .int mh, .int mp, .int rw, .int wr, .int tc, .ref bT])), (bG, .inl (cI, 8, .inl gg2_1)), (bB, .inl (cI, 66, .inl gb2_1))] → va_S A s.heap H locs → lv_has ls 3 [(0, .ref aM), (1, .int k)] → W p l e (rmL 3 69 0 0) s m args below meth c H locs 0 0 Q (F0 m 6 ls []) := by
    intro n
    induction n with
    | zero => intro k mz3 gl3 gy3 H locs ls hmu; exact absurd hmu (Nat.not_lt_zero _)
    | succ n ih6 =>
      intro k mz3 gl3 gy3 H locs ls hmu6 i6_0 i6_1 hP hD hS hl
      have rg_k := zi_rg k
      have rg_mz3 := zi_rg mz3
      refine lv_iload_n hx hb dX7_send_6 rfl (lv_at hl 1 rfl) ?_
      refine lv_bipush (v := 66) hx hb dX7_send_7 (by decide) ?_
      refine lv_topi (fun v3 e3 => ?_)
      have z3 : v3.toInt = 66 := zi_c e3 (by decide)
      refine lv_icmp_ge (tgt := 76) hx hb dX7_send_9 (by decide) (fun c4 => ?_) (fun c4 => ?_)
      ·
        have z4 := zi_le c4
        refine lv_aload_n hx hb dX7_send_76 rfl (lv_at hl 0 rfl) ?_
        refine lv_iconst (v := 0) hx hb dX7_send_77 (by decide) ?_
        refine lv_topi (fun v5 e5 => ?_)
        have z5 : v5.toInt = 0 := zi_c e5 (by decide)
        refine va_put (D := D) (ci := 6) (v := .int v5) (ty := .int) (C := RX7) (T := TX7) (N := 17) hx hb hts in_X7 tyX7 tyX7_ok nmX7 hown hK hP hD hS 2 rfl rfl 1 (by decide) (hts _ wk164) (fun _ h9 => h9) rfl (by decide +kernel) rfl rfl (Nat.le_of_ble_eq_true rfl) dX7_send_78 (fun H locs hP1 hD1 hS1 => ?_)
        clear hP hD hS
        have hP : va_P D classes [(bL, .inl (cB, 9200, .inl gl3)), (bY, .inl (cI, 116, .inl gy3)), (aM, .inr (6, [.int th, .int v5, .ref bG, .int mz3, .ref bL, .ref bY, .ref bB, .ref bC, .int tk, .int ss, .int ml, .int mh, .int mp, .int rw, .int wr, .int tc, .ref bT])), (bG, .inl (cI, 8, .inl gg2_1)), (bB, .inl (cI, 66, .inl gb2_1))] H := hP1
        have hD : va_D A [(bL, .inl (cB, 9200, .inl gl3)), (bY, .inl (cI, 116, .inl gy3)), (aM, .inr (6, [.int th, .int v5, .ref bG, .int mz3, .ref bL, .ref bY, .ref bB, .ref bC, .int tk, .int ss, .int ml, .int mh, .int mp, .int rw, .int wr, .int tc, .ref bT])), (bG, .inl (cI, 8, .inl gg2_1)), (bB, .inl (cI, 66, .inl gb2_1))] := hD1
        have hS := hS1
        clear hP1 hD1 hS1
        have hq6 : v5.toInt = 0 ∧ mz3.toInt = mz.toInt + 66 := (by omega)
        exact hret (v5, mz3, gg2_1, gl3, gy3, gb2_1) _ _ _ _ dX7_send_81 hq6 (hP.sub [2, 3, 0, 1, 4] rfl) (hD.sub [2, 3, 0, 1, 4] (by decide) rfl) hS
      ·
        have z4 := zi_nle c4
        refine lv_iload_n hx hb dX7_send_12 rfl (lv_at hl 1 rfl) ?_
        refine lv_iconst (v := 2) hx hb dX7_send_13 (by decide) ?_
        refine lv_topi (fun v7 e7 => ?_)
        have z7 : v7.toInt = 2 := zi_c e7 (by decide)
        refine lv_icmp_ge (tgt := 26) hx hb dX7_send_14 (by decide) (fun c8 => ?_) (fun c8 => ?_)
        ·
          have z8 := zi_le c8
          refine lv_aload_n hx hb dX7_send_26 rfl (lv_at hl 0 rfl) ?_
          refine lv_iconst (v := 0) hx hb dX7_send_27 (by decide) ?_
          refine lv_topi (fun v9 e9 => ?_)
          have z9 : v9.toInt = 0 := zi_c e9 (by decide)
          refine lv_aload_n hx hb dX7_send_28 rfl (lv_at hl 0 rfl) ?_
          refine va_get (D := D) (ci := 6) (v := .ref bB) (C := RX7) (T := TX7) (N := 17) hx hb hts in_X7 hown hK hP 2 rfl rfl 6 (by decide) (hts _ wk64) (fun _ h9 => h9) rfl dX7_send_29 ?_
          refine lv_iload_n hx hb dX7_send_32 rfl (lv_at hl 1 rfl) ?_
          refine va_iald hx hb hK hP 4 0 rfl rfl (zi_in (by omega)) dX7_send_33 ?_
          refine lv_topi (fun v10 e10 => ?_)
          have hh11 : 0 ≤ v9.toInt ∧ v9.toInt ≤ 1 := (by omega)
          refine call_i (wc := [(aM, .inr (6, [.int th, .int mw, .ref bG, .int mz3, .ref bL, .ref bY, .ref bB, .ref bC, .int tk, .int ss, .int ml, .int mh, .int mp, .int rw, .int wr, .int tc, .ref bT])), (bY, .inl (cI, 116, .inl gy3))]) (wr := [(bL, .inl (cB, 9200, .inl gl3)), (bG, .inl (cI, 8, .inl gg2_1)), (bB, .inl (cI, 66, .inl gb2_1))]) (run_V (As := [.int v9, .int v10]) (rest := []) kv_RX7_66 ⟨by decide, by decide⟩ ⟨rfl, rfl⟩ ⟨hx, hb, hml, hown, hts⟩ (c_Mo_mixed l D cI cJ cB aM bG bL bY bB bC bT th mw mz3 tk ss ml mh mp rw wr tc gy3 v9 v10 hh11 _) ct_blind (ct_pre (wc := [(aM, .inr (6, [.int th, .int mw, .ref bG, .int mz3, .ref bL, .ref bY, .ref bB, .ref bC, .int tk, .int ss, .int ml, .int mh, .int mp, .int rw, .int wr, .int tc, .ref bT])), (bY, .inl (cI, 116, .inl gy3))]) hK hP hD hS hA hZ hN [2, 1] (by decide) rfl rfl) (va_recv hK hP (ci := 6) (q0 := 2) rfl rfl) rfl hl.1 rfl (Nat.le_of_ble_eq_true rfl) dX7_send_34 ⟨Nat.le_of_ble_eq_true rfl, Nat.le_of_ble_eq_true rfl⟩) hP hD hS hA [2, 1] [0, 3, 4] rfl rfl (by decide) (by decide) (fun r12 u H locs hw12 hP1 hD1 hS1 => ?_)
          clear hw12
          clear hP hD hS
          have hP : va_P D classes [(bL, .inl (cB, 9200, .inl gl3)), (bG, .inl (cI, 8, .inl gg2_1)), (bB, .inl (cI, 66, .inl gb2_1)), (aM, .inr (6, [.int th, .int mw, .ref bG, .int mz3, .ref bL, .ref bY, .ref bB, .ref bC, .int tk, .int ss, .int ml, .int mh, .int mp, .int rw, .int wr, .int tc, .ref bT])), (bY, .inl (cI, 116, .inl gy3))] H := hP1
          have hD : va_D A [(bL, .inl (cB, 9200, .inl gl3)), (bG, .inl (cI, 8, .inl gg2_1)), (bB, .inl (cI, 66, .inl gb2_1)), (aM, .inr (6, [.int th, .int mw, .ref bG, .int mz3, .ref bL, .ref bY, .ref bB, .ref bC, .int tk, .int ss, .int ml, .int mh, .int mp, .int rw, .int wr, .int tc, .ref bT])), (bY, .inl (cI, 116, .inl gy3))] := hD1
          have hS := hS1
          clear hP1 hD1 hS1
          have rg_r12 := zi_rg r12
          refine lv_istore_n (lv' := [(2, .int r12), (0, .ref aM), (1, .int k)]) hx hb dX7_send_37 rfl hl (by decide) rfl (fun ls hl => ?_)
          refine lv_iload_n hx hb dX7_send_38 rfl (lv_at hl 2 rfl) ?_
          refine lv_iconst (v := 1) hx hb dX7_send_39 (by decide) ?_
          refine lv_topi (fun v13 e13 => ?_)
          have z13 : v13.toInt = 1 := zi_c e13 (by decide)
          refine lv_icmp_le (tgt := 49) hx hb dX7_send_40 (by decide) (fun c14 => ?_) (fun c14 => ?_)
          ·
            have z14 := zi_le c14
            refine lv_aload_n hx hb dX7_send_49 rfl (lv_at hl 1 rfl) ?_
            refine va_get (D := D) (ci := 6) (v := .ref bL) (C := RX7) (T := TX7) (N := 17) hx hb hts in_X7 hown hK hP 3 rfl rfl 4 (by decide) (hts _ wk62) (fun _ h9 => h9) rfl dX7_send_50 ?_
            refine lv_aload_n hx hb dX7_send_53 rfl (lv_at hl 1 rfl) ?_
            refine va_get (D := D) (ci := 6) (v := .int mz3) (C := RX7) (T := TX7) (N := 17) hx hb hts in_X7 hown hK hP 3 rfl rfl 3 (by decide) (hts _ wk67) (fun _ h9 => h9) rfl dX7_send_54 ?_
            refine lv_iload_n hx hb dX7_send_57 rfl (lv_at hl 0 rfl) ?_
            refine lv_i2b hx hb dX7_send_58 rfl ?_
            refine lv_topi (fun v15 e15 => ?_)
            obtain ⟨f16, ef16⟩ : ∃ z9, z9 = upd gl3 mz3.toNatClampNeg (vp_nar .byte v15) := ⟨_, rfl⟩
            refine va_bast hx hb hK hP hD hS 0 2 rfl rfl (zi_in (by omega)) dX7_send_59 (fun H locs hP1 hD1 hS1 => ?_)
            rw [← ef16] at hP1 hD1
            clear hP hD hS
            have hP : va_P D classes [(bL, .inl (cB, 9200, .inl f16)), (bG, .inl (cI, 8, .inl gg2_1)), (bB, .inl (cI, 66, .inl gb2_1)), (aM, .inr (6, [.int th, .int mw, .ref bG, .int mz3, .ref bL, .ref bY, .ref bB, .ref bC, .int tk, .int ss, .int ml, .int mh, .int mp, .int rw, .int wr, .int tc, .ref bT])), (bY, .inl (cI, 116, .inl gy3))] H := hP1
            have hD : va_D A [(bL, .inl (cB, 9200, .inl f16)), (bG, .inl (cI, 8, .inl gg2_1)), (bB, .inl (cI, 66, .inl gb2_1)), (aM, .inr (6, [.int th, .int mw, .ref bG, .int mz3, .ref bL, .ref bY, .ref bB, .ref bC, .int tk, .int ss, .int ml, .int mh, .int mp, .int rw, .int wr, .int tc, .ref bT])), (bY, .inl (cI, 116, .inl gy3))] := hD1
            have hS := hS1
            clear hP1 hD1 hS1
            refine lv_aload_n hx hb dX7_send_60 rfl (lv_at hl 1 rfl) ?_
            refine lv_dup hx hb dX7_send_61 rfl ?_
            refine va_get (D := D) (ci := 6) (v := .int mz3) (C := RX7) (T := TX7) (N := 17) hx hb hts in_X7 hown hK hP 3 rfl rfl 3 (by decide) (hts _ wk67) (fun _ h9 => h9) rfl dX7_send_62 ?_
            refine lv_iconst (v := 1) hx hb dX7_send_65 (by decide) ?_
            refine lv_topi (fun v17 e17 => ?_)
            have z17 : v17.toInt = 1 := zi_c e17 (by decide)
            refine lv_iadd hx hb dX7_send_66 ?_
            refine lv_topi (fun v18 e18 => ?_)
            first | have z18 := zi_add e18 (by omega) | skip
            refine va_put (D := D) (ci := 6) (v := .int v18) (ty := .int) (C := RX7) (T := TX7) (N := 17) hx hb hts in_X7 tyX7 tyX7_ok nmX7 hown hK hP hD hS 3 rfl rfl 3 (by decide) (hts _ wk67) (fun _ h9 => h9) rfl (by decide +kernel) rfl rfl (Nat.le_of_ble_eq_true rfl) dX7_send_67 (fun H locs hP1 hD1 hS1 => ?_)
            clear hP hD hS
            have hP : va_P D classes [(bL, .inl (cB, 9200, .inl f16)), (bG, .inl (cI, 8, .inl gg2_1)), (bB, .inl (cI, 66, .inl gb2_1)), (aM, .inr (6, [.int th, .int mw, .ref bG, .int v18, .ref bL, .ref bY, .ref bB, .ref bC, .int tk, .int ss, .int ml, .int mh, .int mp, .int rw, .int wr, .int tc, .ref bT])), (bY, .inl (cI, 116, .inl gy3))] H := hP1
            have hD : va_D A [(bL, .inl (cB, 9200, .inl f16)), (bG, .inl (cI, 8, .inl gg2_1)), (bB, .inl (cI, 66, .inl gb2_1)), (aM, .inr (6, [.int th, .int mw, .ref bG, .int v18, .ref bL, .ref bY, .ref bB, .ref bC, .int tk, .int ss, .int ml, .int mh, .int mp, .int rw, .int wr, .int tc, .ref bT])), (bY, .inl (cI, 116, .inl gy3))] := hD1
            have hS := hS1
            clear hP1 hD1 hS1
            obtain ⟨v19, e19⟩ : ∃ y : Int32, y = k + 1 := ⟨_, rfl⟩
            first | have z19 := zi_inc (z := 1) 1 (by decide) e19 (by omega) | skip
            refine lv_iinc (v := v19) (lv' := [(1, .int v19), (2, .int r12), (0, .ref aM)]) hx hb dX7_send_70 hl (k := 2) rfl (by rw [e19]; rfl) (by decide) rfl (fun ls hl => ?_)
            refine lv_goto (tgt := 6) hx hb dX7_send_73 (by decide) ?_
            exact ih6 v19 v18 f16 gy3 _ _ _ (by omega) (by omega) (by omega) (hP.sub [0, 4, 3, 1, 2] rfl) (hD.sub [0, 4, 3, 1, 2] (by decide) rfl) hS (lv_sub hl [2, 0] rfl)
          ·
            have z14 := zi_nle c14
            refine lv_aload_n hx hb dX7_send_43 rfl (lv_at hl 1 rfl) ?_
            refine lv_iconst (v := 0) hx hb dX7_send_44 (by decide) ?_
            refine lv_topi (fun v20 e20 => ?_)
            have z20 : v20.toInt = 0 := zi_c e20 (by decide)
            refine lv_iload_n hx hb dX7_send_45 rfl (lv_at hl 0 rfl) ?_
            have hh21 : 0 ≤ v20.toInt ∧ v20.toInt ≤ 1 := (by omega)
            refine call_v (wc := [(aM, .inr (6, [.int th, .int mw, .ref bG, .int mz3, .ref bL, .ref bY, .ref bB, .ref bC, .int tk, .int ss, .int ml, .int mh, .int mp, .int rw, .int wr, .int tc, .ref bT])), (bY, .inl (cI, 116, .inl gy3))]) (wr := [(bL, .inl (cB, 9200, .inl gl3)), (bG, .inl (cI, 8, .inl gg2_1)), (bB, .inl (cI, 66, .inl gb2_1))]) (run_V (As := [.int v20, .int r12]) (rest := []) kv_RX7_70 ⟨by decide, by decide⟩ ⟨rfl, rfl⟩ ⟨hx, hb, hml, hown, hts⟩ (c_Mo_remember l D cI cJ cB aM bG bL bY bB bC bT th mw mz3 tk ss ml mh mp rw wr tc gy3 v20 r12 hh21 _) ct_blind (ct_pre (wc := [(aM, .inr (6, [.int th, .int mw, .ref bG, .int mz3, .ref bL, .ref bY, .ref bB, .ref bC, .int tk, .int ss, .int ml, .int mh, .int mp, .int rw, .int wr, .int tc, .ref bT])), (bY, .inl (cI, 116, .inl gy3))]) hK hP hD hS hA hZ hN [3, 4] (by decide) rfl rfl) (va_recv hK hP (ci := 6) (q0 := 3) rfl rfl) rfl hl.1 rfl (Nat.le_of_ble_eq_true rfl) dX7_send_46 ⟨Nat.le_of_ble_eq_true rfl, Nat.le_of_ble_eq_true rfl⟩) hP hD hS hA [3, 4] [0, 1, 2] rfl rfl (by decide) (by decide) (fun u H locs hw22 hP1 hD1 hS1 => ?_)
            obtain ⟨gy2_22, hu9⟩ : ∃ z, z = u := ⟨_, rfl⟩
            subst hu9
            clear hw22
            clear hP hD hS
            have hP : va_P D classes [(bL, .inl (cB, 9200, .inl gl3)), (bG, .inl (cI, 8, .inl gg2_1)), (bB, .inl (cI, 66, .inl gb2_1)), (aM, .inr (6, [.int th, .int mw, .ref bG, .int mz3, .ref bL, .ref bY, .ref bB, .ref bC, .int tk, .int ss, .int ml, .int mh, .int mp, .int rw, .int wr, .int tc, .ref bT])), (bY, .inl (cI, 116, .inl gy2_22))] H := hP1
            have hD : va_D A [(bL, .inl (cB, 9200, .inl gl3)), (bG, .inl (cI, 8, .inl gg2_1)), (bB, .inl (cI, 66, .inl gb2_1)), (aM, .inr (6, [.int th, .int mw, .ref bG, .int mz3, .ref bL, .ref bY, .ref bB, .ref bC, .int tk, .int ss, .int ml, .int mh, .int mp, .int rw, .int wr, .int tc, .ref bT])), (bY, .inl (cI, 116, .inl gy2_22))] := hD1
            have hS := hS1
            clear hP1 hD1 hS1
            refine lv_aload_n hx hb dX7_send_49 rfl (lv_at hl 1 rfl) ?_
            refine va_get (D := D) (ci := 6) (v := .ref bL) (C := RX7) (T := TX7) (N := 17) hx hb hts in_X7 hown hK hP 3 rfl rfl 4 (by decide) (hts _ wk62) (fun _ h9 => h9) rfl dX7_send_50 ?_
            refine lv_aload_n hx hb dX7_send_53 rfl (lv_at hl 1 rfl) ?_
            refine va_get (D := D) (ci := 6) (v := .int mz3) (C := RX7) (T := TX7) (N := 17) hx hb hts in_X7 hown hK hP 3 rfl rfl 3 (by decide) (hts _ wk67) (fun _ h9 => h9) rfl dX7_send_54 ?_
            refine lv_iload_n hx hb dX7_send_57 rfl (lv_at hl 0 rfl) ?_
            refine lv_i2b hx hb dX7_send_58 rfl ?_
            refine lv_topi (fun v23 e23 => ?_)
            obtain ⟨f24, ef24⟩ : ∃ z9, z9 = upd gl3 mz3.toNatClampNeg (vp_nar .byte v23) := ⟨_, rfl⟩
            refine va_bast hx hb hK hP hD hS 0 2 rfl rfl (zi_in (by omega)) dX7_send_59 (fun H locs hP1 hD1 hS1 => ?_)
            rw [← ef24] at hP1 hD1
            clear hP hD hS
            have hP : va_P D classes [(bL, .inl (cB, 9200, .inl f24)), (bG, .inl (cI, 8, .inl gg2_1)), (bB, .inl (cI, 66, .inl gb2_1)), (aM, .inr (6, [.int th, .int mw, .ref bG, .int mz3, .ref bL, .ref bY, .ref bB, .ref bC, .int tk, .int ss, .int ml, .int mh, .int mp, .int rw, .int wr, .int tc, .ref bT])), (bY, .inl (cI, 116, .inl gy2_22))] H := hP1
            have hD : va_D A [(bL, .inl (cB, 9200, .inl f24)), (bG, .inl (cI, 8, .inl gg2_1)), (bB, .inl (cI, 66, .inl gb2_1)), (aM, .inr (6, [.int th, .int mw, .ref bG, .int mz3, .ref bL, .ref bY, .ref bB, .ref bC, .int tk, .int ss, .int ml, .int mh, .int mp, .int rw, .int wr, .int tc, .ref bT])), (bY, .inl (cI, 116, .inl gy2_22))] := hD1
            have hS := hS1
            clear hP1 hD1 hS1
            refine lv_aload_n hx hb dX7_send_60 rfl (lv_at hl 1 rfl) ?_
            refine lv_dup hx hb dX7_send_61 rfl ?_
            refine va_get (D := D) (ci := 6) (v := .int mz3) (C := RX7) (T := TX7) (N := 17) hx hb hts in_X7 hown hK hP 3 rfl rfl 3 (by decide) (hts _ wk67) (fun _ h9 => h9) rfl dX7_send_62 ?_
            refine lv_iconst (v := 1) hx hb dX7_send_65 (by decide) ?_
            refine lv_topi (fun v25 e25 => ?_)
            have z25 : v25.toInt = 1 := zi_c e25 (by decide)
            refine lv_iadd hx hb dX7_send_66 ?_
            refine lv_topi (fun v26 e26 => ?_)
            first | have z26 := zi_add e26 (by omega) | skip
            refine va_put (D := D) (ci := 6) (v := .int v26) (ty := .int) (C := RX7) (T := TX7) (N := 17) hx hb hts in_X7 tyX7 tyX7_ok nmX7 hown hK hP hD hS 3 rfl rfl 3 (by decide) (hts _ wk67) (fun _ h9 => h9) rfl (by decide +kernel) rfl rfl (Nat.le_of_ble_eq_true rfl) dX7_send_67 (fun H locs hP1 hD1 hS1 => ?_)
            clear hP hD hS
            have hP : va_P D classes [(bL, .inl (cB, 9200, .inl f24)), (bG, .inl (cI, 8, .inl gg2_1)), (bB, .inl (cI, 66, .inl gb2_1)), (aM, .inr (6, [.int th, .int mw, .ref bG, .int v26, .ref bL, .ref bY, .ref bB, .ref bC, .int tk, .int ss, .int ml, .int mh, .int mp, .int rw, .int wr, .int tc, .ref bT])), (bY, .inl (cI, 116, .inl gy2_22))] H := hP1
            have hD : va_D A [(bL, .inl (cB, 9200, .inl f24)), (bG, .inl (cI, 8, .inl gg2_1)), (bB, .inl (cI, 66, .inl gb2_1)), (aM, .inr (6, [.int th, .int mw, .ref bG, .int v26, .ref bL, .ref bY, .ref bB, .ref bC, .int tk, .int ss, .int ml, .int mh, .int mp, .int rw, .int wr, .int tc, .ref bT])), (bY, .inl (cI, 116, .inl gy2_22))] := hD1
            have hS := hS1
            clear hP1 hD1 hS1
            obtain ⟨v27, e27⟩ : ∃ y : Int32, y = k + 1 := ⟨_, rfl⟩
            first | have z27 := zi_inc (z := 1) 1 (by decide) e27 (by omega) | skip
            refine lv_iinc (v := v27) (lv' := [(1, .int v27), (2, .int r12), (0, .ref aM)]) hx hb dX7_send_70 hl (k := 2) rfl (by rw [e27]; rfl) (by decide) rfl (fun ls hl => ?_)
            refine lv_goto (tgt := 6) hx hb dX7_send_73 (by decide) ?_
            exact ih6 v27 v26 f24 gy2_22 _ _ _ (by omega) (by omega) (by omega) (hP.sub [0, 4, 3, 1, 2] rfl) (hD.sub [0, 4, 3, 1, 2] (by decide) rfl) hS (lv_sub hl [2, 0] rfl)
        ·
          have z8 := zi_nle c8
          refine lv_aload_n hx hb dX7_send_17 rfl (lv_at hl 0 rfl) ?_
          refine va_get (D := D) (ci := 6) (v := .ref bB) (C := RX7) (T := TX7) (N := 17) hx hb hts in_X7 hown hK hP 2 rfl rfl 6 (by decide) (hts _ wk64) (fun _ h9 => h9) rfl dX7_send_18 ?_
          refine lv_iload_n hx hb dX7_send_21 rfl (lv_at hl 1 rfl) ?_
          refine va_iald hx hb hK hP 4 0 rfl rfl (zi_in (by omega)) dX7_send_22 ?_
          refine lv_topi (fun v28 e28 => ?_)
          refine lv_goto (tgt := 37) hx hb dX7_send_23 (by decide) ?_
          refine lv_istore_n (lv' := [(2, .int v28), (0, .ref aM), (1, .int k)]) hx hb dX7_send_37 rfl hl (by decide) rfl (fun ls hl => ?_)
          refine lv_iload_n hx hb dX7_send_38 rfl (lv_at hl 2 rfl) ?_
          refine lv_iconst (v := 1) hx hb dX7_send_39 (by decide) ?_
          refine lv_topi (fun v29 e29 => ?_)
          have z29 : v29.toInt = 1 := zi_c e29 (by decide)
          refine lv_icmp_le (tgt := 49) hx hb dX7_send_40 (by decide) (fun c30 => ?_) (fun c30 => ?_)
          ·
            have z30 := zi_le c30
            refine lv_aload_n hx hb dX7_send_49 rfl (lv_at hl 1 rfl) ?_
            refine va_get (D := D) (ci := 6) (v := .ref bL) (C := RX7) (T := TX7) (N := 17) hx hb hts in_X7 hown hK hP 2 rfl rfl 4 (by decide) (hts _ wk62) (fun _ h9 => h9) rfl dX7_send_50 ?_
            refine lv_aload_n hx hb dX7_send_53 rfl (lv_at hl 1 rfl) ?_
            refine va_get (D := D) (ci := 6) (v := .int mz3) (C := RX7) (T := TX7) (N := 17) hx hb hts in_X7 hown hK hP 2 rfl rfl 3 (by decide) (hts _ wk67) (fun _ h9 => h9) rfl dX7_send_54 ?_
            refine lv_iload_n hx hb dX7_send_57 rfl (lv_at hl 0 rfl) ?_
            refine lv_i2b hx hb dX7_send_58 rfl ?_
            refine lv_topi (fun v31 e31 => ?_)
            obtain ⟨f32, ef32⟩ : ∃ z9, z9 = upd gl3 mz3.toNatClampNeg (vp_nar .byte v31) := ⟨_, rfl⟩
            refine va_bast hx hb hK hP hD hS 0 2 rfl rfl (zi_in (by omega)) dX7_send_59 (fun H locs hP1 hD1 hS1 => ?_)
            rw [← ef32] at hP1 hD1
            clear hP hD hS
            have hP : va_P D classes [(bL, .inl (cB, 9200, .inl f32)), (bY, .inl (cI, 116, .inl gy3)), (aM, .inr (6, [.int th, .int mw, .ref bG, .int mz3, .ref bL, .ref bY, .ref bB, .ref bC, .int tk, .int ss, .int ml, .int mh, .int mp, .int rw, .int wr, .int tc, .ref bT])), (bG, .inl (cI, 8, .inl gg2_1)), (bB, .inl (cI, 66, .inl gb2_1))] H := hP1
            have hD : va_D A [(bL, .inl (cB, 9200, .inl f32)), (bY, .inl (cI, 116, .inl gy3)), (aM, .inr (6, [.int th, .int mw, .ref bG, .int mz3, .ref bL, .ref bY, .ref bB, .ref bC, .int tk, .int ss, .int ml, .int mh, .int mp, .int rw, .int wr, .int tc, .ref bT])), (bG, .inl (cI, 8, .inl gg2_1)), (bB, .inl (cI, 66, .inl gb2_1))] := hD1
            have hS := hS1
            clear hP1 hD1 hS1
            refine lv_aload_n hx hb dX7_send_60 rfl (lv_at hl 1 rfl) ?_
            refine lv_dup hx hb dX7_send_61 rfl ?_
            refine va_get (D := D) (ci := 6) (v := .int mz3) (C := RX7) (T := TX7) (N := 17) hx hb hts in_X7 hown hK hP 2 rfl rfl 3 (by decide) (hts _ wk67) (fun _ h9 => h9) rfl dX7_send_62 ?_
            refine lv_iconst (v := 1) hx hb dX7_send_65 (by decide) ?_
            refine lv_topi (fun v33 e33 => ?_)
            have z33 : v33.toInt = 1 := zi_c e33 (by decide)
            refine lv_iadd hx hb dX7_send_66 ?_
            refine lv_topi (fun v34 e34 => ?_)
            first | have z34 := zi_add e34 (by omega) | skip
            refine va_put (D := D) (ci := 6) (v := .int v34) (ty := .int) (C := RX7) (T := TX7) (N := 17) hx hb hts in_X7 tyX7 tyX7_ok nmX7 hown hK hP hD hS 2 rfl rfl 3 (by decide) (hts _ wk67) (fun _ h9 => h9) rfl (by decide +kernel) rfl rfl (Nat.le_of_ble_eq_true rfl) dX7_send_67 (fun H locs hP1 hD1 hS1 => ?_)
            clear hP hD hS
            have hP : va_P D classes [(bL, .inl (cB, 9200, .inl f32)), (bY, .inl (cI, 116, .inl gy3)), (aM, .inr (6, [.int th, .int mw, .ref bG, .int v34, .ref bL, .ref bY, .ref bB, .ref bC, .int tk, .int ss, .int ml, .int mh, .int mp, .int rw, .int wr, .int tc, .ref bT])), (bG, .inl (cI, 8, .inl gg2_1)), (bB, .inl (cI, 66, .inl gb2_1))] H := hP1
            have hD : va_D A [(bL, .inl (cB, 9200, .inl f32)), (bY, .inl (cI, 116, .inl gy3)), (aM, .inr (6, [.int th, .int mw, .ref bG, .int v34, .ref bL, .ref bY, .ref bB, .ref bC, .int tk, .int ss, .int ml, .int mh, .int mp, .int rw, .int wr, .int tc, .ref bT])), (bG, .inl (cI, 8, .inl gg2_1)), (bB, .inl (cI, 66, .inl gb2_1))] := hD1
            have hS := hS1
            clear hP1 hD1 hS1
            obtain ⟨v35, e35⟩ : ∃ y : Int32, y = k + 1 := ⟨_, rfl⟩
            first | have z35 := zi_inc (z := 1) 1 (by decide) e35 (by omega) | skip
            refine lv_iinc (v := v35) (lv' := [(1, .int v35), (2, .int v28), (0, .ref aM)]) hx hb dX7_send_70 hl (k := 2) rfl (by rw [e35]; rfl) (by decide) rfl (fun ls hl => ?_)
            refine lv_goto (tgt := 6) hx hb dX7_send_73 (by decide) ?_
            exact ih6 v35 v34 f32 gy3 _ _ _ (by omega) (by omega) (by omega) (hP.sub [0, 1, 2, 3, 4] rfl) (hD.sub [0, 1, 2, 3, 4] (by decide) rfl) hS (lv_sub hl [2, 0] rfl)
          ·
            have z30 := zi_nle c30
            refine lv_aload_n hx hb dX7_send_43 rfl (lv_at hl 1 rfl) ?_
            refine lv_iconst (v := 0) hx hb dX7_send_44 (by decide) ?_
            refine lv_topi (fun v36 e36 => ?_)
            have z36 : v36.toInt = 0 := zi_c e36 (by decide)
            refine lv_iload_n hx hb dX7_send_45 rfl (lv_at hl 0 rfl) ?_
            have hh37 : 0 ≤ v36.toInt ∧ v36.toInt ≤ 1 := (by omega)
            refine call_v (wc := [(aM, .inr (6, [.int th, .int mw, .ref bG, .int mz3, .ref bL, .ref bY, .ref bB, .ref bC, .int tk, .int ss, .int ml, .int mh, .int mp, .int rw, .int wr, .int tc, .ref bT])), (bY, .inl (cI, 116, .inl gy3))]) (wr := [(bL, .inl (cB, 9200, .inl gl3)), (bG, .inl (cI, 8, .inl gg2_1)), (bB, .inl (cI, 66, .inl gb2_1))]) (run_V (As := [.int v36, .int v28]) (rest := []) kv_RX7_70 ⟨by decide, by decide⟩ ⟨rfl, rfl⟩ ⟨hx, hb, hml, hown, hts⟩ (c_Mo_remember l D cI cJ cB aM bG bL bY bB bC bT th mw mz3 tk ss ml mh mp rw wr tc gy3 v36 v28 hh37 _) ct_blind (ct_pre (wc := [(aM, .inr (6, [.int th, .int mw, .ref bG, .int mz3, .ref bL, .ref bY, .ref bB, .ref bC, .int tk, .int ss, .int ml, .int mh, .int mp, .int rw, .int wr, .int tc, .ref bT])), (bY, .inl (cI, 116, .inl gy3))]) hK hP hD hS hA hZ hN [2, 1] (by decide) rfl rfl) (va_recv hK hP (ci := 6) (q0 := 2) rfl rfl) rfl hl.1 rfl (Nat.le_of_ble_eq_true rfl) dX7_send_46 ⟨Nat.le_of_ble_eq_true rfl, Nat.le_of_ble_eq_true rfl⟩) hP hD hS hA [2, 1] [0, 3, 4] rfl rfl (by decide) (by decide) (fun u H locs hw38 hP1 hD1 hS1 => ?_)
            obtain ⟨gy2_38, hu9⟩ : ∃ z, z = u := ⟨_, rfl⟩
            subst hu9
            clear hw38
            clear hP hD hS
            have hP : va_P D classes [(bL, .inl (cB, 9200, .inl gl3)), (bG, .inl (cI, 8, .inl gg2_1)), (bB, .inl (cI, 66, .inl gb2_1)), (aM, .inr (6, [.int th, .int mw, .ref bG, .int mz3, .ref bL, .ref bY, .ref bB, .ref bC, .int tk, .int ss, .int ml, .int mh, .int mp, .int rw, .int wr, .int tc, .ref bT])), (bY, .inl (cI, 116, .inl gy2_38))] H := hP1
            have hD : va_D A [(bL, .inl (cB, 9200, .inl gl3)), (bG, .inl (cI, 8, .inl gg2_1)), (bB, .inl (cI, 66, .inl gb2_1)), (aM, .inr (6, [.int th, .int mw, .ref bG, .int mz3, .ref bL, .ref bY, .ref bB, .ref bC, .int tk, .int ss, .int ml, .int mh, .int mp, .int rw, .int wr, .int tc, .ref bT])), (bY, .inl (cI, 116, .inl gy2_38))] := hD1
            have hS := hS1
            clear hP1 hD1 hS1
            refine lv_aload_n hx hb dX7_send_49 rfl (lv_at hl 1 rfl) ?_
            refine va_get (D := D) (ci := 6) (v := .ref bL) (C := RX7) (T := TX7) (N := 17) hx hb hts in_X7 hown hK hP 3 rfl rfl 4 (by decide) (hts _ wk62) (fun _ h9 => h9) rfl dX7_send_50 ?_
            refine lv_aload_n hx hb dX7_send_53 rfl (lv_at hl 1 rfl) ?_
            refine va_get (D := D) (ci := 6) (v := .int mz3) (C := RX7) (T := TX7) (N := 17) hx hb hts in_X7 hown hK hP 3 rfl rfl 3 (by decide) (hts _ wk67) (fun _ h9 => h9) rfl dX7_send_54 ?_
            refine lv_iload_n hx hb dX7_send_57 rfl (lv_at hl 0 rfl) ?_
            refine lv_i2b hx hb dX7_send_58 rfl ?_
            refine lv_topi (fun v39 e39 => ?_)
            obtain ⟨f40, ef40⟩ : ∃ z9, z9 = upd gl3 mz3.toNatClampNeg (vp_nar .byte v39) := ⟨_, rfl⟩
            refine va_bast hx hb hK hP hD hS 0 2 rfl rfl (zi_in (by omega)) dX7_send_59 (fun H locs hP1 hD1 hS1 => ?_)
            rw [← ef40] at hP1 hD1
            clear hP hD hS
            have hP : va_P D classes [(bL, .inl (cB, 9200, .inl f40)), (bG, .inl (cI, 8, .inl gg2_1)), (bB, .inl (cI, 66, .inl gb2_1)), (aM, .inr (6, [.int th, .int mw, .ref bG, .int mz3, .ref bL, .ref bY, .ref bB, .ref bC, .int tk, .int ss, .int ml, .int mh, .int mp, .int rw, .int wr, .int tc, .ref bT])), (bY, .inl (cI, 116, .inl gy2_38))] H := hP1
            have hD : va_D A [(bL, .inl (cB, 9200, .inl f40)), (bG, .inl (cI, 8, .inl gg2_1)), (bB, .inl (cI, 66, .inl gb2_1)), (aM, .inr (6, [.int th, .int mw, .ref bG, .int mz3, .ref bL, .ref bY, .ref bB, .ref bC, .int tk, .int ss, .int ml, .int mh, .int mp, .int rw, .int wr, .int tc, .ref bT])), (bY, .inl (cI, 116, .inl gy2_38))] := hD1
            have hS := hS1
            clear hP1 hD1 hS1
            refine lv_aload_n hx hb dX7_send_60 rfl (lv_at hl 1 rfl) ?_
            refine lv_dup hx hb dX7_send_61 rfl ?_
            refine va_get (D := D) (ci := 6) (v := .int mz3) (C := RX7) (T := TX7) (N := 17) hx hb hts in_X7 hown hK hP 3 rfl rfl 3 (by decide) (hts _ wk67) (fun _ h9 => h9) rfl dX7_send_62 ?_
            refine lv_iconst (v := 1) hx hb dX7_send_65 (by decide) ?_
            refine lv_topi (fun v41 e41 => ?_)
            have z41 : v41.toInt = 1 := zi_c e41 (by decide)
            refine lv_iadd hx hb dX7_send_66 ?_
            refine lv_topi (fun v42 e42 => ?_)
            first | have z42 := zi_add e42 (by omega) | skip
            refine va_put (D := D) (ci := 6) (v := .int v42) (ty := .int) (C := RX7) (T := TX7) (N := 17) hx hb hts in_X7 tyX7 tyX7_ok nmX7 hown hK hP hD hS 3 rfl rfl 3 (by decide) (hts _ wk67) (fun _ h9 => h9) rfl (by decide +kernel) rfl rfl (Nat.le_of_ble_eq_true rfl) dX7_send_67 (fun H locs hP1 hD1 hS1 => ?_)
            clear hP hD hS
            have hP : va_P D classes [(bL, .inl (cB, 9200, .inl f40)), (bG, .inl (cI, 8, .inl gg2_1)), (bB, .inl (cI, 66, .inl gb2_1)), (aM, .inr (6, [.int th, .int mw, .ref bG, .int v42, .ref bL, .ref bY, .ref bB, .ref bC, .int tk, .int ss, .int ml, .int mh, .int mp, .int rw, .int wr, .int tc, .ref bT])), (bY, .inl (cI, 116, .inl gy2_38))] H := hP1
            have hD : va_D A [(bL, .inl (cB, 9200, .inl f40)), (bG, .inl (cI, 8, .inl gg2_1)), (bB, .inl (cI, 66, .inl gb2_1)), (aM, .inr (6, [.int th, .int mw, .ref bG, .int v42, .ref bL, .ref bY, .ref bB, .ref bC, .int tk, .int ss, .int ml, .int mh, .int mp, .int rw, .int wr, .int tc, .ref bT])), (bY, .inl (cI, 116, .inl gy2_38))] := hD1
            have hS := hS1
            clear hP1 hD1 hS1
            obtain ⟨v43, e43⟩ : ∃ y : Int32, y = k + 1 := ⟨_, rfl⟩
            first | have z43 := zi_inc (z := 1) 1 (by decide) e43 (by omega) | skip
            refine lv_iinc (v := v43) (lv' := [(1, .int v43), (2, .int v28), (0, .ref aM)]) hx hb dX7_send_70 hl (k := 2) rfl (by rw [e43]; rfl) (by decide) rfl (fun ls hl => ?_)
            refine lv_goto (tgt := 6) hx hb dX7_send_73 (by decide) ?_
            exact ih6 v43 v42 f40 gy2_38 _ _ _ (by omega) (by omega) (by omega) (hP.sub [0, 4, 3, 1, 2] rfl) (hD.sub [0, 4, 3, 1, 2] (by decide) rfl) hS (lv_sub hl [2, 0] rfl)
  exact J6 _ v2 mz gl gy _ _ _ (Nat.lt_succ_self _) (by omega) (by omega) (hP.sub [0, 1, 2, 3, 4] rfl) (hD.sub [0, 1, 2, 3, 4] (by decide) rfl) hS (lv_sub hl [1, 0] rfl)

set_option maxHeartbeats 4000000 in
set_option maxRecDepth 100000 in
theorem c_Mo_put (l : Launch) (D : va_G) (cI cJ cB : ClassId) (aM : Nat) (bG : Nat) (bL : Nat) (bY : Nat) (bB : Nat) (bC : Nat) (bT : Nat) (th : Int32) (mw : Int32) (mz : Int32) (tk : Int32) (ss : Int32) (ml : Int32) (mh : Int32) (mp : Int32) (rw : Int32) (wr : Int32) (tc : Int32) (gg : Nat → Int32) (gl : Nat → Int32) (gy : Nat → Int32) (gb : Nat → Int32) (ch : Int32) (h1 : 0 ≤ mz.toInt ∧ mz.toInt ≤ 9066) (h2 : 0 ≤ mw.toInt ∧ mw.toInt < 8) :
    cti l yX7_put (wsOf yX7_put cX7_put 2 (some .int)) (rmL 4 91 0 0) D classes (tys3 cI cJ cB) [.ref aM, .int ch] [(aM, .inr (6, [.int th, .int mw, .ref bG, .int mz, .ref bL, .ref bY, .ref bB, .ref bC, .int tk, .int ss, .int ml, .int mh, .int mp, .int rw, .int wr, .int tc, .ref bT])), (bG, .inl (cI, 8, .inl gg)), (bL, .inl (cB, 9200, .inl gl)), (bY, .inl (cI, 116, .inl gy)), (bB, .inl (cI, 66, .inl gb))] (fun (r : Int32) (u : Int32 × Int32 × Int32 × (Nat → Int32) × (Nat → Int32) × (Nat → Int32) × (Nat → Int32)) => ((ch.toInt < 0 ∨ 259 < ch.toInt) → r.toInt = -12 ∧ u.2.1.toInt = mw.toInt ∧ u.2.2.1.toInt = mz.toInt) ∧ ((0 ≤ ch.toInt ∧ ch.toInt ≤ 259) → ((mw.toInt = 7 ∧ 9000 ≤ mz.toInt) → r.toInt = -14 ∧ u.2.1.toInt = mw.toInt ∧ u.2.2.1.toInt = mz.toInt) ∧ ((mw.toInt = 7 ∧ mz.toInt < 9000) → r.toInt = 0 ∧ u.2.1.toInt = 0 ∧ u.2.2.1.toInt = mz.toInt + 66) ∧ (mw.toInt < 7 → r.toInt = mw.toInt + 1 ∧ u.2.1.toInt = mw.toInt + 1 ∧ u.2.2.1.toInt = mz.toInt))) (fun u : Int32 × Int32 × Int32 × (Nat → Int32) × (Nat → Int32) × (Nat → Int32) × (Nat → Int32) => ([(aM, .inr (6, [.int u.1, .int u.2.1, .ref bG, .int u.2.2.1, .ref bL, .ref bY, .ref bB, .ref bC, .int tk, .int ss, .int ml, .int mh, .int mp, .int rw, .int wr, .int tc, .ref bT])), (bG, .inl (cI, 8, .inl u.2.2.2.1)), (bL, .inl (cB, 9200, .inl u.2.2.2.2.1)), (bY, .inl (cI, 116, .inl u.2.2.2.2.2.1)), (bB, .inl (cI, 66, .inl u.2.2.2.2.2.2))] : va_W)) := by
  refine cti.of (by first | exact plainFor_of_name (by decide) | decide +kernel) (Nat.le_of_ble_eq_true rfl) (fun p e s m args below meth c A ls Q h hret => ?_)
  obtain ⟨hx, hb, hml, hown, hts, hnm, hP, hK, hD, hA, hS, hZ, hN, hl⟩ := h
  have hown : s.vm.findClass RX7 = some m.cls := hown
  have hl : lv_has ls 2 [(0, .ref aM), (1, .int ch)] := hl
  have hP : va_P D classes [(aM, .inr (6, [.int th, .int mw, .ref bG, .int mz, .ref bL, .ref bY, .ref bB, .ref bC, .int tk, .int ss, .int ml, .int mh, .int mp, .int rw, .int wr, .int tc, .ref bT])), (bG, .inl (cI, 8, .inl gg)), (bL, .inl (cB, 9200, .inl gl)), (bY, .inl (cI, 116, .inl gy)), (bB, .inl (cI, 66, .inl gb))] s.heap := hP
  have hD : va_D A [(aM, .inr (6, [.int th, .int mw, .ref bG, .int mz, .ref bL, .ref bY, .ref bB, .ref bC, .int tk, .int ss, .int ml, .int mh, .int mp, .int rw, .int wr, .int tc, .ref bT])), (bG, .inl (cI, 8, .inl gg)), (bL, .inl (cB, 9200, .inl gl)), (bY, .inl (cI, 116, .inl gy)), (bB, .inl (cI, 66, .inl gb))] := hD
  have rg_th := zi_rg th
  have rg_mw := zi_rg mw
  have rg_mz := zi_rg mz
  have rg_tk := zi_rg tk
  have rg_ss := zi_rg ss
  have rg_ml := zi_rg ml
  have rg_mh := zi_rg mh
  have rg_mp := zi_rg mp
  have rg_rw := zi_rg rw
  have rg_wr := zi_rg wr
  have rg_tc := zi_rg tc
  have rg_ch := zi_rg ch
  refine lv_aload_n hx hb dX7_put_0 rfl (lv_at hl 0 rfl) ?_
  refine lv_iconst (v := 0) hx hb dX7_put_1 (by decide) ?_
  refine lv_topi (fun v1 e1 => ?_)
  have z1 : v1.toInt = 0 := zi_c e1 (by decide)
  refine va_put (D := D) (ci := 6) (v := .int v1) (ty := .int) (C := RX7) (T := TX7) (N := 17) hx hb hts in_X7 tyX7 tyX7_ok nmX7 hown hK hP hD hS 0 rfl rfl 0 (by decide) (hts _ wk163) (fun _ h9 => h9) rfl (by decide +kernel) rfl rfl (Nat.le_of_ble_eq_true rfl) dX7_put_2 (fun H locs hP1 hD1 hS1 => ?_)
  clear hP hD hS
  have hP : va_P D classes [(aM, .inr (6, [.int v1, .int mw, .ref bG, .int mz, .ref bL, .ref bY, .ref bB, .ref bC, .int tk, .int ss, .int ml, .int mh, .int mp, .int rw, .int wr, .int tc, .ref bT])), (bG, .inl (cI, 8, .inl gg)), (bL, .inl (cB, 9200, .inl gl)), (bY, .inl (cI, 116, .inl gy)), (bB, .inl (cI, 66, .inl gb))] H := hP1
  have hD : va_D A [(aM, .inr (6, [.int v1, .int mw, .ref bG, .int mz, .ref bL, .ref bY, .ref bB, .ref bC, .int tk, .int ss, .int ml, .int mh, .int mp, .int rw, .int wr, .int tc, .ref bT])), (bG, .inl (cI, 8, .inl gg)), (bL, .inl (cB, 9200, .inl gl)), (bY, .inl (cI, 116, .inl gy)), (bB, .inl (cI, 66, .inl gb))] := hD1
  have hS := hS1
  clear hP1 hD1 hS1
  refine lv_iload_n hx hb dX7_put_5 rfl (lv_at hl 1 rfl) ?_
  refine lv_if_lt (tgt := 16) hx hb dX7_put_6 (by decide) (fun c2 => ?_) (fun c2 => ?_)
  ·
    have z2 := zi_lt0 c2
    refine lv_bipush (v := -12) hx hb dX7_put_16 (by decide) ?_
    refine lv_topi (fun v3 e3 => ?_)
    have z3 : v3.toInt = (-12) := zi_c e3 (by decide)
    have hq4 : ((ch.toInt < 0 ∨ 259 < ch.toInt) → v3.toInt = -12 ∧ mw.toInt = mw.toInt ∧ mz.toInt = mz.toInt) ∧ ((0 ≤ ch.toInt ∧ ch.toInt ≤ 259) → ((mw.toInt = 7 ∧ 9000 ≤ mz.toInt) → v3.toInt = -14 ∧ mw.toInt = mw.toInt ∧ mz.toInt = mz.toInt) ∧ ((mw.toInt = 7 ∧ mz.toInt < 9000) → v3.toInt = 0 ∧ mw.toInt = 0 ∧ mz.toInt = mz.toInt + 66) ∧ (mw.toInt < 7 → v3.toInt = mw.toInt + 1 ∧ mw.toInt = mw.toInt + 1 ∧ mz.toInt = mz.toInt)) := (by omega)
    exact hret v3 (v1, mw, mz, gg, gl, gy, gb) _ _ _ _ dX7_put_18 hq4 (hP.sub [0, 1, 2, 3, 4] rfl) (hD.sub [0, 1, 2, 3, 4] (by decide) rfl) hS
  ·
    have z2 := zi_nlt0 c2
    refine lv_iload_n hx hb dX7_put_9 rfl (lv_at hl 1 rfl) ?_
    refine lv_sipush (v := 259) hx hb dX7_put_10 (by decide) ?_
    refine lv_topi (fun v5 e5 => ?_)
    have z5 : v5.toInt = 259 := zi_c e5 (by decide)
    refine lv_icmp_le (tgt := 19) hx hb dX7_put_13 (by decide) (fun c6 => ?_) (fun c6 => ?_)
    ·
      have z6 := zi_le c6
      refine lv_aload_n hx hb dX7_put_19 rfl (lv_at hl 0 rfl) ?_
      refine va_get (D := D) (ci := 6) (v := .int mw) (C := RX7) (T := TX7) (N := 17) hx hb hts in_X7 hown hK hP 0 rfl rfl 1 (by decide) (hts _ wk164) (fun _ h9 => h9) rfl dX7_put_20 ?_
      refine lv_bipush (v := 7) hx hb dX7_put_23 (by decide) ?_
      refine lv_topi (fun v7 e7 => ?_)
      have z7 : v7.toInt = 7 := zi_c e7 (by decide)
      refine lv_icmp_ne (tgt := 41) hx hb dX7_put_25 (by decide) (fun c8 => ?_) (fun c8 => ?_)
      ·
        have z8 := zi_ne c8
        refine lv_aload_n hx hb dX7_put_41 rfl (lv_at hl 0 rfl) ?_
        refine va_get (D := D) (ci := 6) (v := .ref bG) (C := RX7) (T := TX7) (N := 17) hx hb hts in_X7 hown hK hP 0 rfl rfl 2 (by decide) (hts _ wk60) (fun _ h9 => h9) rfl dX7_put_42 ?_
        refine lv_aload_n hx hb dX7_put_45 rfl (lv_at hl 0 rfl) ?_
        refine va_get (D := D) (ci := 6) (v := .int mw) (C := RX7) (T := TX7) (N := 17) hx hb hts in_X7 hown hK hP 0 rfl rfl 1 (by decide) (hts _ wk164) (fun _ h9 => h9) rfl dX7_put_46 ?_
        refine lv_iload_n hx hb dX7_put_49 rfl (lv_at hl 1 rfl) ?_
        obtain ⟨f9, ef9⟩ : ∃ z9, z9 = upd gg mw.toNatClampNeg ch := ⟨_, rfl⟩
        refine va_iast hx hb hK hP hD hS 1 0 rfl rfl (zi_in (by omega)) dX7_put_50 (fun H locs hP1 hD1 hS1 => ?_)
        rw [← ef9] at hP1 hD1
        clear hP hD hS
        have hP : va_P D classes [(aM, .inr (6, [.int v1, .int mw, .ref bG, .int mz, .ref bL, .ref bY, .ref bB, .ref bC, .int tk, .int ss, .int ml, .int mh, .int mp, .int rw, .int wr, .int tc, .ref bT])), (bG, .inl (cI, 8, .inl f9)), (bL, .inl (cB, 9200, .inl gl)), (bY, .inl (cI, 116, .inl gy)), (bB, .inl (cI, 66, .inl gb))] H := hP1
        have hD : va_D A [(aM, .inr (6, [.int v1, .int mw, .ref bG, .int mz, .ref bL, .ref bY, .ref bB, .ref bC, .int tk, .int ss, .int ml, .int mh, .int mp, .int rw, .int wr, .int tc, .ref bT])), (bG, .inl (cI, 8, .inl f9)), (bL, .inl (cB, 9200, .inl gl)), (bY, .inl (cI, 116, .inl gy)), (bB, .inl (cI, 66, .inl gb))] := hD1
        have hS := hS1
        clear hP1 hD1 hS1
        refine lv_aload_n hx hb dX7_put_51 rfl (lv_at hl 0 rfl) ?_
        refine lv_dup hx hb dX7_put_52 rfl ?_
        refine va_get (D := D) (ci := 6) (v := .int mw) (C := RX7) (T := TX7) (N := 17) hx hb hts in_X7 hown hK hP 0 rfl rfl 1 (by decide) (hts _ wk164) (fun _ h9 => h9) rfl dX7_put_53 ?_
        refine lv_iconst (v := 1) hx hb dX7_put_56 (by decide) ?_
        refine lv_topi (fun v10 e10 => ?_)
        have z10 : v10.toInt = 1 := zi_c e10 (by decide)
        refine lv_iadd hx hb dX7_put_57 ?_
        refine lv_topi (fun v11 e11 => ?_)
        first | have z11 := zi_add e11 (by omega) | skip
        refine va_put (D := D) (ci := 6) (v := .int v11) (ty := .int) (C := RX7) (T := TX7) (N := 17) hx hb hts in_X7 tyX7 tyX7_ok nmX7 hown hK hP hD hS 0 rfl rfl 1 (by decide) (hts _ wk164) (fun _ h9 => h9) rfl (by decide +kernel) rfl rfl (Nat.le_of_ble_eq_true rfl) dX7_put_58 (fun H locs hP1 hD1 hS1 => ?_)
        clear hP hD hS
        have hP : va_P D classes [(aM, .inr (6, [.int v1, .int v11, .ref bG, .int mz, .ref bL, .ref bY, .ref bB, .ref bC, .int tk, .int ss, .int ml, .int mh, .int mp, .int rw, .int wr, .int tc, .ref bT])), (bG, .inl (cI, 8, .inl f9)), (bL, .inl (cB, 9200, .inl gl)), (bY, .inl (cI, 116, .inl gy)), (bB, .inl (cI, 66, .inl gb))] H := hP1
        have hD : va_D A [(aM, .inr (6, [.int v1, .int v11, .ref bG, .int mz, .ref bL, .ref bY, .ref bB, .ref bC, .int tk, .int ss, .int ml, .int mh, .int mp, .int rw, .int wr, .int tc, .ref bT])), (bG, .inl (cI, 8, .inl f9)), (bL, .inl (cB, 9200, .inl gl)), (bY, .inl (cI, 116, .inl gy)), (bB, .inl (cI, 66, .inl gb))] := hD1
        have hS := hS1
        clear hP1 hD1 hS1
        refine lv_aload_n hx hb dX7_put_61 rfl (lv_at hl 0 rfl) ?_
        refine va_get (D := D) (ci := 6) (v := .int v11) (C := RX7) (T := TX7) (N := 17) hx hb hts in_X7 hown hK hP 0 rfl rfl 1 (by decide) (hts _ wk164) (fun _ h9 => h9) rfl dX7_put_62 ?_
        refine lv_bipush (v := 8) hx hb dX7_put_65 (by decide) ?_
        refine lv_topi (fun v12 e12 => ?_)
        have z12 : v12.toInt = 8 := zi_c e12 (by decide)
        refine lv_icmp_ne (tgt := 74) hx hb dX7_put_67 (by decide) (fun c13 => ?_) (fun c13 => ?_)
        ·
          have z13 := zi_ne c13
          refine lv_aload_n hx hb dX7_put_74 rfl (lv_at hl 0 rfl) ?_
          refine va_get (D := D) (ci := 6) (v := .int v11) (C := RX7) (T := TX7) (N := 17) hx hb hts in_X7 hown hK hP 0 rfl rfl 1 (by decide) (hts _ wk164) (fun _ h9 => h9) rfl dX7_put_75 ?_
          have hq14 : ((ch.toInt < 0 ∨ 259 < ch.toInt) → v11.toInt = -12 ∧ v11.toInt = mw.toInt ∧ mz.toInt = mz.toInt) ∧ ((0 ≤ ch.toInt ∧ ch.toInt ≤ 259) → ((mw.toInt = 7 ∧ 9000 ≤ mz.toInt) → v11.toInt = -14 ∧ v11.toInt = mw.toInt ∧ mz.toInt = mz.toInt) ∧ ((mw.toInt = 7 ∧ mz.toInt < 9000) → v11.toInt = 0 ∧ v11.toInt = 0 ∧ mz.toInt = mz.toInt + 66) ∧ (mw.toInt < 7 → v11.toInt = mw.toInt + 1 ∧ v11.toInt = mw.toInt + 1 ∧ mz.toInt = mz.toInt)) := (by omega)
          exact hret v11 (v1, v11, mz, f9, gl, gy, gb) _ _ _ _ dX7_put_78 hq14 (hP.sub [0, 1, 2, 3, 4] rfl) (hD.sub [0, 1, 2, 3, 4] (by decide) rfl) hS
        ·
          have z13 := zi_eq c13
          refine lv_aload_n hx hb dX7_put_70 rfl (lv_at hl 0 rfl) ?_
          have hh15 : 0 ≤ mz.toInt ∧ mz.toInt + 66 ≤ 9200 := (by omega)
          refine call_v (wc := [(aM, .inr (6, [.int v1, .int v11, .ref bG, .int mz, .ref bL, .ref bY, .ref bB, .ref bC, .int tk, .int ss, .int ml, .int mh, .int mp, .int rw, .int wr, .int tc, .ref bT])), (bG, .inl (cI, 8, .inl f9)), (bL, .inl (cB, 9200, .inl gl)), (bY, .inl (cI, 116, .inl gy)), (bB, .inl (cI, 66, .inl gb))]) (wr := []) (run_V (As := []) (rest := []) kv_RX7_76 ⟨by decide, by decide⟩ ⟨rfl, rfl⟩ ⟨hx, hb, hml, hown, hts⟩ (c_Mo_send l D cI cJ cB aM bG bL bY bB bC bT v1 v11 mz tk ss ml mh mp rw wr tc f9 gl gy gb hh15 _) ct_blind (ct_pre (wc := [(aM, .inr (6, [.int v1, .int v11, .ref bG, .int mz, .ref bL, .ref bY, .ref bB, .ref bC, .int tk, .int ss, .int ml, .int mh, .int mp, .int rw, .int wr, .int tc, .ref bT])), (bG, .inl (cI, 8, .inl f9)), (bL, .inl (cB, 9200, .inl gl)), (bY, .inl (cI, 116, .inl gy)), (bB, .inl (cI, 66, .inl gb))]) hK hP hD hS hA hZ hN [0, 1, 2, 3, 4] (by decide) rfl rfl) (va_recv hK hP (ci := 6) (q0 := 0) rfl rfl) rfl hl.1 rfl (Nat.le_of_ble_eq_true rfl) dX7_put_71 ⟨Nat.le_of_ble_eq_true rfl, Nat.le_of_ble_eq_true rfl⟩) hP hD hS hA [0, 1, 2, 3, 4] [] rfl rfl (by decide) (by decide) (fun u H locs hw16 hP1 hD1 hS1 => ?_)
          obtain ⟨mw2_16, mz2_16, gg2_16, gl2_16, gy2_16, gb2_16⟩ := u
          have hw16 : mw2_16.toInt = 0 ∧ mz2_16.toInt = mz.toInt + 66 := hw16
          clear hP hD hS
          have hP : va_P D classes [(aM, .inr (6, [.int v1, .int mw2_16, .ref bG, .int mz2_16, .ref bL, .ref bY, .ref bB, .ref bC, .int tk, .int ss, .int ml, .int mh, .int mp, .int rw, .int wr, .int tc, .ref bT])), (bG, .inl (cI, 8, .inl gg2_16)), (bL, .inl (cB, 9200, .inl gl2_16)), (bY, .inl (cI, 116, .inl gy2_16)), (bB, .inl (cI, 66, .inl gb2_16))] H := hP1
          have hD : va_D A [(aM, .inr (6, [.int v1, .int mw2_16, .ref bG, .int mz2_16, .ref bL, .ref bY, .ref bB, .ref bC, .int tk, .int ss, .int ml, .int mh, .int mp, .int rw, .int wr, .int tc, .ref bT])), (bG, .inl (cI, 8, .inl gg2_16)), (bL, .inl (cB, 9200, .inl gl2_16)), (bY, .inl (cI, 116, .inl gy2_16)), (bB, .inl (cI, 66, .inl gb2_16))] := hD1
          have hS := hS1
          clear hP1 hD1 hS1
          have rg_mw2_16 := zi_rg mw2_16
          have rg_mz2_16 := zi_rg mz2_16
          refine lv_aload_n hx hb dX7_put_74 rfl (lv_at hl 0 rfl) ?_
          refine va_get (D := D) (ci := 6) (v := .int mw2_16) (C := RX7) (T := TX7) (N := 17) hx hb hts in_X7 hown hK hP 0 rfl rfl 1 (by decide) (hts _ wk164) (fun _ h9 => h9) rfl dX7_put_75 ?_
          have hq17 : ((ch.toInt < 0 ∨ 259 < ch.toInt) → mw2_16.toInt = -12 ∧ mw2_16.toInt = mw.toInt ∧ mz2_16.toInt = mz.toInt) ∧ ((0 ≤ ch.toInt ∧ ch.toInt ≤ 259) → ((mw.toInt = 7 ∧ 9000 ≤ mz.toInt) → mw2_16.toInt = -14 ∧ mw2_16.toInt = mw.toInt ∧ mz2_16.toInt = mz.toInt) ∧ ((mw.toInt = 7 ∧ mz.toInt < 9000) → mw2_16.toInt = 0 ∧ mw2_16.toInt = 0 ∧ mz2_16.toInt = mz.toInt + 66) ∧ (mw.toInt < 7 → mw2_16.toInt = mw.toInt + 1 ∧ mw2_16.toInt = mw.toInt + 1 ∧ mz2_16.toInt = mz.toInt)) := (by omega)
          exact hret mw2_16 (v1, mw2_16, mz2_16, gg2_16, gl2_16, gy2_16, gb2_16) _ _ _ _ dX7_put_78 hq17 (hP.sub [0, 1, 2, 3, 4] rfl) (hD.sub [0, 1, 2, 3, 4] (by decide) rfl) hS
      ·
        have z8 := zi_eq c8
        refine lv_aload_n hx hb dX7_put_28 rfl (lv_at hl 0 rfl) ?_
        refine va_get (D := D) (ci := 6) (v := .int mz) (C := RX7) (T := TX7) (N := 17) hx hb hts in_X7 hown hK hP 0 rfl rfl 3 (by decide) (hts _ wk67) (fun _ h9 => h9) rfl dX7_put_29 ?_
        refine lv_sipush (v := 9000) hx hb dX7_put_32 (by decide) ?_
        refine lv_topi (fun v18 e18 => ?_)
        have z18 : v18.toInt = 9000 := zi_c e18 (by decide)
        refine lv_icmp_lt (tgt := 41) hx hb dX7_put_35 (by decide) (fun c19 => ?_) (fun c19 => ?_)
        ·
          have z19 := zi_lt c19
          refine lv_aload_n hx hb dX7_put_41 rfl (lv_at hl 0 rfl) ?_
          refine va_get (D := D) (ci := 6) (v := .ref bG) (C := RX7) (T := TX7) (N := 17) hx hb hts in_X7 hown hK hP 0 rfl rfl 2 (by decide) (hts _ wk60) (fun _ h9 => h9) rfl dX7_put_42 ?_
          refine lv_aload_n hx hb dX7_put_45 rfl (lv_at hl 0 rfl) ?_
          refine va_get (D := D) (ci := 6) (v := .int mw) (C := RX7) (T := TX7) (N := 17) hx hb hts in_X7 hown hK hP 0 rfl rfl 1 (by decide) (hts _ wk164) (fun _ h9 => h9) rfl dX7_put_46 ?_
          refine lv_iload_n hx hb dX7_put_49 rfl (lv_at hl 1 rfl) ?_
          obtain ⟨f20, ef20⟩ : ∃ z9, z9 = upd gg mw.toNatClampNeg ch := ⟨_, rfl⟩
          refine va_iast hx hb hK hP hD hS 1 0 rfl rfl (zi_in (by omega)) dX7_put_50 (fun H locs hP1 hD1 hS1 => ?_)
          rw [← ef20] at hP1 hD1
          clear hP hD hS
          have hP : va_P D classes [(aM, .inr (6, [.int v1, .int mw, .ref bG, .int mz, .ref bL, .ref bY, .ref bB, .ref bC, .int tk, .int ss, .int ml, .int mh, .int mp, .int rw, .int wr, .int tc, .ref bT])), (bG, .inl (cI, 8, .inl f20)), (bL, .inl (cB, 9200, .inl gl)), (bY, .inl (cI, 116, .inl gy)), (bB, .inl (cI, 66, .inl gb))] H := hP1
          have hD : va_D A [(aM, .inr (6, [.int v1, .int mw, .ref bG, .int mz, .ref bL, .ref bY, .ref bB, .ref bC, .int tk, .int ss, .int ml, .int mh, .int mp, .int rw, .int wr, .int tc, .ref bT])), (bG, .inl (cI, 8, .inl f20)), (bL, .inl (cB, 9200, .inl gl)), (bY, .inl (cI, 116, .inl gy)), (bB, .inl (cI, 66, .inl gb))] := hD1
          have hS := hS1
          clear hP1 hD1 hS1
          refine lv_aload_n hx hb dX7_put_51 rfl (lv_at hl 0 rfl) ?_
          refine lv_dup hx hb dX7_put_52 rfl ?_
          refine va_get (D := D) (ci := 6) (v := .int mw) (C := RX7) (T := TX7) (N := 17) hx hb hts in_X7 hown hK hP 0 rfl rfl 1 (by decide) (hts _ wk164) (fun _ h9 => h9) rfl dX7_put_53 ?_
          refine lv_iconst (v := 1) hx hb dX7_put_56 (by decide) ?_
          refine lv_topi (fun v21 e21 => ?_)
          have z21 : v21.toInt = 1 := zi_c e21 (by decide)
          refine lv_iadd hx hb dX7_put_57 ?_
          refine lv_topi (fun v22 e22 => ?_)
          first | have z22 := zi_add e22 (by omega) | skip
          refine va_put (D := D) (ci := 6) (v := .int v22) (ty := .int) (C := RX7) (T := TX7) (N := 17) hx hb hts in_X7 tyX7 tyX7_ok nmX7 hown hK hP hD hS 0 rfl rfl 1 (by decide) (hts _ wk164) (fun _ h9 => h9) rfl (by decide +kernel) rfl rfl (Nat.le_of_ble_eq_true rfl) dX7_put_58 (fun H locs hP1 hD1 hS1 => ?_)
          clear hP hD hS
          have hP : va_P D classes [(aM, .inr (6, [.int v1, .int v22, .ref bG, .int mz, .ref bL, .ref bY, .ref bB, .ref bC, .int tk, .int ss, .int ml, .int mh, .int mp, .int rw, .int wr, .int tc, .ref bT])), (bG, .inl (cI, 8, .inl f20)), (bL, .inl (cB, 9200, .inl gl)), (bY, .inl (cI, 116, .inl gy)), (bB, .inl (cI, 66, .inl gb))] H := hP1
          have hD : va_D A [(aM, .inr (6, [.int v1, .int v22, .ref bG, .int mz, .ref bL, .ref bY, .ref bB, .ref bC, .int tk, .int ss, .int ml, .int mh, .int mp, .int rw, .int wr, .int tc, .ref bT])), (bG, .inl (cI, 8, .inl f20)), (bL, .inl (cB, 9200, .inl gl)), (bY, .inl (cI, 116, .inl gy)), (bB, .inl (cI, 66, .inl gb))] := hD1
          have hS := hS1
          clear hP1 hD1 hS1
          refine lv_aload_n hx hb dX7_put_61 rfl (lv_at hl 0 rfl) ?_
          refine va_get (D := D) (ci := 6) (v := .int v22) (C := RX7) (T := TX7) (N := 17) hx hb hts in_X7 hown hK hP 0 rfl rfl 1 (by decide) (hts _ wk164) (fun _ h9 => h9) rfl dX7_put_62 ?_
          refine lv_bipush (v := 8) hx hb dX7_put_65 (by decide) ?_
          refine lv_topi (fun v23 e23 => ?_)
          have z23 : v23.toInt = 8 := zi_c e23 (by decide)
          refine lv_icmp_ne (tgt := 74) hx hb dX7_put_67 (by decide) (fun c24 => ?_) (fun c24 => ?_)
          ·
            have z24 := zi_ne c24
            refine lv_aload_n hx hb dX7_put_74 rfl (lv_at hl 0 rfl) ?_
            refine va_get (D := D) (ci := 6) (v := .int v22) (C := RX7) (T := TX7) (N := 17) hx hb hts in_X7 hown hK hP 0 rfl rfl 1 (by decide) (hts _ wk164) (fun _ h9 => h9) rfl dX7_put_75 ?_
            have hq25 : ((ch.toInt < 0 ∨ 259 < ch.toInt) → v22.toInt = -12 ∧ v22.toInt = mw.toInt ∧ mz.toInt = mz.toInt) ∧ ((0 ≤ ch.toInt ∧ ch.toInt ≤ 259) → ((mw.toInt = 7 ∧ 9000 ≤ mz.toInt) → v22.toInt = -14 ∧ v22.toInt = mw.toInt ∧ mz.toInt = mz.toInt) ∧ ((mw.toInt = 7 ∧ mz.toInt < 9000) → v22.toInt = 0 ∧ v22.toInt = 0 ∧ mz.toInt = mz.toInt + 66) ∧ (mw.toInt < 7 → v22.toInt = mw.toInt + 1 ∧ v22.toInt = mw.toInt + 1 ∧ mz.toInt = mz.toInt)) := (by omega)
            exact hret v22 (v1, v22, mz, f20, gl, gy, gb) _ _ _ _ dX7_put_78 hq25 (hP.sub [0, 1, 2, 3, 4] rfl) (hD.sub [0, 1, 2, 3, 4] (by decide) rfl) hS
          ·
            have z24 := zi_eq c24
            refine lv_aload_n hx hb dX7_put_70 rfl (lv_at hl 0 rfl) ?_
            have hh26 : 0 ≤ mz.toInt ∧ mz.toInt + 66 ≤ 9200 := (by omega)
            refine call_v (wc := [(aM, .inr (6, [.int v1, .int v22, .ref bG, .int mz, .ref bL, .ref bY, .ref bB, .ref bC, .int tk, .int ss, .int ml, .int mh, .int mp, .int rw, .int wr, .int tc, .ref bT])), (bG, .inl (cI, 8, .inl f20)), (bL, .inl (cB, 9200, .inl gl)), (bY, .inl (cI, 116, .inl gy)), (bB, .inl (cI, 66, .inl gb))]) (wr := []) (run_V (As := []) (rest := []) kv_RX7_76 ⟨by decide, by decide⟩ ⟨rfl, rfl⟩ ⟨hx, hb, hml, hown, hts⟩ (c_Mo_send l D cI cJ cB aM bG bL bY bB bC bT v1 v22 mz tk ss ml mh mp rw wr tc f20 gl gy gb hh26 _) ct_blind (ct_pre (wc := [(aM, .inr (6, [.int v1, .int v22, .ref bG, .int mz, .ref bL, .ref bY, .ref bB, .ref bC, .int tk, .int ss, .int ml, .int mh, .int mp, .int rw, .int wr, .int tc, .ref bT])), (bG, .inl (cI, 8, .inl f20)), (bL, .inl (cB, 9200, .inl gl)), (bY, .inl (cI, 116, .inl gy)), (bB, .inl (cI, 66, .inl gb))]) hK hP hD hS hA hZ hN [0, 1, 2, 3, 4] (by decide) rfl rfl) (va_recv hK hP (ci := 6) (q0 := 0) rfl rfl) rfl hl.1 rfl (Nat.le_of_ble_eq_true rfl) dX7_put_71 ⟨Nat.le_of_ble_eq_true rfl, Nat.le_of_ble_eq_true rfl⟩) hP hD hS hA [0, 1, 2, 3, 4] [] rfl rfl (by decide) (by decide) (fun u H locs hw27 hP1 hD1 hS1 => ?_)
            obtain ⟨mw2_27, mz2_27, gg2_27, gl2_27, gy2_27, gb2_27⟩ := u
            have hw27 : mw2_27.toInt = 0 ∧ mz2_27.toInt = mz.toInt + 66 := hw27
            clear hP hD hS
            have hP : va_P D classes [(aM, .inr (6, [.int v1, .int mw2_27, .ref bG, .int mz2_27, .ref bL, .ref bY, .ref bB, .ref bC, .int tk, .int ss, .int ml, .int mh, .int mp, .int rw, .int wr, .int tc, .ref bT])), (bG, .inl (cI, 8, .inl gg2_27)), (bL, .inl (cB, 9200, .inl gl2_27)), (bY, .inl (cI, 116, .inl gy2_27)), (bB, .inl (cI, 66, .inl gb2_27))] H := hP1
            have hD : va_D A [(aM, .inr (6, [.int v1, .int mw2_27, .ref bG, .int mz2_27, .ref bL, .ref bY, .ref bB, .ref bC, .int tk, .int ss, .int ml, .int mh, .int mp, .int rw, .int wr, .int tc, .ref bT])), (bG, .inl (cI, 8, .inl gg2_27)), (bL, .inl (cB, 9200, .inl gl2_27)), (bY, .inl (cI, 116, .inl gy2_27)), (bB, .inl (cI, 66, .inl gb2_27))] := hD1
            have hS := hS1
            clear hP1 hD1 hS1
            have rg_mw2_27 := zi_rg mw2_27
            have rg_mz2_27 := zi_rg mz2_27
            refine lv_aload_n hx hb dX7_put_74 rfl (lv_at hl 0 rfl) ?_
            refine va_get (D := D) (ci := 6) (v := .int mw2_27) (C := RX7) (T := TX7) (N := 17) hx hb hts in_X7 hown hK hP 0 rfl rfl 1 (by decide) (hts _ wk164) (fun _ h9 => h9) rfl dX7_put_75 ?_
            have hq28 : ((ch.toInt < 0 ∨ 259 < ch.toInt) → mw2_27.toInt = -12 ∧ mw2_27.toInt = mw.toInt ∧ mz2_27.toInt = mz.toInt) ∧ ((0 ≤ ch.toInt ∧ ch.toInt ≤ 259) → ((mw.toInt = 7 ∧ 9000 ≤ mz.toInt) → mw2_27.toInt = -14 ∧ mw2_27.toInt = mw.toInt ∧ mz2_27.toInt = mz.toInt) ∧ ((mw.toInt = 7 ∧ mz.toInt < 9000) → mw2_27.toInt = 0 ∧ mw2_27.toInt = 0 ∧ mz2_27.toInt = mz.toInt + 66) ∧ (mw.toInt < 7 → mw2_27.toInt = mw.toInt + 1 ∧ mw2_27.toInt = mw.toInt + 1 ∧ mz2_27.toInt = mz.toInt)) := (by omega)
            exact hret mw2_27 (v1, mw2_27, mz2_27, gg2_27, gl2_27, gy2_27, gb2_27) _ _ _ _ dX7_put_78 hq28 (hP.sub [0, 1, 2, 3, 4] rfl) (hD.sub [0, 1, 2, 3, 4] (by decide) rfl) hS
        ·
          have z19 := zi_nlt c19
          refine lv_bipush (v := -14) hx hb dX7_put_38 (by decide) ?_
          refine lv_topi (fun v29 e29 => ?_)
          have z29 : v29.toInt = (-14) := zi_c e29 (by decide)
          have hq30 : ((ch.toInt < 0 ∨ 259 < ch.toInt) → v29.toInt = -12 ∧ mw.toInt = mw.toInt ∧ mz.toInt = mz.toInt) ∧ ((0 ≤ ch.toInt ∧ ch.toInt ≤ 259) → ((mw.toInt = 7 ∧ 9000 ≤ mz.toInt) → v29.toInt = -14 ∧ mw.toInt = mw.toInt ∧ mz.toInt = mz.toInt) ∧ ((mw.toInt = 7 ∧ mz.toInt < 9000) → v29.toInt = 0 ∧ mw.toInt = 0 ∧ mz.toInt = mz.toInt + 66) ∧ (mw.toInt < 7 → v29.toInt = mw.toInt + 1 ∧ mw.toInt = mw.toInt + 1 ∧ mz.toInt = mz.toInt)) := (by omega)
          exact hret v29 (v1, mw, mz, gg, gl, gy, gb) _ _ _ _ dX7_put_40 hq30 (hP.sub [0, 1, 2, 3, 4] rfl) (hD.sub [0, 1, 2, 3, 4] (by decide) rfl) hS
    ·
      have z6 := zi_nle c6
      refine lv_bipush (v := -12) hx hb dX7_put_16 (by decide) ?_
      refine lv_topi (fun v31 e31 => ?_)
      have z31 : v31.toInt = (-12) := zi_c e31 (by decide)
      have hq32 : ((ch.toInt < 0 ∨ 259 < ch.toInt) → v31.toInt = -12 ∧ mw.toInt = mw.toInt ∧ mz.toInt = mz.toInt) ∧ ((0 ≤ ch.toInt ∧ ch.toInt ≤ 259) → ((mw.toInt = 7 ∧ 9000 ≤ mz.toInt) → v31.toInt = -14 ∧ mw.toInt = mw.toInt ∧ mz.toInt = mz.toInt) ∧ ((mw.toInt = 7 ∧ mz.toInt < 9000) → v31.toInt = 0 ∧ mw.toInt = 0 ∧ mz.toInt = mz.toInt + 66) ∧ (mw.toInt < 7 → v31.toInt = mw.toInt + 1 ∧ mw.toInt = mw.toInt + 1 ∧ mz.toInt = mz.toInt)) := (by omega)
      exact hret v31 (v1, mw, mz, gg, gl, gy, gb) _ _ _ _ dX7_put_18 hq32 (hP.sub [0, 1, 2, 3, 4] rfl) (hD.sub [0, 1, 2, 3, 4] (by decide) rfl) hS

set_option maxHeartbeats 4000000 in
set_option maxRecDepth 100000 in
theorem c_Mo_word (l : Launch) (D : va_G) (cI cJ cB : ClassId) (aM : Nat) (bG : Nat) (bL : Nat) (bY : Nat) (bB : Nat) (bC : Nat) (bT : Nat) (th : Int32) (mw : Int32) (mz : Int32) (tk : Int32) (ss : Int32) (ml : Int32) (mh : Int32) (mp : Int32) (rw : Int32) (wr : Int32) (tc : Int32) (gg : Nat → Int32) (gl : Nat → Int32) (gy : Nat → Int32) (gb : Nat → Int32) (x : Int32) (y : Int32) (h1 : 0 ≤ mz.toInt ∧ mz.toInt ≤ 9066) (h2 : 0 ≤ mw.toInt ∧ mw.toInt < 8) :
    cti l yX7_word (wsOf yX7_word cX7_word 4 (some .int)) (rmL 5 112 0 0) D classes (tys3 cI cJ cB) [.ref aM, .int x, .int y] [(aM, .inr (6, [.int th, .int mw, .ref bG, .int mz, .ref bL, .ref bY, .ref bB, .ref bC, .int tk, .int ss, .int ml, .int mh, .int mp, .int rw, .int wr, .int tc, .ref bT])), (bG, .inl (cI, 8, .inl gg)), (bL, .inl (cB, 9200, .inl gl)), (bY, .inl (cI, 116, .inl gy)), (bB, .inl (cI, 66, .inl gb))] (fun (r : Int32) (u : Int32 × Int32 × Int32 × (Nat → Int32) × (Nat → Int32) × (Nat → Int32) × (Nat → Int32)) => (9000 ≤ mz.toInt → r.toInt = -14 ∧ u.2.1.toInt = mw.toInt ∧ u.2.2.1.toInt = mz.toInt) ∧ (mz.toInt < 9000 → r.toInt = mw.toInt ∧ u.2.1.toInt = mw.toInt ∧ u.2.2.1.toInt = mz.toInt + 66)) (fun u : Int32 × Int32 × Int32 × (Nat → Int32) × (Nat → Int32) × (Nat → Int32) × (Nat → Int32) => ([(aM, .inr (6, [.int u.1, .int u.2.1, .ref bG, .int u.2.2.1, .ref bL, .ref bY, .ref bB, .ref bC, .int tk, .int ss, .int ml, .int mh, .int mp, .int rw, .int wr, .int tc, .ref bT])), (bG, .inl (cI, 8, .inl u.2.2.2.1)), (bL, .inl (cB, 9200, .inl u.2.2.2.2.1)), (bY, .inl (cI, 116, .inl u.2.2.2.2.2.1)), (bB, .inl (cI, 66, .inl u.2.2.2.2.2.2))] : va_W)) := by
  refine cti.of (by first | exact plainFor_of_name (by decide) | decide +kernel) (Nat.le_of_ble_eq_true rfl) (fun p e s m args below meth c A ls Q h hret => ?_)
  obtain ⟨hx, hb, hml, hown, hts, hnm, hP, hK, hD, hA, hS, hZ, hN, hl⟩ := h
  have hown : s.vm.findClass RX7 = some m.cls := hown
  have hl : lv_has ls 4 [(0, .ref aM), (1, .int x), (2, .int y)] := hl
  have hP : va_P D classes [(aM, .inr (6, [.int th, .int mw, .ref bG, .int mz, .ref bL, .ref bY, .ref bB, .ref bC, .int tk, .int ss, .int ml, .int mh, .int mp, .int rw, .int wr, .int tc, .ref bT])), (bG, .inl (cI, 8, .inl gg)), (bL, .inl (cB, 9200, .inl gl)), (bY, .inl (cI, 116, .inl gy)), (bB, .inl (cI, 66, .inl gb))] s.heap := hP
  have hD : va_D A [(aM, .inr (6, [.int th, .int mw, .ref bG, .int mz, .ref bL, .ref bY, .ref bB, .ref bC, .int tk, .int ss, .int ml, .int mh, .int mp, .int rw, .int wr, .int tc, .ref bT])), (bG, .inl (cI, 8, .inl gg)), (bL, .inl (cB, 9200, .inl gl)), (bY, .inl (cI, 116, .inl gy)), (bB, .inl (cI, 66, .inl gb))] := hD
  have rg_th := zi_rg th
  have rg_mw := zi_rg mw
  have rg_mz := zi_rg mz
  have rg_tk := zi_rg tk
  have rg_ss := zi_rg ss
  have rg_ml := zi_rg ml
  have rg_mh := zi_rg mh
  have rg_mp := zi_rg mp
  have rg_rw := zi_rg rw
  have rg_wr := zi_rg wr
  have rg_tc := zi_rg tc
  have rg_x := zi_rg x
  have rg_y := zi_rg y
  refine lv_aload_n hx hb dX7_word_0 rfl (lv_at hl 0 rfl) ?_
  refine lv_iconst (v := 0) hx hb dX7_word_1 (by decide) ?_
  refine lv_topi (fun v1 e1 => ?_)
  have z1 : v1.toInt = 0 := zi_c e1 (by decide)
  refine va_put (D := D) (ci := 6) (v := .int v1) (ty := .int) (C := RX7) (T := TX7) (N := 17) hx hb hts in_X7 tyX7 tyX7_ok nmX7 hown hK hP hD hS 0 rfl rfl 0 (by decide) (hts _ wk163) (fun _ h9 => h9) rfl (by decide +kernel) rfl rfl (Nat.le_of_ble_eq_true rfl) dX7_word_2 (fun H locs hP1 hD1 hS1 => ?_)
  clear hP hD hS
  have hP : va_P D classes [(aM, .inr (6, [.int v1, .int mw, .ref bG, .int mz, .ref bL, .ref bY, .ref bB, .ref bC, .int tk, .int ss, .int ml, .int mh, .int mp, .int rw, .int wr, .int tc, .ref bT])), (bG, .inl (cI, 8, .inl gg)), (bL, .inl (cB, 9200, .inl gl)), (bY, .inl (cI, 116, .inl gy)), (bB, .inl (cI, 66, .inl gb))] H := hP1
  have hD : va_D A [(aM, .inr (6, [.int v1, .int mw, .ref bG, .int mz, .ref bL, .ref bY, .ref bB, .ref bC, .int tk, .int ss, .int ml, .int mh, .int mp, .int rw, .int wr, .int tc, .ref bT])), (bG, .inl (cI, 8, .inl gg)), (bL, .inl (cB, 9200, .inl gl)), (bY, .inl (cI, 116, .inl gy)), (bB, .inl (cI, 66, .inl gb))] := hD1
  have hS := hS1
  clear hP1 hD1 hS1
  refine lv_aload_n hx hb dX7_word_5 rfl (lv_at hl 0 rfl) ?_
  refine va_get (D := D) (ci := 6) (v := .int mz) (C := RX7) (T := TX7) (N := 17) hx hb hts in_X7 hown hK hP 0 rfl rfl 3 (by decide) (hts _ wk67) (fun _ h9 => h9) rfl dX7_word_6 ?_
  refine lv_sipush (v := 9000) hx hb dX7_word_9 (by decide) ?_
  refine lv_topi (fun v2 e2 => ?_)
  have z2 : v2.toInt = 9000 := zi_c e2 (by decide)
  refine lv_icmp_lt (tgt := 18) hx hb dX7_word_12 (by decide) (fun c3 => ?_) (fun c3 => ?_)
  ·
    have z3 := zi_lt c3
    refine lv_iconst (v := 0) hx hb dX7_word_18 (by decide) ?_
    refine lv_topi (fun v4 e4 => ?_)
    have z4 : v4.toInt = 0 := zi_c e4 (by decide)
    refine lv_istore_n (lv' := [(3, .int v4), (0, .ref aM), (1, .int x), (2, .int y)]) hx hb dX7_word_19 rfl hl (by decide) rfl (fun ls hl => ?_)
    have J20 : ∀ (n : Nat) (k : Int32) (th3 : Int32) (mw3 : Int32) (mz3 : Int32) (gg3 : Nat → Int32) (gl3 : Nat → Int32) (gy3 : Nat → Int32) (gb3 : Nat → Int32) (H : Heap) (locs : List Loc) (ls : Array Slot), ((8 - k.toInt).toNat) < n → (0 ≤ k.toInt ∧ k.toInt ≤ 8) → ((mw.toInt + k.toInt < 8 ∧ mw3.toInt = mw.toInt + k.toInt ∧ mz3.toInt = mz.toInt) ∨ (8 ≤ mw.toInt + k.toInt ∧ mw3.toInt = mw.toInt + k.toInt - 8 ∧ mz3.toInt = mz.toInt + 66)) → va_P D classes [(aM, .inr (6, [.int th3, .int mw3, .ref bG, .int mz3, .ref bL, .ref bY, .ref bB, .ref bC, .int tk, .int ss, .int ml, .int mh, .int mp, .int rw, .int wr, .int tc, .ref bT])), (bG, .inl (cI, 8, .inl gg3)), (bL, .inl (cB, 9200, .inl gl3)), (bY, .inl (cI, 116, .inl gy3)), (bB, .inl (cI, 66, .inl gb3))] H → va_D A [(aM, .inr (6, [.int th3, .int mw3, .ref bG, .int mz3, .ref bL, .ref bY, .ref bB, .ref bC, .int tk, .int ss, .int ml, .int mh, .int mp, .int rw, .int wr, .int tc, .ref bT])), (bG, .inl (cI, 8, .inl gg3)), (bL, .inl (cB, 9200, .inl gl3)), (bY, .inl (cI, 116, .inl gy3)), (bB, .inl (cI, 66, .inl gb3))] → va_S A s.heap H locs → lv_has ls 4 [(0, .ref aM), (1, .int x), (2, .int y), (3, .int k)] → W p l e (rmL 5 112 0 0) s m args below meth c H locs 0 0 Q (F0 m 20 ls []) := by
      intro n
      induction n with
      | zero => intro k th3 mw3 mz3 gg3 gl3 gy3 gb3 H locs ls hmu; exact absurd hmu (Nat.not_lt_zero _)
      | succ n ih20 =>
        intro k th3 mw3 mz3 gg3 gl3 gy3 gb3 H locs ls hmu20 i20_0 i20_1 hP hD hS hl
        have rg_k := zi_rg k
        have rg_th3 := zi_rg th3
        have rg_mw3 := zi_rg mw3
        have rg_mz3 := zi_rg mz3
        refine lv_iload_n hx hb dX7_word_20 rfl (lv_at hl 3 rfl) ?_
        refine lv_bipush (v := 8) hx hb dX7_word_21 (by decide) ?_
        refine lv_topi (fun v5 e5 => ?_)
        have z5 : v5.toInt = 8 := zi_c e5 (by decide)
        refine lv_icmp_ge (tgt := 61) hx hb dX7_word_23 (by decide) (fun c6 => ?_) (fun c6 => ?_)
        ·
          have z6 := zi_le c6
          refine lv_aload_n hx hb dX7_word_61 rfl (lv_at hl 0 rfl) ?_
          refine va_get (D := D) (ci := 6) (v := .int mw3) (C := RX7) (T := TX7) (N := 17) hx hb hts in_X7 hown hK hP 0 rfl rfl 1 (by decide) (hts _ wk164) (fun _ h9 => h9) rfl dX7_word_62 ?_
          have hq7 : (9000 ≤ mz.toInt → mw3.toInt = -14 ∧ mw3.toInt = mw.toInt ∧ mz3.toInt = mz.toInt) ∧ (mz.toInt < 9000 → mw3.toInt = mw.toInt ∧ mw3.toInt = mw.toInt ∧ mz3.toInt = mz.toInt + 66) := (by omega)
          exact hret mw3 (th3, mw3, mz3, gg3, gl3, gy3, gb3) _ _ _ _ dX7_word_65 hq7 (hP.sub [0, 1, 2, 3, 4] rfl) (hD.sub [0, 1, 2, 3, 4] (by decide) rfl) hS
        ·
          have z6 := zi_nle c6
          refine lv_aload_n hx hb dX7_word_26 rfl (lv_at hl 0 rfl) ?_
          refine lv_iload_n hx hb dX7_word_27 rfl (lv_at hl 3 rfl) ?_
          refine lv_iconst (v := 4) hx hb dX7_word_28 (by decide) ?_
          refine lv_topi (fun v8 e8 => ?_)
          have z8 : v8.toInt = 4 := zi_c e8 (by decide)
          refine lv_icmp_ge (tgt := 36) hx hb dX7_word_29 (by decide) (fun c9 => ?_) (fun c9 => ?_)
          ·
            have z9 := zi_le c9
            refine lv_iload_n hx hb dX7_word_36 rfl (lv_at hl 2 rfl) ?_
            refine lv_bipush (v := 24) hx hb dX7_word_37 (by decide) ?_
            refine lv_topi (fun v10 e10 => ?_)
            have z10 : v10.toInt = 24 := zi_c e10 (by decide)
            refine lv_bipush (v := 8) hx hb dX7_word_39 (by decide) ?_
            refine lv_topi (fun v11 e11 => ?_)
            have z11 : v11.toInt = 8 := zi_c e11 (by decide)
            refine lv_iload_n hx hb dX7_word_41 rfl (lv_at hl 3 rfl) ?_
            refine lv_iconst (v := 4) hx hb dX7_word_42 (by decide) ?_
            refine lv_topi (fun v12 e12 => ?_)
            have z12 : v12.toInt = 4 := zi_c e12 (by decide)
            refine lv_irem hx hb dX7_word_43 (zi_ne0' (z := 4) (by omega) (by decide)) ?_
            refine lv_topi (fun v13 e13 => ?_)
            first | have z13 := zi_rem (k := 4) e13 (by omega) (by omega) | skip
            refine lv_imul hx hb dX7_word_44 ?_
            refine lv_topi (fun v14 e14 => ?_)
            first | have z14 := zi_mulL (k := 8) e14 (by omega) (by omega) | skip
            refine lv_isub hx hb dX7_word_45 ?_
            refine lv_topi (fun v15 e15 => ?_)
            first | have z15 := zi_sub e15 (by omega) | skip
            refine lv_ishr hx hb dX7_word_46 ?_
            refine lv_topi (fun v16 e16 => ?_)
            refine lv_sipush (v := 255) hx hb dX7_word_47 (by decide) ?_
            refine lv_topi (fun v17 e17 => ?_)
            have z17 : v17.toInt = 255 := zi_c e17 (by decide)
            refine lv_iand hx hb dX7_word_50 ?_
            refine lv_topi (fun v18 e18 => ?_)
            have z18 := zi_and e18 e17 8 (z := 256) (by decide) (by decide) (by decide)
            have hh19 : 0 ≤ mz3.toInt ∧ mz3.toInt ≤ 9066 := (by omega)
            have hh20 : 0 ≤ mw3.toInt ∧ mw3.toInt < 8 := (by omega)
            refine call_i (wc := [(aM, .inr (6, [.int th3, .int mw3, .ref bG, .int mz3, .ref bL, .ref bY, .ref bB, .ref bC, .int tk, .int ss, .int ml, .int mh, .int mp, .int rw, .int wr, .int tc, .ref bT])), (bG, .inl (cI, 8, .inl gg3)), (bL, .inl (cB, 9200, .inl gl3)), (bY, .inl (cI, 116, .inl gy3)), (bB, .inl (cI, 66, .inl gb3))]) (wr := []) (run_V (As := [.int v18]) (rest := []) kv_RX7_79 ⟨by decide, by decide⟩ ⟨rfl, rfl⟩ ⟨hx, hb, hml, hown, hts⟩ (c_Mo_put l D cI cJ cB aM bG bL bY bB bC bT th3 mw3 mz3 tk ss ml mh mp rw wr tc gg3 gl3 gy3 gb3 v18 hh19 hh20 _) ct_blind (ct_pre (wc := [(aM, .inr (6, [.int th3, .int mw3, .ref bG, .int mz3, .ref bL, .ref bY, .ref bB, .ref bC, .int tk, .int ss, .int ml, .int mh, .int mp, .int rw, .int wr, .int tc, .ref bT])), (bG, .inl (cI, 8, .inl gg3)), (bL, .inl (cB, 9200, .inl gl3)), (bY, .inl (cI, 116, .inl gy3)), (bB, .inl (cI, 66, .inl gb3))]) hK hP hD hS hA hZ hN [0, 1, 2, 3, 4] (by decide) rfl rfl) (va_recv hK hP (ci := 6) (q0 := 0) rfl rfl) rfl hl.1 rfl (Nat.le_of_ble_eq_true rfl) dX7_word_51 ⟨Nat.le_of_ble_eq_true rfl, Nat.le_of_ble_eq_true rfl⟩) hP hD hS hA [0, 1, 2, 3, 4] [] rfl rfl (by decide) (by decide) (fun r21 u H locs hw21 hP1 hD1 hS1 => ?_)
            obtain ⟨th2_21, mw2_21, mz2_21, gg2_21, gl2_21, gy2_21, gb2_21⟩ := u
            have hw21 : ((v18.toInt < 0 ∨ 259 < v18.toInt) → r21.toInt = -12 ∧ mw2_21.toInt = mw3.toInt ∧ mz2_21.toInt = mz3.toInt) ∧ ((0 ≤ v18.toInt ∧ v18.toInt ≤ 259) → ((mw3.toInt = 7 ∧ 9000 ≤ mz3.toInt) → r21.toInt = -14 ∧ mw2_21.toInt = mw3.toInt ∧ mz2_21.toInt = mz3.toInt) ∧ ((mw3.toInt = 7 ∧ mz3.toInt < 9000) → r21.toInt = 0 ∧ mw2_21.toInt = 0 ∧ mz2_21.toInt = mz3.toInt + 66) ∧ (mw3.toInt < 7 → r21.toInt = mw3.toInt + 1 ∧ mw2_21.toInt = mw3.toInt + 1 ∧ mz2_21.toInt = mz3.toInt)) := hw21
            clear hP hD hS
            have hP : va_P D classes [(aM, .inr (6, [.int th2_21, .int mw2_21, .ref bG, .int mz2_21, .ref bL, .ref bY, .ref bB, .ref bC, .int tk, .int ss, .int ml, .int mh, .int mp, .int rw, .int wr, .int tc, .ref bT])), (bG, .inl (cI, 8, .inl gg2_21)), (bL, .inl (cB, 9200, .inl gl2_21)), (bY, .inl (cI, 116, .inl gy2_21)), (bB, .inl (cI, 66, .inl gb2_21))] H := hP1
            have hD : va_D A [(aM, .inr (6, [.int th2_21, .int mw2_21, .ref bG, .int mz2_21, .ref bL, .ref bY, .ref bB, .ref bC, .int tk, .int ss, .int ml, .int mh, .int mp, .int rw, .int wr, .int tc, .ref bT])), (bG, .inl (cI, 8, .inl gg2_21)), (bL, .inl (cB, 9200, .inl gl2_21)), (bY, .inl (cI, 116, .inl gy2_21)), (bB, .inl (cI, 66, .inl gb2_21))] := hD1
            have hS := hS1
            clear hP1 hD1 hS1
            have rg_th2_21 := zi_rg th2_21
            have rg_mw2_21 := zi_rg mw2_21
            have rg_mz2_21 := zi_rg mz2_21
            have rg_r21 := zi_rg r21
            refine lv_pop hx hb dX7_word_54 rfl ?_
            obtain ⟨v22, e22⟩ : ∃ y : Int32, y = k + 1 := ⟨_, rfl⟩
            first | have z22 := zi_inc (z := 1) 1 (by decide) e22 (by omega) | skip
            refine lv_iinc (v := v22) (lv' := [(3, .int v22), (0, .ref aM), (1, .int x), (2, .int y)]) hx hb dX7_word_55 hl (k := 3) rfl (by rw [e22]; rfl) (by decide) rfl (fun ls hl => ?_)
            refine lv_goto (tgt := 20) hx hb dX7_word_58 (by decide) ?_
            exact ih20 v22 th2_21 mw2_21 mz2_21 gg2_21 gl2_21 gy2_21 gb2_21 _ _ _ (by omega) (by omega) (by omega) (hP.sub [0, 1, 2, 3, 4] rfl) (hD.sub [0, 1, 2, 3, 4] (by decide) rfl) hS (lv_sub hl [1, 2, 3, 0] rfl)
          ·
            have z9 := zi_nle c9
            refine lv_iload_n hx hb dX7_word_32 rfl (lv_at hl 1 rfl) ?_
            refine lv_goto (tgt := 37) hx hb dX7_word_33 (by decide) ?_
            refine lv_bipush (v := 24) hx hb dX7_word_37 (by decide) ?_
            refine lv_topi (fun v23 e23 => ?_)
            have z23 : v23.toInt = 24 := zi_c e23 (by decide)
            refine lv_bipush (v := 8) hx hb dX7_word_39 (by decide) ?_
            refine lv_topi (fun v24 e24 => ?_)
            have z24 : v24.toInt = 8 := zi_c e24 (by decide)
            refine lv_iload_n hx hb dX7_word_41 rfl (lv_at hl 3 rfl) ?_
            refine lv_iconst (v := 4) hx hb dX7_word_42 (by decide) ?_
            refine lv_topi (fun v25 e25 => ?_)
            have z25 : v25.toInt = 4 := zi_c e25 (by decide)
            refine lv_irem hx hb dX7_word_43 (zi_ne0' (z := 4) (by omega) (by decide)) ?_
            refine lv_topi (fun v26 e26 => ?_)
            first | have z26 := zi_rem (k := 4) e26 (by omega) (by omega) | skip
            refine lv_imul hx hb dX7_word_44 ?_
            refine lv_topi (fun v27 e27 => ?_)
            first | have z27 := zi_mulL (k := 8) e27 (by omega) (by omega) | skip
            refine lv_isub hx hb dX7_word_45 ?_
            refine lv_topi (fun v28 e28 => ?_)
            first | have z28 := zi_sub e28 (by omega) | skip
            refine lv_ishr hx hb dX7_word_46 ?_
            refine lv_topi (fun v29 e29 => ?_)
            refine lv_sipush (v := 255) hx hb dX7_word_47 (by decide) ?_
            refine lv_topi (fun v30 e30 => ?_)
            have z30 : v30.toInt = 255 := zi_c e30 (by decide)
            refine lv_iand hx hb dX7_word_50 ?_
            refine lv_topi (fun v31 e31 => ?_)
            have z31 := zi_and e31 e30 8 (z := 256) (by decide) (by decide) (by decide)
            have hh32 : 0 ≤ mz3.toInt ∧ mz3.toInt ≤ 9066 := (by omega)
            have hh33 : 0 ≤ mw3.toInt ∧ mw3.toInt < 8 := (by omega)
            refine call_i (wc := [(aM, .inr (6, [.int th3, .int mw3, .ref bG, .int mz3, .ref bL, .ref bY, .ref bB, .ref bC, .int tk, .int ss, .int ml, .int mh, .int mp, .int rw, .int wr, .int tc, .ref bT])), (bG, .inl (cI, 8, .inl gg3)), (bL, .inl (cB, 9200, .inl gl3)), (bY, .inl (cI, 116, .inl gy3)), (bB, .inl (cI, 66, .inl gb3))]) (wr := []) (run_V (As := [.int v31]) (rest := []) kv_RX7_79 ⟨by decide, by decide⟩ ⟨rfl, rfl⟩ ⟨hx, hb, hml, hown, hts⟩ (c_Mo_put l D cI cJ cB aM bG bL bY bB bC bT th3 mw3 mz3 tk ss ml mh mp rw wr tc gg3 gl3 gy3 gb3 v31 hh32 hh33 _) ct_blind (ct_pre (wc := [(aM, .inr (6, [.int th3, .int mw3, .ref bG, .int mz3, .ref bL, .ref bY, .ref bB, .ref bC, .int tk, .int ss, .int ml, .int mh, .int mp, .int rw, .int wr, .int tc, .ref bT])), (bG, .inl (cI, 8, .inl gg3)), (bL, .inl (cB, 9200, .inl gl3)), (bY, .inl (cI, 116, .inl gy3)), (bB, .inl (cI, 66, .inl gb3))]) hK hP hD hS hA hZ hN [0, 1, 2, 3, 4] (by decide) rfl rfl) (va_recv hK hP (ci := 6) (q0 := 0) rfl rfl) rfl hl.1 rfl (Nat.le_of_ble_eq_true rfl) dX7_word_51 ⟨Nat.le_of_ble_eq_true rfl, Nat.le_of_ble_eq_true rfl⟩) hP hD hS hA [0, 1, 2, 3, 4] [] rfl rfl (by decide) (by decide) (fun r34 u H locs hw34 hP1 hD1 hS1 => ?_)
            obtain ⟨th2_34, mw2_34, mz2_34, gg2_34, gl2_34, gy2_34, gb2_34⟩ := u
            have hw34 : ((v31.toInt < 0 ∨ 259 < v31.toInt) → r34.toInt = -12 ∧ mw2_34.toInt = mw3.toInt ∧ mz2_34.toInt = mz3.toInt) ∧ ((0 ≤ v31.toInt ∧ v31.toInt ≤ 259) → ((mw3.toInt = 7 ∧ 9000 ≤ mz3.toInt) → r34.toInt = -14 ∧ mw2_34.toInt = mw3.toInt ∧ mz2_34.toInt = mz3.toInt) ∧ ((mw3.toInt = 7 ∧ mz3.toInt < 9000) → r34.toInt = 0 ∧ mw2_34.toInt = 0 ∧ mz2_34.toInt = mz3.toInt + 66) ∧ (mw3.toInt < 7 → r34.toInt = mw3.toInt + 1 ∧ mw2_34.toInt = mw3.toInt + 1 ∧ mz2_34.toInt = mz3.toInt)) := hw34
            clear hP hD hS
            have hP : va_P D classes [(aM, .inr (6, [.int th2_34, .int mw2_34, .ref bG, .int mz2_34, .ref bL, .ref bY, .ref bB, .ref bC, .int tk, .int ss, .int ml, .int mh, .int mp, .int rw, .int wr, .int tc, .ref bT])), (bG, .inl (cI, 8, .inl gg2_34)), (bL, .inl (cB, 9200, .inl gl2_34)), (bY, .inl (cI, 116, .inl gy2_34)), (bB, .inl (cI, 66, .inl gb2_34))] H := hP1
            have hD : va_D A [(aM, .inr (6, [.int th2_34, .int mw2_34, .ref bG, .int mz2_34, .ref bL, .ref bY, .ref bB, .ref bC, .int tk, .int ss, .int ml, .int mh, .int mp, .int rw, .int wr, .int tc, .ref bT])), (bG, .inl (cI, 8, .inl gg2_34)), (bL, .inl (cB, 9200, .inl gl2_34)), (bY, .inl (cI, 116, .inl gy2_34)), (bB, .inl (cI, 66, .inl gb2_34))] := hD1
            have hS := hS1
            clear hP1 hD1 hS1
            have rg_th2_34 := zi_rg th2_34
            have rg_mw2_34 := zi_rg mw2_34
            have rg_mz2_34 := zi_rg mz2_34
            have rg_r34 := zi_rg r34
            refine lv_pop hx hb dX7_word_54 rfl ?_
            obtain ⟨v35, e35⟩ : ∃ y : Int32, y = k + 1 := ⟨_, rfl⟩
            first | have z35 := zi_inc (z := 1) 1 (by decide) e35 (by omega) | skip
            refine lv_iinc (v := v35) (lv' := [(3, .int v35), (0, .ref aM), (1, .int x), (2, .int y)]) hx hb dX7_word_55 hl (k := 3) rfl (by rw [e35]; rfl) (by decide) rfl (fun ls hl => ?_)
            refine lv_goto (tgt := 20) hx hb dX7_word_58 (by decide) ?_
            exact ih20 v35 th2_34 mw2_34 mz2_34 gg2_34 gl2_34 gy2_34 gb2_34 _ _ _ (by omega) (by omega) (by omega) (hP.sub [0, 1, 2, 3, 4] rfl) (hD.sub [0, 1, 2, 3, 4] (by decide) rfl) hS (lv_sub hl [1, 2, 3, 0] rfl)
    exact J20 _ v4 v1 mw mz gg gl gy gb _ _ _ (Nat.lt_succ_self _) (by omega) (by omega) (hP.sub [0, 1, 2, 3, 4] rfl) (hD.sub [0, 1, 2, 3, 4] (by decide) rfl) hS (lv_sub hl [1, 2, 3, 0] rfl)
  ·
    have z3 := zi_nlt c3
    refine lv_bipush (v := -14) hx hb dX7_word_15 (by decide) ?_
    refine lv_topi (fun v36 e36 => ?_)
    have z36 : v36.toInt = (-14) := zi_c e36 (by decide)
    have hq37 : (9000 ≤ mz.toInt → v36.toInt = -14 ∧ mw.toInt = mw.toInt ∧ mz.toInt = mz.toInt) ∧ (mz.toInt < 9000 → v36.toInt = mw.toInt ∧ mw.toInt = mw.toInt ∧ mz.toInt = mz.toInt + 66) := (by omega)
    exact hret v36 (v1, mw, mz, gg, gl, gy, gb) _ _ _ _ dX7_word_17 hq37 (hP.sub [0, 1, 2, 3, 4] rfl) (hD.sub [0, 1, 2, 3, 4] (by decide) rfl) hS

set_option maxHeartbeats 4000000 in
set_option maxRecDepth 100000 in
theorem c_Mo_idle (l : Launch) (D : va_G) (cI cJ cB : ClassId) (aM : Nat) (bG : Nat) (bL : Nat) (bY : Nat) (bB : Nat) (bC : Nat) (bT : Nat) (th : Int32) (mw : Int32) (mz : Int32) (tk : Int32) (ss : Int32) (ml : Int32) (mh : Int32) (mp : Int32) (rw : Int32) (wr : Int32) (tc : Int32) (gg : Nat → Int32) (gl : Nat → Int32) (gy : Nat → Int32) (gb : Nat → Int32) (nn : Int32) (h1 : 0 ≤ mz.toInt ∧ mz.toInt ≤ 9066) (h2 : 0 ≤ mw.toInt ∧ mw.toInt < 8) :
    cti l yX7_idle (wsOf yX7_idle cX7_idle 4 (some .int)) (rmL 4 91 0 0) D classes (tys3 cI cJ cB) [.ref aM, .int nn] [(aM, .inr (6, [.int th, .int mw, .ref bG, .int mz, .ref bL, .ref bY, .ref bB, .ref bC, .int tk, .int ss, .int ml, .int mh, .int mp, .int rw, .int wr, .int tc, .ref bT])), (bG, .inl (cI, 8, .inl gg)), (bL, .inl (cB, 9200, .inl gl)), (bY, .inl (cI, 116, .inl gy)), (bB, .inl (cI, 66, .inl gb))] (fun (r : Int32) (u : Int32 × Int32 × Int32 × (Nat → Int32) × (Nat → Int32) × (Nat → Int32) × (Nat → Int32)) => (u.2.1.toInt = mw.toInt) ∧ ((nn.toInt < 1 ∨ 100 < nn.toInt ∨ 0 < mw.toInt) → r.toInt = -12 ∧ u.2.2.1.toInt = mz.toInt) ∧ ((1 ≤ nn.toInt ∧ nn.toInt ≤ 100 ∧ mw.toInt = 0) → (9000 ≤ mz.toInt + 66 * (nn.toInt - 1) → r.toInt = -14 ∧ u.2.2.1.toInt = mz.toInt) ∧ (mz.toInt + 66 * (nn.toInt - 1) < 9000 → r.toInt = mz.toInt + 66 * nn.toInt ∧ u.2.2.1.toInt = mz.toInt + 66 * nn.toInt))) (fun u : Int32 × Int32 × Int32 × (Nat → Int32) × (Nat → Int32) × (Nat → Int32) × (Nat → Int32) => ([(aM, .inr (6, [.int u.1, .int u.2.1, .ref bG, .int u.2.2.1, .ref bL, .ref bY, .ref bB, .ref bC, .int tk, .int ss, .int ml, .int mh, .int mp, .int rw, .int wr, .int tc, .ref bT])), (bG, .inl (cI, 8, .inl u.2.2.2.1)), (bL, .inl (cB, 9200, .inl u.2.2.2.2.1)), (bY, .inl (cI, 116, .inl u.2.2.2.2.2.1)), (bB, .inl (cI, 66, .inl u.2.2.2.2.2.2))] : va_W)) := by
  refine cti.of (by first | exact plainFor_of_name (by decide) | decide +kernel) (Nat.le_of_ble_eq_true rfl) (fun p e s m args below meth c A ls Q h hret => ?_)
  obtain ⟨hx, hb, hml, hown, hts, hnm, hP, hK, hD, hA, hS, hZ, hN, hl⟩ := h
  have hown : s.vm.findClass RX7 = some m.cls := hown
  have hl : lv_has ls 4 [(0, .ref aM), (1, .int nn)] := hl
  have hP : va_P D classes [(aM, .inr (6, [.int th, .int mw, .ref bG, .int mz, .ref bL, .ref bY, .ref bB, .ref bC, .int tk, .int ss, .int ml, .int mh, .int mp, .int rw, .int wr, .int tc, .ref bT])), (bG, .inl (cI, 8, .inl gg)), (bL, .inl (cB, 9200, .inl gl)), (bY, .inl (cI, 116, .inl gy)), (bB, .inl (cI, 66, .inl gb))] s.heap := hP
  have hD : va_D A [(aM, .inr (6, [.int th, .int mw, .ref bG, .int mz, .ref bL, .ref bY, .ref bB, .ref bC, .int tk, .int ss, .int ml, .int mh, .int mp, .int rw, .int wr, .int tc, .ref bT])), (bG, .inl (cI, 8, .inl gg)), (bL, .inl (cB, 9200, .inl gl)), (bY, .inl (cI, 116, .inl gy)), (bB, .inl (cI, 66, .inl gb))] := hD
  have rg_th := zi_rg th
  have rg_mw := zi_rg mw
  have rg_mz := zi_rg mz
  have rg_tk := zi_rg tk
  have rg_ss := zi_rg ss
  have rg_ml := zi_rg ml
  have rg_mh := zi_rg mh
  have rg_mp := zi_rg mp
  have rg_rw := zi_rg rw
  have rg_wr := zi_rg wr
  have rg_tc := zi_rg tc
  have rg_nn := zi_rg nn
  refine lv_aload_n hx hb dX7_idle_0 rfl (lv_at hl 0 rfl) ?_
  refine lv_iconst (v := 0) hx hb dX7_idle_1 (by decide) ?_
  refine lv_topi (fun v1 e1 => ?_)
  have z1 : v1.toInt = 0 := zi_c e1 (by decide)
  refine va_put (D := D) (ci := 6) (v := .int v1) (ty := .int) (C := RX7) (T := TX7) (N := 17) hx hb hts in_X7 tyX7 tyX7_ok nmX7 hown hK hP hD hS 0 rfl rfl 0 (by decide) (hts _ wk163) (fun _ h9 => h9) rfl (by decide +kernel) rfl rfl (Nat.le_of_ble_eq_true rfl) dX7_idle_2 (fun H locs hP1 hD1 hS1 => ?_)
  clear hP hD hS
  have hP : va_P D classes [(aM, .inr (6, [.int v1, .int mw, .ref bG, .int mz, .ref bL, .ref bY, .ref bB, .ref bC, .int tk, .int ss, .int ml, .int mh, .int mp, .int rw, .int wr, .int tc, .ref bT])), (bG, .inl (cI, 8, .inl gg)), (bL, .inl (cB, 9200, .inl gl)), (bY, .inl (cI, 116, .inl gy)), (bB, .inl (cI, 66, .inl gb))] H := hP1
  have hD : va_D A [(aM, .inr (6, [.int v1, .int mw, .ref bG, .int mz, .ref bL, .ref bY, .ref bB, .ref bC, .int tk, .int ss, .int ml, .int mh, .int mp, .int rw, .int wr, .int tc, .ref bT])), (bG, .inl (cI, 8, .inl gg)), (bL, .inl (cB, 9200, .inl gl)), (bY, .inl (cI, 116, .inl gy)), (bB, .inl (cI, 66, .inl gb))] := hD1
  have hS := hS1
  clear hP1 hD1 hS1
  refine lv_iload_n hx hb dX7_idle_5 rfl (lv_at hl 1 rfl) ?_
  refine lv_iconst (v := 1) hx hb dX7_idle_6 (by decide) ?_
  refine lv_topi (fun v2 e2 => ?_)
  have z2 : v2.toInt = 1 := zi_c e2 (by decide)
  refine lv_icmp_lt (tgt := 23) hx hb dX7_idle_7 (by decide) (fun c3 => ?_) (fun c3 => ?_)
  ·
    have z3 := zi_lt c3
    refine lv_bipush (v := -12) hx hb dX7_idle_23 (by decide) ?_
    refine lv_topi (fun v4 e4 => ?_)
    have z4 : v4.toInt = (-12) := zi_c e4 (by decide)
    have hq5 : (mw.toInt = mw.toInt) ∧ ((nn.toInt < 1 ∨ 100 < nn.toInt ∨ 0 < mw.toInt) → v4.toInt = -12 ∧ mz.toInt = mz.toInt) ∧ ((1 ≤ nn.toInt ∧ nn.toInt ≤ 100 ∧ mw.toInt = 0) → (9000 ≤ mz.toInt + 66 * (nn.toInt - 1) → v4.toInt = -14 ∧ mz.toInt = mz.toInt) ∧ (mz.toInt + 66 * (nn.toInt - 1) < 9000 → v4.toInt = mz.toInt + 66 * nn.toInt ∧ mz.toInt = mz.toInt + 66 * nn.toInt)) := (by omega)
    exact hret v4 (v1, mw, mz, gg, gl, gy, gb) _ _ _ _ dX7_idle_25 hq5 (hP.sub [0, 1, 2, 3, 4] rfl) (hD.sub [0, 1, 2, 3, 4] (by decide) rfl) hS
  ·
    have z3 := zi_nlt c3
    refine lv_iload_n hx hb dX7_idle_10 rfl (lv_at hl 1 rfl) ?_
    refine lv_bipush (v := 100) hx hb dX7_idle_11 (by decide) ?_
    refine lv_topi (fun v6 e6 => ?_)
    have z6 : v6.toInt = 100 := zi_c e6 (by decide)
    refine lv_icmp_gt (tgt := 23) hx hb dX7_idle_13 (by decide) (fun c7 => ?_) (fun c7 => ?_)
    ·
      have z7 := zi_lt c7
      refine lv_bipush (v := -12) hx hb dX7_idle_23 (by decide) ?_
      refine lv_topi (fun v8 e8 => ?_)
      have z8 : v8.toInt = (-12) := zi_c e8 (by decide)
      have hq9 : (mw.toInt = mw.toInt) ∧ ((nn.toInt < 1 ∨ 100 < nn.toInt ∨ 0 < mw.toInt) → v8.toInt = -12 ∧ mz.toInt = mz.toInt) ∧ ((1 ≤ nn.toInt ∧ nn.toInt ≤ 100 ∧ mw.toInt = 0) → (9000 ≤ mz.toInt + 66 * (nn.toInt - 1) → v8.toInt = -14 ∧ mz.toInt = mz.toInt) ∧ (mz.toInt + 66 * (nn.toInt - 1) < 9000 → v8.toInt = mz.toInt + 66 * nn.toInt ∧ mz.toInt = mz.toInt + 66 * nn.toInt)) := (by omega)
      exact hret v8 (v1, mw, mz, gg, gl, gy, gb) _ _ _ _ dX7_idle_25 hq9 (hP.sub [0, 1, 2, 3, 4] rfl) (hD.sub [0, 1, 2, 3, 4] (by decide) rfl) hS
    ·
      have z7 := zi_nlt c7
      refine lv_aload_n hx hb dX7_idle_16 rfl (lv_at hl 0 rfl) ?_
      refine va_get (D := D) (ci := 6) (v := .int mw) (C := RX7) (T := TX7) (N := 17) hx hb hts in_X7 hown hK hP 0 rfl rfl 1 (by decide) (hts _ wk164) (fun _ h9 => h9) rfl dX7_idle_17 ?_
      refine lv_if_le (tgt := 26) hx hb dX7_idle_20 (by decide) (fun c10 => ?_) (fun c10 => ?_)
      ·
        have z10 := zi_le0 c10
        refine lv_aload_n hx hb dX7_idle_26 rfl (lv_at hl 0 rfl) ?_
        refine va_get (D := D) (ci := 6) (v := .int mz) (C := RX7) (T := TX7) (N := 17) hx hb hts in_X7 hown hK hP 0 rfl rfl 3 (by decide) (hts _ wk67) (fun _ h9 => h9) rfl dX7_idle_27 ?_
        refine lv_bipush (v := 66) hx hb dX7_idle_30 (by decide) ?_
        refine lv_topi (fun v11 e11 => ?_)
        have z11 : v11.toInt = 66 := zi_c e11 (by decide)
        refine lv_iload_n hx hb dX7_idle_32 rfl (lv_at hl 1 rfl) ?_
        refine lv_iconst (v := 1) hx hb dX7_idle_33 (by decide) ?_
        refine lv_topi (fun v12 e12 => ?_)
        have z12 : v12.toInt = 1 := zi_c e12 (by decide)
        refine lv_isub hx hb dX7_idle_34 ?_
        refine lv_topi (fun v13 e13 => ?_)
        first | have z13 := zi_sub e13 (by omega) | skip
        refine lv_imul hx hb dX7_idle_35 ?_
        refine lv_topi (fun v14 e14 => ?_)
        first | have z14 := zi_mulL (k := 66) e14 (by omega) (by omega) | skip
        refine lv_iadd hx hb dX7_idle_36 ?_
        refine lv_topi (fun v15 e15 => ?_)
        first | have z15 := zi_add e15 (by omega) | skip
        refine lv_sipush (v := 9000) hx hb dX7_idle_37 (by decide) ?_
        refine lv_topi (fun v16 e16 => ?_)
        have z16 : v16.toInt = 9000 := zi_c e16 (by decide)
        refine lv_icmp_lt (tgt := 46) hx hb dX7_idle_40 (by decide) (fun c17 => ?_) (fun c17 => ?_)
        ·
          have z17 := zi_lt c17
          refine lv_iconst (v := 0) hx hb dX7_idle_46 (by decide) ?_
          refine lv_topi (fun v18 e18 => ?_)
          have z18 : v18.toInt = 0 := zi_c e18 (by decide)
          refine lv_istore_n (lv' := [(2, .int v18), (0, .ref aM), (1, .int nn)]) hx hb dX7_idle_47 rfl hl (by decide) rfl (fun ls hl => ?_)
          have J48 : ∀ (n : Nat) (i : Int32) (mw3 : Int32) (mz3 : Int32) (gg3 : Nat → Int32) (gl3 : Nat → Int32) (gy3 : Nat → Int32) (gb3 : Nat → Int32) (H : Heap) (locs : List Loc) (ls : Array Slot), ((nn.toInt - i.toInt).toNat) < n → (0 ≤ i.toInt ∧ i.toInt ≤ nn.toInt) → (mw3.toInt = 0 ∧ mz3.toInt = mz.toInt + 66 * i.toInt) → va_P D classes [(aM, .inr (6, [.int v1, .int mw3, .ref bG, .int mz3, .ref bL, .ref bY, .ref bB, .ref bC, .int tk, .int ss, .int ml, .int mh, .int mp, .int rw, .int wr, .int tc, .ref bT])), (bG, .inl (cI, 8, .inl gg3)), (bL, .inl (cB, 9200, .inl gl3)), (bY, .inl (cI, 116, .inl gy3)), (bB, .inl (cI, 66, .inl gb3))] H → va_D A [(aM, .inr (6, [.int v1, .int mw3, .ref bG, .int mz3, .ref bL, .ref bY, .ref bB, .ref bC, .int tk, .int ss, .int ml, .int mh, .int mp, .int rw, .int wr, .int tc, .ref bT])), (bG, .inl (cI, 8, .inl gg3)), (bL, .inl (cB, 9200, .inl gl3)), (bY, .inl (cI, 116, .inl gy3)), (bB, .inl (cI, 66, .inl gb3))] → va_S A s.heap H locs → lv_has ls 4 [(0, .ref aM), (1, .int nn), (2, .int i)] → W p l e (rmL 4 91 0 0) s m args below meth c H locs 0 0 Q (F0 m 48 ls []) := by
            intro n
            induction n with
            | zero => intro i mw3 mz3 gg3 gl3 gy3 gb3 H locs ls hmu; exact absurd hmu (Nat.not_lt_zero _)
            | succ n ih48 =>
              intro i mw3 mz3 gg3 gl3 gy3 gb3 H locs ls hmu48 i48_0 i48_1 hP hD hS hl
              have rg_i := zi_rg i
              have rg_mw3 := zi_rg mw3
              have rg_mz3 := zi_rg mz3
              refine lv_iload_n hx hb dX7_idle_48 rfl (lv_at hl 2 rfl) ?_
              refine lv_iload_n hx hb dX7_idle_49 rfl (lv_at hl 1 rfl) ?_
              refine lv_icmp_ge (tgt := 86) hx hb dX7_idle_50 (by decide) (fun c19 => ?_) (fun c19 => ?_)
              ·
                have z19 := zi_le c19
                refine lv_aload_n hx hb dX7_idle_86 rfl (lv_at hl 0 rfl) ?_
                refine va_get (D := D) (ci := 6) (v := .int mz3) (C := RX7) (T := TX7) (N := 17) hx hb hts in_X7 hown hK hP 0 rfl rfl 3 (by decide) (hts _ wk67) (fun _ h9 => h9) rfl dX7_idle_87 ?_
                have hq20 : (mw3.toInt = mw.toInt) ∧ ((nn.toInt < 1 ∨ 100 < nn.toInt ∨ 0 < mw.toInt) → mz3.toInt = -12 ∧ mz3.toInt = mz.toInt) ∧ ((1 ≤ nn.toInt ∧ nn.toInt ≤ 100 ∧ mw.toInt = 0) → (9000 ≤ mz.toInt + 66 * (nn.toInt - 1) → mz3.toInt = -14 ∧ mz3.toInt = mz.toInt) ∧ (mz.toInt + 66 * (nn.toInt - 1) < 9000 → mz3.toInt = mz.toInt + 66 * nn.toInt ∧ mz3.toInt = mz.toInt + 66 * nn.toInt)) := (by omega)
                exact hret mz3 (v1, mw3, mz3, gg3, gl3, gy3, gb3) _ _ _ _ dX7_idle_90 hq20 (hP.sub [0, 1, 2, 3, 4] rfl) (hD.sub [0, 1, 2, 3, 4] (by decide) rfl) hS
              ·
                have z19 := zi_nle c19
                refine lv_iconst (v := 0) hx hb dX7_idle_53 (by decide) ?_
                refine lv_topi (fun v21 e21 => ?_)
                have z21 : v21.toInt = 0 := zi_c e21 (by decide)
                refine lv_istore_n (lv' := [(3, .int v21), (0, .ref aM), (1, .int nn), (2, .int i)]) hx hb dX7_idle_54 rfl hl (by decide) rfl (fun ls hl => ?_)
                have J55 : ∀ (n : Nat) (k : Int32) (gg4 : Nat → Int32) (H : Heap) (locs : List Loc) (ls : Array Slot), ((8 - k.toInt).toNat) < n → (0 ≤ k.toInt ∧ k.toInt ≤ 8) → va_P D classes [(aM, .inr (6, [.int v1, .int mw3, .ref bG, .int mz3, .ref bL, .ref bY, .ref bB, .ref bC, .int tk, .int ss, .int ml, .int mh, .int mp, .int rw, .int wr, .int tc, .ref bT])), (bG, .inl (cI, 8, .inl gg4)), (bL, .inl (cB, 9200, .inl gl3)), (bY, .inl (cI, 116, .inl gy3)), (bB, .inl (cI, 66, .inl gb3))] H → va_D A [(aM, .inr (6, [.int v1, .int mw3, .ref bG, .int mz3, .ref bL, .ref bY, .ref bB, .ref bC, .int tk, .int ss, .int ml, .int mh, .int mp, .int rw, .int wr, .int tc, .ref bT])), (bG, .inl (cI, 8, .inl gg4)), (bL, .inl (cB, 9200, .inl gl3)), (bY, .inl (cI, 116, .inl gy3)), (bB, .inl (cI, 66, .inl gb3))] → va_S A s.heap H locs → lv_has ls 4 [(0, .ref aM), (1, .int nn), (2, .int i), (3, .int k)] → W p l e (rmL 4 91 0 0) s m args below meth c H locs 0 0 Q (F0 m 55 ls []) := by
                  intro n
                  induction n with
                  | zero => intro k gg4 H locs ls hmu; exact absurd hmu (Nat.not_lt_zero _)
                  | succ n ih55 =>
                    intro k gg4 H locs ls hmu55 i55_0 hP hD hS hl
                    have rg_k := zi_rg k
                    refine lv_iload_n hx hb dX7_idle_55 rfl (lv_at hl 3 rfl) ?_
                    refine lv_bipush (v := 8) hx hb dX7_idle_56 (by decide) ?_
                    refine lv_topi (fun v22 e22 => ?_)
                    have z22 : v22.toInt = 8 := zi_c e22 (by decide)
                    refine lv_icmp_ge (tgt := 76) hx hb dX7_idle_58 (by decide) (fun c23 => ?_) (fun c23 => ?_)
                    ·
                      have z23 := zi_le c23
                      refine lv_aload_n hx hb dX7_idle_76 rfl (lv_at hl 0 rfl) ?_
                      have hh24 : 0 ≤ mz3.toInt ∧ mz3.toInt + 66 ≤ 9200 := (by omega)
                      refine call_v (wc := [(aM, .inr (6, [.int v1, .int mw3, .ref bG, .int mz3, .ref bL, .ref bY, .ref bB, .ref bC, .int tk, .int ss, .int ml, .int mh, .int mp, .int rw, .int wr, .int tc, .ref bT])), (bG, .inl (cI, 8, .inl gg4)), (bL, .inl (cB, 9200, .inl gl3)), (bY, .inl (cI, 116, .inl gy3)), (bB, .inl (cI, 66, .inl gb3))]) (wr := []) (run_V (As := []) (rest := []) kv_RX7_76 ⟨by decide, by decide⟩ ⟨rfl, rfl⟩ ⟨hx, hb, hml, hown, hts⟩ (c_Mo_send l D cI cJ cB aM bG bL bY bB bC bT v1 mw3 mz3 tk ss ml mh mp rw wr tc gg4 gl3 gy3 gb3 hh24 _) ct_blind (ct_pre (wc := [(aM, .inr (6, [.int v1, .int mw3, .ref bG, .int mz3, .ref bL, .ref bY, .ref bB, .ref bC, .int tk, .int ss, .int ml, .int mh, .int mp, .int rw, .int wr, .int tc, .ref bT])), (bG, .inl (cI, 8, .inl gg4)), (bL, .inl (cB, 9200, .inl gl3)), (bY, .inl (cI, 116, .inl gy3)), (bB, .inl (cI, 66, .inl gb3))]) hK hP hD hS hA hZ hN [0, 1, 2, 3, 4] (by decide) rfl rfl) (va_recv hK hP (ci := 6) (q0 := 0) rfl rfl) rfl hl.1 rfl (Nat.le_of_ble_eq_true rfl) dX7_idle_77 ⟨Nat.le_of_ble_eq_true rfl, Nat.le_of_ble_eq_true rfl⟩) hP hD hS hA [0, 1, 2, 3, 4] [] rfl rfl (by decide) (by decide) (fun u H locs hw25 hP1 hD1 hS1 => ?_)
                      obtain ⟨mw2_25, mz2_25, gg2_25, gl2_25, gy2_25, gb2_25⟩ := u
                      have hw25 : mw2_25.toInt = 0 ∧ mz2_25.toInt = mz3.toInt + 66 := hw25
                      clear hP hD hS
                      have hP : va_P D classes [(aM, .inr (6, [.int v1, .int mw2_25, .ref bG, .int mz2_25, .ref bL, .ref bY, .ref bB, .ref bC, .int tk, .int ss, .int ml, .int mh, .int mp, .int rw, .int wr, .int tc, .ref bT])), (bG, .inl (cI, 8, .inl gg2_25)), (bL, .inl (cB, 9200, .inl gl2_25)), (bY, .inl (cI, 116, .inl gy2_25)), (bB, .inl (cI, 66, .inl gb2_25))] H := hP1
                      have hD : va_D A [(aM, .inr (6, [.int v1, .int mw2_25, .ref bG, .int mz2_25, .ref bL, .ref bY, .ref bB, .ref bC, .int tk, .int ss, .int ml, .int mh, .int mp, .int rw, .int wr, .int tc, .ref bT])), (bG, .inl (cI, 8, .inl gg2_25)), (bL, .inl (cB, 9200, .inl gl2_25)), (bY, .inl (cI, 116, .inl gy2_25)), (bB, .inl (cI, 66, .inl gb2_25))] := hD1
                      have hS := hS1
                      clear hP1 hD1 hS1
                      have rg_mw2_25 := zi_rg mw2_25
                      have rg_mz2_25 := zi_rg mz2_25
                      obtain ⟨v26, e26⟩ : ∃ y : Int32, y = i + 1 := ⟨_, rfl⟩
                      first | have z26 := zi_inc (z := 1) 1 (by decide) e26 (by omega) | skip
                      refine lv_iinc (v := v26) (lv' := [(2, .int v26), (0, .ref aM), (1, .int nn), (3, .int k)]) hx hb dX7_idle_80 hl (k := 2) rfl (by rw [e26]; rfl) (by decide) rfl (fun ls hl => ?_)
                      refine lv_goto (tgt := 48) hx hb dX7_idle_83 (by decide) ?_
                      exact ih48 v26 mw2_25 mz2_25 gg2_25 gl2_25 gy2_25 gb2_25 _ _ _ (by omega) (by omega) (by omega) (hP.sub [0, 1, 2, 3, 4] rfl) (hD.sub [0, 1, 2, 3, 4] (by decide) rfl) hS (lv_sub hl [1, 2, 0] rfl)
                    ·
                      have z23 := zi_nle c23
                      refine lv_aload_n hx hb dX7_idle_61 rfl (lv_at hl 0 rfl) ?_
                      refine va_get (D := D) (ci := 6) (v := .ref bG) (C := RX7) (T := TX7) (N := 17) hx hb hts in_X7 hown hK hP 0 rfl rfl 2 (by decide) (hts _ wk60) (fun _ h9 => h9) rfl dX7_idle_62 ?_
                      refine lv_iload_n hx hb dX7_idle_65 rfl (lv_at hl 3 rfl) ?_
                      refine lv_sipush (v := 256) hx hb dX7_idle_66 (by decide) ?_
                      refine lv_topi (fun v27 e27 => ?_)
                      have z27 : v27.toInt = 256 := zi_c e27 (by decide)
                      obtain ⟨f28, ef28⟩ : ∃ z9, z9 = upd gg4 k.toNatClampNeg v27 := ⟨_, rfl⟩
                      refine va_iast hx hb hK hP hD hS 1 0 rfl rfl (zi_in (by omega)) dX7_idle_69 (fun H locs hP1 hD1 hS1 => ?_)
                      rw [← ef28] at hP1 hD1
                      clear hP hD hS
                      have hP : va_P D classes [(aM, .inr (6, [.int v1, .int mw3, .ref bG, .int mz3, .ref bL, .ref bY, .ref bB, .ref bC, .int tk, .int ss, .int ml, .int mh, .int mp, .int rw, .int wr, .int tc, .ref bT])), (bG, .inl (cI, 8, .inl f28)), (bL, .inl (cB, 9200, .inl gl3)), (bY, .inl (cI, 116, .inl gy3)), (bB, .inl (cI, 66, .inl gb3))] H := hP1
                      have hD : va_D A [(aM, .inr (6, [.int v1, .int mw3, .ref bG, .int mz3, .ref bL, .ref bY, .ref bB, .ref bC, .int tk, .int ss, .int ml, .int mh, .int mp, .int rw, .int wr, .int tc, .ref bT])), (bG, .inl (cI, 8, .inl f28)), (bL, .inl (cB, 9200, .inl gl3)), (bY, .inl (cI, 116, .inl gy3)), (bB, .inl (cI, 66, .inl gb3))] := hD1
                      have hS := hS1
                      clear hP1 hD1 hS1
                      obtain ⟨v29, e29⟩ : ∃ y : Int32, y = k + 1 := ⟨_, rfl⟩
                      first | have z29 := zi_inc (z := 1) 1 (by decide) e29 (by omega) | skip
                      refine lv_iinc (v := v29) (lv' := [(3, .int v29), (0, .ref aM), (1, .int nn), (2, .int i)]) hx hb dX7_idle_70 hl (k := 3) rfl (by rw [e29]; rfl) (by decide) rfl (fun ls hl => ?_)
                      refine lv_goto (tgt := 55) hx hb dX7_idle_73 (by decide) ?_
                      exact ih55 v29 f28 _ _ _ (by omega) (by omega) (hP.sub [0, 1, 2, 3, 4] rfl) (hD.sub [0, 1, 2, 3, 4] (by decide) rfl) hS (lv_sub hl [1, 2, 3, 0] rfl)
                exact J55 _ v21 gg3 _ _ _ (Nat.lt_succ_self _) (by omega) (hP.sub [0, 1, 2, 3, 4] rfl) (hD.sub [0, 1, 2, 3, 4] (by decide) rfl) hS (lv_sub hl [1, 2, 3, 0] rfl)
          exact J48 _ v18 mw mz gg gl gy gb _ _ _ (Nat.lt_succ_self _) (by omega) (by omega) (hP.sub [0, 1, 2, 3, 4] rfl) (hD.sub [0, 1, 2, 3, 4] (by decide) rfl) hS (lv_sub hl [1, 2, 0] rfl)
        ·
          have z17 := zi_nlt c17
          refine lv_bipush (v := -14) hx hb dX7_idle_43 (by decide) ?_
          refine lv_topi (fun v30 e30 => ?_)
          have z30 : v30.toInt = (-14) := zi_c e30 (by decide)
          have hq31 : (mw.toInt = mw.toInt) ∧ ((nn.toInt < 1 ∨ 100 < nn.toInt ∨ 0 < mw.toInt) → v30.toInt = -12 ∧ mz.toInt = mz.toInt) ∧ ((1 ≤ nn.toInt ∧ nn.toInt ≤ 100 ∧ mw.toInt = 0) → (9000 ≤ mz.toInt + 66 * (nn.toInt - 1) → v30.toInt = -14 ∧ mz.toInt = mz.toInt) ∧ (mz.toInt + 66 * (nn.toInt - 1) < 9000 → v30.toInt = mz.toInt + 66 * nn.toInt ∧ mz.toInt = mz.toInt + 66 * nn.toInt)) := (by omega)
          exact hret v30 (v1, mw, mz, gg, gl, gy, gb) _ _ _ _ dX7_idle_45 hq31 (hP.sub [0, 1, 2, 3, 4] rfl) (hD.sub [0, 1, 2, 3, 4] (by decide) rfl) hS
      ·
        have z10 := zi_nle0 c10
        refine lv_bipush (v := -12) hx hb dX7_idle_23 (by decide) ?_
        refine lv_topi (fun v32 e32 => ?_)
        have z32 : v32.toInt = (-12) := zi_c e32 (by decide)
        have hq33 : (mw.toInt = mw.toInt) ∧ ((nn.toInt < 1 ∨ 100 < nn.toInt ∨ 0 < mw.toInt) → v32.toInt = -12 ∧ mz.toInt = mz.toInt) ∧ ((1 ≤ nn.toInt ∧ nn.toInt ≤ 100 ∧ mw.toInt = 0) → (9000 ≤ mz.toInt + 66 * (nn.toInt - 1) → v32.toInt = -14 ∧ mz.toInt = mz.toInt) ∧ (mz.toInt + 66 * (nn.toInt - 1) < 9000 → v32.toInt = mz.toInt + 66 * nn.toInt ∧ mz.toInt = mz.toInt + 66 * nn.toInt)) := (by omega)
        exact hret v32 (v1, mw, mz, gg, gl, gy, gb) _ _ _ _ dX7_idle_25 hq33 (hP.sub [0, 1, 2, 3, 4] rfl) (hD.sub [0, 1, 2, 3, 4] (by decide) rfl) hS
