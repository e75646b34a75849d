set_option maxHeartbeats 4000000 in
set_option maxRecDepth 100000 in
theorem c_Mo_tell (l : Launch) (D : va_G) (cI cJ cB : ClassId) (aM : Nat) (bG : Nat) (bL : Nat) (bY : Nat) (bB : Nat) (bC : Nat) (bT : Nat) (th : Int32) (mw : Int32) (mz : Int32) (tk : Int32) (ss : Int32) (ml : Int32) (mh : Int32) (mp : Int32) (rw : Int32) (wr : Int32) (tc : Int32) (go : Nat → Int32) (gt : Nat → Int32) (h1 : 0 ≤ tc.toInt ∧ tc.toInt ≤ 1000000000) :
    ctv l yX7_tell (wsOf yX7_tell cX7_tell 2 none) (rmL 3 68 0 0) D classes (tys3 cI cJ cB) [.ref aM] [(aM, .inr (6, [.int th, .int mw, .ref bG, .int mz, .ref bL, .ref bY, .ref bB, .ref bC, .int tk, .int ss, .int ml, .int mh, .int mp, .int rw, .int wr, .int tc, .ref bT])), (bC, .inl (cI, 66, .inl go)), (bT, .inl (cI, 2400, .inl gt))] (fun u : Int32 × (Nat → Int32) => u.1.toInt = tc.toInt + 1) (fun u : Int32 × (Nat → Int32) => ([(aM, .inr (6, [.int th, .int mw, .ref bG, .int mz, .ref bL, .ref bY, .ref bB, .ref bC, .int tk, .int ss, .int ml, .int mh, .int mp, .int rw, .int wr, .int u.1, .ref bT])), (bC, .inl (cI, 66, .inl go)), (bT, .inl (cI, 2400, .inl u.2))] : va_W)) 0 0 := by
  refine ctv.of (by first | exact plainFor_of_name (by decide) | decide +kernel) (Nat.le_of_ble_eq_true rfl) (fun p e s m args below meth c A ls Q h hret => ?_)
  obtain ⟨hx, hb, hml, hown, hts, hnm, hP, hK, hD, hA, hS, hZ, hN, hl⟩ := h
  have hown : s.vm.findClass RX7 = some m.cls := hown
  have hl : lv_has ls 2 [(0, .ref aM)] := hl
  have hP : va_P D classes [(aM, .inr (6, [.int th, .int mw, .ref bG, .int mz, .ref bL, .ref bY, .ref bB, .ref bC, .int tk, .int ss, .int ml, .int mh, .int mp, .int rw, .int wr, .int tc, .ref bT])), (bC, .inl (cI, 66, .inl go)), (bT, .inl (cI, 2400, .inl gt))] s.heap := hP
  have hD : va_D A [(aM, .inr (6, [.int th, .int mw, .ref bG, .int mz, .ref bL, .ref bY, .ref bB, .ref bC, .int tk, .int ss, .int ml, .int mh, .int mp, .int rw, .int wr, .int tc, .ref bT])), (bC, .inl (cI, 66, .inl go)), (bT, .inl (cI, 2400, .inl gt))] := hD
  have rg_th := zi_rg th
  have rg_mw := zi_rg mw
  have rg_mz := zi_rg mz
  have rg_tk := zi_rg tk
  have rg_ss := zi_rg ss
  have rg_ml := zi_rg ml
  have rg_mh := zi_rg mh
  have rg_mp := zi_rg mp
  have rg_rw := zi_rg rw
  have rg_wr := zi_rg wr
  have rg_tc := zi_rg tc
  refine lv_iconst (v := 0) hx hb dX7_tell_0 (by decide) ?_
  refine lv_topi (fun v1 e1 => ?_)
  have z1 : v1.toInt = 0 := zi_c e1 (by decide)
  refine lv_istore_n (lv' := [(1, .int v1), (0, .ref aM)]) hx hb dX7_tell_1 rfl hl (by decide) rfl (fun ls hl => ?_)
  have J2 : ∀ (n : Nat) (k : Int32) (gt3 : Nat → Int32) (H : Heap) (locs : List Loc) (ls : Array Slot), ((8 - k.toInt).toNat) < n → (0 ≤ k.toInt ∧ k.toInt ≤ 8) → va_P D classes [(aM, .inr (6, [.int th, .int mw, .ref bG, .int mz, .ref bL, .ref bY, .ref bB, .ref bC, .int tk, .int ss, .int ml, .int mh, .int mp, .int rw, .int wr, .int tc, .ref bT])), (bC, .inl (cI, 66, .inl go)), (bT, .inl (cI, 2400, .inl gt3))] H → va_D A [(aM, .inr (6, [.int th, .int mw, .ref bG, .int mz, .ref bL, .ref bY, .ref bB, .ref bC, .int tk, .int ss, .int ml, .int mh, .int mp, .int rw, .int wr, .int tc, .ref bT])), (bC, .inl (cI, 66, .inl go)), (bT, .inl (cI, 2400, .inl gt3))] → va_S A s.heap H locs → lv_has ls 2 [(0, .ref aM), (1, .int k)] → W p l e (rmL 3 68 0 0) s m args below meth c H locs 0 0 Q (F0 m 2 ls []) := by
    intro n
    induction n with
    | zero => intro k gt3 H locs ls hmu; exact absurd hmu (Nat.not_lt_zero _)
    | succ n ih2 =>
      intro k gt3 H locs ls hmu2 i2_0 hP hD hS hl
      have rg_k := zi_rg k
      refine lv_iload_n hx hb dX7_tell_2 rfl (lv_at hl 1 rfl) ?_
      refine lv_bipush (v := 8) hx hb dX7_tell_3 (by decide) ?_
      refine lv_topi (fun v2 e2 => ?_)
      have z2 : v2.toInt = 8 := zi_c e2 (by decide)
      refine lv_icmp_ge (tgt := 37) hx hb dX7_tell_5 (by decide) (fun c3 => ?_) (fun c3 => ?_)
      ·
        have z3 := zi_le c3
        refine lv_aload_n hx hb dX7_tell_37 rfl (lv_at hl 0 rfl) ?_
        refine lv_dup hx hb dX7_tell_38 rfl ?_
        refine va_get (D := D) (ci := 6) (v := .int tc) (C := RX7) (T := TX7) (N := 17) hx hb hts in_X7 hown hK hP 0 rfl rfl 15 (by decide) (hts _ wk375) (fun _ h9 => h9) rfl dX7_tell_39 ?_
        refine lv_iconst (v := 1) hx hb dX7_tell_42 (by decide) ?_
        refine lv_topi (fun v4 e4 => ?_)
        have z4 : v4.toInt = 1 := zi_c e4 (by decide)
        refine lv_iadd hx hb dX7_tell_43 ?_
        refine lv_topi (fun v5 e5 => ?_)
        first | have z5 := zi_add e5 (by omega) | skip
        refine va_put (D := D) (ci := 6) (v := .int v5) (ty := .int) (C := RX7) (T := TX7) (N := 17) hx hb hts in_X7 tyX7 tyX7_ok nmX7 hown hK hP hD hS 0 rfl rfl 15 (by decide) (hts _ wk375) (fun _ h9 => h9) rfl (by decide +kernel) rfl rfl (Nat.le_of_ble_eq_true rfl) dX7_tell_44 (fun H locs hP1 hD1 hS1 => ?_)
        clear hP hD hS
        have hP : va_P D classes [(aM, .inr (6, [.int th, .int mw, .ref bG, .int mz, .ref bL, .ref bY, .ref bB, .ref bC, .int tk, .int ss, .int ml, .int mh, .int mp, .int rw, .int wr, .int v5, .ref bT])), (bC, .inl (cI, 66, .inl go)), (bT, .inl (cI, 2400, .inl gt3))] H := hP1
        have hD : va_D A [(aM, .inr (6, [.int th, .int mw, .ref bG, .int mz, .ref bL, .ref bY, .ref bB, .ref bC, .int tk, .int ss, .int ml, .int mh, .int mp, .int rw, .int wr, .int v5, .ref bT])), (bC, .inl (cI, 66, .inl go)), (bT, .inl (cI, 2400, .inl gt3))] := hD1
        have hS := hS1
        clear hP1 hD1 hS1
        have hq6 : v5.toInt = tc.toInt + 1 := (by omega)
        exact hret (v5, gt3) _ _ _ _ dX7_tell_47 hq6 (hP.sub [0, 1, 2] rfl) (hD.sub [0, 1, 2] (by decide) rfl) hS
      ·
        have z3 := zi_nle c3
        refine lv_aload_n hx hb dX7_tell_8 rfl (lv_at hl 0 rfl) ?_
        refine va_get (D := D) (ci := 6) (v := .ref bT) (C := RX7) (T := TX7) (N := 17) hx hb hts in_X7 hown hK hP 0 rfl rfl 16 (by decide) (hts _ wk66) (fun _ h9 => h9) rfl dX7_tell_9 ?_
        refine lv_bipush (v := 8) hx hb dX7_tell_12 (by decide) ?_
        refine lv_topi (fun v7 e7 => ?_)
        have z7 : v7.toInt = 8 := zi_c e7 (by decide)
        refine lv_aload_n hx hb dX7_tell_14 rfl (lv_at hl 0 rfl) ?_
        refine va_get (D := D) (ci := 6) (v := .int tc) (C := RX7) (T := TX7) (N := 17) hx hb hts in_X7 hown hK hP 0 rfl rfl 15 (by decide) (hts _ wk375) (fun _ h9 => h9) rfl dX7_tell_15 ?_
        refine lv_sipush (v := 300) hx hb dX7_tell_18 (by decide) ?_
        refine lv_topi (fun v8 e8 => ?_)
        have z8 : v8.toInt = 300 := zi_c e8 (by decide)
        refine lv_irem hx hb dX7_tell_21 (zi_ne0' (z := 300) (by omega) (by decide)) ?_
        refine lv_topi (fun v9 e9 => ?_)
        first | have z9 := zi_rem (k := 300) e9 (by omega) (by omega) | skip
        refine lv_imul hx hb dX7_tell_22 ?_
        refine lv_topi (fun v10 e10 => ?_)
        first | have z10 := zi_mulL (k := 8) e10 (by omega) (by omega) | skip
        refine lv_iload_n hx hb dX7_tell_23 rfl (lv_at hl 1 rfl) ?_
        refine lv_iadd hx hb dX7_tell_24 ?_
        refine lv_topi (fun v11 e11 => ?_)
        first | have z11 := zi_add e11 (by omega) | skip
        refine lv_aload_n hx hb dX7_tell_25 rfl (lv_at hl 0 rfl) ?_
        refine lv_iload_n hx hb dX7_tell_26 rfl (lv_at hl 1 rfl) ?_
        have hh12 : 0 ≤ k.toInt ∧ k.toInt < 8 := (by omega)
        refine call_i (wc := [(aM, .inr (6, [.int th, .int mw, .ref bG, .int mz, .ref bL, .ref bY, .ref bB, .ref bC, .int tk, .int ss, .int ml, .int mh, .int mp, .int rw, .int wr, .int tc, .ref bT])), (bC, .inl (cI, 66, .inl go))]) (wr := [(bT, .inl (cI, 2400, .inl gt3))]) (run_V (As := [.int k]) (rest := [.int v11, .ref bT]) kv_RX7_94 ⟨by decide, by decide⟩ ⟨rfl, rfl⟩ ⟨hx, hb, hml, hown, hts⟩ (c_Mo_character l D cI cJ cB aM bG bL bY bB bC bT th mw mz tk ss ml mh mp rw wr tc go k hh12 _) ct_blind (ct_pre (wc := [(aM, .inr (6, [.int th, .int mw, .ref bG, .int mz, .ref bL, .ref bY, .ref bB, .ref bC, .int tk, .int ss, .int ml, .int mh, .int mp, .int rw, .int wr, .int tc, .ref bT])), (bC, .inl (cI, 66, .inl go))]) hK hP hD hS hA hZ hN [0, 1] (by decide) rfl rfl) (va_recv hK hP (ci := 6) (q0 := 0) rfl rfl) rfl hl.1 rfl (Nat.le_of_ble_eq_true rfl) dX7_tell_27 ⟨Nat.le_of_ble_eq_true rfl, Nat.le_of_ble_eq_true rfl⟩) hP hD hS hA [0, 1] [2] rfl rfl (by decide) (by decide) (fun r13 u H locs hw13 hP1 hD1 hS1 => ?_)
        clear hw13
        clear hP hD hS
        have hP : va_P D classes [(bT, .inl (cI, 2400, .inl gt3)), (aM, .inr (6, [.int th, .int mw, .ref bG, .int mz, .ref bL, .ref bY, .ref bB, .ref bC, .int tk, .int ss, .int ml, .int mh, .int mp, .int rw, .int wr, .int tc, .ref bT])), (bC, .inl (cI, 66, .inl go))] H := hP1
        have hD : va_D A [(bT, .inl (cI, 2400, .inl gt3)), (aM, .inr (6, [.int th, .int mw, .ref bG, .int mz, .ref bL, .ref bY, .ref bB, .ref bC, .int tk, .int ss, .int ml, .int mh, .int mp, .int rw, .int wr, .int tc, .ref bT])), (bC, .inl (cI, 66, .inl go))] := hD1
        have hS := hS1
        clear hP1 hD1 hS1
        have rg_r13 := zi_rg r13
        obtain ⟨f14, ef14⟩ : ∃ z9, z9 = upd gt3 v11.toNatClampNeg r13 := ⟨_, rfl⟩
        refine va_iast hx hb hK hP hD hS 0 0 rfl rfl (zi_in (by omega)) dX7_tell_30 (fun H locs hP1 hD1 hS1 => ?_)
        rw [← ef14] at hP1 hD1
        clear hP hD hS
        have hP : va_P D classes [(bT, .inl (cI, 2400, .inl f14)), (aM, .inr (6, [.int th, .int mw, .ref bG, .int mz, .ref bL, .ref bY, .ref bB, .ref bC, .int tk, .int ss, .int ml, .int mh, .int mp, .int rw, .int wr, .int tc, .ref bT])), (bC, .inl (cI, 66, .inl go))] H := hP1
        have hD : va_D A [(bT, .inl (cI, 2400, .inl f14)), (aM, .inr (6, [.int th, .int mw, .ref bG, .int mz, .ref bL, .ref bY, .ref bB, .ref bC, .int tk, .int ss, .int ml, .int mh, .int mp, .int rw, .int wr, .int tc, .ref bT])), (bC, .inl (cI, 66, .inl go))] := hD1
        have hS := hS1
        clear hP1 hD1 hS1
        obtain ⟨v15, e15⟩ : ∃ y : Int32, y = k + 1 := ⟨_, rfl⟩
        first | have z15 := zi_inc (z := 1) 1 (by decide) e15 (by omega) | skip
        refine lv_iinc (v := v15) (lv' := [(1, .int v15), (0, .ref aM)]) hx hb dX7_tell_31 hl (k := 1) rfl (by rw [e15]; rfl) (by decide) rfl (fun ls hl => ?_)
        refine lv_goto (tgt := 2) hx hb dX7_tell_34 (by decide) ?_
        exact ih2 v15 f14 _ _ _ (by omega) (by omega) (hP.sub [1, 2, 0] rfl) (hD.sub [1, 2, 0] (by decide) rfl) hS (lv_sub hl [1, 0] rfl)
  exact J2 _ v1 gt _ _ _ (Nat.lt_succ_self _) (by omega) (hP.sub [0, 1, 2] rfl) (hD.sub [0, 1, 2] (by decide) rfl) hS (lv_sub hl [1, 0] rfl)

set_option maxHeartbeats 4000000 in
set_option maxRecDepth 100000 in
theorem c_Mo_slip (l : Launch) (D : va_G) (cI cJ cB : ClassId) (aM : Nat) (bG : Nat) (bL : Nat) (bY : Nat) (bB : Nat) (bC : Nat) (bT : Nat) (th : Int32) (mw : Int32) (mz : Int32) (tk : Int32) (ss : Int32) (ml : Int32) (mh : Int32) (mp : Int32) (rw : Int32) (wr : Int32) (tc : Int32) (h1 : 0 ≤ mp.toInt ∧ mp.toInt ≤ 1000000000) :
    ctv l yX7_slip (wsOf yX7_slip cX7_slip 1 none) (rmL 0 0 0 0) D classes (tys3 cI cJ cB) [.ref aM] [(aM, .inr (6, [.int th, .int mw, .ref bG, .int mz, .ref bL, .ref bY, .ref bB, .ref bC, .int tk, .int ss, .int ml, .int mh, .int mp, .int rw, .int wr, .int tc, .ref bT]))] (fun u : Int32 × Int32 => u.1.toInt = 1 ∧ u.2.toInt = mp.toInt + 1) (fun u : Int32 × Int32 => ([(aM, .inr (6, [.int th, .int mw, .ref bG, .int mz, .ref bL, .ref bY, .ref bB, .ref bC, .int tk, .int u.1, .int ml, .int mh, .int u.2, .int rw, .int wr, .int tc, .ref bT]))] : va_W)) 0 0 := by
  refine ctv.of (by first | exact plainFor_of_name (by decide) | decide +kernel) (Nat.le_of_ble_eq_true rfl) (fun p e s m args below meth c A ls Q h hret => ?_)
  obtain ⟨hx, hb, hml, hown, hts, hnm, hP, hK, hD, hA, hS, hZ, hN, hl⟩ := h
  have hown : s.vm.findClass RX7 = some m.cls := hown
  have hl : lv_has ls 1 [(0, .ref aM)] := hl
  have hP : va_P D classes [(aM, .inr (6, [.int th, .int mw, .ref bG, .int mz, .ref bL, .ref bY, .ref bB, .ref bC, .int tk, .int ss, .int ml, .int mh, .int mp, .int rw, .int wr, .int tc, .ref bT]))] s.heap := hP
  have hD : va_D A [(aM, .inr (6, [.int th, .int mw, .ref bG, .int mz, .ref bL, .ref bY, .ref bB, .ref bC, .int tk, .int ss, .int ml, .int mh, .int mp, .int rw, .int wr, .int tc, .ref bT]))] := hD
  have rg_th := zi_rg th
  have rg_mw := zi_rg mw
  have rg_mz := zi_rg mz
  have rg_tk := zi_rg tk
  have rg_ss := zi_rg ss
  have rg_ml := zi_rg ml
  have rg_mh := zi_rg mh
  have rg_mp := zi_rg mp
  have rg_rw := zi_rg rw
  have rg_wr := zi_rg wr
  have rg_tc := zi_rg tc
  refine lv_aload_n hx hb dX7_slip_0 rfl (lv_at hl 0 rfl) ?_
  refine lv_iconst (v := 1) hx hb dX7_slip_1 (by decide) ?_
  refine lv_topi (fun v1 e1 => ?_)
  have z1 : v1.toInt = 1 := zi_c e1 (by decide)
  refine va_put (D := D) (ci := 6) (v := .int v1) (ty := .boolean) (C := RX7) (T := TX7) (N := 17) hx hb hts in_X7 tyX7 tyX7_ok nmX7 hown hK hP hD hS 0 rfl rfl 9 (by decide) (hts _ wk376) (fun _ h9 => h9) rfl (by decide +kernel) (zb_n (by omega)) (zb_f (by omega)) (Nat.le_of_ble_eq_true rfl) dX7_slip_2 (fun H locs hP1 hD1 hS1 => ?_)
  clear hP hD hS
  have hP : va_P D classes [(aM, .inr (6, [.int th, .int mw, .ref bG, .int mz, .ref bL, .ref bY, .ref bB, .ref bC, .int tk, .int v1, .int ml, .int mh, .int mp, .int rw, .int wr, .int tc, .ref bT]))] H := hP1
  have hD : va_D A [(aM, .inr (6, [.int th, .int mw, .ref bG, .int mz, .ref bL, .ref bY, .ref bB, .ref bC, .int tk, .int v1, .int ml, .int mh, .int mp, .int rw, .int wr, .int tc, .ref bT]))] := hD1
  have hS := hS1
  clear hP1 hD1 hS1
  refine lv_aload_n hx hb dX7_slip_5 rfl (lv_at hl 0 rfl) ?_
  refine lv_dup hx hb dX7_slip_6 rfl ?_
  refine va_get (D := D) (ci := 6) (v := .int mp) (C := RX7) (T := TX7) (N := 17) hx hb hts in_X7 hown hK hP 0 rfl rfl 12 (by decide) (hts _ wk390) (fun _ h9 => h9) rfl dX7_slip_7 ?_
  refine lv_iconst (v := 1) hx hb dX7_slip_10 (by decide) ?_
  refine lv_topi (fun v2 e2 => ?_)
  have z2 : v2.toInt = 1 := zi_c e2 (by decide)
  refine lv_iadd hx hb dX7_slip_11 ?_
  refine lv_topi (fun v3 e3 => ?_)
  first | have z3 := zi_add e3 (by omega) | skip
  refine va_put (D := D) (ci := 6) (v := .int v3) (ty := .int) (C := RX7) (T := TX7) (N := 17) hx hb hts in_X7 tyX7 tyX7_ok nmX7 hown hK hP hD hS 0 rfl rfl 12 (by decide) (hts _ wk390) (fun _ h9 => h9) rfl (by decide +kernel) rfl rfl (Nat.le_of_ble_eq_true rfl) dX7_slip_12 (fun H locs hP1 hD1 hS1 => ?_)
  clear hP hD hS
  have hP : va_P D classes [(aM, .inr (6, [.int th, .int mw, .ref bG, .int mz, .ref bL, .ref bY, .ref bB, .ref bC, .int tk, .int v1, .int ml, .int mh, .int v3, .int rw, .int wr, .int tc, .ref bT]))] H := hP1
  have hD : va_D A [(aM, .inr (6, [.int th, .int mw, .ref bG, .int mz, .ref bL, .ref bY, .ref bB, .ref bC, .int tk, .int v1, .int ml, .int mh, .int v3, .int rw, .int wr, .int tc, .ref bT]))] := hD1
  have hS := hS1
  clear hP1 hD1 hS1
  have hq4 : v1.toInt = 1 ∧ v3.toInt = mp.toInt + 1 := (by omega)
  exact hret (v1, v3) _ _ _ _ dX7_slip_15 hq4 (hP.sub [0] rfl) (hD.sub [0] (by decide) rfl) hS

set_option maxHeartbeats 4000000 in
set_option maxRecDepth 100000 in
theorem c_Mo_whole (l : Launch) (D : va_G) (cI cJ cB : ClassId) (aM : Nat) (bG : Nat) (bL : Nat) (bY : Nat) (bB : Nat) (bC : Nat) (bT : Nat) (th : Int32) (mw : Int32) (mz : Int32) (tk : Int32) (ss : Int32) (ml : Int32) (mh : Int32) (mp : Int32) (rw : Int32) (wr : Int32) (tc : Int32) (gy : Nat → Int32) (go : Nat → Int32) (gt : Nat → Int32) (h1 : 0 ≤ tc.toInt ∧ tc.toInt ≤ 1000000000) (h2 : (0 ≤ ml.toInt ∧ ml.toInt ≤ 1) ∧ (0 ≤ mh.toInt ∧ mh.toInt ≤ 63) ∧ (0 ≤ wr.toInt ∧ wr.toInt ≤ 15) ∧ (0 ≤ ss.toInt ∧ ss.toInt ≤ 1) ∧ (0 ≤ rw.toInt ∧ rw.toInt ≤ 64) ∧ (0 ≤ mp.toInt ∧ mp.toInt ≤ 1000000000)) (h3 : rwK ml.toInt rw.toInt) :
    ctv l yX7_whole (wsOf yX7_whole cX7_whole 3 none) (rmL 4 89 0 0) D classes (tys3 cI cJ cB) [.ref aM] [(aM, .inr (6, [.int th, .int mw, .ref bG, .int mz, .ref bL, .ref bY, .ref bB, .ref bC, .int tk, .int ss, .int ml, .int mh, .int mp, .int rw, .int wr, .int tc, .ref bT])), (bY, .inl (cI, 116, .inl gy)), (bC, .inl (cI, 66, .inl go)), (bT, .inl (cI, 2400, .inl gt))] (fun u : Int32 × Int32 × Int32 × Int32 × Int32 × Int32 × Int32 × Int32 × (Nat → Int32) × (Nat → Int32) × (Nat → Int32) => (((((0 ≤ u.2.2.1.toInt ∧ u.2.2.1.toInt ≤ 1) ∧ (0 ≤ u.2.2.2.1.toInt ∧ u.2.2.2.1.toInt ≤ 63) ∧ (0 ≤ u.2.2.2.2.2.2.1.toInt ∧ u.2.2.2.2.2.2.1.toInt ≤ 15) ∧ (0 ≤ u.2.1.toInt ∧ u.2.1.toInt ≤ 1) ∧ (0 ≤ u.2.2.2.2.2.1.toInt ∧ u.2.2.2.2.2.1.toInt ≤ 64)) ∧ (mp.toInt ≤ u.2.2.2.2.1.toInt ∧ u.2.2.2.2.1.toInt ≤ mp.toInt + 1)) ∧ rwK u.2.2.1.toInt u.2.2.2.2.2.1.toInt) ∧ whR (fitM (go 0).toInt (go 1).toInt) ss.toInt ml.toInt mh.toInt mp.toInt rw.toInt wr.toInt tc.toInt u.2.1.toInt u.2.2.1.toInt u.2.2.2.1.toInt u.2.2.2.2.1.toInt u.2.2.2.2.2.1.toInt u.2.2.2.2.2.2.1.toInt u.2.2.2.2.2.2.2.1.toInt) ∧ (0 ≤ u.2.2.1.toInt ∧ u.2.2.1.toInt ≤ 1) ∧ u.1.toInt = 0 ∧ tc.toInt ≤ u.2.2.2.2.2.2.2.1.toInt ∧ u.2.2.2.2.2.2.2.1.toInt ≤ tc.toInt + 1 ∧ ∀ j, j < 58 → u.2.2.2.2.2.2.2.2.1 j = gy j) (fun u : Int32 × Int32 × Int32 × Int32 × Int32 × Int32 × Int32 × Int32 × (Nat → Int32) × (Nat → Int32) × (Nat → Int32) => ([(aM, .inr (6, [.int th, .int mw, .ref bG, .int mz, .ref bL, .ref bY, .ref bB, .ref bC, .int u.1, .int u.2.1, .int u.2.2.1, .int u.2.2.2.1, .int u.2.2.2.2.1, .int u.2.2.2.2.2.1, .int u.2.2.2.2.2.2.1, .int u.2.2.2.2.2.2.2.1, .ref bT])), (bY, .inl (cI, 116, .inl u.2.2.2.2.2.2.2.2.1)), (bC, .inl (cI, 66, .inl u.2.2.2.2.2.2.2.2.2.1)), (bT, .inl (cI, 2400, .inl u.2.2.2.2.2.2.2.2.2.2))] : va_W)) 0 0 := by
  refine ctv.of (by first | exact plainFor_of_name (by decide) | decide +kernel) (Nat.le_of_ble_eq_true rfl) (fun p e s m args below meth c A ls Q h hret => ?_)
  obtain ⟨hx, hb, hml, hown, hts, hnm, hP, hK, hD, hA, hS, hZ, hN, hl⟩ := h
  have hown : s.vm.findClass RX7 = some m.cls := hown
  have hl : lv_has ls 3 [(0, .ref aM)] := hl
  have hP : va_P D classes [(aM, .inr (6, [.int th, .int mw, .ref bG, .int mz, .ref bL, .ref bY, .ref bB, .ref bC, .int tk, .int ss, .int ml, .int mh, .int mp, .int rw, .int wr, .int tc, .ref bT])), (bY, .inl (cI, 116, .inl gy)), (bC, .inl (cI, 66, .inl go)), (bT, .inl (cI, 2400, .inl gt))] s.heap := hP
  have hD : va_D A [(aM, .inr (6, [.int th, .int mw, .ref bG, .int mz, .ref bL, .ref bY, .ref bB, .ref bC, .int tk, .int ss, .int ml, .int mh, .int mp, .int rw, .int wr, .int tc, .ref bT])), (bY, .inl (cI, 116, .inl gy)), (bC, .inl (cI, 66, .inl go)), (bT, .inl (cI, 2400, .inl gt))] := hD
  have rg_th := zi_rg th
  have rg_mw := zi_rg mw
  have rg_mz := zi_rg mz
  have rg_tk := zi_rg tk
  have rg_ss := zi_rg ss
  have rg_ml := zi_rg ml
  have rg_mh := zi_rg mh
  have rg_mp := zi_rg mp
  have rg_rw := zi_rg rw
  have rg_wr := zi_rg wr
  have rg_tc := zi_rg tc
  refine lv_aload_n hx hb dX7_whole_0 rfl (lv_at hl 0 rfl) ?_
  refine lv_iconst (v := 0) hx hb dX7_whole_1 (by decide) ?_
  refine lv_topi (fun v1 e1 => ?_)
  have z1 : v1.toInt = 0 := zi_c e1 (by decide)
  refine va_put (D := D) (ci := 6) (v := .int v1) (ty := .int) (C := RX7) (T := TX7) (N := 17) hx hb hts in_X7 tyX7 tyX7_ok nmX7 hown hK hP hD hS 0 rfl rfl 8 (by decide) (hts _ wk377) (fun _ h9 => h9) rfl (by decide +kernel) rfl rfl (Nat.le_of_ble_eq_true rfl) dX7_whole_2 (fun H locs hP1 hD1 hS1 => ?_)
  clear hP hD hS
  have hP : va_P D classes [(aM, .inr (6, [.int th, .int mw, .ref bG, .int mz, .ref bL, .ref bY, .ref bB, .ref bC, .int v1, .int ss, .int ml, .int mh, .int mp, .int rw, .int wr, .int tc, .ref bT])), (bY, .inl (cI, 116, .inl gy)), (bC, .inl (cI, 66, .inl go)), (bT, .inl (cI, 2400, .inl gt))] H := hP1
  have hD : va_D A [(aM, .inr (6, [.int th, .int mw, .ref bG, .int mz, .ref bL, .ref bY, .ref bB, .ref bC, .int v1, .int ss, .int ml, .int mh, .int mp, .int rw, .int wr, .int tc, .ref bT])), (bY, .inl (cI, 116, .inl gy)), (bC, .inl (cI, 66, .inl go)), (bT, .inl (cI, 2400, .inl gt))] := hD1
  have hS := hS1
  clear hP1 hD1 hS1
  refine lv_iconst (v := 2) hx hb dX7_whole_5 (by decide) ?_
  refine lv_topi (fun v2 e2 => ?_)
  have z2 : v2.toInt = 2 := zi_c e2 (by decide)
  refine lv_istore_n (lv' := [(1, .int v2), (0, .ref aM)]) hx hb dX7_whole_6 rfl hl (by decide) rfl (fun ls hl => ?_)
  have J7 : ∀ (n : Nat) (k : Int32) (gy3 : Nat → Int32) (go3 : Nat → Int32) (H : Heap) (locs : List Loc) (ls : Array Slot), ((66 - k.toInt).toNat) < n → (2 ≤ k.toInt ∧ k.toInt ≤ 66) → (∀ j, j < 58 → gy3 j = gy j) → (go3 0 = go 0 ∧ go3 1 = go 1) → va_P D classes [(aM, .inr (6, [.int th, .int mw, .ref bG, .int mz, .ref bL, .ref bY, .ref bB, .ref bC, .int v1, .int ss, .int ml, .int mh, .int mp, .int rw, .int wr, .int tc, .ref bT])), (bY, .inl (cI, 116, .inl gy3)), (bC, .inl (cI, 66, .inl go3)), (bT, .inl (cI, 2400, .inl gt))] H → va_D A [(aM, .inr (6, [.int th, .int mw, .ref bG, .int mz, .ref bL, .ref bY, .ref bB, .ref bC, .int v1, .int ss, .int ml, .int mh, .int mp, .int rw, .int wr, .int tc, .ref bT])), (bY, .inl (cI, 116, .inl gy3)), (bC, .inl (cI, 66, .inl go3)), (bT, .inl (cI, 2400, .inl gt))] → va_S A s.heap H locs → lv_has ls 3 [(0, .ref aM), (1, .int k)] → W p l e (rmL 4 89 0 0) s m args below meth c H locs 0 0 Q (F0 m 7 ls []) := by
    intro n
    induction n with
    | zero => intro k gy3 go3 H locs ls hmu; exact absurd hmu (Nat.not_lt_zero _)
    | succ n ih7 =>
      intro k gy3 go3 H locs ls hmu7 i7_0 i7_1 i7_2 hP hD hS hl
      have rg_k := zi_rg k
      refine lv_iload_n hx hb dX7_whole_7 rfl (lv_at hl 1 rfl) ?_
      refine lv_bipush (v := 66) hx hb dX7_whole_8 (by decide) ?_
      refine lv_topi (fun v3 e3 => ?_)
      have z3 : v3.toInt = 66 := zi_c e3 (by decide)
      refine lv_icmp_ge (tgt := 44) hx hb dX7_whole_10 (by decide) (fun c4 => ?_) (fun c4 => ?_)
      ·
        have z4 := zi_le c4
        refine lv_aload_n hx hb dX7_whole_44 rfl (lv_at hl 0 rfl) ?_
        refine va_get (D := D) (ci := 6) (v := .ref bC) (C := RX7) (T := TX7) (N := 17) hx hb hts in_X7 hown hK hP 0 rfl rfl 7 (by decide) (hts _ wk65) (fun _ h9 => h9) rfl dX7_whole_45 ?_
        refine lv_iconst (v := 0) hx hb dX7_whole_48 (by decide) ?_
        refine lv_topi (fun v5 e5 => ?_)
        have z5 : v5.toInt = 0 := zi_c e5 (by decide)
        refine va_iald hx hb hK hP 2 0 rfl rfl (zi_in (by omega)) dX7_whole_49 ?_
        refine lv_topi (fun v6 e6 => ?_)
        refine lv_aload_n hx hb dX7_whole_50 rfl (lv_at hl 0 rfl) ?_
        refine va_get (D := D) (ci := 6) (v := .ref bC) (C := RX7) (T := TX7) (N := 17) hx hb hts in_X7 hown hK hP 0 rfl rfl 7 (by decide) (hts _ wk65) (fun _ h9 => h9) rfl dX7_whole_51 ?_
        refine lv_iconst (v := 1) hx hb dX7_whole_54 (by decide) ?_
        refine lv_topi (fun v7 e7 => ?_)
        have z7 : v7.toInt = 1 := zi_c e7 (by decide)
        refine va_iald hx hb hK hP 2 0 rfl rfl (zi_in (by omega)) dX7_whole_55 ?_
        refine lv_topi (fun v8 e8 => ?_)
        refine lv_icmp_eq (tgt := 63) hx hb dX7_whole_56 (by decide) (fun c9 => ?_) (fun c9 => ?_)
        ·
          have z9 := zi_eq c9
          refine lv_iconst (v := 0) hx hb dX7_whole_63 (by decide) ?_
          refine lv_topi (fun v10 e10 => ?_)
          have z10 : v10.toInt = 0 := zi_c e10 (by decide)
          refine lv_istore_n (lv' := [(1, .int v10), (0, .ref aM)]) hx hb dX7_whole_64 rfl hl (by decide) rfl (fun ls hl => ?_)
          refine lv_aload_n hx hb dX7_whole_65 rfl (lv_at hl 1 rfl) ?_
          refine va_get (D := D) (ci := 6) (v := .int ml) (C := RX7) (T := TX7) (N := 17) hx hb hts in_X7 hown hK hP 0 rfl rfl 10 (by decide) (hts _ wk382) (fun _ h9 => h9) rfl dX7_whole_66 ?_
          refine lv_if_ne (tgt := 146) hx hb dX7_whole_69 (by decide) (fun c11 => ?_) (fun c11 => ?_)
          ·
            have z11 := zi_ne0 c11
            refine lv_aload_n hx hb dX7_whole_146 rfl (lv_at hl 1 rfl) ?_
            have hh12 : 0 ≤ tc.toInt ∧ tc.toInt ≤ 1000000000 := (by omega)
            refine call_v (wc := [(aM, .inr (6, [.int th, .int mw, .ref bG, .int mz, .ref bL, .ref bY, .ref bB, .ref bC, .int v1, .int ss, .int ml, .int mh, .int mp, .int rw, .int wr, .int tc, .ref bT])), (bC, .inl (cI, 66, .inl go3)), (bT, .inl (cI, 2400, .inl gt))]) (wr := [(bY, .inl (cI, 116, .inl gy3))]) (run_V (As := []) (rest := []) kv_RX7_122 ⟨by decide, by decide⟩ ⟨rfl, rfl⟩ ⟨hx, hb, hml, hown, hts⟩ (c_Mo_tell l D cI cJ cB aM bG bL bY bB bC bT th mw mz v1 ss ml mh mp rw wr tc go3 gt hh12 _) ct_blind (ct_pre (wc := [(aM, .inr (6, [.int th, .int mw, .ref bG, .int mz, .ref bL, .ref bY, .ref bB, .ref bC, .int v1, .int ss, .int ml, .int mh, .int mp, .int rw, .int wr, .int tc, .ref bT])), (bC, .inl (cI, 66, .inl go3)), (bT, .inl (cI, 2400, .inl gt))]) hK hP hD hS hA hZ hN [0, 2, 3] (by decide) rfl rfl) (va_recv hK hP (ci := 6) (q0 := 0) rfl rfl) rfl hl.1 rfl (Nat.le_of_ble_eq_true rfl) dX7_whole_147 ⟨Nat.le_of_ble_eq_true rfl, Nat.le_of_ble_eq_true rfl⟩) hP hD hS hA [0, 2, 3] [1] rfl rfl (by decide) (by decide) (fun u H locs hw13 hP1 hD1 hS1 => ?_)
            obtain ⟨tc2_13, gt2_13⟩ := u
            have hw13 : tc2_13.toInt = tc.toInt + 1 := hw13
            clear hP hD hS
            have hP : va_P D classes [(bY, .inl (cI, 116, .inl gy3)), (aM, .inr (6, [.int th, .int mw, .ref bG, .int mz, .ref bL, .ref bY, .ref bB, .ref bC, .int v1, .int ss, .int ml, .int mh, .int mp, .int rw, .int wr, .int tc2_13, .ref bT])), (bC, .inl (cI, 66, .inl go3)), (bT, .inl (cI, 2400, .inl gt2_13))] H := hP1
            have hD : va_D A [(bY, .inl (cI, 116, .inl gy3)), (aM, .inr (6, [.int th, .int mw, .ref bG, .int mz, .ref bL, .ref bY, .ref bB, .ref bC, .int v1, .int ss, .int ml, .int mh, .int mp, .int rw, .int wr, .int tc2_13, .ref bT])), (bC, .inl (cI, 66, .inl go3)), (bT, .inl (cI, 2400, .inl gt2_13))] := hD1
            have hS := hS1
            clear hP1 hD1 hS1
            have rg_tc2_13 := zi_rg tc2_13
            refine lv_aload_n hx hb dX7_whole_150 rfl (lv_at hl 1 rfl) ?_
            refine lv_dup hx hb dX7_whole_151 rfl ?_
            refine va_get (D := D) (ci := 6) (v := .int rw) (C := RX7) (T := TX7) (N := 17) hx hb hts in_X7 hown hK hP 1 rfl rfl 13 (by decide) (hts _ wk384) (fun _ h9 => h9) rfl dX7_whole_152 ?_
            refine lv_iconst (v := 1) hx hb dX7_whole_155 (by decide) ?_
            refine lv_topi (fun v14 e14 => ?_)
            have z14 : v14.toInt = 1 := zi_c e14 (by decide)
            refine lv_iadd hx hb dX7_whole_156 ?_
            refine lv_topi (fun v15 e15 => ?_)
            first | have z15 := zi_add e15 (by omega) | skip
            refine va_put (D := D) (ci := 6) (v := .int v15) (ty := .int) (C := RX7) (T := TX7) (N := 17) hx hb hts in_X7 tyX7 tyX7_ok nmX7 hown hK hP hD hS 1 rfl rfl 13 (by decide) (hts _ wk384) (fun _ h9 => h9) rfl (by decide +kernel) rfl rfl (Nat.le_of_ble_eq_true rfl) dX7_whole_157 (fun H locs hP1 hD1 hS1 => ?_)
            clear hP hD hS
            have hP : va_P D classes [(bY, .inl (cI, 116, .inl gy3)), (aM, .inr (6, [.int th, .int mw, .ref bG, .int mz, .ref bL, .ref bY, .ref bB, .ref bC, .int v1, .int ss, .int ml, .int mh, .int mp, .int v15, .int wr, .int tc2_13, .ref bT])), (bC, .inl (cI, 66, .inl go3)), (bT, .inl (cI, 2400, .inl gt2_13))] H := hP1
            have hD : va_D A [(bY, .inl (cI, 116, .inl gy3)), (aM, .inr (6, [.int th, .int mw, .ref bG, .int mz, .ref bL, .ref bY, .ref bB, .ref bC, .int v1, .int ss, .int ml, .int mh, .int mp, .int v15, .int wr, .int tc2_13, .ref bT])), (bC, .inl (cI, 66, .inl go3)), (bT, .inl (cI, 2400, .inl gt2_13))] := hD1
            have hS := hS1
            clear hP1 hD1 hS1
            refine lv_aload_n hx hb dX7_whole_160 rfl (lv_at hl 1 rfl) ?_
            refine lv_iload_n hx hb dX7_whole_161 rfl (lv_at hl 0 rfl) ?_
            refine lv_if_eq (tgt := 172) hx hb dX7_whole_162 (by decide) (fun c16 => ?_) (fun c16 => by have z16 := zi_ne0 c16; exfalso; omega)
            have z16 := zi_eq0 c16
            refine lv_aload_n hx hb dX7_whole_172 rfl (lv_at hl 1 rfl) ?_
            refine va_get (D := D) (ci := 6) (v := .int wr) (C := RX7) (T := TX7) (N := 17) hx hb hts in_X7 hown hK hP 1 rfl rfl 14 (by decide) (hts _ wk385) (fun _ h9 => h9) rfl dX7_whole_173 ?_
            refine lv_iconst (v := 1) hx hb dX7_whole_176 (by decide) ?_
            refine lv_topi (fun v17 e17 => ?_)
            have z17 : v17.toInt = 1 := zi_c e17 (by decide)
            refine lv_iadd hx hb dX7_whole_177 ?_
            refine lv_topi (fun v18 e18 => ?_)
            first | have z18 := zi_add e18 (by omega) | skip
            refine va_put (D := D) (ci := 6) (v := .int v18) (ty := .int) (C := RX7) (T := TX7) (N := 17) hx hb hts in_X7 tyX7 tyX7_ok nmX7 hown hK hP hD hS 1 rfl rfl 14 (by decide) (hts _ wk385) (fun _ h9 => h9) rfl (by decide +kernel) rfl rfl (Nat.le_of_ble_eq_true rfl) dX7_whole_178 (fun H locs hP1 hD1 hS1 => ?_)
            clear hP hD hS
            have hP : va_P D classes [(bY, .inl (cI, 116, .inl gy3)), (aM, .inr (6, [.int th, .int mw, .ref bG, .int mz, .ref bL, .ref bY, .ref bB, .ref bC, .int v1, .int ss, .int ml, .int mh, .int mp, .int v15, .int v18, .int tc2_13, .ref bT])), (bC, .inl (cI, 66, .inl go3)), (bT, .inl (cI, 2400, .inl gt2_13))] H := hP1
            have hD : va_D A [(bY, .inl (cI, 116, .inl gy3)), (aM, .inr (6, [.int th, .int mw, .ref bG, .int mz, .ref bL, .ref bY, .ref bB, .ref bC, .int v1, .int ss, .int ml, .int mh, .int mp, .int v15, .int v18, .int tc2_13, .ref bT])), (bC, .inl (cI, 66, .inl go3)), (bT, .inl (cI, 2400, .inl gt2_13))] := hD1
            have hS := hS1
            clear hP1 hD1 hS1
            refine lv_aload_n hx hb dX7_whole_181 rfl (lv_at hl 1 rfl) ?_
            refine va_get (D := D) (ci := 6) (v := .int v18) (C := RX7) (T := TX7) (N := 17) hx hb hts in_X7 hown hK hP 1 rfl rfl 14 (by decide) (hts _ wk385) (fun _ h9 => h9) rfl dX7_whole_182 ?_
            refine lv_bipush (v := 16) hx hb dX7_whole_185 (by decide) ?_
            refine lv_topi (fun v19 e19 => ?_)
            have z19 : v19.toInt = 16 := zi_c e19 (by decide)
            refine lv_icmp_ne (tgt := 212) hx hb dX7_whole_187 (by decide) (fun c20 => ?_) (fun c20 => ?_)
            ·
              have z20 := zi_ne c20
              refine lv_aload_n hx hb dX7_whole_212 rfl (lv_at hl 1 rfl) ?_
              refine va_get (D := D) (ci := 6) (v := .int v15) (C := RX7) (T := TX7) (N := 17) hx hb hts in_X7 hown hK hP 1 rfl rfl 13 (by decide) (hts _ wk384) (fun _ h9 => h9) rfl dX7_whole_213 ?_
              refine lv_bipush (v := 64) hx hb dX7_whole_216 (by decide) ?_
              refine lv_topi (fun v21 e21 => ?_)
              have z21 : v21.toInt = 64 := zi_c e21 (by decide)
              refine lv_icmp_ne (tgt := 231) hx hb dX7_whole_218 (by decide) (fun c22 => ?_) (fun c22 => ?_)
              ·
                have z22 := zi_ne c22
                have hq23 : (((((0 ≤ ml.toInt ∧ ml.toInt ≤ 1) ∧ (0 ≤ mh.toInt ∧ mh.toInt ≤ 63) ∧ (0 ≤ v18.toInt ∧ v18.toInt ≤ 15) ∧ (0 ≤ ss.toInt ∧ ss.toInt ≤ 1) ∧ (0 ≤ v15.toInt ∧ v15.toInt ≤ 64)) ∧ (mp.toInt ≤ mp.toInt ∧ mp.toInt ≤ mp.toInt + 1)) ∧ rwK ml.toInt v15.toInt) ∧ whR (fitM (go 0).toInt (go 1).toInt) ss.toInt ml.toInt mh.toInt mp.toInt rw.toInt wr.toInt tc.toInt ss.toInt ml.toInt mh.toInt mp.toInt v15.toInt v18.toInt tc2_13.toInt) ∧ (0 ≤ ml.toInt ∧ ml.toInt ≤ 1) ∧ v1.toInt = 0 ∧ tc.toInt ≤ tc2_13.toInt ∧ tc2_13.toInt ≤ tc.toInt + 1 ∧ ∀ j, j < 58 → gy3 j = gy j := (by have k1 : ml.toInt = 1 → rw.toInt ≤ 63 := h3; have g0 : (go 0).toInt = v6.toInt := (by rw [e6, show v5.toNatClampNeg = 0 from (by show v5.toInt.toNat = 0; omega), i7_2.1]); have g1 : (go 1).toInt = v8.toInt := (by rw [e8, show v7.toNatClampNeg = 1 from (by show v7.toInt.toNat = 1; omega), i7_2.2]); refine ⟨⟨⟨by omega, ?_⟩, ?_⟩, by omega, by omega, by omega, by omega, i7_1⟩; (· unfold rwK; omega); (· (first | rw [fitM_eq (show (go 0).toInt = (go 1).toInt by omega)] | rw [fitM_ne (show ¬ (go 0).toInt = (go 1).toInt by omega)]); unfold whR; refine ⟨fun q => ?_, fun q => ?_⟩ <;> first | (exfalso; omega) | (refine ⟨by omega, fun q1 => ?_, fun q1 => ?_⟩ <;> omega)))
                exact hret (v1, ss, ml, mh, mp, v15, v18, tc2_13, gy3, go3, gt2_13) _ _ _ _ dX7_whole_231 hq23 (hP.sub [1, 0, 2, 3] rfl) (hD.sub [1, 0, 2, 3] (by decide) rfl) hS
              ·
                have z22 := zi_eq c22
                refine lv_aload_n hx hb dX7_whole_221 rfl (lv_at hl 1 rfl) ?_
                refine lv_iconst (v := 0) hx hb dX7_whole_222 (by decide) ?_
                refine lv_topi (fun v24 e24 => ?_)
                have z24 : v24.toInt = 0 := zi_c e24 (by decide)
                refine va_put (D := D) (ci := 6) (v := .int v24) (ty := .int) (C := RX7) (T := TX7) (N := 17) hx hb hts in_X7 tyX7 tyX7_ok nmX7 hown hK hP hD hS 1 rfl rfl 13 (by decide) (hts _ wk384) (fun _ h9 => h9) rfl (by decide +kernel) rfl rfl (Nat.le_of_ble_eq_true rfl) dX7_whole_223 (fun H locs hP1 hD1 hS1 => ?_)
                clear hP hD hS
                have hP : va_P D classes [(bY, .inl (cI, 116, .inl gy3)), (aM, .inr (6, [.int th, .int mw, .ref bG, .int mz, .ref bL, .ref bY, .ref bB, .ref bC, .int v1, .int ss, .int ml, .int mh, .int mp, .int v24, .int v18, .int tc2_13, .ref bT])), (bC, .inl (cI, 66, .inl go3)), (bT, .inl (cI, 2400, .inl gt2_13))] H := hP1
                have hD : va_D A [(bY, .inl (cI, 116, .inl gy3)), (aM, .inr (6, [.int th, .int mw, .ref bG, .int mz, .ref bL, .ref bY, .ref bB, .ref bC, .int v1, .int ss, .int ml, .int mh, .int mp, .int v24, .int v18, .int tc2_13, .ref bT])), (bC, .inl (cI, 66, .inl go3)), (bT, .inl (cI, 2400, .inl gt2_13))] := hD1
                have hS := hS1
                clear hP1 hD1 hS1
                refine lv_aload_n hx hb dX7_whole_226 rfl (lv_at hl 1 rfl) ?_
                refine lv_iconst (v := 0) hx hb dX7_whole_227 (by decide) ?_
                refine lv_topi (fun v25 e25 => ?_)
                have z25 : v25.toInt = 0 := zi_c e25 (by decide)
                refine va_put (D := D) (ci := 6) (v := .int v25) (ty := .int) (C := RX7) (T := TX7) (N := 17) hx hb hts in_X7 tyX7 tyX7_ok nmX7 hown hK hP hD hS 1 rfl rfl 14 (by decide) (hts _ wk385) (fun _ h9 => h9) rfl (by decide +kernel) rfl rfl (Nat.le_of_ble_eq_true rfl) dX7_whole_228 (fun H locs hP1 hD1 hS1 => ?_)
                clear hP hD hS
                have hP : va_P D classes [(bY, .inl (cI, 116, .inl gy3)), (aM, .inr (6, [.int th, .int mw, .ref bG, .int mz, .ref bL, .ref bY, .ref bB, .ref bC, .int v1, .int ss, .int ml, .int mh, .int mp, .int v24, .int v25, .int tc2_13, .ref bT])), (bC, .inl (cI, 66, .inl go3)), (bT, .inl (cI, 2400, .inl gt2_13))] H := hP1
                have hD : va_D A [(bY, .inl (cI, 116, .inl gy3)), (aM, .inr (6, [.int th, .int mw, .ref bG, .int mz, .ref bL, .ref bY, .ref bB, .ref bC, .int v1, .int ss, .int ml, .int mh, .int mp, .int v24, .int v25, .int tc2_13, .ref bT])), (bC, .inl (cI, 66, .inl go3)), (bT, .inl (cI, 2400, .inl gt2_13))] := hD1
                have hS := hS1
                clear hP1 hD1 hS1
                have hq26 : (((((0 ≤ ml.toInt ∧ ml.toInt ≤ 1) ∧ (0 ≤ mh.toInt ∧ mh.toInt ≤ 63) ∧ (0 ≤ v25.toInt ∧ v25.toInt ≤ 15) ∧ (0 ≤ ss.toInt ∧ ss.toInt ≤ 1) ∧ (0 ≤ v24.toInt ∧ v24.toInt ≤ 64)) ∧ (mp.toInt ≤ mp.toInt ∧ mp.toInt ≤ mp.toInt + 1)) ∧ rwK ml.toInt v24.toInt) ∧ whR (fitM (go 0).toInt (go 1).toInt) ss.toInt ml.toInt mh.toInt mp.toInt rw.toInt wr.toInt tc.toInt ss.toInt ml.toInt mh.toInt mp.toInt v24.toInt v25.toInt tc2_13.toInt) ∧ (0 ≤ ml.toInt ∧ ml.toInt ≤ 1) ∧ v1.toInt = 0 ∧ tc.toInt ≤ tc2_13.toInt ∧ tc2_13.toInt ≤ tc.toInt + 1 ∧ ∀ j, j < 58 → gy3 j = gy j := (by have k1 : ml.toInt = 1 → rw.toInt ≤ 63 := h3; have g0 : (go 0).toInt = v6.toInt := (by rw [e6, show v5.toNatClampNeg = 0 from (by show v5.toInt.toNat = 0; omega), i7_2.1]); have g1 : (go 1).toInt = v8.toInt := (by rw [e8, show v7.toNatClampNeg = 1 from (by show v7.toInt.toNat = 1; omega), i7_2.2]); refine ⟨⟨⟨by omega, ?_⟩, ?_⟩, by omega, by omega, by omega, by omega, i7_1⟩; (· unfold rwK; omega); (· (first | rw [fitM_eq (show (go 0).toInt = (go 1).toInt by omega)] | rw [fitM_ne (show ¬ (go 0).toInt = (go 1).toInt by omega)]); unfold whR; refine ⟨fun q => ?_, fun q => ?_⟩ <;> first | (exfalso; omega) | (refine ⟨by omega, fun q1 => ?_, fun q1 => ?_⟩ <;> omega)))
                exact hret (v1, ss, ml, mh, mp, v24, v25, tc2_13, gy3, go3, gt2_13) _ _ _ _ dX7_whole_231 hq26 (hP.sub [1, 0, 2, 3] rfl) (hD.sub [1, 0, 2, 3] (by decide) rfl) hS
            ·
              have z20 := zi_eq c20
              refine lv_aload_n hx hb dX7_whole_190 rfl (lv_at hl 1 rfl) ?_
              refine lv_iconst (v := 0) hx hb dX7_whole_191 (by decide) ?_
              refine lv_topi (fun v27 e27 => ?_)
              have z27 : v27.toInt = 0 := zi_c e27 (by decide)
              refine va_put (D := D) (ci := 6) (v := .int v27) (ty := .boolean) (C := RX7) (T := TX7) (N := 17) hx hb hts in_X7 tyX7 tyX7_ok nmX7 hown hK hP hD hS 1 rfl rfl 10 (by decide) (hts _ wk382) (fun _ h9 => h9) rfl (by decide +kernel) (zb_n (by omega)) (zb_f (by omega)) (Nat.le_of_ble_eq_true rfl) dX7_whole_192 (fun H locs hP1 hD1 hS1 => ?_)
              clear hP hD hS
              have hP : va_P D classes [(bY, .inl (cI, 116, .inl gy3)), (aM, .inr (6, [.int th, .int mw, .ref bG, .int mz, .ref bL, .ref bY, .ref bB, .ref bC, .int v1, .int ss, .int v27, .int mh, .int mp, .int v15, .int v18, .int tc2_13, .ref bT])), (bC, .inl (cI, 66, .inl go3)), (bT, .inl (cI, 2400, .inl gt2_13))] H := hP1
              have hD : va_D A [(bY, .inl (cI, 116, .inl gy3)), (aM, .inr (6, [.int th, .int mw, .ref bG, .int mz, .ref bL, .ref bY, .ref bB, .ref bC, .int v1, .int ss, .int v27, .int mh, .int mp, .int v15, .int v18, .int tc2_13, .ref bT])), (bC, .inl (cI, 66, .inl go3)), (bT, .inl (cI, 2400, .inl gt2_13))] := hD1
              have hS := hS1
              clear hP1 hD1 hS1
              refine lv_aload_n hx hb dX7_whole_195 rfl (lv_at hl 1 rfl) ?_
              refine lv_iconst (v := 0) hx hb dX7_whole_196 (by decide) ?_
              refine lv_topi (fun v28 e28 => ?_)
              have z28 : v28.toInt = 0 := zi_c e28 (by decide)
              refine va_put (D := D) (ci := 6) (v := .int v28) (ty := .int) (C := RX7) (T := TX7) (N := 17) hx hb hts in_X7 tyX7 tyX7_ok nmX7 hown hK hP hD hS 1 rfl rfl 11 (by decide) (hts _ wk383) (fun _ h9 => h9) rfl (by decide +kernel) rfl rfl (Nat.le_of_ble_eq_true rfl) dX7_whole_197 (fun H locs hP1 hD1 hS1 => ?_)
              clear hP hD hS
              have hP : va_P D classes [(bY, .inl (cI, 116, .inl gy3)), (aM, .inr (6, [.int th, .int mw, .ref bG, .int mz, .ref bL, .ref bY, .ref bB, .ref bC, .int v1, .int ss, .int v27, .int v28, .int mp, .int v15, .int v18, .int tc2_13, .ref bT])), (bC, .inl (cI, 66, .inl go3)), (bT, .inl (cI, 2400, .inl gt2_13))] H := hP1
              have hD : va_D A [(bY, .inl (cI, 116, .inl gy3)), (aM, .inr (6, [.int th, .int mw, .ref bG, .int mz, .ref bL, .ref bY, .ref bB, .ref bC, .int v1, .int ss, .int v27, .int v28, .int mp, .int v15, .int v18, .int tc2_13, .ref bT])), (bC, .inl (cI, 66, .inl go3)), (bT, .inl (cI, 2400, .inl gt2_13))] := hD1
              have hS := hS1
              clear hP1 hD1 hS1
              refine lv_aload_n hx hb dX7_whole_200 rfl (lv_at hl 1 rfl) ?_
              refine lv_iconst (v := 0) hx hb dX7_whole_201 (by decide) ?_
              refine lv_topi (fun v29 e29 => ?_)
              have z29 : v29.toInt = 0 := zi_c e29 (by decide)
              refine va_put (D := D) (ci := 6) (v := .int v29) (ty := .int) (C := RX7) (T := TX7) (N := 17) hx hb hts in_X7 tyX7 tyX7_ok nmX7 hown hK hP hD hS 1 rfl rfl 14 (by decide) (hts _ wk385) (fun _ h9 => h9) rfl (by decide +kernel) rfl rfl (Nat.le_of_ble_eq_true rfl) dX7_whole_202 (fun H locs hP1 hD1 hS1 => ?_)
              clear hP hD hS
              have hP : va_P D classes [(bY, .inl (cI, 116, .inl gy3)), (aM, .inr (6, [.int th, .int mw, .ref bG, .int mz, .ref bL, .ref bY, .ref bB, .ref bC, .int v1, .int ss, .int v27, .int v28, .int mp, .int v15, .int v29, .int tc2_13, .ref bT])), (bC, .inl (cI, 66, .inl go3)), (bT, .inl (cI, 2400, .inl gt2_13))] H := hP1
              have hD : va_D A [(bY, .inl (cI, 116, .inl gy3)), (aM, .inr (6, [.int th, .int mw, .ref bG, .int mz, .ref bL, .ref bY, .ref bB, .ref bC, .int v1, .int ss, .int v27, .int v28, .int mp, .int v15, .int v29, .int tc2_13, .ref bT])), (bC, .inl (cI, 66, .inl go3)), (bT, .inl (cI, 2400, .inl gt2_13))] := hD1
              have hS := hS1
              clear hP1 hD1 hS1
              refine lv_aload_n hx hb dX7_whole_205 rfl (lv_at hl 1 rfl) ?_
              have hh30 : 0 ≤ mp.toInt ∧ mp.toInt ≤ 1000000000 := (by omega)
              refine call_v (wc := [(aM, .inr (6, [.int th, .int mw, .ref bG, .int mz, .ref bL, .ref bY, .ref bB, .ref bC, .int v1, .int ss, .int v27, .int v28, .int mp, .int v15, .int v29, .int tc2_13, .ref bT]))]) (wr := [(bY, .inl (cI, 116, .inl gy3)), (bC, .inl (cI, 66, .inl go3)), (bT, .inl (cI, 2400, .inl gt2_13))]) (run_V (As := []) (rest := []) kv_RX7_113 ⟨by decide, by decide⟩ ⟨rfl, rfl⟩ ⟨hx, hb, hml, hown, hts⟩ (c_Mo_slip l D cI cJ cB aM bG bL bY bB bC bT th mw mz v1 ss v27 v28 mp v15 v29 tc2_13 hh30 _) ct_blind (ct_pre (wc := [(aM, .inr (6, [.int th, .int mw, .ref bG, .int mz, .ref bL, .ref bY, .ref bB, .ref bC, .int v1, .int ss, .int v27, .int v28, .int mp, .int v15, .int v29, .int tc2_13, .ref bT]))]) hK hP hD hS hA hZ hN [1] (by decide) rfl rfl) (va_recv hK hP (ci := 6) (q0 := 1) rfl rfl) rfl hl.1 rfl (Nat.le_of_ble_eq_true rfl) dX7_whole_206 ⟨Nat.le_of_ble_eq_true rfl, Nat.le_of_ble_eq_true rfl⟩) hP hD hS hA [1] [0, 2, 3] rfl rfl (by decide) (by decide) (fun u H locs hw31 hP1 hD1 hS1 => ?_)
              obtain ⟨ss2_31, mp2_31⟩ := u
              have hw31 : ss2_31.toInt = 1 ∧ mp2_31.toInt = mp.toInt + 1 := hw31
              clear hP hD hS
              have hP : va_P D classes [(bY, .inl (cI, 116, .inl gy3)), (bC, .inl (cI, 66, .inl go3)), (bT, .inl (cI, 2400, .inl gt2_13)), (aM, .inr (6, [.int th, .int mw, .ref bG, .int mz, .ref bL, .ref bY, .ref bB, .ref bC, .int v1, .int ss2_31, .int v27, .int v28, .int mp2_31, .int v15, .int v29, .int tc2_13, .ref bT]))] H := hP1
              have hD : va_D A [(bY, .inl (cI, 116, .inl gy3)), (bC, .inl (cI, 66, .inl go3)), (bT, .inl (cI, 2400, .inl gt2_13)), (aM, .inr (6, [.int th, .int mw, .ref bG, .int mz, .ref bL, .ref bY, .ref bB, .ref bC, .int v1, .int ss2_31, .int v27, .int v28, .int mp2_31, .int v15, .int v29, .int tc2_13, .ref bT]))] := hD1
              have hS := hS1
              clear hP1 hD1 hS1
              have rg_ss2_31 := zi_rg ss2_31
              have rg_mp2_31 := zi_rg mp2_31
              refine lv_goto (tgt := 231) hx hb dX7_whole_209 (by decide) ?_
              have hq32 : (((((0 ≤ v27.toInt ∧ v27.toInt ≤ 1) ∧ (0 ≤ v28.toInt ∧ v28.toInt ≤ 63) ∧ (0 ≤ v29.toInt ∧ v29.toInt ≤ 15) ∧ (0 ≤ ss2_31.toInt ∧ ss2_31.toInt ≤ 1) ∧ (0 ≤ v15.toInt ∧ v15.toInt ≤ 64)) ∧ (mp.toInt ≤ mp2_31.toInt ∧ mp2_31.toInt ≤ mp.toInt + 1)) ∧ rwK v27.toInt v15.toInt) ∧ whR (fitM (go 0).toInt (go 1).toInt) ss.toInt ml.toInt mh.toInt mp.toInt rw.toInt wr.toInt tc.toInt ss2_31.toInt v27.toInt v28.toInt mp2_31.toInt v15.toInt v29.toInt tc2_13.toInt) ∧ (0 ≤ v27.toInt ∧ v27.toInt ≤ 1) ∧ v1.toInt = 0 ∧ tc.toInt ≤ tc2_13.toInt ∧ tc2_13.toInt ≤ tc.toInt + 1 ∧ ∀ j, j < 58 → gy3 j = gy j := (by have k1 : ml.toInt = 1 → rw.toInt ≤ 63 := h3; have g0 : (go 0).toInt = v6.toInt := (by rw [e6, show v5.toNatClampNeg = 0 from (by show v5.toInt.toNat = 0; omega), i7_2.1]); have g1 : (go 1).toInt = v8.toInt := (by rw [e8, show v7.toNatClampNeg = 1 from (by show v7.toInt.toNat = 1; omega), i7_2.2]); refine ⟨⟨⟨by omega, ?_⟩, ?_⟩, by omega, by omega, by omega, by omega, i7_1⟩; (· unfold rwK; omega); (· (first | rw [fitM_eq (show (go 0).toInt = (go 1).toInt by omega)] | rw [fitM_ne (show ¬ (go 0).toInt = (go 1).toInt by omega)]); unfold whR; refine ⟨fun q => ?_, fun q => ?_⟩ <;> first | (exfalso; omega) | (refine ⟨by omega, fun q1 => ?_, fun q1 => ?_⟩ <;> omega)))
              exact hret (v1, ss2_31, v27, v28, mp2_31, v15, v29, tc2_13, gy3, go3, gt2_13) _ _ _ _ dX7_whole_231 hq32 (hP.sub [3, 0, 1, 2] rfl) (hD.sub [3, 0, 1, 2] (by decide) rfl) hS
          ·
            have z11 := zi_eq0 c11
            refine lv_aload_n hx hb dX7_whole_72 rfl (lv_at hl 1 rfl) ?_
            refine lv_iload_n hx hb dX7_whole_73 rfl (lv_at hl 0 rfl) ?_
            refine lv_if_eq (tgt := 86) hx hb dX7_whole_74 (by decide) (fun c33 => ?_) (fun c33 => by have z33 := zi_ne0 c33; exfalso; omega)
            have z33 := zi_eq0 c33
            refine lv_iconst (v := 0) hx hb dX7_whole_86 (by decide) ?_
            refine lv_topi (fun v34 e34 => ?_)
            have z34 : v34.toInt = 0 := zi_c e34 (by decide)
            refine va_put (D := D) (ci := 6) (v := .int v34) (ty := .int) (C := RX7) (T := TX7) (N := 17) hx hb hts in_X7 tyX7 tyX7_ok nmX7 hown hK hP hD hS 0 rfl rfl 11 (by decide) (hts _ wk383) (fun _ h9 => h9) rfl (by decide +kernel) rfl rfl (Nat.le_of_ble_eq_true rfl) dX7_whole_87 (fun H locs hP1 hD1 hS1 => ?_)
            clear hP hD hS
            have hP : va_P D classes [(aM, .inr (6, [.int th, .int mw, .ref bG, .int mz, .ref bL, .ref bY, .ref bB, .ref bC, .int v1, .int ss, .int ml, .int v34, .int mp, .int rw, .int wr, .int tc, .ref bT])), (bY, .inl (cI, 116, .inl gy3)), (bC, .inl (cI, 66, .inl go3)), (bT, .inl (cI, 2400, .inl gt))] H := hP1
            have hD : va_D A [(aM, .inr (6, [.int th, .int mw, .ref bG, .int mz, .ref bL, .ref bY, .ref bB, .ref bC, .int v1, .int ss, .int ml, .int v34, .int mp, .int rw, .int wr, .int tc, .ref bT])), (bY, .inl (cI, 116, .inl gy3)), (bC, .inl (cI, 66, .inl go3)), (bT, .inl (cI, 2400, .inl gt))] := hD1
            have hS := hS1
            clear hP1 hD1 hS1
            refine lv_iload_n hx hb dX7_whole_90 rfl (lv_at hl 0 rfl) ?_
            refine lv_if_ne (tgt := 98) hx hb dX7_whole_91 (by decide) (fun c35 => by have z35 := zi_ne0 c35; exfalso; omega) (fun c35 => ?_)
            have z35 := zi_eq0 c35
            refine lv_aload_n hx hb dX7_whole_94 rfl (lv_at hl 1 rfl) ?_
            have hh36 : 0 ≤ mp.toInt ∧ mp.toInt ≤ 1000000000 := (by omega)
            refine call_v (wc := [(aM, .inr (6, [.int th, .int mw, .ref bG, .int mz, .ref bL, .ref bY, .ref bB, .ref bC, .int v1, .int ss, .int ml, .int v34, .int mp, .int rw, .int wr, .int tc, .ref bT]))]) (wr := [(bY, .inl (cI, 116, .inl gy3)), (bC, .inl (cI, 66, .inl go3)), (bT, .inl (cI, 2400, .inl gt))]) (run_V (As := []) (rest := []) kv_RX7_113 ⟨by decide, by decide⟩ ⟨rfl, rfl⟩ ⟨hx, hb, hml, hown, hts⟩ (c_Mo_slip l D cI cJ cB aM bG bL bY bB bC bT th mw mz v1 ss ml v34 mp rw wr tc hh36 _) ct_blind (ct_pre (wc := [(aM, .inr (6, [.int th, .int mw, .ref bG, .int mz, .ref bL, .ref bY, .ref bB, .ref bC, .int v1, .int ss, .int ml, .int v34, .int mp, .int rw, .int wr, .int tc, .ref bT]))]) hK hP hD hS hA hZ hN [0] (by decide) rfl rfl) (va_recv hK hP (ci := 6) (q0 := 0) rfl rfl) rfl hl.1 rfl (Nat.le_of_ble_eq_true rfl) dX7_whole_95 ⟨Nat.le_of_ble_eq_true rfl, Nat.le_of_ble_eq_true rfl⟩) hP hD hS hA [0] [1, 2, 3] rfl rfl (by decide) (by decide) (fun u H locs hw37 hP1 hD1 hS1 => ?_)
            obtain ⟨ss2_37, mp2_37⟩ := u
            have hw37 : ss2_37.toInt = 1 ∧ mp2_37.toInt = mp.toInt + 1 := hw37
            clear hP hD hS
            have hP : va_P D classes [(bY, .inl (cI, 116, .inl gy3)), (bC, .inl (cI, 66, .inl go3)), (bT, .inl (cI, 2400, .inl gt)), (aM, .inr (6, [.int th, .int mw, .ref bG, .int mz, .ref bL, .ref bY, .ref bB, .ref bC, .int v1, .int ss2_37, .int ml, .int v34, .int mp2_37, .int rw, .int wr, .int tc, .ref bT]))] H := hP1
            have hD : va_D A [(bY, .inl (cI, 116, .inl gy3)), (bC, .inl (cI, 66, .inl go3)), (bT, .inl (cI, 2400, .inl gt)), (aM, .inr (6, [.int th, .int mw, .ref bG, .int mz, .ref bL, .ref bY, .ref bB, .ref bC, .int v1, .int ss2_37, .int ml, .int v34, .int mp2_37, .int rw, .int wr, .int tc, .ref bT]))] := hD1
            have hS := hS1
            clear hP1 hD1 hS1
            have rg_ss2_37 := zi_rg ss2_37
            have rg_mp2_37 := zi_rg mp2_37
            refine lv_aload_n hx hb dX7_whole_98 rfl (lv_at hl 1 rfl) ?_
            refine lv_aload_n hx hb dX7_whole_99 rfl (lv_at hl 1 rfl) ?_
            refine va_get (D := D) (ci := 6) (v := .int v34) (C := RX7) (T := TX7) (N := 17) hx hb hts in_X7 hown hK hP 3 rfl rfl 11 (by decide) (hts _ wk383) (fun _ h9 => h9) rfl dX7_whole_100 ?_
            refine lv_bipush (v := 64) hx hb dX7_whole_103 (by decide) ?_
            refine lv_topi (fun v38 e38 => ?_)
            have z38 : v38.toInt = 64 := zi_c e38 (by decide)
            refine lv_icmp_ne (tgt := 112) hx hb dX7_whole_105 (by decide) (fun c39 => ?_) (fun c39 => by have z39 := zi_eq c39; exfalso; omega)
            have z39 := zi_ne c39
            refine lv_iconst (v := 0) hx hb dX7_whole_112 (by decide) ?_
            refine lv_topi (fun v40 e40 => ?_)
            have z40 : v40.toInt = 0 := zi_c e40 (by decide)
            refine va_put (D := D) (ci := 6) (v := .int v40) (ty := .boolean) (C := RX7) (T := TX7) (N := 17) hx hb hts in_X7 tyX7 tyX7_ok nmX7 hown hK hP hD hS 3 rfl rfl 10 (by decide) (hts _ wk382) (fun _ h9 => h9) rfl (by decide +kernel) (zb_n (by omega)) (zb_f (by omega)) (Nat.le_of_ble_eq_true rfl) dX7_whole_113 (fun H locs hP1 hD1 hS1 => ?_)
            clear hP hD hS
            have hP : va_P D classes [(bY, .inl (cI, 116, .inl gy3)), (bC, .inl (cI, 66, .inl go3)), (bT, .inl (cI, 2400, .inl gt)), (aM, .inr (6, [.int th, .int mw, .ref bG, .int mz, .ref bL, .ref bY, .ref bB, .ref bC, .int v1, .int ss2_37, .int v40, .int v34, .int mp2_37, .int rw, .int wr, .int tc, .ref bT]))] H := hP1
            have hD : va_D A [(bY, .inl (cI, 116, .inl gy3)), (bC, .inl (cI, 66, .inl go3)), (bT, .inl (cI, 2400, .inl gt)), (aM, .inr (6, [.int th, .int mw, .ref bG, .int mz, .ref bL, .ref bY, .ref bB, .ref bC, .int v1, .int ss2_37, .int v40, .int v34, .int mp2_37, .int rw, .int wr, .int tc, .ref bT]))] := hD1
            have hS := hS1
            clear hP1 hD1 hS1
            refine lv_aload_n hx hb dX7_whole_116 rfl (lv_at hl 1 rfl) ?_
            refine lv_aload_n hx hb dX7_whole_117 rfl (lv_at hl 1 rfl) ?_
            refine va_get (D := D) (ci := 6) (v := .int v40) (C := RX7) (T := TX7) (N := 17) hx hb hts in_X7 hown hK hP 3 rfl rfl 10 (by decide) (hts _ wk382) (fun _ h9 => h9) rfl dX7_whole_118 ?_
            refine lv_if_eq (tgt := 128) hx hb dX7_whole_121 (by decide) (fun c41 => ?_) (fun c41 => by have z41 := zi_ne0 c41; exfalso; omega)
            have z41 := zi_eq0 c41
            refine lv_aload_n hx hb dX7_whole_128 rfl (lv_at hl 1 rfl) ?_
            refine va_get (D := D) (ci := 6) (v := .int v34) (C := RX7) (T := TX7) (N := 17) hx hb hts in_X7 hown hK hP 3 rfl rfl 11 (by decide) (hts _ wk383) (fun _ h9 => h9) rfl dX7_whole_129 ?_
            refine va_put (D := D) (ci := 6) (v := .int v34) (ty := .int) (C := RX7) (T := TX7) (N := 17) hx hb hts in_X7 tyX7 tyX7_ok nmX7 hown hK hP hD hS 3 rfl rfl 11 (by decide) (hts _ wk383) (fun _ h9 => h9) rfl (by decide +kernel) rfl rfl (Nat.le_of_ble_eq_true rfl) dX7_whole_132 (fun H locs hP1 hD1 hS1 => ?_)
            clear hP hD hS
            have hP : va_P D classes [(bY, .inl (cI, 116, .inl gy3)), (bC, .inl (cI, 66, .inl go3)), (bT, .inl (cI, 2400, .inl gt)), (aM, .inr (6, [.int th, .int mw, .ref bG, .int mz, .ref bL, .ref bY, .ref bB, .ref bC, .int v1, .int ss2_37, .int v40, .int v34, .int mp2_37, .int rw, .int wr, .int tc, .ref bT]))] H := hP1
            have hD : va_D A [(bY, .inl (cI, 116, .inl gy3)), (bC, .inl (cI, 66, .inl go3)), (bT, .inl (cI, 2400, .inl gt)), (aM, .inr (6, [.int th, .int mw, .ref bG, .int mz, .ref bL, .ref bY, .ref bB, .ref bC, .int v1, .int ss2_37, .int v40, .int v34, .int mp2_37, .int rw, .int wr, .int tc, .ref bT]))] := hD1
            have hS := hS1
            clear hP1 hD1 hS1
            refine lv_aload_n hx hb dX7_whole_135 rfl (lv_at hl 1 rfl) ?_
            refine lv_iconst (v := 0) hx hb dX7_whole_136 (by decide) ?_
            refine lv_topi (fun v42 e42 => ?_)
            have z42 : v42.toInt = 0 := zi_c e42 (by decide)
            refine va_put (D := D) (ci := 6) (v := .int v42) (ty := .int) (C := RX7) (T := TX7) (N := 17) hx hb hts in_X7 tyX7 tyX7_ok nmX7 hown hK hP hD hS 3 rfl rfl 13 (by decide) (hts _ wk384) (fun _ h9 => h9) rfl (by decide +kernel) rfl rfl (Nat.le_of_ble_eq_true rfl) dX7_whole_137 (fun H locs hP1 hD1 hS1 => ?_)
            clear hP hD hS
            have hP : va_P D classes [(bY, .inl (cI, 116, .inl gy3)), (bC, .inl (cI, 66, .inl go3)), (bT, .inl (cI, 2400, .inl gt)), (aM, .inr (6, [.int th, .int mw, .ref bG, .int mz, .ref bL, .ref bY, .ref bB, .ref bC, .int v1, .int ss2_37, .int v40, .int v34, .int mp2_37, .int v42, .int wr, .int tc, .ref bT]))] H := hP1
            have hD : va_D A [(bY, .inl (cI, 116, .inl gy3)), (bC, .inl (cI, 66, .inl go3)), (bT, .inl (cI, 2400, .inl gt)), (aM, .inr (6, [.int th, .int mw, .ref bG, .int mz, .ref bL, .ref bY, .ref bB, .ref bC, .int v1, .int ss2_37, .int v40, .int v34, .int mp2_37, .int v42, .int wr, .int tc, .ref bT]))] := hD1
            have hS := hS1
            clear hP1 hD1 hS1
            refine lv_aload_n hx hb dX7_whole_140 rfl (lv_at hl 1 rfl) ?_
            refine lv_iconst (v := 0) hx hb dX7_whole_141 (by decide) ?_
            refine lv_topi (fun v43 e43 => ?_)
            have z43 : v43.toInt = 0 := zi_c e43 (by decide)
            refine va_put (D := D) (ci := 6) (v := .int v43) (ty := .int) (C := RX7) (T := TX7) (N := 17) hx hb hts in_X7 tyX7 tyX7_ok nmX7 hown hK hP hD hS 3 rfl rfl 14 (by decide) (hts _ wk385) (fun _ h9 => h9) rfl (by decide +kernel) rfl rfl (Nat.le_of_ble_eq_true rfl) dX7_whole_142 (fun H locs hP1 hD1 hS1 => ?_)
            clear hP hD hS
            have hP : va_P D classes [(bY, .inl (cI, 116, .inl gy3)), (bC, .inl (cI, 66, .inl go3)), (bT, .inl (cI, 2400, .inl gt)), (aM, .inr (6, [.int th, .int mw, .ref bG, .int mz, .ref bL, .ref bY, .ref bB, .ref bC, .int v1, .int ss2_37, .int v40, .int v34, .int mp2_37, .int v42, .int v43, .int tc, .ref bT]))] H := hP1
            have hD : va_D A [(bY, .inl (cI, 116, .inl gy3)), (bC, .inl (cI, 66, .inl go3)), (bT, .inl (cI, 2400, .inl gt)), (aM, .inr (6, [.int th, .int mw, .ref bG, .int mz, .ref bL, .ref bY, .ref bB, .ref bC, .int v1, .int ss2_37, .int v40, .int v34, .int mp2_37, .int v42, .int v43, .int tc, .ref bT]))] := hD1
            have hS := hS1
            clear hP1 hD1 hS1
            have hq44 : (((((0 ≤ v40.toInt ∧ v40.toInt ≤ 1) ∧ (0 ≤ v34.toInt ∧ v34.toInt ≤ 63) ∧ (0 ≤ v43.toInt ∧ v43.toInt ≤ 15) ∧ (0 ≤ ss2_37.toInt ∧ ss2_37.toInt ≤ 1) ∧ (0 ≤ v42.toInt ∧ v42.toInt ≤ 64)) ∧ (mp.toInt ≤ mp2_37.toInt ∧ mp2_37.toInt ≤ mp.toInt + 1)) ∧ rwK v40.toInt v42.toInt) ∧ whR (fitM (go 0).toInt (go 1).toInt) ss.toInt ml.toInt mh.toInt mp.toInt rw.toInt wr.toInt tc.toInt ss2_37.toInt v40.toInt v34.toInt mp2_37.toInt v42.toInt v43.toInt tc.toInt) ∧ (0 ≤ v40.toInt ∧ v40.toInt ≤ 1) ∧ v1.toInt = 0 ∧ tc.toInt ≤ tc.toInt ∧ tc.toInt ≤ tc.toInt + 1 ∧ ∀ j, j < 58 → gy3 j = gy j := (by have k1 : ml.toInt = 1 → rw.toInt ≤ 63 := h3; have g0 : (go 0).toInt = v6.toInt := (by rw [e6, show v5.toNatClampNeg = 0 from (by show v5.toInt.toNat = 0; omega), i7_2.1]); have g1 : (go 1).toInt = v8.toInt := (by rw [e8, show v7.toNatClampNeg = 1 from (by show v7.toInt.toNat = 1; omega), i7_2.2]); refine ⟨⟨⟨by omega, ?_⟩, ?_⟩, by omega, by omega, by omega, by omega, i7_1⟩; (· unfold rwK; omega); (· (first | rw [fitM_eq (show (go 0).toInt = (go 1).toInt by omega)] | rw [fitM_ne (show ¬ (go 0).toInt = (go 1).toInt by omega)]); unfold whR; refine ⟨fun q => ?_, fun q => ?_⟩ <;> first | (exfalso; omega) | (refine ⟨by omega, fun q1 => ?_, fun q1 => ?_⟩ <;> omega)))
            exact hret (v1, ss2_37, v40, v34, mp2_37, v42, v43, tc, gy3, go3, gt) _ _ _ _ dX7_whole_145 hq44 (hP.sub [3, 0, 1, 2] rfl) (hD.sub [3, 0, 1, 2] (by decide) rfl) hS
        ·
          have z9 := zi_ne c9
          refine lv_iconst (v := 1) hx hb dX7_whole_59 (by decide) ?_
          refine lv_topi (fun v45 e45 => ?_)
          have z45 : v45.toInt = 1 := zi_c e45 (by decide)
          refine lv_goto (tgt := 64) hx hb dX7_whole_60 (by decide) ?_
          refine lv_istore_n (lv' := [(1, .int v45), (0, .ref aM)]) hx hb dX7_whole_64 rfl hl (by decide) rfl (fun ls hl => ?_)
          refine lv_aload_n hx hb dX7_whole_65 rfl (lv_at hl 1 rfl) ?_
          refine va_get (D := D) (ci := 6) (v := .int ml) (C := RX7) (T := TX7) (N := 17) hx hb hts in_X7 hown hK hP 0 rfl rfl 10 (by decide) (hts _ wk382) (fun _ h9 => h9) rfl dX7_whole_66 ?_
          refine lv_if_ne (tgt := 146) hx hb dX7_whole_69 (by decide) (fun c46 => ?_) (fun c46 => ?_)
          ·
            have z46 := zi_ne0 c46
            refine lv_aload_n hx hb dX7_whole_146 rfl (lv_at hl 1 rfl) ?_
            have hh47 : 0 ≤ tc.toInt ∧ tc.toInt ≤ 1000000000 := (by omega)
            refine call_v (wc := [(aM, .inr (6, [.int th, .int mw, .ref bG, .int mz, .ref bL, .ref bY, .ref bB, .ref bC, .int v1, .int ss, .int ml, .int mh, .int mp, .int rw, .int wr, .int tc, .ref bT])), (bC, .inl (cI, 66, .inl go3)), (bT, .inl (cI, 2400, .inl gt))]) (wr := [(bY, .inl (cI, 116, .inl gy3))]) (run_V (As := []) (rest := []) kv_RX7_122 ⟨by decide, by decide⟩ ⟨rfl, rfl⟩ ⟨hx, hb, hml, hown, hts⟩ (c_Mo_tell l D cI cJ cB aM bG bL bY bB bC bT th mw mz v1 ss ml mh mp rw wr tc go3 gt hh47 _) ct_blind (ct_pre (wc := [(aM, .inr (6, [.int th, .int mw, .ref bG, .int mz, .ref bL, .ref bY, .ref bB, .ref bC, .int v1, .int ss, .int ml, .int mh, .int mp, .int rw, .int wr, .int tc, .ref bT])), (bC, .inl (cI, 66, .inl go3)), (bT, .inl (cI, 2400, .inl gt))]) hK hP hD hS hA hZ hN [0, 2, 3] (by decide) rfl rfl) (va_recv hK hP (ci := 6) (q0 := 0) rfl rfl) rfl hl.1 rfl (Nat.le_of_ble_eq_true rfl) dX7_whole_147 ⟨Nat.le_of_ble_eq_true rfl, Nat.le_of_ble_eq_true rfl⟩) hP hD hS hA [0, 2, 3] [1] rfl rfl (by decide) (by decide) (fun u H locs hw48 hP1 hD1 hS1 => ?_)
            obtain ⟨tc2_48, gt2_48⟩ := u
            have hw48 : tc2_48.toInt = tc.toInt + 1 := hw48
            clear hP hD hS
            have hP : va_P D classes [(bY, .inl (cI, 116, .inl gy3)), (aM, .inr (6, [.int th, .int mw, .ref bG, .int mz, .ref bL, .ref bY, .ref bB, .ref bC, .int v1, .int ss, .int ml, .int mh, .int mp, .int rw, .int wr, .int tc2_48, .ref bT])), (bC, .inl (cI, 66, .inl go3)), (bT, .inl (cI, 2400, .inl gt2_48))] H := hP1
            have hD : va_D A [(bY, .inl (cI, 116, .inl gy3)), (aM, .inr (6, [.int th, .int mw, .ref bG, .int mz, .ref bL, .ref bY, .ref bB, .ref bC, .int v1, .int ss, .int ml, .int mh, .int mp, .int rw, .int wr, .int tc2_48, .ref bT])), (bC, .inl (cI, 66, .inl go3)), (bT, .inl (cI, 2400, .inl gt2_48))] := hD1
            have hS := hS1
            clear hP1 hD1 hS1
            have rg_tc2_48 := zi_rg tc2_48
            refine lv_aload_n hx hb dX7_whole_150 rfl (lv_at hl 1 rfl) ?_
            refine lv_dup hx hb dX7_whole_151 rfl ?_
            refine va_get (D := D) (ci := 6) (v := .int rw) (C := RX7) (T := TX7) (N := 17) hx hb hts in_X7 hown hK hP 1 rfl rfl 13 (by decide) (hts _ wk384) (fun _ h9 => h9) rfl dX7_whole_152 ?_
            refine lv_iconst (v := 1) hx hb dX7_whole_155 (by decide) ?_
            refine lv_topi (fun v49 e49 => ?_)
            have z49 : v49.toInt = 1 := zi_c e49 (by decide)
            refine lv_iadd hx hb dX7_whole_156 ?_
            refine lv_topi (fun v50 e50 => ?_)
            first | have z50 := zi_add e50 (by omega) | skip
            refine va_put (D := D) (ci := 6) (v := .int v50) (ty := .int) (C := RX7) (T := TX7) (N := 17) hx hb hts in_X7 tyX7 tyX7_ok nmX7 hown hK hP hD hS 1 rfl rfl 13 (by decide) (hts _ wk384) (fun _ h9 => h9) rfl (by decide +kernel) rfl rfl (Nat.le_of_ble_eq_true rfl) dX7_whole_157 (fun H locs hP1 hD1 hS1 => ?_)
            clear hP hD hS
            have hP : va_P D classes [(bY, .inl (cI, 116, .inl gy3)), (aM, .inr (6, [.int th, .int mw, .ref bG, .int mz, .ref bL, .ref bY, .ref bB, .ref bC, .int v1, .int ss, .int ml, .int mh, .int mp, .int v50, .int wr, .int tc2_48, .ref bT])), (bC, .inl (cI, 66, .inl go3)), (bT, .inl (cI, 2400, .inl gt2_48))] H := hP1
            have hD : va_D A [(bY, .inl (cI, 116, .inl gy3)), (aM, .inr (6, [.int th, .int mw, .ref bG, .int mz, .ref bL, .ref bY, .ref bB, .ref bC, .int v1, .int ss, .int ml, .int mh, .int mp, .int v50, .int wr, .int tc2_48, .ref bT])), (bC, .inl (cI, 66, .inl go3)), (bT, .inl (cI, 2400, .inl gt2_48))] := hD1
            have hS := hS1
            clear hP1 hD1 hS1
            refine lv_aload_n hx hb dX7_whole_160 rfl (lv_at hl 1 rfl) ?_
            refine lv_iload_n hx hb dX7_whole_161 rfl (lv_at hl 0 rfl) ?_
            refine lv_if_eq (tgt := 172) hx hb dX7_whole_162 (by decide) (fun c51 => by have z51 := zi_eq0 c51; exfalso; omega) (fun c51 => ?_)
            have z51 := zi_ne0 c51
            refine lv_aload_n hx hb dX7_whole_165 rfl (lv_at hl 1 rfl) ?_
            refine va_get (D := D) (ci := 6) (v := .int wr) (C := RX7) (T := TX7) (N := 17) hx hb hts in_X7 hown hK hP 1 rfl rfl 14 (by decide) (hts _ wk385) (fun _ h9 => h9) rfl dX7_whole_166 ?_
            refine lv_goto (tgt := 178) hx hb dX7_whole_169 (by decide) ?_
            refine va_put (D := D) (ci := 6) (v := .int wr) (ty := .int) (C := RX7) (T := TX7) (N := 17) hx hb hts in_X7 tyX7 tyX7_ok nmX7 hown hK hP hD hS 1 rfl rfl 14 (by decide) (hts _ wk385) (fun _ h9 => h9) rfl (by decide +kernel) rfl rfl (Nat.le_of_ble_eq_true rfl) dX7_whole_178 (fun H locs hP1 hD1 hS1 => ?_)
            clear hP hD hS
            have hP : va_P D classes [(bY, .inl (cI, 116, .inl gy3)), (aM, .inr (6, [.int th, .int mw, .ref bG, .int mz, .ref bL, .ref bY, .ref bB, .ref bC, .int v1, .int ss, .int ml, .int mh, .int mp, .int v50, .int wr, .int tc2_48, .ref bT])), (bC, .inl (cI, 66, .inl go3)), (bT, .inl (cI, 2400, .inl gt2_48))] H := hP1
            have hD : va_D A [(bY, .inl (cI, 116, .inl gy3)), (aM, .inr (6, [.int th, .int mw, .ref bG, .int mz, .ref bL, .ref bY, .ref bB, .ref bC, .int v1, .int ss, .int ml, .int mh, .int mp, .int v50, .int wr, .int tc2_48, .ref bT])), (bC, .inl (cI, 66, .inl go3)), (bT, .inl (cI, 2400, .inl gt2_48))] := hD1
            have hS := hS1
            clear hP1 hD1 hS1
            refine lv_aload_n hx hb dX7_whole_181 rfl (lv_at hl 1 rfl) ?_
            refine va_get (D := D) (ci := 6) (v := .int wr) (C := RX7) (T := TX7) (N := 17) hx hb hts in_X7 hown hK hP 1 rfl rfl 14 (by decide) (hts _ wk385) (fun _ h9 => h9) rfl dX7_whole_182 ?_
            refine lv_bipush (v := 16) hx hb dX7_whole_185 (by decide) ?_
            refine lv_topi (fun v52 e52 => ?_)
            have z52 : v52.toInt = 16 := zi_c e52 (by decide)
            refine lv_icmp_ne (tgt := 212) hx hb dX7_whole_187 (by decide) (fun c53 => ?_) (fun c53 => ?_)
            ·
              have z53 := zi_ne c53
              refine lv_aload_n hx hb dX7_whole_212 rfl (lv_at hl 1 rfl) ?_
              refine va_get (D := D) (ci := 6) (v := .int v50) (C := RX7) (T := TX7) (N := 17) hx hb hts in_X7 hown hK hP 1 rfl rfl 13 (by decide) (hts _ wk384) (fun _ h9 => h9) rfl dX7_whole_213 ?_
              refine lv_bipush (v := 64) hx hb dX7_whole_216 (by decide) ?_
              refine lv_topi (fun v54 e54 => ?_)
              have z54 : v54.toInt = 64 := zi_c e54 (by decide)
              refine lv_icmp_ne (tgt := 231) hx hb dX7_whole_218 (by decide) (fun c55 => ?_) (fun c55 => ?_)
              ·
                have z55 := zi_ne c55
                have hq56 : (((((0 ≤ ml.toInt ∧ ml.toInt ≤ 1) ∧ (0 ≤ mh.toInt ∧ mh.toInt ≤ 63) ∧ (0 ≤ wr.toInt ∧ wr.toInt ≤ 15) ∧ (0 ≤ ss.toInt ∧ ss.toInt ≤ 1) ∧ (0 ≤ v50.toInt ∧ v50.toInt ≤ 64)) ∧ (mp.toInt ≤ mp.toInt ∧ mp.toInt ≤ mp.toInt + 1)) ∧ rwK ml.toInt v50.toInt) ∧ whR (fitM (go 0).toInt (go 1).toInt) ss.toInt ml.toInt mh.toInt mp.toInt rw.toInt wr.toInt tc.toInt ss.toInt ml.toInt mh.toInt mp.toInt v50.toInt wr.toInt tc2_48.toInt) ∧ (0 ≤ ml.toInt ∧ ml.toInt ≤ 1) ∧ v1.toInt = 0 ∧ tc.toInt ≤ tc2_48.toInt ∧ tc2_48.toInt ≤ tc.toInt + 1 ∧ ∀ j, j < 58 → gy3 j = gy j := (by have k1 : ml.toInt = 1 → rw.toInt ≤ 63 := h3; have g0 : (go 0).toInt = v6.toInt := (by rw [e6, show v5.toNatClampNeg = 0 from (by show v5.toInt.toNat = 0; omega), i7_2.1]); have g1 : (go 1).toInt = v8.toInt := (by rw [e8, show v7.toNatClampNeg = 1 from (by show v7.toInt.toNat = 1; omega), i7_2.2]); refine ⟨⟨⟨by omega, ?_⟩, ?_⟩, by omega, by omega, by omega, by omega, i7_1⟩; (· unfold rwK; omega); (· (first | rw [fitM_eq (show (go 0).toInt = (go 1).toInt by omega)] | rw [fitM_ne (show ¬ (go 0).toInt = (go 1).toInt by omega)]); unfold whR; refine ⟨fun q => ?_, fun q => ?_⟩ <;> first | (exfalso; omega) | (refine ⟨by omega, fun q1 => ?_, fun q1 => ?_⟩ <;> omega)))
                exact hret (v1, ss, ml, mh, mp, v50, wr, tc2_48, gy3, go3, gt2_48) _ _ _ _ dX7_whole_231 hq56 (hP.sub [1, 0, 2, 3] rfl) (hD.sub [1, 0, 2, 3] (by decide) rfl) hS
              ·
                have z55 := zi_eq c55
                refine lv_aload_n hx hb dX7_whole_221 rfl (lv_at hl 1 rfl) ?_
                refine lv_iconst (v := 0) hx hb dX7_whole_222 (by decide) ?_
                refine lv_topi (fun v57 e57 => ?_)
                have z57 : v57.toInt = 0 := zi_c e57 (by decide)
                refine va_put (D := D) (ci := 6) (v := .int v57) (ty := .int) (C := RX7) (T := TX7) (N := 17) hx hb hts in_X7 tyX7 tyX7_ok nmX7 hown hK hP hD hS 1 rfl rfl 13 (by decide) (hts _ wk384) (fun _ h9 => h9) rfl (by decide +kernel) rfl rfl (Nat.le_of_ble_eq_true rfl) dX7_whole_223 (fun H locs hP1 hD1 hS1 => ?_)
                clear hP hD hS
                have hP : va_P D classes [(bY, .inl (cI, 116, .inl gy3)), (aM, .inr (6, [.int th, .int mw, .ref bG, .int mz, .ref bL, .ref bY, .ref bB, .ref bC, .int v1, .int ss, .int ml, .int mh, .int mp, .int v57, .int wr, .int tc2_48, .ref bT])), (bC, .inl (cI, 66, .inl go3)), (bT, .inl (cI, 2400, .inl gt2_48))] H := hP1
                have hD : va_D A [(bY, .inl (cI, 116, .inl gy3)), (aM, .inr (6, [.int th, .int mw, .ref bG, .int mz, .ref bL, .ref bY, .ref bB, .ref bC, .int v1, .int ss, .int ml, .int mh, .int mp, .int v57, .int wr, .int tc2_48, .ref bT])), (bC, .inl (cI, 66, .inl go3)), (bT, .inl (cI, 2400, .inl gt2_48))] := hD1
                have hS := hS1
                clear hP1 hD1 hS1
                refine lv_aload_n hx hb dX7_whole_226 rfl (lv_at hl 1 rfl) ?_
                refine lv_iconst (v := 0) hx hb dX7_whole_227 (by decide) ?_
                refine lv_topi (fun v58 e58 => ?_)
                have z58 : v58.toInt = 0 := zi_c e58 (by decide)
                refine va_put (D := D) (ci := 6) (v := .int v58) (ty := .int) (C := RX7) (T := TX7) (N := 17) hx hb hts in_X7 tyX7 tyX7_ok nmX7 hown hK hP hD hS 1 rfl rfl 14 (by decide) (hts _ wk385) (fun _ h9 => h9) rfl (by decide +kernel) rfl rfl (Nat.le_of_ble_eq_true rfl) dX7_whole_228 (fun H locs hP1 hD1 hS1 => ?_)
                clear hP hD hS
                have hP : va_P D classes [(bY, .inl (cI, 116, .inl gy3)), (aM, .inr (6, [.int th, .int mw, .ref bG, .int mz, .ref bL, .ref bY, .ref bB, .ref bC, .int v1, .int ss, .int ml, .int mh, .int mp, .int v57, .int v58, .int tc2_48, .ref bT])), (bC, .inl (cI, 66, .inl go3)), (bT, .inl (cI, 2400, .inl gt2_48))] H := hP1
                have hD : va_D A [(bY, .inl (cI, 116, .inl gy3)), (aM, .inr (6, [.int th, .int mw, .ref bG, .int mz, .ref bL, .ref bY, .ref bB, .ref bC, .int v1, .int ss, .int ml, .int mh, .int mp, .int v57, .int v58, .int tc2_48, .ref bT])), (bC, .inl (cI, 66, .inl go3)), (bT, .inl (cI, 2400, .inl gt2_48))] := hD1
                have hS := hS1
                clear hP1 hD1 hS1
                have hq59 : (((((0 ≤ ml.toInt ∧ ml.toInt ≤ 1) ∧ (0 ≤ mh.toInt ∧ mh.toInt ≤ 63) ∧ (0 ≤ v58.toInt ∧ v58.toInt ≤ 15) ∧ (0 ≤ ss.toInt ∧ ss.toInt ≤ 1) ∧ (0 ≤ v57.toInt ∧ v57.toInt ≤ 64)) ∧ (mp.toInt ≤ mp.toInt ∧ mp.toInt ≤ mp.toInt + 1)) ∧ rwK ml.toInt v57.toInt) ∧ whR (fitM (go 0).toInt (go 1).toInt) ss.toInt ml.toInt mh.toInt mp.toInt rw.toInt wr.toInt tc.toInt ss.toInt ml.toInt mh.toInt mp.toInt v57.toInt v58.toInt tc2_48.toInt) ∧ (0 ≤ ml.toInt ∧ ml.toInt ≤ 1) ∧ v1.toInt = 0 ∧ tc.toInt ≤ tc2_48.toInt ∧ tc2_48.toInt ≤ tc.toInt + 1 ∧ ∀ j, j < 58 → gy3 j = gy j := (by have k1 : ml.toInt = 1 → rw.toInt ≤ 63 := h3; have g0 : (go 0).toInt = v6.toInt := (by rw [e6, show v5.toNatClampNeg = 0 from (by show v5.toInt.toNat = 0; omega), i7_2.1]); have g1 : (go 1).toInt = v8.toInt := (by rw [e8, show v7.toNatClampNeg = 1 from (by show v7.toInt.toNat = 1; omega), i7_2.2]); refine ⟨⟨⟨by omega, ?_⟩, ?_⟩, by omega, by omega, by omega, by omega, i7_1⟩; (· unfold rwK; omega); (· (first | rw [fitM_eq (show (go 0).toInt = (go 1).toInt by omega)] | rw [fitM_ne (show ¬ (go 0).toInt = (go 1).toInt by omega)]); unfold whR; refine ⟨fun q => ?_, fun q => ?_⟩ <;> first | (exfalso; omega) | (refine ⟨by omega, fun q1 => ?_, fun q1 => ?_⟩ <;> omega)))
                exact hret (v1, ss, ml, mh, mp, v57, v58, tc2_48, gy3, go3, gt2_48) _ _ _ _ dX7_whole_231 hq59 (hP.sub [1, 0, 2, 3] rfl) (hD.sub [1, 0, 2, 3] (by decide) rfl) hS
            ·
              have z53 := zi_eq c53
              refine lv_aload_n hx hb dX7_whole_190 rfl (lv_at hl 1 rfl) ?_
              refine lv_iconst (v := 0) hx hb dX7_whole_191 (by decide) ?_
              refine lv_topi (fun v60 e60 => ?_)
              have z60 : v60.toInt = 0 := zi_c e60 (by decide)
              refine va_put (D := D) (ci := 6) (v := .int v60) (ty := .boolean) (C := RX7) (T := TX7) (N := 17) hx hb hts in_X7 tyX7 tyX7_ok nmX7 hown hK hP hD hS 1 rfl rfl 10 (by decide) (hts _ wk382) (fun _ h9 => h9) rfl (by decide +kernel) (zb_n (by omega)) (zb_f (by omega)) (Nat.le_of_ble_eq_true rfl) dX7_whole_192 (fun H locs hP1 hD1 hS1 => ?_)
              clear hP hD hS
              have hP : va_P D classes [(bY, .inl (cI, 116, .inl gy3)), (aM, .inr (6, [.int th, .int mw, .ref bG, .int mz, .ref bL, .ref bY, .ref bB, .ref bC, .int v1, .int ss, .int v60, .int mh, .int mp, .int v50, .int wr, .int tc2_48, .ref bT])), (bC, .inl (cI, 66, .inl go3)), (bT, .inl (cI, 2400, .inl gt2_48))] H := hP1
              have hD : va_D A [(bY, .inl (cI, 116, .inl gy3)), (aM, .inr (6, [.int th, .int mw, .ref bG, .int mz, .ref bL, .ref bY, .ref bB, .ref bC, .int v1, .int ss, .int v60, .int mh, .int mp, .int v50, .int wr, .int tc2_48, .ref bT])), (bC, .inl (cI, 66, .inl go3)), (bT, .inl (cI, 2400, .inl gt2_48))] := hD1
              have hS := hS1
              clear hP1 hD1 hS1
              refine lv_aload_n hx hb dX7_whole_195 rfl (lv_at hl 1 rfl) ?_
              refine lv_iconst (v := 0) hx hb dX7_whole_196 (by decide) ?_
              refine lv_topi (fun v61 e61 => ?_)
              have z61 : v61.toInt = 0 := zi_c e61 (by decide)
              refine va_put (D := D) (ci := 6) (v := .int v61) (ty := .int) (C := RX7) (T := TX7) (N := 17) hx hb hts in_X7 tyX7 tyX7_ok nmX7 hown hK hP hD hS 1 rfl rfl 11 (by decide) (hts _ wk383) (fun _ h9 => h9) rfl (by decide +kernel) rfl rfl (Nat.le_of_ble_eq_true rfl) dX7_whole_197 (fun H locs hP1 hD1 hS1 => ?_)
              clear hP hD hS
              have hP : va_P D classes [(bY, .inl (cI, 116, .inl gy3)), (aM, .inr (6, [.int th, .int mw, .ref bG, .int mz, .ref bL, .ref bY, .ref bB, .ref bC, .int v1, .int ss, .int v60, .int v61, .int mp, .int v50, .int wr, .int tc2_48, .ref bT])), (bC, .inl (cI, 66, .inl go3)), (bT, .inl (cI, 2400, .inl gt2_48))] H := hP1
              have hD : va_D A [(bY, .inl (cI, 116, .inl gy3)), (aM, .inr (6, [.int th, .int mw, .ref bG, .int mz, .ref bL, .ref bY, .ref bB, .ref bC, .int v1, .int ss, .int v60, .int v61, .int mp, .int v50, .int wr, .int tc2_48, .ref bT])), (bC, .inl (cI, 66, .inl go3)), (bT, .inl (cI, 2400, .inl gt2_48))] := hD1
              have hS := hS1
              clear hP1 hD1 hS1
              refine lv_aload_n hx hb dX7_whole_200 rfl (lv_at hl 1 rfl) ?_
              refine lv_iconst (v := 0) hx hb dX7_whole_201 (by decide) ?_
              refine lv_topi (fun v62 e62 => ?_)
              have z62 : v62.toInt = 0 := zi_c e62 (by decide)
              refine va_put (D := D) (ci := 6) (v := .int v62) (ty := .int) (C := RX7) (T := TX7) (N := 17) hx hb hts in_X7 tyX7 tyX7_ok nmX7 hown hK hP hD hS 1 rfl rfl 14 (by decide) (hts _ wk385) (fun _ h9 => h9) rfl (by decide +kernel) rfl rfl (Nat.le_of_ble_eq_true rfl) dX7_whole_202 (fun H locs hP1 hD1 hS1 => ?_)
              clear hP hD hS
              have hP : va_P D classes [(bY, .inl (cI, 116, .inl gy3)), (aM, .inr (6, [.int th, .int mw, .ref bG, .int mz, .ref bL, .ref bY, .ref bB, .ref bC, .int v1, .int ss, .int v60, .int v61, .int mp, .int v50, .int v62, .int tc2_48, .ref bT])), (bC, .inl (cI, 66, .inl go3)), (bT, .inl (cI, 2400, .inl gt2_48))] H := hP1
              have hD : va_D A [(bY, .inl (cI, 116, .inl gy3)), (aM, .inr (6, [.int th, .int mw, .ref bG, .int mz, .ref bL, .ref bY, .ref bB, .ref bC, .int v1, .int ss, .int v60, .int v61, .int mp, .int v50, .int v62, .int tc2_48, .ref bT])), (bC, .inl (cI, 66, .inl go3)), (bT, .inl (cI, 2400, .inl gt2_48))] := hD1
              have hS := hS1
              clear hP1 hD1 hS1
              refine lv_aload_n hx hb dX7_whole_205 rfl (lv_at hl 1 rfl) ?_
              have hh63 : 0 ≤ mp.toInt ∧ mp.toInt ≤ 1000000000 := (by omega)
              refine call_v (wc := [(aM, .inr (6, [.int th, .int mw, .ref bG, .int mz, .ref bL, .ref bY, .ref bB, .ref bC, .int v1, .int ss, .int v60, .int v61, .int mp, .int v50, .int v62, .int tc2_48, .ref bT]))]) (wr := [(bY, .inl (cI, 116, .inl gy3)), (bC, .inl (cI, 66, .inl go3)), (bT, .inl (cI, 2400, .inl gt2_48))]) (run_V (As := []) (rest := []) kv_RX7_113 ⟨by decide, by decide⟩ ⟨rfl, rfl⟩ ⟨hx, hb, hml, hown, hts⟩ (c_Mo_slip l D cI cJ cB aM bG bL bY bB bC bT th mw mz v1 ss v60 v61 mp v50 v62 tc2_48 hh63 _) ct_blind (ct_pre (wc := [(aM, .inr (6, [.int th, .int mw, .ref bG, .int mz, .ref bL, .ref bY, .ref bB, .ref bC, .int v1, .int ss, .int v60, .int v61, .int mp, .int v50, .int v62, .int tc2_48, .ref bT]))]) hK hP hD hS hA hZ hN [1] (by decide) rfl rfl) (va_recv hK hP (ci := 6) (q0 := 1) rfl rfl) rfl hl.1 rfl (Nat.le_of_ble_eq_true rfl) dX7_whole_206 ⟨Nat.le_of_ble_eq_true rfl, Nat.le_of_ble_eq_true rfl⟩) hP hD hS hA [1] [0, 2, 3] rfl rfl (by decide) (by decide) (fun u H locs hw64 hP1 hD1 hS1 => ?_)
              obtain ⟨ss2_64, mp2_64⟩ := u
              have hw64 : ss2_64.toInt = 1 ∧ mp2_64.toInt = mp.toInt + 1 := hw64
              clear hP hD hS
              have hP : va_P D classes [(bY, .inl (cI, 116, .inl gy3)), (bC, .inl (cI, 66, .inl go3)), (bT, .inl (cI, 2400, .inl gt2_48)), (aM, .inr (6, [.int th, .int mw, .ref bG, .int mz, .ref bL, .ref bY, .ref bB, .ref bC, .int v1, .int ss2_64, .int v60, .int v61, .int mp2_64, .int v50, .int v62, .int tc2_48, .ref bT]))] H := hP1
              have hD : va_D A [(bY, .inl (cI, 116, .inl gy3)), (bC, .inl (cI, 66, .inl go3)), (bT, .inl (cI, 2400, .inl gt2_48)), (aM, .inr (6, [.int th, .int mw, .ref bG, .int mz, .ref bL, .ref bY, .ref bB, .ref bC, .int v1, .int ss2_64, .int v60, .int v61, .int mp2_64, .int v50, .int v62, .int tc2_48, .ref bT]))] := hD1
              have hS := hS1
              clear hP1 hD1 hS1
              have rg_ss2_64 := zi_rg ss2_64
              have rg_mp2_64 := zi_rg mp2_64
              refine lv_goto (tgt := 231) hx hb dX7_whole_209 (by decide) ?_
              have hq65 : (((((0 ≤ v60.toInt ∧ v60.toInt ≤ 1) ∧ (0 ≤ v61.toInt ∧ v61.toInt ≤ 63) ∧ (0 ≤ v62.toInt ∧ v62.toInt ≤ 15) ∧ (0 ≤ ss2_64.toInt ∧ ss2_64.toInt ≤ 1) ∧ (0 ≤ v50.toInt ∧ v50.toInt ≤ 64)) ∧ (mp.toInt ≤ mp2_64.toInt ∧ mp2_64.toInt ≤ mp.toInt + 1)) ∧ rwK v60.toInt v50.toInt) ∧ whR (fitM (go 0).toInt (go 1).toInt) ss.toInt ml.toInt mh.toInt mp.toInt rw.toInt wr.toInt tc.toInt ss2_64.toInt v60.toInt v61.toInt mp2_64.toInt v50.toInt v62.toInt tc2_48.toInt) ∧ (0 ≤ v60.toInt ∧ v60.toInt ≤ 1) ∧ v1.toInt = 0 ∧ tc.toInt ≤ tc2_48.toInt ∧ tc2_48.toInt ≤ tc.toInt + 1 ∧ ∀ j, j < 58 → gy3 j = gy j := (by have k1 : ml.toInt = 1 → rw.toInt ≤ 63 := h3; have g0 : (go 0).toInt = v6.toInt := (by rw [e6, show v5.toNatClampNeg = 0 from (by show v5.toInt.toNat = 0; omega), i7_2.1]); have g1 : (go 1).toInt = v8.toInt := (by rw [e8, show v7.toNatClampNeg = 1 from (by show v7.toInt.toNat = 1; omega), i7_2.2]); refine ⟨⟨⟨by omega, ?_⟩, ?_⟩, by omega, by omega, by omega, by omega, i7_1⟩; (· unfold rwK; omega); (· (first | rw [fitM_eq (show (go 0).toInt = (go 1).toInt by omega)] | rw [fitM_ne (show ¬ (go 0).toInt = (go 1).toInt by omega)]); unfold whR; refine ⟨fun q => ?_, fun q => ?_⟩ <;> first | (exfalso; omega) | (refine ⟨by omega, fun q1 => ?_, fun q1 => ?_⟩ <;> omega)))
              exact hret (v1, ss2_64, v60, v61, mp2_64, v50, v62, tc2_48, gy3, go3, gt2_48) _ _ _ _ dX7_whole_231 hq65 (hP.sub [3, 0, 1, 2] rfl) (hD.sub [3, 0, 1, 2] (by decide) rfl) hS
          ·
            have z46 := zi_eq0 c46
            refine lv_aload_n hx hb dX7_whole_72 rfl (lv_at hl 1 rfl) ?_
            refine lv_iload_n hx hb dX7_whole_73 rfl (lv_at hl 0 rfl) ?_
            refine lv_if_eq (tgt := 86) hx hb dX7_whole_74 (by decide) (fun c66 => by have z66 := zi_eq0 c66; exfalso; omega) (fun c66 => ?_)
            have z66 := zi_ne0 c66
            refine lv_aload_n hx hb dX7_whole_77 rfl (lv_at hl 1 rfl) ?_
            refine va_get (D := D) (ci := 6) (v := .int mh) (C := RX7) (T := TX7) (N := 17) hx hb hts in_X7 hown hK hP 0 rfl rfl 11 (by decide) (hts _ wk383) (fun _ h9 => h9) rfl dX7_whole_78 ?_
            refine lv_iconst (v := 1) hx hb dX7_whole_81 (by decide) ?_
            refine lv_topi (fun v67 e67 => ?_)
            have z67 : v67.toInt = 1 := zi_c e67 (by decide)
            refine lv_iadd hx hb dX7_whole_82 ?_
            refine lv_topi (fun v68 e68 => ?_)
            first | have z68 := zi_add e68 (by omega) | skip
            refine lv_goto (tgt := 87) hx hb dX7_whole_83 (by decide) ?_
            refine va_put (D := D) (ci := 6) (v := .int v68) (ty := .int) (C := RX7) (T := TX7) (N := 17) hx hb hts in_X7 tyX7 tyX7_ok nmX7 hown hK hP hD hS 0 rfl rfl 11 (by decide) (hts _ wk383) (fun _ h9 => h9) rfl (by decide +kernel) rfl rfl (Nat.le_of_ble_eq_true rfl) dX7_whole_87 (fun H locs hP1 hD1 hS1 => ?_)
            clear hP hD hS
            have hP : va_P D classes [(aM, .inr (6, [.int th, .int mw, .ref bG, .int mz, .ref bL, .ref bY, .ref bB, .ref bC, .int v1, .int ss, .int ml, .int v68, .int mp, .int rw, .int wr, .int tc, .ref bT])), (bY, .inl (cI, 116, .inl gy3)), (bC, .inl (cI, 66, .inl go3)), (bT, .inl (cI, 2400, .inl gt))] H := hP1
            have hD : va_D A [(aM, .inr (6, [.int th, .int mw, .ref bG, .int mz, .ref bL, .ref bY, .ref bB, .ref bC, .int v1, .int ss, .int ml, .int v68, .int mp, .int rw, .int wr, .int tc, .ref bT])), (bY, .inl (cI, 116, .inl gy3)), (bC, .inl (cI, 66, .inl go3)), (bT, .inl (cI, 2400, .inl gt))] := hD1
            have hS := hS1
            clear hP1 hD1 hS1
            refine lv_iload_n hx hb dX7_whole_90 rfl (lv_at hl 0 rfl) ?_
            refine lv_if_ne (tgt := 98) hx hb dX7_whole_91 (by decide) (fun c69 => ?_) (fun c69 => by have z69 := zi_eq0 c69; exfalso; omega)
            have z69 := zi_ne0 c69
            refine lv_aload_n hx hb dX7_whole_98 rfl (lv_at hl 1 rfl) ?_
            refine lv_aload_n hx hb dX7_whole_99 rfl (lv_at hl 1 rfl) ?_
            refine va_get (D := D) (ci := 6) (v := .int v68) (C := RX7) (T := TX7) (N := 17) hx hb hts in_X7 hown hK hP 0 rfl rfl 11 (by decide) (hts _ wk383) (fun _ h9 => h9) rfl dX7_whole_100 ?_
            refine lv_bipush (v := 64) hx hb dX7_whole_103 (by decide) ?_
            refine lv_topi (fun v70 e70 => ?_)
            have z70 : v70.toInt = 64 := zi_c e70 (by decide)
            refine lv_icmp_ne (tgt := 112) hx hb dX7_whole_105 (by decide) (fun c71 => ?_) (fun c71 => ?_)
            ·
              have z71 := zi_ne c71
              refine lv_iconst (v := 0) hx hb dX7_whole_112 (by decide) ?_
              refine lv_topi (fun v72 e72 => ?_)
              have z72 : v72.toInt = 0 := zi_c e72 (by decide)
              refine va_put (D := D) (ci := 6) (v := .int v72) (ty := .boolean) (C := RX7) (T := TX7) (N := 17) hx hb hts in_X7 tyX7 tyX7_ok nmX7 hown hK hP hD hS 0 rfl rfl 10 (by decide) (hts _ wk382) (fun _ h9 => h9) rfl (by decide +kernel) (zb_n (by omega)) (zb_f (by omega)) (Nat.le_of_ble_eq_true rfl) dX7_whole_113 (fun H locs hP1 hD1 hS1 => ?_)
              clear hP hD hS
              have hP : va_P D classes [(aM, .inr (6, [.int th, .int mw, .ref bG, .int mz, .ref bL, .ref bY, .ref bB, .ref bC, .int v1, .int ss, .int v72, .int v68, .int mp, .int rw, .int wr, .int tc, .ref bT])), (bY, .inl (cI, 116, .inl gy3)), (bC, .inl (cI, 66, .inl go3)), (bT, .inl (cI, 2400, .inl gt))] H := hP1
              have hD : va_D A [(aM, .inr (6, [.int th, .int mw, .ref bG, .int mz, .ref bL, .ref bY, .ref bB, .ref bC, .int v1, .int ss, .int v72, .int v68, .int mp, .int rw, .int wr, .int tc, .ref bT])), (bY, .inl (cI, 116, .inl gy3)), (bC, .inl (cI, 66, .inl go3)), (bT, .inl (cI, 2400, .inl gt))] := hD1
              have hS := hS1
              clear hP1 hD1 hS1
              refine lv_aload_n hx hb dX7_whole_116 rfl (lv_at hl 1 rfl) ?_
              refine lv_aload_n hx hb dX7_whole_117 rfl (lv_at hl 1 rfl) ?_
              refine va_get (D := D) (ci := 6) (v := .int v72) (C := RX7) (T := TX7) (N := 17) hx hb hts in_X7 hown hK hP 0 rfl rfl 10 (by decide) (hts _ wk382) (fun _ h9 => h9) rfl dX7_whole_118 ?_
              refine lv_if_eq (tgt := 128) hx hb dX7_whole_121 (by decide) (fun c73 => ?_) (fun c73 => by have z73 := zi_ne0 c73; exfalso; omega)
              have z73 := zi_eq0 c73
              refine lv_aload_n hx hb dX7_whole_128 rfl (lv_at hl 1 rfl) ?_
              refine va_get (D := D) (ci := 6) (v := .int v68) (C := RX7) (T := TX7) (N := 17) hx hb hts in_X7 hown hK hP 0 rfl rfl 11 (by decide) (hts _ wk383) (fun _ h9 => h9) rfl dX7_whole_129 ?_
              refine va_put (D := D) (ci := 6) (v := .int v68) (ty := .int) (C := RX7) (T := TX7) (N := 17) hx hb hts in_X7 tyX7 tyX7_ok nmX7 hown hK hP hD hS 0 rfl rfl 11 (by decide) (hts _ wk383) (fun _ h9 => h9) rfl (by decide +kernel) rfl rfl (Nat.le_of_ble_eq_true rfl) dX7_whole_132 (fun H locs hP1 hD1 hS1 => ?_)
              clear hP hD hS
              have hP : va_P D classes [(aM, .inr (6, [.int th, .int mw, .ref bG, .int mz, .ref bL, .ref bY, .ref bB, .ref bC, .int v1, .int ss, .int v72, .int v68, .int mp, .int rw, .int wr, .int tc, .ref bT])), (bY, .inl (cI, 116, .inl gy3)), (bC, .inl (cI, 66, .inl go3)), (bT, .inl (cI, 2400, .inl gt))] H := hP1
              have hD : va_D A [(aM, .inr (6, [.int th, .int mw, .ref bG, .int mz, .ref bL, .ref bY, .ref bB, .ref bC, .int v1, .int ss, .int v72, .int v68, .int mp, .int rw, .int wr, .int tc, .ref bT])), (bY, .inl (cI, 116, .inl gy3)), (bC, .inl (cI, 66, .inl go3)), (bT, .inl (cI, 2400, .inl gt))] := hD1
              have hS := hS1
              clear hP1 hD1 hS1
              refine lv_aload_n hx hb dX7_whole_135 rfl (lv_at hl 1 rfl) ?_
              refine lv_iconst (v := 0) hx hb dX7_whole_136 (by decide) ?_
              refine lv_topi (fun v74 e74 => ?_)
              have z74 : v74.toInt = 0 := zi_c e74 (by decide)
              refine va_put (D := D) (ci := 6) (v := .int v74) (ty := .int) (C := RX7) (T := TX7) (N := 17) hx hb hts in_X7 tyX7 tyX7_ok nmX7 hown hK hP hD hS 0 rfl rfl 13 (by decide) (hts _ wk384) (fun _ h9 => h9) rfl (by decide +kernel) rfl rfl (Nat.le_of_ble_eq_true rfl) dX7_whole_137 (fun H locs hP1 hD1 hS1 => ?_)
              clear hP hD hS
              have hP : va_P D classes [(aM, .inr (6, [.int th, .int mw, .ref bG, .int mz, .ref bL, .ref bY, .ref bB, .ref bC, .int v1, .int ss, .int v72, .int v68, .int mp, .int v74, .int wr, .int tc, .ref bT])), (bY, .inl (cI, 116, .inl gy3)), (bC, .inl (cI, 66, .inl go3)), (bT, .inl (cI, 2400, .inl gt))] H := hP1
              have hD : va_D A [(aM, .inr (6, [.int th, .int mw, .ref bG, .int mz, .ref bL, .ref bY, .ref bB, .ref bC, .int v1, .int ss, .int v72, .int v68, .int mp, .int v74, .int wr, .int tc, .ref bT])), (bY, .inl (cI, 116, .inl gy3)), (bC, .inl (cI, 66, .inl go3)), (bT, .inl (cI, 2400, .inl gt))] := hD1
              have hS := hS1
              clear hP1 hD1 hS1
              refine lv_aload_n hx hb dX7_whole_140 rfl (lv_at hl 1 rfl) ?_
              refine lv_iconst (v := 0) hx hb dX7_whole_141 (by decide) ?_
              refine lv_topi (fun v75 e75 => ?_)
              have z75 : v75.toInt = 0 := zi_c e75 (by decide)
              refine va_put (D := D) (ci := 6) (v := .int v75) (ty := .int) (C := RX7) (T := TX7) (N := 17) hx hb hts in_X7 tyX7 tyX7_ok nmX7 hown hK hP hD hS 0 rfl rfl 14 (by decide) (hts _ wk385) (fun _ h9 => h9) rfl (by decide +kernel) rfl rfl (Nat.le_of_ble_eq_true rfl) dX7_whole_142 (fun H locs hP1 hD1 hS1 => ?_)
              clear hP hD hS
              have hP : va_P D classes [(aM, .inr (6, [.int th, .int mw, .ref bG, .int mz, .ref bL, .ref bY, .ref bB, .ref bC, .int v1, .int ss, .int v72, .int v68, .int mp, .int v74, .int v75, .int tc, .ref bT])), (bY, .inl (cI, 116, .inl gy3)), (bC, .inl (cI, 66, .inl go3)), (bT, .inl (cI, 2400, .inl gt))] H := hP1
              have hD : va_D A [(aM, .inr (6, [.int th, .int mw, .ref bG, .int mz, .ref bL, .ref bY, .ref bB, .ref bC, .int v1, .int ss, .int v72, .int v68, .int mp, .int v74, .int v75, .int tc, .ref bT])), (bY, .inl (cI, 116, .inl gy3)), (bC, .inl (cI, 66, .inl go3)), (bT, .inl (cI, 2400, .inl gt))] := hD1
              have hS := hS1
              clear hP1 hD1 hS1
              have hq76 : (((((0 ≤ v72.toInt ∧ v72.toInt ≤ 1) ∧ (0 ≤ v68.toInt ∧ v68.toInt ≤ 63) ∧ (0 ≤ v75.toInt ∧ v75.toInt ≤ 15) ∧ (0 ≤ ss.toInt ∧ ss.toInt ≤ 1) ∧ (0 ≤ v74.toInt ∧ v74.toInt ≤ 64)) ∧ (mp.toInt ≤ mp.toInt ∧ mp.toInt ≤ mp.toInt + 1)) ∧ rwK v72.toInt v74.toInt) ∧ whR (fitM (go 0).toInt (go 1).toInt) ss.toInt ml.toInt mh.toInt mp.toInt rw.toInt wr.toInt tc.toInt ss.toInt v72.toInt v68.toInt mp.toInt v74.toInt v75.toInt tc.toInt) ∧ (0 ≤ v72.toInt ∧ v72.toInt ≤ 1) ∧ v1.toInt = 0 ∧ tc.toInt ≤ tc.toInt ∧ tc.toInt ≤ tc.toInt + 1 ∧ ∀ j, j < 58 → gy3 j = gy j := (by have k1 : ml.toInt = 1 → rw.toInt ≤ 63 := h3; have g0 : (go 0).toInt = v6.toInt := (by rw [e6, show v5.toNatClampNeg = 0 from (by show v5.toInt.toNat = 0; omega), i7_2.1]); have g1 : (go 1).toInt = v8.toInt := (by rw [e8, show v7.toNatClampNeg = 1 from (by show v7.toInt.toNat = 1; omega), i7_2.2]); refine ⟨⟨⟨by omega, ?_⟩, ?_⟩, by omega, by omega, by omega, by omega, i7_1⟩; (· unfold rwK; omega); (· (first | rw [fitM_eq (show (go 0).toInt = (go 1).toInt by omega)] | rw [fitM_ne (show ¬ (go 0).toInt = (go 1).toInt by omega)]); unfold whR; refine ⟨fun q => ?_, fun q => ?_⟩ <;> first | (exfalso; omega) | (refine ⟨by omega, fun q1 => ?_, fun q1 => ?_⟩ <;> omega)))
              exact hret (v1, ss, v72, v68, mp, v74, v75, tc, gy3, go3, gt) _ _ _ _ dX7_whole_145 hq76 (hP.sub [0, 1, 2, 3] rfl) (hD.sub [0, 1, 2, 3] (by decide) rfl) hS
            ·
              have z71 := zi_eq c71
              refine lv_iconst (v := 1) hx hb dX7_whole_108 (by decide) ?_
              refine lv_topi (fun v77 e77 => ?_)
              have z77 : v77.toInt = 1 := zi_c e77 (by decide)
              refine lv_goto (tgt := 113) hx hb dX7_whole_109 (by decide) ?_
              refine va_put (D := D) (ci := 6) (v := .int v77) (ty := .boolean) (C := RX7) (T := TX7) (N := 17) hx hb hts in_X7 tyX7 tyX7_ok nmX7 hown hK hP hD hS 0 rfl rfl 10 (by decide) (hts _ wk382) (fun _ h9 => h9) rfl (by decide +kernel) (zb_n (by omega)) (zb_f (by omega)) (Nat.le_of_ble_eq_true rfl) dX7_whole_113 (fun H locs hP1 hD1 hS1 => ?_)
              clear hP hD hS
              have hP : va_P D classes [(aM, .inr (6, [.int th, .int mw, .ref bG, .int mz, .ref bL, .ref bY, .ref bB, .ref bC, .int v1, .int ss, .int v77, .int v68, .int mp, .int rw, .int wr, .int tc, .ref bT])), (bY, .inl (cI, 116, .inl gy3)), (bC, .inl (cI, 66, .inl go3)), (bT, .inl (cI, 2400, .inl gt))] H := hP1
              have hD : va_D A [(aM, .inr (6, [.int th, .int mw, .ref bG, .int mz, .ref bL, .ref bY, .ref bB, .ref bC, .int v1, .int ss, .int v77, .int v68, .int mp, .int rw, .int wr, .int tc, .ref bT])), (bY, .inl (cI, 116, .inl gy3)), (bC, .inl (cI, 66, .inl go3)), (bT, .inl (cI, 2400, .inl gt))] := hD1
              have hS := hS1
              clear hP1 hD1 hS1
              refine lv_aload_n hx hb dX7_whole_116 rfl (lv_at hl 1 rfl) ?_
              refine lv_aload_n hx hb dX7_whole_117 rfl (lv_at hl 1 rfl) ?_
              refine va_get (D := D) (ci := 6) (v := .int v77) (C := RX7) (T := TX7) (N := 17) hx hb hts in_X7 hown hK hP 0 rfl rfl 10 (by decide) (hts _ wk382) (fun _ h9 => h9) rfl dX7_whole_118 ?_
              refine lv_if_eq (tgt := 128) hx hb dX7_whole_121 (by decide) (fun c78 => by have z78 := zi_eq0 c78; exfalso; omega) (fun c78 => ?_)
              have z78 := zi_ne0 c78
              refine lv_iconst (v := 0) hx hb dX7_whole_124 (by decide) ?_
              refine lv_topi (fun v79 e79 => ?_)
              have z79 : v79.toInt = 0 := zi_c e79 (by decide)
              refine lv_goto (tgt := 132) hx hb dX7_whole_125 (by decide) ?_
              refine va_put (D := D) (ci := 6) (v := .int v79) (ty := .int) (C := RX7) (T := TX7) (N := 17) hx hb hts in_X7 tyX7 tyX7_ok nmX7 hown hK hP hD hS 0 rfl rfl 11 (by decide) (hts _ wk383) (fun _ h9 => h9) rfl (by decide +kernel) rfl rfl (Nat.le_of_ble_eq_true rfl) dX7_whole_132 (fun H locs hP1 hD1 hS1 => ?_)
              clear hP hD hS
              have hP : va_P D classes [(aM, .inr (6, [.int th, .int mw, .ref bG, .int mz, .ref bL, .ref bY, .ref bB, .ref bC, .int v1, .int ss, .int v77, .int v79, .int mp, .int rw, .int wr, .int tc, .ref bT])), (bY, .inl (cI, 116, .inl gy3)), (bC, .inl (cI, 66, .inl go3)), (bT, .inl (cI, 2400, .inl gt))] H := hP1
              have hD : va_D A [(aM, .inr (6, [.int th, .int mw, .ref bG, .int mz, .ref bL, .ref bY, .ref bB, .ref bC, .int v1, .int ss, .int v77, .int v79, .int mp, .int rw, .int wr, .int tc, .ref bT])), (bY, .inl (cI, 116, .inl gy3)), (bC, .inl (cI, 66, .inl go3)), (bT, .inl (cI, 2400, .inl gt))] := hD1
              have hS := hS1
              clear hP1 hD1 hS1
              refine lv_aload_n hx hb dX7_whole_135 rfl (lv_at hl 1 rfl) ?_
              refine lv_iconst (v := 0) hx hb dX7_whole_136 (by decide) ?_
              refine lv_topi (fun v80 e80 => ?_)
              have z80 : v80.toInt = 0 := zi_c e80 (by decide)
              refine va_put (D := D) (ci := 6) (v := .int v80) (ty := .int) (C := RX7) (T := TX7) (N := 17) hx hb hts in_X7 tyX7 tyX7_ok nmX7 hown hK hP hD hS 0 rfl rfl 13 (by decide) (hts _ wk384) (fun _ h9 => h9) rfl (by decide +kernel) rfl rfl (Nat.le_of_ble_eq_true rfl) dX7_whole_137 (fun H locs hP1 hD1 hS1 => ?_)
              clear hP hD hS
              have hP : va_P D classes [(aM, .inr (6, [.int th, .int mw, .ref bG, .int mz, .ref bL, .ref bY, .ref bB, .ref bC, .int v1, .int ss, .int v77, .int v79, .int mp, .int v80, .int wr, .int tc, .ref bT])), (bY, .inl (cI, 116, .inl gy3)), (bC, .inl (cI, 66, .inl go3)), (bT, .inl (cI, 2400, .inl gt))] H := hP1
              have hD : va_D A [(aM, .inr (6, [.int th, .int mw, .ref bG, .int mz, .ref bL, .ref bY, .ref bB, .ref bC, .int v1, .int ss, .int v77, .int v79, .int mp, .int v80, .int wr, .int tc, .ref bT])), (bY, .inl (cI, 116, .inl gy3)), (bC, .inl (cI, 66, .inl go3)), (bT, .inl (cI, 2400, .inl gt))] := hD1
              have hS := hS1
              clear hP1 hD1 hS1
              refine lv_aload_n hx hb dX7_whole_140 rfl (lv_at hl 1 rfl) ?_
              refine lv_iconst (v := 0) hx hb dX7_whole_141 (by decide) ?_
              refine lv_topi (fun v81 e81 => ?_)
              have z81 : v81.toInt = 0 := zi_c e81 (by decide)
              refine va_put (D := D) (ci := 6) (v := .int v81) (ty := .int) (C := RX7) (T := TX7) (N := 17) hx hb hts in_X7 tyX7 tyX7_ok nmX7 hown hK hP hD hS 0 rfl rfl 14 (by decide) (hts _ wk385) (fun _ h9 => h9) rfl (by decide +kernel) rfl rfl (Nat.le_of_ble_eq_true rfl) dX7_whole_142 (fun H locs hP1 hD1 hS1 => ?_)
              clear hP hD hS
              have hP : va_P D classes [(aM, .inr (6, [.int th, .int mw, .ref bG, .int mz, .ref bL, .ref bY, .ref bB, .ref bC, .int v1, .int ss, .int v77, .int v79, .int mp, .int v80, .int v81, .int tc, .ref bT])), (bY, .inl (cI, 116, .inl gy3)), (bC, .inl (cI, 66, .inl go3)), (bT, .inl (cI, 2400, .inl gt))] H := hP1
              have hD : va_D A [(aM, .inr (6, [.int th, .int mw, .ref bG, .int mz, .ref bL, .ref bY, .ref bB, .ref bC, .int v1, .int ss, .int v77, .int v79, .int mp, .int v80, .int v81, .int tc, .ref bT])), (bY, .inl (cI, 116, .inl gy3)), (bC, .inl (cI, 66, .inl go3)), (bT, .inl (cI, 2400, .inl gt))] := hD1
              have hS := hS1
              clear hP1 hD1 hS1
              have hq82 : (((((0 ≤ v77.toInt ∧ v77.toInt ≤ 1) ∧ (0 ≤ v79.toInt ∧ v79.toInt ≤ 63) ∧ (0 ≤ v81.toInt ∧ v81.toInt ≤ 15) ∧ (0 ≤ ss.toInt ∧ ss.toInt ≤ 1) ∧ (0 ≤ v80.toInt ∧ v80.toInt ≤ 64)) ∧ (mp.toInt ≤ mp.toInt ∧ mp.toInt ≤ mp.toInt + 1)) ∧ rwK v77.toInt v80.toInt) ∧ whR (fitM (go 0).toInt (go 1).toInt) ss.toInt ml.toInt mh.toInt mp.toInt rw.toInt wr.toInt tc.toInt ss.toInt v77.toInt v79.toInt mp.toInt v80.toInt v81.toInt tc.toInt) ∧ (0 ≤ v77.toInt ∧ v77.toInt ≤ 1) ∧ v1.toInt = 0 ∧ tc.toInt ≤ tc.toInt ∧ tc.toInt ≤ tc.toInt + 1 ∧ ∀ j, j < 58 → gy3 j = gy j := (by have k1 : ml.toInt = 1 → rw.toInt ≤ 63 := h3; have g0 : (go 0).toInt = v6.toInt := (by rw [e6, show v5.toNatClampNeg = 0 from (by show v5.toInt.toNat = 0; omega), i7_2.1]); have g1 : (go 1).toInt = v8.toInt := (by rw [e8, show v7.toNatClampNeg = 1 from (by show v7.toInt.toNat = 1; omega), i7_2.2]); refine ⟨⟨⟨by omega, ?_⟩, ?_⟩, by omega, by omega, by omega, by omega, i7_1⟩; (· unfold rwK; omega); (· (first | rw [fitM_eq (show (go 0).toInt = (go 1).toInt by omega)] | rw [fitM_ne (show ¬ (go 0).toInt = (go 1).toInt by omega)]); unfold whR; refine ⟨fun q => ?_, fun q => ?_⟩ <;> first | (exfalso; omega) | (refine ⟨by omega, fun q1 => ?_, fun q1 => ?_⟩ <;> omega)))
              exact hret (v1, ss, v77, v79, mp, v80, v81, tc, gy3, go3, gt) _ _ _ _ dX7_whole_145 hq82 (hP.sub [0, 1, 2, 3] rfl) (hD.sub [0, 1, 2, 3] (by decide) rfl) hS
      ·
        have z4 := zi_nle c4
        refine lv_aload_n hx hb dX7_whole_13 rfl (lv_at hl 0 rfl) ?_
        refine va_get (D := D) (ci := 6) (v := .ref bC) (C := RX7) (T := TX7) (N := 17) hx hb hts in_X7 hown hK hP 0 rfl rfl 7 (by decide) (hts _ wk65) (fun _ h9 => h9) rfl dX7_whole_14 ?_
        refine lv_iload_n hx hb dX7_whole_17 rfl (lv_at hl 1 rfl) ?_
        refine va_iald hx hb hK hP 2 0 rfl rfl (zi_in (by omega)) dX7_whole_18 ?_
        refine lv_topi (fun v83 e83 => ?_)
        refine lv_istore_n (lv' := [(2, .int v83), (0, .ref aM), (1, .int k)]) hx hb dX7_whole_19 rfl hl (by decide) rfl (fun ls hl => ?_)
        refine lv_aload_n hx hb dX7_whole_20 rfl (lv_at hl 1 rfl) ?_
        refine va_get (D := D) (ci := 6) (v := .ref bC) (C := RX7) (T := TX7) (N := 17) hx hb hts in_X7 hown hK hP 0 rfl rfl 7 (by decide) (hts _ wk65) (fun _ h9 => h9) rfl dX7_whole_21 ?_
        refine lv_iload_n hx hb dX7_whole_24 rfl (lv_at hl 2 rfl) ?_
        refine lv_aload_n hx hb dX7_whole_25 rfl (lv_at hl 1 rfl) ?_
        refine lv_iconst (v := 1) hx hb dX7_whole_26 (by decide) ?_
        refine lv_topi (fun v84 e84 => ?_)
        have z84 : v84.toInt = 1 := zi_c e84 (by decide)
        refine lv_iload_n hx hb dX7_whole_27 rfl (lv_at hl 0 rfl) ?_
        have hh85 : 0 ≤ v84.toInt ∧ v84.toInt ≤ 1 := (by omega)
        refine call_i (wc := [(aM, .inr (6, [.int th, .int mw, .ref bG, .int mz, .ref bL, .ref bY, .ref bB, .ref bC, .int v1, .int ss, .int ml, .int mh, .int mp, .int rw, .int wr, .int tc, .ref bT])), (bY, .inl (cI, 116, .inl gy3))]) (wr := [(bC, .inl (cI, 66, .inl go3)), (bT, .inl (cI, 2400, .inl gt))]) (run_V (As := [.int v84, .int v83]) (rest := [.int k, .ref bC]) kv_RX7_66 ⟨by decide, by decide⟩ ⟨rfl, rfl⟩ ⟨hx, hb, hml, hown, hts⟩ (c_Mo_mixed l D cI cJ cB aM bG bL bY bB bC bT th mw mz v1 ss ml mh mp rw wr tc gy3 v84 v83 hh85 _) ct_blind (ct_pre (wc := [(aM, .inr (6, [.int th, .int mw, .ref bG, .int mz, .ref bL, .ref bY, .ref bB, .ref bC, .int v1, .int ss, .int ml, .int mh, .int mp, .int rw, .int wr, .int tc, .ref bT])), (bY, .inl (cI, 116, .inl gy3))]) hK hP hD hS hA hZ hN [0, 1] (by decide) rfl rfl) (va_recv hK hP (ci := 6) (q0 := 0) rfl rfl) rfl hl.1 rfl (Nat.le_of_ble_eq_true rfl) dX7_whole_28 ⟨Nat.le_of_ble_eq_true rfl, Nat.le_of_ble_eq_true rfl⟩) hP hD hS hA [0, 1] [2, 3] rfl rfl (by decide) (by decide) (fun r86 u H locs hw86 hP1 hD1 hS1 => ?_)
        have hw86 : r86 = (v83 ^^^ gy3 (58 * v84.toInt + 38).toNat) ^^^ gy3 (58 * v84.toInt + 57).toNat := hw86
        clear hP hD hS
        have hP : va_P D classes [(bC, .inl (cI, 66, .inl go3)), (bT, .inl (cI, 2400, .inl gt)), (aM, .inr (6, [.int th, .int mw, .ref bG, .int mz, .ref bL, .ref bY, .ref bB, .ref bC, .int v1, .int ss, .int ml, .int mh, .int mp, .int rw, .int wr, .int tc, .ref bT])), (bY, .inl (cI, 116, .inl gy3))] H := hP1
        have hD : va_D A [(bC, .inl (cI, 66, .inl go3)), (bT, .inl (cI, 2400, .inl gt)), (aM, .inr (6, [.int th, .int mw, .ref bG, .int mz, .ref bL, .ref bY, .ref bB, .ref bC, .int v1, .int ss, .int ml, .int mh, .int mp, .int rw, .int wr, .int tc, .ref bT])), (bY, .inl (cI, 116, .inl gy3))] := hD1
        have hS := hS1
        clear hP1 hD1 hS1
        have rg_r86 := zi_rg r86
        obtain ⟨f87, ef87⟩ : ∃ z9, z9 = upd go3 k.toNatClampNeg r86 := ⟨_, rfl⟩
        refine va_iast hx hb hK hP hD hS 0 0 rfl rfl (zi_in (by omega)) dX7_whole_31 (fun H locs hP1 hD1 hS1 => ?_)
        rw [← ef87] at hP1 hD1
        clear hP hD hS
        have hP : va_P D classes [(bC, .inl (cI, 66, .inl f87)), (bT, .inl (cI, 2400, .inl gt)), (aM, .inr (6, [.int th, .int mw, .ref bG, .int mz, .ref bL, .ref bY, .ref bB, .ref bC, .int v1, .int ss, .int ml, .int mh, .int mp, .int rw, .int wr, .int tc, .ref bT])), (bY, .inl (cI, 116, .inl gy3))] H := hP1
        have hD : va_D A [(bC, .inl (cI, 66, .inl f87)), (bT, .inl (cI, 2400, .inl gt)), (aM, .inr (6, [.int th, .int mw, .ref bG, .int mz, .ref bL, .ref bY, .ref bB, .ref bC, .int v1, .int ss, .int ml, .int mh, .int mp, .int rw, .int wr, .int tc, .ref bT])), (bY, .inl (cI, 116, .inl gy3))] := hD1
        have hS := hS1
        clear hP1 hD1 hS1
        refine lv_aload_n hx hb dX7_whole_32 rfl (lv_at hl 1 rfl) ?_
        refine lv_iconst (v := 1) hx hb dX7_whole_33 (by decide) ?_
        refine lv_topi (fun v88 e88 => ?_)
        have z88 : v88.toInt = 1 := zi_c e88 (by decide)
        refine lv_iload_n hx hb dX7_whole_34 rfl (lv_at hl 0 rfl) ?_
        have hh89 : 0 ≤ v88.toInt ∧ v88.toInt ≤ 1 := (by omega)
        refine call_v (wc := [(aM, .inr (6, [.int th, .int mw, .ref bG, .int mz, .ref bL, .ref bY, .ref bB, .ref bC, .int v1, .int ss, .int ml, .int mh, .int mp, .int rw, .int wr, .int tc, .ref bT])), (bY, .inl (cI, 116, .inl gy3))]) (wr := [(bC, .inl (cI, 66, .inl f87)), (bT, .inl (cI, 2400, .inl gt))]) (run_V (As := [.int v88, .int v83]) (rest := []) kv_RX7_70 ⟨by decide, by decide⟩ ⟨rfl, rfl⟩ ⟨hx, hb, hml, hown, hts⟩ (c_Mo_remember l D cI cJ cB aM bG bL bY bB bC bT th mw mz v1 ss ml mh mp rw wr tc gy3 v88 v83 hh89 _) ct_blind (ct_pre (wc := [(aM, .inr (6, [.int th, .int mw, .ref bG, .int mz, .ref bL, .ref bY, .ref bB, .ref bC, .int v1, .int ss, .int ml, .int mh, .int mp, .int rw, .int wr, .int tc, .ref bT])), (bY, .inl (cI, 116, .inl gy3))]) hK hP hD hS hA hZ hN [2, 3] (by decide) rfl rfl) (va_recv hK hP (ci := 6) (q0 := 2) rfl rfl) rfl hl.1 rfl (Nat.le_of_ble_eq_true rfl) dX7_whole_35 ⟨Nat.le_of_ble_eq_true rfl, Nat.le_of_ble_eq_true rfl⟩) hP hD hS hA [2, 3] [0, 1] rfl rfl (by decide) (by decide) (fun u H locs hw90 hP1 hD1 hS1 => ?_)
        obtain ⟨gy2_90, hu9⟩ : ∃ z, z = u := ⟨_, rfl⟩
        subst hu9
        have hw90 : ∀ j : Nat, gy2_90 j = if (j : Int) = 58 * v88.toInt then v83 else if 58 * v88.toInt < j ∧ (j : Int) ≤ 58 * v88.toInt + 57 then gy3 (j - 1) else gy3 j := hw90
        clear hP hD hS
        have hP : va_P D classes [(bC, .inl (cI, 66, .inl f87)), (bT, .inl (cI, 2400, .inl gt)), (aM, .inr (6, [.int th, .int mw, .ref bG, .int mz, .ref bL, .ref bY, .ref bB, .ref bC, .int v1, .int ss, .int ml, .int mh, .int mp, .int rw, .int wr, .int tc, .ref bT])), (bY, .inl (cI, 116, .inl gy2_90))] H := hP1
        have hD : va_D A [(bC, .inl (cI, 66, .inl f87)), (bT, .inl (cI, 2400, .inl gt)), (aM, .inr (6, [.int th, .int mw, .ref bG, .int mz, .ref bL, .ref bY, .ref bB, .ref bC, .int v1, .int ss, .int ml, .int mh, .int mp, .int rw, .int wr, .int tc, .ref bT])), (bY, .inl (cI, 116, .inl gy2_90))] := hD1
        have hS := hS1
        clear hP1 hD1 hS1
        obtain ⟨v91, e91⟩ : ∃ y : Int32, y = k + 1 := ⟨_, rfl⟩
        first | have z91 := zi_inc (z := 1) 1 (by decide) e91 (by omega) | skip
        refine lv_iinc (v := v91) (lv' := [(1, .int v91), (2, .int v83), (0, .ref aM)]) hx hb dX7_whole_38 hl (k := 2) rfl (by rw [e91]; rfl) (by decide) rfl (fun ls hl => ?_)
        refine lv_goto (tgt := 7) hx hb dX7_whole_41 (by decide) ?_
        exact ih7 v91 gy2_90 f87 _ _ _ (by omega) (by omega) (fun j hj => by rw [hw90 j, if_neg (by omega), if_neg (by omega)]; exact i7_1 j hj) (by rw [ef87, pk_un (show (0 : Nat) ≠ k.toNatClampNeg from by show (0 : Nat) ≠ k.toInt.toNat; omega), pk_un (show (1 : Nat) ≠ k.toNatClampNeg from by show (1 : Nat) ≠ k.toInt.toNat; omega)]; exact i7_2) (hP.sub [2, 3, 0, 1] rfl) (hD.sub [2, 3, 0, 1] (by decide) rfl) hS (lv_sub hl [2, 0] rfl)
  exact J7 _ v2 gy go _ _ _ (Nat.lt_succ_self _) (by omega) (fun _ _ => rfl) ⟨rfl, rfl⟩ (hP.sub [0, 1, 2, 3] rfl) (hD.sub [0, 1, 2, 3] (by decide) rfl) hS (lv_sub hl [1, 0] rfl)
