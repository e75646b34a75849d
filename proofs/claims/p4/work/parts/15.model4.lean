set_option maxHeartbeats 4000000 in
set_option maxRecDepth 100000 in
theorem c_Mo_told (l : Launch) (D : va_G) (cI cJ cB : ClassId) (aM : Nat) (bG : Nat) (bL : Nat) (bY : Nat) (bB : Nat) (bC : Nat) (bT : Nat) (th : Int32) (mw : Int32) (mz : Int32) (tk : Int32) (ss : Int32) (ml : Int32) (mh : Int32) (mp : Int32) (rw : Int32) (wr : Int32) (tc : Int32) (gt : Nat → Int32) (i : Int32) (j : Int32) (h1 : 0 ≤ tc.toInt ∧ tc.toInt ≤ 1000000000) :
    cti l yX7_told (wsOf yX7_told cX7_told 3 (some .int)) (rmL 0 0 0 0) D classes (tys3 cI cJ cB) [.ref aM, .int i, .int j] [(aM, .inr (6, [.int th, .int mw, .ref bG, .int mz, .ref bL, .ref bY, .ref bB, .ref bC, .int tk, .int ss, .int ml, .int mh, .int mp, .int rw, .int wr, .int tc, .ref bT])), (bT, .inl (cI, 2400, .inl gt))] (fun (r : Int32) (u : Int32) => tc.toInt = 0 → r.toInt = -1) (fun u : Int32 => ([(aM, .inr (6, [.int u, .int mw, .ref bG, .int mz, .ref bL, .ref bY, .ref bB, .ref bC, .int tk, .int ss, .int ml, .int mh, .int mp, .int rw, .int wr, .int tc, .ref bT])), (bT, .inl (cI, 2400, .inl gt))] : va_W)) := by
  refine cti.of (by first | exact plainFor_of_name (by decide) | decide +kernel) (Nat.le_of_ble_eq_true rfl) (fun p e s m args below meth c A ls Q h hret => ?_)
  obtain ⟨hx, hb, hml, hown, hts, hnm, hP, hK, hD, hA, hS, hZ, hN, hl⟩ := h
  have hown : s.vm.findClass RX7 = some m.cls := hown
  have hl : lv_has ls 3 [(0, .ref aM), (1, .int i), (2, .int j)] := hl
  have hP : va_P D classes [(aM, .inr (6, [.int th, .int mw, .ref bG, .int mz, .ref bL, .ref bY, .ref bB, .ref bC, .int tk, .int ss, .int ml, .int mh, .int mp, .int rw, .int wr, .int tc, .ref bT])), (bT, .inl (cI, 2400, .inl gt))] s.heap := hP
  have hD : va_D A [(aM, .inr (6, [.int th, .int mw, .ref bG, .int mz, .ref bL, .ref bY, .ref bB, .ref bC, .int tk, .int ss, .int ml, .int mh, .int mp, .int rw, .int wr, .int tc, .ref bT])), (bT, .inl (cI, 2400, .inl gt))] := hD
  have rg_th := zi_rg th
  have rg_mw := zi_rg mw
  have rg_mz := zi_rg mz
  have rg_tk := zi_rg tk
  have rg_ss := zi_rg ss
  have rg_ml := zi_rg ml
  have rg_mh := zi_rg mh
  have rg_mp := zi_rg mp
  have rg_rw := zi_rg rw
  have rg_wr := zi_rg wr
  have rg_tc := zi_rg tc
  have rg_i := zi_rg i
  have rg_j := zi_rg j
  refine lv_aload_n hx hb dX7_told_0 rfl (lv_at hl 0 rfl) ?_
  refine lv_iconst (v := 0) hx hb dX7_told_1 (by decide) ?_
  refine lv_topi (fun v1 e1 => ?_)
  have z1 : v1.toInt = 0 := zi_c e1 (by decide)
  refine va_put (D := D) (ci := 6) (v := .int v1) (ty := .int) (C := RX7) (T := TX7) (N := 17) hx hb hts in_X7 tyX7 tyX7_ok nmX7 hown hK hP hD hS 0 rfl rfl 0 (by decide) (hts _ wk163) (fun _ h9 => h9) rfl (by decide +kernel) rfl rfl (Nat.le_of_ble_eq_true rfl) dX7_told_2 (fun H locs hP1 hD1 hS1 => ?_)
  clear hP hD hS
  have hP : va_P D classes [(aM, .inr (6, [.int v1, .int mw, .ref bG, .int mz, .ref bL, .ref bY, .ref bB, .ref bC, .int tk, .int ss, .int ml, .int mh, .int mp, .int rw, .int wr, .int tc, .ref bT])), (bT, .inl (cI, 2400, .inl gt))] H := hP1
  have hD : va_D A [(aM, .inr (6, [.int v1, .int mw, .ref bG, .int mz, .ref bL, .ref bY, .ref bB, .ref bC, .int tk, .int ss, .int ml, .int mh, .int mp, .int rw, .int wr, .int tc, .ref bT])), (bT, .inl (cI, 2400, .inl gt))] := hD1
  have hS := hS1
  clear hP1 hD1 hS1
  refine lv_iload_n hx hb dX7_told_5 rfl (lv_at hl 1 rfl) ?_
  refine lv_if_lt (tgt := 39) hx hb dX7_told_6 (by decide) (fun c2 => ?_) (fun c2 => ?_)
  ·
    have z2 := zi_lt0 c2
    refine lv_iconst (v := -1) hx hb dX7_told_39 (by decide) ?_
    refine lv_topi (fun v3 e3 => ?_)
    have z3 : v3.toInt = (-1) := zi_c e3 (by decide)
    refine lv_goto (tgt := 58) hx hb dX7_told_40 (by decide) ?_
    have hq4 : tc.toInt = 0 → v3.toInt = -1 := (by omega)
    exact hret v3 v1 _ _ _ _ dX7_told_58 hq4 (hP.sub [0, 1] rfl) (hD.sub [0, 1] (by decide) rfl) hS
  ·
    have z2 := zi_nlt0 c2
    refine lv_iload_n hx hb dX7_told_9 rfl (lv_at hl 1 rfl) ?_
    refine lv_aload_n hx hb dX7_told_10 rfl (lv_at hl 0 rfl) ?_
    refine va_get (D := D) (ci := 6) (v := .int tc) (C := RX7) (T := TX7) (N := 17) hx hb hts in_X7 hown hK hP 0 rfl rfl 15 (by decide) (hts _ wk375) (fun _ h9 => h9) rfl dX7_told_11 ?_
    refine lv_icmp_ge (tgt := 39) hx hb dX7_told_14 (by decide) (fun c5 => ?_) (fun c5 => ?_)
    ·
      have z5 := zi_le c5
      refine lv_iconst (v := -1) hx hb dX7_told_39 (by decide) ?_
      refine lv_topi (fun v6 e6 => ?_)
      have z6 : v6.toInt = (-1) := zi_c e6 (by decide)
      refine lv_goto (tgt := 58) hx hb dX7_told_40 (by decide) ?_
      have hq7 : tc.toInt = 0 → v6.toInt = -1 := (by omega)
      exact hret v6 v1 _ _ _ _ dX7_told_58 hq7 (hP.sub [0, 1] rfl) (hD.sub [0, 1] (by decide) rfl) hS
    ·
      have z5 := zi_nle c5
      refine lv_iload_n hx hb dX7_told_17 rfl (lv_at hl 1 rfl) ?_
      refine lv_aload_n hx hb dX7_told_18 rfl (lv_at hl 0 rfl) ?_
      refine va_get (D := D) (ci := 6) (v := .int tc) (C := RX7) (T := TX7) (N := 17) hx hb hts in_X7 hown hK hP 0 rfl rfl 15 (by decide) (hts _ wk375) (fun _ h9 => h9) rfl dX7_told_19 ?_
      refine lv_sipush (v := 300) hx hb dX7_told_22 (by decide) ?_
      refine lv_topi (fun v8 e8 => ?_)
      have z8 : v8.toInt = 300 := zi_c e8 (by decide)
      refine lv_isub hx hb dX7_told_25 ?_
      refine lv_topi (fun v9 e9 => ?_)
      first | have z9 := zi_sub e9 (by omega) | skip
      refine lv_icmp_lt (tgt := 39) hx hb dX7_told_26 (by decide) (fun c10 => ?_) (fun c10 => ?_)
      ·
        have z10 := zi_lt c10
        refine lv_iconst (v := -1) hx hb dX7_told_39 (by decide) ?_
        refine lv_topi (fun v11 e11 => ?_)
        have z11 : v11.toInt = (-1) := zi_c e11 (by decide)
        refine lv_goto (tgt := 58) hx hb dX7_told_40 (by decide) ?_
        have hq12 : tc.toInt = 0 → v11.toInt = -1 := (by omega)
        exact hret v11 v1 _ _ _ _ dX7_told_58 hq12 (hP.sub [0, 1] rfl) (hD.sub [0, 1] (by decide) rfl) hS
      ·
        have z10 := zi_nlt c10
        refine lv_iload_n hx hb dX7_told_29 rfl (lv_at hl 2 rfl) ?_
        refine lv_if_lt (tgt := 39) hx hb dX7_told_30 (by decide) (fun c13 => ?_) (fun c13 => ?_)
        ·
          have z13 := zi_lt0 c13
          refine lv_iconst (v := -1) hx hb dX7_told_39 (by decide) ?_
          refine lv_topi (fun v14 e14 => ?_)
          have z14 : v14.toInt = (-1) := zi_c e14 (by decide)
          refine lv_goto (tgt := 58) hx hb dX7_told_40 (by decide) ?_
          have hq15 : tc.toInt = 0 → v14.toInt = -1 := (by omega)
          exact hret v14 v1 _ _ _ _ dX7_told_58 hq15 (hP.sub [0, 1] rfl) (hD.sub [0, 1] (by decide) rfl) hS
        ·
          have z13 := zi_nlt0 c13
          refine lv_iload_n hx hb dX7_told_33 rfl (lv_at hl 2 rfl) ?_
          refine lv_bipush (v := 7) hx hb dX7_told_34 (by decide) ?_
          refine lv_topi (fun v16 e16 => ?_)
          have z16 : v16.toInt = 7 := zi_c e16 (by decide)
          refine lv_icmp_le (tgt := 43) hx hb dX7_told_36 (by decide) (fun c17 => ?_) (fun c17 => ?_)
          ·
            have z17 := zi_le c17
            refine lv_aload_n hx hb dX7_told_43 rfl (lv_at hl 0 rfl) ?_
            refine va_get (D := D) (ci := 6) (v := .ref bT) (C := RX7) (T := TX7) (N := 17) hx hb hts in_X7 hown hK hP 0 rfl rfl 16 (by decide) (hts _ wk66) (fun _ h9 => h9) rfl dX7_told_44 ?_
            refine lv_bipush (v := 8) hx hb dX7_told_47 (by decide) ?_
            refine lv_topi (fun v18 e18 => ?_)
            have z18 : v18.toInt = 8 := zi_c e18 (by decide)
            refine lv_iload_n hx hb dX7_told_49 rfl (lv_at hl 1 rfl) ?_
            refine lv_sipush (v := 300) hx hb dX7_told_50 (by decide) ?_
            refine lv_topi (fun v19 e19 => ?_)
            have z19 : v19.toInt = 300 := zi_c e19 (by decide)
            refine lv_irem hx hb dX7_told_53 (zi_ne0' (z := 300) (by omega) (by decide)) ?_
            refine lv_topi (fun v20 e20 => ?_)
            first | have z20 := zi_rem (k := 300) e20 (by omega) (by omega) | skip
            refine lv_imul hx hb dX7_told_54 ?_
            refine lv_topi (fun v21 e21 => ?_)
            first | have z21 := zi_mulL (k := 8) e21 (by omega) (by omega) | skip
            refine lv_iload_n hx hb dX7_told_55 rfl (lv_at hl 2 rfl) ?_
            refine lv_iadd hx hb dX7_told_56 ?_
            refine lv_topi (fun v22 e22 => ?_)
            first | have z22 := zi_add e22 (by omega) | skip
            refine va_iald hx hb hK hP 1 0 rfl rfl (zi_in (by omega)) dX7_told_57 ?_
            refine lv_topi (fun v23 e23 => ?_)
            have hq24 : tc.toInt = 0 → v23.toInt = -1 := (by omega)
            exact hret v23 v1 _ _ _ _ dX7_told_58 hq24 (hP.sub [0, 1] rfl) (hD.sub [0, 1] (by decide) rfl) hS
          ·
            have z17 := zi_nle c17
            refine lv_iconst (v := -1) hx hb dX7_told_39 (by decide) ?_
            refine lv_topi (fun v25 e25 => ?_)
            have z25 : v25.toInt = (-1) := zi_c e25 (by decide)
            refine lv_goto (tgt := 58) hx hb dX7_told_40 (by decide) ?_
            have hq26 : tc.toInt = 0 → v25.toInt = -1 := (by omega)
            exact hret v25 v1 _ _ _ _ dX7_told_58 hq26 (hP.sub [0, 1] rfl) (hD.sub [0, 1] (by decide) rfl) hS

set_option maxHeartbeats 4000000 in
set_option maxRecDepth 100000 in
theorem c_Mo_receiver (l : Launch) (D : va_G) (cI cJ cB : ClassId) (aM : Nat) (bG : Nat) (bL : Nat) (bY : Nat) (bB : Nat) (bC : Nat) (bT : Nat) (th : Int32) (mw : Int32) (mz : Int32) (tk : Int32) (ss : Int32) (ml : Int32) (mh : Int32) (mp : Int32) (rw : Int32) (wr : Int32) (tc : Int32) (x : Int32) (h1 : 0 ≤ ml.toInt ∧ ml.toInt ≤ 1) :
    cti l yX7_receiver (wsOf yX7_receiver cX7_receiver 2 (some .int)) (rmL 0 0 0 0) D classes (tys3 cI cJ cB) [.ref aM, .int x] [(aM, .inr (6, [.int th, .int mw, .ref bG, .int mz, .ref bL, .ref bY, .ref bB, .ref bC, .int tk, .int ss, .int ml, .int mh, .int mp, .int rw, .int wr, .int tc, .ref bT]))] (fun (r : Int32) (u : Int32) => (x.toInt = 0 → r.toInt = ml.toInt) ∧ (x.toInt = 1 → r.toInt = mh.toInt) ∧ (x.toInt = 2 → r.toInt = mp.toInt) ∧ (x.toInt = 3 → r.toInt = tk.toInt) ∧ (x.toInt = 4 → r.toInt = tc.toInt) ∧ (x.toInt = 5 → r.toInt = wr.toInt) ∧ ((x.toInt < 0 ∨ 5 < x.toInt) → r.toInt = -12)) (fun u : Int32 => ([(aM, .inr (6, [.int u, .int mw, .ref bG, .int mz, .ref bL, .ref bY, .ref bB, .ref bC, .int tk, .int ss, .int ml, .int mh, .int mp, .int rw, .int wr, .int tc, .ref bT]))] : va_W)) := by
  refine cti.of (by first | exact plainFor_of_name (by decide) | decide +kernel) (Nat.le_of_ble_eq_true rfl) (fun p e s m args below meth c A ls Q h hret => ?_)
  obtain ⟨hx, hb, hml, hown, hts, hnm, hP, hK, hD, hA, hS, hZ, hN, hl⟩ := h
  have hown : s.vm.findClass RX7 = some m.cls := hown
  have hl : lv_has ls 2 [(0, .ref aM), (1, .int x)] := hl
  have hP : va_P D classes [(aM, .inr (6, [.int th, .int mw, .ref bG, .int mz, .ref bL, .ref bY, .ref bB, .ref bC, .int tk, .int ss, .int ml, .int mh, .int mp, .int rw, .int wr, .int tc, .ref bT]))] s.heap := hP
  have hD : va_D A [(aM, .inr (6, [.int th, .int mw, .ref bG, .int mz, .ref bL, .ref bY, .ref bB, .ref bC, .int tk, .int ss, .int ml, .int mh, .int mp, .int rw, .int wr, .int tc, .ref bT]))] := hD
  have rg_th := zi_rg th
  have rg_mw := zi_rg mw
  have rg_mz := zi_rg mz
  have rg_tk := zi_rg tk
  have rg_ss := zi_rg ss
  have rg_ml := zi_rg ml
  have rg_mh := zi_rg mh
  have rg_mp := zi_rg mp
  have rg_rw := zi_rg rw
  have rg_wr := zi_rg wr
  have rg_tc := zi_rg tc
  have rg_x := zi_rg x
  refine lv_aload_n hx hb dX7_receiver_0 rfl (lv_at hl 0 rfl) ?_
  refine lv_iconst (v := 0) hx hb dX7_receiver_1 (by decide) ?_
  refine lv_topi (fun v1 e1 => ?_)
  have z1 : v1.toInt = 0 := zi_c e1 (by decide)
  refine va_put (D := D) (ci := 6) (v := .int v1) (ty := .int) (C := RX7) (T := TX7) (N := 17) hx hb hts in_X7 tyX7 tyX7_ok nmX7 hown hK hP hD hS 0 rfl rfl 0 (by decide) (hts _ wk163) (fun _ h9 => h9) rfl (by decide +kernel) rfl rfl (Nat.le_of_ble_eq_true rfl) dX7_receiver_2 (fun H locs hP1 hD1 hS1 => ?_)
  clear hP hD hS
  have hP : va_P D classes [(aM, .inr (6, [.int v1, .int mw, .ref bG, .int mz, .ref bL, .ref bY, .ref bB, .ref bC, .int tk, .int ss, .int ml, .int mh, .int mp, .int rw, .int wr, .int tc, .ref bT]))] H := hP1
  have hD : va_D A [(aM, .inr (6, [.int v1, .int mw, .ref bG, .int mz, .ref bL, .ref bY, .ref bB, .ref bC, .int tk, .int ss, .int ml, .int mh, .int mp, .int rw, .int wr, .int tc, .ref bT]))] := hD1
  have hS := hS1
  clear hP1 hD1 hS1
  refine lv_iload_n hx hb dX7_receiver_5 rfl (lv_at hl 1 rfl) ?_
  have hs2 : (x.toInt < 0 ∨ 5 < x.toInt) ∨ x.toInt = 0 ∨ x.toInt = 1 ∨ x.toInt = 2 ∨ x.toInt = 3 ∨ x.toInt = 4 ∨ x.toInt = 5 := by omega
  rcases hs2 with z2 | z2 | z2 | z2 | z2 | z2 | z2
  ·
    refine lv_tableOut (tgt := 82) hx hb dX7_receiver_6 z2 (by decide) ?_
    refine lv_bipush (v := -12) hx hb dX7_receiver_82 (by decide) ?_
    refine lv_topi (fun v3 e3 => ?_)
    have z3 : v3.toInt = (-12) := zi_c e3 (by decide)
    have hq4 : (x.toInt = 0 → v3.toInt = ml.toInt) ∧ (x.toInt = 1 → v3.toInt = mh.toInt) ∧ (x.toInt = 2 → v3.toInt = mp.toInt) ∧ (x.toInt = 3 → v3.toInt = tk.toInt) ∧ (x.toInt = 4 → v3.toInt = tc.toInt) ∧ (x.toInt = 5 → v3.toInt = wr.toInt) ∧ ((x.toInt < 0 ∨ 5 < x.toInt) → v3.toInt = -12) := (by omega)
    exact hret v3 v1 _ _ _ _ dX7_receiver_84 hq4 (hP.sub [0] rfl) (hD.sub [0] (by decide) rfl) hS
  ·
    refine lv_tableIn (tgt := 44) hx hb dX7_receiver_6 (by omega) (by omega) (by rw [z2]; rfl) (by decide) ?_
    refine lv_aload_n hx hb dX7_receiver_44 rfl (lv_at hl 0 rfl) ?_
    refine va_get (D := D) (ci := 6) (v := .int ml) (C := RX7) (T := TX7) (N := 17) hx hb hts in_X7 hown hK hP 0 rfl rfl 10 (by decide) (hts _ wk382) (fun _ h9 => h9) rfl dX7_receiver_45 ?_
    refine lv_if_eq (tgt := 55) hx hb dX7_receiver_48 (by decide) (fun c5 => ?_) (fun c5 => ?_)
    ·
      have z5 := zi_eq0 c5
      refine lv_iconst (v := 0) hx hb dX7_receiver_55 (by decide) ?_
      refine lv_topi (fun v6 e6 => ?_)
      have z6 : v6.toInt = 0 := zi_c e6 (by decide)
      have hq7 : (x.toInt = 0 → v6.toInt = ml.toInt) ∧ (x.toInt = 1 → v6.toInt = mh.toInt) ∧ (x.toInt = 2 → v6.toInt = mp.toInt) ∧ (x.toInt = 3 → v6.toInt = tk.toInt) ∧ (x.toInt = 4 → v6.toInt = tc.toInt) ∧ (x.toInt = 5 → v6.toInt = wr.toInt) ∧ ((x.toInt < 0 ∨ 5 < x.toInt) → v6.toInt = -12) := (by omega)
      exact hret v6 v1 _ _ _ _ dX7_receiver_56 hq7 (hP.sub [0] rfl) (hD.sub [0] (by decide) rfl) hS
    ·
      have z5 := zi_ne0 c5
      refine lv_iconst (v := 1) hx hb dX7_receiver_51 (by decide) ?_
      refine lv_topi (fun v8 e8 => ?_)
      have z8 : v8.toInt = 1 := zi_c e8 (by decide)
      refine lv_goto (tgt := 56) hx hb dX7_receiver_52 (by decide) ?_
      have hq9 : (x.toInt = 0 → v8.toInt = ml.toInt) ∧ (x.toInt = 1 → v8.toInt = mh.toInt) ∧ (x.toInt = 2 → v8.toInt = mp.toInt) ∧ (x.toInt = 3 → v8.toInt = tk.toInt) ∧ (x.toInt = 4 → v8.toInt = tc.toInt) ∧ (x.toInt = 5 → v8.toInt = wr.toInt) ∧ ((x.toInt < 0 ∨ 5 < x.toInt) → v8.toInt = -12) := (by omega)
      exact hret v8 v1 _ _ _ _ dX7_receiver_56 hq9 (hP.sub [0] rfl) (hD.sub [0] (by decide) rfl) hS
  ·
    refine lv_tableIn (tgt := 57) hx hb dX7_receiver_6 (by omega) (by omega) (by rw [z2]; rfl) (by decide) ?_
    refine lv_aload_n hx hb dX7_receiver_57 rfl (lv_at hl 0 rfl) ?_
    refine va_get (D := D) (ci := 6) (v := .int mh) (C := RX7) (T := TX7) (N := 17) hx hb hts in_X7 hown hK hP 0 rfl rfl 11 (by decide) (hts _ wk383) (fun _ h9 => h9) rfl dX7_receiver_58 ?_
    have hq10 : (x.toInt = 0 → mh.toInt = ml.toInt) ∧ (x.toInt = 1 → mh.toInt = mh.toInt) ∧ (x.toInt = 2 → mh.toInt = mp.toInt) ∧ (x.toInt = 3 → mh.toInt = tk.toInt) ∧ (x.toInt = 4 → mh.toInt = tc.toInt) ∧ (x.toInt = 5 → mh.toInt = wr.toInt) ∧ ((x.toInt < 0 ∨ 5 < x.toInt) → mh.toInt = -12) := (by omega)
    exact hret mh v1 _ _ _ _ dX7_receiver_61 hq10 (hP.sub [0] rfl) (hD.sub [0] (by decide) rfl) hS
  ·
    refine lv_tableIn (tgt := 62) hx hb dX7_receiver_6 (by omega) (by omega) (by rw [z2]; rfl) (by decide) ?_
    refine lv_aload_n hx hb dX7_receiver_62 rfl (lv_at hl 0 rfl) ?_
    refine va_get (D := D) (ci := 6) (v := .int mp) (C := RX7) (T := TX7) (N := 17) hx hb hts in_X7 hown hK hP 0 rfl rfl 12 (by decide) (hts _ wk390) (fun _ h9 => h9) rfl dX7_receiver_63 ?_
    have hq11 : (x.toInt = 0 → mp.toInt = ml.toInt) ∧ (x.toInt = 1 → mp.toInt = mh.toInt) ∧ (x.toInt = 2 → mp.toInt = mp.toInt) ∧ (x.toInt = 3 → mp.toInt = tk.toInt) ∧ (x.toInt = 4 → mp.toInt = tc.toInt) ∧ (x.toInt = 5 → mp.toInt = wr.toInt) ∧ ((x.toInt < 0 ∨ 5 < x.toInt) → mp.toInt = -12) := (by omega)
    exact hret mp v1 _ _ _ _ dX7_receiver_66 hq11 (hP.sub [0] rfl) (hD.sub [0] (by decide) rfl) hS
  ·
    refine lv_tableIn (tgt := 67) hx hb dX7_receiver_6 (by omega) (by omega) (by rw [z2]; rfl) (by decide) ?_
    refine lv_aload_n hx hb dX7_receiver_67 rfl (lv_at hl 0 rfl) ?_
    refine va_get (D := D) (ci := 6) (v := .int tk) (C := RX7) (T := TX7) (N := 17) hx hb hts in_X7 hown hK hP 0 rfl rfl 8 (by decide) (hts _ wk377) (fun _ h9 => h9) rfl dX7_receiver_68 ?_
    have hq12 : (x.toInt = 0 → tk.toInt = ml.toInt) ∧ (x.toInt = 1 → tk.toInt = mh.toInt) ∧ (x.toInt = 2 → tk.toInt = mp.toInt) ∧ (x.toInt = 3 → tk.toInt = tk.toInt) ∧ (x.toInt = 4 → tk.toInt = tc.toInt) ∧ (x.toInt = 5 → tk.toInt = wr.toInt) ∧ ((x.toInt < 0 ∨ 5 < x.toInt) → tk.toInt = -12) := (by omega)
    exact hret tk v1 _ _ _ _ dX7_receiver_71 hq12 (hP.sub [0] rfl) (hD.sub [0] (by decide) rfl) hS
  ·
    refine lv_tableIn (tgt := 72) hx hb dX7_receiver_6 (by omega) (by omega) (by rw [z2]; rfl) (by decide) ?_
    refine lv_aload_n hx hb dX7_receiver_72 rfl (lv_at hl 0 rfl) ?_
    refine va_get (D := D) (ci := 6) (v := .int tc) (C := RX7) (T := TX7) (N := 17) hx hb hts in_X7 hown hK hP 0 rfl rfl 15 (by decide) (hts _ wk375) (fun _ h9 => h9) rfl dX7_receiver_73 ?_
    have hq13 : (x.toInt = 0 → tc.toInt = ml.toInt) ∧ (x.toInt = 1 → tc.toInt = mh.toInt) ∧ (x.toInt = 2 → tc.toInt = mp.toInt) ∧ (x.toInt = 3 → tc.toInt = tk.toInt) ∧ (x.toInt = 4 → tc.toInt = tc.toInt) ∧ (x.toInt = 5 → tc.toInt = wr.toInt) ∧ ((x.toInt < 0 ∨ 5 < x.toInt) → tc.toInt = -12) := (by omega)
    exact hret tc v1 _ _ _ _ dX7_receiver_76 hq13 (hP.sub [0] rfl) (hD.sub [0] (by decide) rfl) hS
  ·
    refine lv_tableIn (tgt := 77) hx hb dX7_receiver_6 (by omega) (by omega) (by rw [z2]; rfl) (by decide) ?_
    refine lv_aload_n hx hb dX7_receiver_77 rfl (lv_at hl 0 rfl) ?_
    refine va_get (D := D) (ci := 6) (v := .int wr) (C := RX7) (T := TX7) (N := 17) hx hb hts in_X7 hown hK hP 0 rfl rfl 14 (by decide) (hts _ wk385) (fun _ h9 => h9) rfl dX7_receiver_78 ?_
    have hq14 : (x.toInt = 0 → wr.toInt = ml.toInt) ∧ (x.toInt = 1 → wr.toInt = mh.toInt) ∧ (x.toInt = 2 → wr.toInt = mp.toInt) ∧ (x.toInt = 3 → wr.toInt = tk.toInt) ∧ (x.toInt = 4 → wr.toInt = tc.toInt) ∧ (x.toInt = 5 → wr.toInt = wr.toInt) ∧ ((x.toInt < 0 ∨ 5 < x.toInt) → wr.toInt = -12) := (by omega)
    exact hret wr v1 _ _ _ _ dX7_receiver_81 hq14 (hP.sub [0] rfl) (hD.sub [0] (by decide) rfl) hS

set_option maxHeartbeats 4000000 in
set_option maxRecDepth 100000 in
theorem c_Mo_init (l : Launch) (D : va_G) (cI cJ cB : ClassId) (aM : Nat)  :
    ctv l yX7_init (wsOf yX7_init cX7_init 1 none) (rmL 1 24 6 11856) D classes (tys3 cI cJ cB) [.ref aM] [(aM, .inr (6, [.int 0, .int 0, .null, .int 0, .null, .null, .null, .null, .int 0, .int 0, .int 0, .int 0, .int 0, .int 0, .int 0, .int 0, .null]))] (fun u : Int32 × Nat × Nat × Nat × Nat × Nat × Nat => u.1.toInt = 0) (fun u : Int32 × Nat × Nat × Nat × Nat × Nat × Nat => ([(aM, .inr (6, [.int 0, .int 0, .ref u.2.1, .int u.1, .ref u.2.2.1, .ref u.2.2.2.1, .ref u.2.2.2.2.1, .ref u.2.2.2.2.2.1, .int 0, .int 0, .int 0, .int 0, .int 0, .int 0, .int 0, .int 0, .ref u.2.2.2.2.2.2])), (u.2.1, .inl (cI, 8, .inl (fun _ => 0))), (u.2.2.1, .inl (cB, 9200, .inl (fun _ => 0))), (u.2.2.2.1, .inl (cI, 116, .inl (fun _ => 0))), (u.2.2.2.2.1, .inl (cI, 66, .inl (fun _ => 0))), (u.2.2.2.2.2.1, .inl (cI, 66, .inl (fun _ => 0))), (u.2.2.2.2.2.2, .inl (cI, 2400, .inl (fun _ => 0)))] : va_W)) 6 11856 := by
  refine ctv.of (by first | exact plainFor_of_name (by decide) | decide +kernel) (Nat.le_of_ble_eq_true rfl) (fun p e s m args below meth c A ls Q h hret => ?_)
  obtain ⟨hx, hb, hml, hown, hts, hnm, hP, hK, hD, hA, hS, hZ, hN, hl⟩ := h
  have hown : s.vm.findClass RX7 = some m.cls := hown
  have hl : lv_has ls 1 [(0, .ref aM)] := hl
  have hP : va_P D classes [(aM, .inr (6, [.int 0, .int 0, .null, .int 0, .null, .null, .null, .null, .int 0, .int 0, .int 0, .int 0, .int 0, .int 0, .int 0, .int 0, .null]))] s.heap := hP
  have hD : va_D A [(aM, .inr (6, [.int 0, .int 0, .null, .int 0, .null, .null, .null, .null, .int 0, .int 0, .int 0, .int 0, .int 0, .int 0, .int 0, .int 0, .null]))] := hD
  refine lv_aload_n hx hb dX7_init_0 rfl (lv_at hl 0 rfl) ?_
  refine W.objInit hx hb hown (hts _ wk59) (hts _ wk11) (hts _ wk12) rfl (by rw [hml]; exact hl.1) rfl dX7_init_1 (Nat.le_of_ble_eq_true rfl) (Nat.le_of_ble_eq_true rfl) ?_
  refine W.eq (g2 := F0 m 4 ls []) rfl ?_
  refine lv_aload_n hx hb dX7_init_4 rfl (lv_at hl 0 rfl) ?_
  refine lv_bipush (v := 8) hx hb dX7_init_5 (by decide) ?_
  refine lv_topi (fun v1 e1 => ?_)
  have z1 : v1.toInt = 8 := zi_c e1 (by decide)
  refine va_newa (a0 := (8, .inl (fun _ => 0))) (atype := .int) (ty := .int) hx hb (hts _ wk37) rfl hK hP hD hS hA (fun _ => rfl) (by rw [e1]; decide) (by rw [e1]; decide) (by decide) (Nat.le_of_ble_eq_true rfl) (Nat.le_of_ble_eq_true rfl) dX7_init_7 (fun q2 cN H hK9 hP1 hD1 hS1 => ?_)
  have hcN : cN = cI := ty3_eq 0 3 hK9 rfl rfl rfl rfl
  rw [hcN] at hP1 hD1
  clear hK9
  clear hP hD hS
  have hP : va_P D classes [(aM, .inr (6, [.int 0, .int 0, .null, .int 0, .null, .null, .null, .null, .int 0, .int 0, .int 0, .int 0, .int 0, .int 0, .int 0, .int 0, .null])), (q2, .inl (cI, 8, .inl (fun _ => 0)))] H := hP1
  have hD : va_D A [(aM, .inr (6, [.int 0, .int 0, .null, .int 0, .null, .null, .null, .null, .int 0, .int 0, .int 0, .int 0, .int 0, .int 0, .int 0, .int 0, .null])), (q2, .inl (cI, 8, .inl (fun _ => 0)))] := hD1
  have hS := hS1
  clear hP1 hD1 hS1
  refine W.widen (k := 1) (n := 8) (Nat.le_refl _) (Nat.le_refl _) ?_
  refine va_putF (D := D) (ci := 6) (v := .ref q2) (ty := (.array .int)) (C := RX7) (T := TX7) (N := 17) hx hb hts in_X7 tyX7 tyX7_ok nmX7 hown hK hP hD hS 0 rfl rfl 2 (by decide) (hts _ wk60) (fun _ h9 => h9) rfl hnm rfl (by decide +kernel) rfl rfl (Nat.le_of_ble_eq_true rfl) dX7_init_9 (fun H locs hP1 hD1 hS1 => ?_)
  clear hP hD hS
  have hP : va_P D classes [(aM, .inr (6, [.int 0, .int 0, .ref q2, .int 0, .null, .null, .null, .null, .int 0, .int 0, .int 0, .int 0, .int 0, .int 0, .int 0, .int 0, .null])), (q2, .inl (cI, 8, .inl (fun _ => 0)))] H := hP1
  have hD : va_D A [(aM, .inr (6, [.int 0, .int 0, .ref q2, .int 0, .null, .null, .null, .null, .int 0, .int 0, .int 0, .int 0, .int 0, .int 0, .int 0, .int 0, .null])), (q2, .inl (cI, 8, .inl (fun _ => 0)))] := hD1
  have hS := hS1
  clear hP1 hD1 hS1
  refine lv_aload_n hx hb dX7_init_12 rfl (lv_at hl 0 rfl) ?_
  refine lv_sipush (v := 9200) hx hb dX7_init_13 (by decide) ?_
  refine lv_topi (fun v3 e3 => ?_)
  have z3 : v3.toInt = 9200 := zi_c e3 (by decide)
  refine va_newa (a0 := (9200, .inl (fun _ => 0))) (atype := .byte) (ty := .byte) hx hb (hts _ wk61) rfl hK hP hD hS hA (fun _ => rfl) (by rw [e3]; decide) (by rw [e3]; decide) (by decide) (Nat.le_of_ble_eq_true rfl) (Nat.le_of_ble_eq_true rfl) dX7_init_16 (fun q4 cN H hK9 hP1 hD1 hS1 => ?_)
  have hcN : cN = cB := ty3_eq 2 3 hK9 rfl rfl rfl rfl
  rw [hcN] at hP1 hD1
  clear hK9
  clear hP hD hS
  have hP : va_P D classes [(aM, .inr (6, [.int 0, .int 0, .ref q2, .int 0, .null, .null, .null, .null, .int 0, .int 0, .int 0, .int 0, .int 0, .int 0, .int 0, .int 0, .null])), (q2, .inl (cI, 8, .inl (fun _ => 0))), (q4, .inl (cB, 9200, .inl (fun _ => 0)))] H := hP1
  have hD : va_D A [(aM, .inr (6, [.int 0, .int 0, .ref q2, .int 0, .null, .null, .null, .null, .int 0, .int 0, .int 0, .int 0, .int 0, .int 0, .int 0, .int 0, .null])), (q2, .inl (cI, 8, .inl (fun _ => 0))), (q4, .inl (cB, 9200, .inl (fun _ => 0)))] := hD1
  have hS := hS1
  clear hP1 hD1 hS1
  refine W.widen (k := 2) (n := 9208) (Nat.le_refl _) (Nat.le_refl _) ?_
  refine va_putF (D := D) (ci := 6) (v := .ref q4) (ty := (.array .byte)) (C := RX7) (T := TX7) (N := 17) hx hb hts in_X7 tyX7 tyX7_ok nmX7 hown hK hP hD hS 0 rfl rfl 4 (by decide) (hts _ wk62) (fun _ h9 => h9) rfl hnm rfl (by decide +kernel) rfl rfl (Nat.le_of_ble_eq_true rfl) dX7_init_18 (fun H locs hP1 hD1 hS1 => ?_)
  clear hP hD hS
  have hP : va_P D classes [(aM, .inr (6, [.int 0, .int 0, .ref q2, .int 0, .ref q4, .null, .null, .null, .int 0, .int 0, .int 0, .int 0, .int 0, .int 0, .int 0, .int 0, .null])), (q2, .inl (cI, 8, .inl (fun _ => 0))), (q4, .inl (cB, 9200, .inl (fun _ => 0)))] H := hP1
  have hD : va_D A [(aM, .inr (6, [.int 0, .int 0, .ref q2, .int 0, .ref q4, .null, .null, .null, .int 0, .int 0, .int 0, .int 0, .int 0, .int 0, .int 0, .int 0, .null])), (q2, .inl (cI, 8, .inl (fun _ => 0))), (q4, .inl (cB, 9200, .inl (fun _ => 0)))] := hD1
  have hS := hS1
  clear hP1 hD1 hS1
  refine lv_aload_n hx hb dX7_init_21 rfl (lv_at hl 0 rfl) ?_
  refine lv_bipush (v := 116) hx hb dX7_init_22 (by decide) ?_
  refine lv_topi (fun v5 e5 => ?_)
  have z5 : v5.toInt = 116 := zi_c e5 (by decide)
  refine va_newa (a0 := (116, .inl (fun _ => 0))) (atype := .int) (ty := .int) hx hb (hts _ wk37) rfl hK hP hD hS hA (fun _ => rfl) (by rw [e5]; decide) (by rw [e5]; decide) (by decide) (Nat.le_of_ble_eq_true rfl) (Nat.le_of_ble_eq_true rfl) dX7_init_24 (fun q6 cN H hK9 hP1 hD1 hS1 => ?_)
  have hcN : cN = cI := ty3_eq 0 3 hK9 rfl rfl rfl rfl
  rw [hcN] at hP1 hD1
  clear hK9
  clear hP hD hS
  have hP : va_P D classes [(aM, .inr (6, [.int 0, .int 0, .ref q2, .int 0, .ref q4, .null, .null, .null, .int 0, .int 0, .int 0, .int 0, .int 0, .int 0, .int 0, .int 0, .null])), (q2, .inl (cI, 8, .inl (fun _ => 0))), (q4, .inl (cB, 9200, .inl (fun _ => 0))), (q6, .inl (cI, 116, .inl (fun _ => 0)))] H := hP1
  have hD : va_D A [(aM, .inr (6, [.int 0, .int 0, .ref q2, .int 0, .ref q4, .null, .null, .null, .int 0, .int 0, .int 0, .int 0, .int 0, .int 0, .int 0, .int 0, .null])), (q2, .inl (cI, 8, .inl (fun _ => 0))), (q4, .inl (cB, 9200, .inl (fun _ => 0))), (q6, .inl (cI, 116, .inl (fun _ => 0)))] := hD1
  have hS := hS1
  clear hP1 hD1 hS1
  refine W.widen (k := 3) (n := 9324) (Nat.le_refl _) (Nat.le_refl _) ?_
  refine va_putF (D := D) (ci := 6) (v := .ref q6) (ty := (.array .int)) (C := RX7) (T := TX7) (N := 17) hx hb hts in_X7 tyX7 tyX7_ok nmX7 hown hK hP hD hS 0 rfl rfl 5 (by decide) (hts _ wk63) (fun _ h9 => h9) rfl hnm rfl (by decide +kernel) rfl rfl (Nat.le_of_ble_eq_true rfl) dX7_init_26 (fun H locs hP1 hD1 hS1 => ?_)
  clear hP hD hS
  have hP : va_P D classes [(aM, .inr (6, [.int 0, .int 0, .ref q2, .int 0, .ref q4, .ref q6, .null, .null, .int 0, .int 0, .int 0, .int 0, .int 0, .int 0, .int 0, .int 0, .null])), (q2, .inl (cI, 8, .inl (fun _ => 0))), (q4, .inl (cB, 9200, .inl (fun _ => 0))), (q6, .inl (cI, 116, .inl (fun _ => 0)))] H := hP1
  have hD : va_D A [(aM, .inr (6, [.int 0, .int 0, .ref q2, .int 0, .ref q4, .ref q6, .null, .null, .int 0, .int 0, .int 0, .int 0, .int 0, .int 0, .int 0, .int 0, .null])), (q2, .inl (cI, 8, .inl (fun _ => 0))), (q4, .inl (cB, 9200, .inl (fun _ => 0))), (q6, .inl (cI, 116, .inl (fun _ => 0)))] := hD1
  have hS := hS1
  clear hP1 hD1 hS1
  refine lv_aload_n hx hb dX7_init_29 rfl (lv_at hl 0 rfl) ?_
  refine lv_bipush (v := 66) hx hb dX7_init_30 (by decide) ?_
  refine lv_topi (fun v7 e7 => ?_)
  have z7 : v7.toInt = 66 := zi_c e7 (by decide)
  refine va_newa (a0 := (66, .inl (fun _ => 0))) (atype := .int) (ty := .int) hx hb (hts _ wk37) rfl hK hP hD hS hA (fun _ => rfl) (by rw [e7]; decide) (by rw [e7]; decide) (by decide) (Nat.le_of_ble_eq_true rfl) (Nat.le_of_ble_eq_true rfl) dX7_init_32 (fun q8 cN H hK9 hP1 hD1 hS1 => ?_)
  have hcN : cN = cI := ty3_eq 0 3 hK9 rfl rfl rfl rfl
  rw [hcN] at hP1 hD1
  clear hK9
  clear hP hD hS
  have hP : va_P D classes [(aM, .inr (6, [.int 0, .int 0, .ref q2, .int 0, .ref q4, .ref q6, .null, .null, .int 0, .int 0, .int 0, .int 0, .int 0, .int 0, .int 0, .int 0, .null])), (q2, .inl (cI, 8, .inl (fun _ => 0))), (q4, .inl (cB, 9200, .inl (fun _ => 0))), (q6, .inl (cI, 116, .inl (fun _ => 0))), (q8, .inl (cI, 66, .inl (fun _ => 0)))] H := hP1
  have hD : va_D A [(aM, .inr (6, [.int 0, .int 0, .ref q2, .int 0, .ref q4, .ref q6, .null, .null, .int 0, .int 0, .int 0, .int 0, .int 0, .int 0, .int 0, .int 0, .null])), (q2, .inl (cI, 8, .inl (fun _ => 0))), (q4, .inl (cB, 9200, .inl (fun _ => 0))), (q6, .inl (cI, 116, .inl (fun _ => 0))), (q8, .inl (cI, 66, .inl (fun _ => 0)))] := hD1
  have hS := hS1
  clear hP1 hD1 hS1
  refine W.widen (k := 4) (n := 9390) (Nat.le_refl _) (Nat.le_refl _) ?_
  refine va_putF (D := D) (ci := 6) (v := .ref q8) (ty := (.array .int)) (C := RX7) (T := TX7) (N := 17) hx hb hts in_X7 tyX7 tyX7_ok nmX7 hown hK hP hD hS 0 rfl rfl 6 (by decide) (hts _ wk64) (fun _ h9 => h9) rfl hnm rfl (by decide +kernel) rfl rfl (Nat.le_of_ble_eq_true rfl) dX7_init_34 (fun H locs hP1 hD1 hS1 => ?_)
  clear hP hD hS
  have hP : va_P D classes [(aM, .inr (6, [.int 0, .int 0, .ref q2, .int 0, .ref q4, .ref q6, .ref q8, .null, .int 0, .int 0, .int 0, .int 0, .int 0, .int 0, .int 0, .int 0, .null])), (q2, .inl (cI, 8, .inl (fun _ => 0))), (q4, .inl (cB, 9200, .inl (fun _ => 0))), (q6, .inl (cI, 116, .inl (fun _ => 0))), (q8, .inl (cI, 66, .inl (fun _ => 0)))] H := hP1
  have hD : va_D A [(aM, .inr (6, [.int 0, .int 0, .ref q2, .int 0, .ref q4, .ref q6, .ref q8, .null, .int 0, .int 0, .int 0, .int 0, .int 0, .int 0, .int 0, .int 0, .null])), (q2, .inl (cI, 8, .inl (fun _ => 0))), (q4, .inl (cB, 9200, .inl (fun _ => 0))), (q6, .inl (cI, 116, .inl (fun _ => 0))), (q8, .inl (cI, 66, .inl (fun _ => 0)))] := hD1
  have hS := hS1
  clear hP1 hD1 hS1
  refine lv_aload_n hx hb dX7_init_37 rfl (lv_at hl 0 rfl) ?_
  refine lv_bipush (v := 66) hx hb dX7_init_38 (by decide) ?_
  refine lv_topi (fun v9 e9 => ?_)
  have z9 : v9.toInt = 66 := zi_c e9 (by decide)
  refine va_newa (a0 := (66, .inl (fun _ => 0))) (atype := .int) (ty := .int) hx hb (hts _ wk37) rfl hK hP hD hS hA (fun _ => rfl) (by rw [e9]; decide) (by rw [e9]; decide) (by decide) (Nat.le_of_ble_eq_true rfl) (Nat.le_of_ble_eq_true rfl) dX7_init_40 (fun q10 cN H hK9 hP1 hD1 hS1 => ?_)
  have hcN : cN = cI := ty3_eq 0 3 hK9 rfl rfl rfl rfl
  rw [hcN] at hP1 hD1
  clear hK9
  clear hP hD hS
  have hP : va_P D classes [(aM, .inr (6, [.int 0, .int 0, .ref q2, .int 0, .ref q4, .ref q6, .ref q8, .null, .int 0, .int 0, .int 0, .int 0, .int 0, .int 0, .int 0, .int 0, .null])), (q2, .inl (cI, 8, .inl (fun _ => 0))), (q4, .inl (cB, 9200, .inl (fun _ => 0))), (q6, .inl (cI, 116, .inl (fun _ => 0))), (q8, .inl (cI, 66, .inl (fun _ => 0))), (q10, .inl (cI, 66, .inl (fun _ => 0)))] H := hP1
  have hD : va_D A [(aM, .inr (6, [.int 0, .int 0, .ref q2, .int 0, .ref q4, .ref q6, .ref q8, .null, .int 0, .int 0, .int 0, .int 0, .int 0, .int 0, .int 0, .int 0, .null])), (q2, .inl (cI, 8, .inl (fun _ => 0))), (q4, .inl (cB, 9200, .inl (fun _ => 0))), (q6, .inl (cI, 116, .inl (fun _ => 0))), (q8, .inl (cI, 66, .inl (fun _ => 0))), (q10, .inl (cI, 66, .inl (fun _ => 0)))] := hD1
  have hS := hS1
  clear hP1 hD1 hS1
  refine W.widen (k := 5) (n := 9456) (Nat.le_refl _) (Nat.le_refl _) ?_
  refine va_putF (D := D) (ci := 6) (v := .ref q10) (ty := (.array .int)) (C := RX7) (T := TX7) (N := 17) hx hb hts in_X7 tyX7 tyX7_ok nmX7 hown hK hP hD hS 0 rfl rfl 7 (by decide) (hts _ wk65) (fun _ h9 => h9) rfl hnm rfl (by decide +kernel) rfl rfl (Nat.le_of_ble_eq_true rfl) dX7_init_42 (fun H locs hP1 hD1 hS1 => ?_)
  clear hP hD hS
  have hP : va_P D classes [(aM, .inr (6, [.int 0, .int 0, .ref q2, .int 0, .ref q4, .ref q6, .ref q8, .ref q10, .int 0, .int 0, .int 0, .int 0, .int 0, .int 0, .int 0, .int 0, .null])), (q2, .inl (cI, 8, .inl (fun _ => 0))), (q4, .inl (cB, 9200, .inl (fun _ => 0))), (q6, .inl (cI, 116, .inl (fun _ => 0))), (q8, .inl (cI, 66, .inl (fun _ => 0))), (q10, .inl (cI, 66, .inl (fun _ => 0)))] H := hP1
  have hD : va_D A [(aM, .inr (6, [.int 0, .int 0, .ref q2, .int 0, .ref q4, .ref q6, .ref q8, .ref q10, .int 0, .int 0, .int 0, .int 0, .int 0, .int 0, .int 0, .int 0, .null])), (q2, .inl (cI, 8, .inl (fun _ => 0))), (q4, .inl (cB, 9200, .inl (fun _ => 0))), (q6, .inl (cI, 116, .inl (fun _ => 0))), (q8, .inl (cI, 66, .inl (fun _ => 0))), (q10, .inl (cI, 66, .inl (fun _ => 0)))] := hD1
  have hS := hS1
  clear hP1 hD1 hS1
  refine lv_aload_n hx hb dX7_init_45 rfl (lv_at hl 0 rfl) ?_
  refine lv_sipush (v := 2400) hx hb dX7_init_46 (by decide) ?_
  refine lv_topi (fun v11 e11 => ?_)
  have z11 : v11.toInt = 2400 := zi_c e11 (by decide)
  refine va_newa (a0 := (2400, .inl (fun _ => 0))) (atype := .int) (ty := .int) hx hb (hts _ wk37) rfl hK hP hD hS hA (fun _ => rfl) (by rw [e11]; decide) (by rw [e11]; decide) (by decide) (Nat.le_of_ble_eq_true rfl) (Nat.le_of_ble_eq_true rfl) dX7_init_49 (fun q12 cN H hK9 hP1 hD1 hS1 => ?_)
  have hcN : cN = cI := ty3_eq 0 3 hK9 rfl rfl rfl rfl
  rw [hcN] at hP1 hD1
  clear hK9
  clear hP hD hS
  have hP : va_P D classes [(aM, .inr (6, [.int 0, .int 0, .ref q2, .int 0, .ref q4, .ref q6, .ref q8, .ref q10, .int 0, .int 0, .int 0, .int 0, .int 0, .int 0, .int 0, .int 0, .null])), (q2, .inl (cI, 8, .inl (fun _ => 0))), (q4, .inl (cB, 9200, .inl (fun _ => 0))), (q6, .inl (cI, 116, .inl (fun _ => 0))), (q8, .inl (cI, 66, .inl (fun _ => 0))), (q10, .inl (cI, 66, .inl (fun _ => 0))), (q12, .inl (cI, 2400, .inl (fun _ => 0)))] H := hP1
  have hD : va_D A [(aM, .inr (6, [.int 0, .int 0, .ref q2, .int 0, .ref q4, .ref q6, .ref q8, .ref q10, .int 0, .int 0, .int 0, .int 0, .int 0, .int 0, .int 0, .int 0, .null])), (q2, .inl (cI, 8, .inl (fun _ => 0))), (q4, .inl (cB, 9200, .inl (fun _ => 0))), (q6, .inl (cI, 116, .inl (fun _ => 0))), (q8, .inl (cI, 66, .inl (fun _ => 0))), (q10, .inl (cI, 66, .inl (fun _ => 0))), (q12, .inl (cI, 2400, .inl (fun _ => 0)))] := hD1
  have hS := hS1
  clear hP1 hD1 hS1
  refine W.widen (k := 6) (n := 11856) (Nat.le_refl _) (Nat.le_refl _) ?_
  refine va_putF (D := D) (ci := 6) (v := .ref q12) (ty := (.array .int)) (C := RX7) (T := TX7) (N := 17) hx hb hts in_X7 tyX7 tyX7_ok nmX7 hown hK hP hD hS 0 rfl rfl 16 (by decide) (hts _ wk66) (fun _ h9 => h9) rfl hnm rfl (by decide +kernel) rfl rfl (Nat.le_of_ble_eq_true rfl) dX7_init_51 (fun H locs hP1 hD1 hS1 => ?_)
  clear hP hD hS
  have hP : va_P D classes [(aM, .inr (6, [.int 0, .int 0, .ref q2, .int 0, .ref q4, .ref q6, .ref q8, .ref q10, .int 0, .int 0, .int 0, .int 0, .int 0, .int 0, .int 0, .int 0, .ref q12])), (q2, .inl (cI, 8, .inl (fun _ => 0))), (q4, .inl (cB, 9200, .inl (fun _ => 0))), (q6, .inl (cI, 116, .inl (fun _ => 0))), (q8, .inl (cI, 66, .inl (fun _ => 0))), (q10, .inl (cI, 66, .inl (fun _ => 0))), (q12, .inl (cI, 2400, .inl (fun _ => 0)))] H := hP1
  have hD : va_D A [(aM, .inr (6, [.int 0, .int 0, .ref q2, .int 0, .ref q4, .ref q6, .ref q8, .ref q10, .int 0, .int 0, .int 0, .int 0, .int 0, .int 0, .int 0, .int 0, .ref q12])), (q2, .inl (cI, 8, .inl (fun _ => 0))), (q4, .inl (cB, 9200, .inl (fun _ => 0))), (q6, .inl (cI, 116, .inl (fun _ => 0))), (q8, .inl (cI, 66, .inl (fun _ => 0))), (q10, .inl (cI, 66, .inl (fun _ => 0))), (q12, .inl (cI, 2400, .inl (fun _ => 0)))] := hD1
  have hS := hS1
  clear hP1 hD1 hS1
  refine lv_aload_n hx hb dX7_init_54 rfl (lv_at hl 0 rfl) ?_
  refine lv_iconst (v := 0) hx hb dX7_init_55 (by decide) ?_
  refine lv_topi (fun v13 e13 => ?_)
  have z13 : v13.toInt = 0 := zi_c e13 (by decide)
  refine va_put (D := D) (ci := 6) (v := .int v13) (ty := .int) (C := RX7) (T := TX7) (N := 17) hx hb hts in_X7 tyX7 tyX7_ok nmX7 hown hK hP hD hS 0 rfl rfl 3 (by decide) (hts _ wk67) (fun _ h9 => h9) rfl (by decide +kernel) rfl rfl (Nat.le_of_ble_eq_true rfl) dX7_init_56 (fun H locs hP1 hD1 hS1 => ?_)
  clear hP hD hS
  have hP : va_P D classes [(aM, .inr (6, [.int 0, .int 0, .ref q2, .int v13, .ref q4, .ref q6, .ref q8, .ref q10, .int 0, .int 0, .int 0, .int 0, .int 0, .int 0, .int 0, .int 0, .ref q12])), (q2, .inl (cI, 8, .inl (fun _ => 0))), (q4, .inl (cB, 9200, .inl (fun _ => 0))), (q6, .inl (cI, 116, .inl (fun _ => 0))), (q8, .inl (cI, 66, .inl (fun _ => 0))), (q10, .inl (cI, 66, .inl (fun _ => 0))), (q12, .inl (cI, 2400, .inl (fun _ => 0)))] H := hP1
  have hD : va_D A [(aM, .inr (6, [.int 0, .int 0, .ref q2, .int v13, .ref q4, .ref q6, .ref q8, .ref q10, .int 0, .int 0, .int 0, .int 0, .int 0, .int 0, .int 0, .int 0, .ref q12])), (q2, .inl (cI, 8, .inl (fun _ => 0))), (q4, .inl (cB, 9200, .inl (fun _ => 0))), (q6, .inl (cI, 116, .inl (fun _ => 0))), (q8, .inl (cI, 66, .inl (fun _ => 0))), (q10, .inl (cI, 66, .inl (fun _ => 0))), (q12, .inl (cI, 2400, .inl (fun _ => 0)))] := hD1
  have hS := hS1
  clear hP1 hD1 hS1
  have hq14 : v13.toInt = 0 := (by omega)
  exact hret (v13, q2, q4, q6, q8, q10, q12) _ _ _ _ dX7_init_59 hq14 (hP.sub [0, 1, 2, 3, 4, 5, 6] rfl) (hD.sub [0, 1, 2, 3, 4, 5, 6] (by decide) rfl) hS
