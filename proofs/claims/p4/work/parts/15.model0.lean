set_option maxHeartbeats 4000000 in
set_option maxRecDepth 100000 in
theorem c_Mo_mixed (l : Launch) (D : va_G) (cI cJ cB : ClassId) (aM : Nat) (bG : Nat) (bL : Nat) (bY : Nat) (bB : Nat) (bC : Nat) (bT : Nat) (th : Int32) (mw : Int32) (mz : Int32) (tk : Int32) (ss : Int32) (ml : Int32) (mh : Int32) (mp : Int32) (rw : Int32) (wr : Int32) (tc : Int32) (gy : Nat → Int32) (sd : Int32) (b : Int32) (h1 : 0 ≤ sd.toInt ∧ sd.toInt ≤ 1) :
    cti l yX7_mixed (wsOf yX7_mixed cX7_mixed 3 (some .int)) (rmL 0 0 0 0) D classes (tys3 cI cJ cB) [.ref aM, .int sd, .int b] [(aM, .inr (6, [.int th, .int mw, .ref bG, .int mz, .ref bL, .ref bY, .ref bB, .ref bC, .int tk, .int ss, .int ml, .int mh, .int mp, .int rw, .int wr, .int tc, .ref bT])), (bY, .inl (cI, 116, .inl gy))] (fun (r : Int32) (u : Unit) => True) (fun u : Unit => ([(aM, .inr (6, [.int th, .int mw, .ref bG, .int mz, .ref bL, .ref bY, .ref bB, .ref bC, .int tk, .int ss, .int ml, .int mh, .int mp, .int rw, .int wr, .int tc, .ref bT])), (bY, .inl (cI, 116, .inl gy))] : va_W)) := by
  refine cti.of (by first | exact plainFor_of_name (by decide) | decide +kernel) (Nat.le_of_ble_eq_true rfl) (fun p e s m args below meth c A ls Q h hret => ?_)
  obtain ⟨hx, hb, hml, hown, hts, hnm, hP, hK, hD, hA, hS, hZ, hN, hl⟩ := h
  have hown : s.vm.findClass RX7 = some m.cls := hown
  have hl : lv_has ls 3 [(0, .ref aM), (1, .int sd), (2, .int b)] := hl
  have hP : va_P D classes [(aM, .inr (6, [.int th, .int mw, .ref bG, .int mz, .ref bL, .ref bY, .ref bB, .ref bC, .int tk, .int ss, .int ml, .int mh, .int mp, .int rw, .int wr, .int tc, .ref bT])), (bY, .inl (cI, 116, .inl gy))] s.heap := hP
  have hD : va_D A [(aM, .inr (6, [.int th, .int mw, .ref bG, .int mz, .ref bL, .ref bY, .ref bB, .ref bC, .int tk, .int ss, .int ml, .int mh, .int mp, .int rw, .int wr, .int tc, .ref bT])), (bY, .inl (cI, 116, .inl gy))] := hD
  have rg_th := zi_rg th
  have rg_mw := zi_rg mw
  have rg_mz := zi_rg mz
  have rg_tk := zi_rg tk
  have rg_ss := zi_rg ss
  have rg_ml := zi_rg ml
  have rg_mh := zi_rg mh
  have rg_mp := zi_rg mp
  have rg_rw := zi_rg rw
  have rg_wr := zi_rg wr
  have rg_tc := zi_rg tc
  have rg_sd := zi_rg sd
  have rg_b := zi_rg b
  refine lv_iload_n hx hb dX7_mixed_0 rfl (lv_at hl 2 rfl) ?_
  refine lv_aload_n hx hb dX7_mixed_1 rfl (lv_at hl 0 rfl) ?_
  refine va_get (D := D) (ci := 6) (v := .ref bY) (C := RX7) (T := TX7) (N := 17) hx hb hts in_X7 hown hK hP 0 rfl rfl 5 (by decide) (hts _ wk63) (fun _ h9 => h9) rfl dX7_mixed_2 ?_
  refine lv_bipush (v := 58) hx hb dX7_mixed_5 (by decide) ?_
  refine lv_topi (fun v1 e1 => ?_)
  have z1 : v1.toInt = 58 := zi_c e1 (by decide)
  refine lv_iload_n hx hb dX7_mixed_7 rfl (lv_at hl 1 rfl) ?_
  refine lv_imul hx hb dX7_mixed_8 ?_
  refine lv_topi (fun v2 e2 => ?_)
  first | have z2 := zi_mulL (k := 58) e2 (by omega) (by omega) | skip
  refine lv_bipush (v := 38) hx hb dX7_mixed_9 (by decide) ?_
  refine lv_topi (fun v3 e3 => ?_)
  have z3 : v3.toInt = 38 := zi_c e3 (by decide)
  refine lv_iadd hx hb dX7_mixed_11 ?_
  refine lv_topi (fun v4 e4 => ?_)
  first | have z4 := zi_add e4 (by omega) | skip
  refine va_iald hx hb hK hP 1 0 rfl rfl (zi_in (by omega)) dX7_mixed_12 ?_
  refine lv_topi (fun v5 e5 => ?_)
  refine lv_ixor hx hb dX7_mixed_13 ?_
  refine lv_topi (fun v6 e6 => ?_)
  refine lv_aload_n hx hb dX7_mixed_14 rfl (lv_at hl 0 rfl) ?_
  refine va_get (D := D) (ci := 6) (v := .ref bY) (C := RX7) (T := TX7) (N := 17) hx hb hts in_X7 hown hK hP 0 rfl rfl 5 (by decide) (hts _ wk63) (fun _ h9 => h9) rfl dX7_mixed_15 ?_
  refine lv_bipush (v := 58) hx hb dX7_mixed_18 (by decide) ?_
  refine lv_topi (fun v7 e7 => ?_)
  have z7 : v7.toInt = 58 := zi_c e7 (by decide)
  refine lv_iload_n hx hb dX7_mixed_20 rfl (lv_at hl 1 rfl) ?_
  refine lv_imul hx hb dX7_mixed_21 ?_
  refine lv_topi (fun v8 e8 => ?_)
  first | have z8 := zi_mulL (k := 58) e8 (by omega) (by omega) | skip
  refine lv_bipush (v := 57) hx hb dX7_mixed_22 (by decide) ?_
  refine lv_topi (fun v9 e9 => ?_)
  have z9 : v9.toInt = 57 := zi_c e9 (by decide)
  refine lv_iadd hx hb dX7_mixed_24 ?_
  refine lv_topi (fun v10 e10 => ?_)
  first | have z10 := zi_add e10 (by omega) | skip
  refine va_iald hx hb hK hP 1 0 rfl rfl (zi_in (by omega)) dX7_mixed_25 ?_
  refine lv_topi (fun v11 e11 => ?_)
  refine lv_ixor hx hb dX7_mixed_26 ?_
  refine lv_topi (fun v12 e12 => ?_)
  exact hret v12 () _ _ _ _ dX7_mixed_27 trivial (hP.sub [0, 1] rfl) (hD.sub [0, 1] (by decide) rfl) hS

set_option maxHeartbeats 4000000 in
set_option maxRecDepth 100000 in
theorem c_Mo_remember (l : Launch) (D : va_G) (cI cJ cB : ClassId) (aM : Nat) (bG : Nat) (bL : Nat) (bY : Nat) (bB : Nat) (bC : Nat) (bT : Nat) (th : Int32) (mw : Int32) (mz : Int32) (tk : Int32) (ss : Int32) (ml : Int32) (mh : Int32) (mp : Int32) (rw : Int32) (wr : Int32) (tc : Int32) (gy : Nat → Int32) (sd : Int32) (b : Int32) (h1 : 0 ≤ sd.toInt ∧ sd.toInt ≤ 1) :
    ctv l yX7_remember (wsOf yX7_remember cX7_remember 4 none) (rmL 0 0 0 0) D classes (tys3 cI cJ cB) [.ref aM, .int sd, .int b] [(aM, .inr (6, [.int th, .int mw, .ref bG, .int mz, .ref bL, .ref bY, .ref bB, .ref bC, .int tk, .int ss, .int ml, .int mh, .int mp, .int rw, .int wr, .int tc, .ref bT])), (bY, .inl (cI, 116, .inl gy))] (fun u : (Nat → Int32) => True) (fun u : (Nat → Int32) => ([(aM, .inr (6, [.int th, .int mw, .ref bG, .int mz, .ref bL, .ref bY, .ref bB, .ref bC, .int tk, .int ss, .int ml, .int mh, .int mp, .int rw, .int wr, .int tc, .ref bT])), (bY, .inl (cI, 116, .inl u))] : va_W)) 0 0 := by
  refine ctv.of (by first | exact plainFor_of_name (by decide) | decide +kernel) (Nat.le_of_ble_eq_true rfl) (fun p e s m args below meth c A ls Q h hret => ?_)
  obtain ⟨hx, hb, hml, hown, hts, hnm, hP, hK, hD, hA, hS, hZ, hN, hl⟩ := h
  have hown : s.vm.findClass RX7 = some m.cls := hown
  have hl : lv_has ls 4 [(0, .ref aM), (1, .int sd), (2, .int b)] := hl
  have hP : va_P D classes [(aM, .inr (6, [.int th, .int mw, .ref bG, .int mz, .ref bL, .ref bY, .ref bB, .ref bC, .int tk, .int ss, .int ml, .int mh, .int mp, .int rw, .int wr, .int tc, .ref bT])), (bY, .inl (cI, 116, .inl gy))] s.heap := hP
  have hD : va_D A [(aM, .inr (6, [.int th, .int mw, .ref bG, .int mz, .ref bL, .ref bY, .ref bB, .ref bC, .int tk, .int ss, .int ml, .int mh, .int mp, .int rw, .int wr, .int tc, .ref bT])), (bY, .inl (cI, 116, .inl gy))] := hD
  have rg_th := zi_rg th
  have rg_mw := zi_rg mw
  have rg_mz := zi_rg mz
  have rg_tk := zi_rg tk
  have rg_ss := zi_rg ss
  have rg_ml := zi_rg ml
  have rg_mh := zi_rg mh
  have rg_mp := zi_rg mp
  have rg_rw := zi_rg rw
  have rg_wr := zi_rg wr
  have rg_tc := zi_rg tc
  have rg_sd := zi_rg sd
  have rg_b := zi_rg b
  refine lv_bipush (v := 57) hx hb dX7_remember_0 (by decide) ?_
  refine lv_topi (fun v1 e1 => ?_)
  have z1 : v1.toInt = 57 := zi_c e1 (by decide)
  refine lv_istore_n (lv' := [(3, .int v1), (0, .ref aM), (1, .int sd), (2, .int b)]) hx hb dX7_remember_2 rfl hl (by decide) rfl (fun ls hl => ?_)
  have J3 : ∀ (n : Nat) (k : Int32) (gy3 : Nat → Int32) (H : Heap) (locs : List Loc) (ls : Array Slot), k.toInt.toNat < n → (0 ≤ k.toInt ∧ k.toInt ≤ 57) → va_P D classes [(aM, .inr (6, [.int th, .int mw, .ref bG, .int mz, .ref bL, .ref bY, .ref bB, .ref bC, .int tk, .int ss, .int ml, .int mh, .int mp, .int rw, .int wr, .int tc, .ref bT])), (bY, .inl (cI, 116, .inl gy3))] H → va_D A [(aM, .inr (6, [.int th, .int mw, .ref bG, .int mz, .ref bL, .ref bY, .ref bB, .ref bC, .int tk, .int ss, .int ml, .int mh, .int mp, .int rw, .int wr, .int tc, .ref bT])), (bY, .inl (cI, 116, .inl gy3))] → va_S A s.heap H locs → lv_has ls 4 [(0, .ref aM), (1, .int sd), (2, .int b), (3, .int k)] → W p l e (rmL 0 0 0 0) s m args below meth c H locs 0 0 Q (F0 m 3 ls []) := by
    intro n
    induction n with
    | zero => intro k gy3 H locs ls hmu; exact absurd hmu (Nat.not_lt_zero _)
    | succ n ih3 =>
      intro k gy3 H locs ls hmu3 i3_0 hP hD hS hl
      have rg_k := zi_rg k
      refine lv_iload_n hx hb dX7_remember_3 rfl (lv_at hl 3 rfl) ?_
      refine lv_if_le (tgt := 37) hx hb dX7_remember_4 (by decide) (fun c2 => ?_) (fun c2 => ?_)
      ·
        have z2 := zi_le0 c2
        refine lv_aload_n hx hb dX7_remember_37 rfl (lv_at hl 0 rfl) ?_
        refine va_get (D := D) (ci := 6) (v := .ref bY) (C := RX7) (T := TX7) (N := 17) hx hb hts in_X7 hown hK hP 0 rfl rfl 5 (by decide) (hts _ wk63) (fun _ h9 => h9) rfl dX7_remember_38 ?_
        refine lv_bipush (v := 58) hx hb dX7_remember_41 (by decide) ?_
        refine lv_topi (fun v3 e3 => ?_)
        have z3 : v3.toInt = 58 := zi_c e3 (by decide)
        refine lv_iload_n hx hb dX7_remember_43 rfl (lv_at hl 1 rfl) ?_
        refine lv_imul hx hb dX7_remember_44 ?_
        refine lv_topi (fun v4 e4 => ?_)
        first | have z4 := zi_mulL (k := 58) e4 (by omega) (by omega) | skip
        refine lv_iload_n hx hb dX7_remember_45 rfl (lv_at hl 2 rfl) ?_
        obtain ⟨f5, ef5⟩ : ∃ z9, z9 = upd gy3 v4.toNatClampNeg b := ⟨_, rfl⟩
        refine va_iast hx hb hK hP hD hS 1 0 rfl rfl (zi_in (by omega)) dX7_remember_46 (fun H locs hP1 hD1 hS1 => ?_)
        rw [← ef5] at hP1 hD1
        clear hP hD hS
        have hP : va_P D classes [(aM, .inr (6, [.int th, .int mw, .ref bG, .int mz, .ref bL, .ref bY, .ref bB, .ref bC, .int tk, .int ss, .int ml, .int mh, .int mp, .int rw, .int wr, .int tc, .ref bT])), (bY, .inl (cI, 116, .inl f5))] H := hP1
        have hD : va_D A [(aM, .inr (6, [.int th, .int mw, .ref bG, .int mz, .ref bL, .ref bY, .ref bB, .ref bC, .int tk, .int ss, .int ml, .int mh, .int mp, .int rw, .int wr, .int tc, .ref bT])), (bY, .inl (cI, 116, .inl f5))] := hD1
        have hS := hS1
        clear hP1 hD1 hS1
        exact hret f5 _ _ _ _ dX7_remember_47 trivial (hP.sub [0, 1] rfl) (hD.sub [0, 1] (by decide) rfl) hS
      ·
        have z2 := zi_nle0 c2
        refine lv_aload_n hx hb dX7_remember_7 rfl (lv_at hl 0 rfl) ?_
        refine va_get (D := D) (ci := 6) (v := .ref bY) (C := RX7) (T := TX7) (N := 17) hx hb hts in_X7 hown hK hP 0 rfl rfl 5 (by decide) (hts _ wk63) (fun _ h9 => h9) rfl dX7_remember_8 ?_
        refine lv_bipush (v := 58) hx hb dX7_remember_11 (by decide) ?_
        refine lv_topi (fun v7 e7 => ?_)
        have z7 : v7.toInt = 58 := zi_c e7 (by decide)
        refine lv_iload_n hx hb dX7_remember_13 rfl (lv_at hl 1 rfl) ?_
        refine lv_imul hx hb dX7_remember_14 ?_
        refine lv_topi (fun v8 e8 => ?_)
        first | have z8 := zi_mulL (k := 58) e8 (by omega) (by omega) | skip
        refine lv_iload_n hx hb dX7_remember_15 rfl (lv_at hl 3 rfl) ?_
        refine lv_iadd hx hb dX7_remember_16 ?_
        refine lv_topi (fun v9 e9 => ?_)
        first | have z9 := zi_add e9 (by omega) | skip
        refine lv_aload_n hx hb dX7_remember_17 rfl (lv_at hl 0 rfl) ?_
        refine va_get (D := D) (ci := 6) (v := .ref bY) (C := RX7) (T := TX7) (N := 17) hx hb hts in_X7 hown hK hP 0 rfl rfl 5 (by decide) (hts _ wk63) (fun _ h9 => h9) rfl dX7_remember_18 ?_
        refine lv_bipush (v := 58) hx hb dX7_remember_21 (by decide) ?_
        refine lv_topi (fun v10 e10 => ?_)
        have z10 : v10.toInt = 58 := zi_c e10 (by decide)
        refine lv_iload_n hx hb dX7_remember_23 rfl (lv_at hl 1 rfl) ?_
        refine lv_imul hx hb dX7_remember_24 ?_
        refine lv_topi (fun v11 e11 => ?_)
        first | have z11 := zi_mulL (k := 58) e11 (by omega) (by omega) | skip
        refine lv_iload_n hx hb dX7_remember_25 rfl (lv_at hl 3 rfl) ?_
        refine lv_iadd hx hb dX7_remember_26 ?_
        refine lv_topi (fun v12 e12 => ?_)
        first | have z12 := zi_add e12 (by omega) | skip
        refine lv_iconst (v := 1) hx hb dX7_remember_27 (by decide) ?_
        refine lv_topi (fun v13 e13 => ?_)
        have z13 : v13.toInt = 1 := zi_c e13 (by decide)
        refine lv_isub hx hb dX7_remember_28 ?_
        refine lv_topi (fun v14 e14 => ?_)
        first | have z14 := zi_sub e14 (by omega) | skip
        refine va_iald hx hb hK hP 1 0 rfl rfl (zi_in (by omega)) dX7_remember_29 ?_
        refine lv_topi (fun v15 e15 => ?_)
        obtain ⟨f16, ef16⟩ : ∃ z9, z9 = upd gy3 v9.toNatClampNeg v15 := ⟨_, rfl⟩
        refine va_iast hx hb hK hP hD hS 1 0 rfl rfl (zi_in (by omega)) dX7_remember_30 (fun H locs hP1 hD1 hS1 => ?_)
        rw [← ef16] at hP1 hD1
        clear hP hD hS
        have hP : va_P D classes [(aM, .inr (6, [.int th, .int mw, .ref bG, .int mz, .ref bL, .ref bY, .ref bB, .ref bC, .int tk, .int ss, .int ml, .int mh, .int mp, .int rw, .int wr, .int tc, .ref bT])), (bY, .inl (cI, 116, .inl f16))] H := hP1
        have hD : va_D A [(aM, .inr (6, [.int th, .int mw, .ref bG, .int mz, .ref bL, .ref bY, .ref bB, .ref bC, .int tk, .int ss, .int ml, .int mh, .int mp, .int rw, .int wr, .int tc, .ref bT])), (bY, .inl (cI, 116, .inl f16))] := hD1
        have hS := hS1
        clear hP1 hD1 hS1
        obtain ⟨v17, e17⟩ : ∃ y : Int32, y = k + (-1) := ⟨_, rfl⟩
        first | have z17 := zi_inc (z := (-1)) (-1) (by decide) e17 (by omega) | skip
        refine lv_iinc (v := v17) (lv' := [(3, .int v17), (0, .ref aM), (1, .int sd), (2, .int b)]) hx hb dX7_remember_31 hl (k := 3) rfl (by rw [e17]; rfl) (by decide) rfl (fun ls hl => ?_)
        refine lv_goto (tgt := 3) hx hb dX7_remember_34 (by decide) ?_
        exact ih3 v17 f16 _ _ _ (by omega) (by omega) (hP.sub [0, 1] rfl) (hD.sub [0, 1] (by decide) rfl) hS (lv_sub hl [1, 2, 3, 0] rfl)
  exact J3 _ v1 gy _ _ _ (Nat.lt_succ_self _) (by omega) (hP.sub [0, 1] rfl) (hD.sub [0, 1] (by decide) rfl) hS (lv_sub hl [1, 2, 3, 0] rfl)

set_option maxHeartbeats 4000000 in
set_option maxRecDepth 100000 in
theorem c_Mo_state (l : Launch) (D : va_G) (cI cJ cB : ClassId) (aM : Nat) (bG : Nat) (bL : Nat) (bY : Nat) (bB : Nat) (bC : Nat) (bT : Nat) (th : Int32) (mw : Int32) (mz : Int32) (tk : Int32) (ss : Int32) (ml : Int32) (mh : Int32) (mp : Int32) (rw : Int32) (wr : Int32) (tc : Int32) (gy : Nat → Int32) (sd : Int32) (x : Int64)  :
    ctl l yX7_state (wsOf yX7_state cX7_state 7 (some .long)) (rmL 0 0 0 0) D classes (tys3 cI cJ cB) [.ref aM, .int sd, .long x] [(aM, .inr (6, [.int th, .int mw, .ref bG, .int mz, .ref bL, .ref bY, .ref bB, .ref bC, .int tk, .int ss, .int ml, .int mh, .int mp, .int rw, .int wr, .int tc, .ref bT])), (bY, .inl (cI, 116, .inl gy))] (fun (r : Int64) (u : Int32 × (Nat → Int32)) => ((sd.toInt < 0 ∨ 1 < sd.toInt) → r = -12) ∧ ((0 ≤ sd.toInt ∧ sd.toInt ≤ 1 ∧ ∀ q, gy q = 0) → r = 0)) (fun u : Int32 × (Nat → Int32) => ([(aM, .inr (6, [.int u.1, .int mw, .ref bG, .int mz, .ref bL, .ref bY, .ref bB, .ref bC, .int tk, .int ss, .int ml, .int mh, .int mp, .int rw, .int wr, .int tc, .ref bT])), (bY, .inl (cI, 116, .inl u.2))] : va_W)) := by
  refine ctl.of (by first | exact plainFor_of_name (by decide) | decide +kernel) (Nat.le_of_ble_eq_true rfl) (fun p e s m args below meth c A ls Q h hret => ?_)
  obtain ⟨hx, hb, hml, hown, hts, hnm, hP, hK, hD, hA, hS, hZ, hN, hl⟩ := h
  have hown : s.vm.findClass RX7 = some m.cls := hown
  have hl : lv_has ls 7 [(0, .ref aM), (1, .int sd), (2, .long x)] := hl
  have hP : va_P D classes [(aM, .inr (6, [.int th, .int mw, .ref bG, .int mz, .ref bL, .ref bY, .ref bB, .ref bC, .int tk, .int ss, .int ml, .int mh, .int mp, .int rw, .int wr, .int tc, .ref bT])), (bY, .inl (cI, 116, .inl gy))] s.heap := hP
  have hD : va_D A [(aM, .inr (6, [.int th, .int mw, .ref bG, .int mz, .ref bL, .ref bY, .ref bB, .ref bC, .int tk, .int ss, .int ml, .int mh, .int mp, .int rw, .int wr, .int tc, .ref bT])), (bY, .inl (cI, 116, .inl gy))] := hD
  have rg_th := zi_rg th
  have rg_mw := zi_rg mw
  have rg_mz := zi_rg mz
  have rg_tk := zi_rg tk
  have rg_ss := zi_rg ss
  have rg_ml := zi_rg ml
  have rg_mh := zi_rg mh
  have rg_mp := zi_rg mp
  have rg_rw := zi_rg rw
  have rg_wr := zi_rg wr
  have rg_tc := zi_rg tc
  have rg_sd := zi_rg sd
  refine lv_aload_n hx hb dX7_state_0 rfl (lv_at hl 0 rfl) ?_
  refine lv_iconst (v := 0) hx hb dX7_state_1 (by decide) ?_
  refine lv_topi (fun v1 e1 => ?_)
  have z1 : v1.toInt = 0 := zi_c e1 (by decide)
  refine va_put (D := D) (ci := 6) (v := .int v1) (ty := .int) (C := RX7) (T := TX7) (N := 17) hx hb hts in_X7 tyX7 tyX7_ok nmX7 hown hK hP hD hS 0 rfl rfl 0 (by decide) (hts _ wk163) (fun _ h9 => h9) rfl (by decide +kernel) rfl rfl (Nat.le_of_ble_eq_true rfl) dX7_state_2 (fun H locs hP1 hD1 hS1 => ?_)
  clear hP hD hS
  have hP : va_P D classes [(aM, .inr (6, [.int v1, .int mw, .ref bG, .int mz, .ref bL, .ref bY, .ref bB, .ref bC, .int tk, .int ss, .int ml, .int mh, .int mp, .int rw, .int wr, .int tc, .ref bT])), (bY, .inl (cI, 116, .inl gy))] H := hP1
  have hD : va_D A [(aM, .inr (6, [.int v1, .int mw, .ref bG, .int mz, .ref bL, .ref bY, .ref bB, .ref bC, .int tk, .int ss, .int ml, .int mh, .int mp, .int rw, .int wr, .int tc, .ref bT])), (bY, .inl (cI, 116, .inl gy))] := hD1
  have hS := hS1
  clear hP1 hD1 hS1
  refine lv_iload_n hx hb dX7_state_5 rfl (lv_at hl 1 rfl) ?_
  refine lv_if_lt (tgt := 14) hx hb dX7_state_6 (by decide) (fun c2 => ?_) (fun c2 => ?_)
  ·
    have z2 := zi_lt0 c2
    refine lv_ldc2 (v := (-12)) hx hb hown (hts _ wk251) dX7_state_14 ?_
    refine lv_topl (fun v3 e3 => ?_)
    have hq4 : ((sd.toInt < 0 ∨ 1 < sd.toInt) → v3 = -12) ∧ ((0 ≤ sd.toInt ∧ sd.toInt ≤ 1 ∧ ∀ q, gy q = 0) → v3 = 0) := (by refine ⟨fun q => ?_, fun q => ?_⟩ <;> first | assumption | (exfalso; omega) | exact (i25_1 q.2.2).1)
    exact hret v3 (v1, gy) _ _ _ _ dX7_state_17 hq4 (hP.sub [0, 1] rfl) (hD.sub [0, 1] (by decide) rfl) hS
  ·
    have z2 := zi_nlt0 c2
    refine lv_iload_n hx hb dX7_state_9 rfl (lv_at hl 1 rfl) ?_
    refine lv_iconst (v := 1) hx hb dX7_state_10 (by decide) ?_
    refine lv_topi (fun v5 e5 => ?_)
    have z5 : v5.toInt = 1 := zi_c e5 (by decide)
    refine lv_icmp_le (tgt := 18) hx hb dX7_state_11 (by decide) (fun c6 => ?_) (fun c6 => ?_)
    ·
      have z6 := zi_le c6
      refine lv_lconst (v := 0) hx hb dX7_state_18 (by decide) ?_
      refine lv_topl (fun v7 e7 => ?_)
      refine lv_lstore (lv' := [(4, .long v7), (0, .ref aM), (1, .int sd), (2, .long x)]) hx hb dX7_state_19 hl (by decide) rfl (fun ls hl => ?_)
      refine lv_bipush (v := 57) hx hb dX7_state_21 (by decide) ?_
      refine lv_topi (fun v8 e8 => ?_)
      have z8 : v8.toInt = 57 := zi_c e8 (by decide)
      refine lv_istore (lv' := [(6, .int v8), (4, .long v7), (0, .ref aM), (1, .int sd), (2, .long x)]) hx hb dX7_state_23 hl (by decide) rfl (fun ls hl => ?_)
      have J25 : ∀ (n : Nat) (k : Int32) (bf : Int64) (gy3 : Nat → Int32) (H : Heap) (locs : List Loc) (ls : Array Slot), ((k.toInt + 1).toNat) < n → (-1 ≤ k.toInt ∧ k.toInt ≤ 57) → ((∀ q, gy q = 0) → bf = 0 ∧ ∀ j : Nat, (j : Int) ≤ 58 * sd.toInt + k.toInt → gy3 j = 0) → va_P D classes [(aM, .inr (6, [.int v1, .int mw, .ref bG, .int mz, .ref bL, .ref bY, .ref bB, .ref bC, .int tk, .int ss, .int ml, .int mh, .int mp, .int rw, .int wr, .int tc, .ref bT])), (bY, .inl (cI, 116, .inl gy3))] H → va_D A [(aM, .inr (6, [.int v1, .int mw, .ref bG, .int mz, .ref bL, .ref bY, .ref bB, .ref bC, .int tk, .int ss, .int ml, .int mh, .int mp, .int rw, .int wr, .int tc, .ref bT])), (bY, .inl (cI, 116, .inl gy3))] → va_S A s.heap H locs → lv_has ls 7 [(0, .ref aM), (1, .int sd), (2, .long x), (4, .long bf), (6, .int k)] → W p l e (rmL 0 0 0 0) s m args below meth c H locs 0 0 Q (F0 m 25 ls []) := by
        intro n
        induction n with
        | zero => intro k bf gy3 H locs ls hmu; exact absurd hmu (Nat.not_lt_zero _)
        | succ n ih25 =>
          intro k bf gy3 H locs ls hmu25 i25_0 i25_1 hP hD hS hl
          have rg_k := zi_rg k
          refine lv_iload hx hb dX7_state_25 (lv_at hl 4 rfl) ?_
          refine lv_if_lt (tgt := 77) hx hb dX7_state_27 (by decide) (fun c9 => ?_) (fun c9 => ?_)
          ·
            have z9 := zi_lt0 c9
            refine lv_lload hx hb dX7_state_77 (lv_at hl 3 rfl) ?_
            have hq10 : ((sd.toInt < 0 ∨ 1 < sd.toInt) → bf = -12) ∧ ((0 ≤ sd.toInt ∧ sd.toInt ≤ 1 ∧ ∀ q, gy q = 0) → bf = 0) := (by refine ⟨fun q => ?_, fun q => ?_⟩ <;> first | assumption | (exfalso; omega) | exact (i25_1 q.2.2).1)
            exact hret bf (v1, gy3) _ _ _ _ dX7_state_79 hq10 (hP.sub [0, 1] rfl) (hD.sub [0, 1] (by decide) rfl) hS
          ·
            have z9 := zi_nlt0 c9
            refine lv_ldc2 (v := 2) hx hb hown (hts _ wk252) dX7_state_30 ?_
            refine lv_topl (fun v11 e11 => ?_)
            refine lv_lload hx hb dX7_state_33 (lv_at hl 3 rfl) ?_
            refine lv_lmul hx hb dX7_state_35 ?_
            refine lv_topl (fun v12 e12 => ?_)
            refine lv_aload_n hx hb dX7_state_36 rfl (lv_at hl 0 rfl) ?_
            refine va_get (D := D) (ci := 6) (v := .ref bY) (C := RX7) (T := TX7) (N := 17) hx hb hts in_X7 hown hK hP 0 rfl rfl 5 (by decide) (hts _ wk63) (fun _ h9 => h9) rfl dX7_state_37 ?_
            refine lv_bipush (v := 58) hx hb dX7_state_40 (by decide) ?_
            refine lv_topi (fun v13 e13 => ?_)
            have z13 : v13.toInt = 58 := zi_c e13 (by decide)
            refine lv_iload_n hx hb dX7_state_42 rfl (lv_at hl 1 rfl) ?_
            refine lv_imul hx hb dX7_state_43 ?_
            refine lv_topi (fun v14 e14 => ?_)
            first | have z14 := zi_mulL (k := 58) e14 (by omega) (by omega) | skip
            refine lv_iload hx hb dX7_state_44 (lv_at hl 4 rfl) ?_
            refine lv_iadd hx hb dX7_state_46 ?_
            refine lv_topi (fun v15 e15 => ?_)
            first | have z15 := zi_add e15 (by omega) | skip
            refine va_iald hx hb hK hP 1 0 rfl rfl (zi_in (by omega)) dX7_state_47 ?_
            refine lv_topi (fun v16 e16 => ?_)
            refine lv_i2l hx hb dX7_state_48 rfl ?_
            refine lv_topl (fun v17 e17 => ?_)
            refine lv_ladd hx hb dX7_state_49 ?_
            refine lv_topl (fun v18 e18 => ?_)
            refine lv_lstore (lv' := [(4, .long v18), (0, .ref aM), (1, .int sd), (2, .long x), (6, .int k)]) hx hb dX7_state_50 hl (by decide) rfl (fun ls hl => ?_)
            refine lv_aload_n hx hb dX7_state_52 rfl (lv_at hl 1 rfl) ?_
            refine va_get (D := D) (ci := 6) (v := .ref bY) (C := RX7) (T := TX7) (N := 17) hx hb hts in_X7 hown hK hP 0 rfl rfl 5 (by decide) (hts _ wk63) (fun _ h9 => h9) rfl dX7_state_53 ?_
            refine lv_bipush (v := 58) hx hb dX7_state_56 (by decide) ?_
            refine lv_topi (fun v19 e19 => ?_)
            have z19 : v19.toInt = 58 := zi_c e19 (by decide)
            refine lv_iload_n hx hb dX7_state_58 rfl (lv_at hl 2 rfl) ?_
            refine lv_imul hx hb dX7_state_59 ?_
            refine lv_topi (fun v20 e20 => ?_)
            first | have z20 := zi_mulL (k := 58) e20 (by omega) (by omega) | skip
            refine lv_iload hx hb dX7_state_60 (lv_at hl 4 rfl) ?_
            refine lv_iadd hx hb dX7_state_62 ?_
            refine lv_topi (fun v21 e21 => ?_)
            first | have z21 := zi_add e21 (by omega) | skip
            refine lv_lload_n hx hb dX7_state_63 rfl (lv_at hl 3 rfl) ?_
            refine lv_iload hx hb dX7_state_64 (lv_at hl 4 rfl) ?_
            refine lv_lshr hx hb dX7_state_66 rfl ?_
            refine lv_topl (fun v22 e22 => ?_)
            refine lv_lconst (v := 1) hx hb dX7_state_67 (by decide) ?_
            refine lv_topl (fun v23 e23 => ?_)
            refine lv_land hx hb dX7_state_68 ?_
            refine lv_topl (fun v24 e24 => ?_)
            refine lv_l2i hx hb dX7_state_69 rfl ?_
            refine lv_topi (fun v25 e25 => ?_)
            obtain ⟨f26, ef26⟩ : ∃ z9, z9 = upd gy3 v21.toNatClampNeg v25 := ⟨_, rfl⟩
            refine va_iast hx hb hK hP hD hS 1 0 rfl rfl (zi_in (by omega)) dX7_state_70 (fun H locs hP1 hD1 hS1 => ?_)
            rw [← ef26] at hP1 hD1
            clear hP hD hS
            have hP : va_P D classes [(aM, .inr (6, [.int v1, .int mw, .ref bG, .int mz, .ref bL, .ref bY, .ref bB, .ref bC, .int tk, .int ss, .int ml, .int mh, .int mp, .int rw, .int wr, .int tc, .ref bT])), (bY, .inl (cI, 116, .inl f26))] H := hP1
            have hD : va_D A [(aM, .inr (6, [.int v1, .int mw, .ref bG, .int mz, .ref bL, .ref bY, .ref bB, .ref bC, .int tk, .int ss, .int ml, .int mh, .int mp, .int rw, .int wr, .int tc, .ref bT])), (bY, .inl (cI, 116, .inl f26))] := hD1
            have hS := hS1
            clear hP1 hD1 hS1
            obtain ⟨v27, e27⟩ : ∃ y : Int32, y = k + (-1) := ⟨_, rfl⟩
            first | have z27 := zi_inc (z := (-1)) (-1) (by decide) e27 (by omega) | skip
            refine lv_iinc (v := v27) (lv' := [(6, .int v27), (4, .long v18), (0, .ref aM), (1, .int sd), (2, .long x)]) hx hb dX7_state_71 hl (k := 4) rfl (by rw [e27]; rfl) (by decide) rfl (fun ls hl => ?_)
            refine lv_goto (tgt := 25) hx hb dX7_state_74 (by decide) ?_
            exact ih25 v27 v18 f26 _ _ _ (by omega) (by omega) (fun h => by obtain ⟨h1, h2⟩ := i25_1 h; have h3 : v15.toNatClampNeg = v15.toInt.toNat := rfl; have h4 : v21.toNatClampNeg = v21.toInt.toNat := rfl; exact ⟨by rw [e18, e12, e17, e16, h2 _ (by omega), h1, e11]; rfl, fun j hj => by rw [ef26, pk_un (by omega)]; exact h2 j (by omega)⟩) (hP.sub [0, 1] rfl) (hD.sub [0, 1] (by decide) rfl) hS (lv_sub hl [2, 3, 4, 1, 0] rfl)
      exact J25 _ v8 v7 gy _ _ _ (Nat.lt_succ_self _) (by omega) (fun h => ⟨e7, fun j _ => h j⟩) (hP.sub [0, 1] rfl) (hD.sub [0, 1] (by decide) rfl) hS (lv_sub hl [2, 3, 4, 1, 0] rfl)
    ·
      have z6 := zi_nle c6
      refine lv_ldc2 (v := (-12)) hx hb hown (hts _ wk251) dX7_state_14 ?_
      refine lv_topl (fun v28 e28 => ?_)
      have hq29 : ((sd.toInt < 0 ∨ 1 < sd.toInt) → v28 = -12) ∧ ((0 ≤ sd.toInt ∧ sd.toInt ≤ 1 ∧ ∀ q, gy q = 0) → v28 = 0) := (by refine ⟨fun q => ?_, fun q => ?_⟩ <;> first | assumption | (exfalso; omega) | exact (i25_1 q.2.2).1)
      exact hret v28 (v1, gy) _ _ _ _ dX7_state_17 hq29 (hP.sub [0, 1] rfl) (hD.sub [0, 1] (by decide) rfl) hS

set_option maxHeartbeats 4000000 in
set_option maxRecDepth 100000 in
theorem c_Mo_isData (l : Launch) (D : va_G) (cI cJ cB : ClassId) (x : Int32)  :
    cti l yX7_isData (wsOf yX7_isData cX7_isData 1 (some .boolean)) (rmL 0 0 0 0) D classes (tys3 cI cJ cB) [.int x] [] (fun (r : Int32) (u : Unit) => 0 ≤ r.toInt ∧ r.toInt ≤ 1) (fun u : Unit => ([] : va_W)) := by
  refine ctz.of (by first | exact plainFor_of_name (by decide) | decide +kernel) (Nat.le_of_ble_eq_true rfl) (fun p e s m args below meth c A ls Q h hret => ?_)
  obtain ⟨hx, hb, hml, hown, hts, hnm, hP, hK, hD, hA, hS, hZ, hN, hl⟩ := h
  have hown : s.vm.findClass RX7 = some m.cls := hown
  have hl : lv_has ls 1 [(0, .int x)] := hl
  have hP : va_P D classes [] s.heap := hP
  have hD : va_D A [] := hD
  have rg_x := zi_rg x
  refine lv_iload_n hx hb dX7_isData_0 rfl (lv_at hl 0 rfl) ?_
  refine lv_sipush (v := 256) hx hb dX7_isData_1 (by decide) ?_
  refine lv_topi (fun v1 e1 => ?_)
  have z1 : v1.toInt = 256 := zi_c e1 (by decide)
  refine lv_icmp_ge (tgt := 11) hx hb dX7_isData_4 (by decide) (fun c2 => ?_) (fun c2 => ?_)
  ·
    have z2 := zi_le c2
    refine lv_iconst (v := 0) hx hb dX7_isData_11 (by decide) ?_
    refine lv_topi (fun v3 e3 => ?_)
    have z3 : v3.toInt = 0 := zi_c e3 (by decide)
    have hq4 : 0 ≤ v3.toInt ∧ v3.toInt ≤ 1 := (by omega)
    exact hret v3 () _ _ _ _ dX7_isData_12 (zb_n (by omega)) hq4 (hP.sub [] rfl) (hD.sub [] (by decide) rfl) hS
  ·
    have z2 := zi_nle c2
    refine lv_iconst (v := 1) hx hb dX7_isData_7 (by decide) ?_
    refine lv_topi (fun v5 e5 => ?_)
    have z5 : v5.toInt = 1 := zi_c e5 (by decide)
    refine lv_goto (tgt := 12) hx hb dX7_isData_8 (by decide) ?_
    have hq6 : 0 ≤ v5.toInt ∧ v5.toInt ≤ 1 := (by omega)
    exact hret v5 () _ _ _ _ dX7_isData_12 (zb_n (by omega)) hq6 (hP.sub [] rfl) (hD.sub [] (by decide) rfl) hS

set_option maxHeartbeats 4000000 in
set_option maxRecDepth 100000 in
theorem c_Mo_isQuiet (l : Launch) (D : va_G) (cI cJ cB : ClassId) (x : Int32)  :
    cti l yX7_isQuiet (wsOf yX7_isQuiet cX7_isQuiet 1 (some .boolean)) (rmL 0 0 0 0) D classes (tys3 cI cJ cB) [.int x] [] (fun (r : Int32) (u : Unit) => 0 ≤ r.toInt ∧ r.toInt ≤ 1) (fun u : Unit => ([] : va_W)) := by
  refine ctz.of (by first | exact plainFor_of_name (by decide) | decide +kernel) (Nat.le_of_ble_eq_true rfl) (fun p e s m args below meth c A ls Q h hret => ?_)
  obtain ⟨hx, hb, hml, hown, hts, hnm, hP, hK, hD, hA, hS, hZ, hN, hl⟩ := h
  have hown : s.vm.findClass RX7 = some m.cls := hown
  have hl : lv_has ls 1 [(0, .int x)] := hl
  have hP : va_P D classes [] s.heap := hP
  have hD : va_D A [] := hD
  have rg_x := zi_rg x
  refine lv_iload_n hx hb dX7_isQuiet_0 rfl (lv_at hl 0 rfl) ?_
  refine lv_sipush (v := 256) hx hb dX7_isQuiet_1 (by decide) ?_
  refine lv_topi (fun v1 e1 => ?_)
  have z1 : v1.toInt = 256 := zi_c e1 (by decide)
  refine lv_icmp_eq (tgt := 14) hx hb dX7_isQuiet_4 (by decide) (fun c2 => ?_) (fun c2 => ?_)
  ·
    have z2 := zi_eq c2
    refine lv_iconst (v := 1) hx hb dX7_isQuiet_14 (by decide) ?_
    refine lv_topi (fun v3 e3 => ?_)
    have z3 : v3.toInt = 1 := zi_c e3 (by decide)
    refine lv_goto (tgt := 19) hx hb dX7_isQuiet_15 (by decide) ?_
    have hq4 : 0 ≤ v3.toInt ∧ v3.toInt ≤ 1 := (by omega)
    exact hret v3 () _ _ _ _ dX7_isQuiet_19 (zb_n (by omega)) hq4 (hP.sub [] rfl) (hD.sub [] (by decide) rfl) hS
  ·
    have z2 := zi_ne c2
    refine lv_iload_n hx hb dX7_isQuiet_7 rfl (lv_at hl 0 rfl) ?_
    refine lv_sipush (v := 259) hx hb dX7_isQuiet_8 (by decide) ?_
    refine lv_topi (fun v5 e5 => ?_)
    have z5 : v5.toInt = 259 := zi_c e5 (by decide)
    refine lv_icmp_ne (tgt := 18) hx hb dX7_isQuiet_11 (by decide) (fun c6 => ?_) (fun c6 => ?_)
    ·
      have z6 := zi_ne c6
      refine lv_iconst (v := 0) hx hb dX7_isQuiet_18 (by decide) ?_
      refine lv_topi (fun v7 e7 => ?_)
      have z7 : v7.toInt = 0 := zi_c e7 (by decide)
      have hq8 : 0 ≤ v7.toInt ∧ v7.toInt ≤ 1 := (by omega)
      exact hret v7 () _ _ _ _ dX7_isQuiet_19 (zb_n (by omega)) hq8 (hP.sub [] rfl) (hD.sub [] (by decide) rfl) hS
    ·
      have z6 := zi_eq c6
      refine lv_iconst (v := 1) hx hb dX7_isQuiet_14 (by decide) ?_
      refine lv_topi (fun v9 e9 => ?_)
      have z9 : v9.toInt = 1 := zi_c e9 (by decide)
      refine lv_goto (tgt := 19) hx hb dX7_isQuiet_15 (by decide) ?_
      have hq10 : 0 ≤ v9.toInt ∧ v9.toInt ≤ 1 := (by omega)
      exact hret v9 () _ _ _ _ dX7_isQuiet_19 (zb_n (by omega)) hq10 (hP.sub [] rfl) (hD.sub [] (by decide) rfl) hS

set_option maxHeartbeats 4000000 in
set_option maxRecDepth 100000 in
theorem c_Mo_are (l : Launch) (D : va_G) (cI cJ cB : ClassId) (aM : Nat) (bG : Nat) (bL : Nat) (bY : Nat) (bB : Nat) (bC : Nat) (bT : Nat) (th : Int32) (mw : Int32) (mz : Int32) (tk : Int32) (ss : Int32) (ml : Int32) (mh : Int32) (mp : Int32) (rw : Int32) (wr : Int32) (tc : Int32) (gg : Nat → Int32) (fr : Int32) (to : Int32) (da : Int32) (h1 : 0 ≤ fr.toInt ∧ fr.toInt ≤ 8) (h2 : 0 ≤ to.toInt ∧ to.toInt ≤ 8) :
    cti l yX7_are (wsOf yX7_are cX7_are 6 (some .boolean)) (rmL 1 20 0 0) D classes (tys3 cI cJ cB) [.ref aM, .int fr, .int to, .int da] [(aM, .inr (6, [.int th, .int mw, .ref bG, .int mz, .ref bL, .ref bY, .ref bB, .ref bC, .int tk, .int ss, .int ml, .int mh, .int mp, .int rw, .int wr, .int tc, .ref bT])), (bG, .inl (cI, 8, .inl gg))] (fun (r : Int32) (u : Unit) => 0 ≤ r.toInt ∧ r.toInt ≤ 1) (fun u : Unit => ([(aM, .inr (6, [.int th, .int mw, .ref bG, .int mz, .ref bL, .ref bY, .ref bB, .ref bC, .int tk, .int ss, .int ml, .int mh, .int mp, .int rw, .int wr, .int tc, .ref bT])), (bG, .inl (cI, 8, .inl gg))] : va_W)) := by
  refine ctz.of (by first | exact plainFor_of_name (by decide) | decide +kernel) (Nat.le_of_ble_eq_true rfl) (fun p e s m args below meth c A ls Q h hret => ?_)
  obtain ⟨hx, hb, hml, hown, hts, hnm, hP, hK, hD, hA, hS, hZ, hN, hl⟩ := h
  have hown : s.vm.findClass RX7 = some m.cls := hown
  have hl : lv_has ls 6 [(0, .ref aM), (1, .int fr), (2, .int to), (3, .int da)] := hl
  have hP : va_P D classes [(aM, .inr (6, [.int th, .int mw, .ref bG, .int mz, .ref bL, .ref bY, .ref bB, .ref bC, .int tk, .int ss, .int ml, .int mh, .int mp, .int rw, .int wr, .int tc, .ref bT])), (bG, .inl (cI, 8, .inl gg))] s.heap := hP
  have hD : va_D A [(aM, .inr (6, [.int th, .int mw, .ref bG, .int mz, .ref bL, .ref bY, .ref bB, .ref bC, .int tk, .int ss, .int ml, .int mh, .int mp, .int rw, .int wr, .int tc, .ref bT])), (bG, .inl (cI, 8, .inl gg))] := hD
  have rg_th := zi_rg th
  have rg_mw := zi_rg mw
  have rg_mz := zi_rg mz
  have rg_tk := zi_rg tk
  have rg_ss := zi_rg ss
  have rg_ml := zi_rg ml
  have rg_mh := zi_rg mh
  have rg_mp := zi_rg mp
  have rg_rw := zi_rg rw
  have rg_wr := zi_rg wr
  have rg_tc := zi_rg tc
  have rg_fr := zi_rg fr
  have rg_to := zi_rg to
  have rg_da := zi_rg da
  refine lv_iconst (v := 1) hx hb dX7_are_0 (by decide) ?_
  refine lv_topi (fun v1 e1 => ?_)
  have z1 : v1.toInt = 1 := zi_c e1 (by decide)
  refine lv_istore (lv' := [(4, .int v1), (0, .ref aM), (1, .int fr), (2, .int to), (3, .int da)]) hx hb dX7_are_1 hl (by decide) rfl (fun ls hl => ?_)
  refine lv_iload_n hx hb dX7_are_3 rfl (lv_at hl 2 rfl) ?_
  refine lv_istore (lv' := [(5, .int fr), (4, .int v1), (0, .ref aM), (1, .int fr), (2, .int to), (3, .int da)]) hx hb dX7_are_4 hl (by decide) rfl (fun ls hl => ?_)
  have J6 : ∀ (n : Nat) (al : Int32) (k : Int32) (H : Heap) (locs : List Loc) (ls : Array Slot), ((8 - k.toInt).toNat) < n → (0 ≤ al.toInt ∧ al.toInt ≤ 1) → (0 ≤ k.toInt ∧ k.toInt ≤ 8) → va_P D classes [(aM, .inr (6, [.int th, .int mw, .ref bG, .int mz, .ref bL, .ref bY, .ref bB, .ref bC, .int tk, .int ss, .int ml, .int mh, .int mp, .int rw, .int wr, .int tc, .ref bT])), (bG, .inl (cI, 8, .inl gg))] H → va_D A [(aM, .inr (6, [.int th, .int mw, .ref bG, .int mz, .ref bL, .ref bY, .ref bB, .ref bC, .int tk, .int ss, .int ml, .int mh, .int mp, .int rw, .int wr, .int tc, .ref bT])), (bG, .inl (cI, 8, .inl gg))] → va_S A s.heap H locs → lv_has ls 6 [(0, .ref aM), (1, .int fr), (2, .int to), (3, .int da), (4, .int al), (5, .int k)] → W p l e (rmL 1 20 0 0) s m args below meth c H locs 0 0 Q (F0 m 6 ls []) := by
    intro n
    induction n with
    | zero => intro al k H locs ls hmu; exact absurd hmu (Nat.not_lt_zero _)
    | succ n ih6 =>
      intro al k H locs ls hmu6 i6_0 i6_1 hP hD hS hl
      have rg_al := zi_rg al
      have rg_k := zi_rg k
      refine lv_iload hx hb dX7_are_6 (lv_at hl 5 rfl) ?_
      refine lv_iload_n hx hb dX7_are_8 rfl (lv_at hl 2 rfl) ?_
      refine lv_icmp_ge (tgt := 63) hx hb dX7_are_9 (by decide) (fun c2 => ?_) (fun c2 => ?_)
      ·
        have z2 := zi_le c2
        refine lv_iload hx hb dX7_are_63 (lv_at hl 4 rfl) ?_
        have hq3 : 0 ≤ al.toInt ∧ al.toInt ≤ 1 := (by omega)
        exact hret al () _ _ _ _ dX7_are_65 (zb_n (by omega)) hq3 (hP.sub [0, 1] rfl) (hD.sub [0, 1] (by decide) rfl) hS
      ·
        have z2 := zi_nle c2
        refine lv_iload hx hb dX7_are_12 (lv_at hl 4 rfl) ?_
        refine lv_if_eq (tgt := 54) hx hb dX7_are_14 (by decide) (fun c4 => ?_) (fun c4 => ?_)
        ·
          have z4 := zi_eq0 c4
          refine lv_iconst (v := 0) hx hb dX7_are_54 (by decide) ?_
          refine lv_topi (fun v5 e5 => ?_)
          have z5 : v5.toInt = 0 := zi_c e5 (by decide)
          refine lv_istore (lv' := [(4, .int v5), (0, .ref aM), (1, .int fr), (2, .int to), (3, .int da), (5, .int k)]) hx hb dX7_are_55 hl (by decide) rfl (fun ls hl => ?_)
          obtain ⟨v6, e6⟩ : ∃ y : Int32, y = k + 1 := ⟨_, rfl⟩
          first | have z6 := zi_inc (z := 1) 1 (by decide) e6 (by omega) | skip
          refine lv_iinc (v := v6) (lv' := [(5, .int v6), (4, .int v5), (0, .ref aM), (1, .int fr), (2, .int to), (3, .int da)]) hx hb dX7_are_57 hl (k := 5) rfl (by rw [e6]; rfl) (by decide) rfl (fun ls hl => ?_)
          refine lv_goto (tgt := 6) hx hb dX7_are_60 (by decide) ?_
          exact ih6 v5 v6 _ _ _ (by omega) (by omega) (by omega) (hP.sub [0, 1] rfl) (hD.sub [0, 1] (by decide) rfl) hS (lv_sub hl [2, 3, 4, 5, 1, 0] rfl)
        ·
          have z4 := zi_ne0 c4
          refine lv_iload_n hx hb dX7_are_17 rfl (lv_at hl 3 rfl) ?_
          refine lv_if_eq (tgt := 37) hx hb dX7_are_18 (by decide) (fun c7 => ?_) (fun c7 => ?_)
          ·
            have z7 := zi_eq0 c7
            refine lv_aload_n hx hb dX7_are_37 rfl (lv_at hl 0 rfl) ?_
            refine va_get (D := D) (ci := 6) (v := .ref bG) (C := RX7) (T := TX7) (N := 17) hx hb hts in_X7 hown hK hP 0 rfl rfl 2 (by decide) (hts _ wk60) (fun _ h9 => h9) rfl dX7_are_38 ?_
            refine lv_iload hx hb dX7_are_41 (lv_at hl 5 rfl) ?_
            refine va_iald hx hb hK hP 1 0 rfl rfl (zi_in (by omega)) dX7_are_43 ?_
            refine lv_topi (fun v8 e8 => ?_)
            refine call_i (wc := []) (wr := [(aM, .inr (6, [.int th, .int mw, .ref bG, .int mz, .ref bL, .ref bY, .ref bB, .ref bC, .int tk, .int ss, .int ml, .int mh, .int mp, .int rw, .int wr, .int tc, .ref bT])), (bG, .inl (cI, 8, .inl gg))]) (run_S (As := [.int v8]) (rest := []) ks_RX7_44 ⟨by decide, by decide⟩ ⟨rfl, rfl⟩ ⟨hx, hb, hml, hown, hts⟩ (c_Mo_isQuiet l D cI cJ cB v8  _) ct_blind (ct_pre (wc := []) hK hP hD hS hA hZ hN [] (by decide) rfl rfl) rfl hl.1 rfl (Nat.le_of_ble_eq_true rfl) dX7_are_44 ⟨Nat.le_of_ble_eq_true rfl, Nat.le_of_ble_eq_true rfl⟩) hP hD hS hA [] [0, 1] rfl rfl (by decide) (by decide) (fun r9 u H locs hw9 hP1 hD1 hS1 => ?_)
            have hw9 : 0 ≤ r9.toInt ∧ r9.toInt ≤ 1 := hw9
            clear hP hD hS
            have hP : va_P D classes [(aM, .inr (6, [.int th, .int mw, .ref bG, .int mz, .ref bL, .ref bY, .ref bB, .ref bC, .int tk, .int ss, .int ml, .int mh, .int mp, .int rw, .int wr, .int tc, .ref bT])), (bG, .inl (cI, 8, .inl gg))] H := hP1
            have hD : va_D A [(aM, .inr (6, [.int th, .int mw, .ref bG, .int mz, .ref bL, .ref bY, .ref bB, .ref bC, .int tk, .int ss, .int ml, .int mh, .int mp, .int rw, .int wr, .int tc, .ref bT])), (bG, .inl (cI, 8, .inl gg))] := hD1
            have hS := hS1
            clear hP1 hD1 hS1
            have rg_r9 := zi_rg r9
            refine lv_if_eq (tgt := 54) hx hb dX7_are_47 (by decide) (fun c10 => ?_) (fun c10 => ?_)
            ·
              have z10 := zi_eq0 c10
              refine lv_iconst (v := 0) hx hb dX7_are_54 (by decide) ?_
              refine lv_topi (fun v11 e11 => ?_)
              have z11 : v11.toInt = 0 := zi_c e11 (by decide)
              refine lv_istore (lv' := [(4, .int v11), (0, .ref aM), (1, .int fr), (2, .int to), (3, .int da), (5, .int k)]) hx hb dX7_are_55 hl (by decide) rfl (fun ls hl => ?_)
              obtain ⟨v12, e12⟩ : ∃ y : Int32, y = k + 1 := ⟨_, rfl⟩
              first | have z12 := zi_inc (z := 1) 1 (by decide) e12 (by omega) | skip
              refine lv_iinc (v := v12) (lv' := [(5, .int v12), (4, .int v11), (0, .ref aM), (1, .int fr), (2, .int to), (3, .int da)]) hx hb dX7_are_57 hl (k := 5) rfl (by rw [e12]; rfl) (by decide) rfl (fun ls hl => ?_)
              refine lv_goto (tgt := 6) hx hb dX7_are_60 (by decide) ?_
              exact ih6 v11 v12 _ _ _ (by omega) (by omega) (by omega) (hP.sub [0, 1] rfl) (hD.sub [0, 1] (by decide) rfl) hS (lv_sub hl [2, 3, 4, 5, 1, 0] rfl)
            ·
              have z10 := zi_ne0 c10
              refine lv_iconst (v := 1) hx hb dX7_are_50 (by decide) ?_
              refine lv_topi (fun v13 e13 => ?_)
              have z13 : v13.toInt = 1 := zi_c e13 (by decide)
              refine lv_goto (tgt := 55) hx hb dX7_are_51 (by decide) ?_
              refine lv_istore (lv' := [(4, .int v13), (0, .ref aM), (1, .int fr), (2, .int to), (3, .int da), (5, .int k)]) hx hb dX7_are_55 hl (by decide) rfl (fun ls hl => ?_)
              obtain ⟨v14, e14⟩ : ∃ y : Int32, y = k + 1 := ⟨_, rfl⟩
              first | have z14 := zi_inc (z := 1) 1 (by decide) e14 (by omega) | skip
              refine lv_iinc (v := v14) (lv' := [(5, .int v14), (4, .int v13), (0, .ref aM), (1, .int fr), (2, .int to), (3, .int da)]) hx hb dX7_are_57 hl (k := 5) rfl (by rw [e14]; rfl) (by decide) rfl (fun ls hl => ?_)
              refine lv_goto (tgt := 6) hx hb dX7_are_60 (by decide) ?_
              exact ih6 v13 v14 _ _ _ (by omega) (by omega) (by omega) (hP.sub [0, 1] rfl) (hD.sub [0, 1] (by decide) rfl) hS (lv_sub hl [2, 3, 4, 5, 1, 0] rfl)
          ·
            have z7 := zi_ne0 c7
            refine lv_aload_n hx hb dX7_are_21 rfl (lv_at hl 0 rfl) ?_
            refine va_get (D := D) (ci := 6) (v := .ref bG) (C := RX7) (T := TX7) (N := 17) hx hb hts in_X7 hown hK hP 0 rfl rfl 2 (by decide) (hts _ wk60) (fun _ h9 => h9) rfl dX7_are_22 ?_
            refine lv_iload hx hb dX7_are_25 (lv_at hl 5 rfl) ?_
            refine va_iald hx hb hK hP 1 0 rfl rfl (zi_in (by omega)) dX7_are_27 ?_
            refine lv_topi (fun v15 e15 => ?_)
            refine call_i (wc := []) (wr := [(aM, .inr (6, [.int th, .int mw, .ref bG, .int mz, .ref bL, .ref bY, .ref bB, .ref bC, .int tk, .int ss, .int ml, .int mh, .int mp, .int rw, .int wr, .int tc, .ref bT])), (bG, .inl (cI, 8, .inl gg))]) (run_S (As := [.int v15]) (rest := []) ks_RX7_40 ⟨by decide, by decide⟩ ⟨rfl, rfl⟩ ⟨hx, hb, hml, hown, hts⟩ (c_Mo_isData l D cI cJ cB v15  _) ct_blind (ct_pre (wc := []) hK hP hD hS hA hZ hN [] (by decide) rfl rfl) rfl hl.1 rfl (Nat.le_of_ble_eq_true rfl) dX7_are_28 ⟨Nat.le_of_ble_eq_true rfl, Nat.le_of_ble_eq_true rfl⟩) hP hD hS hA [] [0, 1] rfl rfl (by decide) (by decide) (fun r16 u H locs hw16 hP1 hD1 hS1 => ?_)
            have hw16 : 0 ≤ r16.toInt ∧ r16.toInt ≤ 1 := hw16
            clear hP hD hS
            have hP : va_P D classes [(aM, .inr (6, [.int th, .int mw, .ref bG, .int mz, .ref bL, .ref bY, .ref bB, .ref bC, .int tk, .int ss, .int ml, .int mh, .int mp, .int rw, .int wr, .int tc, .ref bT])), (bG, .inl (cI, 8, .inl gg))] H := hP1
            have hD : va_D A [(aM, .inr (6, [.int th, .int mw, .ref bG, .int mz, .ref bL, .ref bY, .ref bB, .ref bC, .int tk, .int ss, .int ml, .int mh, .int mp, .int rw, .int wr, .int tc, .ref bT])), (bG, .inl (cI, 8, .inl gg))] := hD1
            have hS := hS1
            clear hP1 hD1 hS1
            have rg_r16 := zi_rg r16
            refine lv_if_eq (tgt := 54) hx hb dX7_are_31 (by decide) (fun c17 => ?_) (fun c17 => ?_)
            ·
              have z17 := zi_eq0 c17
              refine lv_iconst (v := 0) hx hb dX7_are_54 (by decide) ?_
              refine lv_topi (fun v18 e18 => ?_)
              have z18 : v18.toInt = 0 := zi_c e18 (by decide)
              refine lv_istore (lv' := [(4, .int v18), (0, .ref aM), (1, .int fr), (2, .int to), (3, .int da), (5, .int k)]) hx hb dX7_are_55 hl (by decide) rfl (fun ls hl => ?_)
              obtain ⟨v19, e19⟩ : ∃ y : Int32, y = k + 1 := ⟨_, rfl⟩
              first | have z19 := zi_inc (z := 1) 1 (by decide) e19 (by omega) | skip
              refine lv_iinc (v := v19) (lv' := [(5, .int v19), (4, .int v18), (0, .ref aM), (1, .int fr), (2, .int to), (3, .int da)]) hx hb dX7_are_57 hl (k := 5) rfl (by rw [e19]; rfl) (by decide) rfl (fun ls hl => ?_)
              refine lv_goto (tgt := 6) hx hb dX7_are_60 (by decide) ?_
              exact ih6 v18 v19 _ _ _ (by omega) (by omega) (by omega) (hP.sub [0, 1] rfl) (hD.sub [0, 1] (by decide) rfl) hS (lv_sub hl [2, 3, 4, 5, 1, 0] rfl)
            ·
              have z17 := zi_ne0 c17
              refine lv_goto (tgt := 50) hx hb dX7_are_34 (by decide) ?_
              refine lv_iconst (v := 1) hx hb dX7_are_50 (by decide) ?_
              refine lv_topi (fun v20 e20 => ?_)
              have z20 : v20.toInt = 1 := zi_c e20 (by decide)
              refine lv_goto (tgt := 55) hx hb dX7_are_51 (by decide) ?_
              refine lv_istore (lv' := [(4, .int v20), (0, .ref aM), (1, .int fr), (2, .int to), (3, .int da), (5, .int k)]) hx hb dX7_are_55 hl (by decide) rfl (fun ls hl => ?_)
              obtain ⟨v21, e21⟩ : ∃ y : Int32, y = k + 1 := ⟨_, rfl⟩
              first | have z21 := zi_inc (z := 1) 1 (by decide) e21 (by omega) | skip
              refine lv_iinc (v := v21) (lv' := [(5, .int v21), (4, .int v20), (0, .ref aM), (1, .int fr), (2, .int to), (3, .int da)]) hx hb dX7_are_57 hl (k := 5) rfl (by rw [e21]; rfl) (by decide) rfl (fun ls hl => ?_)
              refine lv_goto (tgt := 6) hx hb dX7_are_60 (by decide) ?_
              exact ih6 v20 v21 _ _ _ (by omega) (by omega) (by omega) (hP.sub [0, 1] rfl) (hD.sub [0, 1] (by decide) rfl) hS (lv_sub hl [2, 3, 4, 5, 1, 0] rfl)
  exact J6 _ v1 fr _ _ _ (Nat.lt_succ_self _) (by omega) (by omega) (hP.sub [0, 1] rfl) (hD.sub [0, 1] (by decide) rfl) hS (lv_sub hl [2, 3, 4, 5, 1, 0] rfl)

set_option maxHeartbeats 4000000 in
set_option maxRecDepth 100000 in
theorem c_Mo_typeOf (l : Launch) (D : va_G) (cI cJ cB : ClassId) (x : Int32)  :
    cti l yX7_typeOf (wsOf yX7_typeOf cX7_typeOf 1 (some .int)) (rmL 0 0 0 0) D classes (tys3 cI cJ cB) [.int x] [] (fun (r : Int32) (u : Unit) => True) (fun u : Unit => ([] : va_W)) := by
  refine cti.of (by first | exact plainFor_of_name (by decide) | decide +kernel) (Nat.le_of_ble_eq_true rfl) (fun p e s m args below meth c A ls Q h hret => ?_)
  obtain ⟨hx, hb, hml, hown, hts, hnm, hP, hK, hD, hA, hS, hZ, hN, hl⟩ := h
  have hown : s.vm.findClass RX7 = some m.cls := hown
  have hl : lv_has ls 1 [(0, .int x)] := hl
  have hP : va_P D classes [] s.heap := hP
  have hD : va_D A [] := hD
  have rg_x := zi_rg x
  refine lv_iload_n hx hb dX7_typeOf_0 rfl (lv_at hl 0 rfl) ?_
  refine lv_if_ne (tgt := 10) hx hb dX7_typeOf_1 (by decide) (fun c1 => ?_) (fun c1 => ?_)
  ·
    have z1 := zi_ne0 c1
    refine lv_iload_n hx hb dX7_typeOf_10 rfl (lv_at hl 0 rfl) ?_
    refine lv_iconst (v := 1) hx hb dX7_typeOf_11 (by decide) ?_
    refine lv_topi (fun v2 e2 => ?_)
    have z2 : v2.toInt = 1 := zi_c e2 (by decide)
    refine lv_icmp_ne (tgt := 21) hx hb dX7_typeOf_12 (by decide) (fun c3 => ?_) (fun c3 => ?_)
    ·
      have z3 := zi_ne c3
      refine lv_iload_n hx hb dX7_typeOf_21 rfl (lv_at hl 0 rfl) ?_
      refine lv_iconst (v := 2) hx hb dX7_typeOf_22 (by decide) ?_
      refine lv_topi (fun v4 e4 => ?_)
      have z4 : v4.toInt = 2 := zi_c e4 (by decide)
      refine lv_icmp_ne (tgt := 32) hx hb dX7_typeOf_23 (by decide) (fun c5 => ?_) (fun c5 => ?_)
      ·
        have z5 := zi_ne c5
        refine lv_iload_n hx hb dX7_typeOf_32 rfl (lv_at hl 0 rfl) ?_
        refine lv_iconst (v := 3) hx hb dX7_typeOf_33 (by decide) ?_
        refine lv_topi (fun v6 e6 => ?_)
        have z6 : v6.toInt = 3 := zi_c e6 (by decide)
        refine lv_icmp_ne (tgt := 43) hx hb dX7_typeOf_34 (by decide) (fun c7 => ?_) (fun c7 => ?_)
        ·
          have z7 := zi_ne c7
          refine lv_iload_n hx hb dX7_typeOf_43 rfl (lv_at hl 0 rfl) ?_
          refine lv_iconst (v := 4) hx hb dX7_typeOf_44 (by decide) ?_
          refine lv_topi (fun v8 e8 => ?_)
          have z8 : v8.toInt = 4 := zi_c e8 (by decide)
          refine lv_icmp_ne (tgt := 54) hx hb dX7_typeOf_45 (by decide) (fun c9 => ?_) (fun c9 => ?_)
          ·
            have z9 := zi_ne c9
            refine lv_iload_n hx hb dX7_typeOf_54 rfl (lv_at hl 0 rfl) ?_
            refine lv_iconst (v := 5) hx hb dX7_typeOf_55 (by decide) ?_
            refine lv_topi (fun v10 e10 => ?_)
            have z10 : v10.toInt = 5 := zi_c e10 (by decide)
            refine lv_icmp_ne (tgt := 65) hx hb dX7_typeOf_56 (by decide) (fun c11 => ?_) (fun c11 => ?_)
            ·
              have z11 := zi_ne c11
              refine lv_iload_n hx hb dX7_typeOf_65 rfl (lv_at hl 0 rfl) ?_
              refine lv_bipush (v := 6) hx hb dX7_typeOf_66 (by decide) ?_
              refine lv_topi (fun v12 e12 => ?_)
              have z12 : v12.toInt = 6 := zi_c e12 (by decide)
              refine lv_icmp_ne (tgt := 77) hx hb dX7_typeOf_68 (by decide) (fun c13 => ?_) (fun c13 => ?_)
              ·
                have z13 := zi_ne c13
                refine lv_sipush (v := 255) hx hb dX7_typeOf_77 (by decide) ?_
                refine lv_topi (fun v14 e14 => ?_)
                have z14 : v14.toInt = 255 := zi_c e14 (by decide)
                exact hret v14 () _ _ _ _ dX7_typeOf_80 trivial (hP.sub [] rfl) (hD.sub [] (by decide) rfl) hS
              ·
                have z13 := zi_eq c13
                refine lv_sipush (v := 225) hx hb dX7_typeOf_71 (by decide) ?_
                refine lv_topi (fun v16 e16 => ?_)
                have z16 : v16.toInt = 225 := zi_c e16 (by decide)
                refine lv_goto (tgt := 80) hx hb dX7_typeOf_74 (by decide) ?_
                exact hret v16 () _ _ _ _ dX7_typeOf_80 trivial (hP.sub [] rfl) (hD.sub [] (by decide) rfl) hS
            ·
              have z11 := zi_eq c11
              refine lv_sipush (v := 210) hx hb dX7_typeOf_59 (by decide) ?_
              refine lv_topi (fun v18 e18 => ?_)
              have z18 : v18.toInt = 210 := zi_c e18 (by decide)
              refine lv_goto (tgt := 80) hx hb dX7_typeOf_62 (by decide) ?_
              exact hret v18 () _ _ _ _ dX7_typeOf_80 trivial (hP.sub [] rfl) (hD.sub [] (by decide) rfl) hS
          ·
            have z9 := zi_eq c9
            refine lv_sipush (v := 204) hx hb dX7_typeOf_48 (by decide) ?_
            refine lv_topi (fun v20 e20 => ?_)
            have z20 : v20.toInt = 204 := zi_c e20 (by decide)
            refine lv_goto (tgt := 80) hx hb dX7_typeOf_51 (by decide) ?_
            exact hret v20 () _ _ _ _ dX7_typeOf_80 trivial (hP.sub [] rfl) (hD.sub [] (by decide) rfl) hS
        ·
          have z7 := zi_eq c7
          refine lv_sipush (v := 180) hx hb dX7_typeOf_37 (by decide) ?_
          refine lv_topi (fun v22 e22 => ?_)
          have z22 : v22.toInt = 180 := zi_c e22 (by decide)
          refine lv_goto (tgt := 80) hx hb dX7_typeOf_40 (by decide) ?_
          exact hret v22 () _ _ _ _ dX7_typeOf_80 trivial (hP.sub [] rfl) (hD.sub [] (by decide) rfl) hS
      ·
        have z5 := zi_eq c5
        refine lv_sipush (v := 170) hx hb dX7_typeOf_26 (by decide) ?_
        refine lv_topi (fun v24 e24 => ?_)
        have z24 : v24.toInt = 170 := zi_c e24 (by decide)
        refine lv_goto (tgt := 80) hx hb dX7_typeOf_29 (by decide) ?_
        exact hret v24 () _ _ _ _ dX7_typeOf_80 trivial (hP.sub [] rfl) (hD.sub [] (by decide) rfl) hS
    ·
      have z3 := zi_eq c3
      refine lv_sipush (v := 153) hx hb dX7_typeOf_15 (by decide) ?_
      refine lv_topi (fun v26 e26 => ?_)
      have z26 : v26.toInt = 153 := zi_c e26 (by decide)
      refine lv_goto (tgt := 80) hx hb dX7_typeOf_18 (by decide) ?_
      exact hret v26 () _ _ _ _ dX7_typeOf_80 trivial (hP.sub [] rfl) (hD.sub [] (by decide) rfl) hS
  ·
    have z1 := zi_eq0 c1
    refine lv_sipush (v := 135) hx hb dX7_typeOf_4 (by decide) ?_
    refine lv_topi (fun v28 e28 => ?_)
    have z28 : v28.toInt = 135 := zi_c e28 (by decide)
    refine lv_goto (tgt := 80) hx hb dX7_typeOf_7 (by decide) ?_
    exact hret v28 () _ _ _ _ dX7_typeOf_80 trivial (hP.sub [] rfl) (hD.sub [] (by decide) rfl) hS

set_option maxHeartbeats 4000000 in
set_option maxRecDepth 100000 in
theorem c_Mo_setBits (l : Launch) (D : va_G) (cI cJ cB : ClassId) (aM : Nat) (bG : Nat) (bL : Nat) (bY : Nat) (bB : Nat) (bC : Nat) (bT : Nat) (th : Int32) (mw : Int32) (mz : Int32) (tk : Int32) (ss : Int32) (ml : Int32) (mh : Int32) (mp : Int32) (rw : Int32) (wr : Int32) (tc : Int32) (gb : Nat → Int32) (x : Int32) (tt : Int32) (nn : Int32) (h1 : 0 ≤ tt.toInt ∧ 0 ≤ nn.toInt ∧ tt.toInt + nn.toInt ≤ 66) :
    ctv l yX7_setBits (wsOf yX7_setBits cX7_setBits 5 none) (rmL 0 0 0 0) D classes (tys3 cI cJ cB) [.ref aM, .int x, .int tt, .int nn] [(aM, .inr (6, [.int th, .int mw, .ref bG, .int mz, .ref bL, .ref bY, .ref bB, .ref bC, .int tk, .int ss, .int ml, .int mh, .int mp, .int rw, .int wr, .int tc, .ref bT])), (bB, .inl (cI, 66, .inl gb))] (fun u : (Nat → Int32) => True) (fun u : (Nat → Int32) => ([(aM, .inr (6, [.int th, .int mw, .ref bG, .int mz, .ref bL, .ref bY, .ref bB, .ref bC, .int tk, .int ss, .int ml, .int mh, .int mp, .int rw, .int wr, .int tc, .ref bT])), (bB, .inl (cI, 66, .inl u))] : va_W)) 0 0 := by
  refine ctv.of (by first | exact plainFor_of_name (by decide) | decide +kernel) (Nat.le_of_ble_eq_true rfl) (fun p e s m args below meth c A ls Q h hret => ?_)
  obtain ⟨hx, hb, hml, hown, hts, hnm, hP, hK, hD, hA, hS, hZ, hN, hl⟩ := h
  have hown : s.vm.findClass RX7 = some m.cls := hown
  have hl : lv_has ls 5 [(0, .ref aM), (1, .int x), (2, .int tt), (3, .int nn)] := hl
  have hP : va_P D classes [(aM, .inr (6, [.int th, .int mw, .ref bG, .int mz, .ref bL, .ref bY, .ref bB, .ref bC, .int tk, .int ss, .int ml, .int mh, .int mp, .int rw, .int wr, .int tc, .ref bT])), (bB, .inl (cI, 66, .inl gb))] s.heap := hP
  have hD : va_D A [(aM, .inr (6, [.int th, .int mw, .ref bG, .int mz, .ref bL, .ref bY, .ref bB, .ref bC, .int tk, .int ss, .int ml, .int mh, .int mp, .int rw, .int wr, .int tc, .ref bT])), (bB, .inl (cI, 66, .inl gb))] := hD
  have rg_th := zi_rg th
  have rg_mw := zi_rg mw
  have rg_mz := zi_rg mz
  have rg_tk := zi_rg tk
  have rg_ss := zi_rg ss
  have rg_ml := zi_rg ml
  have rg_mh := zi_rg mh
  have rg_mp := zi_rg mp
  have rg_rw := zi_rg rw
  have rg_wr := zi_rg wr
  have rg_tc := zi_rg tc
  have rg_x := zi_rg x
  have rg_tt := zi_rg tt
  have rg_nn := zi_rg nn
  refine lv_iconst (v := 0) hx hb dX7_setBits_0 (by decide) ?_
  refine lv_topi (fun v1 e1 => ?_)
  have z1 : v1.toInt = 0 := zi_c e1 (by decide)
  refine lv_istore (lv' := [(4, .int v1), (0, .ref aM), (1, .int x), (2, .int tt), (3, .int nn)]) hx hb dX7_setBits_1 hl (by decide) rfl (fun ls hl => ?_)
  have J3 : ∀ (n : Nat) (k : Int32) (gb3 : Nat → Int32) (H : Heap) (locs : List Loc) (ls : Array Slot), ((nn.toInt - k.toInt).toNat) < n → (0 ≤ k.toInt ∧ k.toInt ≤ nn.toInt) → va_P D classes [(aM, .inr (6, [.int th, .int mw, .ref bG, .int mz, .ref bL, .ref bY, .ref bB, .ref bC, .int tk, .int ss, .int ml, .int mh, .int mp, .int rw, .int wr, .int tc, .ref bT])), (bB, .inl (cI, 66, .inl gb3))] H → va_D A [(aM, .inr (6, [.int th, .int mw, .ref bG, .int mz, .ref bL, .ref bY, .ref bB, .ref bC, .int tk, .int ss, .int ml, .int mh, .int mp, .int rw, .int wr, .int tc, .ref bT])), (bB, .inl (cI, 66, .inl gb3))] → va_S A s.heap H locs → lv_has ls 5 [(0, .ref aM), (1, .int x), (2, .int tt), (3, .int nn), (4, .int k)] → W p l e (rmL 0 0 0 0) s m args below meth c H locs 0 0 Q (F0 m 3 ls []) := by
    intro n
    induction n with
    | zero => intro k gb3 H locs ls hmu; exact absurd hmu (Nat.not_lt_zero _)
    | succ n ih3 =>
      intro k gb3 H locs ls hmu3 i3_0 hP hD hS hl
      have rg_k := zi_rg k
      refine lv_iload hx hb dX7_setBits_3 (lv_at hl 4 rfl) ?_
      refine lv_iload_n hx hb dX7_setBits_5 rfl (lv_at hl 3 rfl) ?_
      refine lv_icmp_ge (tgt := 30) hx hb dX7_setBits_6 (by decide) (fun c2 => ?_) (fun c2 => ?_)
      ·
        have z2 := zi_le c2
        exact hret gb3 _ _ _ _ dX7_setBits_30 trivial (hP.sub [0, 1] rfl) (hD.sub [0, 1] (by decide) rfl) hS
      ·
        have z2 := zi_nle c2
        refine lv_aload_n hx hb dX7_setBits_9 rfl (lv_at hl 0 rfl) ?_
        refine va_get (D := D) (ci := 6) (v := .ref bB) (C := RX7) (T := TX7) (N := 17) hx hb hts in_X7 hown hK hP 0 rfl rfl 6 (by decide) (hts _ wk64) (fun _ h9 => h9) rfl dX7_setBits_10 ?_
        refine lv_iload_n hx hb dX7_setBits_13 rfl (lv_at hl 2 rfl) ?_
        refine lv_iload hx hb dX7_setBits_14 (lv_at hl 4 rfl) ?_
        refine lv_iadd hx hb dX7_setBits_16 ?_
        refine lv_topi (fun v4 e4 => ?_)
        first | have z4 := zi_add e4 (by omega) | skip
        refine lv_iload_n hx hb dX7_setBits_17 rfl (lv_at hl 1 rfl) ?_
        refine lv_iload hx hb dX7_setBits_18 (lv_at hl 4 rfl) ?_
        refine lv_ishr hx hb dX7_setBits_20 ?_
        refine lv_topi (fun v5 e5 => ?_)
        refine lv_iconst (v := 1) hx hb dX7_setBits_21 (by decide) ?_
        refine lv_topi (fun v6 e6 => ?_)
        have z6 : v6.toInt = 1 := zi_c e6 (by decide)
        refine lv_iand hx hb dX7_setBits_22 ?_
        refine lv_topi (fun v7 e7 => ?_)
        have z7 := zi_and e7 e6 1 (z := 2) (by decide) (by decide) (by decide)
        obtain ⟨f8, ef8⟩ : ∃ z9, z9 = upd gb3 v4.toNatClampNeg v7 := ⟨_, rfl⟩
        refine va_iast hx hb hK hP hD hS 1 0 rfl rfl (zi_in (by omega)) dX7_setBits_23 (fun H locs hP1 hD1 hS1 => ?_)
        rw [← ef8] at hP1 hD1
        clear hP hD hS
        have hP : va_P D classes [(aM, .inr (6, [.int th, .int mw, .ref bG, .int mz, .ref bL, .ref bY, .ref bB, .ref bC, .int tk, .int ss, .int ml, .int mh, .int mp, .int rw, .int wr, .int tc, .ref bT])), (bB, .inl (cI, 66, .inl f8))] H := hP1
        have hD : va_D A [(aM, .inr (6, [.int th, .int mw, .ref bG, .int mz, .ref bL, .ref bY, .ref bB, .ref bC, .int tk, .int ss, .int ml, .int mh, .int mp, .int rw, .int wr, .int tc, .ref bT])), (bB, .inl (cI, 66, .inl f8))] := hD1
        have hS := hS1
        clear hP1 hD1 hS1
        obtain ⟨v9, e9⟩ : ∃ y : Int32, y = k + 1 := ⟨_, rfl⟩
        first | have z9 := zi_inc (z := 1) 1 (by decide) e9 (by omega) | skip
        refine lv_iinc (v := v9) (lv' := [(4, .int v9), (0, .ref aM), (1, .int x), (2, .int tt), (3, .int nn)]) hx hb dX7_setBits_24 hl (k := 4) rfl (by rw [e9]; rfl) (by decide) rfl (fun ls hl => ?_)
        refine lv_goto (tgt := 3) hx hb dX7_setBits_27 (by decide) ?_
        exact ih3 v9 f8 _ _ _ (by omega) (by omega) (hP.sub [0, 1] rfl) (hD.sub [0, 1] (by decide) rfl) hS (lv_sub hl [1, 2, 3, 4, 0] rfl)
  exact J3 _ v1 gb _ _ _ (Nat.lt_succ_self _) (by omega) (hP.sub [0, 1] rfl) (hD.sub [0, 1] (by decide) rfl) hS (lv_sub hl [1, 2, 3, 4, 0] rfl)

set_option maxHeartbeats 4000000 in
set_option maxRecDepth 100000 in
theorem c_Mo_putCode (l : Launch) (D : va_G) (cI cJ cB : ClassId) (aM : Nat) (bG : Nat) (bL : Nat) (bY : Nat) (bB : Nat) (bC : Nat) (bT : Nat) (th : Int32) (mw : Int32) (mz : Int32) (tk : Int32) (ss : Int32) (ml : Int32) (mh : Int32) (mp : Int32) (rw : Int32) (wr : Int32) (tc : Int32) (gg : Nat → Int32) (gb : Nat → Int32) (x : Int32) (tt : Int32) (h1 : 0 ≤ x.toInt ∧ x.toInt < 8) (h2 : 0 ≤ tt.toInt ∧ tt.toInt + 7 ≤ 66) :
    ctv l yX7_putCode (wsOf yX7_putCode cX7_putCode 3 none) (rmL 1 24 0 0) D classes (tys3 cI cJ cB) [.ref aM, .int x, .int tt] [(aM, .inr (6, [.int th, .int mw, .ref bG, .int mz, .ref bL, .ref bY, .ref bB, .ref bC, .int tk, .int ss, .int ml, .int mh, .int mp, .int rw, .int wr, .int tc, .ref bT])), (bG, .inl (cI, 8, .inl gg)), (bB, .inl (cI, 66, .inl gb))] (fun u : (Nat → Int32) => True) (fun u : (Nat → Int32) => ([(aM, .inr (6, [.int th, .int mw, .ref bG, .int mz, .ref bL, .ref bY, .ref bB, .ref bC, .int tk, .int ss, .int ml, .int mh, .int mp, .int rw, .int wr, .int tc, .ref bT])), (bG, .inl (cI, 8, .inl gg)), (bB, .inl (cI, 66, .inl u))] : va_W)) 0 0 := by
  refine ctv.of (by first | exact plainFor_of_name (by decide) | decide +kernel) (Nat.le_of_ble_eq_true rfl) (fun p e s m args below meth c A ls Q h hret => ?_)
  obtain ⟨hx, hb, hml, hown, hts, hnm, hP, hK, hD, hA, hS, hZ, hN, hl⟩ := h
  have hown : s.vm.findClass RX7 = some m.cls := hown
  have hl : lv_has ls 3 [(0, .ref aM), (1, .int x), (2, .int tt)] := hl
  have hP : va_P D classes [(aM, .inr (6, [.int th, .int mw, .ref bG, .int mz, .ref bL, .ref bY, .ref bB, .ref bC, .int tk, .int ss, .int ml, .int mh, .int mp, .int rw, .int wr, .int tc, .ref bT])), (bG, .inl (cI, 8, .inl gg)), (bB, .inl (cI, 66, .inl gb))] s.heap := hP
  have hD : va_D A [(aM, .inr (6, [.int th, .int mw, .ref bG, .int mz, .ref bL, .ref bY, .ref bB, .ref bC, .int tk, .int ss, .int ml, .int mh, .int mp, .int rw, .int wr, .int tc, .ref bT])), (bG, .inl (cI, 8, .inl gg)), (bB, .inl (cI, 66, .inl gb))] := hD
  have rg_th := zi_rg th
  have rg_mw := zi_rg mw
  have rg_mz := zi_rg mz
  have rg_tk := zi_rg tk
  have rg_ss := zi_rg ss
  have rg_ml := zi_rg ml
  have rg_mh := zi_rg mh
  have rg_mp := zi_rg mp
  have rg_rw := zi_rg rw
  have rg_wr := zi_rg wr
  have rg_tc := zi_rg tc
  have rg_x := zi_rg x
  have rg_tt := zi_rg tt
  refine lv_aload_n hx hb dX7_putCode_0 rfl (lv_at hl 0 rfl) ?_
  refine lv_aload_n hx hb dX7_putCode_1 rfl (lv_at hl 0 rfl) ?_
  refine va_get (D := D) (ci := 6) (v := .ref bG) (C := RX7) (T := TX7) (N := 17) hx hb hts in_X7 hown hK hP 0 rfl rfl 2 (by decide) (hts _ wk60) (fun _ h9 => h9) rfl dX7_putCode_2 ?_
  refine lv_iload_n hx hb dX7_putCode_5 rfl (lv_at hl 1 rfl) ?_
  refine va_iald hx hb hK hP 1 0 rfl rfl (zi_in (by omega)) dX7_putCode_6 ?_
  refine lv_topi (fun v1 e1 => ?_)
  refine lv_sipush (v := 256) hx hb dX7_putCode_7 (by decide) ?_
  refine lv_topi (fun v2 e2 => ?_)
  have z2 : v2.toInt = 256 := zi_c e2 (by decide)
  refine lv_icmp_ne (tgt := 17) hx hb dX7_putCode_10 (by decide) (fun c3 => ?_) (fun c3 => ?_)
  ·
    have z3 := zi_ne c3
    refine lv_bipush (v := 30) hx hb dX7_putCode_17 (by decide) ?_
    refine lv_topi (fun v4 e4 => ?_)
    have z4 : v4.toInt = 30 := zi_c e4 (by decide)
    refine lv_iload_n hx hb dX7_putCode_19 rfl (lv_at hl 2 rfl) ?_
    refine lv_bipush (v := 7) hx hb dX7_putCode_20 (by decide) ?_
    refine lv_topi (fun v5 e5 => ?_)
    have z5 : v5.toInt = 7 := zi_c e5 (by decide)
    have hh6 : 0 ≤ tt.toInt ∧ 0 ≤ v5.toInt ∧ tt.toInt + v5.toInt ≤ 66 := (by omega)
    refine call_v (wc := [(aM, .inr (6, [.int th, .int mw, .ref bG, .int mz, .ref bL, .ref bY, .ref bB, .ref bC, .int tk, .int ss, .int ml, .int mh, .int mp, .int rw, .int wr, .int tc, .ref bT])), (bB, .inl (cI, 66, .inl gb))]) (wr := [(bG, .inl (cI, 8, .inl gg))]) (run_V (As := [.int v4, .int tt, .int v5]) (rest := []) kv_RX7_47 ⟨by decide, by decide⟩ ⟨rfl, rfl⟩ ⟨hx, hb, hml, hown, hts⟩ (c_Mo_setBits l D cI cJ cB aM bG bL bY bB bC bT th mw mz tk ss ml mh mp rw wr tc gb v4 tt v5 hh6 _) ct_blind (ct_pre (wc := [(aM, .inr (6, [.int th, .int mw, .ref bG, .int mz, .ref bL, .ref bY, .ref bB, .ref bC, .int tk, .int ss, .int ml, .int mh, .int mp, .int rw, .int wr, .int tc, .ref bT])), (bB, .inl (cI, 66, .inl gb))]) hK hP hD hS hA hZ hN [0, 2] (by decide) rfl rfl) (va_recv hK hP (ci := 6) (q0 := 0) rfl rfl) rfl hl.1 rfl (Nat.le_of_ble_eq_true rfl) dX7_putCode_22 ⟨Nat.le_of_ble_eq_true rfl, Nat.le_of_ble_eq_true rfl⟩) hP hD hS hA [0, 2] [1] rfl rfl (by decide) (by decide) (fun u H locs hw7 hP1 hD1 hS1 => ?_)
    obtain ⟨gb2_7, hu9⟩ : ∃ z, z = u := ⟨_, rfl⟩
    subst hu9
    clear hw7
    clear hP hD hS
    have hP : va_P D classes [(bG, .inl (cI, 8, .inl gg)), (aM, .inr (6, [.int th, .int mw, .ref bG, .int mz, .ref bL, .ref bY, .ref bB, .ref bC, .int tk, .int ss, .int ml, .int mh, .int mp, .int rw, .int wr, .int tc, .ref bT])), (bB, .inl (cI, 66, .inl gb2_7))] H := hP1
    have hD : va_D A [(bG, .inl (cI, 8, .inl gg)), (aM, .inr (6, [.int th, .int mw, .ref bG, .int mz, .ref bL, .ref bY, .ref bB, .ref bC, .int tk, .int ss, .int ml, .int mh, .int mp, .int rw, .int wr, .int tc, .ref bT])), (bB, .inl (cI, 66, .inl gb2_7))] := hD1
    have hS := hS1
    clear hP1 hD1 hS1
    exact hret gb2_7 _ _ _ _ dX7_putCode_25 trivial (hP.sub [1, 0, 2] rfl) (hD.sub [1, 0, 2] (by decide) rfl) hS
  ·
    have z3 := zi_eq c3
    refine lv_iconst (v := 0) hx hb dX7_putCode_13 (by decide) ?_
    refine lv_topi (fun v9 e9 => ?_)
    have z9 : v9.toInt = 0 := zi_c e9 (by decide)
    refine lv_goto (tgt := 19) hx hb dX7_putCode_14 (by decide) ?_
    refine lv_iload_n hx hb dX7_putCode_19 rfl (lv_at hl 2 rfl) ?_
    refine lv_bipush (v := 7) hx hb dX7_putCode_20 (by decide) ?_
    refine lv_topi (fun v10 e10 => ?_)
    have z10 : v10.toInt = 7 := zi_c e10 (by decide)
    have hh11 : 0 ≤ tt.toInt ∧ 0 ≤ v10.toInt ∧ tt.toInt + v10.toInt ≤ 66 := (by omega)
    refine call_v (wc := [(aM, .inr (6, [.int th, .int mw, .ref bG, .int mz, .ref bL, .ref bY, .ref bB, .ref bC, .int tk, .int ss, .int ml, .int mh, .int mp, .int rw, .int wr, .int tc, .ref bT])), (bB, .inl (cI, 66, .inl gb))]) (wr := [(bG, .inl (cI, 8, .inl gg))]) (run_V (As := [.int v9, .int tt, .int v10]) (rest := []) kv_RX7_47 ⟨by decide, by decide⟩ ⟨rfl, rfl⟩ ⟨hx, hb, hml, hown, hts⟩ (c_Mo_setBits l D cI cJ cB aM bG bL bY bB bC bT th mw mz tk ss ml mh mp rw wr tc gb v9 tt v10 hh11 _) ct_blind (ct_pre (wc := [(aM, .inr (6, [.int th, .int mw, .ref bG, .int mz, .ref bL, .ref bY, .ref bB, .ref bC, .int tk, .int ss, .int ml, .int mh, .int mp, .int rw, .int wr, .int tc, .ref bT])), (bB, .inl (cI, 66, .inl gb))]) hK hP hD hS hA hZ hN [0, 2] (by decide) rfl rfl) (va_recv hK hP (ci := 6) (q0 := 0) rfl rfl) rfl hl.1 rfl (Nat.le_of_ble_eq_true rfl) dX7_putCode_22 ⟨Nat.le_of_ble_eq_true rfl, Nat.le_of_ble_eq_true rfl⟩) hP hD hS hA [0, 2] [1] rfl rfl (by decide) (by decide) (fun u H locs hw12 hP1 hD1 hS1 => ?_)
    obtain ⟨gb2_12, hu9⟩ : ∃ z, z = u := ⟨_, rfl⟩
    subst hu9
    clear hw12
    clear hP hD hS
    have hP : va_P D classes [(bG, .inl (cI, 8, .inl gg)), (aM, .inr (6, [.int th, .int mw, .ref bG, .int mz, .ref bL, .ref bY, .ref bB, .ref bC, .int tk, .int ss, .int ml, .int mh, .int mp, .int rw, .int wr, .int tc, .ref bT])), (bB, .inl (cI, 66, .inl gb2_12))] H := hP1
    have hD : va_D A [(bG, .inl (cI, 8, .inl gg)), (aM, .inr (6, [.int th, .int mw, .ref bG, .int mz, .ref bL, .ref bY, .ref bB, .ref bC, .int tk, .int ss, .int ml, .int mh, .int mp, .int rw, .int wr, .int tc, .ref bT])), (bB, .inl (cI, 66, .inl gb2_12))] := hD1
    have hS := hS1
    clear hP1 hD1 hS1
    exact hret gb2_12 _ _ _ _ dX7_putCode_25 trivial (hP.sub [1, 0, 2] rfl) (hD.sub [1, 0, 2] (by decide) rfl) hS

set_option maxHeartbeats 4000000 in
set_option maxRecDepth 100000 in
theorem c_Mo_encode (l : Launch) (D : va_G) (cI cJ cB : ClassId) (aM : Nat) (bG : Nat) (bL : Nat) (bY : Nat) (bB : Nat) (bC : Nat) (bT : Nat) (th : Int32) (mw : Int32) (mz : Int32) (tk : Int32) (ss : Int32) (ml : Int32) (mh : Int32) (mp : Int32) (rw : Int32) (wr : Int32) (tc : Int32) (gg : Nat → Int32) (gb : Nat → Int32)  :
    ctv l yX7_encode (wsOf yX7_encode cX7_encode 4 none) (rmL 2 46 0 0) D classes (tys3 cI cJ cB) [.ref aM] [(aM, .inr (6, [.int th, .int mw, .ref bG, .int mz, .ref bL, .ref bY, .ref bB, .ref bC, .int tk, .int ss, .int ml, .int mh, .int mp, .int rw, .int wr, .int tc, .ref bT])), (bG, .inl (cI, 8, .inl gg)), (bB, .inl (cI, 66, .inl gb))] (fun u : (Nat → Int32) × (Nat → Int32) => True) (fun u : (Nat → Int32) × (Nat → Int32) => ([(aM, .inr (6, [.int th, .int mw, .ref bG, .int mz, .ref bL, .ref bY, .ref bB, .ref bC, .int tk, .int ss, .int ml, .int mh, .int mp, .int rw, .int wr, .int tc, .ref bT])), (bG, .inl (cI, 8, .inl u.1)), (bB, .inl (cI, 66, .inl u.2))] : va_W)) 0 0 := by
  refine ctv.of (by first | exact plainFor_of_name (by decide) | decide +kernel) (Nat.le_of_ble_eq_true rfl) (fun p e s m args below meth c A ls Q h hret => ?_)
  obtain ⟨hx, hb, hml, hown, hts, hnm, hP, hK, hD, hA, hS, hZ, hN, hl⟩ := h
  have hown : s.vm.findClass RX7 = some m.cls := hown
  have hl : lv_has ls 4 [(0, .ref aM)] := hl
  have hP : va_P D classes [(aM, .inr (6, [.int th, .int mw, .ref bG, .int mz, .ref bL, .ref bY, .ref bB, .ref bC, .int tk, .int ss, .int ml, .int mh, .int mp, .int rw, .int wr, .int tc, .ref bT])), (bG, .inl (cI, 8, .inl gg)), (bB, .inl (cI, 66, .inl gb))] s.heap := hP
  have hD : va_D A [(aM, .inr (6, [.int th, .int mw, .ref bG, .int mz, .ref bL, .ref bY, .ref bB, .ref bC, .int tk, .int ss, .int ml, .int mh, .int mp, .int rw, .int wr, .int tc, .ref bT])), (bG, .inl (cI, 8, .inl gg)), (bB, .inl (cI, 66, .inl gb))] := hD
  have rg_th := zi_rg th
  have rg_mw := zi_rg mw
  have rg_mz := zi_rg mz
  have rg_tk := zi_rg tk
  have rg_ss := zi_rg ss
  have rg_ml := zi_rg ml
  have rg_mh := zi_rg mh
  have rg_mp := zi_rg mp
  have rg_rw := zi_rg rw
  have rg_wr := zi_rg wr
  have rg_tc := zi_rg tc
  refine lv_iconst (v := 0) hx hb dX7_encode_0 (by decide) ?_
  refine lv_topi (fun v1 e1 => ?_)
  have z1 : v1.toInt = 0 := zi_c e1 (by decide)
  refine lv_istore_n (lv' := [(1, .int v1), (0, .ref aM)]) hx hb dX7_encode_1 rfl hl (by decide) rfl (fun ls hl => ?_)
  have J2 : ∀ (n : Nat) (k : Int32) (gb3 : Nat → Int32) (H : Heap) (locs : List Loc) (ls : Array Slot), ((66 - k.toInt).toNat) < n → (0 ≤ k.toInt ∧ k.toInt ≤ 66) → va_P D classes [(aM, .inr (6, [.int th, .int mw, .ref bG, .int mz, .ref bL, .ref bY, .ref bB, .ref bC, .int tk, .int ss, .int ml, .int mh, .int mp, .int rw, .int wr, .int tc, .ref bT])), (bG, .inl (cI, 8, .inl gg)), (bB, .inl (cI, 66, .inl gb3))] H → va_D A [(aM, .inr (6, [.int th, .int mw, .ref bG, .int mz, .ref bL, .ref bY, .ref bB, .ref bC, .int tk, .int ss, .int ml, .int mh, .int mp, .int rw, .int wr, .int tc, .ref bT])), (bG, .inl (cI, 8, .inl gg)), (bB, .inl (cI, 66, .inl gb3))] → va_S A s.heap H locs → lv_has ls 4 [(0, .ref aM), (1, .int k)] → W p l e (rmL 2 46 0 0) s m args below meth c H locs 0 0 Q (F0 m 2 ls []) := by
    intro n
    induction n with
    | zero => intro k gb3 H locs ls hmu; exact absurd hmu (Nat.not_lt_zero _)
    | succ n ih2 =>
      intro k gb3 H locs ls hmu2 i2_0 hP hD hS hl
      have rg_k := zi_rg k
      refine lv_iload_n hx hb dX7_encode_2 rfl (lv_at hl 1 rfl) ?_
      refine lv_bipush (v := 66) hx hb dX7_encode_3 (by decide) ?_
      refine lv_topi (fun v2 e2 => ?_)
      have z2 : v2.toInt = 66 := zi_c e2 (by decide)
      refine lv_icmp_ge (tgt := 21) hx hb dX7_encode_5 (by decide) (fun c3 => ?_) (fun c3 => ?_)
      ·
        have z3 := zi_le c3
        refine lv_iconst (v := -1) hx hb dX7_encode_21 (by decide) ?_
        refine lv_topi (fun v4 e4 => ?_)
        have z4 : v4.toInt = (-1) := zi_c e4 (by decide)
        refine lv_istore_n (lv' := [(1, .int v4), (0, .ref aM)]) hx hb dX7_encode_22 rfl hl (by decide) rfl (fun ls hl => ?_)
        refine lv_iconst (v := 0) hx hb dX7_encode_23 (by decide) ?_
        refine lv_topi (fun v5 e5 => ?_)
        have z5 : v5.toInt = 0 := zi_c e5 (by decide)
        refine lv_istore_n (lv' := [(2, .int v5), (1, .int v4), (0, .ref aM)]) hx hb dX7_encode_24 rfl hl (by decide) rfl (fun ls hl => ?_)
        have J25 : ∀ (n : Nat) (en : Int32) (k : Int32) (H : Heap) (locs : List Loc) (ls : Array Slot), ((8 - k.toInt).toNat) < n → (-1 ≤ en.toInt ∧ en.toInt ≤ 7) → (0 ≤ k.toInt ∧ k.toInt ≤ 8) → va_P D classes [(aM, .inr (6, [.int th, .int mw, .ref bG, .int mz, .ref bL, .ref bY, .ref bB, .ref bC, .int tk, .int ss, .int ml, .int mh, .int mp, .int rw, .int wr, .int tc, .ref bT])), (bG, .inl (cI, 8, .inl gg)), (bB, .inl (cI, 66, .inl gb3))] H → va_D A [(aM, .inr (6, [.int th, .int mw, .ref bG, .int mz, .ref bL, .ref bY, .ref bB, .ref bC, .int tk, .int ss, .int ml, .int mh, .int mp, .int rw, .int wr, .int tc, .ref bT])), (bG, .inl (cI, 8, .inl gg)), (bB, .inl (cI, 66, .inl gb3))] → va_S A s.heap H locs → lv_has ls 4 [(0, .ref aM), (1, .int en), (2, .int k)] → W p l e (rmL 2 46 0 0) s m args below meth c H locs 0 0 Q (F0 m 25 ls []) := by
          intro n
          induction n with
          | zero => intro en k H locs ls hmu; exact absurd hmu (Nat.not_lt_zero _)
          | succ n ih25 =>
            intro en k H locs ls hmu25 i25_0 i25_1 hP hD hS hl
            have rg_en := zi_rg en
            have rg_k := zi_rg k
            refine lv_iload_n hx hb dX7_encode_25 rfl (lv_at hl 2 rfl) ?_
            refine lv_bipush (v := 8) hx hb dX7_encode_26 (by decide) ?_
            refine lv_topi (fun v6 e6 => ?_)
            have z6 : v6.toInt = 8 := zi_c e6 (by decide)
            refine lv_icmp_ge (tgt := 59) hx hb dX7_encode_28 (by decide) (fun c7 => ?_) (fun c7 => ?_)
            ·
              have z7 := zi_le c7
              refine lv_aload_n hx hb dX7_encode_59 rfl (lv_at hl 0 rfl) ?_
              refine lv_iconst (v := 0) hx hb dX7_encode_60 (by decide) ?_
              refine lv_topi (fun v8 e8 => ?_)
              have z8 : v8.toInt = 0 := zi_c e8 (by decide)
              refine lv_bipush (v := 8) hx hb dX7_encode_61 (by decide) ?_
              refine lv_topi (fun v9 e9 => ?_)
              have z9 : v9.toInt = 8 := zi_c e9 (by decide)
              refine lv_iconst (v := 1) hx hb dX7_encode_63 (by decide) ?_
              refine lv_topi (fun v10 e10 => ?_)
              have z10 : v10.toInt = 1 := zi_c e10 (by decide)
              have hh11 : 0 ≤ v8.toInt ∧ v8.toInt ≤ 8 := (by omega)
              have hh12 : 0 ≤ v9.toInt ∧ v9.toInt ≤ 8 := (by omega)
              refine call_i (wc := [(aM, .inr (6, [.int th, .int mw, .ref bG, .int mz, .ref bL, .ref bY, .ref bB, .ref bC, .int tk, .int ss, .int ml, .int mh, .int mp, .int rw, .int wr, .int tc, .ref bT])), (bG, .inl (cI, 8, .inl gg))]) (wr := [(bB, .inl (cI, 66, .inl gb3))]) (run_V (As := [.int v8, .int v9, .int v10]) (rest := []) kv_RX7_51 ⟨by decide, by decide⟩ ⟨rfl, rfl⟩ ⟨hx, hb, hml, hown, hts⟩ (c_Mo_are l D cI cJ cB aM bG bL bY bB bC bT th mw mz tk ss ml mh mp rw wr tc gg v8 v9 v10 hh11 hh12 _) ct_blind (ct_pre (wc := [(aM, .inr (6, [.int th, .int mw, .ref bG, .int mz, .ref bL, .ref bY, .ref bB, .ref bC, .int tk, .int ss, .int ml, .int mh, .int mp, .int rw, .int wr, .int tc, .ref bT])), (bG, .inl (cI, 8, .inl gg))]) hK hP hD hS hA hZ hN [0, 1] (by decide) rfl rfl) (va_recv hK hP (ci := 6) (q0 := 0) rfl rfl) rfl hl.1 rfl (Nat.le_of_ble_eq_true rfl) dX7_encode_64 ⟨Nat.le_of_ble_eq_true rfl, Nat.le_of_ble_eq_true rfl⟩) hP hD hS hA [0, 1] [2] rfl rfl (by decide) (by decide) (fun r13 u H locs hw13 hP1 hD1 hS1 => ?_)
              have hw13 : 0 ≤ r13.toInt ∧ r13.toInt ≤ 1 := hw13
              clear hP hD hS
              have hP : va_P D classes [(bB, .inl (cI, 66, .inl gb3)), (aM, .inr (6, [.int th, .int mw, .ref bG, .int mz, .ref bL, .ref bY, .ref bB, .ref bC, .int tk, .int ss, .int ml, .int mh, .int mp, .int rw, .int wr, .int tc, .ref bT])), (bG, .inl (cI, 8, .inl gg))] H := hP1
              have hD : va_D A [(bB, .inl (cI, 66, .inl gb3)), (aM, .inr (6, [.int th, .int mw, .ref bG, .int mz, .ref bL, .ref bY, .ref bB, .ref bC, .int tk, .int ss, .int ml, .int mh, .int mp, .int rw, .int wr, .int tc, .ref bT])), (bG, .inl (cI, 8, .inl gg))] := hD1
              have hS := hS1
              clear hP1 hD1 hS1
              have rg_r13 := zi_rg r13
              refine lv_if_eq (tgt := 110) hx hb dX7_encode_67 (by decide) (fun c14 => ?_) (fun c14 => ?_)
              ·
                have z14 := zi_eq0 c14
                refine lv_aload_n hx hb dX7_encode_110 rfl (lv_at hl 0 rfl) ?_
                refine va_get (D := D) (ci := 6) (v := .ref bB) (C := RX7) (T := TX7) (N := 17) hx hb hts in_X7 hown hK hP 1 rfl rfl 6 (by decide) (hts _ wk64) (fun _ h9 => h9) rfl dX7_encode_111 ?_
                refine lv_iconst (v := 0) hx hb dX7_encode_114 (by decide) ?_
                refine lv_topi (fun v15 e15 => ?_)
                have z15 : v15.toInt = 0 := zi_c e15 (by decide)
                refine lv_iconst (v := 1) hx hb dX7_encode_115 (by decide) ?_
                refine lv_topi (fun v16 e16 => ?_)
                have z16 : v16.toInt = 1 := zi_c e16 (by decide)
                obtain ⟨f17, ef17⟩ : ∃ z9, z9 = upd gb3 v15.toNatClampNeg v16 := ⟨_, rfl⟩
                refine va_iast hx hb hK hP hD hS 0 0 rfl rfl (zi_in (by omega)) dX7_encode_116 (fun H locs hP1 hD1 hS1 => ?_)
                rw [← ef17] at hP1 hD1
                clear hP hD hS
                have hP : va_P D classes [(bB, .inl (cI, 66, .inl f17)), (aM, .inr (6, [.int th, .int mw, .ref bG, .int mz, .ref bL, .ref bY, .ref bB, .ref bC, .int tk, .int ss, .int ml, .int mh, .int mp, .int rw, .int wr, .int tc, .ref bT])), (bG, .inl (cI, 8, .inl gg))] H := hP1
                have hD : va_D A [(bB, .inl (cI, 66, .inl f17)), (aM, .inr (6, [.int th, .int mw, .ref bG, .int mz, .ref bL, .ref bY, .ref bB, .ref bC, .int tk, .int ss, .int ml, .int mh, .int mp, .int rw, .int wr, .int tc, .ref bT])), (bG, .inl (cI, 8, .inl gg))] := hD1
                have hS := hS1
                clear hP1 hD1 hS1
                refine lv_aload_n hx hb dX7_encode_117 rfl (lv_at hl 0 rfl) ?_
                refine va_get (D := D) (ci := 6) (v := .ref bG) (C := RX7) (T := TX7) (N := 17) hx hb hts in_X7 hown hK hP 1 rfl rfl 2 (by decide) (hts _ wk60) (fun _ h9 => h9) rfl dX7_encode_118 ?_
                refine lv_iconst (v := 0) hx hb dX7_encode_121 (by decide) ?_
                refine lv_topi (fun v18 e18 => ?_)
                have z18 : v18.toInt = 0 := zi_c e18 (by decide)
                refine va_iald hx hb hK hP 2 0 rfl rfl (zi_in (by omega)) dX7_encode_122 ?_
                refine lv_topi (fun v19 e19 => ?_)
                refine lv_sipush (v := 257) hx hb dX7_encode_123 (by decide) ?_
                refine lv_topi (fun v20 e20 => ?_)
                have z20 : v20.toInt = 257 := zi_c e20 (by decide)
                have J184 : ∀   (H : Heap) (locs : List Loc) (ls : Array Slot), va_P D classes [(bB, .inl (cI, 66, .inl f17)), (aM, .inr (6, [.int th, .int mw, .ref bG, .int mz, .ref bL, .ref bY, .ref bB, .ref bC, .int tk, .int ss, .int ml, .int mh, .int mp, .int rw, .int wr, .int tc, .ref bT])), (bG, .inl (cI, 8, .inl gg))] H → va_D A [(bB, .inl (cI, 66, .inl f17)), (aM, .inr (6, [.int th, .int mw, .ref bG, .int mz, .ref bL, .ref bY, .ref bB, .ref bC, .int tk, .int ss, .int ml, .int mh, .int mp, .int rw, .int wr, .int tc, .ref bT])), (bG, .inl (cI, 8, .inl gg))] → va_S A s.heap H locs → lv_has ls 4 [(0, .ref aM), (1, .int en), (2, .int k)] → W p l e (rmL 2 46 0 0) s m args below meth c H locs 0 0 Q (F0 m 184 ls []) := by
                  intro  H locs ls  hP hD hS hl
                  refine lv_aload_n hx hb dX7_encode_184 rfl (lv_at hl 0 rfl) ?_
                  refine va_get (D := D) (ci := 6) (v := .ref bG) (C := RX7) (T := TX7) (N := 17) hx hb hts in_X7 hown hK hP 1 rfl rfl 2 (by decide) (hts _ wk60) (fun _ h9 => h9) rfl dX7_encode_185 ?_
                  refine lv_iconst (v := 4) hx hb dX7_encode_188 (by decide) ?_
                  refine lv_topi (fun v21 e21 => ?_)
                  have z21 : v21.toInt = 4 := zi_c e21 (by decide)
                  refine va_iald hx hb hK hP 2 0 rfl rfl (zi_in (by omega)) dX7_encode_189 ?_
                  refine lv_topi (fun v22 e22 => ?_)
                  refine lv_sipush (v := 257) hx hb dX7_encode_190 (by decide) ?_
                  refine lv_topi (fun v23 e23 => ?_)
                  have z23 : v23.toInt = 257 := zi_c e23 (by decide)
                  have J286 : ∀   (H : Heap) (locs : List Loc) (ls : Array Slot), va_P D classes [(bB, .inl (cI, 66, .inl f17)), (aM, .inr (6, [.int th, .int mw, .ref bG, .int mz, .ref bL, .ref bY, .ref bB, .ref bC, .int tk, .int ss, .int ml, .int mh, .int mp, .int rw, .int wr, .int tc, .ref bT])), (bG, .inl (cI, 8, .inl gg))] H → va_D A [(bB, .inl (cI, 66, .inl f17)), (aM, .inr (6, [.int th, .int mw, .ref bG, .int mz, .ref bL, .ref bY, .ref bB, .ref bC, .int tk, .int ss, .int ml, .int mh, .int mp, .int rw, .int wr, .int tc, .ref bT])), (bG, .inl (cI, 8, .inl gg))] → va_S A s.heap H locs → lv_has ls 4 [(0, .ref aM), (1, .int en), (2, .int k)] → W p l e (rmL 2 46 0 0) s m args below meth c H locs 0 0 Q (F0 m 286 ls []) := by
                    intro  H locs ls  hP hD hS hl
                    refine lv_iload_n hx hb dX7_encode_286 rfl (lv_at hl 1 rfl) ?_
                    have J390 : ∀   (H : Heap) (locs : List Loc) (ls : Array Slot), va_P D classes [(bB, .inl (cI, 66, .inl f17)), (aM, .inr (6, [.int th, .int mw, .ref bG, .int mz, .ref bL, .ref bY, .ref bB, .ref bC, .int tk, .int ss, .int ml, .int mh, .int mp, .int rw, .int wr, .int tc, .ref bT])), (bG, .inl (cI, 8, .inl gg))] H → va_D A [(bB, .inl (cI, 66, .inl f17)), (aM, .inr (6, [.int th, .int mw, .ref bG, .int mz, .ref bL, .ref bY, .ref bB, .ref bC, .int tk, .int ss, .int ml, .int mh, .int mp, .int rw, .int wr, .int tc, .ref bT])), (bG, .inl (cI, 8, .inl gg))] → va_S A s.heap H locs → lv_has ls 4 [(0, .ref aM), (1, .int en), (2, .int k)] → W p l e (rmL 2 46 0 0) s m args below meth c H locs 0 0 Q (F0 m 390 ls []) := by
                      intro  H locs ls  hP hD hS hl
                      refine lv_aload_n hx hb dX7_encode_390 rfl (lv_at hl 0 rfl) ?_
                      refine lv_iconst (v := 0) hx hb dX7_encode_391 (by decide) ?_
                      refine lv_topi (fun v24 e24 => ?_)
                      have z24 : v24.toInt = 0 := zi_c e24 (by decide)
                      refine lv_bipush (v := 8) hx hb dX7_encode_392 (by decide) ?_
                      refine lv_topi (fun v25 e25 => ?_)
                      have z25 : v25.toInt = 8 := zi_c e25 (by decide)
                      refine lv_iconst (v := 0) hx hb dX7_encode_394 (by decide) ?_
                      refine lv_topi (fun v26 e26 => ?_)
                      have z26 : v26.toInt = 0 := zi_c e26 (by decide)
                      have hh27 : 0 ≤ v24.toInt ∧ v24.toInt ≤ 8 := (by omega)
                      have hh28 : 0 ≤ v25.toInt ∧ v25.toInt ≤ 8 := (by omega)
                      refine call_i (wc := [(aM, .inr (6, [.int th, .int mw, .ref bG, .int mz, .ref bL, .ref bY, .ref bB, .ref bC, .int tk, .int ss, .int ml, .int mh, .int mp, .int rw, .int wr, .int tc, .ref bT])), (bG, .inl (cI, 8, .inl gg))]) (wr := [(bB, .inl (cI, 66, .inl f17))]) (run_V (As := [.int v24, .int v25, .int v26]) (rest := []) kv_RX7_51 ⟨by decide, by decide⟩ ⟨rfl, rfl⟩ ⟨hx, hb, hml, hown, hts⟩ (c_Mo_are l D cI cJ cB aM bG bL bY bB bC bT th mw mz tk ss ml mh mp rw wr tc gg v24 v25 v26 hh27 hh28 _) ct_blind (ct_pre (wc := [(aM, .inr (6, [.int th, .int mw, .ref bG, .int mz, .ref bL, .ref bY, .ref bB, .ref bC, .int tk, .int ss, .int ml, .int mh, .int mp, .int rw, .int wr, .int tc, .ref bT])), (bG, .inl (cI, 8, .inl gg))]) hK hP hD hS hA hZ hN [1, 2] (by decide) rfl rfl) (va_recv hK hP (ci := 6) (q0 := 1) rfl rfl) rfl hl.1 rfl (Nat.le_of_ble_eq_true rfl) dX7_encode_395 ⟨Nat.le_of_ble_eq_true rfl, Nat.le_of_ble_eq_true rfl⟩) hP hD hS hA [1, 2] [0] rfl rfl (by decide) (by decide) (fun r29 u H locs hw29 hP1 hD1 hS1 => ?_)
                      have hw29 : 0 ≤ r29.toInt ∧ r29.toInt ≤ 1 := hw29
                      clear hP hD hS
                      have hP : va_P D classes [(bB, .inl (cI, 66, .inl f17)), (aM, .inr (6, [.int th, .int mw, .ref bG, .int mz, .ref bL, .ref bY, .ref bB, .ref bC, .int tk, .int ss, .int ml, .int mh, .int mp, .int rw, .int wr, .int tc, .ref bT])), (bG, .inl (cI, 8, .inl gg))] H := hP1
                      have hD : va_D A [(bB, .inl (cI, 66, .inl f17)), (aM, .inr (6, [.int th, .int mw, .ref bG, .int mz, .ref bL, .ref bY, .ref bB, .ref bC, .int tk, .int ss, .int ml, .int mh, .int mp, .int rw, .int wr, .int tc, .ref bT])), (bG, .inl (cI, 8, .inl gg))] := hD1
                      have hS := hS1
                      clear hP1 hD1 hS1
                      have rg_r29 := zi_rg r29
                      refine lv_istore_n (lv' := [(2, .int r29), (0, .ref aM), (1, .int en)]) hx hb dX7_encode_398 rfl hl (by decide) rfl (fun ls hl => ?_)
                      refine lv_aload_n hx hb dX7_encode_399 rfl (lv_at hl 1 rfl) ?_
                      refine lv_bipush (v := 30) hx hb dX7_encode_400 (by decide) ?_
                      refine lv_topi (fun v30 e30 => ?_)
                      have z30 : v30.toInt = 30 := zi_c e30 (by decide)
                      refine lv_iconst (v := 2) hx hb dX7_encode_402 (by decide) ?_
                      refine lv_topi (fun v31 e31 => ?_)
                      have z31 : v31.toInt = 2 := zi_c e31 (by decide)
                      refine lv_bipush (v := 8) hx hb dX7_encode_403 (by decide) ?_
                      refine lv_topi (fun v32 e32 => ?_)
                      have z32 : v32.toInt = 8 := zi_c e32 (by decide)
                      have hh33 : 0 ≤ v31.toInt ∧ 0 ≤ v32.toInt ∧ v31.toInt + v32.toInt ≤ 66 := (by omega)
                      refine call_v (wc := [(aM, .inr (6, [.int th, .int mw, .ref bG, .int mz, .ref bL, .ref bY, .ref bB, .ref bC, .int tk, .int ss, .int ml, .int mh, .int mp, .int rw, .int wr, .int tc, .ref bT])), (bB, .inl (cI, 66, .inl f17))]) (wr := [(bG, .inl (cI, 8, .inl gg))]) (run_V (As := [.int v30, .int v31, .int v32]) (rest := []) kv_RX7_47 ⟨by decide, by decide⟩ ⟨rfl, rfl⟩ ⟨hx, hb, hml, hown, hts⟩ (c_Mo_setBits l D cI cJ cB aM bG bL bY bB bC bT th mw mz tk ss ml mh mp rw wr tc f17 v30 v31 v32 hh33 _) ct_blind (ct_pre (wc := [(aM, .inr (6, [.int th, .int mw, .ref bG, .int mz, .ref bL, .ref bY, .ref bB, .ref bC, .int tk, .int ss, .int ml, .int mh, .int mp, .int rw, .int wr, .int tc, .ref bT])), (bB, .inl (cI, 66, .inl f17))]) hK hP hD hS hA hZ hN [1, 0] (by decide) rfl rfl) (va_recv hK hP (ci := 6) (q0 := 1) rfl rfl) rfl hl.1 rfl (Nat.le_of_ble_eq_true rfl) dX7_encode_405 ⟨Nat.le_of_ble_eq_true rfl, Nat.le_of_ble_eq_true rfl⟩) hP hD hS hA [1, 0] [2] rfl rfl (by decide) (by decide) (fun u H locs hw34 hP1 hD1 hS1 => ?_)
                      obtain ⟨gb2_34, hu9⟩ : ∃ z, z = u := ⟨_, rfl⟩
                      subst hu9
                      clear hw34
                      clear hP hD hS
                      have hP : va_P D classes [(bG, .inl (cI, 8, .inl gg)), (aM, .inr (6, [.int th, .int mw, .ref bG, .int mz, .ref bL, .ref bY, .ref bB, .ref bC, .int tk, .int ss, .int ml, .int mh, .int mp, .int rw, .int wr, .int tc, .ref bT])), (bB, .inl (cI, 66, .inl gb2_34))] H := hP1
                      have hD : va_D A [(bG, .inl (cI, 8, .inl gg)), (aM, .inr (6, [.int th, .int mw, .ref bG, .int mz, .ref bL, .ref bY, .ref bB, .ref bC, .int tk, .int ss, .int ml, .int mh, .int mp, .int rw, .int wr, .int tc, .ref bT])), (bB, .inl (cI, 66, .inl gb2_34))] := hD1
                      have hS := hS1
                      clear hP1 hD1 hS1
                      refine lv_iconst (v := 0) hx hb dX7_encode_408 (by decide) ?_
                      refine lv_topi (fun v35 e35 => ?_)
                      have z35 : v35.toInt = 0 := zi_c e35 (by decide)
                      refine lv_istore_n (lv' := [(3, .int v35), (2, .int r29), (0, .ref aM), (1, .int en)]) hx hb dX7_encode_409 rfl hl (by decide) rfl (fun ls hl => ?_)
                      have J410 : ∀ (n : Nat) (k : Int32) (gg3 : Nat → Int32) (gb3 : Nat → Int32) (H : Heap) (locs : List Loc) (ls : Array Slot), ((8 - k.toInt).toNat) < n → (0 ≤ k.toInt ∧ k.toInt ≤ 8) → va_P D classes [(bG, .inl (cI, 8, .inl gg3)), (aM, .inr (6, [.int th, .int mw, .ref bG, .int mz, .ref bL, .ref bY, .ref bB, .ref bC, .int tk, .int ss, .int ml, .int mh, .int mp, .int rw, .int wr, .int tc, .ref bT])), (bB, .inl (cI, 66, .inl gb3))] H → va_D A [(bG, .inl (cI, 8, .inl gg3)), (aM, .inr (6, [.int th, .int mw, .ref bG, .int mz, .ref bL, .ref bY, .ref bB, .ref bC, .int tk, .int ss, .int ml, .int mh, .int mp, .int rw, .int wr, .int tc, .ref bT])), (bB, .inl (cI, 66, .inl gb3))] → va_S A s.heap H locs → lv_has ls 4 [(2, .int r29), (0, .ref aM), (1, .int en), (3, .int k)] → W p l e (rmL 2 46 0 0) s m args below meth c H locs 0 0 Q (F0 m 410 ls []) := by
                        intro n
                        induction n with
                        | zero => intro k gg3 gb3 H locs ls hmu; exact absurd hmu (Nat.not_lt_zero _)
                        | succ n ih410 =>
                          intro k gg3 gb3 H locs ls hmu410 i410_0 hP hD hS hl
                          have rg_k := zi_rg k
                          refine lv_iload_n hx hb dX7_encode_410 rfl (lv_at hl 3 rfl) ?_
                          refine lv_bipush (v := 8) hx hb dX7_encode_411 (by decide) ?_
                          refine lv_topi (fun v36 e36 => ?_)
                          have z36 : v36.toInt = 8 := zi_c e36 (by decide)
                          refine lv_icmp_ge (tgt := 456) hx hb dX7_encode_413 (by decide) (fun c37 => ?_) (fun c37 => ?_)
                          ·
                            have z37 := zi_le c37
                            exact hret (gg3, gb3) _ _ _ _ dX7_encode_456 trivial (hP.sub [1, 0, 2] rfl) (hD.sub [1, 0, 2] (by decide) rfl) hS
                          ·
                            have z37 := zi_nle c37
                            refine lv_aload_n hx hb dX7_encode_416 rfl (lv_at hl 1 rfl) ?_
                            refine va_get (D := D) (ci := 6) (v := .ref bG) (C := RX7) (T := TX7) (N := 17) hx hb hts in_X7 hown hK hP 1 rfl rfl 2 (by decide) (hts _ wk60) (fun _ h9 => h9) rfl dX7_encode_417 ?_
                            refine lv_iload_n hx hb dX7_encode_420 rfl (lv_at hl 3 rfl) ?_
                            refine lv_iload_n hx hb dX7_encode_421 rfl (lv_at hl 0 rfl) ?_
                            refine lv_if_eq (tgt := 434) hx hb dX7_encode_422 (by decide) (fun c39 => ?_) (fun c39 => ?_)
                            ·
                              have z39 := zi_eq0 c39
                              refine lv_sipush (v := 259) hx hb dX7_encode_434 (by decide) ?_
                              refine lv_topi (fun v40 e40 => ?_)
                              have z40 : v40.toInt = 259 := zi_c e40 (by decide)
                              obtain ⟨f41, ef41⟩ : ∃ z9, z9 = upd gg3 k.toNatClampNeg v40 := ⟨_, rfl⟩
                              refine va_iast hx hb hK hP hD hS 0 0 rfl rfl (zi_in (by omega)) dX7_encode_437 (fun H locs hP1 hD1 hS1 => ?_)
                              rw [← ef41] at hP1 hD1
                              clear hP hD hS
                              have hP : va_P D classes [(bG, .inl (cI, 8, .inl f41)), (aM, .inr (6, [.int th, .int mw, .ref bG, .int mz, .ref bL, .ref bY, .ref bB, .ref bC, .int tk, .int ss, .int ml, .int mh, .int mp, .int rw, .int wr, .int tc, .ref bT])), (bB, .inl (cI, 66, .inl gb3))] H := hP1
                              have hD : va_D A [(bG, .inl (cI, 8, .inl f41)), (aM, .inr (6, [.int th, .int mw, .ref bG, .int mz, .ref bL, .ref bY, .ref bB, .ref bC, .int tk, .int ss, .int ml, .int mh, .int mp, .int rw, .int wr, .int tc, .ref bT])), (bB, .inl (cI, 66, .inl gb3))] := hD1
                              have hS := hS1
                              clear hP1 hD1 hS1
                              refine lv_aload_n hx hb dX7_encode_438 rfl (lv_at hl 1 rfl) ?_
                              refine lv_iload_n hx hb dX7_encode_439 rfl (lv_at hl 3 rfl) ?_
                              refine lv_bipush (v := 10) hx hb dX7_encode_440 (by decide) ?_
                              refine lv_topi (fun v42 e42 => ?_)
                              have z42 : v42.toInt = 10 := zi_c e42 (by decide)
                              refine lv_bipush (v := 7) hx hb dX7_encode_442 (by decide) ?_
                              refine lv_topi (fun v43 e43 => ?_)
                              have z43 : v43.toInt = 7 := zi_c e43 (by decide)
                              refine lv_iload_n hx hb dX7_encode_444 rfl (lv_at hl 3 rfl) ?_
                              refine lv_imul hx hb dX7_encode_445 ?_
                              refine lv_topi (fun v44 e44 => ?_)
                              first | have z44 := zi_mulL (k := 7) e44 (by omega) (by omega) | skip
                              refine lv_iadd hx hb dX7_encode_446 ?_
                              refine lv_topi (fun v45 e45 => ?_)
                              first | have z45 := zi_add e45 (by omega) | skip
                              have hh46 : 0 ≤ k.toInt ∧ k.toInt < 8 := (by omega)
                              have hh47 : 0 ≤ v45.toInt ∧ v45.toInt + 7 ≤ 66 := (by omega)
                              refine call_v (wc := [(aM, .inr (6, [.int th, .int mw, .ref bG, .int mz, .ref bL, .ref bY, .ref bB, .ref bC, .int tk, .int ss, .int ml, .int mh, .int mp, .int rw, .int wr, .int tc, .ref bT])), (bG, .inl (cI, 8, .inl f41)), (bB, .inl (cI, 66, .inl gb3))]) (wr := []) (run_V (As := [.int k, .int v45]) (rest := []) kv_RX7_55 ⟨by decide, by decide⟩ ⟨rfl, rfl⟩ ⟨hx, hb, hml, hown, hts⟩ (c_Mo_putCode l D cI cJ cB aM bG bL bY bB bC bT th mw mz tk ss ml mh mp rw wr tc f41 gb3 k v45 hh46 hh47 _) ct_blind (ct_pre (wc := [(aM, .inr (6, [.int th, .int mw, .ref bG, .int mz, .ref bL, .ref bY, .ref bB, .ref bC, .int tk, .int ss, .int ml, .int mh, .int mp, .int rw, .int wr, .int tc, .ref bT])), (bG, .inl (cI, 8, .inl f41)), (bB, .inl (cI, 66, .inl gb3))]) hK hP hD hS hA hZ hN [1, 0, 2] (by decide) rfl rfl) (va_recv hK hP (ci := 6) (q0 := 1) rfl rfl) rfl hl.1 rfl (Nat.le_of_ble_eq_true rfl) dX7_encode_447 ⟨Nat.le_of_ble_eq_true rfl, Nat.le_of_ble_eq_true rfl⟩) hP hD hS hA [1, 0, 2] [] rfl rfl (by decide) (by decide) (fun u H locs hw48 hP1 hD1 hS1 => ?_)
                              obtain ⟨gb2_48, hu9⟩ : ∃ z, z = u := ⟨_, rfl⟩
                              subst hu9
                              clear hw48
                              clear hP hD hS
                              have hP : va_P D classes [(aM, .inr (6, [.int th, .int mw, .ref bG, .int mz, .ref bL, .ref bY, .ref bB, .ref bC, .int tk, .int ss, .int ml, .int mh, .int mp, .int rw, .int wr, .int tc, .ref bT])), (bG, .inl (cI, 8, .inl f41)), (bB, .inl (cI, 66, .inl gb2_48))] H := hP1
                              have hD : va_D A [(aM, .inr (6, [.int th, .int mw, .ref bG, .int mz, .ref bL, .ref bY, .ref bB, .ref bC, .int tk, .int ss, .int ml, .int mh, .int mp, .int rw, .int wr, .int tc, .ref bT])), (bG, .inl (cI, 8, .inl f41)), (bB, .inl (cI, 66, .inl gb2_48))] := hD1
                              have hS := hS1
                              clear hP1 hD1 hS1
                              obtain ⟨v49, e49⟩ : ∃ y : Int32, y = k + 1 := ⟨_, rfl⟩
                              first | have z49 := zi_inc (z := 1) 1 (by decide) e49 (by omega) | skip
                              refine lv_iinc (v := v49) (lv' := [(3, .int v49), (2, .int r29), (0, .ref aM), (1, .int en)]) hx hb dX7_encode_450 hl (k := 3) rfl (by rw [e49]; rfl) (by decide) rfl (fun ls hl => ?_)
                              refine lv_goto (tgt := 410) hx hb dX7_encode_453 (by decide) ?_
                              exact ih410 v49 f41 gb2_48 _ _ _ (by omega) (by omega) (hP.sub [1, 0, 2] rfl) (hD.sub [1, 0, 2] (by decide) rfl) hS (lv_sub hl [1, 2, 3, 0] rfl)
                            ·
                              have z39 := zi_ne0 c39
                              refine lv_aload_n hx hb dX7_encode_425 rfl (lv_at hl 1 rfl) ?_
                              refine va_get (D := D) (ci := 6) (v := .ref bG) (C := RX7) (T := TX7) (N := 17) hx hb hts in_X7 hown hK hP 1 rfl rfl 2 (by decide) (hts _ wk60) (fun _ h9 => h9) rfl dX7_encode_426 ?_
                              refine lv_iload_n hx hb dX7_encode_429 rfl (lv_at hl 3 rfl) ?_
                              refine va_iald hx hb hK hP 0 0 rfl rfl (zi_in (by omega)) dX7_encode_430 ?_
                              refine lv_topi (fun v50 e50 => ?_)
                              refine lv_goto (tgt := 437) hx hb dX7_encode_431 (by decide) ?_
                              obtain ⟨f51, ef51⟩ : ∃ z9, z9 = upd gg3 k.toNatClampNeg v50 := ⟨_, rfl⟩
                              refine va_iast hx hb hK hP hD hS 0 0 rfl rfl (zi_in (by omega)) dX7_encode_437 (fun H locs hP1 hD1 hS1 => ?_)
                              rw [← ef51] at hP1 hD1
                              clear hP hD hS
                              have hP : va_P D classes [(bG, .inl (cI, 8, .inl f51)), (aM, .inr (6, [.int th, .int mw, .ref bG, .int mz, .ref bL, .ref bY, .ref bB, .ref bC, .int tk, .int ss, .int ml, .int mh, .int mp, .int rw, .int wr, .int tc, .ref bT])), (bB, .inl (cI, 66, .inl gb3))] H := hP1
                              have hD : va_D A [(bG, .inl (cI, 8, .inl f51)), (aM, .inr (6, [.int th, .int mw, .ref bG, .int mz, .ref bL, .ref bY, .ref bB, .ref bC, .int tk, .int ss, .int ml, .int mh, .int mp, .int rw, .int wr, .int tc, .ref bT])), (bB, .inl (cI, 66, .inl gb3))] := hD1
                              have hS := hS1
                              clear hP1 hD1 hS1
                              refine lv_aload_n hx hb dX7_encode_438 rfl (lv_at hl 1 rfl) ?_
                              refine lv_iload_n hx hb dX7_encode_439 rfl (lv_at hl 3 rfl) ?_
                              refine lv_bipush (v := 10) hx hb dX7_encode_440 (by decide) ?_
                              refine lv_topi (fun v52 e52 => ?_)
                              have z52 : v52.toInt = 10 := zi_c e52 (by decide)
                              refine lv_bipush (v := 7) hx hb dX7_encode_442 (by decide) ?_
                              refine lv_topi (fun v53 e53 => ?_)
                              have z53 : v53.toInt = 7 := zi_c e53 (by decide)
                              refine lv_iload_n hx hb dX7_encode_444 rfl (lv_at hl 3 rfl) ?_
                              refine lv_imul hx hb dX7_encode_445 ?_
                              refine lv_topi (fun v54 e54 => ?_)
                              first | have z54 := zi_mulL (k := 7) e54 (by omega) (by omega) | skip
                              refine lv_iadd hx hb dX7_encode_446 ?_
                              refine lv_topi (fun v55 e55 => ?_)
                              first | have z55 := zi_add e55 (by omega) | skip
                              have hh56 : 0 ≤ k.toInt ∧ k.toInt < 8 := (by omega)
                              have hh57 : 0 ≤ v55.toInt ∧ v55.toInt + 7 ≤ 66 := (by omega)
                              refine call_v (wc := [(aM, .inr (6, [.int th, .int mw, .ref bG, .int mz, .ref bL, .ref bY, .ref bB, .ref bC, .int tk, .int ss, .int ml, .int mh, .int mp, .int rw, .int wr, .int tc, .ref bT])), (bG, .inl (cI, 8, .inl f51)), (bB, .inl (cI, 66, .inl gb3))]) (wr := []) (run_V (As := [.int k, .int v55]) (rest := []) kv_RX7_55 ⟨by decide, by decide⟩ ⟨rfl, rfl⟩ ⟨hx, hb, hml, hown, hts⟩ (c_Mo_putCode l D cI cJ cB aM bG bL bY bB bC bT th mw mz tk ss ml mh mp rw wr tc f51 gb3 k v55 hh56 hh57 _) ct_blind (ct_pre (wc := [(aM, .inr (6, [.int th, .int mw, .ref bG, .int mz, .ref bL, .ref bY, .ref bB, .ref bC, .int tk, .int ss, .int ml, .int mh, .int mp, .int rw, .int wr, .int tc, .ref bT])), (bG, .inl (cI, 8, .inl f51)), (bB, .inl (cI, 66, .inl gb3))]) hK hP hD hS hA hZ hN [1, 0, 2] (by decide) rfl rfl) (va_recv hK hP (ci := 6) (q0 := 1) rfl rfl) rfl hl.1 rfl (Nat.le_of_ble_eq_true rfl) dX7_encode_447 ⟨Nat.le_of_ble_eq_true rfl, Nat.le_of_ble_eq_true rfl⟩) hP hD hS hA [1, 0, 2] [] rfl rfl (by decide) (by decide) (fun u H locs hw58 hP1 hD1 hS1 => ?_)
                              obtain ⟨gb2_58, hu9⟩ : ∃ z, z = u := ⟨_, rfl⟩
                              subst hu9
                              clear hw58
                              clear hP hD hS
                              have hP : va_P D classes [(aM, .inr (6, [.int th, .int mw, .ref bG, .int mz, .ref bL, .ref bY, .ref bB, .ref bC, .int tk, .int ss, .int ml, .int mh, .int mp, .int rw, .int wr, .int tc, .ref bT])), (bG, .inl (cI, 8, .inl f51)), (bB, .inl (cI, 66, .inl gb2_58))] H := hP1
                              have hD : va_D A [(aM, .inr (6, [.int th, .int mw, .ref bG, .int mz, .ref bL, .ref bY, .ref bB, .ref bC, .int tk, .int ss, .int ml, .int mh, .int mp, .int rw, .int wr, .int tc, .ref bT])), (bG, .inl (cI, 8, .inl f51)), (bB, .inl (cI, 66, .inl gb2_58))] := hD1
                              have hS := hS1
                              clear hP1 hD1 hS1
                              obtain ⟨v59, e59⟩ : ∃ y : Int32, y = k + 1 := ⟨_, rfl⟩
                              first | have z59 := zi_inc (z := 1) 1 (by decide) e59 (by omega) | skip
                              refine lv_iinc (v := v59) (lv' := [(3, .int v59), (2, .int r29), (0, .ref aM), (1, .int en)]) hx hb dX7_encode_450 hl (k := 3) rfl (by rw [e59]; rfl) (by decide) rfl (fun ls hl => ?_)
                              refine lv_goto (tgt := 410) hx hb dX7_encode_453 (by decide) ?_
                              exact ih410 v59 f51 gb2_58 _ _ _ (by omega) (by omega) (hP.sub [1, 0, 2] rfl) (hD.sub [1, 0, 2] (by decide) rfl) hS (lv_sub hl [1, 2, 3, 0] rfl)
                      exact J410 _ v35 gg gb2_34 _ _ _ (Nat.lt_succ_self _) (by omega) (hP.sub [0, 1, 2] rfl) (hD.sub [0, 1, 2] (by decide) rfl) hS (lv_sub hl [1, 2, 3, 0] rfl)
                    refine lv_if_lt (tgt := 390) hx hb dX7_encode_287 (by decide) (fun c60 => ?_) (fun c60 => ?_)
                    ·
                      have z60 := zi_lt0 c60
                      exact J390  _ _ _   (hP.sub [0, 1, 2] rfl) (hD.sub [0, 1, 2] (by decide) rfl) hS (lv_sub hl [0, 1, 2] rfl)
                    ·
                      have z60 := zi_nlt0 c60
                      refine lv_aload_n hx hb dX7_encode_290 rfl (lv_at hl 0 rfl) ?_
                      refine lv_iconst (v := 0) hx hb dX7_encode_291 (by decide) ?_
                      refine lv_topi (fun v61 e61 => ?_)
                      have z61 : v61.toInt = 0 := zi_c e61 (by decide)
                      refine lv_iload_n hx hb dX7_encode_292 rfl (lv_at hl 1 rfl) ?_
                      refine lv_iconst (v := 1) hx hb dX7_encode_293 (by decide) ?_
                      refine lv_topi (fun v62 e62 => ?_)
                      have z62 : v62.toInt = 1 := zi_c e62 (by decide)
                      have hh63 : 0 ≤ v61.toInt ∧ v61.toInt ≤ 8 := (by omega)
                      have hh64 : 0 ≤ en.toInt ∧ en.toInt ≤ 8 := (by omega)
                      refine call_i (wc := [(aM, .inr (6, [.int th, .int mw, .ref bG, .int mz, .ref bL, .ref bY, .ref bB, .ref bC, .int tk, .int ss, .int ml, .int mh, .int mp, .int rw, .int wr, .int tc, .ref bT])), (bG, .inl (cI, 8, .inl gg))]) (wr := [(bB, .inl (cI, 66, .inl f17))]) (run_V (As := [.int v61, .int en, .int v62]) (rest := []) kv_RX7_51 ⟨by decide, by decide⟩ ⟨rfl, rfl⟩ ⟨hx, hb, hml, hown, hts⟩ (c_Mo_are l D cI cJ cB aM bG bL bY bB bC bT th mw mz tk ss ml mh mp rw wr tc gg v61 en v62 hh63 hh64 _) ct_blind (ct_pre (wc := [(aM, .inr (6, [.int th, .int mw, .ref bG, .int mz, .ref bL, .ref bY, .ref bB, .ref bC, .int tk, .int ss, .int ml, .int mh, .int mp, .int rw, .int wr, .int tc, .ref bT])), (bG, .inl (cI, 8, .inl gg))]) hK hP hD hS hA hZ hN [1, 2] (by decide) rfl rfl) (va_recv hK hP (ci := 6) (q0 := 1) rfl rfl) rfl hl.1 rfl (Nat.le_of_ble_eq_true rfl) dX7_encode_294 ⟨Nat.le_of_ble_eq_true rfl, Nat.le_of_ble_eq_true rfl⟩) hP hD hS hA [1, 2] [0] rfl rfl (by decide) (by decide) (fun r65 u H locs hw65 hP1 hD1 hS1 => ?_)
                      have hw65 : 0 ≤ r65.toInt ∧ r65.toInt ≤ 1 := hw65
                      clear hP hD hS
                      have hP : va_P D classes [(bB, .inl (cI, 66, .inl f17)), (aM, .inr (6, [.int th, .int mw, .ref bG, .int mz, .ref bL, .ref bY, .ref bB, .ref bC, .int tk, .int ss, .int ml, .int mh, .int mp, .int rw, .int wr, .int tc, .ref bT])), (bG, .inl (cI, 8, .inl gg))] H := hP1
                      have hD : va_D A [(bB, .inl (cI, 66, .inl f17)), (aM, .inr (6, [.int th, .int mw, .ref bG, .int mz, .ref bL, .ref bY, .ref bB, .ref bC, .int tk, .int ss, .int ml, .int mh, .int mp, .int rw, .int wr, .int tc, .ref bT])), (bG, .inl (cI, 8, .inl gg))] := hD1
                      have hS := hS1
                      clear hP1 hD1 hS1
                      have rg_r65 := zi_rg r65
                      refine lv_if_eq (tgt := 390) hx hb dX7_encode_297 (by decide) (fun c66 => ?_) (fun c66 => ?_)
                      ·
                        have z66 := zi_eq0 c66
                        exact J390  _ _ _   (hP.sub [0, 1, 2] rfl) (hD.sub [0, 1, 2] (by decide) rfl) hS (lv_sub hl [0, 1, 2] rfl)
                      ·
                        have z66 := zi_ne0 c66
                        refine lv_aload_n hx hb dX7_encode_300 rfl (lv_at hl 0 rfl) ?_
                        refine lv_iload_n hx hb dX7_encode_301 rfl (lv_at hl 1 rfl) ?_
                        refine lv_iconst (v := 1) hx hb dX7_encode_302 (by decide) ?_
                        refine lv_topi (fun v67 e67 => ?_)
                        have z67 : v67.toInt = 1 := zi_c e67 (by decide)
                        refine lv_iadd hx hb dX7_encode_303 ?_
                        refine lv_topi (fun v68 e68 => ?_)
                        first | have z68 := zi_add e68 (by omega) | skip
                        refine lv_bipush (v := 8) hx hb dX7_encode_304 (by decide) ?_
                        refine lv_topi (fun v69 e69 => ?_)
                        have z69 : v69.toInt = 8 := zi_c e69 (by decide)
                        refine lv_iconst (v := 0) hx hb dX7_encode_306 (by decide) ?_
                        refine lv_topi (fun v70 e70 => ?_)
                        have z70 : v70.toInt = 0 := zi_c e70 (by decide)
                        have hh71 : 0 ≤ v68.toInt ∧ v68.toInt ≤ 8 := (by omega)
                        have hh72 : 0 ≤ v69.toInt ∧ v69.toInt ≤ 8 := (by omega)
                        refine call_i (wc := [(aM, .inr (6, [.int th, .int mw, .ref bG, .int mz, .ref bL, .ref bY, .ref bB, .ref bC, .int tk, .int ss, .int ml, .int mh, .int mp, .int rw, .int wr, .int tc, .ref bT])), (bG, .inl (cI, 8, .inl gg))]) (wr := [(bB, .inl (cI, 66, .inl f17))]) (run_V (As := [.int v68, .int v69, .int v70]) (rest := []) kv_RX7_51 ⟨by decide, by decide⟩ ⟨rfl, rfl⟩ ⟨hx, hb, hml, hown, hts⟩ (c_Mo_are l D cI cJ cB aM bG bL bY bB bC bT th mw mz tk ss ml mh mp rw wr tc gg v68 v69 v70 hh71 hh72 _) ct_blind (ct_pre (wc := [(aM, .inr (6, [.int th, .int mw, .ref bG, .int mz, .ref bL, .ref bY, .ref bB, .ref bC, .int tk, .int ss, .int ml, .int mh, .int mp, .int rw, .int wr, .int tc, .ref bT])), (bG, .inl (cI, 8, .inl gg))]) hK hP hD hS hA hZ hN [1, 2] (by decide) rfl rfl) (va_recv hK hP (ci := 6) (q0 := 1) rfl rfl) rfl hl.1 rfl (Nat.le_of_ble_eq_true rfl) dX7_encode_307 ⟨Nat.le_of_ble_eq_true rfl, Nat.le_of_ble_eq_true rfl⟩) hP hD hS hA [1, 2] [0] rfl rfl (by decide) (by decide) (fun r73 u H locs hw73 hP1 hD1 hS1 => ?_)
                        have hw73 : 0 ≤ r73.toInt ∧ r73.toInt ≤ 1 := hw73
                        clear hP hD hS
                        have hP : va_P D classes [(bB, .inl (cI, 66, .inl f17)), (aM, .inr (6, [.int th, .int mw, .ref bG, .int mz, .ref bL, .ref bY, .ref bB, .ref bC, .int tk, .int ss, .int ml, .int mh, .int mp, .int rw, .int wr, .int tc, .ref bT])), (bG, .inl (cI, 8, .inl gg))] H := hP1
                        have hD : va_D A [(bB, .inl (cI, 66, .inl f17)), (aM, .inr (6, [.int th, .int mw, .ref bG, .int mz, .ref bL, .ref bY, .ref bB, .ref bC, .int tk, .int ss, .int ml, .int mh, .int mp, .int rw, .int wr, .int tc, .ref bT])), (bG, .inl (cI, 8, .inl gg))] := hD1
                        have hS := hS1
                        clear hP1 hD1 hS1
                        have rg_r73 := zi_rg r73
                        refine lv_if_eq (tgt := 390) hx hb dX7_encode_310 (by decide) (fun c74 => ?_) (fun c74 => ?_)
                        ·
                          have z74 := zi_eq0 c74
                          exact J390  _ _ _   (hP.sub [0, 1, 2] rfl) (hD.sub [0, 1, 2] (by decide) rfl) hS (lv_sub hl [0, 1, 2] rfl)
                        ·
                          have z74 := zi_ne0 c74
                          refine lv_aload_n hx hb dX7_encode_313 rfl (lv_at hl 0 rfl) ?_
                          refine lv_iload_n hx hb dX7_encode_314 rfl (lv_at hl 1 rfl) ?_
                          refine call_i (wc := []) (wr := [(bB, .inl (cI, 66, .inl f17)), (aM, .inr (6, [.int th, .int mw, .ref bG, .int mz, .ref bL, .ref bY, .ref bB, .ref bC, .int tk, .int ss, .int ml, .int mh, .int mp, .int rw, .int wr, .int tc, .ref bT])), (bG, .inl (cI, 8, .inl gg))]) (run_S (As := [.int en]) (rest := [.ref aM]) ks_RX7_59 ⟨by decide, by decide⟩ ⟨rfl, rfl⟩ ⟨hx, hb, hml, hown, hts⟩ (c_Mo_typeOf l D cI cJ cB en  _) ct_blind (ct_pre (wc := []) hK hP hD hS hA hZ hN [] (by decide) rfl rfl) rfl hl.1 rfl (Nat.le_of_ble_eq_true rfl) dX7_encode_315 ⟨Nat.le_of_ble_eq_true rfl, Nat.le_of_ble_eq_true rfl⟩) hP hD hS hA [] [0, 1, 2] rfl rfl (by decide) (by decide) (fun r75 u H locs hw75 hP1 hD1 hS1 => ?_)
                          clear hw75
                          clear hP hD hS
                          have hP : va_P D classes [(bB, .inl (cI, 66, .inl f17)), (aM, .inr (6, [.int th, .int mw, .ref bG, .int mz, .ref bL, .ref bY, .ref bB, .ref bC, .int tk, .int ss, .int ml, .int mh, .int mp, .int rw, .int wr, .int tc, .ref bT])), (bG, .inl (cI, 8, .inl gg))] H := hP1
                          have hD : va_D A [(bB, .inl (cI, 66, .inl f17)), (aM, .inr (6, [.int th, .int mw, .ref bG, .int mz, .ref bL, .ref bY, .ref bB, .ref bC, .int tk, .int ss, .int ml, .int mh, .int mp, .int rw, .int wr, .int tc, .ref bT])), (bG, .inl (cI, 8, .inl gg))] := hD1
                          have hS := hS1
                          clear hP1 hD1 hS1
                          have rg_r75 := zi_rg r75
                          refine lv_iconst (v := 2) hx hb dX7_encode_318 (by decide) ?_
                          refine lv_topi (fun v76 e76 => ?_)
                          have z76 : v76.toInt = 2 := zi_c e76 (by decide)
                          refine lv_bipush (v := 8) hx hb dX7_encode_319 (by decide) ?_
                          refine lv_topi (fun v77 e77 => ?_)
                          have z77 : v77.toInt = 8 := zi_c e77 (by decide)
                          have hh78 : 0 ≤ v76.toInt ∧ 0 ≤ v77.toInt ∧ v76.toInt + v77.toInt ≤ 66 := (by omega)
                          refine call_v (wc := [(aM, .inr (6, [.int th, .int mw, .ref bG, .int mz, .ref bL, .ref bY, .ref bB, .ref bC, .int tk, .int ss, .int ml, .int mh, .int mp, .int rw, .int wr, .int tc, .ref bT])), (bB, .inl (cI, 66, .inl f17))]) (wr := [(bG, .inl (cI, 8, .inl gg))]) (run_V (As := [.int r75, .int v76, .int v77]) (rest := []) kv_RX7_47 ⟨by decide, by decide⟩ ⟨rfl, rfl⟩ ⟨hx, hb, hml, hown, hts⟩ (c_Mo_setBits l D cI cJ cB aM bG bL bY bB bC bT th mw mz tk ss ml mh mp rw wr tc f17 r75 v76 v77 hh78 _) ct_blind (ct_pre (wc := [(aM, .inr (6, [.int th, .int mw, .ref bG, .int mz, .ref bL, .ref bY, .ref bB, .ref bC, .int tk, .int ss, .int ml, .int mh, .int mp, .int rw, .int wr, .int tc, .ref bT])), (bB, .inl (cI, 66, .inl f17))]) hK hP hD hS hA hZ hN [1, 0] (by decide) rfl rfl) (va_recv hK hP (ci := 6) (q0 := 1) rfl rfl) rfl hl.1 rfl (Nat.le_of_ble_eq_true rfl) dX7_encode_321 ⟨Nat.le_of_ble_eq_true rfl, Nat.le_of_ble_eq_true rfl⟩) hP hD hS hA [1, 0] [2] rfl rfl (by decide) (by decide) (fun u H locs hw79 hP1 hD1 hS1 => ?_)
                          obtain ⟨gb2_79, hu9⟩ : ∃ z, z = u := ⟨_, rfl⟩
                          subst hu9
                          clear hw79
                          clear hP hD hS
                          have hP : va_P D classes [(bG, .inl (cI, 8, .inl gg)), (aM, .inr (6, [.int th, .int mw, .ref bG, .int mz, .ref bL, .ref bY, .ref bB, .ref bC, .int tk, .int ss, .int ml, .int mh, .int mp, .int rw, .int wr, .int tc, .ref bT])), (bB, .inl (cI, 66, .inl gb2_79))] H := hP1
                          have hD : va_D A [(bG, .inl (cI, 8, .inl gg)), (aM, .inr (6, [.int th, .int mw, .ref bG, .int mz, .ref bL, .ref bY, .ref bB, .ref bC, .int tk, .int ss, .int ml, .int mh, .int mp, .int rw, .int wr, .int tc, .ref bT])), (bB, .inl (cI, 66, .inl gb2_79))] := hD1
                          have hS := hS1
                          clear hP1 hD1 hS1
                          refine lv_iconst (v := 0) hx hb dX7_encode_324 (by decide) ?_
                          refine lv_topi (fun v80 e80 => ?_)
                          have z80 : v80.toInt = 0 := zi_c e80 (by decide)
                          refine lv_istore_n (lv' := [(2, .int v80), (0, .ref aM), (1, .int en)]) hx hb dX7_encode_325 rfl hl (by decide) rfl (fun ls hl => ?_)
                          have J326 : ∀ (n : Nat) (k : Int32) (gb3 : Nat → Int32) (H : Heap) (locs : List Loc) (ls : Array Slot), ((en.toInt - k.toInt).toNat) < n → (0 ≤ k.toInt ∧ k.toInt ≤ en.toInt) → va_P D classes [(bG, .inl (cI, 8, .inl gg)), (aM, .inr (6, [.int th, .int mw, .ref bG, .int mz, .ref bL, .ref bY, .ref bB, .ref bC, .int tk, .int ss, .int ml, .int mh, .int mp, .int rw, .int wr, .int tc, .ref bT])), (bB, .inl (cI, 66, .inl gb3))] H → va_D A [(bG, .inl (cI, 8, .inl gg)), (aM, .inr (6, [.int th, .int mw, .ref bG, .int mz, .ref bL, .ref bY, .ref bB, .ref bC, .int tk, .int ss, .int ml, .int mh, .int mp, .int rw, .int wr, .int tc, .ref bT])), (bB, .inl (cI, 66, .inl gb3))] → va_S A s.heap H locs → lv_has ls 4 [(0, .ref aM), (1, .int en), (2, .int k)] → W p l e (rmL 2 46 0 0) s m args below meth c H locs 0 0 Q (F0 m 326 ls []) := by
                            intro n
                            induction n with
                            | zero => intro k gb3 H locs ls hmu; exact absurd hmu (Nat.not_lt_zero _)
                            | succ n ih326 =>
                              intro k gb3 H locs ls hmu326 i326_0 hP hD hS hl
                              have rg_k := zi_rg k
                              refine lv_iload_n hx hb dX7_encode_326 rfl (lv_at hl 2 rfl) ?_
                              refine lv_iload_n hx hb dX7_encode_327 rfl (lv_at hl 1 rfl) ?_
                              refine lv_icmp_ge (tgt := 356) hx hb dX7_encode_328 (by decide) (fun c81 => ?_) (fun c81 => ?_)
                              ·
                                have z81 := zi_le c81
                                refine lv_iload_n hx hb dX7_encode_356 rfl (lv_at hl 1 rfl) ?_
                                refine lv_iconst (v := 1) hx hb dX7_encode_357 (by decide) ?_
                                refine lv_topi (fun v82 e82 => ?_)
                                have z82 : v82.toInt = 1 := zi_c e82 (by decide)
                                refine lv_iadd hx hb dX7_encode_358 ?_
                                refine lv_topi (fun v83 e83 => ?_)
                                first | have z83 := zi_add e83 (by omega) | skip
                                refine lv_istore_n (lv' := [(2, .int v83), (0, .ref aM), (1, .int en)]) hx hb dX7_encode_359 rfl hl (by decide) rfl (fun ls hl => ?_)
                                have J360 : ∀ (n : Nat) (k : Int32) (gb3 : Nat → Int32) (H : Heap) (locs : List Loc) (ls : Array Slot), ((8 - k.toInt).toNat) < n → (0 ≤ k.toInt ∧ k.toInt ≤ 8) → va_P D classes [(bG, .inl (cI, 8, .inl gg)), (aM, .inr (6, [.int th, .int mw, .ref bG, .int mz, .ref bL, .ref bY, .ref bB, .ref bC, .int tk, .int ss, .int ml, .int mh, .int mp, .int rw, .int wr, .int tc, .ref bT])), (bB, .inl (cI, 66, .inl gb3))] H → va_D A [(bG, .inl (cI, 8, .inl gg)), (aM, .inr (6, [.int th, .int mw, .ref bG, .int mz, .ref bL, .ref bY, .ref bB, .ref bC, .int tk, .int ss, .int ml, .int mh, .int mp, .int rw, .int wr, .int tc, .ref bT])), (bB, .inl (cI, 66, .inl gb3))] → va_S A s.heap H locs → lv_has ls 4 [(0, .ref aM), (1, .int en), (2, .int k)] → W p l e (rmL 2 46 0 0) s m args below meth c H locs 0 0 Q (F0 m 360 ls []) := by
                                  intro n
                                  induction n with
                                  | zero => intro k gb3 H locs ls hmu; exact absurd hmu (Nat.not_lt_zero _)
                                  | succ n ih360 =>
                                    intro k gb3 H locs ls hmu360 i360_0 hP hD hS hl
                                    have rg_k := zi_rg k
                                    refine lv_iload_n hx hb dX7_encode_360 rfl (lv_at hl 2 rfl) ?_
                                    refine lv_bipush (v := 8) hx hb dX7_encode_361 (by decide) ?_
                                    refine lv_topi (fun v84 e84 => ?_)
                                    have z84 : v84.toInt = 8 := zi_c e84 (by decide)
                                    refine lv_icmp_ge (tgt := 387) hx hb dX7_encode_363 (by decide) (fun c85 => ?_) (fun c85 => ?_)
                                    ·
                                      have z85 := zi_le c85
                                      refine lv_goto (tgt := 456) hx hb dX7_encode_387 (by decide) ?_
                                      exact hret (gg, gb3) _ _ _ _ dX7_encode_456 trivial (hP.sub [1, 0, 2] rfl) (hD.sub [1, 0, 2] (by decide) rfl) hS
                                    ·
                                      have z85 := zi_nle c85
                                      refine lv_aload_n hx hb dX7_encode_366 rfl (lv_at hl 0 rfl) ?_
                                      refine lv_iload_n hx hb dX7_encode_367 rfl (lv_at hl 2 rfl) ?_
                                      refine lv_bipush (v := 66) hx hb dX7_encode_368 (by decide) ?_
                                      refine lv_topi (fun v87 e87 => ?_)
                                      have z87 : v87.toInt = 66 := zi_c e87 (by decide)
                                      refine lv_bipush (v := 7) hx hb dX7_encode_370 (by decide) ?_
                                      refine lv_topi (fun v88 e88 => ?_)
                                      have z88 : v88.toInt = 7 := zi_c e88 (by decide)
                                      refine lv_bipush (v := 8) hx hb dX7_encode_372 (by decide) ?_
                                      refine lv_topi (fun v89 e89 => ?_)
                                      have z89 : v89.toInt = 8 := zi_c e89 (by decide)
                                      refine lv_iload_n hx hb dX7_encode_374 rfl (lv_at hl 2 rfl) ?_
                                      refine lv_isub hx hb dX7_encode_375 ?_
                                      refine lv_topi (fun v90 e90 => ?_)
                                      first | have z90 := zi_sub e90 (by omega) | skip
                                      refine lv_imul hx hb dX7_encode_376 ?_
                                      refine lv_topi (fun v91 e91 => ?_)
                                      first | have z91 := zi_mulL (k := 7) e91 (by omega) (by omega) | skip
                                      refine lv_isub hx hb dX7_encode_377 ?_
                                      refine lv_topi (fun v92 e92 => ?_)
                                      first | have z92 := zi_sub e92 (by omega) | skip
                                      have hh93 : 0 ≤ k.toInt ∧ k.toInt < 8 := (by omega)
                                      have hh94 : 0 ≤ v92.toInt ∧ v92.toInt + 7 ≤ 66 := (by omega)
                                      refine call_v (wc := [(aM, .inr (6, [.int th, .int mw, .ref bG, .int mz, .ref bL, .ref bY, .ref bB, .ref bC, .int tk, .int ss, .int ml, .int mh, .int mp, .int rw, .int wr, .int tc, .ref bT])), (bG, .inl (cI, 8, .inl gg)), (bB, .inl (cI, 66, .inl gb3))]) (wr := []) (run_V (As := [.int k, .int v92]) (rest := []) kv_RX7_55 ⟨by decide, by decide⟩ ⟨rfl, rfl⟩ ⟨hx, hb, hml, hown, hts⟩ (c_Mo_putCode l D cI cJ cB aM bG bL bY bB bC bT th mw mz tk ss ml mh mp rw wr tc gg gb3 k v92 hh93 hh94 _) ct_blind (ct_pre (wc := [(aM, .inr (6, [.int th, .int mw, .ref bG, .int mz, .ref bL, .ref bY, .ref bB, .ref bC, .int tk, .int ss, .int ml, .int mh, .int mp, .int rw, .int wr, .int tc, .ref bT])), (bG, .inl (cI, 8, .inl gg)), (bB, .inl (cI, 66, .inl gb3))]) hK hP hD hS hA hZ hN [1, 0, 2] (by decide) rfl rfl) (va_recv hK hP (ci := 6) (q0 := 1) rfl rfl) rfl hl.1 rfl (Nat.le_of_ble_eq_true rfl) dX7_encode_378 ⟨Nat.le_of_ble_eq_true rfl, Nat.le_of_ble_eq_true rfl⟩) hP hD hS hA [1, 0, 2] [] rfl rfl (by decide) (by decide) (fun u H locs hw95 hP1 hD1 hS1 => ?_)
                                      obtain ⟨gb2_95, hu9⟩ : ∃ z, z = u := ⟨_, rfl⟩
                                      subst hu9
                                      clear hw95
                                      clear hP hD hS
                                      have hP : va_P D classes [(aM, .inr (6, [.int th, .int mw, .ref bG, .int mz, .ref bL, .ref bY, .ref bB, .ref bC, .int tk, .int ss, .int ml, .int mh, .int mp, .int rw, .int wr, .int tc, .ref bT])), (bG, .inl (cI, 8, .inl gg)), (bB, .inl (cI, 66, .inl gb2_95))] H := hP1
                                      have hD : va_D A [(aM, .inr (6, [.int th, .int mw, .ref bG, .int mz, .ref bL, .ref bY, .ref bB, .ref bC, .int tk, .int ss, .int ml, .int mh, .int mp, .int rw, .int wr, .int tc, .ref bT])), (bG, .inl (cI, 8, .inl gg)), (bB, .inl (cI, 66, .inl gb2_95))] := hD1
                                      have hS := hS1
                                      clear hP1 hD1 hS1
                                      obtain ⟨v96, e96⟩ : ∃ y : Int32, y = k + 1 := ⟨_, rfl⟩
                                      first | have z96 := zi_inc (z := 1) 1 (by decide) e96 (by omega) | skip
                                      refine lv_iinc (v := v96) (lv' := [(2, .int v96), (0, .ref aM), (1, .int en)]) hx hb dX7_encode_381 hl (k := 2) rfl (by rw [e96]; rfl) (by decide) rfl (fun ls hl => ?_)
                                      refine lv_goto (tgt := 360) hx hb dX7_encode_384 (by decide) ?_
                                      exact ih360 v96 gb2_95 _ _ _ (by omega) (by omega) (hP.sub [1, 0, 2] rfl) (hD.sub [1, 0, 2] (by decide) rfl) hS (lv_sub hl [1, 2, 0] rfl)
                                exact J360 _ v83 gb3 _ _ _ (Nat.lt_succ_self _) (by omega) (hP.sub [0, 1, 2] rfl) (hD.sub [0, 1, 2] (by decide) rfl) hS (lv_sub hl [1, 2, 0] rfl)
                              ·
                                have z81 := zi_nle c81
                                refine lv_aload_n hx hb dX7_encode_331 rfl (lv_at hl 0 rfl) ?_
                                refine lv_aload_n hx hb dX7_encode_332 rfl (lv_at hl 0 rfl) ?_
                                refine va_get (D := D) (ci := 6) (v := .ref bG) (C := RX7) (T := TX7) (N := 17) hx hb hts in_X7 hown hK hP 1 rfl rfl 2 (by decide) (hts _ wk60) (fun _ h9 => h9) rfl dX7_encode_333 ?_
                                refine lv_iload_n hx hb dX7_encode_336 rfl (lv_at hl 2 rfl) ?_
                                refine va_iald hx hb hK hP 0 0 rfl rfl (zi_in (by omega)) dX7_encode_337 ?_
                                refine lv_topi (fun v97 e97 => ?_)
                                refine lv_bipush (v := 10) hx hb dX7_encode_338 (by decide) ?_
                                refine lv_topi (fun v98 e98 => ?_)
                                have z98 : v98.toInt = 10 := zi_c e98 (by decide)
                                refine lv_bipush (v := 8) hx hb dX7_encode_340 (by decide) ?_
                                refine lv_topi (fun v99 e99 => ?_)
                                have z99 : v99.toInt = 8 := zi_c e99 (by decide)
                                refine lv_iload_n hx hb dX7_encode_342 rfl (lv_at hl 2 rfl) ?_
                                refine lv_imul hx hb dX7_encode_343 ?_
                                refine lv_topi (fun v100 e100 => ?_)
                                first | have z100 := zi_mulL (k := 8) e100 (by omega) (by omega) | skip
                                refine lv_iadd hx hb dX7_encode_344 ?_
                                refine lv_topi (fun v101 e101 => ?_)
                                first | have z101 := zi_add e101 (by omega) | skip
                                refine lv_bipush (v := 8) hx hb dX7_encode_345 (by decide) ?_
                                refine lv_topi (fun v102 e102 => ?_)
                                have z102 : v102.toInt = 8 := zi_c e102 (by decide)
                                have hh103 : 0 ≤ v101.toInt ∧ 0 ≤ v102.toInt ∧ v101.toInt + v102.toInt ≤ 66 := (by omega)
                                refine call_v (wc := [(aM, .inr (6, [.int th, .int mw, .ref bG, .int mz, .ref bL, .ref bY, .ref bB, .ref bC, .int tk, .int ss, .int ml, .int mh, .int mp, .int rw, .int wr, .int tc, .ref bT])), (bB, .inl (cI, 66, .inl gb3))]) (wr := [(bG, .inl (cI, 8, .inl gg))]) (run_V (As := [.int v97, .int v101, .int v102]) (rest := []) kv_RX7_47 ⟨by decide, by decide⟩ ⟨rfl, rfl⟩ ⟨hx, hb, hml, hown, hts⟩ (c_Mo_setBits l D cI cJ cB aM bG bL bY bB bC bT th mw mz tk ss ml mh mp rw wr tc gb3 v97 v101 v102 hh103 _) ct_blind (ct_pre (wc := [(aM, .inr (6, [.int th, .int mw, .ref bG, .int mz, .ref bL, .ref bY, .ref bB, .ref bC, .int tk, .int ss, .int ml, .int mh, .int mp, .int rw, .int wr, .int tc, .ref bT])), (bB, .inl (cI, 66, .inl gb3))]) hK hP hD hS hA hZ hN [1, 2] (by decide) rfl rfl) (va_recv hK hP (ci := 6) (q0 := 1) rfl rfl) rfl hl.1 rfl (Nat.le_of_ble_eq_true rfl) dX7_encode_347 ⟨Nat.le_of_ble_eq_true rfl, Nat.le_of_ble_eq_true rfl⟩) hP hD hS hA [1, 2] [0] rfl rfl (by decide) (by decide) (fun u H locs hw104 hP1 hD1 hS1 => ?_)
                                obtain ⟨gb2_104, hu9⟩ : ∃ z, z = u := ⟨_, rfl⟩
                                subst hu9
                                clear hw104
                                clear hP hD hS
                                have hP : va_P D classes [(bG, .inl (cI, 8, .inl gg)), (aM, .inr (6, [.int th, .int mw, .ref bG, .int mz, .ref bL, .ref bY, .ref bB, .ref bC, .int tk, .int ss, .int ml, .int mh, .int mp, .int rw, .int wr, .int tc, .ref bT])), (bB, .inl (cI, 66, .inl gb2_104))] H := hP1
                                have hD : va_D A [(bG, .inl (cI, 8, .inl gg)), (aM, .inr (6, [.int th, .int mw, .ref bG, .int mz, .ref bL, .ref bY, .ref bB, .ref bC, .int tk, .int ss, .int ml, .int mh, .int mp, .int rw, .int wr, .int tc, .ref bT])), (bB, .inl (cI, 66, .inl gb2_104))] := hD1
                                have hS := hS1
                                clear hP1 hD1 hS1
                                obtain ⟨v105, e105⟩ : ∃ y : Int32, y = k + 1 := ⟨_, rfl⟩
                                first | have z105 := zi_inc (z := 1) 1 (by decide) e105 (by omega) | skip
                                refine lv_iinc (v := v105) (lv' := [(2, .int v105), (0, .ref aM), (1, .int en)]) hx hb dX7_encode_350 hl (k := 2) rfl (by rw [e105]; rfl) (by decide) rfl (fun ls hl => ?_)
                                refine lv_goto (tgt := 326) hx hb dX7_encode_353 (by decide) ?_
                                exact ih326 v105 gb2_104 _ _ _ (by omega) (by omega) (hP.sub [0, 1, 2] rfl) (hD.sub [0, 1, 2] (by decide) rfl) hS (lv_sub hl [1, 2, 0] rfl)
                          exact J326 _ v80 gb2_79 _ _ _ (Nat.lt_succ_self _) (by omega) (hP.sub [0, 1, 2] rfl) (hD.sub [0, 1, 2] (by decide) rfl) hS (lv_sub hl [1, 2, 0] rfl)
                  refine lv_icmp_ne (tgt := 286) hx hb dX7_encode_193 (by decide) (fun c106 => ?_) (fun c106 => ?_)
                  ·
                    have z106 := zi_ne c106
                    exact J286  _ _ _   (hP.sub [0, 1, 2] rfl) (hD.sub [0, 1, 2] (by decide) rfl) hS (lv_sub hl [0, 1, 2] rfl)
                  ·
                    have z106 := zi_eq c106
                    refine lv_aload_n hx hb dX7_encode_196 rfl (lv_at hl 0 rfl) ?_
                    refine lv_iconst (v := 0) hx hb dX7_encode_197 (by decide) ?_
                    refine lv_topi (fun v107 e107 => ?_)
                    have z107 : v107.toInt = 0 := zi_c e107 (by decide)
                    refine lv_iconst (v := 4) hx hb dX7_encode_198 (by decide) ?_
                    refine lv_topi (fun v108 e108 => ?_)
                    have z108 : v108.toInt = 4 := zi_c e108 (by decide)
                    refine lv_iconst (v := 0) hx hb dX7_encode_199 (by decide) ?_
                    refine lv_topi (fun v109 e109 => ?_)
                    have z109 : v109.toInt = 0 := zi_c e109 (by decide)
                    have hh110 : 0 ≤ v107.toInt ∧ v107.toInt ≤ 8 := (by omega)
                    have hh111 : 0 ≤ v108.toInt ∧ v108.toInt ≤ 8 := (by omega)
                    refine call_i (wc := [(aM, .inr (6, [.int th, .int mw, .ref bG, .int mz, .ref bL, .ref bY, .ref bB, .ref bC, .int tk, .int ss, .int ml, .int mh, .int mp, .int rw, .int wr, .int tc, .ref bT])), (bG, .inl (cI, 8, .inl gg))]) (wr := [(bB, .inl (cI, 66, .inl f17))]) (run_V (As := [.int v107, .int v108, .int v109]) (rest := []) kv_RX7_51 ⟨by decide, by decide⟩ ⟨rfl, rfl⟩ ⟨hx, hb, hml, hown, hts⟩ (c_Mo_are l D cI cJ cB aM bG bL bY bB bC bT th mw mz tk ss ml mh mp rw wr tc gg v107 v108 v109 hh110 hh111 _) ct_blind (ct_pre (wc := [(aM, .inr (6, [.int th, .int mw, .ref bG, .int mz, .ref bL, .ref bY, .ref bB, .ref bC, .int tk, .int ss, .int ml, .int mh, .int mp, .int rw, .int wr, .int tc, .ref bT])), (bG, .inl (cI, 8, .inl gg))]) hK hP hD hS hA hZ hN [1, 2] (by decide) rfl rfl) (va_recv hK hP (ci := 6) (q0 := 1) rfl rfl) rfl hl.1 rfl (Nat.le_of_ble_eq_true rfl) dX7_encode_200 ⟨Nat.le_of_ble_eq_true rfl, Nat.le_of_ble_eq_true rfl⟩) hP hD hS hA [1, 2] [0] rfl rfl (by decide) (by decide) (fun r112 u H locs hw112 hP1 hD1 hS1 => ?_)
                    have hw112 : 0 ≤ r112.toInt ∧ r112.toInt ≤ 1 := hw112
                    clear hP hD hS
                    have hP : va_P D classes [(bB, .inl (cI, 66, .inl f17)), (aM, .inr (6, [.int th, .int mw, .ref bG, .int mz, .ref bL, .ref bY, .ref bB, .ref bC, .int tk, .int ss, .int ml, .int mh, .int mp, .int rw, .int wr, .int tc, .ref bT])), (bG, .inl (cI, 8, .inl gg))] H := hP1
                    have hD : va_D A [(bB, .inl (cI, 66, .inl f17)), (aM, .inr (6, [.int th, .int mw, .ref bG, .int mz, .ref bL, .ref bY, .ref bB, .ref bC, .int tk, .int ss, .int ml, .int mh, .int mp, .int rw, .int wr, .int tc, .ref bT])), (bG, .inl (cI, 8, .inl gg))] := hD1
                    have hS := hS1
                    clear hP1 hD1 hS1
                    have rg_r112 := zi_rg r112
                    refine lv_if_eq (tgt := 286) hx hb dX7_encode_203 (by decide) (fun c113 => ?_) (fun c113 => ?_)
                    ·
                      have z113 := zi_eq0 c113
                      exact J286  _ _ _   (hP.sub [0, 1, 2] rfl) (hD.sub [0, 1, 2] (by decide) rfl) hS (lv_sub hl [0, 1, 2] rfl)
                    ·
                      have z113 := zi_ne0 c113
                      refine lv_aload_n hx hb dX7_encode_206 rfl (lv_at hl 0 rfl) ?_
                      refine lv_iconst (v := 5) hx hb dX7_encode_207 (by decide) ?_
                      refine lv_topi (fun v114 e114 => ?_)
                      have z114 : v114.toInt = 5 := zi_c e114 (by decide)
                      refine lv_bipush (v := 8) hx hb dX7_encode_208 (by decide) ?_
                      refine lv_topi (fun v115 e115 => ?_)
                      have z115 : v115.toInt = 8 := zi_c e115 (by decide)
                      refine lv_iconst (v := 1) hx hb dX7_encode_210 (by decide) ?_
                      refine lv_topi (fun v116 e116 => ?_)
                      have z116 : v116.toInt = 1 := zi_c e116 (by decide)
                      have hh117 : 0 ≤ v114.toInt ∧ v114.toInt ≤ 8 := (by omega)
                      have hh118 : 0 ≤ v115.toInt ∧ v115.toInt ≤ 8 := (by omega)
                      refine call_i (wc := [(aM, .inr (6, [.int th, .int mw, .ref bG, .int mz, .ref bL, .ref bY, .ref bB, .ref bC, .int tk, .int ss, .int ml, .int mh, .int mp, .int rw, .int wr, .int tc, .ref bT])), (bG, .inl (cI, 8, .inl gg))]) (wr := [(bB, .inl (cI, 66, .inl f17))]) (run_V (As := [.int v114, .int v115, .int v116]) (rest := []) kv_RX7_51 ⟨by decide, by decide⟩ ⟨rfl, rfl⟩ ⟨hx, hb, hml, hown, hts⟩ (c_Mo_are l D cI cJ cB aM bG bL bY bB bC bT th mw mz tk ss ml mh mp rw wr tc gg v114 v115 v116 hh117 hh118 _) ct_blind (ct_pre (wc := [(aM, .inr (6, [.int th, .int mw, .ref bG, .int mz, .ref bL, .ref bY, .ref bB, .ref bC, .int tk, .int ss, .int ml, .int mh, .int mp, .int rw, .int wr, .int tc, .ref bT])), (bG, .inl (cI, 8, .inl gg))]) hK hP hD hS hA hZ hN [1, 2] (by decide) rfl rfl) (va_recv hK hP (ci := 6) (q0 := 1) rfl rfl) rfl hl.1 rfl (Nat.le_of_ble_eq_true rfl) dX7_encode_211 ⟨Nat.le_of_ble_eq_true rfl, Nat.le_of_ble_eq_true rfl⟩) hP hD hS hA [1, 2] [0] rfl rfl (by decide) (by decide) (fun r119 u H locs hw119 hP1 hD1 hS1 => ?_)
                      have hw119 : 0 ≤ r119.toInt ∧ r119.toInt ≤ 1 := hw119
                      clear hP hD hS
                      have hP : va_P D classes [(bB, .inl (cI, 66, .inl f17)), (aM, .inr (6, [.int th, .int mw, .ref bG, .int mz, .ref bL, .ref bY, .ref bB, .ref bC, .int tk, .int ss, .int ml, .int mh, .int mp, .int rw, .int wr, .int tc, .ref bT])), (bG, .inl (cI, 8, .inl gg))] H := hP1
                      have hD : va_D A [(bB, .inl (cI, 66, .inl f17)), (aM, .inr (6, [.int th, .int mw, .ref bG, .int mz, .ref bL, .ref bY, .ref bB, .ref bC, .int tk, .int ss, .int ml, .int mh, .int mp, .int rw, .int wr, .int tc, .ref bT])), (bG, .inl (cI, 8, .inl gg))] := hD1
                      have hS := hS1
                      clear hP1 hD1 hS1
                      have rg_r119 := zi_rg r119
                      refine lv_if_eq (tgt := 286) hx hb dX7_encode_214 (by decide) (fun c120 => ?_) (fun c120 => ?_)
                      ·
                        have z120 := zi_eq0 c120
                        exact J286  _ _ _   (hP.sub [0, 1, 2] rfl) (hD.sub [0, 1, 2] (by decide) rfl) hS (lv_sub hl [0, 1, 2] rfl)
                      ·
                        have z120 := zi_ne0 c120
                        refine lv_aload_n hx hb dX7_encode_217 rfl (lv_at hl 0 rfl) ?_
                        refine lv_bipush (v := 51) hx hb dX7_encode_218 (by decide) ?_
                        refine lv_topi (fun v121 e121 => ?_)
                        have z121 : v121.toInt = 51 := zi_c e121 (by decide)
                        refine lv_iconst (v := 2) hx hb dX7_encode_220 (by decide) ?_
                        refine lv_topi (fun v122 e122 => ?_)
                        have z122 : v122.toInt = 2 := zi_c e122 (by decide)
                        refine lv_bipush (v := 8) hx hb dX7_encode_221 (by decide) ?_
                        refine lv_topi (fun v123 e123 => ?_)
                        have z123 : v123.toInt = 8 := zi_c e123 (by decide)
                        have hh124 : 0 ≤ v122.toInt ∧ 0 ≤ v123.toInt ∧ v122.toInt + v123.toInt ≤ 66 := (by omega)
                        refine call_v (wc := [(aM, .inr (6, [.int th, .int mw, .ref bG, .int mz, .ref bL, .ref bY, .ref bB, .ref bC, .int tk, .int ss, .int ml, .int mh, .int mp, .int rw, .int wr, .int tc, .ref bT])), (bB, .inl (cI, 66, .inl f17))]) (wr := [(bG, .inl (cI, 8, .inl gg))]) (run_V (As := [.int v121, .int v122, .int v123]) (rest := []) kv_RX7_47 ⟨by decide, by decide⟩ ⟨rfl, rfl⟩ ⟨hx, hb, hml, hown, hts⟩ (c_Mo_setBits l D cI cJ cB aM bG bL bY bB bC bT th mw mz tk ss ml mh mp rw wr tc f17 v121 v122 v123 hh124 _) ct_blind (ct_pre (wc := [(aM, .inr (6, [.int th, .int mw, .ref bG, .int mz, .ref bL, .ref bY, .ref bB, .ref bC, .int tk, .int ss, .int ml, .int mh, .int mp, .int rw, .int wr, .int tc, .ref bT])), (bB, .inl (cI, 66, .inl f17))]) hK hP hD hS hA hZ hN [1, 0] (by decide) rfl rfl) (va_recv hK hP (ci := 6) (q0 := 1) rfl rfl) rfl hl.1 rfl (Nat.le_of_ble_eq_true rfl) dX7_encode_223 ⟨Nat.le_of_ble_eq_true rfl, Nat.le_of_ble_eq_true rfl⟩) hP hD hS hA [1, 0] [2] rfl rfl (by decide) (by decide) (fun u H locs hw125 hP1 hD1 hS1 => ?_)
                        obtain ⟨gb2_125, hu9⟩ : ∃ z, z = u := ⟨_, rfl⟩
                        subst hu9
                        clear hw125
                        clear hP hD hS
                        have hP : va_P D classes [(bG, .inl (cI, 8, .inl gg)), (aM, .inr (6, [.int th, .int mw, .ref bG, .int mz, .ref bL, .ref bY, .ref bB, .ref bC, .int tk, .int ss, .int ml, .int mh, .int mp, .int rw, .int wr, .int tc, .ref bT])), (bB, .inl (cI, 66, .inl gb2_125))] H := hP1
                        have hD : va_D A [(bG, .inl (cI, 8, .inl gg)), (aM, .inr (6, [.int th, .int mw, .ref bG, .int mz, .ref bL, .ref bY, .ref bB, .ref bC, .int tk, .int ss, .int ml, .int mh, .int mp, .int rw, .int wr, .int tc, .ref bT])), (bB, .inl (cI, 66, .inl gb2_125))] := hD1
                        have hS := hS1
                        clear hP1 hD1 hS1
                        refine lv_iconst (v := 0) hx hb dX7_encode_226 (by decide) ?_
                        refine lv_topi (fun v126 e126 => ?_)
                        have z126 : v126.toInt = 0 := zi_c e126 (by decide)
                        refine lv_istore_n (lv' := [(2, .int v126), (0, .ref aM), (1, .int en)]) hx hb dX7_encode_227 rfl hl (by decide) rfl (fun ls hl => ?_)
                        have J228 : ∀ (n : Nat) (k : Int32) (gb3 : Nat → Int32) (H : Heap) (locs : List Loc) (ls : Array Slot), ((4 - k.toInt).toNat) < n → (0 ≤ k.toInt ∧ k.toInt ≤ 4) → va_P D classes [(bG, .inl (cI, 8, .inl gg)), (aM, .inr (6, [.int th, .int mw, .ref bG, .int mz, .ref bL, .ref bY, .ref bB, .ref bC, .int tk, .int ss, .int ml, .int mh, .int mp, .int rw, .int wr, .int tc, .ref bT])), (bB, .inl (cI, 66, .inl gb3))] H → va_D A [(bG, .inl (cI, 8, .inl gg)), (aM, .inr (6, [.int th, .int mw, .ref bG, .int mz, .ref bL, .ref bY, .ref bB, .ref bC, .int tk, .int ss, .int ml, .int mh, .int mp, .int rw, .int wr, .int tc, .ref bT])), (bB, .inl (cI, 66, .inl gb3))] → va_S A s.heap H locs → lv_has ls 4 [(0, .ref aM), (1, .int en), (2, .int k)] → W p l e (rmL 2 46 0 0) s m args below meth c H locs 0 0 Q (F0 m 228 ls []) := by
                          intro n
                          induction n with
                          | zero => intro k gb3 H locs ls hmu; exact absurd hmu (Nat.not_lt_zero _)
                          | succ n ih228 =>
                            intro k gb3 H locs ls hmu228 i228_0 hP hD hS hl
                            have rg_k := zi_rg k
                            refine lv_iload_n hx hb dX7_encode_228 rfl (lv_at hl 2 rfl) ?_
                            refine lv_iconst (v := 4) hx hb dX7_encode_229 (by decide) ?_
                            refine lv_topi (fun v127 e127 => ?_)
                            have z127 : v127.toInt = 4 := zi_c e127 (by decide)
                            refine lv_icmp_ge (tgt := 251) hx hb dX7_encode_230 (by decide) (fun c128 => ?_) (fun c128 => ?_)
                            ·
                              have z128 := zi_le c128
                              refine lv_iconst (v := 5) hx hb dX7_encode_251 (by decide) ?_
                              refine lv_topi (fun v129 e129 => ?_)
                              have z129 : v129.toInt = 5 := zi_c e129 (by decide)
                              refine lv_istore_n (lv' := [(2, .int v129), (0, .ref aM), (1, .int en)]) hx hb dX7_encode_252 rfl hl (by decide) rfl (fun ls hl => ?_)
                              have J253 : ∀ (n : Nat) (k : Int32) (gb3 : Nat → Int32) (H : Heap) (locs : List Loc) (ls : Array Slot), ((8 - k.toInt).toNat) < n → (5 ≤ k.toInt ∧ k.toInt ≤ 8) → va_P D classes [(bG, .inl (cI, 8, .inl gg)), (aM, .inr (6, [.int th, .int mw, .ref bG, .int mz, .ref bL, .ref bY, .ref bB, .ref bC, .int tk, .int ss, .int ml, .int mh, .int mp, .int rw, .int wr, .int tc, .ref bT])), (bB, .inl (cI, 66, .inl gb3))] H → va_D A [(bG, .inl (cI, 8, .inl gg)), (aM, .inr (6, [.int th, .int mw, .ref bG, .int mz, .ref bL, .ref bY, .ref bB, .ref bC, .int tk, .int ss, .int ml, .int mh, .int mp, .int rw, .int wr, .int tc, .ref bT])), (bB, .inl (cI, 66, .inl gb3))] → va_S A s.heap H locs → lv_has ls 4 [(0, .ref aM), (1, .int en), (2, .int k)] → W p l e (rmL 2 46 0 0) s m args below meth c H locs 0 0 Q (F0 m 253 ls []) := by
                                intro n
                                induction n with
                                | zero => intro k gb3 H locs ls hmu; exact absurd hmu (Nat.not_lt_zero _)
                                | succ n ih253 =>
                                  intro k gb3 H locs ls hmu253 i253_0 hP hD hS hl
                                  have rg_k := zi_rg k
                                  refine lv_iload_n hx hb dX7_encode_253 rfl (lv_at hl 2 rfl) ?_
                                  refine lv_bipush (v := 8) hx hb dX7_encode_254 (by decide) ?_
                                  refine lv_topi (fun v130 e130 => ?_)
                                  have z130 : v130.toInt = 8 := zi_c e130 (by decide)
                                  refine lv_icmp_ge (tgt := 283) hx hb dX7_encode_256 (by decide) (fun c131 => ?_) (fun c131 => ?_)
                                  ·
                                    have z131 := zi_le c131
                                    refine lv_goto (tgt := 456) hx hb dX7_encode_283 (by decide) ?_
                                    exact hret (gg, gb3) _ _ _ _ dX7_encode_456 trivial (hP.sub [1, 0, 2] rfl) (hD.sub [1, 0, 2] (by decide) rfl) hS
                                  ·
                                    have z131 := zi_nle c131
                                    refine lv_aload_n hx hb dX7_encode_259 rfl (lv_at hl 0 rfl) ?_
                                    refine lv_aload_n hx hb dX7_encode_260 rfl (lv_at hl 0 rfl) ?_
                                    refine va_get (D := D) (ci := 6) (v := .ref bG) (C := RX7) (T := TX7) (N := 17) hx hb hts in_X7 hown hK hP 1 rfl rfl 2 (by decide) (hts _ wk60) (fun _ h9 => h9) rfl dX7_encode_261 ?_
                                    refine lv_iload_n hx hb dX7_encode_264 rfl (lv_at hl 2 rfl) ?_
                                    refine va_iald hx hb hK hP 0 0 rfl rfl (zi_in (by omega)) dX7_encode_265 ?_
                                    refine lv_topi (fun v133 e133 => ?_)
                                    refine lv_iconst (v := 2) hx hb dX7_encode_266 (by decide) ?_
                                    refine lv_topi (fun v134 e134 => ?_)
                                    have z134 : v134.toInt = 2 := zi_c e134 (by decide)
                                    refine lv_bipush (v := 8) hx hb dX7_encode_267 (by decide) ?_
                                    refine lv_topi (fun v135 e135 => ?_)
                                    have z135 : v135.toInt = 8 := zi_c e135 (by decide)
                                    refine lv_iload_n hx hb dX7_encode_269 rfl (lv_at hl 2 rfl) ?_
                                    refine lv_imul hx hb dX7_encode_270 ?_
                                    refine lv_topi (fun v136 e136 => ?_)
                                    first | have z136 := zi_mulL (k := 8) e136 (by omega) (by omega) | skip
                                    refine lv_iadd hx hb dX7_encode_271 ?_
                                    refine lv_topi (fun v137 e137 => ?_)
                                    first | have z137 := zi_add e137 (by omega) | skip
                                    refine lv_bipush (v := 8) hx hb dX7_encode_272 (by decide) ?_
                                    refine lv_topi (fun v138 e138 => ?_)
                                    have z138 : v138.toInt = 8 := zi_c e138 (by decide)
                                    have hh139 : 0 ≤ v137.toInt ∧ 0 ≤ v138.toInt ∧ v137.toInt + v138.toInt ≤ 66 := (by omega)
                                    refine call_v (wc := [(aM, .inr (6, [.int th, .int mw, .ref bG, .int mz, .ref bL, .ref bY, .ref bB, .ref bC, .int tk, .int ss, .int ml, .int mh, .int mp, .int rw, .int wr, .int tc, .ref bT])), (bB, .inl (cI, 66, .inl gb3))]) (wr := [(bG, .inl (cI, 8, .inl gg))]) (run_V (As := [.int v133, .int v137, .int v138]) (rest := []) kv_RX7_47 ⟨by decide, by decide⟩ ⟨rfl, rfl⟩ ⟨hx, hb, hml, hown, hts⟩ (c_Mo_setBits l D cI cJ cB aM bG bL bY bB bC bT th mw mz tk ss ml mh mp rw wr tc gb3 v133 v137 v138 hh139 _) ct_blind (ct_pre (wc := [(aM, .inr (6, [.int th, .int mw, .ref bG, .int mz, .ref bL, .ref bY, .ref bB, .ref bC, .int tk, .int ss, .int ml, .int mh, .int mp, .int rw, .int wr, .int tc, .ref bT])), (bB, .inl (cI, 66, .inl gb3))]) hK hP hD hS hA hZ hN [1, 2] (by decide) rfl rfl) (va_recv hK hP (ci := 6) (q0 := 1) rfl rfl) rfl hl.1 rfl (Nat.le_of_ble_eq_true rfl) dX7_encode_274 ⟨Nat.le_of_ble_eq_true rfl, Nat.le_of_ble_eq_true rfl⟩) hP hD hS hA [1, 2] [0] rfl rfl (by decide) (by decide) (fun u H locs hw140 hP1 hD1 hS1 => ?_)
                                    obtain ⟨gb2_140, hu9⟩ : ∃ z, z = u := ⟨_, rfl⟩
                                    subst hu9
                                    clear hw140
                                    clear hP hD hS
                                    have hP : va_P D classes [(bG, .inl (cI, 8, .inl gg)), (aM, .inr (6, [.int th, .int mw, .ref bG, .int mz, .ref bL, .ref bY, .ref bB, .ref bC, .int tk, .int ss, .int ml, .int mh, .int mp, .int rw, .int wr, .int tc, .ref bT])), (bB, .inl (cI, 66, .inl gb2_140))] H := hP1
                                    have hD : va_D A [(bG, .inl (cI, 8, .inl gg)), (aM, .inr (6, [.int th, .int mw, .ref bG, .int mz, .ref bL, .ref bY, .ref bB, .ref bC, .int tk, .int ss, .int ml, .int mh, .int mp, .int rw, .int wr, .int tc, .ref bT])), (bB, .inl (cI, 66, .inl gb2_140))] := hD1
                                    have hS := hS1
                                    clear hP1 hD1 hS1
                                    obtain ⟨v141, e141⟩ : ∃ y : Int32, y = k + 1 := ⟨_, rfl⟩
                                    first | have z141 := zi_inc (z := 1) 1 (by decide) e141 (by omega) | skip
                                    refine lv_iinc (v := v141) (lv' := [(2, .int v141), (0, .ref aM), (1, .int en)]) hx hb dX7_encode_277 hl (k := 2) rfl (by rw [e141]; rfl) (by decide) rfl (fun ls hl => ?_)
                                    refine lv_goto (tgt := 253) hx hb dX7_encode_280 (by decide) ?_
                                    exact ih253 v141 gb2_140 _ _ _ (by omega) (by omega) (hP.sub [0, 1, 2] rfl) (hD.sub [0, 1, 2] (by decide) rfl) hS (lv_sub hl [1, 2, 0] rfl)
                              exact J253 _ v129 gb3 _ _ _ (Nat.lt_succ_self _) (by omega) (hP.sub [0, 1, 2] rfl) (hD.sub [0, 1, 2] (by decide) rfl) hS (lv_sub hl [1, 2, 0] rfl)
                            ·
                              have z128 := zi_nle c128
                              refine lv_aload_n hx hb dX7_encode_233 rfl (lv_at hl 0 rfl) ?_
                              refine lv_iload_n hx hb dX7_encode_234 rfl (lv_at hl 2 rfl) ?_
                              refine lv_bipush (v := 10) hx hb dX7_encode_235 (by decide) ?_
                              refine lv_topi (fun v142 e142 => ?_)
                              have z142 : v142.toInt = 10 := zi_c e142 (by decide)
                              refine lv_bipush (v := 7) hx hb dX7_encode_237 (by decide) ?_
                              refine lv_topi (fun v143 e143 => ?_)
                              have z143 : v143.toInt = 7 := zi_c e143 (by decide)
                              refine lv_iload_n hx hb dX7_encode_239 rfl (lv_at hl 2 rfl) ?_
                              refine lv_imul hx hb dX7_encode_240 ?_
                              refine lv_topi (fun v144 e144 => ?_)
                              first | have z144 := zi_mulL (k := 7) e144 (by omega) (by omega) | skip
                              refine lv_iadd hx hb dX7_encode_241 ?_
                              refine lv_topi (fun v145 e145 => ?_)
                              first | have z145 := zi_add e145 (by omega) | skip
                              have hh146 : 0 ≤ k.toInt ∧ k.toInt < 8 := (by omega)
                              have hh147 : 0 ≤ v145.toInt ∧ v145.toInt + 7 ≤ 66 := (by omega)
                              refine call_v (wc := [(aM, .inr (6, [.int th, .int mw, .ref bG, .int mz, .ref bL, .ref bY, .ref bB, .ref bC, .int tk, .int ss, .int ml, .int mh, .int mp, .int rw, .int wr, .int tc, .ref bT])), (bG, .inl (cI, 8, .inl gg)), (bB, .inl (cI, 66, .inl gb3))]) (wr := []) (run_V (As := [.int k, .int v145]) (rest := []) kv_RX7_55 ⟨by decide, by decide⟩ ⟨rfl, rfl⟩ ⟨hx, hb, hml, hown, hts⟩ (c_Mo_putCode l D cI cJ cB aM bG bL bY bB bC bT th mw mz tk ss ml mh mp rw wr tc gg gb3 k v145 hh146 hh147 _) ct_blind (ct_pre (wc := [(aM, .inr (6, [.int th, .int mw, .ref bG, .int mz, .ref bL, .ref bY, .ref bB, .ref bC, .int tk, .int ss, .int ml, .int mh, .int mp, .int rw, .int wr, .int tc, .ref bT])), (bG, .inl (cI, 8, .inl gg)), (bB, .inl (cI, 66, .inl gb3))]) hK hP hD hS hA hZ hN [1, 0, 2] (by decide) rfl rfl) (va_recv hK hP (ci := 6) (q0 := 1) rfl rfl) rfl hl.1 rfl (Nat.le_of_ble_eq_true rfl) dX7_encode_242 ⟨Nat.le_of_ble_eq_true rfl, Nat.le_of_ble_eq_true rfl⟩) hP hD hS hA [1, 0, 2] [] rfl rfl (by decide) (by decide) (fun u H locs hw148 hP1 hD1 hS1 => ?_)
                              obtain ⟨gb2_148, hu9⟩ : ∃ z, z = u := ⟨_, rfl⟩
                              subst hu9
                              clear hw148
                              clear hP hD hS
                              have hP : va_P D classes [(aM, .inr (6, [.int th, .int mw, .ref bG, .int mz, .ref bL, .ref bY, .ref bB, .ref bC, .int tk, .int ss, .int ml, .int mh, .int mp, .int rw, .int wr, .int tc, .ref bT])), (bG, .inl (cI, 8, .inl gg)), (bB, .inl (cI, 66, .inl gb2_148))] H := hP1
                              have hD : va_D A [(aM, .inr (6, [.int th, .int mw, .ref bG, .int mz, .ref bL, .ref bY, .ref bB, .ref bC, .int tk, .int ss, .int ml, .int mh, .int mp, .int rw, .int wr, .int tc, .ref bT])), (bG, .inl (cI, 8, .inl gg)), (bB, .inl (cI, 66, .inl gb2_148))] := hD1
                              have hS := hS1
                              clear hP1 hD1 hS1
                              obtain ⟨v149, e149⟩ : ∃ y : Int32, y = k + 1 := ⟨_, rfl⟩
                              first | have z149 := zi_inc (z := 1) 1 (by decide) e149 (by omega) | skip
                              refine lv_iinc (v := v149) (lv' := [(2, .int v149), (0, .ref aM), (1, .int en)]) hx hb dX7_encode_245 hl (k := 2) rfl (by rw [e149]; rfl) (by decide) rfl (fun ls hl => ?_)
                              refine lv_goto (tgt := 228) hx hb dX7_encode_248 (by decide) ?_
                              exact ih228 v149 gb2_148 _ _ _ (by omega) (by omega) (hP.sub [1, 0, 2] rfl) (hD.sub [1, 0, 2] (by decide) rfl) hS (lv_sub hl [1, 2, 0] rfl)
                        exact J228 _ v126 gb2_125 _ _ _ (Nat.lt_succ_self _) (by omega) (hP.sub [0, 1, 2] rfl) (hD.sub [0, 1, 2] (by decide) rfl) hS (lv_sub hl [1, 2, 0] rfl)
                refine lv_icmp_ne (tgt := 184) hx hb dX7_encode_126 (by decide) (fun c150 => ?_) (fun c150 => ?_)
                ·
                  have z150 := zi_ne c150
                  exact J184  _ _ _   (hP.sub [0, 1, 2] rfl) (hD.sub [0, 1, 2] (by decide) rfl) hS (lv_sub hl [0, 1, 2] rfl)
                ·
                  have z150 := zi_eq c150
                  refine lv_aload_n hx hb dX7_encode_129 rfl (lv_at hl 0 rfl) ?_
                  refine lv_iconst (v := 1) hx hb dX7_encode_130 (by decide) ?_
                  refine lv_topi (fun v151 e151 => ?_)
                  have z151 : v151.toInt = 1 := zi_c e151 (by decide)
                  refine lv_bipush (v := 8) hx hb dX7_encode_131 (by decide) ?_
                  refine lv_topi (fun v152 e152 => ?_)
                  have z152 : v152.toInt = 8 := zi_c e152 (by decide)
                  refine lv_iconst (v := 1) hx hb dX7_encode_133 (by decide) ?_
                  refine lv_topi (fun v153 e153 => ?_)
                  have z153 : v153.toInt = 1 := zi_c e153 (by decide)
                  have hh154 : 0 ≤ v151.toInt ∧ v151.toInt ≤ 8 := (by omega)
                  have hh155 : 0 ≤ v152.toInt ∧ v152.toInt ≤ 8 := (by omega)
                  refine call_i (wc := [(aM, .inr (6, [.int th, .int mw, .ref bG, .int mz, .ref bL, .ref bY, .ref bB, .ref bC, .int tk, .int ss, .int ml, .int mh, .int mp, .int rw, .int wr, .int tc, .ref bT])), (bG, .inl (cI, 8, .inl gg))]) (wr := [(bB, .inl (cI, 66, .inl f17))]) (run_V (As := [.int v151, .int v152, .int v153]) (rest := []) kv_RX7_51 ⟨by decide, by decide⟩ ⟨rfl, rfl⟩ ⟨hx, hb, hml, hown, hts⟩ (c_Mo_are l D cI cJ cB aM bG bL bY bB bC bT th mw mz tk ss ml mh mp rw wr tc gg v151 v152 v153 hh154 hh155 _) ct_blind (ct_pre (wc := [(aM, .inr (6, [.int th, .int mw, .ref bG, .int mz, .ref bL, .ref bY, .ref bB, .ref bC, .int tk, .int ss, .int ml, .int mh, .int mp, .int rw, .int wr, .int tc, .ref bT])), (bG, .inl (cI, 8, .inl gg))]) hK hP hD hS hA hZ hN [1, 2] (by decide) rfl rfl) (va_recv hK hP (ci := 6) (q0 := 1) rfl rfl) rfl hl.1 rfl (Nat.le_of_ble_eq_true rfl) dX7_encode_134 ⟨Nat.le_of_ble_eq_true rfl, Nat.le_of_ble_eq_true rfl⟩) hP hD hS hA [1, 2] [0] rfl rfl (by decide) (by decide) (fun r156 u H locs hw156 hP1 hD1 hS1 => ?_)
                  have hw156 : 0 ≤ r156.toInt ∧ r156.toInt ≤ 1 := hw156
                  clear hP hD hS
                  have hP : va_P D classes [(bB, .inl (cI, 66, .inl f17)), (aM, .inr (6, [.int th, .int mw, .ref bG, .int mz, .ref bL, .ref bY, .ref bB, .ref bC, .int tk, .int ss, .int ml, .int mh, .int mp, .int rw, .int wr, .int tc, .ref bT])), (bG, .inl (cI, 8, .inl gg))] H := hP1
                  have hD : va_D A [(bB, .inl (cI, 66, .inl f17)), (aM, .inr (6, [.int th, .int mw, .ref bG, .int mz, .ref bL, .ref bY, .ref bB, .ref bC, .int tk, .int ss, .int ml, .int mh, .int mp, .int rw, .int wr, .int tc, .ref bT])), (bG, .inl (cI, 8, .inl gg))] := hD1
                  have hS := hS1
                  clear hP1 hD1 hS1
                  have rg_r156 := zi_rg r156
                  refine lv_if_eq (tgt := 184) hx hb dX7_encode_137 (by decide) (fun c157 => ?_) (fun c157 => ?_)
                  ·
                    have z157 := zi_eq0 c157
                    exact J184  _ _ _   (hP.sub [0, 1, 2] rfl) (hD.sub [0, 1, 2] (by decide) rfl) hS (lv_sub hl [0, 1, 2] rfl)
                  ·
                    have z157 := zi_ne0 c157
                    refine lv_aload_n hx hb dX7_encode_140 rfl (lv_at hl 0 rfl) ?_
                    refine lv_bipush (v := 120) hx hb dX7_encode_141 (by decide) ?_
                    refine lv_topi (fun v158 e158 => ?_)
                    have z158 : v158.toInt = 120 := zi_c e158 (by decide)
                    refine lv_iconst (v := 2) hx hb dX7_encode_143 (by decide) ?_
                    refine lv_topi (fun v159 e159 => ?_)
                    have z159 : v159.toInt = 2 := zi_c e159 (by decide)
                    refine lv_bipush (v := 8) hx hb dX7_encode_144 (by decide) ?_
                    refine lv_topi (fun v160 e160 => ?_)
                    have z160 : v160.toInt = 8 := zi_c e160 (by decide)
                    have hh161 : 0 ≤ v159.toInt ∧ 0 ≤ v160.toInt ∧ v159.toInt + v160.toInt ≤ 66 := (by omega)
                    refine call_v (wc := [(aM, .inr (6, [.int th, .int mw, .ref bG, .int mz, .ref bL, .ref bY, .ref bB, .ref bC, .int tk, .int ss, .int ml, .int mh, .int mp, .int rw, .int wr, .int tc, .ref bT])), (bB, .inl (cI, 66, .inl f17))]) (wr := [(bG, .inl (cI, 8, .inl gg))]) (run_V (As := [.int v158, .int v159, .int v160]) (rest := []) kv_RX7_47 ⟨by decide, by decide⟩ ⟨rfl, rfl⟩ ⟨hx, hb, hml, hown, hts⟩ (c_Mo_setBits l D cI cJ cB aM bG bL bY bB bC bT th mw mz tk ss ml mh mp rw wr tc f17 v158 v159 v160 hh161 _) ct_blind (ct_pre (wc := [(aM, .inr (6, [.int th, .int mw, .ref bG, .int mz, .ref bL, .ref bY, .ref bB, .ref bC, .int tk, .int ss, .int ml, .int mh, .int mp, .int rw, .int wr, .int tc, .ref bT])), (bB, .inl (cI, 66, .inl f17))]) hK hP hD hS hA hZ hN [1, 0] (by decide) rfl rfl) (va_recv hK hP (ci := 6) (q0 := 1) rfl rfl) rfl hl.1 rfl (Nat.le_of_ble_eq_true rfl) dX7_encode_146 ⟨Nat.le_of_ble_eq_true rfl, Nat.le_of_ble_eq_true rfl⟩) hP hD hS hA [1, 0] [2] rfl rfl (by decide) (by decide) (fun u H locs hw162 hP1 hD1 hS1 => ?_)
                    obtain ⟨gb2_162, hu9⟩ : ∃ z, z = u := ⟨_, rfl⟩
                    subst hu9
                    clear hw162
                    clear hP hD hS
                    have hP : va_P D classes [(bG, .inl (cI, 8, .inl gg)), (aM, .inr (6, [.int th, .int mw, .ref bG, .int mz, .ref bL, .ref bY, .ref bB, .ref bC, .int tk, .int ss, .int ml, .int mh, .int mp, .int rw, .int wr, .int tc, .ref bT])), (bB, .inl (cI, 66, .inl gb2_162))] H := hP1
                    have hD : va_D A [(bG, .inl (cI, 8, .inl gg)), (aM, .inr (6, [.int th, .int mw, .ref bG, .int mz, .ref bL, .ref bY, .ref bB, .ref bC, .int tk, .int ss, .int ml, .int mh, .int mp, .int rw, .int wr, .int tc, .ref bT])), (bB, .inl (cI, 66, .inl gb2_162))] := hD1
                    have hS := hS1
                    clear hP1 hD1 hS1
                    refine lv_iconst (v := 1) hx hb dX7_encode_149 (by decide) ?_
                    refine lv_topi (fun v163 e163 => ?_)
                    have z163 : v163.toInt = 1 := zi_c e163 (by decide)
                    refine lv_istore_n (lv' := [(2, .int v163), (0, .ref aM), (1, .int en)]) hx hb dX7_encode_150 rfl hl (by decide) rfl (fun ls hl => ?_)
                    have J151 : ∀ (n : Nat) (k : Int32) (gb3 : Nat → Int32) (H : Heap) (locs : List Loc) (ls : Array Slot), ((8 - k.toInt).toNat) < n → (0 ≤ k.toInt ∧ k.toInt ≤ 8) → va_P D classes [(bG, .inl (cI, 8, .inl gg)), (aM, .inr (6, [.int th, .int mw, .ref bG, .int mz, .ref bL, .ref bY, .ref bB, .ref bC, .int tk, .int ss, .int ml, .int mh, .int mp, .int rw, .int wr, .int tc, .ref bT])), (bB, .inl (cI, 66, .inl gb3))] H → va_D A [(bG, .inl (cI, 8, .inl gg)), (aM, .inr (6, [.int th, .int mw, .ref bG, .int mz, .ref bL, .ref bY, .ref bB, .ref bC, .int tk, .int ss, .int ml, .int mh, .int mp, .int rw, .int wr, .int tc, .ref bT])), (bB, .inl (cI, 66, .inl gb3))] → va_S A s.heap H locs → lv_has ls 4 [(0, .ref aM), (1, .int en), (2, .int k)] → W p l e (rmL 2 46 0 0) s m args below meth c H locs 0 0 Q (F0 m 151 ls []) := by
                      intro n
                      induction n with
                      | zero => intro k gb3 H locs ls hmu; exact absurd hmu (Nat.not_lt_zero _)
                      | succ n ih151 =>
                        intro k gb3 H locs ls hmu151 i151_0 hP hD hS hl
                        have rg_k := zi_rg k
                        refine lv_iload_n hx hb dX7_encode_151 rfl (lv_at hl 2 rfl) ?_
                        refine lv_bipush (v := 8) hx hb dX7_encode_152 (by decide) ?_
                        refine lv_topi (fun v164 e164 => ?_)
                        have z164 : v164.toInt = 8 := zi_c e164 (by decide)
                        refine lv_icmp_ge (tgt := 181) hx hb dX7_encode_154 (by decide) (fun c165 => ?_) (fun c165 => ?_)
                        ·
                          have z165 := zi_le c165
                          refine lv_goto (tgt := 456) hx hb dX7_encode_181 (by decide) ?_
                          exact hret (gg, gb3) _ _ _ _ dX7_encode_456 trivial (hP.sub [1, 0, 2] rfl) (hD.sub [1, 0, 2] (by decide) rfl) hS
                        ·
                          have z165 := zi_nle c165
                          refine lv_aload_n hx hb dX7_encode_157 rfl (lv_at hl 0 rfl) ?_
                          refine lv_aload_n hx hb dX7_encode_158 rfl (lv_at hl 0 rfl) ?_
                          refine va_get (D := D) (ci := 6) (v := .ref bG) (C := RX7) (T := TX7) (N := 17) hx hb hts in_X7 hown hK hP 1 rfl rfl 2 (by decide) (hts _ wk60) (fun _ h9 => h9) rfl dX7_encode_159 ?_
                          refine lv_iload_n hx hb dX7_encode_162 rfl (lv_at hl 2 rfl) ?_
                          refine va_iald hx hb hK hP 0 0 rfl rfl (zi_in (by omega)) dX7_encode_163 ?_
                          refine lv_topi (fun v167 e167 => ?_)
                          refine lv_iconst (v := 2) hx hb dX7_encode_164 (by decide) ?_
                          refine lv_topi (fun v168 e168 => ?_)
                          have z168 : v168.toInt = 2 := zi_c e168 (by decide)
                          refine lv_bipush (v := 8) hx hb dX7_encode_165 (by decide) ?_
                          refine lv_topi (fun v169 e169 => ?_)
                          have z169 : v169.toInt = 8 := zi_c e169 (by decide)
                          refine lv_iload_n hx hb dX7_encode_167 rfl (lv_at hl 2 rfl) ?_
                          refine lv_imul hx hb dX7_encode_168 ?_
                          refine lv_topi (fun v170 e170 => ?_)
                          first | have z170 := zi_mulL (k := 8) e170 (by omega) (by omega) | skip
                          refine lv_iadd hx hb dX7_encode_169 ?_
                          refine lv_topi (fun v171 e171 => ?_)
                          first | have z171 := zi_add e171 (by omega) | skip
                          refine lv_bipush (v := 8) hx hb dX7_encode_170 (by decide) ?_
                          refine lv_topi (fun v172 e172 => ?_)
                          have z172 : v172.toInt = 8 := zi_c e172 (by decide)
                          have hh173 : 0 ≤ v171.toInt ∧ 0 ≤ v172.toInt ∧ v171.toInt + v172.toInt ≤ 66 := (by omega)
                          refine call_v (wc := [(aM, .inr (6, [.int th, .int mw, .ref bG, .int mz, .ref bL, .ref bY, .ref bB, .ref bC, .int tk, .int ss, .int ml, .int mh, .int mp, .int rw, .int wr, .int tc, .ref bT])), (bB, .inl (cI, 66, .inl gb3))]) (wr := [(bG, .inl (cI, 8, .inl gg))]) (run_V (As := [.int v167, .int v171, .int v172]) (rest := []) kv_RX7_47 ⟨by decide, by decide⟩ ⟨rfl, rfl⟩ ⟨hx, hb, hml, hown, hts⟩ (c_Mo_setBits l D cI cJ cB aM bG bL bY bB bC bT th mw mz tk ss ml mh mp rw wr tc gb3 v167 v171 v172 hh173 _) ct_blind (ct_pre (wc := [(aM, .inr (6, [.int th, .int mw, .ref bG, .int mz, .ref bL, .ref bY, .ref bB, .ref bC, .int tk, .int ss, .int ml, .int mh, .int mp, .int rw, .int wr, .int tc, .ref bT])), (bB, .inl (cI, 66, .inl gb3))]) hK hP hD hS hA hZ hN [1, 2] (by decide) rfl rfl) (va_recv hK hP (ci := 6) (q0 := 1) rfl rfl) rfl hl.1 rfl (Nat.le_of_ble_eq_true rfl) dX7_encode_172 ⟨Nat.le_of_ble_eq_true rfl, Nat.le_of_ble_eq_true rfl⟩) hP hD hS hA [1, 2] [0] rfl rfl (by decide) (by decide) (fun u H locs hw174 hP1 hD1 hS1 => ?_)
                          obtain ⟨gb2_174, hu9⟩ : ∃ z, z = u := ⟨_, rfl⟩
                          subst hu9
                          clear hw174
                          clear hP hD hS
                          have hP : va_P D classes [(bG, .inl (cI, 8, .inl gg)), (aM, .inr (6, [.int th, .int mw, .ref bG, .int mz, .ref bL, .ref bY, .ref bB, .ref bC, .int tk, .int ss, .int ml, .int mh, .int mp, .int rw, .int wr, .int tc, .ref bT])), (bB, .inl (cI, 66, .inl gb2_174))] H := hP1
                          have hD : va_D A [(bG, .inl (cI, 8, .inl gg)), (aM, .inr (6, [.int th, .int mw, .ref bG, .int mz, .ref bL, .ref bY, .ref bB, .ref bC, .int tk, .int ss, .int ml, .int mh, .int mp, .int rw, .int wr, .int tc, .ref bT])), (bB, .inl (cI, 66, .inl gb2_174))] := hD1
                          have hS := hS1
                          clear hP1 hD1 hS1
                          obtain ⟨v175, e175⟩ : ∃ y : Int32, y = k + 1 := ⟨_, rfl⟩
                          first | have z175 := zi_inc (z := 1) 1 (by decide) e175 (by omega) | skip
                          refine lv_iinc (v := v175) (lv' := [(2, .int v175), (0, .ref aM), (1, .int en)]) hx hb dX7_encode_175 hl (k := 2) rfl (by rw [e175]; rfl) (by decide) rfl (fun ls hl => ?_)
                          refine lv_goto (tgt := 151) hx hb dX7_encode_178 (by decide) ?_
                          exact ih151 v175 gb2_174 _ _ _ (by omega) (by omega) (hP.sub [0, 1, 2] rfl) (hD.sub [0, 1, 2] (by decide) rfl) hS (lv_sub hl [1, 2, 0] rfl)
                    exact J151 _ v163 gb2_162 _ _ _ (Nat.lt_succ_self _) (by omega) (hP.sub [0, 1, 2] rfl) (hD.sub [0, 1, 2] (by decide) rfl) hS (lv_sub hl [1, 2, 0] rfl)
              ·
                have z14 := zi_ne0 c14
                refine lv_aload_n hx hb dX7_encode_70 rfl (lv_at hl 0 rfl) ?_
                refine va_get (D := D) (ci := 6) (v := .ref bB) (C := RX7) (T := TX7) (N := 17) hx hb hts in_X7 hown hK hP 1 rfl rfl 6 (by decide) (hts _ wk64) (fun _ h9 => h9) rfl dX7_encode_71 ?_
                refine lv_iconst (v := 1) hx hb dX7_encode_74 (by decide) ?_
                refine lv_topi (fun v176 e176 => ?_)
                have z176 : v176.toInt = 1 := zi_c e176 (by decide)
                refine lv_iconst (v := 1) hx hb dX7_encode_75 (by decide) ?_
                refine lv_topi (fun v177 e177 => ?_)
                have z177 : v177.toInt = 1 := zi_c e177 (by decide)
                obtain ⟨f178, ef178⟩ : ∃ z9, z9 = upd gb3 v176.toNatClampNeg v177 := ⟨_, rfl⟩
                refine va_iast hx hb hK hP hD hS 0 0 rfl rfl (zi_in (by omega)) dX7_encode_76 (fun H locs hP1 hD1 hS1 => ?_)
                rw [← ef178] at hP1 hD1
                clear hP hD hS
                have hP : va_P D classes [(bB, .inl (cI, 66, .inl f178)), (aM, .inr (6, [.int th, .int mw, .ref bG, .int mz, .ref bL, .ref bY, .ref bB, .ref bC, .int tk, .int ss, .int ml, .int mh, .int mp, .int rw, .int wr, .int tc, .ref bT])), (bG, .inl (cI, 8, .inl gg))] H := hP1
                have hD : va_D A [(bB, .inl (cI, 66, .inl f178)), (aM, .inr (6, [.int th, .int mw, .ref bG, .int mz, .ref bL, .ref bY, .ref bB, .ref bC, .int tk, .int ss, .int ml, .int mh, .int mp, .int rw, .int wr, .int tc, .ref bT])), (bG, .inl (cI, 8, .inl gg))] := hD1
                have hS := hS1
                clear hP1 hD1 hS1
                refine lv_iconst (v := 0) hx hb dX7_encode_77 (by decide) ?_
                refine lv_topi (fun v179 e179 => ?_)
                have z179 : v179.toInt = 0 := zi_c e179 (by decide)
                refine lv_istore_n (lv' := [(2, .int v179), (0, .ref aM), (1, .int en)]) hx hb dX7_encode_78 rfl hl (by decide) rfl (fun ls hl => ?_)
                have J79 : ∀ (n : Nat) (k : Int32) (gb3 : Nat → Int32) (H : Heap) (locs : List Loc) (ls : Array Slot), ((8 - k.toInt).toNat) < n → (0 ≤ k.toInt ∧ k.toInt ≤ 8) → va_P D classes [(bB, .inl (cI, 66, .inl gb3)), (aM, .inr (6, [.int th, .int mw, .ref bG, .int mz, .ref bL, .ref bY, .ref bB, .ref bC, .int tk, .int ss, .int ml, .int mh, .int mp, .int rw, .int wr, .int tc, .ref bT])), (bG, .inl (cI, 8, .inl gg))] H → va_D A [(bB, .inl (cI, 66, .inl gb3)), (aM, .inr (6, [.int th, .int mw, .ref bG, .int mz, .ref bL, .ref bY, .ref bB, .ref bC, .int tk, .int ss, .int ml, .int mh, .int mp, .int rw, .int wr, .int tc, .ref bT])), (bG, .inl (cI, 8, .inl gg))] → va_S A s.heap H locs → lv_has ls 4 [(0, .ref aM), (1, .int en), (2, .int k)] → W p l e (rmL 2 46 0 0) s m args below meth c H locs 0 0 Q (F0 m 79 ls []) := by
                  intro n
                  induction n with
                  | zero => intro k gb3 H locs ls hmu; exact absurd hmu (Nat.not_lt_zero _)
                  | succ n ih79 =>
                    intro k gb3 H locs ls hmu79 i79_0 hP hD hS hl
                    have rg_k := zi_rg k
                    refine lv_iload_n hx hb dX7_encode_79 rfl (lv_at hl 2 rfl) ?_
                    refine lv_bipush (v := 8) hx hb dX7_encode_80 (by decide) ?_
                    refine lv_topi (fun v180 e180 => ?_)
                    have z180 : v180.toInt = 8 := zi_c e180 (by decide)
                    refine lv_icmp_ge (tgt := 109) hx hb dX7_encode_82 (by decide) (fun c181 => ?_) (fun c181 => ?_)
                    ·
                      have z181 := zi_le c181
                      exact hret (gg, gb3) _ _ _ _ dX7_encode_109 trivial (hP.sub [1, 2, 0] rfl) (hD.sub [1, 2, 0] (by decide) rfl) hS
                    ·
                      have z181 := zi_nle c181
                      refine lv_aload_n hx hb dX7_encode_85 rfl (lv_at hl 0 rfl) ?_
                      refine lv_aload_n hx hb dX7_encode_86 rfl (lv_at hl 0 rfl) ?_
                      refine va_get (D := D) (ci := 6) (v := .ref bG) (C := RX7) (T := TX7) (N := 17) hx hb hts in_X7 hown hK hP 1 rfl rfl 2 (by decide) (hts _ wk60) (fun _ h9 => h9) rfl dX7_encode_87 ?_
                      refine lv_iload_n hx hb dX7_encode_90 rfl (lv_at hl 2 rfl) ?_
                      refine va_iald hx hb hK hP 2 0 rfl rfl (zi_in (by omega)) dX7_encode_91 ?_
                      refine lv_topi (fun v183 e183 => ?_)
                      refine lv_iconst (v := 2) hx hb dX7_encode_92 (by decide) ?_
                      refine lv_topi (fun v184 e184 => ?_)
                      have z184 : v184.toInt = 2 := zi_c e184 (by decide)
                      refine lv_bipush (v := 8) hx hb dX7_encode_93 (by decide) ?_
                      refine lv_topi (fun v185 e185 => ?_)
                      have z185 : v185.toInt = 8 := zi_c e185 (by decide)
                      refine lv_iload_n hx hb dX7_encode_95 rfl (lv_at hl 2 rfl) ?_
                      refine lv_imul hx hb dX7_encode_96 ?_
                      refine lv_topi (fun v186 e186 => ?_)
                      first | have z186 := zi_mulL (k := 8) e186 (by omega) (by omega) | skip
                      refine lv_iadd hx hb dX7_encode_97 ?_
                      refine lv_topi (fun v187 e187 => ?_)
                      first | have z187 := zi_add e187 (by omega) | skip
                      refine lv_bipush (v := 8) hx hb dX7_encode_98 (by decide) ?_
                      refine lv_topi (fun v188 e188 => ?_)
                      have z188 : v188.toInt = 8 := zi_c e188 (by decide)
                      have hh189 : 0 ≤ v187.toInt ∧ 0 ≤ v188.toInt ∧ v187.toInt + v188.toInt ≤ 66 := (by omega)
                      refine call_v (wc := [(aM, .inr (6, [.int th, .int mw, .ref bG, .int mz, .ref bL, .ref bY, .ref bB, .ref bC, .int tk, .int ss, .int ml, .int mh, .int mp, .int rw, .int wr, .int tc, .ref bT])), (bB, .inl (cI, 66, .inl gb3))]) (wr := [(bG, .inl (cI, 8, .inl gg))]) (run_V (As := [.int v183, .int v187, .int v188]) (rest := []) kv_RX7_47 ⟨by decide, by decide⟩ ⟨rfl, rfl⟩ ⟨hx, hb, hml, hown, hts⟩ (c_Mo_setBits l D cI cJ cB aM bG bL bY bB bC bT th mw mz tk ss ml mh mp rw wr tc gb3 v183 v187 v188 hh189 _) ct_blind (ct_pre (wc := [(aM, .inr (6, [.int th, .int mw, .ref bG, .int mz, .ref bL, .ref bY, .ref bB, .ref bC, .int tk, .int ss, .int ml, .int mh, .int mp, .int rw, .int wr, .int tc, .ref bT])), (bB, .inl (cI, 66, .inl gb3))]) hK hP hD hS hA hZ hN [1, 0] (by decide) rfl rfl) (va_recv hK hP (ci := 6) (q0 := 1) rfl rfl) rfl hl.1 rfl (Nat.le_of_ble_eq_true rfl) dX7_encode_100 ⟨Nat.le_of_ble_eq_true rfl, Nat.le_of_ble_eq_true rfl⟩) hP hD hS hA [1, 0] [2] rfl rfl (by decide) (by decide) (fun u H locs hw190 hP1 hD1 hS1 => ?_)
                      obtain ⟨gb2_190, hu9⟩ : ∃ z, z = u := ⟨_, rfl⟩
                      subst hu9
                      clear hw190
                      clear hP hD hS
                      have hP : va_P D classes [(bG, .inl (cI, 8, .inl gg)), (aM, .inr (6, [.int th, .int mw, .ref bG, .int mz, .ref bL, .ref bY, .ref bB, .ref bC, .int tk, .int ss, .int ml, .int mh, .int mp, .int rw, .int wr, .int tc, .ref bT])), (bB, .inl (cI, 66, .inl gb2_190))] H := hP1
                      have hD : va_D A [(bG, .inl (cI, 8, .inl gg)), (aM, .inr (6, [.int th, .int mw, .ref bG, .int mz, .ref bL, .ref bY, .ref bB, .ref bC, .int tk, .int ss, .int ml, .int mh, .int mp, .int rw, .int wr, .int tc, .ref bT])), (bB, .inl (cI, 66, .inl gb2_190))] := hD1
                      have hS := hS1
                      clear hP1 hD1 hS1
                      obtain ⟨v191, e191⟩ : ∃ y : Int32, y = k + 1 := ⟨_, rfl⟩
                      first | have z191 := zi_inc (z := 1) 1 (by decide) e191 (by omega) | skip
                      refine lv_iinc (v := v191) (lv' := [(2, .int v191), (0, .ref aM), (1, .int en)]) hx hb dX7_encode_103 hl (k := 2) rfl (by rw [e191]; rfl) (by decide) rfl (fun ls hl => ?_)
                      refine lv_goto (tgt := 79) hx hb dX7_encode_106 (by decide) ?_
                      exact ih79 v191 gb2_190 _ _ _ (by omega) (by omega) (hP.sub [2, 1, 0] rfl) (hD.sub [2, 1, 0] (by decide) rfl) hS (lv_sub hl [1, 2, 0] rfl)
                exact J79 _ v179 f178 _ _ _ (Nat.lt_succ_self _) (by omega) (hP.sub [0, 1, 2] rfl) (hD.sub [0, 1, 2] (by decide) rfl) hS (lv_sub hl [1, 2, 0] rfl)
            ·
              have z7 := zi_nle c7
              refine lv_aload_n hx hb dX7_encode_31 rfl (lv_at hl 0 rfl) ?_
              refine va_get (D := D) (ci := 6) (v := .ref bG) (C := RX7) (T := TX7) (N := 17) hx hb hts in_X7 hown hK hP 0 rfl rfl 2 (by decide) (hts _ wk60) (fun _ h9 => h9) rfl dX7_encode_32 ?_
              refine lv_iload_n hx hb dX7_encode_35 rfl (lv_at hl 2 rfl) ?_
              refine va_iald hx hb hK hP 1 0 rfl rfl (zi_in (by omega)) dX7_encode_36 ?_
              refine lv_topi (fun v192 e192 => ?_)
              refine lv_sipush (v := 258) hx hb dX7_encode_37 (by decide) ?_
              refine lv_topi (fun v193 e193 => ?_)
              have z193 : v193.toInt = 258 := zi_c e193 (by decide)
              refine lv_icmp_ne (tgt := 51) hx hb dX7_encode_40 (by decide) (fun c194 => ?_) (fun c194 => ?_)
              ·
                have z194 := zi_ne c194
                refine lv_iload_n hx hb dX7_encode_51 rfl (lv_at hl 1 rfl) ?_
                refine lv_istore_n (lv' := [(1, .int en), (0, .ref aM), (2, .int k)]) hx hb dX7_encode_52 rfl hl (by decide) rfl (fun ls hl => ?_)
                obtain ⟨v195, e195⟩ : ∃ y : Int32, y = k + 1 := ⟨_, rfl⟩
                first | have z195 := zi_inc (z := 1) 1 (by decide) e195 (by omega) | skip
                refine lv_iinc (v := v195) (lv' := [(2, .int v195), (1, .int en), (0, .ref aM)]) hx hb dX7_encode_53 hl (k := 2) rfl (by rw [e195]; rfl) (by decide) rfl (fun ls hl => ?_)
                refine lv_goto (tgt := 25) hx hb dX7_encode_56 (by decide) ?_
                exact ih25 en v195 _ _ _ (by omega) (by omega) (by omega) (hP.sub [0, 1, 2] rfl) (hD.sub [0, 1, 2] (by decide) rfl) hS (lv_sub hl [2, 1, 0] rfl)
              ·
                have z194 := zi_eq c194
                refine lv_iload_n hx hb dX7_encode_43 rfl (lv_at hl 1 rfl) ?_
                refine lv_if_ge (tgt := 51) hx hb dX7_encode_44 (by decide) (fun c196 => ?_) (fun c196 => ?_)
                ·
                  have z196 := zi_ge0 c196
                  refine lv_iload_n hx hb dX7_encode_51 rfl (lv_at hl 1 rfl) ?_
                  refine lv_istore_n (lv' := [(1, .int en), (0, .ref aM), (2, .int k)]) hx hb dX7_encode_52 rfl hl (by decide) rfl (fun ls hl => ?_)
                  obtain ⟨v197, e197⟩ : ∃ y : Int32, y = k + 1 := ⟨_, rfl⟩
                  first | have z197 := zi_inc (z := 1) 1 (by decide) e197 (by omega) | skip
                  refine lv_iinc (v := v197) (lv' := [(2, .int v197), (1, .int en), (0, .ref aM)]) hx hb dX7_encode_53 hl (k := 2) rfl (by rw [e197]; rfl) (by decide) rfl (fun ls hl => ?_)
                  refine lv_goto (tgt := 25) hx hb dX7_encode_56 (by decide) ?_
                  exact ih25 en v197 _ _ _ (by omega) (by omega) (by omega) (hP.sub [0, 1, 2] rfl) (hD.sub [0, 1, 2] (by decide) rfl) hS (lv_sub hl [2, 1, 0] rfl)
                ·
                  have z196 := zi_nge0 c196
                  refine lv_iload_n hx hb dX7_encode_47 rfl (lv_at hl 2 rfl) ?_
                  refine lv_goto (tgt := 52) hx hb dX7_encode_48 (by decide) ?_
                  refine lv_istore_n (lv' := [(1, .int k), (0, .ref aM), (2, .int k)]) hx hb dX7_encode_52 rfl hl (by decide) rfl (fun ls hl => ?_)
                  obtain ⟨v198, e198⟩ : ∃ y : Int32, y = k + 1 := ⟨_, rfl⟩
                  first | have z198 := zi_inc (z := 1) 1 (by decide) e198 (by omega) | skip
                  refine lv_iinc (v := v198) (lv' := [(2, .int v198), (1, .int k), (0, .ref aM)]) hx hb dX7_encode_53 hl (k := 2) rfl (by rw [e198]; rfl) (by decide) rfl (fun ls hl => ?_)
                  refine lv_goto (tgt := 25) hx hb dX7_encode_56 (by decide) ?_
                  exact ih25 k v198 _ _ _ (by omega) (by omega) (by omega) (hP.sub [0, 1, 2] rfl) (hD.sub [0, 1, 2] (by decide) rfl) hS (lv_sub hl [2, 1, 0] rfl)
        exact J25 _ v4 v5 _ _ _ (Nat.lt_succ_self _) (by omega) (by omega) (hP.sub [0, 1, 2] rfl) (hD.sub [0, 1, 2] (by decide) rfl) hS (lv_sub hl [2, 1, 0] rfl)
      ·
        have z3 := zi_nle c3
        refine lv_aload_n hx hb dX7_encode_8 rfl (lv_at hl 0 rfl) ?_
        refine va_get (D := D) (ci := 6) (v := .ref bB) (C := RX7) (T := TX7) (N := 17) hx hb hts in_X7 hown hK hP 0 rfl rfl 6 (by decide) (hts _ wk64) (fun _ h9 => h9) rfl dX7_encode_9 ?_
        refine lv_iload_n hx hb dX7_encode_12 rfl (lv_at hl 1 rfl) ?_
        refine lv_iconst (v := 0) hx hb dX7_encode_13 (by decide) ?_
        refine lv_topi (fun v199 e199 => ?_)
        have z199 : v199.toInt = 0 := zi_c e199 (by decide)
        obtain ⟨f200, ef200⟩ : ∃ z9, z9 = upd gb3 k.toNatClampNeg v199 := ⟨_, rfl⟩
        refine va_iast hx hb hK hP hD hS 2 0 rfl rfl (zi_in (by omega)) dX7_encode_14 (fun H locs hP1 hD1 hS1 => ?_)
        rw [← ef200] at hP1 hD1
        clear hP hD hS
        have hP : va_P D classes [(aM, .inr (6, [.int th, .int mw, .ref bG, .int mz, .ref bL, .ref bY, .ref bB, .ref bC, .int tk, .int ss, .int ml, .int mh, .int mp, .int rw, .int wr, .int tc, .ref bT])), (bG, .inl (cI, 8, .inl gg)), (bB, .inl (cI, 66, .inl f200))] H := hP1
        have hD : va_D A [(aM, .inr (6, [.int th, .int mw, .ref bG, .int mz, .ref bL, .ref bY, .ref bB, .ref bC, .int tk, .int ss, .int ml, .int mh, .int mp, .int rw, .int wr, .int tc, .ref bT])), (bG, .inl (cI, 8, .inl gg)), (bB, .inl (cI, 66, .inl f200))] := hD1
        have hS := hS1
        clear hP1 hD1 hS1
        obtain ⟨v201, e201⟩ : ∃ y : Int32, y = k + 1 := ⟨_, rfl⟩
        first | have z201 := zi_inc (z := 1) 1 (by decide) e201 (by omega) | skip
        refine lv_iinc (v := v201) (lv' := [(1, .int v201), (0, .ref aM)]) hx hb dX7_encode_15 hl (k := 1) rfl (by rw [e201]; rfl) (by decide) rfl (fun ls hl => ?_)
        refine lv_goto (tgt := 2) hx hb dX7_encode_18 (by decide) ?_
        exact ih2 v201 f200 _ _ _ (by omega) (by omega) (hP.sub [0, 1, 2] rfl) (hD.sub [0, 1, 2] (by decide) rfl) hS (lv_sub hl [1, 0] rfl)
  exact J2 _ v1 gb _ _ _ (Nat.lt_succ_self _) (by omega) (hP.sub [0, 1, 2] rfl) (hD.sub [0, 1, 2] (by decide) rfl) hS (lv_sub hl [1, 0] rfl)
