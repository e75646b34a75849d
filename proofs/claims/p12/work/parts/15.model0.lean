set_option maxHeartbeats 4000000 in
set_option maxRecDepth 100000 in
theorem c_Mo_mixed (l : Launch) (D : va_G) (cI cJ cB : ClassId) (aM : Nat) (bG : Nat) (bL : Nat) (bY : Nat) (bB : Nat) (bC : Nat) (bT : Nat) (th : Int32) (mw : Int32) (mz : Int32) (tk : Int32) (ss : Int32) (ml : Int32) (mh : Int32) (mp : Int32) (rw : Int32) (wr : Int32) (tc : Int32) (gy : Nat → Int32) (sd : Int32) (b : Int32) (h1 : 0 ≤ sd.toInt ∧ sd.toInt ≤ 1) :
    cti l yX7_mixed (wsOf yX7_mixed cX7_mixed 3 (some .int)) (rmL 0 0 0 0) D classes (tys3 cI cJ cB) [.ref aM, .int sd, .int b] [(aM, .inr (6, [.int th, .int mw, .ref bG, .int mz, .ref bL, .ref bY, .ref bB, .ref bC, .int tk, .int ss, .int ml, .int mh, .int mp, .int rw, .int wr, .int tc, .ref bT])), (bY, .inl (cI, 116, .inl gy))] (fun (r : Int32) (u : Unit) => r = (b ^^^ gy (58 * sd.toInt + 38).toNat) ^^^ gy (58 * sd.toInt + 57).toNat) (fun u : Unit => ([(aM, .inr (6, [.int th, .int mw, .ref bG, .int mz, .ref bL, .ref bY, .ref bB, .ref bC, .int tk, .int ss, .int ml, .int mh, .int mp, .int rw, .int wr, .int tc, .ref bT])), (bY, .inl (cI, 116, .inl gy))] : va_W)) := by
  refine cti.of (by first | exact plainFor_of_name (by decide) | decide +kernel) (Nat.le_of_ble_eq_true rfl) (fun p e s m args below meth c A ls Q h hret => ?_)
  obtain ⟨hx, hb, hml, hown, hts, hnm, hP, hK, hD, hA, hS, hZ, hN, hl⟩ := h
  have hown : s.vm.findClass RX7 = some m.cls := hown
  have hl : lv_has ls 3 [(0, .ref aM), (1, .int sd), (2, .int b)] := hl
  have hP : va_P D classes [(aM, .inr (6, [.int th, .int mw, .ref bG, .int mz, .ref bL, .ref bY, .ref bB, .ref bC, .int tk, .int ss, .int ml, .int mh, .int mp, .int rw, .int wr, .int tc, .ref bT])), (bY, .inl (cI, 116, .inl gy))] s.heap := hP
  have hD : va_D A [(aM, .inr (6, [.int th, .int mw, .ref bG, .int mz, .ref bL, .ref bY, .ref bB, .ref bC, .int tk, .int ss, .int ml, .int mh, .int mp, .int rw, .int wr, .int tc, .ref bT])), (bY, .inl (cI, 116, .inl gy))] := hD
  have rg_th := zi_rg th
  have rg_mw := zi_rg mw
  have rg_mz := zi_rg mz
  have rg_tk := zi_rg tk
  have rg_ss := zi_rg ss
  have rg_ml := zi_rg ml
  have rg_mh := zi_rg mh
  have rg_mp := zi_rg mp
  have rg_rw := zi_rg rw
  have rg_wr := zi_rg wr
  have rg_tc := zi_rg tc
  have rg_sd := zi_rg sd
  have rg_b := zi_rg b
  refine lv_iload_n hx hb dX7_mixed_0 rfl (lv_at hl 2 rfl) ?_
  refine lv_aload_n hx hb dX7_mixed_1 rfl (lv_at hl 0 rfl) ?_
  refine va_get (D := D) (ci := 6) (v := .ref bY) (C := RX7) (T := TX7) (N := 17) hx hb hts in_X7 hown hK hP 0 rfl rfl 5 (by decide) (hts _ wk63) (fun _ h9 => h9) rfl dX7_mixed_2 ?_
  refine lv_bipush (v := 58) hx hb dX7_mixed_5 (by decide) ?_
  refine lv_topi (fun v1 e1 => ?_)
  have z1 : v1.toInt = 58 := zi_c e1 (by decide)
  refine lv_iload_n hx hb dX7_mixed_7 rfl (lv_at hl 1 rfl) ?_
  refine lv_imul hx hb dX7_mixed_8 ?_
  refine lv_topi (fun v2 e2 => ?_)
  first | have z2 := zi_mulL (k := 58) e2 (by omega) (by omega) | skip
  refine lv_bipush (v := 38) hx hb dX7_mixed_9 (by decide) ?_
  refine lv_topi (fun v3 e3 => ?_)
  have z3 : v3.toInt = 38 := zi_c e3 (by decide)
  refine lv_iadd hx hb dX7_mixed_11 ?_
  refine lv_topi (fun v4 e4 => ?_)
  first | have z4 := zi_add e4 (by omega) | skip
  refine va_iald hx hb hK hP 1 0 rfl rfl (zi_in (by omega)) dX7_mixed_12 ?_
  refine lv_topi (fun v5 e5 => ?_)
  refine lv_ixor hx hb dX7_mixed_13 ?_
  refine lv_topi (fun v6 e6 => ?_)
  refine lv_aload_n hx hb dX7_mixed_14 rfl (lv_at hl 0 rfl) ?_
  refine va_get (D := D) (ci := 6) (v := .ref bY) (C := RX7) (T := TX7) (N := 17) hx hb hts in_X7 hown hK hP 0 rfl rfl 5 (by decide) (hts _ wk63) (fun _ h9 => h9) rfl dX7_mixed_15 ?_
  refine lv_bipush (v := 58) hx hb dX7_mixed_18 (by decide) ?_
  refine lv_topi (fun v7 e7 => ?_)
  have z7 : v7.toInt = 58 := zi_c e7 (by decide)
  refine lv_iload_n hx hb dX7_mixed_20 rfl (lv_at hl 1 rfl) ?_
  refine lv_imul hx hb dX7_mixed_21 ?_
  refine lv_topi (fun v8 e8 => ?_)
  first | have z8 := zi_mulL (k := 58) e8 (by omega) (by omega) | skip
  refine lv_bipush (v := 57) hx hb dX7_mixed_22 (by decide) ?_
  refine lv_topi (fun v9 e9 => ?_)
  have z9 : v9.toInt = 57 := zi_c e9 (by decide)
  refine lv_iadd hx hb dX7_mixed_24 ?_
  refine lv_topi (fun v10 e10 => ?_)
  first | have z10 := zi_add e10 (by omega) | skip
  refine va_iald hx hb hK hP 1 0 rfl rfl (zi_in (by omega)) dX7_mixed_25 ?_
  refine lv_topi (fun v11 e11 => ?_)
  refine lv_ixor hx hb dX7_mixed_26 ?_
  refine lv_topi (fun v12 e12 => ?_)
  have hq13 : v12 = (b ^^^ gy (58 * sd.toInt + 38).toNat) ^^^ gy (58 * sd.toInt + 57).toNat := (by rw [e12, e6, e5, e11, show v4.toNatClampNeg = (58 * sd.toInt + 38).toNat from by show v4.toInt.toNat = _; omega, show v10.toNatClampNeg = (58 * sd.toInt + 57).toNat from by show v10.toInt.toNat = _; omega])
  exact hret v12 () _ _ _ _ dX7_mixed_27 hq13 (hP.sub [0, 1] rfl) (hD.sub [0, 1] (by decide) rfl) hS

set_option maxHeartbeats 4000000 in
set_option maxRecDepth 100000 in
theorem c_Mo_remember (l : Launch) (D : va_G) (cI cJ cB : ClassId) (aM : Nat) (bG : Nat) (bL : Nat) (bY : Nat) (bB : Nat) (bC : Nat) (bT : Nat) (th : Int32) (mw : Int32) (mz : Int32) (tk : Int32) (ss : Int32) (ml : Int32) (mh : Int32) (mp : Int32) (rw : Int32) (wr : Int32) (tc : Int32) (gy : Nat → Int32) (sd : Int32) (b : Int32) (h1 : 0 ≤ sd.toInt ∧ sd.toInt ≤ 1) :
    ctv l yX7_remember (wsOf yX7_remember cX7_remember 4 none) (rmL 0 0 0 0) D classes (tys3 cI cJ cB) [.ref aM, .int sd, .int b] [(aM, .inr (6, [.int th, .int mw, .ref bG, .int mz, .ref bL, .ref bY, .ref bB, .ref bC, .int tk, .int ss, .int ml, .int mh, .int mp, .int rw, .int wr, .int tc, .ref bT])), (bY, .inl (cI, 116, .inl gy))] (fun u : (Nat → Int32) => ∀ j : Nat, u j = if (j : Int) = 58 * sd.toInt then b else if 58 * sd.toInt < j ∧ (j : Int) ≤ 58 * sd.toInt + 57 then gy (j - 1) else gy j) (fun u : (Nat → Int32) => ([(aM, .inr (6, [.int th, .int mw, .ref bG, .int mz, .ref bL, .ref bY, .ref bB, .ref bC, .int tk, .int ss, .int ml, .int mh, .int mp, .int rw, .int wr, .int tc, .ref bT])), (bY, .inl (cI, 116, .inl u))] : va_W)) 0 0 := by
  refine ctv.of (by first | exact plainFor_of_name (by decide) | decide +kernel) (Nat.le_of_ble_eq_true rfl) (fun p e s m args below meth c A ls Q h hret => ?_)
  obtain ⟨hx, hb, hml, hown, hts, hnm, hP, hK, hD, hA, hS, hZ, hN, hl⟩ := h
  have hown : s.vm.findClass RX7 = some m.cls := hown
  have hl : lv_has ls 4 [(0, .ref aM), (1, .int sd), (2, .int b)] := hl
  have hP : va_P D classes [(aM, .inr (6, [.int th, .int mw, .ref bG, .int mz, .ref bL, .ref bY, .ref bB, .ref bC, .int tk, .int ss, .int ml, .int mh, .int mp, .int rw, .int wr, .int tc, .ref bT])), (bY, .inl (cI, 116, .inl gy))] s.heap := hP
  have hD : va_D A [(aM, .inr (6, [.int th, .int mw, .ref bG, .int mz, .ref bL, .ref bY, .ref bB, .ref bC, .int tk, .int ss, .int ml, .int mh, .int mp, .int rw, .int wr, .int tc, .ref bT])), (bY, .inl (cI, 116, .inl gy))] := hD
  have rg_th := zi_rg th
  have rg_mw := zi_rg mw
  have rg_mz := zi_rg mz
  have rg_tk := zi_rg tk
  have rg_ss := zi_rg ss
  have rg_ml := zi_rg ml
  have rg_mh := zi_rg mh
  have rg_mp := zi_rg mp
  have rg_rw := zi_rg rw
  have rg_wr := zi_rg wr
  have rg_tc := zi_rg tc
  have rg_sd := zi_rg sd
  have rg_b := zi_rg b
  refine lv_bipush (v := 57) hx hb dX7_remember_0 (by decide) ?_
  refine lv_topi (fun v1 e1 => ?_)
  have z1 : v1.toInt = 57 := zi_c e1 (by decide)
  refine lv_istore_n (lv' := [(3, .int v1), (0, .ref aM), (1, .int sd), (2, .int b)]) hx hb dX7_remember_2 rfl hl (by decide) rfl (fun ls hl => ?_)
  have J3 : ∀ (n : Nat) (k : Int32) (gy3 : Nat → Int32) (H : Heap) (locs : List Loc) (ls : Array Slot), k.toInt.toNat < n → (0 ≤ k.toInt ∧ k.toInt ≤ 57) → (∀ j : Nat, gy3 j = if 58 * sd.toInt + k.toInt < j ∧ (j : Int) ≤ 58 * sd.toInt + 57 then gy (j - 1) else gy j) → va_P D classes [(aM, .inr (6, [.int th, .int mw, .ref bG, .int mz, .ref bL, .ref bY, .ref bB, .ref bC, .int tk, .int ss, .int ml, .int mh, .int mp, .int rw, .int wr, .int tc, .ref bT])), (bY, .inl (cI, 116, .inl gy3))] H → va_D A [(aM, .inr (6, [.int th, .int mw, .ref bG, .int mz, .ref bL, .ref bY, .ref bB, .ref bC, .int tk, .int ss, .int ml, .int mh, .int mp, .int rw, .int wr, .int tc, .ref bT])), (bY, .inl (cI, 116, .inl gy3))] → va_S A s.heap H locs → lv_has ls 4 [(0, .ref aM), (1, .int sd), (2, .int b), (3, .int k)] → W p l e (rmL 0 0 0 0) s m args below meth c H locs 0 0 Q (F0 m 3 ls []) := by
    intro n
    induction n with
    | zero => intro k gy3 H locs ls hmu; exact absurd hmu (Nat.not_lt_zero _)
    | succ n ih3 =>
      intro k gy3 H locs ls hmu3 i3_0 i3_1 hP hD hS hl
      have rg_k := zi_rg k
      refine lv_iload_n hx hb dX7_remember_3 rfl (lv_at hl 3 rfl) ?_
      refine lv_if_le (tgt := 37) hx hb dX7_remember_4 (by decide) (fun c2 => ?_) (fun c2 => ?_)
      ·
        have z2 := zi_le0 c2
        refine lv_aload_n hx hb dX7_remember_37 rfl (lv_at hl 0 rfl) ?_
        refine va_get (D := D) (ci := 6) (v := .ref bY) (C := RX7) (T := TX7) (N := 17) hx hb hts in_X7 hown hK hP 0 rfl rfl 5 (by decide) (hts _ wk63) (fun _ h9 => h9) rfl dX7_remember_38 ?_
        refine lv_bipush (v := 58) hx hb dX7_remember_41 (by decide) ?_
        refine lv_topi (fun v3 e3 => ?_)
        have z3 : v3.toInt = 58 := zi_c e3 (by decide)
        refine lv_iload_n hx hb dX7_remember_43 rfl (lv_at hl 1 rfl) ?_
        refine lv_imul hx hb dX7_remember_44 ?_
        refine lv_topi (fun v4 e4 => ?_)
        first | have z4 := zi_mulL (k := 58) e4 (by omega) (by omega) | skip
        refine lv_iload_n hx hb dX7_remember_45 rfl (lv_at hl 2 rfl) ?_
        obtain ⟨f5, ef5⟩ : ∃ z9, z9 = upd gy3 v4.toNatClampNeg b := ⟨_, rfl⟩
        refine va_iast hx hb hK hP hD hS 1 0 rfl rfl (zi_in (by omega)) dX7_remember_46 (fun H locs hP1 hD1 hS1 => ?_)
        rw [← ef5] at hP1 hD1
        clear hP hD hS
        have hP : va_P D classes [(aM, .inr (6, [.int th, .int mw, .ref bG, .int mz, .ref bL, .ref bY, .ref bB, .ref bC, .int tk, .int ss, .int ml, .int mh, .int mp, .int rw, .int wr, .int tc, .ref bT])), (bY, .inl (cI, 116, .inl f5))] H := hP1
        have hD : va_D A [(aM, .inr (6, [.int th, .int mw, .ref bG, .int mz, .ref bL, .ref bY, .ref bB, .ref bC, .int tk, .int ss, .int ml, .int mh, .int mp, .int rw, .int wr, .int tc, .ref bT])), (bY, .inl (cI, 116, .inl f5))] := hD1
        have hS := hS1
        clear hP1 hD1 hS1
        have hq6 : ∀ j : Nat, f5 j = if (j : Int) = 58 * sd.toInt then b else if 58 * sd.toInt < j ∧ (j : Int) ≤ 58 * sd.toInt + 57 then gy (j - 1) else gy j := (fun j => by rw [ef5]; by_cases g : j = v4.toInt.toNat; (· rw [g, show upd gy3 v4.toNatClampNeg b v4.toInt.toNat = b from pk_us, if_pos (by omega)]); (· rw [pk_un (show j ≠ v4.toNatClampNeg from g), i3_1, if_neg (show ¬ (j : Int) = 58 * sd.toInt by omega)]; (by_cases g2 : 58 * sd.toInt < j ∧ (j : Int) ≤ 58 * sd.toInt + 57; (· rw [if_pos g2, if_pos (by omega)]); (· rw [if_neg g2, if_neg (by omega)]))))
        exact hret f5 _ _ _ _ dX7_remember_47 hq6 (hP.sub [0, 1] rfl) (hD.sub [0, 1] (by decide) rfl) hS
      ·
        have z2 := zi_nle0 c2
        refine lv_aload_n hx hb dX7_remember_7 rfl (lv_at hl 0 rfl) ?_
        refine va_get (D := D) (ci := 6) (v := .ref bY) (C := RX7) (T := TX7) (N := 17) hx hb hts in_X7 hown hK hP 0 rfl rfl 5 (by decide) (hts _ wk63) (fun _ h9 => h9) rfl dX7_remember_8 ?_
        refine lv_bipush (v := 58) hx hb dX7_remember_11 (by decide) ?_
        refine lv_topi (fun v7 e7 => ?_)
        have z7 : v7.toInt = 58 := zi_c e7 (by decide)
        refine lv_iload_n hx hb dX7_remember_13 rfl (lv_at hl 1 rfl) ?_
        refine lv_imul hx hb dX7_remember_14 ?_
        refine lv_topi (fun v8 e8 => ?_)
        first | have z8 := zi_mulL (k := 58) e8 (by omega) (by omega) | skip
        refine lv_iload_n hx hb dX7_remember_15 rfl (lv_at hl 3 rfl) ?_
        refine lv_iadd hx hb dX7_remember_16 ?_
        refine lv_topi (fun v9 e9 => ?_)
        first | have z9 := zi_add e9 (by omega) | skip
        refine lv_aload_n hx hb dX7_remember_17 rfl (lv_at hl 0 rfl) ?_
        refine va_get (D := D) (ci := 6) (v := .ref bY) (C := RX7) (T := TX7) (N := 17) hx hb hts in_X7 hown hK hP 0 rfl rfl 5 (by decide) (hts _ wk63) (fun _ h9 => h9) rfl dX7_remember_18 ?_
        refine lv_bipush (v := 58) hx hb dX7_remember_21 (by decide) ?_
        refine lv_topi (fun v10 e10 => ?_)
        have z10 : v10.toInt = 58 := zi_c e10 (by decide)
        refine lv_iload_n hx hb dX7_remember_23 rfl (lv_at hl 1 rfl) ?_
        refine lv_imul hx hb dX7_remember_24 ?_
        refine lv_topi (fun v11 e11 => ?_)
        first | have z11 := zi_mulL (k := 58) e11 (by omega) (by omega) | skip
        refine lv_iload_n hx hb dX7_remember_25 rfl (lv_at hl 3 rfl) ?_
        refine lv_iadd hx hb dX7_remember_26 ?_
        refine lv_topi (fun v12 e12 => ?_)
        first | have z12 := zi_add e12 (by omega) | skip
        refine lv_iconst (v := 1) hx hb dX7_remember_27 (by decide) ?_
        refine lv_topi (fun v13 e13 => ?_)
        have z13 : v13.toInt = 1 := zi_c e13 (by decide)
        refine lv_isub hx hb dX7_remember_28 ?_
        refine lv_topi (fun v14 e14 => ?_)
        first | have z14 := zi_sub e14 (by omega) | skip
        refine va_iald hx hb hK hP 1 0 rfl rfl (zi_in (by omega)) dX7_remember_29 ?_
        refine lv_topi (fun v15 e15 => ?_)
        obtain ⟨f16, ef16⟩ : ∃ z9, z9 = upd gy3 v9.toNatClampNeg v15 := ⟨_, rfl⟩
        refine va_iast hx hb hK hP hD hS 1 0 rfl rfl (zi_in (by omega)) dX7_remember_30 (fun H locs hP1 hD1 hS1 => ?_)
        rw [← ef16] at hP1 hD1
        clear hP hD hS
        have hP : va_P D classes [(aM, .inr (6, [.int th, .int mw, .ref bG, .int mz, .ref bL, .ref bY, .ref bB, .ref bC, .int tk, .int ss, .int ml, .int mh, .int mp, .int rw, .int wr, .int tc, .ref bT])), (bY, .inl (cI, 116, .inl f16))] H := hP1
        have hD : va_D A [(aM, .inr (6, [.int th, .int mw, .ref bG, .int mz, .ref bL, .ref bY, .ref bB, .ref bC, .int tk, .int ss, .int ml, .int mh, .int mp, .int rw, .int wr, .int tc, .ref bT])), (bY, .inl (cI, 116, .inl f16))] := hD1
        have hS := hS1
        clear hP1 hD1 hS1
        obtain ⟨v17, e17⟩ : ∃ y : Int32, y = k + (-1) := ⟨_, rfl⟩
        first | have z17 := zi_inc (z := (-1)) (-1) (by decide) e17 (by omega) | skip
        refine lv_iinc (v := v17) (lv' := [(3, .int v17), (0, .ref aM), (1, .int sd), (2, .int b)]) hx hb dX7_remember_31 hl (k := 3) rfl (by rw [e17]; rfl) (by decide) rfl (fun ls hl => ?_)
        refine lv_goto (tgt := 3) hx hb dX7_remember_34 (by decide) ?_
        exact ih3 v17 f16 _ _ _ (by omega) (by omega) (fun j => by rw [ef16]; by_cases g : j = v9.toInt.toNat; (· rw [g, show upd gy3 v9.toNatClampNeg v15 v9.toInt.toNat = v15 from pk_us, e15, show v14.toNatClampNeg = v9.toInt.toNat - 1 from by show v14.toInt.toNat = _; omega, i3_1, if_neg (by omega), if_pos (by omega)]); (· rw [pk_un (show j ≠ v9.toNatClampNeg from g), i3_1]; (by_cases g2 : 58 * sd.toInt + k.toInt < j ∧ (j : Int) ≤ 58 * sd.toInt + 57; (· rw [if_pos g2, if_pos (by omega)]); (· rw [if_neg g2, if_neg (by omega)])))) (hP.sub [0, 1] rfl) (hD.sub [0, 1] (by decide) rfl) hS (lv_sub hl [1, 2, 3, 0] rfl)
  exact J3 _ v1 gy _ _ _ (Nat.lt_succ_self _) (by omega) (fun j => by rw [if_neg (by omega)]) (hP.sub [0, 1] rfl) (hD.sub [0, 1] (by decide) rfl) hS (lv_sub hl [1, 2, 3, 0] rfl)

set_option maxHeartbeats 4000000 in
set_option maxRecDepth 100000 in
theorem c_Mo_state (l : Launch) (D : va_G) (cI cJ cB : ClassId) (aM : Nat) (bG : Nat) (bL : Nat) (bY : Nat) (bB : Nat) (bC : Nat) (bT : Nat) (th : Int32) (mw : Int32) (mz : Int32) (tk : Int32) (ss : Int32) (ml : Int32) (mh : Int32) (mp : Int32) (rw : Int32) (wr : Int32) (tc : Int32) (gy : Nat → Int32) (sd : Int32) (x : Int64)  :
    ctl l yX7_state (wsOf yX7_state cX7_state 7 (some .long)) (rmL 0 0 0 0) D classes (tys3 cI cJ cB) [.ref aM, .int sd, .long x] [(aM, .inr (6, [.int th, .int mw, .ref bG, .int mz, .ref bL, .ref bY, .ref bB, .ref bC, .int tk, .int ss, .int ml, .int mh, .int mp, .int rw, .int wr, .int tc, .ref bT])), (bY, .inl (cI, 116, .inl gy))] (fun (r : Int64) (u : Int32 × (Nat → Int32)) => ((sd.toInt < 0 ∨ 1 < sd.toInt) → r = -12) ∧ ((0 ≤ sd.toInt ∧ sd.toInt ≤ 1 ∧ ∀ q, gy q = 0) → r = 0) ∧ (sd.toInt = 0 → ∀ j, j < 58 → u.2 j = bi (bl x j)) ∧ (¬ sd.toInt = 0 → ∀ j, j < 58 → u.2 j = gy j)) (fun u : Int32 × (Nat → Int32) => ([(aM, .inr (6, [.int u.1, .int mw, .ref bG, .int mz, .ref bL, .ref bY, .ref bB, .ref bC, .int tk, .int ss, .int ml, .int mh, .int mp, .int rw, .int wr, .int tc, .ref bT])), (bY, .inl (cI, 116, .inl u.2))] : va_W)) := by
  refine ctl.of (by first | exact plainFor_of_name (by decide) | decide +kernel) (Nat.le_of_ble_eq_true rfl) (fun p e s m args below meth c A ls Q h hret => ?_)
  obtain ⟨hx, hb, hml, hown, hts, hnm, hP, hK, hD, hA, hS, hZ, hN, hl⟩ := h
  have hown : s.vm.findClass RX7 = some m.cls := hown
  have hl : lv_has ls 7 [(0, .ref aM), (1, .int sd), (2, .long x)] := hl
  have hP : va_P D classes [(aM, .inr (6, [.int th, .int mw, .ref bG, .int mz, .ref bL, .ref bY, .ref bB, .ref bC, .int tk, .int ss, .int ml, .int mh, .int mp, .int rw, .int wr, .int tc, .ref bT])), (bY, .inl (cI, 116, .inl gy))] s.heap := hP
  have hD : va_D A [(aM, .inr (6, [.int th, .int mw, .ref bG, .int mz, .ref bL, .ref bY, .ref bB, .ref bC, .int tk, .int ss, .int ml, .int mh, .int mp, .int rw, .int wr, .int tc, .ref bT])), (bY, .inl (cI, 116, .inl gy))] := hD
  have rg_th := zi_rg th
  have rg_mw := zi_rg mw
  have rg_mz := zi_rg mz
  have rg_tk := zi_rg tk
  have rg_ss := zi_rg ss
  have rg_ml := zi_rg ml
  have rg_mh := zi_rg mh
  have rg_mp := zi_rg mp
  have rg_rw := zi_rg rw
  have rg_wr := zi_rg wr
  have rg_tc := zi_rg tc
  have rg_sd := zi_rg sd
  refine lv_aload_n hx hb dX7_state_0 rfl (lv_at hl 0 rfl) ?_
  refine lv_iconst (v := 0) hx hb dX7_state_1 (by decide) ?_
  refine lv_topi (fun v1 e1 => ?_)
  have z1 : v1.toInt = 0 := zi_c e1 (by decide)
  refine va_put (D := D) (ci := 6) (v := .int v1) (ty := .int) (C := RX7) (T := TX7) (N := 17) hx hb hts in_X7 tyX7 tyX7_ok nmX7 hown hK hP hD hS 0 rfl rfl 0 (by decide) (hts _ wk163) (fun _ h9 => h9) rfl (by decide +kernel) rfl rfl (Nat.le_of_ble_eq_true rfl) dX7_state_2 (fun H locs hP1 hD1 hS1 => ?_)
  clear hP hD hS
  have hP : va_P D classes [(aM, .inr (6, [.int v1, .int mw, .ref bG, .int mz, .ref bL, .ref bY, .ref bB, .ref bC, .int tk, .int ss, .int ml, .int mh, .int mp, .int rw, .int wr, .int tc, .ref bT])), (bY, .inl (cI, 116, .inl gy))] H := hP1
  have hD : va_D A [(aM, .inr (6, [.int v1, .int mw, .ref bG, .int mz, .ref bL, .ref bY, .ref bB, .ref bC, .int tk, .int ss, .int ml, .int mh, .int mp, .int rw, .int wr, .int tc, .ref bT])), (bY, .inl (cI, 116, .inl gy))] := hD1
  have hS := hS1
  clear hP1 hD1 hS1
  refine lv_iload_n hx hb dX7_state_5 rfl (lv_at hl 1 rfl) ?_
  refine lv_if_lt (tgt := 14) hx hb dX7_state_6 (by decide) (fun c2 => ?_) (fun c2 => ?_)
  ·
    have z2 := zi_lt0 c2
    refine lv_ldc2 (v := (-12)) hx hb hown (hts _ wk251) dX7_state_14 ?_
    refine lv_topl (fun v3 e3 => ?_)
    have hq4 : ((sd.toInt < 0 ∨ 1 < sd.toInt) → v3 = -12) ∧ ((0 ≤ sd.toInt ∧ sd.toInt ≤ 1 ∧ ∀ q, gy q = 0) → v3 = 0) ∧ (sd.toInt = 0 → ∀ j, j < 58 → gy j = bi (bl x j)) ∧ (¬ sd.toInt = 0 → ∀ j, j < 58 → gy j = gy j) := (by refine ⟨fun q => ?_, fun q => ?_, fun q j hj => ?_, fun q j hj => ?_⟩ <;> first | assumption | rfl | (exfalso; omega) | exact (i25_1 q.2.2).1 | (rw [i25_2 j, if_pos (by omega), show j - (58 * sd.toInt).toNat = j by omega]) | (rw [i25_2 j, if_neg (by omega)]))
    exact hret v3 (v1, gy) _ _ _ _ dX7_state_17 hq4 (hP.sub [0, 1] rfl) (hD.sub [0, 1] (by decide) rfl) hS
  ·
    have z2 := zi_nlt0 c2
    refine lv_iload_n hx hb dX7_state_9 rfl (lv_at hl 1 rfl) ?_
    refine lv_iconst (v := 1) hx hb dX7_state_10 (by decide) ?_
    refine lv_topi (fun v5 e5 => ?_)
    have z5 : v5.toInt = 1 := zi_c e5 (by decide)
    refine lv_icmp_le (tgt := 18) hx hb dX7_state_11 (by decide) (fun c6 => ?_) (fun c6 => ?_)
    ·
      have z6 := zi_le c6
      refine lv_lconst (v := 0) hx hb dX7_state_18 (by decide) ?_
      refine lv_topl (fun v7 e7 => ?_)
      refine lv_lstore (lv' := [(4, .long v7), (0, .ref aM), (1, .int sd), (2, .long x)]) hx hb dX7_state_19 hl (by decide) rfl (fun ls hl => ?_)
      refine lv_bipush (v := 57) hx hb dX7_state_21 (by decide) ?_
      refine lv_topi (fun v8 e8 => ?_)
      have z8 : v8.toInt = 57 := zi_c e8 (by decide)
      refine lv_istore (lv' := [(6, .int v8), (4, .long v7), (0, .ref aM), (1, .int sd), (2, .long x)]) hx hb dX7_state_23 hl (by decide) rfl (fun ls hl => ?_)
      have J25 : ∀ (n : Nat) (k : Int32) (bf : Int64) (gy3 : Nat → Int32) (H : Heap) (locs : List Loc) (ls : Array Slot), ((k.toInt + 1).toNat) < n → (-1 ≤ k.toInt ∧ k.toInt ≤ 57) → ((∀ q, gy q = 0) → bf = 0 ∧ ∀ j : Nat, (j : Int) ≤ 58 * sd.toInt + k.toInt → gy3 j = 0) → (∀ j : Nat, gy3 j = if 58 * sd.toInt + k.toInt < j ∧ (j : Int) ≤ 58 * sd.toInt + 57 then bi (bl x (j - (58 * sd.toInt).toNat)) else gy j) → va_P D classes [(aM, .inr (6, [.int v1, .int mw, .ref bG, .int mz, .ref bL, .ref bY, .ref bB, .ref bC, .int tk, .int ss, .int ml, .int mh, .int mp, .int rw, .int wr, .int tc, .ref bT])), (bY, .inl (cI, 116, .inl gy3))] H → va_D A [(aM, .inr (6, [.int v1, .int mw, .ref bG, .int mz, .ref bL, .ref bY, .ref bB, .ref bC, .int tk, .int ss, .int ml, .int mh, .int mp, .int rw, .int wr, .int tc, .ref bT])), (bY, .inl (cI, 116, .inl gy3))] → va_S A s.heap H locs → lv_has ls 7 [(0, .ref aM), (1, .int sd), (2, .long x), (4, .long bf), (6, .int k)] → W p l e (rmL 0 0 0 0) s m args below meth c H locs 0 0 Q (F0 m 25 ls []) := by
        intro n
        induction n with
        | zero => intro k bf gy3 H locs ls hmu; exact absurd hmu (Nat.not_lt_zero _)
        | succ n ih25 =>
          intro k bf gy3 H locs ls hmu25 i25_0 i25_1 i25_2 hP hD hS hl
          have rg_k := zi_rg k
          refine lv_iload hx hb dX7_state_25 (lv_at hl 4 rfl) ?_
          refine lv_if_lt (tgt := 77) hx hb dX7_state_27 (by decide) (fun c9 => ?_) (fun c9 => ?_)
          ·
            have z9 := zi_lt0 c9
            refine lv_lload hx hb dX7_state_77 (lv_at hl 3 rfl) ?_
            have hq10 : ((sd.toInt < 0 ∨ 1 < sd.toInt) → bf = -12) ∧ ((0 ≤ sd.toInt ∧ sd.toInt ≤ 1 ∧ ∀ q, gy q = 0) → bf = 0) ∧ (sd.toInt = 0 → ∀ j, j < 58 → gy3 j = bi (bl x j)) ∧ (¬ sd.toInt = 0 → ∀ j, j < 58 → gy3 j = gy j) := (by refine ⟨fun q => ?_, fun q => ?_, fun q j hj => ?_, fun q j hj => ?_⟩ <;> first | assumption | rfl | (exfalso; omega) | exact (i25_1 q.2.2).1 | (rw [i25_2 j, if_pos (by omega), show j - (58 * sd.toInt).toNat = j by omega]) | (rw [i25_2 j, if_neg (by omega)]))
            exact hret bf (v1, gy3) _ _ _ _ dX7_state_79 hq10 (hP.sub [0, 1] rfl) (hD.sub [0, 1] (by decide) rfl) hS
          ·
            have z9 := zi_nlt0 c9
            refine lv_ldc2 (v := 2) hx hb hown (hts _ wk252) dX7_state_30 ?_
            refine lv_topl (fun v11 e11 => ?_)
            refine lv_lload hx hb dX7_state_33 (lv_at hl 3 rfl) ?_
            refine lv_lmul hx hb dX7_state_35 ?_
            refine lv_topl (fun v12 e12 => ?_)
            refine lv_aload_n hx hb dX7_state_36 rfl (lv_at hl 0 rfl) ?_
            refine va_get (D := D) (ci := 6) (v := .ref bY) (C := RX7) (T := TX7) (N := 17) hx hb hts in_X7 hown hK hP 0 rfl rfl 5 (by decide) (hts _ wk63) (fun _ h9 => h9) rfl dX7_state_37 ?_
            refine lv_bipush (v := 58) hx hb dX7_state_40 (by decide) ?_
            refine lv_topi (fun v13 e13 => ?_)
            have z13 : v13.toInt = 58 := zi_c e13 (by decide)
            refine lv_iload_n hx hb dX7_state_42 rfl (lv_at hl 1 rfl) ?_
            refine lv_imul hx hb dX7_state_43 ?_
            refine lv_topi (fun v14 e14 => ?_)
            first | have z14 := zi_mulL (k := 58) e14 (by omega) (by omega) | skip
            refine lv_iload hx hb dX7_state_44 (lv_at hl 4 rfl) ?_
            refine lv_iadd hx hb dX7_state_46 ?_
            refine lv_topi (fun v15 e15 => ?_)
            first | have z15 := zi_add e15 (by omega) | skip
            refine va_iald hx hb hK hP 1 0 rfl rfl (zi_in (by omega)) dX7_state_47 ?_
            refine lv_topi (fun v16 e16 => ?_)
            refine lv_i2l hx hb dX7_state_48 rfl ?_
            refine lv_topl (fun v17 e17 => ?_)
            refine lv_ladd hx hb dX7_state_49 ?_
            refine lv_topl (fun v18 e18 => ?_)
            refine lv_lstore (lv' := [(4, .long v18), (0, .ref aM), (1, .int sd), (2, .long x), (6, .int k)]) hx hb dX7_state_50 hl (by decide) rfl (fun ls hl => ?_)
            refine lv_aload_n hx hb dX7_state_52 rfl (lv_at hl 1 rfl) ?_
            refine va_get (D := D) (ci := 6) (v := .ref bY) (C := RX7) (T := TX7) (N := 17) hx hb hts in_X7 hown hK hP 0 rfl rfl 5 (by decide) (hts _ wk63) (fun _ h9 => h9) rfl dX7_state_53 ?_
            refine lv_bipush (v := 58) hx hb dX7_state_56 (by decide) ?_
            refine lv_topi (fun v19 e19 => ?_)
            have z19 : v19.toInt = 58 := zi_c e19 (by decide)
            refine lv_iload_n hx hb dX7_state_58 rfl (lv_at hl 2 rfl) ?_
            refine lv_imul hx hb dX7_state_59 ?_
            refine lv_topi (fun v20 e20 => ?_)
            first | have z20 := zi_mulL (k := 58) e20 (by omega) (by omega) | skip
            refine lv_iload hx hb dX7_state_60 (lv_at hl 4 rfl) ?_
            refine lv_iadd hx hb dX7_state_62 ?_
            refine lv_topi (fun v21 e21 => ?_)
            first | have z21 := zi_add e21 (by omega) | skip
            refine lv_lload_n hx hb dX7_state_63 rfl (lv_at hl 3 rfl) ?_
            refine lv_iload hx hb dX7_state_64 (lv_at hl 4 rfl) ?_
            refine lv_lshr hx hb dX7_state_66 rfl ?_
            refine lv_topl (fun v22 e22 => ?_)
            refine lv_lconst (v := 1) hx hb dX7_state_67 (by decide) ?_
            refine lv_topl (fun v23 e23 => ?_)
            refine lv_land hx hb dX7_state_68 ?_
            refine lv_topl (fun v24 e24 => ?_)
            refine lv_l2i hx hb dX7_state_69 rfl ?_
            refine lv_topi (fun v25 e25 => ?_)
            obtain ⟨f26, ef26⟩ : ∃ z9, z9 = upd gy3 v21.toNatClampNeg v25 := ⟨_, rfl⟩
            refine va_iast hx hb hK hP hD hS 1 0 rfl rfl (zi_in (by omega)) dX7_state_70 (fun H locs hP1 hD1 hS1 => ?_)
            rw [← ef26] at hP1 hD1
            clear hP hD hS
            have hP : va_P D classes [(aM, .inr (6, [.int v1, .int mw, .ref bG, .int mz, .ref bL, .ref bY, .ref bB, .ref bC, .int tk, .int ss, .int ml, .int mh, .int mp, .int rw, .int wr, .int tc, .ref bT])), (bY, .inl (cI, 116, .inl f26))] H := hP1
            have hD : va_D A [(aM, .inr (6, [.int v1, .int mw, .ref bG, .int mz, .ref bL, .ref bY, .ref bB, .ref bC, .int tk, .int ss, .int ml, .int mh, .int mp, .int rw, .int wr, .int tc, .ref bT])), (bY, .inl (cI, 116, .inl f26))] := hD1
            have hS := hS1
            clear hP1 hD1 hS1
            obtain ⟨v27, e27⟩ : ∃ y : Int32, y = k + (-1) := ⟨_, rfl⟩
            first | have z27 := zi_inc (z := (-1)) (-1) (by decide) e27 (by omega) | skip
            refine lv_iinc (v := v27) (lv' := [(6, .int v27), (4, .long v18), (0, .ref aM), (1, .int sd), (2, .long x)]) hx hb dX7_state_71 hl (k := 4) rfl (by rw [e27]; rfl) (by decide) rfl (fun ls hl => ?_)
            refine lv_goto (tgt := 25) hx hb dX7_state_74 (by decide) ?_
            exact ih25 v27 v18 f26 _ _ _ (by omega) (by omega) (fun h => by obtain ⟨h1, h2⟩ := i25_1 h; have h3 : v15.toNatClampNeg = v15.toInt.toNat := rfl; have h4 : v21.toNatClampNeg = v21.toInt.toNat := rfl; exact ⟨by rw [e18, e12, e17, e16, h2 _ (by omega), h1, e11]; rfl, fun j hj => by rw [ef26, pk_un (by omega)]; exact h2 j (by omega)⟩) (fun j => by rw [ef26]; by_cases g : j = v21.toInt.toNat; (· rw [g, show upd gy3 v21.toNatClampNeg v25 v21.toInt.toNat = v25 from pk_us, if_pos (by omega), e25, st_bit (k := k) (n := k.toInt.toNat) (by omega) (by omega) e22 e23 e24, show v21.toInt.toNat - (58 * sd.toInt).toNat = k.toInt.toNat by omega]); (· rw [pk_un (show j ≠ v21.toNatClampNeg from g), i25_2]; (by_cases g2 : 58 * sd.toInt + k.toInt < j ∧ (j : Int) ≤ 58 * sd.toInt + 57; (· rw [if_pos g2, if_pos (by omega)]); (· rw [if_neg g2, if_neg (by omega)])))) (hP.sub [0, 1] rfl) (hD.sub [0, 1] (by decide) rfl) hS (lv_sub hl [2, 3, 4, 1, 0] rfl)
      exact J25 _ v8 v7 gy _ _ _ (Nat.lt_succ_self _) (by omega) (fun h => ⟨e7, fun j _ => h j⟩) (fun j => by rw [if_neg (by omega)]) (hP.sub [0, 1] rfl) (hD.sub [0, 1] (by decide) rfl) hS (lv_sub hl [2, 3, 4, 1, 0] rfl)
    ·
      have z6 := zi_nle c6
      refine lv_ldc2 (v := (-12)) hx hb hown (hts _ wk251) dX7_state_14 ?_
      refine lv_topl (fun v28 e28 => ?_)
      have hq29 : ((sd.toInt < 0 ∨ 1 < sd.toInt) → v28 = -12) ∧ ((0 ≤ sd.toInt ∧ sd.toInt ≤ 1 ∧ ∀ q, gy q = 0) → v28 = 0) ∧ (sd.toInt = 0 → ∀ j, j < 58 → gy j = bi (bl x j)) ∧ (¬ sd.toInt = 0 → ∀ j, j < 58 → gy j = gy j) := (by refine ⟨fun q => ?_, fun q => ?_, fun q j hj => ?_, fun q j hj => ?_⟩ <;> first | assumption | rfl | (exfalso; omega) | exact (i25_1 q.2.2).1 | (rw [i25_2 j, if_pos (by omega), show j - (58 * sd.toInt).toNat = j by omega]) | (rw [i25_2 j, if_neg (by omega)]))
      exact hret v28 (v1, gy) _ _ _ _ dX7_state_17 hq29 (hP.sub [0, 1] rfl) (hD.sub [0, 1] (by decide) rfl) hS

set_option maxHeartbeats 4000000 in
set_option maxRecDepth 100000 in
theorem c_Mo_isData (l : Launch) (D : va_G) (cI cJ cB : ClassId) (x : Int32)  :
    cti l yX7_isData (wsOf yX7_isData cX7_isData 1 (some .boolean)) (rmL 0 0 0 0) D classes (tys3 cI cJ cB) [.int x] [] (fun (r : Int32) (u : Unit) => (r.toInt = 1 ∧ x.toInt < 256) ∨ (r.toInt = 0 ∧ 256 ≤ x.toInt)) (fun u : Unit => ([] : va_W)) := by
  refine ctz.of (by first | exact plainFor_of_name (by decide) | decide +kernel) (Nat.le_of_ble_eq_true rfl) (fun p e s m args below meth c A ls Q h hret => ?_)
  obtain ⟨hx, hb, hml, hown, hts, hnm, hP, hK, hD, hA, hS, hZ, hN, hl⟩ := h
  have hown : s.vm.findClass RX7 = some m.cls := hown
  have hl : lv_has ls 1 [(0, .int x)] := hl
  have hP : va_P D classes [] s.heap := hP
  have hD : va_D A [] := hD
  have rg_x := zi_rg x
  refine lv_iload_n hx hb dX7_isData_0 rfl (lv_at hl 0 rfl) ?_
  refine lv_sipush (v := 256) hx hb dX7_isData_1 (by decide) ?_
  refine lv_topi (fun v1 e1 => ?_)
  have z1 : v1.toInt = 256 := zi_c e1 (by decide)
  refine lv_icmp_ge (tgt := 11) hx hb dX7_isData_4 (by decide) (fun c2 => ?_) (fun c2 => ?_)
  ·
    have z2 := zi_le c2
    refine lv_iconst (v := 0) hx hb dX7_isData_11 (by decide) ?_
    refine lv_topi (fun v3 e3 => ?_)
    have z3 : v3.toInt = 0 := zi_c e3 (by decide)
    have hq4 : (v3.toInt = 1 ∧ x.toInt < 256) ∨ (v3.toInt = 0 ∧ 256 ≤ x.toInt) := (by omega)
    exact hret v3 () _ _ _ _ dX7_isData_12 (zb_n (by omega)) hq4 (hP.sub [] rfl) (hD.sub [] (by decide) rfl) hS
  ·
    have z2 := zi_nle c2
    refine lv_iconst (v := 1) hx hb dX7_isData_7 (by decide) ?_
    refine lv_topi (fun v5 e5 => ?_)
    have z5 : v5.toInt = 1 := zi_c e5 (by decide)
    refine lv_goto (tgt := 12) hx hb dX7_isData_8 (by decide) ?_
    have hq6 : (v5.toInt = 1 ∧ x.toInt < 256) ∨ (v5.toInt = 0 ∧ 256 ≤ x.toInt) := (by omega)
    exact hret v5 () _ _ _ _ dX7_isData_12 (zb_n (by omega)) hq6 (hP.sub [] rfl) (hD.sub [] (by decide) rfl) hS

set_option maxHeartbeats 4000000 in
set_option maxRecDepth 100000 in
theorem c_Mo_isQuiet (l : Launch) (D : va_G) (cI cJ cB : ClassId) (x : Int32)  :
    cti l yX7_isQuiet (wsOf yX7_isQuiet cX7_isQuiet 1 (some .boolean)) (rmL 0 0 0 0) D classes (tys3 cI cJ cB) [.int x] [] (fun (r : Int32) (u : Unit) => (r.toInt = 1 ∧ (x.toInt = 256 ∨ x.toInt = 259)) ∨ (r.toInt = 0 ∧ ¬ (x.toInt = 256 ∨ x.toInt = 259))) (fun u : Unit => ([] : va_W)) := by
  refine ctz.of (by first | exact plainFor_of_name (by decide) | decide +kernel) (Nat.le_of_ble_eq_true rfl) (fun p e s m args below meth c A ls Q h hret => ?_)
  obtain ⟨hx, hb, hml, hown, hts, hnm, hP, hK, hD, hA, hS, hZ, hN, hl⟩ := h
  have hown : s.vm.findClass RX7 = some m.cls := hown
  have hl : lv_has ls 1 [(0, .int x)] := hl
  have hP : va_P D classes [] s.heap := hP
  have hD : va_D A [] := hD
  have rg_x := zi_rg x
  refine lv_iload_n hx hb dX7_isQuiet_0 rfl (lv_at hl 0 rfl) ?_
  refine lv_sipush (v := 256) hx hb dX7_isQuiet_1 (by decide) ?_
  refine lv_topi (fun v1 e1 => ?_)
  have z1 : v1.toInt = 256 := zi_c e1 (by decide)
  refine lv_icmp_eq (tgt := 14) hx hb dX7_isQuiet_4 (by decide) (fun c2 => ?_) (fun c2 => ?_)
  ·
    have z2 := zi_eq c2
    refine lv_iconst (v := 1) hx hb dX7_isQuiet_14 (by decide) ?_
    refine lv_topi (fun v3 e3 => ?_)
    have z3 : v3.toInt = 1 := zi_c e3 (by decide)
    refine lv_goto (tgt := 19) hx hb dX7_isQuiet_15 (by decide) ?_
    have hq4 : (v3.toInt = 1 ∧ (x.toInt = 256 ∨ x.toInt = 259)) ∨ (v3.toInt = 0 ∧ ¬ (x.toInt = 256 ∨ x.toInt = 259)) := (by omega)
    exact hret v3 () _ _ _ _ dX7_isQuiet_19 (zb_n (by omega)) hq4 (hP.sub [] rfl) (hD.sub [] (by decide) rfl) hS
  ·
    have z2 := zi_ne c2
    refine lv_iload_n hx hb dX7_isQuiet_7 rfl (lv_at hl 0 rfl) ?_
    refine lv_sipush (v := 259) hx hb dX7_isQuiet_8 (by decide) ?_
    refine lv_topi (fun v5 e5 => ?_)
    have z5 : v5.toInt = 259 := zi_c e5 (by decide)
    refine lv_icmp_ne (tgt := 18) hx hb dX7_isQuiet_11 (by decide) (fun c6 => ?_) (fun c6 => ?_)
    ·
      have z6 := zi_ne c6
      refine lv_iconst (v := 0) hx hb dX7_isQuiet_18 (by decide) ?_
      refine lv_topi (fun v7 e7 => ?_)
      have z7 : v7.toInt = 0 := zi_c e7 (by decide)
      have hq8 : (v7.toInt = 1 ∧ (x.toInt = 256 ∨ x.toInt = 259)) ∨ (v7.toInt = 0 ∧ ¬ (x.toInt = 256 ∨ x.toInt = 259)) := (by omega)
      exact hret v7 () _ _ _ _ dX7_isQuiet_19 (zb_n (by omega)) hq8 (hP.sub [] rfl) (hD.sub [] (by decide) rfl) hS
    ·
      have z6 := zi_eq c6
      refine lv_iconst (v := 1) hx hb dX7_isQuiet_14 (by decide) ?_
      refine lv_topi (fun v9 e9 => ?_)
      have z9 : v9.toInt = 1 := zi_c e9 (by decide)
      refine lv_goto (tgt := 19) hx hb dX7_isQuiet_15 (by decide) ?_
      have hq10 : (v9.toInt = 1 ∧ (x.toInt = 256 ∨ x.toInt = 259)) ∨ (v9.toInt = 0 ∧ ¬ (x.toInt = 256 ∨ x.toInt = 259)) := (by omega)
      exact hret v9 () _ _ _ _ dX7_isQuiet_19 (zb_n (by omega)) hq10 (hP.sub [] rfl) (hD.sub [] (by decide) rfl) hS

set_option maxHeartbeats 4000000 in
set_option maxRecDepth 100000 in
theorem c_Mo_are (l : Launch) (D : va_G) (cI cJ cB : ClassId) (aM : Nat) (bG : Nat) (bL : Nat) (bY : Nat) (bB : Nat) (bC : Nat) (bT : Nat) (th : Int32) (mw : Int32) (mz : Int32) (tk : Int32) (ss : Int32) (ml : Int32) (mh : Int32) (mp : Int32) (rw : Int32) (wr : Int32) (tc : Int32) (gg : Nat → Int32) (fr : Int32) (to : Int32) (da : Int32) (h1 : 0 ≤ fr.toInt ∧ fr.toInt ≤ 8) (h2 : 0 ≤ to.toInt ∧ to.toInt ≤ 8) (h3 : fr.toInt ≤ to.toInt) :
    cti l yX7_are (wsOf yX7_are cX7_are 6 (some .boolean)) (rmL 1 20 0 0) D classes (tys3 cI cJ cB) [.ref aM, .int fr, .int to, .int da] [(aM, .inr (6, [.int th, .int mw, .ref bG, .int mz, .ref bL, .ref bY, .ref bB, .ref bC, .int tk, .int ss, .int ml, .int mh, .int mp, .int rw, .int wr, .int tc, .ref bT])), (bG, .inl (cI, 8, .inl gg))] (fun (r : Int32) (u : Unit) => (¬ da.toInt = 0 → stD r (aD gg fr.toInt.toNat to.toInt.toNat)) ∧ (da.toInt = 0 → stD r (aQ gg fr.toInt.toNat to.toInt.toNat))) (fun u : Unit => ([(aM, .inr (6, [.int th, .int mw, .ref bG, .int mz, .ref bL, .ref bY, .ref bB, .ref bC, .int tk, .int ss, .int ml, .int mh, .int mp, .int rw, .int wr, .int tc, .ref bT])), (bG, .inl (cI, 8, .inl gg))] : va_W)) := by
  refine ctz.of (by first | exact plainFor_of_name (by decide) | decide +kernel) (Nat.le_of_ble_eq_true rfl) (fun p e s m args below meth c A ls Q h hret => ?_)
  obtain ⟨hx, hb, hml, hown, hts, hnm, hP, hK, hD, hA, hS, hZ, hN, hl⟩ := h
  have hown : s.vm.findClass RX7 = some m.cls := hown
  have hl : lv_has ls 6 [(0, .ref aM), (1, .int fr), (2, .int to), (3, .int da)] := hl
  have hP : va_P D classes [(aM, .inr (6, [.int th, .int mw, .ref bG, .int mz, .ref bL, .ref bY, .ref bB, .ref bC, .int tk, .int ss, .int ml, .int mh, .int mp, .int rw, .int wr, .int tc, .ref bT])), (bG, .inl (cI, 8, .inl gg))] s.heap := hP
  have hD : va_D A [(aM, .inr (6, [.int th, .int mw, .ref bG, .int mz, .ref bL, .ref bY, .ref bB, .ref bC, .int tk, .int ss, .int ml, .int mh, .int mp, .int rw, .int wr, .int tc, .ref bT])), (bG, .inl (cI, 8, .inl gg))] := hD
  have rg_th := zi_rg th
  have rg_mw := zi_rg mw
  have rg_mz := zi_rg mz
  have rg_tk := zi_rg tk
  have rg_ss := zi_rg ss
  have rg_ml := zi_rg ml
  have rg_mh := zi_rg mh
  have rg_mp := zi_rg mp
  have rg_rw := zi_rg rw
  have rg_wr := zi_rg wr
  have rg_tc := zi_rg tc
  have rg_fr := zi_rg fr
  have rg_to := zi_rg to
  have rg_da := zi_rg da
  refine lv_iconst (v := 1) hx hb dX7_are_0 (by decide) ?_
  refine lv_topi (fun v1 e1 => ?_)
  have z1 : v1.toInt = 1 := zi_c e1 (by decide)
  refine lv_istore (lv' := [(4, .int v1), (0, .ref aM), (1, .int fr), (2, .int to), (3, .int da)]) hx hb dX7_are_1 hl (by decide) rfl (fun ls hl => ?_)
  refine lv_iload_n hx hb dX7_are_3 rfl (lv_at hl 2 rfl) ?_
  refine lv_istore (lv' := [(5, .int fr), (4, .int v1), (0, .ref aM), (1, .int fr), (2, .int to), (3, .int da)]) hx hb dX7_are_4 hl (by decide) rfl (fun ls hl => ?_)
  have J6 : ∀ (n : Nat) (al : Int32) (k : Int32) (H : Heap) (locs : List Loc) (ls : Array Slot), ((8 - k.toInt).toNat) < n → (0 ≤ al.toInt ∧ al.toInt ≤ 1) → (0 ≤ k.toInt ∧ k.toInt ≤ 8) → ((¬ da.toInt = 0 → stD al (aD gg fr.toInt.toNat k.toInt.toNat)) ∧ (da.toInt = 0 → stD al (aQ gg fr.toInt.toNat k.toInt.toNat))) → (fr.toInt ≤ k.toInt ∧ k.toInt ≤ to.toInt) → va_P D classes [(aM, .inr (6, [.int th, .int mw, .ref bG, .int mz, .ref bL, .ref bY, .ref bB, .ref bC, .int tk, .int ss, .int ml, .int mh, .int mp, .int rw, .int wr, .int tc, .ref bT])), (bG, .inl (cI, 8, .inl gg))] H → va_D A [(aM, .inr (6, [.int th, .int mw, .ref bG, .int mz, .ref bL, .ref bY, .ref bB, .ref bC, .int tk, .int ss, .int ml, .int mh, .int mp, .int rw, .int wr, .int tc, .ref bT])), (bG, .inl (cI, 8, .inl gg))] → va_S A s.heap H locs → lv_has ls 6 [(0, .ref aM), (1, .int fr), (2, .int to), (3, .int da), (4, .int al), (5, .int k)] → W p l e (rmL 1 20 0 0) s m args below meth c H locs 0 0 Q (F0 m 6 ls []) := by
    intro n
    induction n with
    | zero => intro al k H locs ls hmu; exact absurd hmu (Nat.not_lt_zero _)
    | succ n ih6 =>
      intro al k H locs ls hmu6 i6_0 i6_1 i6_2 i6_3 hP hD hS hl
      have rg_al := zi_rg al
      have rg_k := zi_rg k
      refine lv_iload hx hb dX7_are_6 (lv_at hl 5 rfl) ?_
      refine lv_iload_n hx hb dX7_are_8 rfl (lv_at hl 2 rfl) ?_
      refine lv_icmp_ge (tgt := 63) hx hb dX7_are_9 (by decide) (fun c2 => ?_) (fun c2 => ?_)
      ·
        have z2 := zi_le c2
        refine lv_iload hx hb dX7_are_63 (lv_at hl 4 rfl) ?_
        have hq3 : (¬ da.toInt = 0 → stD al (aD gg fr.toInt.toNat to.toInt.toNat)) ∧ (da.toInt = 0 → stD al (aQ gg fr.toInt.toNat to.toInt.toNat)) := (by rw [show to.toInt.toNat = k.toInt.toNat by omega]; exact i6_2)
        exact hret al () _ _ _ _ dX7_are_65 (zb_n (by omega)) hq3 (hP.sub [0, 1] rfl) (hD.sub [0, 1] (by decide) rfl) hS
      ·
        have z2 := zi_nle c2
        refine lv_iload hx hb dX7_are_12 (lv_at hl 4 rfl) ?_
        refine lv_if_eq (tgt := 54) hx hb dX7_are_14 (by decide) (fun c4 => ?_) (fun c4 => ?_)
        ·
          have z4 := zi_eq0 c4
          refine lv_iconst (v := 0) hx hb dX7_are_54 (by decide) ?_
          refine lv_topi (fun v5 e5 => ?_)
          have z5 : v5.toInt = 0 := zi_c e5 (by decide)
          refine lv_istore (lv' := [(4, .int v5), (0, .ref aM), (1, .int fr), (2, .int to), (3, .int da), (5, .int k)]) hx hb dX7_are_55 hl (by decide) rfl (fun ls hl => ?_)
          obtain ⟨v6, e6⟩ : ∃ y : Int32, y = k + 1 := ⟨_, rfl⟩
          first | have z6 := zi_inc (z := 1) 1 (by decide) e6 (by omega) | skip
          refine lv_iinc (v := v6) (lv' := [(5, .int v6), (4, .int v5), (0, .ref aM), (1, .int fr), (2, .int to), (3, .int da)]) hx hb dX7_are_57 hl (k := 5) rfl (by rw [e6]; rfl) (by decide) rfl (fun ls hl => ?_)
          refine lv_goto (tgt := 6) hx hb dX7_are_60 (by decide) ?_
          exact ih6 v5 v6 _ _ _ (by omega) (by omega) (by omega) (by first | exact (by rw [show v6.toInt.toNat = k.toInt.toNat + 1 by omega]; exact ⟨fun q => stF (i6_2.1 q) z4 z5 (fun p q a b => p q a (by omega)), fun q => stF (i6_2.2 q) z4 z5 (fun p q a b => p q a (by omega))⟩) | exact (by rw [show v12.toInt.toNat = k.toInt.toNat + 1 by omega]; exact ⟨fun q => absurd z7 q, fun q => stX z11 (fun p => by have g := p k.toInt.toNat (by omega) (by omega); rw [show gg k.toInt.toNat = v8 from e8.symm] at g; omega)⟩) | exact (by rw [show v14.toInt.toNat = k.toInt.toNat + 1 by omega]; exact ⟨fun q => absurd z7 q, fun q => stT (i6_2.2 q) z4 z13 (aQ_s (by rw [show gg k.toInt.toNat = v8 from e8.symm]; omega))⟩) | exact (by rw [show v19.toInt.toNat = k.toInt.toNat + 1 by omega]; exact ⟨fun q => stX z18 (fun p => by have g := p k.toInt.toNat (by omega) (by omega); rw [show gg k.toInt.toNat = v15 from e15.symm] at g; omega), fun q => absurd q z7⟩) | exact (by rw [show v21.toInt.toNat = k.toInt.toNat + 1 by omega]; exact ⟨fun q => stT (i6_2.1 q) z4 z20 (aD_s (by rw [show gg k.toInt.toNat = v15 from e15.symm]; omega)), fun q => absurd q z7⟩)) (by omega) (hP.sub [0, 1] rfl) (hD.sub [0, 1] (by decide) rfl) hS (lv_sub hl [2, 3, 4, 5, 1, 0] rfl)
        ·
          have z4 := zi_ne0 c4
          refine lv_iload_n hx hb dX7_are_17 rfl (lv_at hl 3 rfl) ?_
          refine lv_if_eq (tgt := 37) hx hb dX7_are_18 (by decide) (fun c7 => ?_) (fun c7 => ?_)
          ·
            have z7 := zi_eq0 c7
            refine lv_aload_n hx hb dX7_are_37 rfl (lv_at hl 0 rfl) ?_
            refine va_get (D := D) (ci := 6) (v := .ref bG) (C := RX7) (T := TX7) (N := 17) hx hb hts in_X7 hown hK hP 0 rfl rfl 2 (by decide) (hts _ wk60) (fun _ h9 => h9) rfl dX7_are_38 ?_
            refine lv_iload hx hb dX7_are_41 (lv_at hl 5 rfl) ?_
            refine va_iald hx hb hK hP 1 0 rfl rfl (zi_in (by omega)) dX7_are_43 ?_
            refine lv_topi (fun v8 e8 => ?_)
            refine call_i (wc := []) (wr := [(aM, .inr (6, [.int th, .int mw, .ref bG, .int mz, .ref bL, .ref bY, .ref bB, .ref bC, .int tk, .int ss, .int ml, .int mh, .int mp, .int rw, .int wr, .int tc, .ref bT])), (bG, .inl (cI, 8, .inl gg))]) (run_S (As := [.int v8]) (rest := []) ks_RX7_44 ⟨by decide, by decide⟩ ⟨rfl, rfl⟩ ⟨hx, hb, hml, hown, hts⟩ (c_Mo_isQuiet l D cI cJ cB v8  _) ct_blind (ct_pre (wc := []) hK hP hD hS hA hZ hN [] (by decide) rfl rfl) rfl hl.1 rfl (Nat.le_of_ble_eq_true rfl) dX7_are_44 ⟨Nat.le_of_ble_eq_true rfl, Nat.le_of_ble_eq_true rfl⟩) hP hD hS hA [] [0, 1] rfl rfl (by decide) (by decide) (fun r9 u H locs hw9 hP1 hD1 hS1 => ?_)
            have hw9 : (r9.toInt = 1 ∧ (v8.toInt = 256 ∨ v8.toInt = 259)) ∨ (r9.toInt = 0 ∧ ¬ (v8.toInt = 256 ∨ v8.toInt = 259)) := hw9
            clear hP hD hS
            have hP : va_P D classes [(aM, .inr (6, [.int th, .int mw, .ref bG, .int mz, .ref bL, .ref bY, .ref bB, .ref bC, .int tk, .int ss, .int ml, .int mh, .int mp, .int rw, .int wr, .int tc, .ref bT])), (bG, .inl (cI, 8, .inl gg))] H := hP1
            have hD : va_D A [(aM, .inr (6, [.int th, .int mw, .ref bG, .int mz, .ref bL, .ref bY, .ref bB, .ref bC, .int tk, .int ss, .int ml, .int mh, .int mp, .int rw, .int wr, .int tc, .ref bT])), (bG, .inl (cI, 8, .inl gg))] := hD1
            have hS := hS1
            clear hP1 hD1 hS1
            have rg_r9 := zi_rg r9
            refine lv_if_eq (tgt := 54) hx hb dX7_are_47 (by decide) (fun c10 => ?_) (fun c10 => ?_)
            ·
              have z10 := zi_eq0 c10
              refine lv_iconst (v := 0) hx hb dX7_are_54 (by decide) ?_
              refine lv_topi (fun v11 e11 => ?_)
              have z11 : v11.toInt = 0 := zi_c e11 (by decide)
              refine lv_istore (lv' := [(4, .int v11), (0, .ref aM), (1, .int fr), (2, .int to), (3, .int da), (5, .int k)]) hx hb dX7_are_55 hl (by decide) rfl (fun ls hl => ?_)
              obtain ⟨v12, e12⟩ : ∃ y : Int32, y = k + 1 := ⟨_, rfl⟩
              first | have z12 := zi_inc (z := 1) 1 (by decide) e12 (by omega) | skip
              refine lv_iinc (v := v12) (lv' := [(5, .int v12), (4, .int v11), (0, .ref aM), (1, .int fr), (2, .int to), (3, .int da)]) hx hb dX7_are_57 hl (k := 5) rfl (by rw [e12]; rfl) (by decide) rfl (fun ls hl => ?_)
              refine lv_goto (tgt := 6) hx hb dX7_are_60 (by decide) ?_
              exact ih6 v11 v12 _ _ _ (by omega) (by omega) (by omega) (by first | exact (by rw [show v6.toInt.toNat = k.toInt.toNat + 1 by omega]; exact ⟨fun q => stF (i6_2.1 q) z4 z5 (fun p q a b => p q a (by omega)), fun q => stF (i6_2.2 q) z4 z5 (fun p q a b => p q a (by omega))⟩) | exact (by rw [show v12.toInt.toNat = k.toInt.toNat + 1 by omega]; exact ⟨fun q => absurd z7 q, fun q => stX z11 (fun p => by have g := p k.toInt.toNat (by omega) (by omega); rw [show gg k.toInt.toNat = v8 from e8.symm] at g; omega)⟩) | exact (by rw [show v14.toInt.toNat = k.toInt.toNat + 1 by omega]; exact ⟨fun q => absurd z7 q, fun q => stT (i6_2.2 q) z4 z13 (aQ_s (by rw [show gg k.toInt.toNat = v8 from e8.symm]; omega))⟩) | exact (by rw [show v19.toInt.toNat = k.toInt.toNat + 1 by omega]; exact ⟨fun q => stX z18 (fun p => by have g := p k.toInt.toNat (by omega) (by omega); rw [show gg k.toInt.toNat = v15 from e15.symm] at g; omega), fun q => absurd q z7⟩) | exact (by rw [show v21.toInt.toNat = k.toInt.toNat + 1 by omega]; exact ⟨fun q => stT (i6_2.1 q) z4 z20 (aD_s (by rw [show gg k.toInt.toNat = v15 from e15.symm]; omega)), fun q => absurd q z7⟩)) (by omega) (hP.sub [0, 1] rfl) (hD.sub [0, 1] (by decide) rfl) hS (lv_sub hl [2, 3, 4, 5, 1, 0] rfl)
            ·
              have z10 := zi_ne0 c10
              refine lv_iconst (v := 1) hx hb dX7_are_50 (by decide) ?_
              refine lv_topi (fun v13 e13 => ?_)
              have z13 : v13.toInt = 1 := zi_c e13 (by decide)
              refine lv_goto (tgt := 55) hx hb dX7_are_51 (by decide) ?_
              refine lv_istore (lv' := [(4, .int v13), (0, .ref aM), (1, .int fr), (2, .int to), (3, .int da), (5, .int k)]) hx hb dX7_are_55 hl (by decide) rfl (fun ls hl => ?_)
              obtain ⟨v14, e14⟩ : ∃ y : Int32, y = k + 1 := ⟨_, rfl⟩
              first | have z14 := zi_inc (z := 1) 1 (by decide) e14 (by omega) | skip
              refine lv_iinc (v := v14) (lv' := [(5, .int v14), (4, .int v13), (0, .ref aM), (1, .int fr), (2, .int to), (3, .int da)]) hx hb dX7_are_57 hl (k := 5) rfl (by rw [e14]; rfl) (by decide) rfl (fun ls hl => ?_)
              refine lv_goto (tgt := 6) hx hb dX7_are_60 (by decide) ?_
              exact ih6 v13 v14 _ _ _ (by omega) (by omega) (by omega) (by first | exact (by rw [show v6.toInt.toNat = k.toInt.toNat + 1 by omega]; exact ⟨fun q => stF (i6_2.1 q) z4 z5 (fun p q a b => p q a (by omega)), fun q => stF (i6_2.2 q) z4 z5 (fun p q a b => p q a (by omega))⟩) | exact (by rw [show v12.toInt.toNat = k.toInt.toNat + 1 by omega]; exact ⟨fun q => absurd z7 q, fun q => stX z11 (fun p => by have g := p k.toInt.toNat (by omega) (by omega); rw [show gg k.toInt.toNat = v8 from e8.symm] at g; omega)⟩) | exact (by rw [show v14.toInt.toNat = k.toInt.toNat + 1 by omega]; exact ⟨fun q => absurd z7 q, fun q => stT (i6_2.2 q) z4 z13 (aQ_s (by rw [show gg k.toInt.toNat = v8 from e8.symm]; omega))⟩) | exact (by rw [show v19.toInt.toNat = k.toInt.toNat + 1 by omega]; exact ⟨fun q => stX z18 (fun p => by have g := p k.toInt.toNat (by omega) (by omega); rw [show gg k.toInt.toNat = v15 from e15.symm] at g; omega), fun q => absurd q z7⟩) | exact (by rw [show v21.toInt.toNat = k.toInt.toNat + 1 by omega]; exact ⟨fun q => stT (i6_2.1 q) z4 z20 (aD_s (by rw [show gg k.toInt.toNat = v15 from e15.symm]; omega)), fun q => absurd q z7⟩)) (by omega) (hP.sub [0, 1] rfl) (hD.sub [0, 1] (by decide) rfl) hS (lv_sub hl [2, 3, 4, 5, 1, 0] rfl)
          ·
            have z7 := zi_ne0 c7
            refine lv_aload_n hx hb dX7_are_21 rfl (lv_at hl 0 rfl) ?_
            refine va_get (D := D) (ci := 6) (v := .ref bG) (C := RX7) (T := TX7) (N := 17) hx hb hts in_X7 hown hK hP 0 rfl rfl 2 (by decide) (hts _ wk60) (fun _ h9 => h9) rfl dX7_are_22 ?_
            refine lv_iload hx hb dX7_are_25 (lv_at hl 5 rfl) ?_
            refine va_iald hx hb hK hP 1 0 rfl rfl (zi_in (by omega)) dX7_are_27 ?_
            refine lv_topi (fun v15 e15 => ?_)
            refine call_i (wc := []) (wr := [(aM, .inr (6, [.int th, .int mw, .ref bG, .int mz, .ref bL, .ref bY, .ref bB, .ref bC, .int tk, .int ss, .int ml, .int mh, .int mp, .int rw, .int wr, .int tc, .ref bT])), (bG, .inl (cI, 8, .inl gg))]) (run_S (As := [.int v15]) (rest := []) ks_RX7_40 ⟨by decide, by decide⟩ ⟨rfl, rfl⟩ ⟨hx, hb, hml, hown, hts⟩ (c_Mo_isData l D cI cJ cB v15  _) ct_blind (ct_pre (wc := []) hK hP hD hS hA hZ hN [] (by decide) rfl rfl) rfl hl.1 rfl (Nat.le_of_ble_eq_true rfl) dX7_are_28 ⟨Nat.le_of_ble_eq_true rfl, Nat.le_of_ble_eq_true rfl⟩) hP hD hS hA [] [0, 1] rfl rfl (by decide) (by decide) (fun r16 u H locs hw16 hP1 hD1 hS1 => ?_)
            have hw16 : (r16.toInt = 1 ∧ v15.toInt < 256) ∨ (r16.toInt = 0 ∧ 256 ≤ v15.toInt) := hw16
            clear hP hD hS
            have hP : va_P D classes [(aM, .inr (6, [.int th, .int mw, .ref bG, .int mz, .ref bL, .ref bY, .ref bB, .ref bC, .int tk, .int ss, .int ml, .int mh, .int mp, .int rw, .int wr, .int tc, .ref bT])), (bG, .inl (cI, 8, .inl gg))] H := hP1
            have hD : va_D A [(aM, .inr (6, [.int th, .int mw, .ref bG, .int mz, .ref bL, .ref bY, .ref bB, .ref bC, .int tk, .int ss, .int ml, .int mh, .int mp, .int rw, .int wr, .int tc, .ref bT])), (bG, .inl (cI, 8, .inl gg))] := hD1
            have hS := hS1
            clear hP1 hD1 hS1
            have rg_r16 := zi_rg r16
            refine lv_if_eq (tgt := 54) hx hb dX7_are_31 (by decide) (fun c17 => ?_) (fun c17 => ?_)
            ·
              have z17 := zi_eq0 c17
              refine lv_iconst (v := 0) hx hb dX7_are_54 (by decide) ?_
              refine lv_topi (fun v18 e18 => ?_)
              have z18 : v18.toInt = 0 := zi_c e18 (by decide)
              refine lv_istore (lv' := [(4, .int v18), (0, .ref aM), (1, .int fr), (2, .int to), (3, .int da), (5, .int k)]) hx hb dX7_are_55 hl (by decide) rfl (fun ls hl => ?_)
              obtain ⟨v19, e19⟩ : ∃ y : Int32, y = k + 1 := ⟨_, rfl⟩
              first | have z19 := zi_inc (z := 1) 1 (by decide) e19 (by omega) | skip
              refine lv_iinc (v := v19) (lv' := [(5, .int v19), (4, .int v18), (0, .ref aM), (1, .int fr), (2, .int to), (3, .int da)]) hx hb dX7_are_57 hl (k := 5) rfl (by rw [e19]; rfl) (by decide) rfl (fun ls hl => ?_)
              refine lv_goto (tgt := 6) hx hb dX7_are_60 (by decide) ?_
              exact ih6 v18 v19 _ _ _ (by omega) (by omega) (by omega) (by first | exact (by rw [show v6.toInt.toNat = k.toInt.toNat + 1 by omega]; exact ⟨fun q => stF (i6_2.1 q) z4 z5 (fun p q a b => p q a (by omega)), fun q => stF (i6_2.2 q) z4 z5 (fun p q a b => p q a (by omega))⟩) | exact (by rw [show v12.toInt.toNat = k.toInt.toNat + 1 by omega]; exact ⟨fun q => absurd z7 q, fun q => stX z11 (fun p => by have g := p k.toInt.toNat (by omega) (by omega); rw [show gg k.toInt.toNat = v8 from e8.symm] at g; omega)⟩) | exact (by rw [show v14.toInt.toNat = k.toInt.toNat + 1 by omega]; exact ⟨fun q => absurd z7 q, fun q => stT (i6_2.2 q) z4 z13 (aQ_s (by rw [show gg k.toInt.toNat = v8 from e8.symm]; omega))⟩) | exact (by rw [show v19.toInt.toNat = k.toInt.toNat + 1 by omega]; exact ⟨fun q => stX z18 (fun p => by have g := p k.toInt.toNat (by omega) (by omega); rw [show gg k.toInt.toNat = v15 from e15.symm] at g; omega), fun q => absurd q z7⟩) | exact (by rw [show v21.toInt.toNat = k.toInt.toNat + 1 by omega]; exact ⟨fun q => stT (i6_2.1 q) z4 z20 (aD_s (by rw [show gg k.toInt.toNat = v15 from e15.symm]; omega)), fun q => absurd q z7⟩)) (by omega) (hP.sub [0, 1] rfl) (hD.sub [0, 1] (by decide) rfl) hS (lv_sub hl [2, 3, 4, 5, 1, 0] rfl)
            ·
              have z17 := zi_ne0 c17
              refine lv_goto (tgt := 50) hx hb dX7_are_34 (by decide) ?_
              refine lv_iconst (v := 1) hx hb dX7_are_50 (by decide) ?_
              refine lv_topi (fun v20 e20 => ?_)
              have z20 : v20.toInt = 1 := zi_c e20 (by decide)
              refine lv_goto (tgt := 55) hx hb dX7_are_51 (by decide) ?_
              refine lv_istore (lv' := [(4, .int v20), (0, .ref aM), (1, .int fr), (2, .int to), (3, .int da), (5, .int k)]) hx hb dX7_are_55 hl (by decide) rfl (fun ls hl => ?_)
              obtain ⟨v21, e21⟩ : ∃ y : Int32, y = k + 1 := ⟨_, rfl⟩
              first | have z21 := zi_inc (z := 1) 1 (by decide) e21 (by omega) | skip
              refine lv_iinc (v := v21) (lv' := [(5, .int v21), (4, .int v20), (0, .ref aM), (1, .int fr), (2, .int to), (3, .int da)]) hx hb dX7_are_57 hl (k := 5) rfl (by rw [e21]; rfl) (by decide) rfl (fun ls hl => ?_)
              refine lv_goto (tgt := 6) hx hb dX7_are_60 (by decide) ?_
              exact ih6 v20 v21 _ _ _ (by omega) (by omega) (by omega) (by first | exact (by rw [show v6.toInt.toNat = k.toInt.toNat + 1 by omega]; exact ⟨fun q => stF (i6_2.1 q) z4 z5 (fun p q a b => p q a (by omega)), fun q => stF (i6_2.2 q) z4 z5 (fun p q a b => p q a (by omega))⟩) | exact (by rw [show v12.toInt.toNat = k.toInt.toNat + 1 by omega]; exact ⟨fun q => absurd z7 q, fun q => stX z11 (fun p => by have g := p k.toInt.toNat (by omega) (by omega); rw [show gg k.toInt.toNat = v8 from e8.symm] at g; omega)⟩) | exact (by rw [show v14.toInt.toNat = k.toInt.toNat + 1 by omega]; exact ⟨fun q => absurd z7 q, fun q => stT (i6_2.2 q) z4 z13 (aQ_s (by rw [show gg k.toInt.toNat = v8 from e8.symm]; omega))⟩) | exact (by rw [show v19.toInt.toNat = k.toInt.toNat + 1 by omega]; exact ⟨fun q => stX z18 (fun p => by have g := p k.toInt.toNat (by omega) (by omega); rw [show gg k.toInt.toNat = v15 from e15.symm] at g; omega), fun q => absurd q z7⟩) | exact (by rw [show v21.toInt.toNat = k.toInt.toNat + 1 by omega]; exact ⟨fun q => stT (i6_2.1 q) z4 z20 (aD_s (by rw [show gg k.toInt.toNat = v15 from e15.symm]; omega)), fun q => absurd q z7⟩)) (by omega) (hP.sub [0, 1] rfl) (hD.sub [0, 1] (by decide) rfl) hS (lv_sub hl [2, 3, 4, 5, 1, 0] rfl)
  exact J6 _ v1 fr _ _ _ (Nat.lt_succ_self _) (by omega) (by omega) ⟨fun _ => Or.inl ⟨z1, fun q a b => absurd b (by omega)⟩, fun _ => Or.inl ⟨z1, fun q a b => absurd b (by omega)⟩⟩ (by omega) (hP.sub [0, 1] rfl) (hD.sub [0, 1] (by decide) rfl) hS (lv_sub hl [2, 3, 4, 5, 1, 0] rfl)

set_option maxHeartbeats 4000000 in
set_option maxRecDepth 100000 in
theorem c_Mo_typeOf (l : Launch) (D : va_G) (cI cJ cB : ClassId) (x : Int32) (h1 : 0 ≤ x.toInt ∧ x.toInt < 8) :
    cti l yX7_typeOf (wsOf yX7_typeOf cX7_typeOf 1 (some .int)) (rmL 0 0 0 0) D classes (tys3 cI cJ cB) [.int x] [] (fun (r : Int32) (u : Unit) => r = st_k x.toInt.toNat) (fun u : Unit => ([] : va_W)) := by
  refine cti.of (by first | exact plainFor_of_name (by decide) | decide +kernel) (Nat.le_of_ble_eq_true rfl) (fun p e s m args below meth c A ls Q h hret => ?_)
  obtain ⟨hx, hb, hml, hown, hts, hnm, hP, hK, hD, hA, hS, hZ, hN, hl⟩ := h
  have hown : s.vm.findClass RX7 = some m.cls := hown
  have hl : lv_has ls 1 [(0, .int x)] := hl
  have hP : va_P D classes [] s.heap := hP
  have hD : va_D A [] := hD
  have rg_x := zi_rg x
  refine lv_iload_n hx hb dX7_typeOf_0 rfl (lv_at hl 0 rfl) ?_
  refine lv_if_ne (tgt := 10) hx hb dX7_typeOf_1 (by decide) (fun c1 => ?_) (fun c1 => ?_)
  ·
    have z1 := zi_ne0 c1
    refine lv_iload_n hx hb dX7_typeOf_10 rfl (lv_at hl 0 rfl) ?_
    refine lv_iconst (v := 1) hx hb dX7_typeOf_11 (by decide) ?_
    refine lv_topi (fun v2 e2 => ?_)
    have z2 : v2.toInt = 1 := zi_c e2 (by decide)
    refine lv_icmp_ne (tgt := 21) hx hb dX7_typeOf_12 (by decide) (fun c3 => ?_) (fun c3 => ?_)
    ·
      have z3 := zi_ne c3
      refine lv_iload_n hx hb dX7_typeOf_21 rfl (lv_at hl 0 rfl) ?_
      refine lv_iconst (v := 2) hx hb dX7_typeOf_22 (by decide) ?_
      refine lv_topi (fun v4 e4 => ?_)
      have z4 : v4.toInt = 2 := zi_c e4 (by decide)
      refine lv_icmp_ne (tgt := 32) hx hb dX7_typeOf_23 (by decide) (fun c5 => ?_) (fun c5 => ?_)
      ·
        have z5 := zi_ne c5
        refine lv_iload_n hx hb dX7_typeOf_32 rfl (lv_at hl 0 rfl) ?_
        refine lv_iconst (v := 3) hx hb dX7_typeOf_33 (by decide) ?_
        refine lv_topi (fun v6 e6 => ?_)
        have z6 : v6.toInt = 3 := zi_c e6 (by decide)
        refine lv_icmp_ne (tgt := 43) hx hb dX7_typeOf_34 (by decide) (fun c7 => ?_) (fun c7 => ?_)
        ·
          have z7 := zi_ne c7
          refine lv_iload_n hx hb dX7_typeOf_43 rfl (lv_at hl 0 rfl) ?_
          refine lv_iconst (v := 4) hx hb dX7_typeOf_44 (by decide) ?_
          refine lv_topi (fun v8 e8 => ?_)
          have z8 : v8.toInt = 4 := zi_c e8 (by decide)
          refine lv_icmp_ne (tgt := 54) hx hb dX7_typeOf_45 (by decide) (fun c9 => ?_) (fun c9 => ?_)
          ·
            have z9 := zi_ne c9
            refine lv_iload_n hx hb dX7_typeOf_54 rfl (lv_at hl 0 rfl) ?_
            refine lv_iconst (v := 5) hx hb dX7_typeOf_55 (by decide) ?_
            refine lv_topi (fun v10 e10 => ?_)
            have z10 : v10.toInt = 5 := zi_c e10 (by decide)
            refine lv_icmp_ne (tgt := 65) hx hb dX7_typeOf_56 (by decide) (fun c11 => ?_) (fun c11 => ?_)
            ·
              have z11 := zi_ne c11
              refine lv_iload_n hx hb dX7_typeOf_65 rfl (lv_at hl 0 rfl) ?_
              refine lv_bipush (v := 6) hx hb dX7_typeOf_66 (by decide) ?_
              refine lv_topi (fun v12 e12 => ?_)
              have z12 : v12.toInt = 6 := zi_c e12 (by decide)
              refine lv_icmp_ne (tgt := 77) hx hb dX7_typeOf_68 (by decide) (fun c13 => ?_) (fun c13 => ?_)
              ·
                have z13 := zi_ne c13
                refine lv_sipush (v := 255) hx hb dX7_typeOf_77 (by decide) ?_
                refine lv_topi (fun v14 e14 => ?_)
                have z14 : v14.toInt = 255 := zi_c e14 (by decide)
                have hq15 : v14 = st_k x.toInt.toNat := (by first | (rw [show x.toInt.toNat = 0 by omega]; exact i_of (z := 135) (by omega) (by decide)) | (rw [show x.toInt.toNat = 1 by omega]; exact i_of (z := 153) (by omega) (by decide)) | (rw [show x.toInt.toNat = 2 by omega]; exact i_of (z := 170) (by omega) (by decide)) | (rw [show x.toInt.toNat = 3 by omega]; exact i_of (z := 180) (by omega) (by decide)) | (rw [show x.toInt.toNat = 4 by omega]; exact i_of (z := 204) (by omega) (by decide)) | (rw [show x.toInt.toNat = 5 by omega]; exact i_of (z := 210) (by omega) (by decide)) | (rw [show x.toInt.toNat = 6 by omega]; exact i_of (z := 225) (by omega) (by decide)) | (rw [show x.toInt.toNat = 7 by omega]; exact i_of (z := 255) (by omega) (by decide)))
                exact hret v14 () _ _ _ _ dX7_typeOf_80 hq15 (hP.sub [] rfl) (hD.sub [] (by decide) rfl) hS
              ·
                have z13 := zi_eq c13
                refine lv_sipush (v := 225) hx hb dX7_typeOf_71 (by decide) ?_
                refine lv_topi (fun v16 e16 => ?_)
                have z16 : v16.toInt = 225 := zi_c e16 (by decide)
                refine lv_goto (tgt := 80) hx hb dX7_typeOf_74 (by decide) ?_
                have hq17 : v16 = st_k x.toInt.toNat := (by first | (rw [show x.toInt.toNat = 0 by omega]; exact i_of (z := 135) (by omega) (by decide)) | (rw [show x.toInt.toNat = 1 by omega]; exact i_of (z := 153) (by omega) (by decide)) | (rw [show x.toInt.toNat = 2 by omega]; exact i_of (z := 170) (by omega) (by decide)) | (rw [show x.toInt.toNat = 3 by omega]; exact i_of (z := 180) (by omega) (by decide)) | (rw [show x.toInt.toNat = 4 by omega]; exact i_of (z := 204) (by omega) (by decide)) | (rw [show x.toInt.toNat = 5 by omega]; exact i_of (z := 210) (by omega) (by decide)) | (rw [show x.toInt.toNat = 6 by omega]; exact i_of (z := 225) (by omega) (by decide)) | (rw [show x.toInt.toNat = 7 by omega]; exact i_of (z := 255) (by omega) (by decide)))
                exact hret v16 () _ _ _ _ dX7_typeOf_80 hq17 (hP.sub [] rfl) (hD.sub [] (by decide) rfl) hS
            ·
              have z11 := zi_eq c11
              refine lv_sipush (v := 210) hx hb dX7_typeOf_59 (by decide) ?_
              refine lv_topi (fun v18 e18 => ?_)
              have z18 : v18.toInt = 210 := zi_c e18 (by decide)
              refine lv_goto (tgt := 80) hx hb dX7_typeOf_62 (by decide) ?_
              have hq19 : v18 = st_k x.toInt.toNat := (by first | (rw [show x.toInt.toNat = 0 by omega]; exact i_of (z := 135) (by omega) (by decide)) | (rw [show x.toInt.toNat = 1 by omega]; exact i_of (z := 153) (by omega) (by decide)) | (rw [show x.toInt.toNat = 2 by omega]; exact i_of (z := 170) (by omega) (by decide)) | (rw [show x.toInt.toNat = 3 by omega]; exact i_of (z := 180) (by omega) (by decide)) | (rw [show x.toInt.toNat = 4 by omega]; exact i_of (z := 204) (by omega) (by decide)) | (rw [show x.toInt.toNat = 5 by omega]; exact i_of (z := 210) (by omega) (by decide)) | (rw [show x.toInt.toNat = 6 by omega]; exact i_of (z := 225) (by omega) (by decide)) | (rw [show x.toInt.toNat = 7 by omega]; exact i_of (z := 255) (by omega) (by decide)))
              exact hret v18 () _ _ _ _ dX7_typeOf_80 hq19 (hP.sub [] rfl) (hD.sub [] (by decide) rfl) hS
          ·
            have z9 := zi_eq c9
            refine lv_sipush (v := 204) hx hb dX7_typeOf_48 (by decide) ?_
            refine lv_topi (fun v20 e20 => ?_)
            have z20 : v20.toInt = 204 := zi_c e20 (by decide)
            refine lv_goto (tgt := 80) hx hb dX7_typeOf_51 (by decide) ?_
            have hq21 : v20 = st_k x.toInt.toNat := (by first | (rw [show x.toInt.toNat = 0 by omega]; exact i_of (z := 135) (by omega) (by decide)) | (rw [show x.toInt.toNat = 1 by omega]; exact i_of (z := 153) (by omega) (by decide)) | (rw [show x.toInt.toNat = 2 by omega]; exact i_of (z := 170) (by omega) (by decide)) | (rw [show x.toInt.toNat = 3 by omega]; exact i_of (z := 180) (by omega) (by decide)) | (rw [show x.toInt.toNat = 4 by omega]; exact i_of (z := 204) (by omega) (by decide)) | (rw [show x.toInt.toNat = 5 by omega]; exact i_of (z := 210) (by omega) (by decide)) | (rw [show x.toInt.toNat = 6 by omega]; exact i_of (z := 225) (by omega) (by decide)) | (rw [show x.toInt.toNat = 7 by omega]; exact i_of (z := 255) (by omega) (by decide)))
            exact hret v20 () _ _ _ _ dX7_typeOf_80 hq21 (hP.sub [] rfl) (hD.sub [] (by decide) rfl) hS
        ·
          have z7 := zi_eq c7
          refine lv_sipush (v := 180) hx hb dX7_typeOf_37 (by decide) ?_
          refine lv_topi (fun v22 e22 => ?_)
          have z22 : v22.toInt = 180 := zi_c e22 (by decide)
          refine lv_goto (tgt := 80) hx hb dX7_typeOf_40 (by decide) ?_
          have hq23 : v22 = st_k x.toInt.toNat := (by first | (rw [show x.toInt.toNat = 0 by omega]; exact i_of (z := 135) (by omega) (by decide)) | (rw [show x.toInt.toNat = 1 by omega]; exact i_of (z := 153) (by omega) (by decide)) | (rw [show x.toInt.toNat = 2 by omega]; exact i_of (z := 170) (by omega) (by decide)) | (rw [show x.toInt.toNat = 3 by omega]; exact i_of (z := 180) (by omega) (by decide)) | (rw [show x.toInt.toNat = 4 by omega]; exact i_of (z := 204) (by omega) (by decide)) | (rw [show x.toInt.toNat = 5 by omega]; exact i_of (z := 210) (by omega) (by decide)) | (rw [show x.toInt.toNat = 6 by omega]; exact i_of (z := 225) (by omega) (by decide)) | (rw [show x.toInt.toNat = 7 by omega]; exact i_of (z := 255) (by omega) (by decide)))
          exact hret v22 () _ _ _ _ dX7_typeOf_80 hq23 (hP.sub [] rfl) (hD.sub [] (by decide) rfl) hS
      ·
        have z5 := zi_eq c5
        refine lv_sipush (v := 170) hx hb dX7_typeOf_26 (by decide) ?_
        refine lv_topi (fun v24 e24 => ?_)
        have z24 : v24.toInt = 170 := zi_c e24 (by decide)
        refine lv_goto (tgt := 80) hx hb dX7_typeOf_29 (by decide) ?_
        have hq25 : v24 = st_k x.toInt.toNat := (by first | (rw [show x.toInt.toNat = 0 by omega]; exact i_of (z := 135) (by omega) (by decide)) | (rw [show x.toInt.toNat = 1 by omega]; exact i_of (z := 153) (by omega) (by decide)) | (rw [show x.toInt.toNat = 2 by omega]; exact i_of (z := 170) (by omega) (by decide)) | (rw [show x.toInt.toNat = 3 by omega]; exact i_of (z := 180) (by omega) (by decide)) | (rw [show x.toInt.toNat = 4 by omega]; exact i_of (z := 204) (by omega) (by decide)) | (rw [show x.toInt.toNat = 5 by omega]; exact i_of (z := 210) (by omega) (by decide)) | (rw [show x.toInt.toNat = 6 by omega]; exact i_of (z := 225) (by omega) (by decide)) | (rw [show x.toInt.toNat = 7 by omega]; exact i_of (z := 255) (by omega) (by decide)))
        exact hret v24 () _ _ _ _ dX7_typeOf_80 hq25 (hP.sub [] rfl) (hD.sub [] (by decide) rfl) hS
    ·
      have z3 := zi_eq c3
      refine lv_sipush (v := 153) hx hb dX7_typeOf_15 (by decide) ?_
      refine lv_topi (fun v26 e26 => ?_)
      have z26 : v26.toInt = 153 := zi_c e26 (by decide)
      refine lv_goto (tgt := 80) hx hb dX7_typeOf_18 (by decide) ?_
      have hq27 : v26 = st_k x.toInt.toNat := (by first | (rw [show x.toInt.toNat = 0 by omega]; exact i_of (z := 135) (by omega) (by decide)) | (rw [show x.toInt.toNat = 1 by omega]; exact i_of (z := 153) (by omega) (by decide)) | (rw [show x.toInt.toNat = 2 by omega]; exact i_of (z := 170) (by omega) (by decide)) | (rw [show x.toInt.toNat = 3 by omega]; exact i_of (z := 180) (by omega) (by decide)) | (rw [show x.toInt.toNat = 4 by omega]; exact i_of (z := 204) (by omega) (by decide)) | (rw [show x.toInt.toNat = 5 by omega]; exact i_of (z := 210) (by omega) (by decide)) | (rw [show x.toInt.toNat = 6 by omega]; exact i_of (z := 225) (by omega) (by decide)) | (rw [show x.toInt.toNat = 7 by omega]; exact i_of (z := 255) (by omega) (by decide)))
      exact hret v26 () _ _ _ _ dX7_typeOf_80 hq27 (hP.sub [] rfl) (hD.sub [] (by decide) rfl) hS
  ·
    have z1 := zi_eq0 c1
    refine lv_sipush (v := 135) hx hb dX7_typeOf_4 (by decide) ?_
    refine lv_topi (fun v28 e28 => ?_)
    have z28 : v28.toInt = 135 := zi_c e28 (by decide)
    refine lv_goto (tgt := 80) hx hb dX7_typeOf_7 (by decide) ?_
    have hq29 : v28 = st_k x.toInt.toNat := (by first | (rw [show x.toInt.toNat = 0 by omega]; exact i_of (z := 135) (by omega) (by decide)) | (rw [show x.toInt.toNat = 1 by omega]; exact i_of (z := 153) (by omega) (by decide)) | (rw [show x.toInt.toNat = 2 by omega]; exact i_of (z := 170) (by omega) (by decide)) | (rw [show x.toInt.toNat = 3 by omega]; exact i_of (z := 180) (by omega) (by decide)) | (rw [show x.toInt.toNat = 4 by omega]; exact i_of (z := 204) (by omega) (by decide)) | (rw [show x.toInt.toNat = 5 by omega]; exact i_of (z := 210) (by omega) (by decide)) | (rw [show x.toInt.toNat = 6 by omega]; exact i_of (z := 225) (by omega) (by decide)) | (rw [show x.toInt.toNat = 7 by omega]; exact i_of (z := 255) (by omega) (by decide)))
    exact hret v28 () _ _ _ _ dX7_typeOf_80 hq29 (hP.sub [] rfl) (hD.sub [] (by decide) rfl) hS

set_option maxHeartbeats 4000000 in
set_option maxRecDepth 100000 in
theorem c_Mo_setBits (l : Launch) (D : va_G) (cI cJ cB : ClassId) (aM : Nat) (bG : Nat) (bL : Nat) (bY : Nat) (bB : Nat) (bC : Nat) (bT : Nat) (th : Int32) (mw : Int32) (mz : Int32) (tk : Int32) (ss : Int32) (ml : Int32) (mh : Int32) (mp : Int32) (rw : Int32) (wr : Int32) (tc : Int32) (gb : Nat → Int32) (x : Int32) (tt : Int32) (nn : Int32) (h1 : 0 ≤ tt.toInt ∧ 0 ≤ nn.toInt ∧ tt.toInt + nn.toInt ≤ 66) (h2 : nn.toInt ≤ 8) :
    ctv l yX7_setBits (wsOf yX7_setBits cX7_setBits 5 none) (rmL 0 0 0 0) D classes (tys3 cI cJ cB) [.ref aM, .int x, .int tt, .int nn] [(aM, .inr (6, [.int th, .int mw, .ref bG, .int mz, .ref bL, .ref bY, .ref bB, .ref bC, .int tk, .int ss, .int ml, .int mh, .int mp, .int rw, .int wr, .int tc, .ref bT])), (bB, .inl (cI, 66, .inl gb))] (fun u : (Nat → Int32) => ∀ q : Nat, u q = if tt.toInt.toNat ≤ q ∧ q < tt.toInt.toNat + nn.toInt.toNat then bi (bt x (q - tt.toInt.toNat)) else gb q) (fun u : (Nat → Int32) => ([(aM, .inr (6, [.int th, .int mw, .ref bG, .int mz, .ref bL, .ref bY, .ref bB, .ref bC, .int tk, .int ss, .int ml, .int mh, .int mp, .int rw, .int wr, .int tc, .ref bT])), (bB, .inl (cI, 66, .inl u))] : va_W)) 0 0 := by
  refine ctv.of (by first | exact plainFor_of_name (by decide) | decide +kernel) (Nat.le_of_ble_eq_true rfl) (fun p e s m args below meth c A ls Q h hret => ?_)
  obtain ⟨hx, hb, hml, hown, hts, hnm, hP, hK, hD, hA, hS, hZ, hN, hl⟩ := h
  have hown : s.vm.findClass RX7 = some m.cls := hown
  have hl : lv_has ls 5 [(0, .ref aM), (1, .int x), (2, .int tt), (3, .int nn)] := hl
  have hP : va_P D classes [(aM, .inr (6, [.int th, .int mw, .ref bG, .int mz, .ref bL, .ref bY, .ref bB, .ref bC, .int tk, .int ss, .int ml, .int mh, .int mp, .int rw, .int wr, .int tc, .ref bT])), (bB, .inl (cI, 66, .inl gb))] s.heap := hP
  have hD : va_D A [(aM, .inr (6, [.int th, .int mw, .ref bG, .int mz, .ref bL, .ref bY, .ref bB, .ref bC, .int tk, .int ss, .int ml, .int mh, .int mp, .int rw, .int wr, .int tc, .ref bT])), (bB, .inl (cI, 66, .inl gb))] := hD
  have rg_th := zi_rg th
  have rg_mw := zi_rg mw
  have rg_mz := zi_rg mz
  have rg_tk := zi_rg tk
  have rg_ss := zi_rg ss
  have rg_ml := zi_rg ml
  have rg_mh := zi_rg mh
  have rg_mp := zi_rg mp
  have rg_rw := zi_rg rw
  have rg_wr := zi_rg wr
  have rg_tc := zi_rg tc
  have rg_x := zi_rg x
  have rg_tt := zi_rg tt
  have rg_nn := zi_rg nn
  refine lv_iconst (v := 0) hx hb dX7_setBits_0 (by decide) ?_
  refine lv_topi (fun v1 e1 => ?_)
  have z1 : v1.toInt = 0 := zi_c e1 (by decide)
  refine lv_istore (lv' := [(4, .int v1), (0, .ref aM), (1, .int x), (2, .int tt), (3, .int nn)]) hx hb dX7_setBits_1 hl (by decide) rfl (fun ls hl => ?_)
  have J3 : ∀ (n : Nat) (k : Int32) (gb3 : Nat → Int32) (H : Heap) (locs : List Loc) (ls : Array Slot), ((nn.toInt - k.toInt).toNat) < n → (0 ≤ k.toInt ∧ k.toInt ≤ nn.toInt) → (∀ q : Nat, gb3 q = if tt.toInt.toNat ≤ q ∧ q < tt.toInt.toNat + k.toInt.toNat then bi (bt x (q - tt.toInt.toNat)) else gb q) → va_P D classes [(aM, .inr (6, [.int th, .int mw, .ref bG, .int mz, .ref bL, .ref bY, .ref bB, .ref bC, .int tk, .int ss, .int ml, .int mh, .int mp, .int rw, .int wr, .int tc, .ref bT])), (bB, .inl (cI, 66, .inl gb3))] H → va_D A [(aM, .inr (6, [.int th, .int mw, .ref bG, .int mz, .ref bL, .ref bY, .ref bB, .ref bC, .int tk, .int ss, .int ml, .int mh, .int mp, .int rw, .int wr, .int tc, .ref bT])), (bB, .inl (cI, 66, .inl gb3))] → va_S A s.heap H locs → lv_has ls 5 [(0, .ref aM), (1, .int x), (2, .int tt), (3, .int nn), (4, .int k)] → W p l e (rmL 0 0 0 0) s m args below meth c H locs 0 0 Q (F0 m 3 ls []) := by
    intro n
    induction n with
    | zero => intro k gb3 H locs ls hmu; exact absurd hmu (Nat.not_lt_zero _)
    | succ n ih3 =>
      intro k gb3 H locs ls hmu3 i3_0 i3_1 hP hD hS hl
      have rg_k := zi_rg k
      refine lv_iload hx hb dX7_setBits_3 (lv_at hl 4 rfl) ?_
      refine lv_iload_n hx hb dX7_setBits_5 rfl (lv_at hl 3 rfl) ?_
      refine lv_icmp_ge (tgt := 30) hx hb dX7_setBits_6 (by decide) (fun c2 => ?_) (fun c2 => ?_)
      ·
        have z2 := zi_le c2
        have hq3 : ∀ q : Nat, gb3 q = if tt.toInt.toNat ≤ q ∧ q < tt.toInt.toNat + nn.toInt.toNat then bi (bt x (q - tt.toInt.toNat)) else gb q := (fun q => by rw [i3_1 q, show k.toInt = nn.toInt by omega])
        exact hret gb3 _ _ _ _ dX7_setBits_30 hq3 (hP.sub [0, 1] rfl) (hD.sub [0, 1] (by decide) rfl) hS
      ·
        have z2 := zi_nle c2
        refine lv_aload_n hx hb dX7_setBits_9 rfl (lv_at hl 0 rfl) ?_
        refine va_get (D := D) (ci := 6) (v := .ref bB) (C := RX7) (T := TX7) (N := 17) hx hb hts in_X7 hown hK hP 0 rfl rfl 6 (by decide) (hts _ wk64) (fun _ h9 => h9) rfl dX7_setBits_10 ?_
        refine lv_iload_n hx hb dX7_setBits_13 rfl (lv_at hl 2 rfl) ?_
        refine lv_iload hx hb dX7_setBits_14 (lv_at hl 4 rfl) ?_
        refine lv_iadd hx hb dX7_setBits_16 ?_
        refine lv_topi (fun v4 e4 => ?_)
        first | have z4 := zi_add e4 (by omega) | skip
        refine lv_iload_n hx hb dX7_setBits_17 rfl (lv_at hl 1 rfl) ?_
        refine lv_iload hx hb dX7_setBits_18 (lv_at hl 4 rfl) ?_
        refine lv_ishr hx hb dX7_setBits_20 ?_
        refine lv_topi (fun v5 e5 => ?_)
        refine lv_iconst (v := 1) hx hb dX7_setBits_21 (by decide) ?_
        refine lv_topi (fun v6 e6 => ?_)
        have z6 : v6.toInt = 1 := zi_c e6 (by decide)
        refine lv_iand hx hb dX7_setBits_22 ?_
        refine lv_topi (fun v7 e7 => ?_)
        have z7 := zi_and e7 e6 1 (z := 2) (by decide) (by decide) (by decide)
        obtain ⟨f8, ef8⟩ : ∃ z9, z9 = upd gb3 v4.toNatClampNeg v7 := ⟨_, rfl⟩
        refine va_iast hx hb hK hP hD hS 1 0 rfl rfl (zi_in (by omega)) dX7_setBits_23 (fun H locs hP1 hD1 hS1 => ?_)
        rw [← ef8] at hP1 hD1
        clear hP hD hS
        have hP : va_P D classes [(aM, .inr (6, [.int th, .int mw, .ref bG, .int mz, .ref bL, .ref bY, .ref bB, .ref bC, .int tk, .int ss, .int ml, .int mh, .int mp, .int rw, .int wr, .int tc, .ref bT])), (bB, .inl (cI, 66, .inl f8))] H := hP1
        have hD : va_D A [(aM, .inr (6, [.int th, .int mw, .ref bG, .int mz, .ref bL, .ref bY, .ref bB, .ref bC, .int tk, .int ss, .int ml, .int mh, .int mp, .int rw, .int wr, .int tc, .ref bT])), (bB, .inl (cI, 66, .inl f8))] := hD1
        have hS := hS1
        clear hP1 hD1 hS1
        obtain ⟨v9, e9⟩ : ∃ y : Int32, y = k + 1 := ⟨_, rfl⟩
        first | have z9 := zi_inc (z := 1) 1 (by decide) e9 (by omega) | skip
        refine lv_iinc (v := v9) (lv' := [(4, .int v9), (0, .ref aM), (1, .int x), (2, .int tt), (3, .int nn)]) hx hb dX7_setBits_24 hl (k := 4) rfl (by rw [e9]; rfl) (by decide) rfl (fun ls hl => ?_)
        refine lv_goto (tgt := 3) hx hb dX7_setBits_27 (by decide) ?_
        exact ih3 v9 f8 _ _ _ (by omega) (by omega) (fun q => by rw [ef8]; by_cases g : q = v4.toInt.toNat; (· rw [g, show upd gb3 v4.toNatClampNeg v7 v4.toInt.toNat = v7 from pk_us, if_pos (by omega), e7, e6, and1, e5, sb_k (n := k.toInt.toNat) (by omega) (by omega), show v4.toInt.toNat - tt.toInt.toNat = k.toInt.toNat by omega]); (· rw [pk_un (show q ≠ v4.toNatClampNeg from g), i3_1]; (by_cases g2 : tt.toInt.toNat ≤ q ∧ q < tt.toInt.toNat + k.toInt.toNat; (· rw [if_pos g2, if_pos (by omega)]); (· rw [if_neg g2, if_neg (by omega)])))) (hP.sub [0, 1] rfl) (hD.sub [0, 1] (by decide) rfl) hS (lv_sub hl [1, 2, 3, 4, 0] rfl)
  exact J3 _ v1 gb _ _ _ (Nat.lt_succ_self _) (by omega) (fun q => by rw [if_neg (by omega)]) (hP.sub [0, 1] rfl) (hD.sub [0, 1] (by decide) rfl) hS (lv_sub hl [1, 2, 3, 4, 0] rfl)

set_option maxHeartbeats 4000000 in
set_option maxRecDepth 100000 in
theorem c_Mo_putCode (l : Launch) (D : va_G) (cI cJ cB : ClassId) (aM : Nat) (bG : Nat) (bL : Nat) (bY : Nat) (bB : Nat) (bC : Nat) (bT : Nat) (th : Int32) (mw : Int32) (mz : Int32) (tk : Int32) (ss : Int32) (ml : Int32) (mh : Int32) (mp : Int32) (rw : Int32) (wr : Int32) (tc : Int32) (gg : Nat → Int32) (gb : Nat → Int32) (x : Int32) (tt : Int32) (h1 : 0 ≤ x.toInt ∧ x.toInt < 8) (h2 : 0 ≤ tt.toInt ∧ tt.toInt + 7 ≤ 66) :
    ctv l yX7_putCode (wsOf yX7_putCode cX7_putCode 3 none) (rmL 1 24 0 0) D classes (tys3 cI cJ cB) [.ref aM, .int x, .int tt] [(aM, .inr (6, [.int th, .int mw, .ref bG, .int mz, .ref bL, .ref bY, .ref bB, .ref bC, .int tk, .int ss, .int ml, .int mh, .int mp, .int rw, .int wr, .int tc, .ref bT])), (bG, .inl (cI, 8, .inl gg)), (bB, .inl (cI, 66, .inl gb))] (fun u : (Nat → Int32) => ∀ q : Nat, u q = if tt.toInt.toNat ≤ q ∧ q < tt.toInt.toNat + 7 then bi (decide (¬ (gg x.toInt.toNat).toInt = 256) && bt 30 (q - tt.toInt.toNat)) else gb q) (fun u : (Nat → Int32) => ([(aM, .inr (6, [.int th, .int mw, .ref bG, .int mz, .ref bL, .ref bY, .ref bB, .ref bC, .int tk, .int ss, .int ml, .int mh, .int mp, .int rw, .int wr, .int tc, .ref bT])), (bG, .inl (cI, 8, .inl gg)), (bB, .inl (cI, 66, .inl u))] : va_W)) 0 0 := by
  refine ctv.of (by first | exact plainFor_of_name (by decide) | decide +kernel) (Nat.le_of_ble_eq_true rfl) (fun p e s m args below meth c A ls Q h hret => ?_)
  obtain ⟨hx, hb, hml, hown, hts, hnm, hP, hK, hD, hA, hS, hZ, hN, hl⟩ := h
  have hown : s.vm.findClass RX7 = some m.cls := hown
  have hl : lv_has ls 3 [(0, .ref aM), (1, .int x), (2, .int tt)] := hl
  have hP : va_P D classes [(aM, .inr (6, [.int th, .int mw, .ref bG, .int mz, .ref bL, .ref bY, .ref bB, .ref bC, .int tk, .int ss, .int ml, .int mh, .int mp, .int rw, .int wr, .int tc, .ref bT])), (bG, .inl (cI, 8, .inl gg)), (bB, .inl (cI, 66, .inl gb))] s.heap := hP
  have hD : va_D A [(aM, .inr (6, [.int th, .int mw, .ref bG, .int mz, .ref bL, .ref bY, .ref bB, .ref bC, .int tk, .int ss, .int ml, .int mh, .int mp, .int rw, .int wr, .int tc, .ref bT])), (bG, .inl (cI, 8, .inl gg)), (bB, .inl (cI, 66, .inl gb))] := hD
  have rg_th := zi_rg th
  have rg_mw := zi_rg mw
  have rg_mz := zi_rg mz
  have rg_tk := zi_rg tk
  have rg_ss := zi_rg ss
  have rg_ml := zi_rg ml
  have rg_mh := zi_rg mh
  have rg_mp := zi_rg mp
  have rg_rw := zi_rg rw
  have rg_wr := zi_rg wr
  have rg_tc := zi_rg tc
  have rg_x := zi_rg x
  have rg_tt := zi_rg tt
  refine lv_aload_n hx hb dX7_putCode_0 rfl (lv_at hl 0 rfl) ?_
  refine lv_aload_n hx hb dX7_putCode_1 rfl (lv_at hl 0 rfl) ?_
  refine va_get (D := D) (ci := 6) (v := .ref bG) (C := RX7) (T := TX7) (N := 17) hx hb hts in_X7 hown hK hP 0 rfl rfl 2 (by decide) (hts _ wk60) (fun _ h9 => h9) rfl dX7_putCode_2 ?_
  refine lv_iload_n hx hb dX7_putCode_5 rfl (lv_at hl 1 rfl) ?_
  refine va_iald hx hb hK hP 1 0 rfl rfl (zi_in (by omega)) dX7_putCode_6 ?_
  refine lv_topi (fun v1 e1 => ?_)
  refine lv_sipush (v := 256) hx hb dX7_putCode_7 (by decide) ?_
  refine lv_topi (fun v2 e2 => ?_)
  have z2 : v2.toInt = 256 := zi_c e2 (by decide)
  refine lv_icmp_ne (tgt := 17) hx hb dX7_putCode_10 (by decide) (fun c3 => ?_) (fun c3 => ?_)
  ·
    have z3 := zi_ne c3
    refine lv_bipush (v := 30) hx hb dX7_putCode_17 (by decide) ?_
    refine lv_topi (fun v4 e4 => ?_)
    have z4 : v4.toInt = 30 := zi_c e4 (by decide)
    refine lv_iload_n hx hb dX7_putCode_19 rfl (lv_at hl 2 rfl) ?_
    refine lv_bipush (v := 7) hx hb dX7_putCode_20 (by decide) ?_
    refine lv_topi (fun v5 e5 => ?_)
    have z5 : v5.toInt = 7 := zi_c e5 (by decide)
    have hh6 : 0 ≤ tt.toInt ∧ 0 ≤ v5.toInt ∧ tt.toInt + v5.toInt ≤ 66 := (by omega)
    have hh7 : v5.toInt ≤ 8 := (by omega)
    refine call_v (wc := [(aM, .inr (6, [.int th, .int mw, .ref bG, .int mz, .ref bL, .ref bY, .ref bB, .ref bC, .int tk, .int ss, .int ml, .int mh, .int mp, .int rw, .int wr, .int tc, .ref bT])), (bB, .inl (cI, 66, .inl gb))]) (wr := [(bG, .inl (cI, 8, .inl gg))]) (run_V (As := [.int v4, .int tt, .int v5]) (rest := []) kv_RX7_47 ⟨by decide, by decide⟩ ⟨rfl, rfl⟩ ⟨hx, hb, hml, hown, hts⟩ (c_Mo_setBits l D cI cJ cB aM bG bL bY bB bC bT th mw mz tk ss ml mh mp rw wr tc gb v4 tt v5 hh6 hh7 _) ct_blind (ct_pre (wc := [(aM, .inr (6, [.int th, .int mw, .ref bG, .int mz, .ref bL, .ref bY, .ref bB, .ref bC, .int tk, .int ss, .int ml, .int mh, .int mp, .int rw, .int wr, .int tc, .ref bT])), (bB, .inl (cI, 66, .inl gb))]) hK hP hD hS hA hZ hN [0, 2] (by decide) rfl rfl) (va_recv hK hP (ci := 6) (q0 := 0) rfl rfl) rfl hl.1 rfl (Nat.le_of_ble_eq_true rfl) dX7_putCode_22 ⟨Nat.le_of_ble_eq_true rfl, Nat.le_of_ble_eq_true rfl⟩) hP hD hS hA [0, 2] [1] rfl rfl (by decide) (by decide) (fun u H locs hw8 hP1 hD1 hS1 => ?_)
    obtain ⟨gb2_8, hu9⟩ : ∃ z, z = u := ⟨_, rfl⟩
    subst hu9
    have hw8 : ∀ q : Nat, gb2_8 q = if tt.toInt.toNat ≤ q ∧ q < tt.toInt.toNat + v5.toInt.toNat then bi (bt v4 (q - tt.toInt.toNat)) else gb q := hw8
    clear hP hD hS
    have hP : va_P D classes [(bG, .inl (cI, 8, .inl gg)), (aM, .inr (6, [.int th, .int mw, .ref bG, .int mz, .ref bL, .ref bY, .ref bB, .ref bC, .int tk, .int ss, .int ml, .int mh, .int mp, .int rw, .int wr, .int tc, .ref bT])), (bB, .inl (cI, 66, .inl gb2_8))] H := hP1
    have hD : va_D A [(bG, .inl (cI, 8, .inl gg)), (aM, .inr (6, [.int th, .int mw, .ref bG, .int mz, .ref bL, .ref bY, .ref bB, .ref bC, .int tk, .int ss, .int ml, .int mh, .int mp, .int rw, .int wr, .int tc, .ref bT])), (bB, .inl (cI, 66, .inl gb2_8))] := hD1
    have hS := hS1
    clear hP1 hD1 hS1
    have hq9 : ∀ q : Nat, gb2_8 q = if tt.toInt.toNat ≤ q ∧ q < tt.toInt.toNat + 7 then bi (decide (¬ (gg x.toInt.toNat).toInt = 256) && bt 30 (q - tt.toInt.toNat)) else gb q := (fun q => by have g9 : gg x.toInt.toNat = v1 := e1.symm; first | (rw [hw8 q, show v5.toInt.toNat = 7 by omega, g9, i_of z4 (y := 30) (by decide)]; simp [show ¬ v1.toInt = 256 by omega]; done) | (rw [hw14 q, show v11.toInt.toNat = 7 by omega, g9, i_of z10 (y := 0) (by decide), bt_0]; simp [show v1.toInt = 256 by omega]; done))
    exact hret gb2_8 _ _ _ _ dX7_putCode_25 hq9 (hP.sub [1, 0, 2] rfl) (hD.sub [1, 0, 2] (by decide) rfl) hS
  ·
    have z3 := zi_eq c3
    refine lv_iconst (v := 0) hx hb dX7_putCode_13 (by decide) ?_
    refine lv_topi (fun v10 e10 => ?_)
    have z10 : v10.toInt = 0 := zi_c e10 (by decide)
    refine lv_goto (tgt := 19) hx hb dX7_putCode_14 (by decide) ?_
    refine lv_iload_n hx hb dX7_putCode_19 rfl (lv_at hl 2 rfl) ?_
    refine lv_bipush (v := 7) hx hb dX7_putCode_20 (by decide) ?_
    refine lv_topi (fun v11 e11 => ?_)
    have z11 : v11.toInt = 7 := zi_c e11 (by decide)
    have hh12 : 0 ≤ tt.toInt ∧ 0 ≤ v11.toInt ∧ tt.toInt + v11.toInt ≤ 66 := (by omega)
    have hh13 : v11.toInt ≤ 8 := (by omega)
    refine call_v (wc := [(aM, .inr (6, [.int th, .int mw, .ref bG, .int mz, .ref bL, .ref bY, .ref bB, .ref bC, .int tk, .int ss, .int ml, .int mh, .int mp, .int rw, .int wr, .int tc, .ref bT])), (bB, .inl (cI, 66, .inl gb))]) (wr := [(bG, .inl (cI, 8, .inl gg))]) (run_V (As := [.int v10, .int tt, .int v11]) (rest := []) kv_RX7_47 ⟨by decide, by decide⟩ ⟨rfl, rfl⟩ ⟨hx, hb, hml, hown, hts⟩ (c_Mo_setBits l D cI cJ cB aM bG bL bY bB bC bT th mw mz tk ss ml mh mp rw wr tc gb v10 tt v11 hh12 hh13 _) ct_blind (ct_pre (wc := [(aM, .inr (6, [.int th, .int mw, .ref bG, .int mz, .ref bL, .ref bY, .ref bB, .ref bC, .int tk, .int ss, .int ml, .int mh, .int mp, .int rw, .int wr, .int tc, .ref bT])), (bB, .inl (cI, 66, .inl gb))]) hK hP hD hS hA hZ hN [0, 2] (by decide) rfl rfl) (va_recv hK hP (ci := 6) (q0 := 0) rfl rfl) rfl hl.1 rfl (Nat.le_of_ble_eq_true rfl) dX7_putCode_22 ⟨Nat.le_of_ble_eq_true rfl, Nat.le_of_ble_eq_true rfl⟩) hP hD hS hA [0, 2] [1] rfl rfl (by decide) (by decide) (fun u H locs hw14 hP1 hD1 hS1 => ?_)
    obtain ⟨gb2_14, hu9⟩ : ∃ z, z = u := ⟨_, rfl⟩
    subst hu9
    have hw14 : ∀ q : Nat, gb2_14 q = if tt.toInt.toNat ≤ q ∧ q < tt.toInt.toNat + v11.toInt.toNat then bi (bt v10 (q - tt.toInt.toNat)) else gb q := hw14
    clear hP hD hS
    have hP : va_P D classes [(bG, .inl (cI, 8, .inl gg)), (aM, .inr (6, [.int th, .int mw, .ref bG, .int mz, .ref bL, .ref bY, .ref bB, .ref bC, .int tk, .int ss, .int ml, .int mh, .int mp, .int rw, .int wr, .int tc, .ref bT])), (bB, .inl (cI, 66, .inl gb2_14))] H := hP1
    have hD : va_D A [(bG, .inl (cI, 8, .inl gg)), (aM, .inr (6, [.int th, .int mw, .ref bG, .int mz, .ref bL, .ref bY, .ref bB, .ref bC, .int tk, .int ss, .int ml, .int mh, .int mp, .int rw, .int wr, .int tc, .ref bT])), (bB, .inl (cI, 66, .inl gb2_14))] := hD1
    have hS := hS1
    clear hP1 hD1 hS1
    have hq15 : ∀ q : Nat, gb2_14 q = if tt.toInt.toNat ≤ q ∧ q < tt.toInt.toNat + 7 then bi (decide (¬ (gg x.toInt.toNat).toInt = 256) && bt 30 (q - tt.toInt.toNat)) else gb q := (fun q => by have g9 : gg x.toInt.toNat = v1 := e1.symm; first | (rw [hw8 q, show v5.toInt.toNat = 7 by omega, g9, i_of z4 (y := 30) (by decide)]; simp [show ¬ v1.toInt = 256 by omega]; done) | (rw [hw14 q, show v11.toInt.toNat = 7 by omega, g9, i_of z10 (y := 0) (by decide), bt_0]; simp [show v1.toInt = 256 by omega]; done))
    exact hret gb2_14 _ _ _ _ dX7_putCode_25 hq15 (hP.sub [1, 0, 2] rfl) (hD.sub [1, 0, 2] (by decide) rfl) hS

set_option maxHeartbeats 4000000 in
set_option maxRecDepth 100000 in
theorem c_Mo_encode (l : Launch) (D : va_G) (cI cJ cB : ClassId) (aM : Nat) (bG : Nat) (bL : Nat) (bY : Nat) (bB : Nat) (bC : Nat) (bT : Nat) (th : Int32) (mw : Int32) (mz : Int32) (tk : Int32) (ss : Int32) (ml : Int32) (mh : Int32) (mp : Int32) (rw : Int32) (wr : Int32) (tc : Int32) (gg : Nat → Int32) (gb : Nat → Int32)  :
    ctv l yX7_encode (wsOf yX7_encode cX7_encode 4 none) (rmL 2 46 0 0) D classes (tys3 cI cJ cB) [.ref aM] [(aM, .inr (6, [.int th, .int mw, .ref bG, .int mz, .ref bL, .ref bY, .ref bB, .ref bC, .int tk, .int ss, .int ml, .int mh, .int mp, .int rw, .int wr, .int tc, .ref bT])), (bG, .inl (cI, 8, .inl gg)), (bB, .inl (cI, 66, .inl gb))] (fun u : (Nat → Int32) × (Nat → Int32) => okE gg u.2) (fun u : (Nat → Int32) × (Nat → Int32) => ([(aM, .inr (6, [.int th, .int mw, .ref bG, .int mz, .ref bL, .ref bY, .ref bB, .ref bC, .int tk, .int ss, .int ml, .int mh, .int mp, .int rw, .int wr, .int tc, .ref bT])), (bG, .inl (cI, 8, .inl u.1)), (bB, .inl (cI, 66, .inl u.2))] : va_W)) 0 0 := by
  refine ctv.of (by first | exact plainFor_of_name (by decide) | decide +kernel) (Nat.le_of_ble_eq_true rfl) (fun p e s m args below meth c A ls Q h hret => ?_)
  obtain ⟨hx, hb, hml, hown, hts, hnm, hP, hK, hD, hA, hS, hZ, hN, hl⟩ := h
  have hown : s.vm.findClass RX7 = some m.cls := hown
  have hl : lv_has ls 4 [(0, .ref aM)] := hl
  have hP : va_P D classes [(aM, .inr (6, [.int th, .int mw, .ref bG, .int mz, .ref bL, .ref bY, .ref bB, .ref bC, .int tk, .int ss, .int ml, .int mh, .int mp, .int rw, .int wr, .int tc, .ref bT])), (bG, .inl (cI, 8, .inl gg)), (bB, .inl (cI, 66, .inl gb))] s.heap := hP
  have hD : va_D A [(aM, .inr (6, [.int th, .int mw, .ref bG, .int mz, .ref bL, .ref bY, .ref bB, .ref bC, .int tk, .int ss, .int ml, .int mh, .int mp, .int rw, .int wr, .int tc, .ref bT])), (bG, .inl (cI, 8, .inl gg)), (bB, .inl (cI, 66, .inl gb))] := hD
  have rg_th := zi_rg th
  have rg_mw := zi_rg mw
  have rg_mz := zi_rg mz
  have rg_tk := zi_rg tk
  have rg_ss := zi_rg ss
  have rg_ml := zi_rg ml
  have rg_mh := zi_rg mh
  have rg_mp := zi_rg mp
  have rg_rw := zi_rg rw
  have rg_wr := zi_rg wr
  have rg_tc := zi_rg tc
  refine lv_iconst (v := 0) hx hb dX7_encode_0 (by decide) ?_
  refine lv_topi (fun v1 e1 => ?_)
  have z1 : v1.toInt = 0 := zi_c e1 (by decide)
  refine lv_istore_n (lv' := [(1, .int v1), (0, .ref aM)]) hx hb dX7_encode_1 rfl hl (by decide) rfl (fun ls hl => ?_)
  have J2 : ∀ (n : Nat) (k0 : Int32) (gb3 : Nat → Int32) (H : Heap) (locs : List Loc) (ls : Array Slot), ((66 - k0.toInt).toNat) < n → (0 ≤ k0.toInt ∧ k0.toInt ≤ 66) → (∀ q, q < k0.toInt.toNat → gb3 q = 0) → va_P D classes [(aM, .inr (6, [.int th, .int mw, .ref bG, .int mz, .ref bL, .ref bY, .ref bB, .ref bC, .int tk, .int ss, .int ml, .int mh, .int mp, .int rw, .int wr, .int tc, .ref bT])), (bG, .inl (cI, 8, .inl gg)), (bB, .inl (cI, 66, .inl gb3))] H → va_D A [(aM, .inr (6, [.int th, .int mw, .ref bG, .int mz, .ref bL, .ref bY, .ref bB, .ref bC, .int tk, .int ss, .int ml, .int mh, .int mp, .int rw, .int wr, .int tc, .ref bT])), (bG, .inl (cI, 8, .inl gg)), (bB, .inl (cI, 66, .inl gb3))] → va_S A s.heap H locs → lv_has ls 4 [(0, .ref aM), (1, .int k0)] → W p l e (rmL 2 46 0 0) s m args below meth c H locs 0 0 Q (F0 m 2 ls []) := by
    intro n
    induction n with
    | zero => intro k0 gb3 H locs ls hmu; exact absurd hmu (Nat.not_lt_zero _)
    | succ n ih2 =>
      intro k0 gb3 H locs ls hmu2 i2_0 i2_1 hP hD hS hl
      have rg_k0 := zi_rg k0
      refine lv_iload_n hx hb dX7_encode_2 rfl (lv_at hl 1 rfl) ?_
      refine lv_bipush (v := 66) hx hb dX7_encode_3 (by decide) ?_
      refine lv_topi (fun v2 e2 => ?_)
      have z2 : v2.toInt = 66 := zi_c e2 (by decide)
      refine lv_icmp_ge (tgt := 21) hx hb dX7_encode_5 (by decide) (fun c3 => ?_) (fun c3 => ?_)
      ·
        have z3 := zi_le c3
        refine lv_iconst (v := -1) hx hb dX7_encode_21 (by decide) ?_
        refine lv_topi (fun v4 e4 => ?_)
        have z4 : v4.toInt = (-1) := zi_c e4 (by decide)
        refine lv_istore_n (lv' := [(1, .int v4), (0, .ref aM)]) hx hb dX7_encode_22 rfl hl (by decide) rfl (fun ls hl => ?_)
        refine lv_iconst (v := 0) hx hb dX7_encode_23 (by decide) ?_
        refine lv_topi (fun v5 e5 => ?_)
        have z5 : v5.toInt = 0 := zi_c e5 (by decide)
        refine lv_istore_n (lv' := [(2, .int v5), (1, .int v4), (0, .ref aM)]) hx hb dX7_encode_24 rfl hl (by decide) rfl (fun ls hl => ?_)
        have J25 : ∀ (n : Nat) (en : Int32) (k1 : Int32) (H : Heap) (locs : List Loc) (ls : Array Slot), ((8 - k1.toInt).toNat) < n → (-1 ≤ en.toInt ∧ en.toInt ≤ 7) → (0 ≤ k1.toInt ∧ k1.toInt ≤ 8) → (fEnd gg en k1.toInt.toNat) → va_P D classes [(aM, .inr (6, [.int th, .int mw, .ref bG, .int mz, .ref bL, .ref bY, .ref bB, .ref bC, .int tk, .int ss, .int ml, .int mh, .int mp, .int rw, .int wr, .int tc, .ref bT])), (bG, .inl (cI, 8, .inl gg)), (bB, .inl (cI, 66, .inl gb3))] H → va_D A [(aM, .inr (6, [.int th, .int mw, .ref bG, .int mz, .ref bL, .ref bY, .ref bB, .ref bC, .int tk, .int ss, .int ml, .int mh, .int mp, .int rw, .int wr, .int tc, .ref bT])), (bG, .inl (cI, 8, .inl gg)), (bB, .inl (cI, 66, .inl gb3))] → va_S A s.heap H locs → lv_has ls 4 [(0, .ref aM), (1, .int en), (2, .int k1)] → W p l e (rmL 2 46 0 0) s m args below meth c H locs 0 0 Q (F0 m 25 ls []) := by
          intro n
          induction n with
          | zero => intro en k1 H locs ls hmu; exact absurd hmu (Nat.not_lt_zero _)
          | succ n ih25 =>
            intro en k1 H locs ls hmu25 i25_0 i25_1 i25_2 hP hD hS hl
            have rg_en := zi_rg en
            have rg_k1 := zi_rg k1
            refine lv_iload_n hx hb dX7_encode_25 rfl (lv_at hl 2 rfl) ?_
            refine lv_bipush (v := 8) hx hb dX7_encode_26 (by decide) ?_
            refine lv_topi (fun v6 e6 => ?_)
            have z6 : v6.toInt = 8 := zi_c e6 (by decide)
            refine lv_icmp_ge (tgt := 59) hx hb dX7_encode_28 (by decide) (fun c7 => ?_) (fun c7 => ?_)
            ·
              have z7 := zi_le c7
              refine lv_aload_n hx hb dX7_encode_59 rfl (lv_at hl 0 rfl) ?_
              refine lv_iconst (v := 0) hx hb dX7_encode_60 (by decide) ?_
              refine lv_topi (fun v8 e8 => ?_)
              have z8 : v8.toInt = 0 := zi_c e8 (by decide)
              refine lv_bipush (v := 8) hx hb dX7_encode_61 (by decide) ?_
              refine lv_topi (fun v9 e9 => ?_)
              have z9 : v9.toInt = 8 := zi_c e9 (by decide)
              refine lv_iconst (v := 1) hx hb dX7_encode_63 (by decide) ?_
              refine lv_topi (fun v10 e10 => ?_)
              have z10 : v10.toInt = 1 := zi_c e10 (by decide)
              have hh11 : 0 ≤ v8.toInt ∧ v8.toInt ≤ 8 := (by omega)
              have hh12 : 0 ≤ v9.toInt ∧ v9.toInt ≤ 8 := (by omega)
              have hh13 : v8.toInt ≤ v9.toInt := (by omega)
              refine call_i (wc := [(aM, .inr (6, [.int th, .int mw, .ref bG, .int mz, .ref bL, .ref bY, .ref bB, .ref bC, .int tk, .int ss, .int ml, .int mh, .int mp, .int rw, .int wr, .int tc, .ref bT])), (bG, .inl (cI, 8, .inl gg))]) (wr := [(bB, .inl (cI, 66, .inl gb3))]) (run_V (As := [.int v8, .int v9, .int v10]) (rest := []) kv_RX7_51 ⟨by decide, by decide⟩ ⟨rfl, rfl⟩ ⟨hx, hb, hml, hown, hts⟩ (c_Mo_are l D cI cJ cB aM bG bL bY bB bC bT th mw mz tk ss ml mh mp rw wr tc gg v8 v9 v10 hh11 hh12 hh13 _) ct_blind (ct_pre (wc := [(aM, .inr (6, [.int th, .int mw, .ref bG, .int mz, .ref bL, .ref bY, .ref bB, .ref bC, .int tk, .int ss, .int ml, .int mh, .int mp, .int rw, .int wr, .int tc, .ref bT])), (bG, .inl (cI, 8, .inl gg))]) hK hP hD hS hA hZ hN [0, 1] (by decide) rfl rfl) (va_recv hK hP (ci := 6) (q0 := 0) rfl rfl) rfl hl.1 rfl (Nat.le_of_ble_eq_true rfl) dX7_encode_64 ⟨Nat.le_of_ble_eq_true rfl, Nat.le_of_ble_eq_true rfl⟩) hP hD hS hA [0, 1] [2] rfl rfl (by decide) (by decide) (fun r14 u H locs hw14 hP1 hD1 hS1 => ?_)
              have hw14 : (¬ v10.toInt = 0 → stD r14 (aD gg v8.toInt.toNat v9.toInt.toNat)) ∧ (v10.toInt = 0 → stD r14 (aQ gg v8.toInt.toNat v9.toInt.toNat)) := hw14
              clear hP hD hS
              have hP : va_P D classes [(bB, .inl (cI, 66, .inl gb3)), (aM, .inr (6, [.int th, .int mw, .ref bG, .int mz, .ref bL, .ref bY, .ref bB, .ref bC, .int tk, .int ss, .int ml, .int mh, .int mp, .int rw, .int wr, .int tc, .ref bT])), (bG, .inl (cI, 8, .inl gg))] H := hP1
              have hD : va_D A [(bB, .inl (cI, 66, .inl gb3)), (aM, .inr (6, [.int th, .int mw, .ref bG, .int mz, .ref bL, .ref bY, .ref bB, .ref bC, .int tk, .int ss, .int ml, .int mh, .int mp, .int rw, .int wr, .int tc, .ref bT])), (bG, .inl (cI, 8, .inl gg))] := hD1
              have hS := hS1
              clear hP1 hD1 hS1
              have rg_r14 := zi_rg r14
              refine lv_if_eq (tgt := 110) hx hb dX7_encode_67 (by decide) (fun c15 => ?_) (fun c15 => ?_)
              ·
                have z15 := zi_eq0 c15
                refine lv_aload_n hx hb dX7_encode_110 rfl (lv_at hl 0 rfl) ?_
                refine va_get (D := D) (ci := 6) (v := .ref bB) (C := RX7) (T := TX7) (N := 17) hx hb hts in_X7 hown hK hP 1 rfl rfl 6 (by decide) (hts _ wk64) (fun _ h9 => h9) rfl dX7_encode_111 ?_
                refine lv_iconst (v := 0) hx hb dX7_encode_114 (by decide) ?_
                refine lv_topi (fun v16 e16 => ?_)
                have z16 : v16.toInt = 0 := zi_c e16 (by decide)
                refine lv_iconst (v := 1) hx hb dX7_encode_115 (by decide) ?_
                refine lv_topi (fun v17 e17 => ?_)
                have z17 : v17.toInt = 1 := zi_c e17 (by decide)
                obtain ⟨f18, ef18⟩ : ∃ z9, z9 = upd gb3 v16.toNatClampNeg v17 := ⟨_, rfl⟩
                refine va_iast hx hb hK hP hD hS 0 0 rfl rfl (zi_in (by omega)) dX7_encode_116 (fun H locs hP1 hD1 hS1 => ?_)
                rw [← ef18] at hP1 hD1
                clear hP hD hS
                have hP : va_P D classes [(bB, .inl (cI, 66, .inl f18)), (aM, .inr (6, [.int th, .int mw, .ref bG, .int mz, .ref bL, .ref bY, .ref bB, .ref bC, .int tk, .int ss, .int ml, .int mh, .int mp, .int rw, .int wr, .int tc, .ref bT])), (bG, .inl (cI, 8, .inl gg))] H := hP1
                have hD : va_D A [(bB, .inl (cI, 66, .inl f18)), (aM, .inr (6, [.int th, .int mw, .ref bG, .int mz, .ref bL, .ref bY, .ref bB, .ref bC, .int tk, .int ss, .int ml, .int mh, .int mp, .int rw, .int wr, .int tc, .ref bT])), (bG, .inl (cI, 8, .inl gg))] := hD1
                have hS := hS1
                clear hP1 hD1 hS1
                refine lv_aload_n hx hb dX7_encode_117 rfl (lv_at hl 0 rfl) ?_
                refine va_get (D := D) (ci := 6) (v := .ref bG) (C := RX7) (T := TX7) (N := 17) hx hb hts in_X7 hown hK hP 1 rfl rfl 2 (by decide) (hts _ wk60) (fun _ h9 => h9) rfl dX7_encode_118 ?_
                refine lv_iconst (v := 0) hx hb dX7_encode_121 (by decide) ?_
                refine lv_topi (fun v19 e19 => ?_)
                have z19 : v19.toInt = 0 := zi_c e19 (by decide)
                refine va_iald hx hb hK hP 2 0 rfl rfl (zi_in (by omega)) dX7_encode_122 ?_
                refine lv_topi (fun v20 e20 => ?_)
                refine lv_sipush (v := 257) hx hb dX7_encode_123 (by decide) ?_
                refine lv_topi (fun v21 e21 => ?_)
                have z21 : v21.toInt = 257 := zi_c e21 (by decide)
                have J184 : ∀   (H : Heap) (locs : List Loc) (ls : Array Slot), (¬ gSt gg) → va_P D classes [(bB, .inl (cI, 66, .inl f18)), (aM, .inr (6, [.int th, .int mw, .ref bG, .int mz, .ref bL, .ref bY, .ref bB, .ref bC, .int tk, .int ss, .int ml, .int mh, .int mp, .int rw, .int wr, .int tc, .ref bT])), (bG, .inl (cI, 8, .inl gg))] H → va_D A [(bB, .inl (cI, 66, .inl f18)), (aM, .inr (6, [.int th, .int mw, .ref bG, .int mz, .ref bL, .ref bY, .ref bB, .ref bC, .int tk, .int ss, .int ml, .int mh, .int mp, .int rw, .int wr, .int tc, .ref bT])), (bG, .inl (cI, 8, .inl gg))] → va_S A s.heap H locs → lv_has ls 4 [(0, .ref aM), (1, .int en), (2, .int k1)] → W p l e (rmL 2 46 0 0) s m args below meth c H locs 0 0 Q (F0 m 184 ls []) := by
                  intro  H locs ls i184_0 hP hD hS hl
                  refine lv_aload_n hx hb dX7_encode_184 rfl (lv_at hl 0 rfl) ?_
                  refine va_get (D := D) (ci := 6) (v := .ref bG) (C := RX7) (T := TX7) (N := 17) hx hb hts in_X7 hown hK hP 1 rfl rfl 2 (by decide) (hts _ wk60) (fun _ h9 => h9) rfl dX7_encode_185 ?_
                  refine lv_iconst (v := 4) hx hb dX7_encode_188 (by decide) ?_
                  refine lv_topi (fun v22 e22 => ?_)
                  have z22 : v22.toInt = 4 := zi_c e22 (by decide)
                  refine va_iald hx hb hK hP 2 0 rfl rfl (zi_in (by omega)) dX7_encode_189 ?_
                  refine lv_topi (fun v23 e23 => ?_)
                  refine lv_sipush (v := 257) hx hb dX7_encode_190 (by decide) ?_
                  refine lv_topi (fun v24 e24 => ?_)
                  have z24 : v24.toInt = 257 := zi_c e24 (by decide)
                  have J286 : ∀   (H : Heap) (locs : List Loc) (ls : Array Slot), (¬ gMid gg) → va_P D classes [(bB, .inl (cI, 66, .inl f18)), (aM, .inr (6, [.int th, .int mw, .ref bG, .int mz, .ref bL, .ref bY, .ref bB, .ref bC, .int tk, .int ss, .int ml, .int mh, .int mp, .int rw, .int wr, .int tc, .ref bT])), (bG, .inl (cI, 8, .inl gg))] H → va_D A [(bB, .inl (cI, 66, .inl f18)), (aM, .inr (6, [.int th, .int mw, .ref bG, .int mz, .ref bL, .ref bY, .ref bB, .ref bC, .int tk, .int ss, .int ml, .int mh, .int mp, .int rw, .int wr, .int tc, .ref bT])), (bG, .inl (cI, 8, .inl gg))] → va_S A s.heap H locs → lv_has ls 4 [(0, .ref aM), (1, .int en), (2, .int k1)] → W p l e (rmL 2 46 0 0) s m args below meth c H locs 0 0 Q (F0 m 286 ls []) := by
                    intro  H locs ls i286_0 hP hD hS hl
                    refine lv_iload_n hx hb dX7_encode_286 rfl (lv_at hl 1 rfl) ?_
                    have J390 : ∀   (H : Heap) (locs : List Loc) (ls : Array Slot), (∀ d, d < 8 → ¬ gEnd gg d) → va_P D classes [(bB, .inl (cI, 66, .inl f18)), (aM, .inr (6, [.int th, .int mw, .ref bG, .int mz, .ref bL, .ref bY, .ref bB, .ref bC, .int tk, .int ss, .int ml, .int mh, .int mp, .int rw, .int wr, .int tc, .ref bT])), (bG, .inl (cI, 8, .inl gg))] H → va_D A [(bB, .inl (cI, 66, .inl f18)), (aM, .inr (6, [.int th, .int mw, .ref bG, .int mz, .ref bL, .ref bY, .ref bB, .ref bC, .int tk, .int ss, .int ml, .int mh, .int mp, .int rw, .int wr, .int tc, .ref bT])), (bG, .inl (cI, 8, .inl gg))] → va_S A s.heap H locs → lv_has ls 4 [(0, .ref aM), (1, .int en), (2, .int k1)] → W p l e (rmL 2 46 0 0) s m args below meth c H locs 0 0 Q (F0 m 390 ls []) := by
                      intro  H locs ls i390_0 hP hD hS hl
                      refine lv_aload_n hx hb dX7_encode_390 rfl (lv_at hl 0 rfl) ?_
                      refine lv_iconst (v := 0) hx hb dX7_encode_391 (by decide) ?_
                      refine lv_topi (fun v25 e25 => ?_)
                      have z25 : v25.toInt = 0 := zi_c e25 (by decide)
                      refine lv_bipush (v := 8) hx hb dX7_encode_392 (by decide) ?_
                      refine lv_topi (fun v26 e26 => ?_)
                      have z26 : v26.toInt = 8 := zi_c e26 (by decide)
                      refine lv_iconst (v := 0) hx hb dX7_encode_394 (by decide) ?_
                      refine lv_topi (fun v27 e27 => ?_)
                      have z27 : v27.toInt = 0 := zi_c e27 (by decide)
                      have hh28 : 0 ≤ v25.toInt ∧ v25.toInt ≤ 8 := (by omega)
                      have hh29 : 0 ≤ v26.toInt ∧ v26.toInt ≤ 8 := (by omega)
                      have hh30 : v25.toInt ≤ v26.toInt := (by omega)
                      refine call_i (wc := [(aM, .inr (6, [.int th, .int mw, .ref bG, .int mz, .ref bL, .ref bY, .ref bB, .ref bC, .int tk, .int ss, .int ml, .int mh, .int mp, .int rw, .int wr, .int tc, .ref bT])), (bG, .inl (cI, 8, .inl gg))]) (wr := [(bB, .inl (cI, 66, .inl f18))]) (run_V (As := [.int v25, .int v26, .int v27]) (rest := []) kv_RX7_51 ⟨by decide, by decide⟩ ⟨rfl, rfl⟩ ⟨hx, hb, hml, hown, hts⟩ (c_Mo_are l D cI cJ cB aM bG bL bY bB bC bT th mw mz tk ss ml mh mp rw wr tc gg v25 v26 v27 hh28 hh29 hh30 _) ct_blind (ct_pre (wc := [(aM, .inr (6, [.int th, .int mw, .ref bG, .int mz, .ref bL, .ref bY, .ref bB, .ref bC, .int tk, .int ss, .int ml, .int mh, .int mp, .int rw, .int wr, .int tc, .ref bT])), (bG, .inl (cI, 8, .inl gg))]) hK hP hD hS hA hZ hN [1, 2] (by decide) rfl rfl) (va_recv hK hP (ci := 6) (q0 := 1) rfl rfl) rfl hl.1 rfl (Nat.le_of_ble_eq_true rfl) dX7_encode_395 ⟨Nat.le_of_ble_eq_true rfl, Nat.le_of_ble_eq_true rfl⟩) hP hD hS hA [1, 2] [0] rfl rfl (by decide) (by decide) (fun r31 u H locs hw31 hP1 hD1 hS1 => ?_)
                      have hw31 : (¬ v27.toInt = 0 → stD r31 (aD gg v25.toInt.toNat v26.toInt.toNat)) ∧ (v27.toInt = 0 → stD r31 (aQ gg v25.toInt.toNat v26.toInt.toNat)) := hw31
                      clear hP hD hS
                      have hP : va_P D classes [(bB, .inl (cI, 66, .inl f18)), (aM, .inr (6, [.int th, .int mw, .ref bG, .int mz, .ref bL, .ref bY, .ref bB, .ref bC, .int tk, .int ss, .int ml, .int mh, .int mp, .int rw, .int wr, .int tc, .ref bT])), (bG, .inl (cI, 8, .inl gg))] H := hP1
                      have hD : va_D A [(bB, .inl (cI, 66, .inl f18)), (aM, .inr (6, [.int th, .int mw, .ref bG, .int mz, .ref bL, .ref bY, .ref bB, .ref bC, .int tk, .int ss, .int ml, .int mh, .int mp, .int rw, .int wr, .int tc, .ref bT])), (bG, .inl (cI, 8, .inl gg))] := hD1
                      have hS := hS1
                      clear hP1 hD1 hS1
                      have rg_r31 := zi_rg r31
                      refine lv_istore_n (lv' := [(2, .int r31), (0, .ref aM), (1, .int en)]) hx hb dX7_encode_398 rfl hl (by decide) rfl (fun ls hl => ?_)
                      refine lv_aload_n hx hb dX7_encode_399 rfl (lv_at hl 1 rfl) ?_
                      refine lv_bipush (v := 30) hx hb dX7_encode_400 (by decide) ?_
                      refine lv_topi (fun v32 e32 => ?_)
                      have z32 : v32.toInt = 30 := zi_c e32 (by decide)
                      refine lv_iconst (v := 2) hx hb dX7_encode_402 (by decide) ?_
                      refine lv_topi (fun v33 e33 => ?_)
                      have z33 : v33.toInt = 2 := zi_c e33 (by decide)
                      refine lv_bipush (v := 8) hx hb dX7_encode_403 (by decide) ?_
                      refine lv_topi (fun v34 e34 => ?_)
                      have z34 : v34.toInt = 8 := zi_c e34 (by decide)
                      have hh35 : 0 ≤ v33.toInt ∧ 0 ≤ v34.toInt ∧ v33.toInt + v34.toInt ≤ 66 := (by omega)
                      have hh36 : v34.toInt ≤ 8 := (by omega)
                      refine call_v (wc := [(aM, .inr (6, [.int th, .int mw, .ref bG, .int mz, .ref bL, .ref bY, .ref bB, .ref bC, .int tk, .int ss, .int ml, .int mh, .int mp, .int rw, .int wr, .int tc, .ref bT])), (bB, .inl (cI, 66, .inl f18))]) (wr := [(bG, .inl (cI, 8, .inl gg))]) (run_V (As := [.int v32, .int v33, .int v34]) (rest := []) kv_RX7_47 ⟨by decide, by decide⟩ ⟨rfl, rfl⟩ ⟨hx, hb, hml, hown, hts⟩ (c_Mo_setBits l D cI cJ cB aM bG bL bY bB bC bT th mw mz tk ss ml mh mp rw wr tc f18 v32 v33 v34 hh35 hh36 _) ct_blind (ct_pre (wc := [(aM, .inr (6, [.int th, .int mw, .ref bG, .int mz, .ref bL, .ref bY, .ref bB, .ref bC, .int tk, .int ss, .int ml, .int mh, .int mp, .int rw, .int wr, .int tc, .ref bT])), (bB, .inl (cI, 66, .inl f18))]) hK hP hD hS hA hZ hN [1, 0] (by decide) rfl rfl) (va_recv hK hP (ci := 6) (q0 := 1) rfl rfl) rfl hl.1 rfl (Nat.le_of_ble_eq_true rfl) dX7_encode_405 ⟨Nat.le_of_ble_eq_true rfl, Nat.le_of_ble_eq_true rfl⟩) hP hD hS hA [1, 0] [2] rfl rfl (by decide) (by decide) (fun u H locs hw37 hP1 hD1 hS1 => ?_)
                      obtain ⟨gb2_37, hu9⟩ : ∃ z, z = u := ⟨_, rfl⟩
                      subst hu9
                      have hw37 : ∀ q : Nat, gb2_37 q = if v33.toInt.toNat ≤ q ∧ q < v33.toInt.toNat + v34.toInt.toNat then bi (bt v32 (q - v33.toInt.toNat)) else f18 q := hw37
                      clear hP hD hS
                      have hP : va_P D classes [(bG, .inl (cI, 8, .inl gg)), (aM, .inr (6, [.int th, .int mw, .ref bG, .int mz, .ref bL, .ref bY, .ref bB, .ref bC, .int tk, .int ss, .int ml, .int mh, .int mp, .int rw, .int wr, .int tc, .ref bT])), (bB, .inl (cI, 66, .inl gb2_37))] H := hP1
                      have hD : va_D A [(bG, .inl (cI, 8, .inl gg)), (aM, .inr (6, [.int th, .int mw, .ref bG, .int mz, .ref bL, .ref bY, .ref bB, .ref bC, .int tk, .int ss, .int ml, .int mh, .int mp, .int rw, .int wr, .int tc, .ref bT])), (bB, .inl (cI, 66, .inl gb2_37))] := hD1
                      have hS := hS1
                      clear hP1 hD1 hS1
                      refine lv_iconst (v := 0) hx hb dX7_encode_408 (by decide) ?_
                      refine lv_topi (fun v38 e38 => ?_)
                      have z38 : v38.toInt = 0 := zi_c e38 (by decide)
                      refine lv_istore_n (lv' := [(3, .int v38), (2, .int r31), (0, .ref aM), (1, .int en)]) hx hb dX7_encode_409 rfl hl (by decide) rfl (fun ls hl => ?_)
                      have J410 : ∀ (n : Nat) (k8 : Int32) (gg4 : Nat → Int32) (gb4 : Nat → Int32) (H : Heap) (locs : List Loc) (ls : Array Slot), ((8 - k8.toInt).toNat) < n → (0 ≤ k8.toInt ∧ k8.toInt ≤ 8) → ((¬ r31.toInt = 0 → (∀ j, gg4 j = gg j) ∧ ∀ q, gb4 q = uC gg gb2_37 0 k8.toInt.toNat q) ∧ (r31.toInt = 0 → ∀ q, gb4 q = uC gE gb2_37 0 k8.toInt.toNat q)) → va_P D classes [(bG, .inl (cI, 8, .inl gg4)), (aM, .inr (6, [.int th, .int mw, .ref bG, .int mz, .ref bL, .ref bY, .ref bB, .ref bC, .int tk, .int ss, .int ml, .int mh, .int mp, .int rw, .int wr, .int tc, .ref bT])), (bB, .inl (cI, 66, .inl gb4))] H → va_D A [(bG, .inl (cI, 8, .inl gg4)), (aM, .inr (6, [.int th, .int mw, .ref bG, .int mz, .ref bL, .ref bY, .ref bB, .ref bC, .int tk, .int ss, .int ml, .int mh, .int mp, .int rw, .int wr, .int tc, .ref bT])), (bB, .inl (cI, 66, .inl gb4))] → va_S A s.heap H locs → lv_has ls 4 [(2, .int r31), (0, .ref aM), (1, .int en), (3, .int k8)] → W p l e (rmL 2 46 0 0) s m args below meth c H locs 0 0 Q (F0 m 410 ls []) := by
                        intro n
                        induction n with
                        | zero => intro k8 gg4 gb4 H locs ls hmu; exact absurd hmu (Nat.not_lt_zero _)
                        | succ n ih410 =>
                          intro k8 gg4 gb4 H locs ls hmu410 i410_0 i410_1 hP hD hS hl
                          have rg_k8 := zi_rg k8
                          refine lv_iload_n hx hb dX7_encode_410 rfl (lv_at hl 3 rfl) ?_
                          refine lv_bipush (v := 8) hx hb dX7_encode_411 (by decide) ?_
                          refine lv_topi (fun v39 e39 => ?_)
                          have z39 : v39.toInt = 8 := zi_c e39 (by decide)
                          refine lv_icmp_ge (tgt := 456) hx hb dX7_encode_413 (by decide) (fun c40 => ?_) (fun c40 => ?_)
                          ·
                            have z40 := zi_le c40
                            have hq41 : okE gg gb4 := (by first | exact okE_cg (fun q => by rw [i151_1 q, show k3.toInt.toNat = 8 by omega, show gb2_176 = uT f18 120 from funext (uT_of hw176 (by omega) (by omega) (i_of z171 (by decide)))]) (enc_st ⟨by rw [show gg 0 = v20 from by rw [e20, show v19.toNatClampNeg = 0 from by show v19.toInt.toNat = 0; omega]]; omega, stD_t (show stD r169 (aD gg 1 8) from by have g := hw169.1 (by omega); rw [show v163.toInt.toNat = 1 by omega, show v164.toInt.toNat = 8 by omega] at g; exact g) z170⟩ (hdZ_of (p := 0) (fun q hq => i2_1 q (by omega)) ef18 (by omega) e17)) | exact okE_cg (fun q => by rw [i253_1 q, show k5.toInt.toNat = 8 by omega, show gb4 = uC gg gb2_136 0 4 from funext (fun q => by rw [i228_1 q, show k4.toInt.toNat = 4 by omega]), show gb2_136 = uT f18 51 from funext (uT_of hw136 (by omega) (by omega) (i_of z131 (by decide)))]) (enc_mid ⟨by rw [show gg 4 = v23 from by rw [e23, show v22.toNatClampNeg = 4 from by show v22.toInt.toNat = 4; omega]]; omega, stD_t (show stD r121 (aQ gg 0 4) from by have g := hw121.2 (by omega); rw [show v115.toInt.toNat = 0 by omega, show v116.toInt.toNat = 4 by omega] at g; exact g) z122, stD_t (show stD r129 (aD gg 5 8) from by have g := hw129.1 (by omega); rw [show v123.toInt.toNat = 5 by omega, show v124.toInt.toNat = 8 by omega] at g; exact g) z130⟩ (hdZ_of (p := 0) (fun q hq => i2_1 q (by omega)) ef18 (by omega) e17)) | exact okE_cg (fun q => by rw [i360_1 q, show k7.toInt.toNat = 8 by omega, show gb4 = uD gg gb2_86 10 0 en.toInt.toNat from funext (fun q => by rw [i326_1 q, show k6.toInt.toNat = en.toInt.toNat by omega]), show gb2_86 = uT f18 (st_k en.toInt.toNat) from funext (uT_of hw86 (by omega) (by omega) hw81)]) (enc_end (by omega) ⟨(by rcases i25_2 with g | g; (· omega); (· exact g.2.1)), stD_t (show stD r69 (aD gg 0 en.toInt.toNat) from by have g := hw69.1 (by omega); rw [show v64.toInt.toNat = 0 by omega] at g; exact g) z70, stD_t (show stD r78 (aQ gg (en.toInt.toNat + 1) 8) from by have g := hw78.2 (by omega); rw [show v72.toInt.toNat = en.toInt.toNat + 1 by omega, show v73.toInt.toNat = 8 by omega] at g; exact g) z79⟩ (hdZ_of (p := 0) (fun q hq => i2_1 q (by omega)) ef18 (by omega) e17)) | (by_cases q9 : r31.toInt = 0; (· exact okE_cg (fun q => by rw [i410_1.2 q9 q, show k8.toInt.toNat = 8 by omega, show gb2_37 = uT f18 30 from funext (uT_of hw37 (by omega) (by omega) (i_of z32 (by decide)))]) (enc_err (stD_f (show stD r14 (aD gg 0 8) from by have g := hw14.1 (by omega); rw [show v8.toInt.toNat = 0 by omega, show v9.toInt.toNat = 8 by omega] at g; exact g) z15) i184_0 i286_0 i390_0 (stD_f (show stD r31 (aQ gg 0 8) from by have g := hw31.2 (by omega); rw [show v25.toInt.toNat = 0 by omega, show v26.toInt.toNat = 8 by omega] at g; exact g) q9) (hdZ_of (p := 0) (fun q hq => i2_1 q (by omega)) ef18 (by omega) e17))); (· exact okE_cg (fun q => by rw [(i410_1.1 q9).2 q, show k8.toInt.toNat = 8 by omega, show gb2_37 = uT f18 30 from funext (uT_of hw37 (by omega) (by omega) (i_of z32 (by decide)))]) (enc_qui (stD_t (show stD r31 (aQ gg 0 8) from by have g := hw31.2 (by omega); rw [show v25.toInt.toNat = 0 by omega, show v26.toInt.toNat = 8 by omega] at g; exact g) q9) (hdZ_of (p := 0) (fun q hq => i2_1 q (by omega)) ef18 (by omega) e17)))))
                            exact hret (gg4, gb4) _ _ _ _ dX7_encode_456 hq41 (hP.sub [1, 0, 2] rfl) (hD.sub [1, 0, 2] (by decide) rfl) hS
                          ·
                            have z40 := zi_nle c40
                            refine lv_aload_n hx hb dX7_encode_416 rfl (lv_at hl 1 rfl) ?_
                            refine va_get (D := D) (ci := 6) (v := .ref bG) (C := RX7) (T := TX7) (N := 17) hx hb hts in_X7 hown hK hP 1 rfl rfl 2 (by decide) (hts _ wk60) (fun _ h9 => h9) rfl dX7_encode_417 ?_
                            refine lv_iload_n hx hb dX7_encode_420 rfl (lv_at hl 3 rfl) ?_
                            refine lv_iload_n hx hb dX7_encode_421 rfl (lv_at hl 0 rfl) ?_
                            refine lv_if_eq (tgt := 434) hx hb dX7_encode_422 (by decide) (fun c42 => ?_) (fun c42 => ?_)
                            ·
                              have z42 := zi_eq0 c42
                              refine lv_sipush (v := 259) hx hb dX7_encode_434 (by decide) ?_
                              refine lv_topi (fun v43 e43 => ?_)
                              have z43 : v43.toInt = 259 := zi_c e43 (by decide)
                              obtain ⟨f44, ef44⟩ : ∃ z9, z9 = upd gg4 k8.toNatClampNeg v43 := ⟨_, rfl⟩
                              refine va_iast hx hb hK hP hD hS 0 0 rfl rfl (zi_in (by omega)) dX7_encode_437 (fun H locs hP1 hD1 hS1 => ?_)
                              rw [← ef44] at hP1 hD1
                              clear hP hD hS
                              have hP : va_P D classes [(bG, .inl (cI, 8, .inl f44)), (aM, .inr (6, [.int th, .int mw, .ref bG, .int mz, .ref bL, .ref bY, .ref bB, .ref bC, .int tk, .int ss, .int ml, .int mh, .int mp, .int rw, .int wr, .int tc, .ref bT])), (bB, .inl (cI, 66, .inl gb4))] H := hP1
                              have hD : va_D A [(bG, .inl (cI, 8, .inl f44)), (aM, .inr (6, [.int th, .int mw, .ref bG, .int mz, .ref bL, .ref bY, .ref bB, .ref bC, .int tk, .int ss, .int ml, .int mh, .int mp, .int rw, .int wr, .int tc, .ref bT])), (bB, .inl (cI, 66, .inl gb4))] := hD1
                              have hS := hS1
                              clear hP1 hD1 hS1
                              refine lv_aload_n hx hb dX7_encode_438 rfl (lv_at hl 1 rfl) ?_
                              refine lv_iload_n hx hb dX7_encode_439 rfl (lv_at hl 3 rfl) ?_
                              refine lv_bipush (v := 10) hx hb dX7_encode_440 (by decide) ?_
                              refine lv_topi (fun v45 e45 => ?_)
                              have z45 : v45.toInt = 10 := zi_c e45 (by decide)
                              refine lv_bipush (v := 7) hx hb dX7_encode_442 (by decide) ?_
                              refine lv_topi (fun v46 e46 => ?_)
                              have z46 : v46.toInt = 7 := zi_c e46 (by decide)
                              refine lv_iload_n hx hb dX7_encode_444 rfl (lv_at hl 3 rfl) ?_
                              refine lv_imul hx hb dX7_encode_445 ?_
                              refine lv_topi (fun v47 e47 => ?_)
                              first | have z47 := zi_mulL (k := 7) e47 (by omega) (by omega) | skip
                              refine lv_iadd hx hb dX7_encode_446 ?_
                              refine lv_topi (fun v48 e48 => ?_)
                              first | have z48 := zi_add e48 (by omega) | skip
                              have hh49 : 0 ≤ k8.toInt ∧ k8.toInt < 8 := (by omega)
                              have hh50 : 0 ≤ v48.toInt ∧ v48.toInt + 7 ≤ 66 := (by omega)
                              refine call_v (wc := [(aM, .inr (6, [.int th, .int mw, .ref bG, .int mz, .ref bL, .ref bY, .ref bB, .ref bC, .int tk, .int ss, .int ml, .int mh, .int mp, .int rw, .int wr, .int tc, .ref bT])), (bG, .inl (cI, 8, .inl f44)), (bB, .inl (cI, 66, .inl gb4))]) (wr := []) (run_V (As := [.int k8, .int v48]) (rest := []) kv_RX7_55 ⟨by decide, by decide⟩ ⟨rfl, rfl⟩ ⟨hx, hb, hml, hown, hts⟩ (c_Mo_putCode l D cI cJ cB aM bG bL bY bB bC bT th mw mz tk ss ml mh mp rw wr tc f44 gb4 k8 v48 hh49 hh50 _) ct_blind (ct_pre (wc := [(aM, .inr (6, [.int th, .int mw, .ref bG, .int mz, .ref bL, .ref bY, .ref bB, .ref bC, .int tk, .int ss, .int ml, .int mh, .int mp, .int rw, .int wr, .int tc, .ref bT])), (bG, .inl (cI, 8, .inl f44)), (bB, .inl (cI, 66, .inl gb4))]) hK hP hD hS hA hZ hN [1, 0, 2] (by decide) rfl rfl) (va_recv hK hP (ci := 6) (q0 := 1) rfl rfl) rfl hl.1 rfl (Nat.le_of_ble_eq_true rfl) dX7_encode_447 ⟨Nat.le_of_ble_eq_true rfl, Nat.le_of_ble_eq_true rfl⟩) hP hD hS hA [1, 0, 2] [] rfl rfl (by decide) (by decide) (fun u H locs hw51 hP1 hD1 hS1 => ?_)
                              obtain ⟨gb2_51, hu9⟩ : ∃ z, z = u := ⟨_, rfl⟩
                              subst hu9
                              have hw51 : ∀ q : Nat, gb2_51 q = if v48.toInt.toNat ≤ q ∧ q < v48.toInt.toNat + 7 then bi (decide (¬ (f44 k8.toInt.toNat).toInt = 256) && bt 30 (q - v48.toInt.toNat)) else gb4 q := hw51
                              clear hP hD hS
                              have hP : va_P D classes [(aM, .inr (6, [.int th, .int mw, .ref bG, .int mz, .ref bL, .ref bY, .ref bB, .ref bC, .int tk, .int ss, .int ml, .int mh, .int mp, .int rw, .int wr, .int tc, .ref bT])), (bG, .inl (cI, 8, .inl f44)), (bB, .inl (cI, 66, .inl gb2_51))] H := hP1
                              have hD : va_D A [(aM, .inr (6, [.int th, .int mw, .ref bG, .int mz, .ref bL, .ref bY, .ref bB, .ref bC, .int tk, .int ss, .int ml, .int mh, .int mp, .int rw, .int wr, .int tc, .ref bT])), (bG, .inl (cI, 8, .inl f44)), (bB, .inl (cI, 66, .inl gb2_51))] := hD1
                              have hS := hS1
                              clear hP1 hD1 hS1
                              obtain ⟨v52, e52⟩ : ∃ y : Int32, y = k8 + 1 := ⟨_, rfl⟩
                              first | have z52 := zi_inc (z := 1) 1 (by decide) e52 (by omega) | skip
                              refine lv_iinc (v := v52) (lv' := [(3, .int v52), (2, .int r31), (0, .ref aM), (1, .int en)]) hx hb dX7_encode_450 hl (k := 3) rfl (by rw [e52]; rfl) (by decide) rfl (fun ls hl => ?_)
                              refine lv_goto (tgt := 410) hx hb dX7_encode_453 (by decide) ?_
                              exact ih410 v52 f44 gb2_51 _ _ _ (by omega) (by omega) (by first | exact ⟨fun q9 => absurd z42 q9, fun q9 => uC_s (i410_1.2 q9) hw51 (by omega) (by rw [ef44, show upd gg4 k8.toNatClampNeg v43 k8.toInt.toNat = v43 from pk_us, e43]; rfl) (by omega) (by omega)⟩ | exact ⟨fun q9 => ⟨fun j => by rw [ef54]; by_cases g : j = k8.toInt.toNat; (· rw [g, show upd gg4 k8.toNatClampNeg v53 k8.toInt.toNat = v53 from pk_us, e53]; exact (i410_1.1 q9).1 _); (· rw [pk_un (show j ≠ k8.toNatClampNeg from g)]; exact (i410_1.1 q9).1 j), uC_s (i410_1.1 q9).2 hw61 (by omega) (by rw [ef54, show upd gg4 k8.toNatClampNeg v53 k8.toInt.toNat = v53 from pk_us, e53]; exact ((i410_1.1 q9).1 _).symm) (by omega) (by omega)⟩, fun q9 => absurd q9 z42⟩) (hP.sub [1, 0, 2] rfl) (hD.sub [1, 0, 2] (by decide) rfl) hS (lv_sub hl [1, 2, 3, 0] rfl)
                            ·
                              have z42 := zi_ne0 c42
                              refine lv_aload_n hx hb dX7_encode_425 rfl (lv_at hl 1 rfl) ?_
                              refine va_get (D := D) (ci := 6) (v := .ref bG) (C := RX7) (T := TX7) (N := 17) hx hb hts in_X7 hown hK hP 1 rfl rfl 2 (by decide) (hts _ wk60) (fun _ h9 => h9) rfl dX7_encode_426 ?_
                              refine lv_iload_n hx hb dX7_encode_429 rfl (lv_at hl 3 rfl) ?_
                              refine va_iald hx hb hK hP 0 0 rfl rfl (zi_in (by omega)) dX7_encode_430 ?_
                              refine lv_topi (fun v53 e53 => ?_)
                              refine lv_goto (tgt := 437) hx hb dX7_encode_431 (by decide) ?_
                              obtain ⟨f54, ef54⟩ : ∃ z9, z9 = upd gg4 k8.toNatClampNeg v53 := ⟨_, rfl⟩
                              refine va_iast hx hb hK hP hD hS 0 0 rfl rfl (zi_in (by omega)) dX7_encode_437 (fun H locs hP1 hD1 hS1 => ?_)
                              rw [← ef54] at hP1 hD1
                              clear hP hD hS
                              have hP : va_P D classes [(bG, .inl (cI, 8, .inl f54)), (aM, .inr (6, [.int th, .int mw, .ref bG, .int mz, .ref bL, .ref bY, .ref bB, .ref bC, .int tk, .int ss, .int ml, .int mh, .int mp, .int rw, .int wr, .int tc, .ref bT])), (bB, .inl (cI, 66, .inl gb4))] H := hP1
                              have hD : va_D A [(bG, .inl (cI, 8, .inl f54)), (aM, .inr (6, [.int th, .int mw, .ref bG, .int mz, .ref bL, .ref bY, .ref bB, .ref bC, .int tk, .int ss, .int ml, .int mh, .int mp, .int rw, .int wr, .int tc, .ref bT])), (bB, .inl (cI, 66, .inl gb4))] := hD1
                              have hS := hS1
                              clear hP1 hD1 hS1
                              refine lv_aload_n hx hb dX7_encode_438 rfl (lv_at hl 1 rfl) ?_
                              refine lv_iload_n hx hb dX7_encode_439 rfl (lv_at hl 3 rfl) ?_
                              refine lv_bipush (v := 10) hx hb dX7_encode_440 (by decide) ?_
                              refine lv_topi (fun v55 e55 => ?_)
                              have z55 : v55.toInt = 10 := zi_c e55 (by decide)
                              refine lv_bipush (v := 7) hx hb dX7_encode_442 (by decide) ?_
                              refine lv_topi (fun v56 e56 => ?_)
                              have z56 : v56.toInt = 7 := zi_c e56 (by decide)
                              refine lv_iload_n hx hb dX7_encode_444 rfl (lv_at hl 3 rfl) ?_
                              refine lv_imul hx hb dX7_encode_445 ?_
                              refine lv_topi (fun v57 e57 => ?_)
                              first | have z57 := zi_mulL (k := 7) e57 (by omega) (by omega) | skip
                              refine lv_iadd hx hb dX7_encode_446 ?_
                              refine lv_topi (fun v58 e58 => ?_)
                              first | have z58 := zi_add e58 (by omega) | skip
                              have hh59 : 0 ≤ k8.toInt ∧ k8.toInt < 8 := (by omega)
                              have hh60 : 0 ≤ v58.toInt ∧ v58.toInt + 7 ≤ 66 := (by omega)
                              refine call_v (wc := [(aM, .inr (6, [.int th, .int mw, .ref bG, .int mz, .ref bL, .ref bY, .ref bB, .ref bC, .int tk, .int ss, .int ml, .int mh, .int mp, .int rw, .int wr, .int tc, .ref bT])), (bG, .inl (cI, 8, .inl f54)), (bB, .inl (cI, 66, .inl gb4))]) (wr := []) (run_V (As := [.int k8, .int v58]) (rest := []) kv_RX7_55 ⟨by decide, by decide⟩ ⟨rfl, rfl⟩ ⟨hx, hb, hml, hown, hts⟩ (c_Mo_putCode l D cI cJ cB aM bG bL bY bB bC bT th mw mz tk ss ml mh mp rw wr tc f54 gb4 k8 v58 hh59 hh60 _) ct_blind (ct_pre (wc := [(aM, .inr (6, [.int th, .int mw, .ref bG, .int mz, .ref bL, .ref bY, .ref bB, .ref bC, .int tk, .int ss, .int ml, .int mh, .int mp, .int rw, .int wr, .int tc, .ref bT])), (bG, .inl (cI, 8, .inl f54)), (bB, .inl (cI, 66, .inl gb4))]) hK hP hD hS hA hZ hN [1, 0, 2] (by decide) rfl rfl) (va_recv hK hP (ci := 6) (q0 := 1) rfl rfl) rfl hl.1 rfl (Nat.le_of_ble_eq_true rfl) dX7_encode_447 ⟨Nat.le_of_ble_eq_true rfl, Nat.le_of_ble_eq_true rfl⟩) hP hD hS hA [1, 0, 2] [] rfl rfl (by decide) (by decide) (fun u H locs hw61 hP1 hD1 hS1 => ?_)
                              obtain ⟨gb2_61, hu9⟩ : ∃ z, z = u := ⟨_, rfl⟩
                              subst hu9
                              have hw61 : ∀ q : Nat, gb2_61 q = if v58.toInt.toNat ≤ q ∧ q < v58.toInt.toNat + 7 then bi (decide (¬ (f54 k8.toInt.toNat).toInt = 256) && bt 30 (q - v58.toInt.toNat)) else gb4 q := hw61
                              clear hP hD hS
                              have hP : va_P D classes [(aM, .inr (6, [.int th, .int mw, .ref bG, .int mz, .ref bL, .ref bY, .ref bB, .ref bC, .int tk, .int ss, .int ml, .int mh, .int mp, .int rw, .int wr, .int tc, .ref bT])), (bG, .inl (cI, 8, .inl f54)), (bB, .inl (cI, 66, .inl gb2_61))] H := hP1
                              have hD : va_D A [(aM, .inr (6, [.int th, .int mw, .ref bG, .int mz, .ref bL, .ref bY, .ref bB, .ref bC, .int tk, .int ss, .int ml, .int mh, .int mp, .int rw, .int wr, .int tc, .ref bT])), (bG, .inl (cI, 8, .inl f54)), (bB, .inl (cI, 66, .inl gb2_61))] := hD1
                              have hS := hS1
                              clear hP1 hD1 hS1
                              obtain ⟨v62, e62⟩ : ∃ y : Int32, y = k8 + 1 := ⟨_, rfl⟩
                              first | have z62 := zi_inc (z := 1) 1 (by decide) e62 (by omega) | skip
                              refine lv_iinc (v := v62) (lv' := [(3, .int v62), (2, .int r31), (0, .ref aM), (1, .int en)]) hx hb dX7_encode_450 hl (k := 3) rfl (by rw [e62]; rfl) (by decide) rfl (fun ls hl => ?_)
                              refine lv_goto (tgt := 410) hx hb dX7_encode_453 (by decide) ?_
                              exact ih410 v62 f54 gb2_61 _ _ _ (by omega) (by omega) (by first | exact ⟨fun q9 => absurd z42 q9, fun q9 => uC_s (i410_1.2 q9) hw51 (by omega) (by rw [ef44, show upd gg4 k8.toNatClampNeg v43 k8.toInt.toNat = v43 from pk_us, e43]; rfl) (by omega) (by omega)⟩ | exact ⟨fun q9 => ⟨fun j => by rw [ef54]; by_cases g : j = k8.toInt.toNat; (· rw [g, show upd gg4 k8.toNatClampNeg v53 k8.toInt.toNat = v53 from pk_us, e53]; exact (i410_1.1 q9).1 _); (· rw [pk_un (show j ≠ k8.toNatClampNeg from g)]; exact (i410_1.1 q9).1 j), uC_s (i410_1.1 q9).2 hw61 (by omega) (by rw [ef54, show upd gg4 k8.toNatClampNeg v53 k8.toInt.toNat = v53 from pk_us, e53]; exact ((i410_1.1 q9).1 _).symm) (by omega) (by omega)⟩, fun q9 => absurd q9 z42⟩) (hP.sub [1, 0, 2] rfl) (hD.sub [1, 0, 2] (by decide) rfl) hS (lv_sub hl [1, 2, 3, 0] rfl)
                      exact J410 _ v38 gg gb2_37 _ _ _ (Nat.lt_succ_self _) (by omega) ⟨fun _ => ⟨fun _ => rfl, fun q => uC_0 (by omega) q⟩, fun _ q => uC_0 (by omega) q⟩ (hP.sub [0, 1, 2] rfl) (hD.sub [0, 1, 2] (by decide) rfl) hS (lv_sub hl [1, 2, 3, 0] rfl)
                    refine lv_if_lt (tgt := 390) hx hb dX7_encode_287 (by decide) (fun c63 => ?_) (fun c63 => ?_)
                    ·
                      have z63 := zi_lt0 c63
                      exact J390  _ _ _  (fun d hd c => by obtain ⟨u1, u2⟩ := fEnd_u (by have g := i25_2; rw [show k1.toInt.toNat = 8 by omega] at g; exact g) hd c; first | omega | exact absurd (show aD gg 0 en.toInt.toNat from by rw [← u2]; exact c.2.1) (stD_f (show stD r69 (aD gg 0 en.toInt.toNat) from by have g := hw69.1 (by omega); rw [show v64.toInt.toNat = 0 by omega] at g; exact g) z70) | exact absurd (show aQ gg (en.toInt.toNat + 1) 8 from by rw [← u2]; exact c.2.2) (stD_f (show stD r78 (aQ gg (en.toInt.toNat + 1) 8) from by have g := hw78.2 (by omega); rw [show v72.toInt.toNat = en.toInt.toNat + 1 by omega, show v73.toInt.toNat = 8 by omega] at g; exact g) z79)) (hP.sub [0, 1, 2] rfl) (hD.sub [0, 1, 2] (by decide) rfl) hS (lv_sub hl [0, 1, 2] rfl)
                    ·
                      have z63 := zi_nlt0 c63
                      refine lv_aload_n hx hb dX7_encode_290 rfl (lv_at hl 0 rfl) ?_
                      refine lv_iconst (v := 0) hx hb dX7_encode_291 (by decide) ?_
                      refine lv_topi (fun v64 e64 => ?_)
                      have z64 : v64.toInt = 0 := zi_c e64 (by decide)
                      refine lv_iload_n hx hb dX7_encode_292 rfl (lv_at hl 1 rfl) ?_
                      refine lv_iconst (v := 1) hx hb dX7_encode_293 (by decide) ?_
                      refine lv_topi (fun v65 e65 => ?_)
                      have z65 : v65.toInt = 1 := zi_c e65 (by decide)
                      have hh66 : 0 ≤ v64.toInt ∧ v64.toInt ≤ 8 := (by omega)
                      have hh67 : 0 ≤ en.toInt ∧ en.toInt ≤ 8 := (by omega)
                      have hh68 : v64.toInt ≤ en.toInt := (by omega)
                      refine call_i (wc := [(aM, .inr (6, [.int th, .int mw, .ref bG, .int mz, .ref bL, .ref bY, .ref bB, .ref bC, .int tk, .int ss, .int ml, .int mh, .int mp, .int rw, .int wr, .int tc, .ref bT])), (bG, .inl (cI, 8, .inl gg))]) (wr := [(bB, .inl (cI, 66, .inl f18))]) (run_V (As := [.int v64, .int en, .int v65]) (rest := []) kv_RX7_51 ⟨by decide, by decide⟩ ⟨rfl, rfl⟩ ⟨hx, hb, hml, hown, hts⟩ (c_Mo_are l D cI cJ cB aM bG bL bY bB bC bT th mw mz tk ss ml mh mp rw wr tc gg v64 en v65 hh66 hh67 hh68 _) ct_blind (ct_pre (wc := [(aM, .inr (6, [.int th, .int mw, .ref bG, .int mz, .ref bL, .ref bY, .ref bB, .ref bC, .int tk, .int ss, .int ml, .int mh, .int mp, .int rw, .int wr, .int tc, .ref bT])), (bG, .inl (cI, 8, .inl gg))]) hK hP hD hS hA hZ hN [1, 2] (by decide) rfl rfl) (va_recv hK hP (ci := 6) (q0 := 1) rfl rfl) rfl hl.1 rfl (Nat.le_of_ble_eq_true rfl) dX7_encode_294 ⟨Nat.le_of_ble_eq_true rfl, Nat.le_of_ble_eq_true rfl⟩) hP hD hS hA [1, 2] [0] rfl rfl (by decide) (by decide) (fun r69 u H locs hw69 hP1 hD1 hS1 => ?_)
                      have hw69 : (¬ v65.toInt = 0 → stD r69 (aD gg v64.toInt.toNat en.toInt.toNat)) ∧ (v65.toInt = 0 → stD r69 (aQ gg v64.toInt.toNat en.toInt.toNat)) := hw69
                      clear hP hD hS
                      have hP : va_P D classes [(bB, .inl (cI, 66, .inl f18)), (aM, .inr (6, [.int th, .int mw, .ref bG, .int mz, .ref bL, .ref bY, .ref bB, .ref bC, .int tk, .int ss, .int ml, .int mh, .int mp, .int rw, .int wr, .int tc, .ref bT])), (bG, .inl (cI, 8, .inl gg))] H := hP1
                      have hD : va_D A [(bB, .inl (cI, 66, .inl f18)), (aM, .inr (6, [.int th, .int mw, .ref bG, .int mz, .ref bL, .ref bY, .ref bB, .ref bC, .int tk, .int ss, .int ml, .int mh, .int mp, .int rw, .int wr, .int tc, .ref bT])), (bG, .inl (cI, 8, .inl gg))] := hD1
                      have hS := hS1
                      clear hP1 hD1 hS1
                      have rg_r69 := zi_rg r69
                      refine lv_if_eq (tgt := 390) hx hb dX7_encode_297 (by decide) (fun c70 => ?_) (fun c70 => ?_)
                      ·
                        have z70 := zi_eq0 c70
                        exact J390  _ _ _  (fun d hd c => by obtain ⟨u1, u2⟩ := fEnd_u (by have g := i25_2; rw [show k1.toInt.toNat = 8 by omega] at g; exact g) hd c; first | omega | exact absurd (show aD gg 0 en.toInt.toNat from by rw [← u2]; exact c.2.1) (stD_f (show stD r69 (aD gg 0 en.toInt.toNat) from by have g := hw69.1 (by omega); rw [show v64.toInt.toNat = 0 by omega] at g; exact g) z70) | exact absurd (show aQ gg (en.toInt.toNat + 1) 8 from by rw [← u2]; exact c.2.2) (stD_f (show stD r78 (aQ gg (en.toInt.toNat + 1) 8) from by have g := hw78.2 (by omega); rw [show v72.toInt.toNat = en.toInt.toNat + 1 by omega, show v73.toInt.toNat = 8 by omega] at g; exact g) z79)) (hP.sub [0, 1, 2] rfl) (hD.sub [0, 1, 2] (by decide) rfl) hS (lv_sub hl [0, 1, 2] rfl)
                      ·
                        have z70 := zi_ne0 c70
                        refine lv_aload_n hx hb dX7_encode_300 rfl (lv_at hl 0 rfl) ?_
                        refine lv_iload_n hx hb dX7_encode_301 rfl (lv_at hl 1 rfl) ?_
                        refine lv_iconst (v := 1) hx hb dX7_encode_302 (by decide) ?_
                        refine lv_topi (fun v71 e71 => ?_)
                        have z71 : v71.toInt = 1 := zi_c e71 (by decide)
                        refine lv_iadd hx hb dX7_encode_303 ?_
                        refine lv_topi (fun v72 e72 => ?_)
                        first | have z72 := zi_add e72 (by omega) | skip
                        refine lv_bipush (v := 8) hx hb dX7_encode_304 (by decide) ?_
                        refine lv_topi (fun v73 e73 => ?_)
                        have z73 : v73.toInt = 8 := zi_c e73 (by decide)
                        refine lv_iconst (v := 0) hx hb dX7_encode_306 (by decide) ?_
                        refine lv_topi (fun v74 e74 => ?_)
                        have z74 : v74.toInt = 0 := zi_c e74 (by decide)
                        have hh75 : 0 ≤ v72.toInt ∧ v72.toInt ≤ 8 := (by omega)
                        have hh76 : 0 ≤ v73.toInt ∧ v73.toInt ≤ 8 := (by omega)
                        have hh77 : v72.toInt ≤ v73.toInt := (by omega)
                        refine call_i (wc := [(aM, .inr (6, [.int th, .int mw, .ref bG, .int mz, .ref bL, .ref bY, .ref bB, .ref bC, .int tk, .int ss, .int ml, .int mh, .int mp, .int rw, .int wr, .int tc, .ref bT])), (bG, .inl (cI, 8, .inl gg))]) (wr := [(bB, .inl (cI, 66, .inl f18))]) (run_V (As := [.int v72, .int v73, .int v74]) (rest := []) kv_RX7_51 ⟨by decide, by decide⟩ ⟨rfl, rfl⟩ ⟨hx, hb, hml, hown, hts⟩ (c_Mo_are l D cI cJ cB aM bG bL bY bB bC bT th mw mz tk ss ml mh mp rw wr tc gg v72 v73 v74 hh75 hh76 hh77 _) ct_blind (ct_pre (wc := [(aM, .inr (6, [.int th, .int mw, .ref bG, .int mz, .ref bL, .ref bY, .ref bB, .ref bC, .int tk, .int ss, .int ml, .int mh, .int mp, .int rw, .int wr, .int tc, .ref bT])), (bG, .inl (cI, 8, .inl gg))]) hK hP hD hS hA hZ hN [1, 2] (by decide) rfl rfl) (va_recv hK hP (ci := 6) (q0 := 1) rfl rfl) rfl hl.1 rfl (Nat.le_of_ble_eq_true rfl) dX7_encode_307 ⟨Nat.le_of_ble_eq_true rfl, Nat.le_of_ble_eq_true rfl⟩) hP hD hS hA [1, 2] [0] rfl rfl (by decide) (by decide) (fun r78 u H locs hw78 hP1 hD1 hS1 => ?_)
                        have hw78 : (¬ v74.toInt = 0 → stD r78 (aD gg v72.toInt.toNat v73.toInt.toNat)) ∧ (v74.toInt = 0 → stD r78 (aQ gg v72.toInt.toNat v73.toInt.toNat)) := hw78
                        clear hP hD hS
                        have hP : va_P D classes [(bB, .inl (cI, 66, .inl f18)), (aM, .inr (6, [.int th, .int mw, .ref bG, .int mz, .ref bL, .ref bY, .ref bB, .ref bC, .int tk, .int ss, .int ml, .int mh, .int mp, .int rw, .int wr, .int tc, .ref bT])), (bG, .inl (cI, 8, .inl gg))] H := hP1
                        have hD : va_D A [(bB, .inl (cI, 66, .inl f18)), (aM, .inr (6, [.int th, .int mw, .ref bG, .int mz, .ref bL, .ref bY, .ref bB, .ref bC, .int tk, .int ss, .int ml, .int mh, .int mp, .int rw, .int wr, .int tc, .ref bT])), (bG, .inl (cI, 8, .inl gg))] := hD1
                        have hS := hS1
                        clear hP1 hD1 hS1
                        have rg_r78 := zi_rg r78
                        refine lv_if_eq (tgt := 390) hx hb dX7_encode_310 (by decide) (fun c79 => ?_) (fun c79 => ?_)
                        ·
                          have z79 := zi_eq0 c79
                          exact J390  _ _ _  (fun d hd c => by obtain ⟨u1, u2⟩ := fEnd_u (by have g := i25_2; rw [show k1.toInt.toNat = 8 by omega] at g; exact g) hd c; first | omega | exact absurd (show aD gg 0 en.toInt.toNat from by rw [← u2]; exact c.2.1) (stD_f (show stD r69 (aD gg 0 en.toInt.toNat) from by have g := hw69.1 (by omega); rw [show v64.toInt.toNat = 0 by omega] at g; exact g) z70) | exact absurd (show aQ gg (en.toInt.toNat + 1) 8 from by rw [← u2]; exact c.2.2) (stD_f (show stD r78 (aQ gg (en.toInt.toNat + 1) 8) from by have g := hw78.2 (by omega); rw [show v72.toInt.toNat = en.toInt.toNat + 1 by omega, show v73.toInt.toNat = 8 by omega] at g; exact g) z79)) (hP.sub [0, 1, 2] rfl) (hD.sub [0, 1, 2] (by decide) rfl) hS (lv_sub hl [0, 1, 2] rfl)
                        ·
                          have z79 := zi_ne0 c79
                          refine lv_aload_n hx hb dX7_encode_313 rfl (lv_at hl 0 rfl) ?_
                          refine lv_iload_n hx hb dX7_encode_314 rfl (lv_at hl 1 rfl) ?_
                          have hh80 : 0 ≤ en.toInt ∧ en.toInt < 8 := (by omega)
                          refine call_i (wc := []) (wr := [(bB, .inl (cI, 66, .inl f18)), (aM, .inr (6, [.int th, .int mw, .ref bG, .int mz, .ref bL, .ref bY, .ref bB, .ref bC, .int tk, .int ss, .int ml, .int mh, .int mp, .int rw, .int wr, .int tc, .ref bT])), (bG, .inl (cI, 8, .inl gg))]) (run_S (As := [.int en]) (rest := [.ref aM]) ks_RX7_59 ⟨by decide, by decide⟩ ⟨rfl, rfl⟩ ⟨hx, hb, hml, hown, hts⟩ (c_Mo_typeOf l D cI cJ cB en hh80 _) ct_blind (ct_pre (wc := []) hK hP hD hS hA hZ hN [] (by decide) rfl rfl) rfl hl.1 rfl (Nat.le_of_ble_eq_true rfl) dX7_encode_315 ⟨Nat.le_of_ble_eq_true rfl, Nat.le_of_ble_eq_true rfl⟩) hP hD hS hA [] [0, 1, 2] rfl rfl (by decide) (by decide) (fun r81 u H locs hw81 hP1 hD1 hS1 => ?_)
                          have hw81 : r81 = st_k en.toInt.toNat := hw81
                          clear hP hD hS
                          have hP : va_P D classes [(bB, .inl (cI, 66, .inl f18)), (aM, .inr (6, [.int th, .int mw, .ref bG, .int mz, .ref bL, .ref bY, .ref bB, .ref bC, .int tk, .int ss, .int ml, .int mh, .int mp, .int rw, .int wr, .int tc, .ref bT])), (bG, .inl (cI, 8, .inl gg))] H := hP1
                          have hD : va_D A [(bB, .inl (cI, 66, .inl f18)), (aM, .inr (6, [.int th, .int mw, .ref bG, .int mz, .ref bL, .ref bY, .ref bB, .ref bC, .int tk, .int ss, .int ml, .int mh, .int mp, .int rw, .int wr, .int tc, .ref bT])), (bG, .inl (cI, 8, .inl gg))] := hD1
                          have hS := hS1
                          clear hP1 hD1 hS1
                          have rg_r81 := zi_rg r81
                          refine lv_iconst (v := 2) hx hb dX7_encode_318 (by decide) ?_
                          refine lv_topi (fun v82 e82 => ?_)
                          have z82 : v82.toInt = 2 := zi_c e82 (by decide)
                          refine lv_bipush (v := 8) hx hb dX7_encode_319 (by decide) ?_
                          refine lv_topi (fun v83 e83 => ?_)
                          have z83 : v83.toInt = 8 := zi_c e83 (by decide)
                          have hh84 : 0 ≤ v82.toInt ∧ 0 ≤ v83.toInt ∧ v82.toInt + v83.toInt ≤ 66 := (by omega)
                          have hh85 : v83.toInt ≤ 8 := (by omega)
                          refine call_v (wc := [(aM, .inr (6, [.int th, .int mw, .ref bG, .int mz, .ref bL, .ref bY, .ref bB, .ref bC, .int tk, .int ss, .int ml, .int mh, .int mp, .int rw, .int wr, .int tc, .ref bT])), (bB, .inl (cI, 66, .inl f18))]) (wr := [(bG, .inl (cI, 8, .inl gg))]) (run_V (As := [.int r81, .int v82, .int v83]) (rest := []) kv_RX7_47 ⟨by decide, by decide⟩ ⟨rfl, rfl⟩ ⟨hx, hb, hml, hown, hts⟩ (c_Mo_setBits l D cI cJ cB aM bG bL bY bB bC bT th mw mz tk ss ml mh mp rw wr tc f18 r81 v82 v83 hh84 hh85 _) ct_blind (ct_pre (wc := [(aM, .inr (6, [.int th, .int mw, .ref bG, .int mz, .ref bL, .ref bY, .ref bB, .ref bC, .int tk, .int ss, .int ml, .int mh, .int mp, .int rw, .int wr, .int tc, .ref bT])), (bB, .inl (cI, 66, .inl f18))]) hK hP hD hS hA hZ hN [1, 0] (by decide) rfl rfl) (va_recv hK hP (ci := 6) (q0 := 1) rfl rfl) rfl hl.1 rfl (Nat.le_of_ble_eq_true rfl) dX7_encode_321 ⟨Nat.le_of_ble_eq_true rfl, Nat.le_of_ble_eq_true rfl⟩) hP hD hS hA [1, 0] [2] rfl rfl (by decide) (by decide) (fun u H locs hw86 hP1 hD1 hS1 => ?_)
                          obtain ⟨gb2_86, hu9⟩ : ∃ z, z = u := ⟨_, rfl⟩
                          subst hu9
                          have hw86 : ∀ q : Nat, gb2_86 q = if v82.toInt.toNat ≤ q ∧ q < v82.toInt.toNat + v83.toInt.toNat then bi (bt r81 (q - v82.toInt.toNat)) else f18 q := hw86
                          clear hP hD hS
                          have hP : va_P D classes [(bG, .inl (cI, 8, .inl gg)), (aM, .inr (6, [.int th, .int mw, .ref bG, .int mz, .ref bL, .ref bY, .ref bB, .ref bC, .int tk, .int ss, .int ml, .int mh, .int mp, .int rw, .int wr, .int tc, .ref bT])), (bB, .inl (cI, 66, .inl gb2_86))] H := hP1
                          have hD : va_D A [(bG, .inl (cI, 8, .inl gg)), (aM, .inr (6, [.int th, .int mw, .ref bG, .int mz, .ref bL, .ref bY, .ref bB, .ref bC, .int tk, .int ss, .int ml, .int mh, .int mp, .int rw, .int wr, .int tc, .ref bT])), (bB, .inl (cI, 66, .inl gb2_86))] := hD1
                          have hS := hS1
                          clear hP1 hD1 hS1
                          refine lv_iconst (v := 0) hx hb dX7_encode_324 (by decide) ?_
                          refine lv_topi (fun v87 e87 => ?_)
                          have z87 : v87.toInt = 0 := zi_c e87 (by decide)
                          refine lv_istore_n (lv' := [(2, .int v87), (0, .ref aM), (1, .int en)]) hx hb dX7_encode_325 rfl hl (by decide) rfl (fun ls hl => ?_)
                          have J326 : ∀ (n : Nat) (k6 : Int32) (gb4 : Nat → Int32) (H : Heap) (locs : List Loc) (ls : Array Slot), ((en.toInt - k6.toInt).toNat) < n → (0 ≤ k6.toInt ∧ k6.toInt ≤ en.toInt) → (∀ q, gb4 q = uD gg gb2_86 10 0 k6.toInt.toNat q) → va_P D classes [(bG, .inl (cI, 8, .inl gg)), (aM, .inr (6, [.int th, .int mw, .ref bG, .int mz, .ref bL, .ref bY, .ref bB, .ref bC, .int tk, .int ss, .int ml, .int mh, .int mp, .int rw, .int wr, .int tc, .ref bT])), (bB, .inl (cI, 66, .inl gb4))] H → va_D A [(bG, .inl (cI, 8, .inl gg)), (aM, .inr (6, [.int th, .int mw, .ref bG, .int mz, .ref bL, .ref bY, .ref bB, .ref bC, .int tk, .int ss, .int ml, .int mh, .int mp, .int rw, .int wr, .int tc, .ref bT])), (bB, .inl (cI, 66, .inl gb4))] → va_S A s.heap H locs → lv_has ls 4 [(0, .ref aM), (1, .int en), (2, .int k6)] → W p l e (rmL 2 46 0 0) s m args below meth c H locs 0 0 Q (F0 m 326 ls []) := by
                            intro n
                            induction n with
                            | zero => intro k6 gb4 H locs ls hmu; exact absurd hmu (Nat.not_lt_zero _)
                            | succ n ih326 =>
                              intro k6 gb4 H locs ls hmu326 i326_0 i326_1 hP hD hS hl
                              have rg_k6 := zi_rg k6
                              refine lv_iload_n hx hb dX7_encode_326 rfl (lv_at hl 2 rfl) ?_
                              refine lv_iload_n hx hb dX7_encode_327 rfl (lv_at hl 1 rfl) ?_
                              refine lv_icmp_ge (tgt := 356) hx hb dX7_encode_328 (by decide) (fun c88 => ?_) (fun c88 => ?_)
                              ·
                                have z88 := zi_le c88
                                refine lv_iload_n hx hb dX7_encode_356 rfl (lv_at hl 1 rfl) ?_
                                refine lv_iconst (v := 1) hx hb dX7_encode_357 (by decide) ?_
                                refine lv_topi (fun v89 e89 => ?_)
                                have z89 : v89.toInt = 1 := zi_c e89 (by decide)
                                refine lv_iadd hx hb dX7_encode_358 ?_
                                refine lv_topi (fun v90 e90 => ?_)
                                first | have z90 := zi_add e90 (by omega) | skip
                                refine lv_istore_n (lv' := [(2, .int v90), (0, .ref aM), (1, .int en)]) hx hb dX7_encode_359 rfl hl (by decide) rfl (fun ls hl => ?_)
                                have J360 : ∀ (n : Nat) (k7 : Int32) (gb5 : Nat → Int32) (H : Heap) (locs : List Loc) (ls : Array Slot), ((8 - k7.toInt).toNat) < n → (en.toInt + 1 ≤ k7.toInt ∧ k7.toInt ≤ 8) → (∀ q, gb5 q = uC gg gb4 (en.toInt.toNat + 1) k7.toInt.toNat q) → va_P D classes [(bG, .inl (cI, 8, .inl gg)), (aM, .inr (6, [.int th, .int mw, .ref bG, .int mz, .ref bL, .ref bY, .ref bB, .ref bC, .int tk, .int ss, .int ml, .int mh, .int mp, .int rw, .int wr, .int tc, .ref bT])), (bB, .inl (cI, 66, .inl gb5))] H → va_D A [(bG, .inl (cI, 8, .inl gg)), (aM, .inr (6, [.int th, .int mw, .ref bG, .int mz, .ref bL, .ref bY, .ref bB, .ref bC, .int tk, .int ss, .int ml, .int mh, .int mp, .int rw, .int wr, .int tc, .ref bT])), (bB, .inl (cI, 66, .inl gb5))] → va_S A s.heap H locs → lv_has ls 4 [(0, .ref aM), (1, .int en), (2, .int k7)] → W p l e (rmL 2 46 0 0) s m args below meth c H locs 0 0 Q (F0 m 360 ls []) := by
                                  intro n
                                  induction n with
                                  | zero => intro k7 gb5 H locs ls hmu; exact absurd hmu (Nat.not_lt_zero _)
                                  | succ n ih360 =>
                                    intro k7 gb5 H locs ls hmu360 i360_0 i360_1 hP hD hS hl
                                    have rg_k7 := zi_rg k7
                                    refine lv_iload_n hx hb dX7_encode_360 rfl (lv_at hl 2 rfl) ?_
                                    refine lv_bipush (v := 8) hx hb dX7_encode_361 (by decide) ?_
                                    refine lv_topi (fun v91 e91 => ?_)
                                    have z91 : v91.toInt = 8 := zi_c e91 (by decide)
                                    refine lv_icmp_ge (tgt := 387) hx hb dX7_encode_363 (by decide) (fun c92 => ?_) (fun c92 => ?_)
                                    ·
                                      have z92 := zi_le c92
                                      refine lv_goto (tgt := 456) hx hb dX7_encode_387 (by decide) ?_
                                      have hq93 : okE gg gb5 := (by first | exact okE_cg (fun q => by rw [i151_1 q, show k3.toInt.toNat = 8 by omega, show gb2_176 = uT f18 120 from funext (uT_of hw176 (by omega) (by omega) (i_of z171 (by decide)))]) (enc_st ⟨by rw [show gg 0 = v20 from by rw [e20, show v19.toNatClampNeg = 0 from by show v19.toInt.toNat = 0; omega]]; omega, stD_t (show stD r169 (aD gg 1 8) from by have g := hw169.1 (by omega); rw [show v163.toInt.toNat = 1 by omega, show v164.toInt.toNat = 8 by omega] at g; exact g) z170⟩ (hdZ_of (p := 0) (fun q hq => i2_1 q (by omega)) ef18 (by omega) e17)) | exact okE_cg (fun q => by rw [i253_1 q, show k5.toInt.toNat = 8 by omega, show gb4 = uC gg gb2_136 0 4 from funext (fun q => by rw [i228_1 q, show k4.toInt.toNat = 4 by omega]), show gb2_136 = uT f18 51 from funext (uT_of hw136 (by omega) (by omega) (i_of z131 (by decide)))]) (enc_mid ⟨by rw [show gg 4 = v23 from by rw [e23, show v22.toNatClampNeg = 4 from by show v22.toInt.toNat = 4; omega]]; omega, stD_t (show stD r121 (aQ gg 0 4) from by have g := hw121.2 (by omega); rw [show v115.toInt.toNat = 0 by omega, show v116.toInt.toNat = 4 by omega] at g; exact g) z122, stD_t (show stD r129 (aD gg 5 8) from by have g := hw129.1 (by omega); rw [show v123.toInt.toNat = 5 by omega, show v124.toInt.toNat = 8 by omega] at g; exact g) z130⟩ (hdZ_of (p := 0) (fun q hq => i2_1 q (by omega)) ef18 (by omega) e17)) | exact okE_cg (fun q => by rw [i360_1 q, show k7.toInt.toNat = 8 by omega, show gb4 = uD gg gb2_86 10 0 en.toInt.toNat from funext (fun q => by rw [i326_1 q, show k6.toInt.toNat = en.toInt.toNat by omega]), show gb2_86 = uT f18 (st_k en.toInt.toNat) from funext (uT_of hw86 (by omega) (by omega) hw81)]) (enc_end (by omega) ⟨(by rcases i25_2 with g | g; (· omega); (· exact g.2.1)), stD_t (show stD r69 (aD gg 0 en.toInt.toNat) from by have g := hw69.1 (by omega); rw [show v64.toInt.toNat = 0 by omega] at g; exact g) z70, stD_t (show stD r78 (aQ gg (en.toInt.toNat + 1) 8) from by have g := hw78.2 (by omega); rw [show v72.toInt.toNat = en.toInt.toNat + 1 by omega, show v73.toInt.toNat = 8 by omega] at g; exact g) z79⟩ (hdZ_of (p := 0) (fun q hq => i2_1 q (by omega)) ef18 (by omega) e17)) | (by_cases q9 : r31.toInt = 0; (· exact okE_cg (fun q => by rw [i410_1.2 q9 q, show k8.toInt.toNat = 8 by omega, show gb2_37 = uT f18 30 from funext (uT_of hw37 (by omega) (by omega) (i_of z32 (by decide)))]) (enc_err (stD_f (show stD r14 (aD gg 0 8) from by have g := hw14.1 (by omega); rw [show v8.toInt.toNat = 0 by omega, show v9.toInt.toNat = 8 by omega] at g; exact g) z15) i184_0 i286_0 i390_0 (stD_f (show stD r31 (aQ gg 0 8) from by have g := hw31.2 (by omega); rw [show v25.toInt.toNat = 0 by omega, show v26.toInt.toNat = 8 by omega] at g; exact g) q9) (hdZ_of (p := 0) (fun q hq => i2_1 q (by omega)) ef18 (by omega) e17))); (· exact okE_cg (fun q => by rw [(i410_1.1 q9).2 q, show k8.toInt.toNat = 8 by omega, show gb2_37 = uT f18 30 from funext (uT_of hw37 (by omega) (by omega) (i_of z32 (by decide)))]) (enc_qui (stD_t (show stD r31 (aQ gg 0 8) from by have g := hw31.2 (by omega); rw [show v25.toInt.toNat = 0 by omega, show v26.toInt.toNat = 8 by omega] at g; exact g) q9) (hdZ_of (p := 0) (fun q hq => i2_1 q (by omega)) ef18 (by omega) e17)))))
                                      exact hret (gg, gb5) _ _ _ _ dX7_encode_456 hq93 (hP.sub [1, 0, 2] rfl) (hD.sub [1, 0, 2] (by decide) rfl) hS
                                    ·
                                      have z92 := zi_nle c92
                                      refine lv_aload_n hx hb dX7_encode_366 rfl (lv_at hl 0 rfl) ?_
                                      refine lv_iload_n hx hb dX7_encode_367 rfl (lv_at hl 2 rfl) ?_
                                      refine lv_bipush (v := 66) hx hb dX7_encode_368 (by decide) ?_
                                      refine lv_topi (fun v94 e94 => ?_)
                                      have z94 : v94.toInt = 66 := zi_c e94 (by decide)
                                      refine lv_bipush (v := 7) hx hb dX7_encode_370 (by decide) ?_
                                      refine lv_topi (fun v95 e95 => ?_)
                                      have z95 : v95.toInt = 7 := zi_c e95 (by decide)
                                      refine lv_bipush (v := 8) hx hb dX7_encode_372 (by decide) ?_
                                      refine lv_topi (fun v96 e96 => ?_)
                                      have z96 : v96.toInt = 8 := zi_c e96 (by decide)
                                      refine lv_iload_n hx hb dX7_encode_374 rfl (lv_at hl 2 rfl) ?_
                                      refine lv_isub hx hb dX7_encode_375 ?_
                                      refine lv_topi (fun v97 e97 => ?_)
                                      first | have z97 := zi_sub e97 (by omega) | skip
                                      refine lv_imul hx hb dX7_encode_376 ?_
                                      refine lv_topi (fun v98 e98 => ?_)
                                      first | have z98 := zi_mulL (k := 7) e98 (by omega) (by omega) | skip
                                      refine lv_isub hx hb dX7_encode_377 ?_
                                      refine lv_topi (fun v99 e99 => ?_)
                                      first | have z99 := zi_sub e99 (by omega) | skip
                                      have hh100 : 0 ≤ k7.toInt ∧ k7.toInt < 8 := (by omega)
                                      have hh101 : 0 ≤ v99.toInt ∧ v99.toInt + 7 ≤ 66 := (by omega)
                                      refine call_v (wc := [(aM, .inr (6, [.int th, .int mw, .ref bG, .int mz, .ref bL, .ref bY, .ref bB, .ref bC, .int tk, .int ss, .int ml, .int mh, .int mp, .int rw, .int wr, .int tc, .ref bT])), (bG, .inl (cI, 8, .inl gg)), (bB, .inl (cI, 66, .inl gb5))]) (wr := []) (run_V (As := [.int k7, .int v99]) (rest := []) kv_RX7_55 ⟨by decide, by decide⟩ ⟨rfl, rfl⟩ ⟨hx, hb, hml, hown, hts⟩ (c_Mo_putCode l D cI cJ cB aM bG bL bY bB bC bT th mw mz tk ss ml mh mp rw wr tc gg gb5 k7 v99 hh100 hh101 _) ct_blind (ct_pre (wc := [(aM, .inr (6, [.int th, .int mw, .ref bG, .int mz, .ref bL, .ref bY, .ref bB, .ref bC, .int tk, .int ss, .int ml, .int mh, .int mp, .int rw, .int wr, .int tc, .ref bT])), (bG, .inl (cI, 8, .inl gg)), (bB, .inl (cI, 66, .inl gb5))]) hK hP hD hS hA hZ hN [1, 0, 2] (by decide) rfl rfl) (va_recv hK hP (ci := 6) (q0 := 1) rfl rfl) rfl hl.1 rfl (Nat.le_of_ble_eq_true rfl) dX7_encode_378 ⟨Nat.le_of_ble_eq_true rfl, Nat.le_of_ble_eq_true rfl⟩) hP hD hS hA [1, 0, 2] [] rfl rfl (by decide) (by decide) (fun u H locs hw102 hP1 hD1 hS1 => ?_)
                                      obtain ⟨gb2_102, hu9⟩ : ∃ z, z = u := ⟨_, rfl⟩
                                      subst hu9
                                      have hw102 : ∀ q : Nat, gb2_102 q = if v99.toInt.toNat ≤ q ∧ q < v99.toInt.toNat + 7 then bi (decide (¬ (gg k7.toInt.toNat).toInt = 256) && bt 30 (q - v99.toInt.toNat)) else gb5 q := hw102
                                      clear hP hD hS
                                      have hP : va_P D classes [(aM, .inr (6, [.int th, .int mw, .ref bG, .int mz, .ref bL, .ref bY, .ref bB, .ref bC, .int tk, .int ss, .int ml, .int mh, .int mp, .int rw, .int wr, .int tc, .ref bT])), (bG, .inl (cI, 8, .inl gg)), (bB, .inl (cI, 66, .inl gb2_102))] H := hP1
                                      have hD : va_D A [(aM, .inr (6, [.int th, .int mw, .ref bG, .int mz, .ref bL, .ref bY, .ref bB, .ref bC, .int tk, .int ss, .int ml, .int mh, .int mp, .int rw, .int wr, .int tc, .ref bT])), (bG, .inl (cI, 8, .inl gg)), (bB, .inl (cI, 66, .inl gb2_102))] := hD1
                                      have hS := hS1
                                      clear hP1 hD1 hS1
                                      obtain ⟨v103, e103⟩ : ∃ y : Int32, y = k7 + 1 := ⟨_, rfl⟩
                                      first | have z103 := zi_inc (z := 1) 1 (by decide) e103 (by omega) | skip
                                      refine lv_iinc (v := v103) (lv' := [(2, .int v103), (0, .ref aM), (1, .int en)]) hx hb dX7_encode_381 hl (k := 2) rfl (by rw [e103]; rfl) (by decide) rfl (fun ls hl => ?_)
                                      refine lv_goto (tgt := 360) hx hb dX7_encode_384 (by decide) ?_
                                      exact ih360 v103 gb2_102 _ _ _ (by omega) (by omega) (uC_s i360_1 hw102 (by omega) rfl (by omega) (by omega)) (hP.sub [1, 0, 2] rfl) (hD.sub [1, 0, 2] (by decide) rfl) hS (lv_sub hl [1, 2, 0] rfl)
                                exact J360 _ v90 gb4 _ _ _ (Nat.lt_succ_self _) (by omega) (fun q => uC_0 (by omega) q) (hP.sub [0, 1, 2] rfl) (hD.sub [0, 1, 2] (by decide) rfl) hS (lv_sub hl [1, 2, 0] rfl)
                              ·
                                have z88 := zi_nle c88
                                refine lv_aload_n hx hb dX7_encode_331 rfl (lv_at hl 0 rfl) ?_
                                refine lv_aload_n hx hb dX7_encode_332 rfl (lv_at hl 0 rfl) ?_
                                refine va_get (D := D) (ci := 6) (v := .ref bG) (C := RX7) (T := TX7) (N := 17) hx hb hts in_X7 hown hK hP 1 rfl rfl 2 (by decide) (hts _ wk60) (fun _ h9 => h9) rfl dX7_encode_333 ?_
                                refine lv_iload_n hx hb dX7_encode_336 rfl (lv_at hl 2 rfl) ?_
                                refine va_iald hx hb hK hP 0 0 rfl rfl (zi_in (by omega)) dX7_encode_337 ?_
                                refine lv_topi (fun v104 e104 => ?_)
                                refine lv_bipush (v := 10) hx hb dX7_encode_338 (by decide) ?_
                                refine lv_topi (fun v105 e105 => ?_)
                                have z105 : v105.toInt = 10 := zi_c e105 (by decide)
                                refine lv_bipush (v := 8) hx hb dX7_encode_340 (by decide) ?_
                                refine lv_topi (fun v106 e106 => ?_)
                                have z106 : v106.toInt = 8 := zi_c e106 (by decide)
                                refine lv_iload_n hx hb dX7_encode_342 rfl (lv_at hl 2 rfl) ?_
                                refine lv_imul hx hb dX7_encode_343 ?_
                                refine lv_topi (fun v107 e107 => ?_)
                                first | have z107 := zi_mulL (k := 8) e107 (by omega) (by omega) | skip
                                refine lv_iadd hx hb dX7_encode_344 ?_
                                refine lv_topi (fun v108 e108 => ?_)
                                first | have z108 := zi_add e108 (by omega) | skip
                                refine lv_bipush (v := 8) hx hb dX7_encode_345 (by decide) ?_
                                refine lv_topi (fun v109 e109 => ?_)
                                have z109 : v109.toInt = 8 := zi_c e109 (by decide)
                                have hh110 : 0 ≤ v108.toInt ∧ 0 ≤ v109.toInt ∧ v108.toInt + v109.toInt ≤ 66 := (by omega)
                                have hh111 : v109.toInt ≤ 8 := (by omega)
                                refine call_v (wc := [(aM, .inr (6, [.int th, .int mw, .ref bG, .int mz, .ref bL, .ref bY, .ref bB, .ref bC, .int tk, .int ss, .int ml, .int mh, .int mp, .int rw, .int wr, .int tc, .ref bT])), (bB, .inl (cI, 66, .inl gb4))]) (wr := [(bG, .inl (cI, 8, .inl gg))]) (run_V (As := [.int v104, .int v108, .int v109]) (rest := []) kv_RX7_47 ⟨by decide, by decide⟩ ⟨rfl, rfl⟩ ⟨hx, hb, hml, hown, hts⟩ (c_Mo_setBits l D cI cJ cB aM bG bL bY bB bC bT th mw mz tk ss ml mh mp rw wr tc gb4 v104 v108 v109 hh110 hh111 _) ct_blind (ct_pre (wc := [(aM, .inr (6, [.int th, .int mw, .ref bG, .int mz, .ref bL, .ref bY, .ref bB, .ref bC, .int tk, .int ss, .int ml, .int mh, .int mp, .int rw, .int wr, .int tc, .ref bT])), (bB, .inl (cI, 66, .inl gb4))]) hK hP hD hS hA hZ hN [1, 2] (by decide) rfl rfl) (va_recv hK hP (ci := 6) (q0 := 1) rfl rfl) rfl hl.1 rfl (Nat.le_of_ble_eq_true rfl) dX7_encode_347 ⟨Nat.le_of_ble_eq_true rfl, Nat.le_of_ble_eq_true rfl⟩) hP hD hS hA [1, 2] [0] rfl rfl (by decide) (by decide) (fun u H locs hw112 hP1 hD1 hS1 => ?_)
                                obtain ⟨gb2_112, hu9⟩ : ∃ z, z = u := ⟨_, rfl⟩
                                subst hu9
                                have hw112 : ∀ q : Nat, gb2_112 q = if v108.toInt.toNat ≤ q ∧ q < v108.toInt.toNat + v109.toInt.toNat then bi (bt v104 (q - v108.toInt.toNat)) else gb4 q := hw112
                                clear hP hD hS
                                have hP : va_P D classes [(bG, .inl (cI, 8, .inl gg)), (aM, .inr (6, [.int th, .int mw, .ref bG, .int mz, .ref bL, .ref bY, .ref bB, .ref bC, .int tk, .int ss, .int ml, .int mh, .int mp, .int rw, .int wr, .int tc, .ref bT])), (bB, .inl (cI, 66, .inl gb2_112))] H := hP1
                                have hD : va_D A [(bG, .inl (cI, 8, .inl gg)), (aM, .inr (6, [.int th, .int mw, .ref bG, .int mz, .ref bL, .ref bY, .ref bB, .ref bC, .int tk, .int ss, .int ml, .int mh, .int mp, .int rw, .int wr, .int tc, .ref bT])), (bB, .inl (cI, 66, .inl gb2_112))] := hD1
                                have hS := hS1
                                clear hP1 hD1 hS1
                                obtain ⟨v113, e113⟩ : ∃ y : Int32, y = k6 + 1 := ⟨_, rfl⟩
                                first | have z113 := zi_inc (z := 1) 1 (by decide) e113 (by omega) | skip
                                refine lv_iinc (v := v113) (lv' := [(2, .int v113), (0, .ref aM), (1, .int en)]) hx hb dX7_encode_350 hl (k := 2) rfl (by rw [e113]; rfl) (by decide) rfl (fun ls hl => ?_)
                                refine lv_goto (tgt := 326) hx hb dX7_encode_353 (by decide) ?_
                                exact ih326 v113 gb2_112 _ _ _ (by omega) (by omega) (uD_s i326_1 hw112 (by omega) (by omega) (show gg k6.toInt.toNat = v104 from e104.symm) (by omega) (by omega)) (hP.sub [0, 1, 2] rfl) (hD.sub [0, 1, 2] (by decide) rfl) hS (lv_sub hl [1, 2, 0] rfl)
                          exact J326 _ v87 gb2_86 _ _ _ (Nat.lt_succ_self _) (by omega) (fun q => uD_0 (by omega) q) (hP.sub [0, 1, 2] rfl) (hD.sub [0, 1, 2] (by decide) rfl) hS (lv_sub hl [1, 2, 0] rfl)
                  refine lv_icmp_ne (tgt := 286) hx hb dX7_encode_193 (by decide) (fun c114 => ?_) (fun c114 => ?_)
                  ·
                    have z114 := zi_ne c114
                    exact J286  _ _ _  (fun c => by first | exact absurd c.2.2 (stD_f (show stD r129 (aD gg 5 8) from by have g := hw129.1 (by omega); rw [show v123.toInt.toNat = 5 by omega, show v124.toInt.toNat = 8 by omega] at g; exact g) z130) | exact absurd c.2.1 (stD_f (show stD r121 (aQ gg 0 4) from by have g := hw121.2 (by omega); rw [show v115.toInt.toNat = 0 by omega, show v116.toInt.toNat = 4 by omega] at g; exact g) z122) | (have g := c.1; rw [show gg 4 = v23 from by rw [e23, show v22.toNatClampNeg = 4 from by show v22.toInt.toNat = 4; omega]] at g; omega)) (hP.sub [0, 1, 2] rfl) (hD.sub [0, 1, 2] (by decide) rfl) hS (lv_sub hl [0, 1, 2] rfl)
                  ·
                    have z114 := zi_eq c114
                    refine lv_aload_n hx hb dX7_encode_196 rfl (lv_at hl 0 rfl) ?_
                    refine lv_iconst (v := 0) hx hb dX7_encode_197 (by decide) ?_
                    refine lv_topi (fun v115 e115 => ?_)
                    have z115 : v115.toInt = 0 := zi_c e115 (by decide)
                    refine lv_iconst (v := 4) hx hb dX7_encode_198 (by decide) ?_
                    refine lv_topi (fun v116 e116 => ?_)
                    have z116 : v116.toInt = 4 := zi_c e116 (by decide)
                    refine lv_iconst (v := 0) hx hb dX7_encode_199 (by decide) ?_
                    refine lv_topi (fun v117 e117 => ?_)
                    have z117 : v117.toInt = 0 := zi_c e117 (by decide)
                    have hh118 : 0 ≤ v115.toInt ∧ v115.toInt ≤ 8 := (by omega)
                    have hh119 : 0 ≤ v116.toInt ∧ v116.toInt ≤ 8 := (by omega)
                    have hh120 : v115.toInt ≤ v116.toInt := (by omega)
                    refine call_i (wc := [(aM, .inr (6, [.int th, .int mw, .ref bG, .int mz, .ref bL, .ref bY, .ref bB, .ref bC, .int tk, .int ss, .int ml, .int mh, .int mp, .int rw, .int wr, .int tc, .ref bT])), (bG, .inl (cI, 8, .inl gg))]) (wr := [(bB, .inl (cI, 66, .inl f18))]) (run_V (As := [.int v115, .int v116, .int v117]) (rest := []) kv_RX7_51 ⟨by decide, by decide⟩ ⟨rfl, rfl⟩ ⟨hx, hb, hml, hown, hts⟩ (c_Mo_are l D cI cJ cB aM bG bL bY bB bC bT th mw mz tk ss ml mh mp rw wr tc gg v115 v116 v117 hh118 hh119 hh120 _) ct_blind (ct_pre (wc := [(aM, .inr (6, [.int th, .int mw, .ref bG, .int mz, .ref bL, .ref bY, .ref bB, .ref bC, .int tk, .int ss, .int ml, .int mh, .int mp, .int rw, .int wr, .int tc, .ref bT])), (bG, .inl (cI, 8, .inl gg))]) hK hP hD hS hA hZ hN [1, 2] (by decide) rfl rfl) (va_recv hK hP (ci := 6) (q0 := 1) rfl rfl) rfl hl.1 rfl (Nat.le_of_ble_eq_true rfl) dX7_encode_200 ⟨Nat.le_of_ble_eq_true rfl, Nat.le_of_ble_eq_true rfl⟩) hP hD hS hA [1, 2] [0] rfl rfl (by decide) (by decide) (fun r121 u H locs hw121 hP1 hD1 hS1 => ?_)
                    have hw121 : (¬ v117.toInt = 0 → stD r121 (aD gg v115.toInt.toNat v116.toInt.toNat)) ∧ (v117.toInt = 0 → stD r121 (aQ gg v115.toInt.toNat v116.toInt.toNat)) := hw121
                    clear hP hD hS
                    have hP : va_P D classes [(bB, .inl (cI, 66, .inl f18)), (aM, .inr (6, [.int th, .int mw, .ref bG, .int mz, .ref bL, .ref bY, .ref bB, .ref bC, .int tk, .int ss, .int ml, .int mh, .int mp, .int rw, .int wr, .int tc, .ref bT])), (bG, .inl (cI, 8, .inl gg))] H := hP1
                    have hD : va_D A [(bB, .inl (cI, 66, .inl f18)), (aM, .inr (6, [.int th, .int mw, .ref bG, .int mz, .ref bL, .ref bY, .ref bB, .ref bC, .int tk, .int ss, .int ml, .int mh, .int mp, .int rw, .int wr, .int tc, .ref bT])), (bG, .inl (cI, 8, .inl gg))] := hD1
                    have hS := hS1
                    clear hP1 hD1 hS1
                    have rg_r121 := zi_rg r121
                    refine lv_if_eq (tgt := 286) hx hb dX7_encode_203 (by decide) (fun c122 => ?_) (fun c122 => ?_)
                    ·
                      have z122 := zi_eq0 c122
                      exact J286  _ _ _  (fun c => by first | exact absurd c.2.2 (stD_f (show stD r129 (aD gg 5 8) from by have g := hw129.1 (by omega); rw [show v123.toInt.toNat = 5 by omega, show v124.toInt.toNat = 8 by omega] at g; exact g) z130) | exact absurd c.2.1 (stD_f (show stD r121 (aQ gg 0 4) from by have g := hw121.2 (by omega); rw [show v115.toInt.toNat = 0 by omega, show v116.toInt.toNat = 4 by omega] at g; exact g) z122) | (have g := c.1; rw [show gg 4 = v23 from by rw [e23, show v22.toNatClampNeg = 4 from by show v22.toInt.toNat = 4; omega]] at g; omega)) (hP.sub [0, 1, 2] rfl) (hD.sub [0, 1, 2] (by decide) rfl) hS (lv_sub hl [0, 1, 2] rfl)
                    ·
                      have z122 := zi_ne0 c122
                      refine lv_aload_n hx hb dX7_encode_206 rfl (lv_at hl 0 rfl) ?_
                      refine lv_iconst (v := 5) hx hb dX7_encode_207 (by decide) ?_
                      refine lv_topi (fun v123 e123 => ?_)
                      have z123 : v123.toInt = 5 := zi_c e123 (by decide)
                      refine lv_bipush (v := 8) hx hb dX7_encode_208 (by decide) ?_
                      refine lv_topi (fun v124 e124 => ?_)
                      have z124 : v124.toInt = 8 := zi_c e124 (by decide)
                      refine lv_iconst (v := 1) hx hb dX7_encode_210 (by decide) ?_
                      refine lv_topi (fun v125 e125 => ?_)
                      have z125 : v125.toInt = 1 := zi_c e125 (by decide)
                      have hh126 : 0 ≤ v123.toInt ∧ v123.toInt ≤ 8 := (by omega)
                      have hh127 : 0 ≤ v124.toInt ∧ v124.toInt ≤ 8 := (by omega)
                      have hh128 : v123.toInt ≤ v124.toInt := (by omega)
                      refine call_i (wc := [(aM, .inr (6, [.int th, .int mw, .ref bG, .int mz, .ref bL, .ref bY, .ref bB, .ref bC, .int tk, .int ss, .int ml, .int mh, .int mp, .int rw, .int wr, .int tc, .ref bT])), (bG, .inl (cI, 8, .inl gg))]) (wr := [(bB, .inl (cI, 66, .inl f18))]) (run_V (As := [.int v123, .int v124, .int v125]) (rest := []) kv_RX7_51 ⟨by decide, by decide⟩ ⟨rfl, rfl⟩ ⟨hx, hb, hml, hown, hts⟩ (c_Mo_are l D cI cJ cB aM bG bL bY bB bC bT th mw mz tk ss ml mh mp rw wr tc gg v123 v124 v125 hh126 hh127 hh128 _) ct_blind (ct_pre (wc := [(aM, .inr (6, [.int th, .int mw, .ref bG, .int mz, .ref bL, .ref bY, .ref bB, .ref bC, .int tk, .int ss, .int ml, .int mh, .int mp, .int rw, .int wr, .int tc, .ref bT])), (bG, .inl (cI, 8, .inl gg))]) hK hP hD hS hA hZ hN [1, 2] (by decide) rfl rfl) (va_recv hK hP (ci := 6) (q0 := 1) rfl rfl) rfl hl.1 rfl (Nat.le_of_ble_eq_true rfl) dX7_encode_211 ⟨Nat.le_of_ble_eq_true rfl, Nat.le_of_ble_eq_true rfl⟩) hP hD hS hA [1, 2] [0] rfl rfl (by decide) (by decide) (fun r129 u H locs hw129 hP1 hD1 hS1 => ?_)
                      have hw129 : (¬ v125.toInt = 0 → stD r129 (aD gg v123.toInt.toNat v124.toInt.toNat)) ∧ (v125.toInt = 0 → stD r129 (aQ gg v123.toInt.toNat v124.toInt.toNat)) := hw129
                      clear hP hD hS
                      have hP : va_P D classes [(bB, .inl (cI, 66, .inl f18)), (aM, .inr (6, [.int th, .int mw, .ref bG, .int mz, .ref bL, .ref bY, .ref bB, .ref bC, .int tk, .int ss, .int ml, .int mh, .int mp, .int rw, .int wr, .int tc, .ref bT])), (bG, .inl (cI, 8, .inl gg))] H := hP1
                      have hD : va_D A [(bB, .inl (cI, 66, .inl f18)), (aM, .inr (6, [.int th, .int mw, .ref bG, .int mz, .ref bL, .ref bY, .ref bB, .ref bC, .int tk, .int ss, .int ml, .int mh, .int mp, .int rw, .int wr, .int tc, .ref bT])), (bG, .inl (cI, 8, .inl gg))] := hD1
                      have hS := hS1
                      clear hP1 hD1 hS1
                      have rg_r129 := zi_rg r129
                      refine lv_if_eq (tgt := 286) hx hb dX7_encode_214 (by decide) (fun c130 => ?_) (fun c130 => ?_)
                      ·
                        have z130 := zi_eq0 c130
                        exact J286  _ _ _  (fun c => by first | exact absurd c.2.2 (stD_f (show stD r129 (aD gg 5 8) from by have g := hw129.1 (by omega); rw [show v123.toInt.toNat = 5 by omega, show v124.toInt.toNat = 8 by omega] at g; exact g) z130) | exact absurd c.2.1 (stD_f (show stD r121 (aQ gg 0 4) from by have g := hw121.2 (by omega); rw [show v115.toInt.toNat = 0 by omega, show v116.toInt.toNat = 4 by omega] at g; exact g) z122) | (have g := c.1; rw [show gg 4 = v23 from by rw [e23, show v22.toNatClampNeg = 4 from by show v22.toInt.toNat = 4; omega]] at g; omega)) (hP.sub [0, 1, 2] rfl) (hD.sub [0, 1, 2] (by decide) rfl) hS (lv_sub hl [0, 1, 2] rfl)
                      ·
                        have z130 := zi_ne0 c130
                        refine lv_aload_n hx hb dX7_encode_217 rfl (lv_at hl 0 rfl) ?_
                        refine lv_bipush (v := 51) hx hb dX7_encode_218 (by decide) ?_
                        refine lv_topi (fun v131 e131 => ?_)
                        have z131 : v131.toInt = 51 := zi_c e131 (by decide)
                        refine lv_iconst (v := 2) hx hb dX7_encode_220 (by decide) ?_
                        refine lv_topi (fun v132 e132 => ?_)
                        have z132 : v132.toInt = 2 := zi_c e132 (by decide)
                        refine lv_bipush (v := 8) hx hb dX7_encode_221 (by decide) ?_
                        refine lv_topi (fun v133 e133 => ?_)
                        have z133 : v133.toInt = 8 := zi_c e133 (by decide)
                        have hh134 : 0 ≤ v132.toInt ∧ 0 ≤ v133.toInt ∧ v132.toInt + v133.toInt ≤ 66 := (by omega)
                        have hh135 : v133.toInt ≤ 8 := (by omega)
                        refine call_v (wc := [(aM, .inr (6, [.int th, .int mw, .ref bG, .int mz, .ref bL, .ref bY, .ref bB, .ref bC, .int tk, .int ss, .int ml, .int mh, .int mp, .int rw, .int wr, .int tc, .ref bT])), (bB, .inl (cI, 66, .inl f18))]) (wr := [(bG, .inl (cI, 8, .inl gg))]) (run_V (As := [.int v131, .int v132, .int v133]) (rest := []) kv_RX7_47 ⟨by decide, by decide⟩ ⟨rfl, rfl⟩ ⟨hx, hb, hml, hown, hts⟩ (c_Mo_setBits l D cI cJ cB aM bG bL bY bB bC bT th mw mz tk ss ml mh mp rw wr tc f18 v131 v132 v133 hh134 hh135 _) ct_blind (ct_pre (wc := [(aM, .inr (6, [.int th, .int mw, .ref bG, .int mz, .ref bL, .ref bY, .ref bB, .ref bC, .int tk, .int ss, .int ml, .int mh, .int mp, .int rw, .int wr, .int tc, .ref bT])), (bB, .inl (cI, 66, .inl f18))]) hK hP hD hS hA hZ hN [1, 0] (by decide) rfl rfl) (va_recv hK hP (ci := 6) (q0 := 1) rfl rfl) rfl hl.1 rfl (Nat.le_of_ble_eq_true rfl) dX7_encode_223 ⟨Nat.le_of_ble_eq_true rfl, Nat.le_of_ble_eq_true rfl⟩) hP hD hS hA [1, 0] [2] rfl rfl (by decide) (by decide) (fun u H locs hw136 hP1 hD1 hS1 => ?_)
                        obtain ⟨gb2_136, hu9⟩ : ∃ z, z = u := ⟨_, rfl⟩
                        subst hu9
                        have hw136 : ∀ q : Nat, gb2_136 q = if v132.toInt.toNat ≤ q ∧ q < v132.toInt.toNat + v133.toInt.toNat then bi (bt v131 (q - v132.toInt.toNat)) else f18 q := hw136
                        clear hP hD hS
                        have hP : va_P D classes [(bG, .inl (cI, 8, .inl gg)), (aM, .inr (6, [.int th, .int mw, .ref bG, .int mz, .ref bL, .ref bY, .ref bB, .ref bC, .int tk, .int ss, .int ml, .int mh, .int mp, .int rw, .int wr, .int tc, .ref bT])), (bB, .inl (cI, 66, .inl gb2_136))] H := hP1
                        have hD : va_D A [(bG, .inl (cI, 8, .inl gg)), (aM, .inr (6, [.int th, .int mw, .ref bG, .int mz, .ref bL, .ref bY, .ref bB, .ref bC, .int tk, .int ss, .int ml, .int mh, .int mp, .int rw, .int wr, .int tc, .ref bT])), (bB, .inl (cI, 66, .inl gb2_136))] := hD1
                        have hS := hS1
                        clear hP1 hD1 hS1
                        refine lv_iconst (v := 0) hx hb dX7_encode_226 (by decide) ?_
                        refine lv_topi (fun v137 e137 => ?_)
                        have z137 : v137.toInt = 0 := zi_c e137 (by decide)
                        refine lv_istore_n (lv' := [(2, .int v137), (0, .ref aM), (1, .int en)]) hx hb dX7_encode_227 rfl hl (by decide) rfl (fun ls hl => ?_)
                        have J228 : ∀ (n : Nat) (k4 : Int32) (gb4 : Nat → Int32) (H : Heap) (locs : List Loc) (ls : Array Slot), ((4 - k4.toInt).toNat) < n → (0 ≤ k4.toInt ∧ k4.toInt ≤ 4) → (∀ q, gb4 q = uC gg gb2_136 0 k4.toInt.toNat q) → va_P D classes [(bG, .inl (cI, 8, .inl gg)), (aM, .inr (6, [.int th, .int mw, .ref bG, .int mz, .ref bL, .ref bY, .ref bB, .ref bC, .int tk, .int ss, .int ml, .int mh, .int mp, .int rw, .int wr, .int tc, .ref bT])), (bB, .inl (cI, 66, .inl gb4))] H → va_D A [(bG, .inl (cI, 8, .inl gg)), (aM, .inr (6, [.int th, .int mw, .ref bG, .int mz, .ref bL, .ref bY, .ref bB, .ref bC, .int tk, .int ss, .int ml, .int mh, .int mp, .int rw, .int wr, .int tc, .ref bT])), (bB, .inl (cI, 66, .inl gb4))] → va_S A s.heap H locs → lv_has ls 4 [(0, .ref aM), (1, .int en), (2, .int k4)] → W p l e (rmL 2 46 0 0) s m args below meth c H locs 0 0 Q (F0 m 228 ls []) := by
                          intro n
                          induction n with
                          | zero => intro k4 gb4 H locs ls hmu; exact absurd hmu (Nat.not_lt_zero _)
                          | succ n ih228 =>
                            intro k4 gb4 H locs ls hmu228 i228_0 i228_1 hP hD hS hl
                            have rg_k4 := zi_rg k4
                            refine lv_iload_n hx hb dX7_encode_228 rfl (lv_at hl 2 rfl) ?_
                            refine lv_iconst (v := 4) hx hb dX7_encode_229 (by decide) ?_
                            refine lv_topi (fun v138 e138 => ?_)
                            have z138 : v138.toInt = 4 := zi_c e138 (by decide)
                            refine lv_icmp_ge (tgt := 251) hx hb dX7_encode_230 (by decide) (fun c139 => ?_) (fun c139 => ?_)
                            ·
                              have z139 := zi_le c139
                              refine lv_iconst (v := 5) hx hb dX7_encode_251 (by decide) ?_
                              refine lv_topi (fun v140 e140 => ?_)
                              have z140 : v140.toInt = 5 := zi_c e140 (by decide)
                              refine lv_istore_n (lv' := [(2, .int v140), (0, .ref aM), (1, .int en)]) hx hb dX7_encode_252 rfl hl (by decide) rfl (fun ls hl => ?_)
                              have J253 : ∀ (n : Nat) (k5 : Int32) (gb5 : Nat → Int32) (H : Heap) (locs : List Loc) (ls : Array Slot), ((8 - k5.toInt).toNat) < n → (5 ≤ k5.toInt ∧ k5.toInt ≤ 8) → (∀ q, gb5 q = uD gg gb4 2 5 k5.toInt.toNat q) → va_P D classes [(bG, .inl (cI, 8, .inl gg)), (aM, .inr (6, [.int th, .int mw, .ref bG, .int mz, .ref bL, .ref bY, .ref bB, .ref bC, .int tk, .int ss, .int ml, .int mh, .int mp, .int rw, .int wr, .int tc, .ref bT])), (bB, .inl (cI, 66, .inl gb5))] H → va_D A [(bG, .inl (cI, 8, .inl gg)), (aM, .inr (6, [.int th, .int mw, .ref bG, .int mz, .ref bL, .ref bY, .ref bB, .ref bC, .int tk, .int ss, .int ml, .int mh, .int mp, .int rw, .int wr, .int tc, .ref bT])), (bB, .inl (cI, 66, .inl gb5))] → va_S A s.heap H locs → lv_has ls 4 [(0, .ref aM), (1, .int en), (2, .int k5)] → W p l e (rmL 2 46 0 0) s m args below meth c H locs 0 0 Q (F0 m 253 ls []) := by
                                intro n
                                induction n with
                                | zero => intro k5 gb5 H locs ls hmu; exact absurd hmu (Nat.not_lt_zero _)
                                | succ n ih253 =>
                                  intro k5 gb5 H locs ls hmu253 i253_0 i253_1 hP hD hS hl
                                  have rg_k5 := zi_rg k5
                                  refine lv_iload_n hx hb dX7_encode_253 rfl (lv_at hl 2 rfl) ?_
                                  refine lv_bipush (v := 8) hx hb dX7_encode_254 (by decide) ?_
                                  refine lv_topi (fun v141 e141 => ?_)
                                  have z141 : v141.toInt = 8 := zi_c e141 (by decide)
                                  refine lv_icmp_ge (tgt := 283) hx hb dX7_encode_256 (by decide) (fun c142 => ?_) (fun c142 => ?_)
                                  ·
                                    have z142 := zi_le c142
                                    refine lv_goto (tgt := 456) hx hb dX7_encode_283 (by decide) ?_
                                    have hq143 : okE gg gb5 := (by first | exact okE_cg (fun q => by rw [i151_1 q, show k3.toInt.toNat = 8 by omega, show gb2_176 = uT f18 120 from funext (uT_of hw176 (by omega) (by omega) (i_of z171 (by decide)))]) (enc_st ⟨by rw [show gg 0 = v20 from by rw [e20, show v19.toNatClampNeg = 0 from by show v19.toInt.toNat = 0; omega]]; omega, stD_t (show stD r169 (aD gg 1 8) from by have g := hw169.1 (by omega); rw [show v163.toInt.toNat = 1 by omega, show v164.toInt.toNat = 8 by omega] at g; exact g) z170⟩ (hdZ_of (p := 0) (fun q hq => i2_1 q (by omega)) ef18 (by omega) e17)) | exact okE_cg (fun q => by rw [i253_1 q, show k5.toInt.toNat = 8 by omega, show gb4 = uC gg gb2_136 0 4 from funext (fun q => by rw [i228_1 q, show k4.toInt.toNat = 4 by omega]), show gb2_136 = uT f18 51 from funext (uT_of hw136 (by omega) (by omega) (i_of z131 (by decide)))]) (enc_mid ⟨by rw [show gg 4 = v23 from by rw [e23, show v22.toNatClampNeg = 4 from by show v22.toInt.toNat = 4; omega]]; omega, stD_t (show stD r121 (aQ gg 0 4) from by have g := hw121.2 (by omega); rw [show v115.toInt.toNat = 0 by omega, show v116.toInt.toNat = 4 by omega] at g; exact g) z122, stD_t (show stD r129 (aD gg 5 8) from by have g := hw129.1 (by omega); rw [show v123.toInt.toNat = 5 by omega, show v124.toInt.toNat = 8 by omega] at g; exact g) z130⟩ (hdZ_of (p := 0) (fun q hq => i2_1 q (by omega)) ef18 (by omega) e17)) | exact okE_cg (fun q => by rw [i360_1 q, show k7.toInt.toNat = 8 by omega, show gb4 = uD gg gb2_86 10 0 en.toInt.toNat from funext (fun q => by rw [i326_1 q, show k6.toInt.toNat = en.toInt.toNat by omega]), show gb2_86 = uT f18 (st_k en.toInt.toNat) from funext (uT_of hw86 (by omega) (by omega) hw81)]) (enc_end (by omega) ⟨(by rcases i25_2 with g | g; (· omega); (· exact g.2.1)), stD_t (show stD r69 (aD gg 0 en.toInt.toNat) from by have g := hw69.1 (by omega); rw [show v64.toInt.toNat = 0 by omega] at g; exact g) z70, stD_t (show stD r78 (aQ gg (en.toInt.toNat + 1) 8) from by have g := hw78.2 (by omega); rw [show v72.toInt.toNat = en.toInt.toNat + 1 by omega, show v73.toInt.toNat = 8 by omega] at g; exact g) z79⟩ (hdZ_of (p := 0) (fun q hq => i2_1 q (by omega)) ef18 (by omega) e17)) | (by_cases q9 : r31.toInt = 0; (· exact okE_cg (fun q => by rw [i410_1.2 q9 q, show k8.toInt.toNat = 8 by omega, show gb2_37 = uT f18 30 from funext (uT_of hw37 (by omega) (by omega) (i_of z32 (by decide)))]) (enc_err (stD_f (show stD r14 (aD gg 0 8) from by have g := hw14.1 (by omega); rw [show v8.toInt.toNat = 0 by omega, show v9.toInt.toNat = 8 by omega] at g; exact g) z15) i184_0 i286_0 i390_0 (stD_f (show stD r31 (aQ gg 0 8) from by have g := hw31.2 (by omega); rw [show v25.toInt.toNat = 0 by omega, show v26.toInt.toNat = 8 by omega] at g; exact g) q9) (hdZ_of (p := 0) (fun q hq => i2_1 q (by omega)) ef18 (by omega) e17))); (· exact okE_cg (fun q => by rw [(i410_1.1 q9).2 q, show k8.toInt.toNat = 8 by omega, show gb2_37 = uT f18 30 from funext (uT_of hw37 (by omega) (by omega) (i_of z32 (by decide)))]) (enc_qui (stD_t (show stD r31 (aQ gg 0 8) from by have g := hw31.2 (by omega); rw [show v25.toInt.toNat = 0 by omega, show v26.toInt.toNat = 8 by omega] at g; exact g) q9) (hdZ_of (p := 0) (fun q hq => i2_1 q (by omega)) ef18 (by omega) e17)))))
                                    exact hret (gg, gb5) _ _ _ _ dX7_encode_456 hq143 (hP.sub [1, 0, 2] rfl) (hD.sub [1, 0, 2] (by decide) rfl) hS
                                  ·
                                    have z142 := zi_nle c142
                                    refine lv_aload_n hx hb dX7_encode_259 rfl (lv_at hl 0 rfl) ?_
                                    refine lv_aload_n hx hb dX7_encode_260 rfl (lv_at hl 0 rfl) ?_
                                    refine va_get (D := D) (ci := 6) (v := .ref bG) (C := RX7) (T := TX7) (N := 17) hx hb hts in_X7 hown hK hP 1 rfl rfl 2 (by decide) (hts _ wk60) (fun _ h9 => h9) rfl dX7_encode_261 ?_
                                    refine lv_iload_n hx hb dX7_encode_264 rfl (lv_at hl 2 rfl) ?_
                                    refine va_iald hx hb hK hP 0 0 rfl rfl (zi_in (by omega)) dX7_encode_265 ?_
                                    refine lv_topi (fun v144 e144 => ?_)
                                    refine lv_iconst (v := 2) hx hb dX7_encode_266 (by decide) ?_
                                    refine lv_topi (fun v145 e145 => ?_)
                                    have z145 : v145.toInt = 2 := zi_c e145 (by decide)
                                    refine lv_bipush (v := 8) hx hb dX7_encode_267 (by decide) ?_
                                    refine lv_topi (fun v146 e146 => ?_)
                                    have z146 : v146.toInt = 8 := zi_c e146 (by decide)
                                    refine lv_iload_n hx hb dX7_encode_269 rfl (lv_at hl 2 rfl) ?_
                                    refine lv_imul hx hb dX7_encode_270 ?_
                                    refine lv_topi (fun v147 e147 => ?_)
                                    first | have z147 := zi_mulL (k := 8) e147 (by omega) (by omega) | skip
                                    refine lv_iadd hx hb dX7_encode_271 ?_
                                    refine lv_topi (fun v148 e148 => ?_)
                                    first | have z148 := zi_add e148 (by omega) | skip
                                    refine lv_bipush (v := 8) hx hb dX7_encode_272 (by decide) ?_
                                    refine lv_topi (fun v149 e149 => ?_)
                                    have z149 : v149.toInt = 8 := zi_c e149 (by decide)
                                    have hh150 : 0 ≤ v148.toInt ∧ 0 ≤ v149.toInt ∧ v148.toInt + v149.toInt ≤ 66 := (by omega)
                                    have hh151 : v149.toInt ≤ 8 := (by omega)
                                    refine call_v (wc := [(aM, .inr (6, [.int th, .int mw, .ref bG, .int mz, .ref bL, .ref bY, .ref bB, .ref bC, .int tk, .int ss, .int ml, .int mh, .int mp, .int rw, .int wr, .int tc, .ref bT])), (bB, .inl (cI, 66, .inl gb5))]) (wr := [(bG, .inl (cI, 8, .inl gg))]) (run_V (As := [.int v144, .int v148, .int v149]) (rest := []) kv_RX7_47 ⟨by decide, by decide⟩ ⟨rfl, rfl⟩ ⟨hx, hb, hml, hown, hts⟩ (c_Mo_setBits l D cI cJ cB aM bG bL bY bB bC bT th mw mz tk ss ml mh mp rw wr tc gb5 v144 v148 v149 hh150 hh151 _) ct_blind (ct_pre (wc := [(aM, .inr (6, [.int th, .int mw, .ref bG, .int mz, .ref bL, .ref bY, .ref bB, .ref bC, .int tk, .int ss, .int ml, .int mh, .int mp, .int rw, .int wr, .int tc, .ref bT])), (bB, .inl (cI, 66, .inl gb5))]) hK hP hD hS hA hZ hN [1, 2] (by decide) rfl rfl) (va_recv hK hP (ci := 6) (q0 := 1) rfl rfl) rfl hl.1 rfl (Nat.le_of_ble_eq_true rfl) dX7_encode_274 ⟨Nat.le_of_ble_eq_true rfl, Nat.le_of_ble_eq_true rfl⟩) hP hD hS hA [1, 2] [0] rfl rfl (by decide) (by decide) (fun u H locs hw152 hP1 hD1 hS1 => ?_)
                                    obtain ⟨gb2_152, hu9⟩ : ∃ z, z = u := ⟨_, rfl⟩
                                    subst hu9
                                    have hw152 : ∀ q : Nat, gb2_152 q = if v148.toInt.toNat ≤ q ∧ q < v148.toInt.toNat + v149.toInt.toNat then bi (bt v144 (q - v148.toInt.toNat)) else gb5 q := hw152
                                    clear hP hD hS
                                    have hP : va_P D classes [(bG, .inl (cI, 8, .inl gg)), (aM, .inr (6, [.int th, .int mw, .ref bG, .int mz, .ref bL, .ref bY, .ref bB, .ref bC, .int tk, .int ss, .int ml, .int mh, .int mp, .int rw, .int wr, .int tc, .ref bT])), (bB, .inl (cI, 66, .inl gb2_152))] H := hP1
                                    have hD : va_D A [(bG, .inl (cI, 8, .inl gg)), (aM, .inr (6, [.int th, .int mw, .ref bG, .int mz, .ref bL, .ref bY, .ref bB, .ref bC, .int tk, .int ss, .int ml, .int mh, .int mp, .int rw, .int wr, .int tc, .ref bT])), (bB, .inl (cI, 66, .inl gb2_152))] := hD1
                                    have hS := hS1
                                    clear hP1 hD1 hS1
                                    obtain ⟨v153, e153⟩ : ∃ y : Int32, y = k5 + 1 := ⟨_, rfl⟩
                                    first | have z153 := zi_inc (z := 1) 1 (by decide) e153 (by omega) | skip
                                    refine lv_iinc (v := v153) (lv' := [(2, .int v153), (0, .ref aM), (1, .int en)]) hx hb dX7_encode_277 hl (k := 2) rfl (by rw [e153]; rfl) (by decide) rfl (fun ls hl => ?_)
                                    refine lv_goto (tgt := 253) hx hb dX7_encode_280 (by decide) ?_
                                    exact ih253 v153 gb2_152 _ _ _ (by omega) (by omega) (uD_s i253_1 hw152 (by omega) (by omega) (show gg k5.toInt.toNat = v144 from e144.symm) (by omega) (by omega)) (hP.sub [0, 1, 2] rfl) (hD.sub [0, 1, 2] (by decide) rfl) hS (lv_sub hl [1, 2, 0] rfl)
                              exact J253 _ v140 gb4 _ _ _ (Nat.lt_succ_self _) (by omega) (fun q => uD_0 (by omega) q) (hP.sub [0, 1, 2] rfl) (hD.sub [0, 1, 2] (by decide) rfl) hS (lv_sub hl [1, 2, 0] rfl)
                            ·
                              have z139 := zi_nle c139
                              refine lv_aload_n hx hb dX7_encode_233 rfl (lv_at hl 0 rfl) ?_
                              refine lv_iload_n hx hb dX7_encode_234 rfl (lv_at hl 2 rfl) ?_
                              refine lv_bipush (v := 10) hx hb dX7_encode_235 (by decide) ?_
                              refine lv_topi (fun v154 e154 => ?_)
                              have z154 : v154.toInt = 10 := zi_c e154 (by decide)
                              refine lv_bipush (v := 7) hx hb dX7_encode_237 (by decide) ?_
                              refine lv_topi (fun v155 e155 => ?_)
                              have z155 : v155.toInt = 7 := zi_c e155 (by decide)
                              refine lv_iload_n hx hb dX7_encode_239 rfl (lv_at hl 2 rfl) ?_
                              refine lv_imul hx hb dX7_encode_240 ?_
                              refine lv_topi (fun v156 e156 => ?_)
                              first | have z156 := zi_mulL (k := 7) e156 (by omega) (by omega) | skip
                              refine lv_iadd hx hb dX7_encode_241 ?_
                              refine lv_topi (fun v157 e157 => ?_)
                              first | have z157 := zi_add e157 (by omega) | skip
                              have hh158 : 0 ≤ k4.toInt ∧ k4.toInt < 8 := (by omega)
                              have hh159 : 0 ≤ v157.toInt ∧ v157.toInt + 7 ≤ 66 := (by omega)
                              refine call_v (wc := [(aM, .inr (6, [.int th, .int mw, .ref bG, .int mz, .ref bL, .ref bY, .ref bB, .ref bC, .int tk, .int ss, .int ml, .int mh, .int mp, .int rw, .int wr, .int tc, .ref bT])), (bG, .inl (cI, 8, .inl gg)), (bB, .inl (cI, 66, .inl gb4))]) (wr := []) (run_V (As := [.int k4, .int v157]) (rest := []) kv_RX7_55 ⟨by decide, by decide⟩ ⟨rfl, rfl⟩ ⟨hx, hb, hml, hown, hts⟩ (c_Mo_putCode l D cI cJ cB aM bG bL bY bB bC bT th mw mz tk ss ml mh mp rw wr tc gg gb4 k4 v157 hh158 hh159 _) ct_blind (ct_pre (wc := [(aM, .inr (6, [.int th, .int mw, .ref bG, .int mz, .ref bL, .ref bY, .ref bB, .ref bC, .int tk, .int ss, .int ml, .int mh, .int mp, .int rw, .int wr, .int tc, .ref bT])), (bG, .inl (cI, 8, .inl gg)), (bB, .inl (cI, 66, .inl gb4))]) hK hP hD hS hA hZ hN [1, 0, 2] (by decide) rfl rfl) (va_recv hK hP (ci := 6) (q0 := 1) rfl rfl) rfl hl.1 rfl (Nat.le_of_ble_eq_true rfl) dX7_encode_242 ⟨Nat.le_of_ble_eq_true rfl, Nat.le_of_ble_eq_true rfl⟩) hP hD hS hA [1, 0, 2] [] rfl rfl (by decide) (by decide) (fun u H locs hw160 hP1 hD1 hS1 => ?_)
                              obtain ⟨gb2_160, hu9⟩ : ∃ z, z = u := ⟨_, rfl⟩
                              subst hu9
                              have hw160 : ∀ q : Nat, gb2_160 q = if v157.toInt.toNat ≤ q ∧ q < v157.toInt.toNat + 7 then bi (decide (¬ (gg k4.toInt.toNat).toInt = 256) && bt 30 (q - v157.toInt.toNat)) else gb4 q := hw160
                              clear hP hD hS
                              have hP : va_P D classes [(aM, .inr (6, [.int th, .int mw, .ref bG, .int mz, .ref bL, .ref bY, .ref bB, .ref bC, .int tk, .int ss, .int ml, .int mh, .int mp, .int rw, .int wr, .int tc, .ref bT])), (bG, .inl (cI, 8, .inl gg)), (bB, .inl (cI, 66, .inl gb2_160))] H := hP1
                              have hD : va_D A [(aM, .inr (6, [.int th, .int mw, .ref bG, .int mz, .ref bL, .ref bY, .ref bB, .ref bC, .int tk, .int ss, .int ml, .int mh, .int mp, .int rw, .int wr, .int tc, .ref bT])), (bG, .inl (cI, 8, .inl gg)), (bB, .inl (cI, 66, .inl gb2_160))] := hD1
                              have hS := hS1
                              clear hP1 hD1 hS1
                              obtain ⟨v161, e161⟩ : ∃ y : Int32, y = k4 + 1 := ⟨_, rfl⟩
                              first | have z161 := zi_inc (z := 1) 1 (by decide) e161 (by omega) | skip
                              refine lv_iinc (v := v161) (lv' := [(2, .int v161), (0, .ref aM), (1, .int en)]) hx hb dX7_encode_245 hl (k := 2) rfl (by rw [e161]; rfl) (by decide) rfl (fun ls hl => ?_)
                              refine lv_goto (tgt := 228) hx hb dX7_encode_248 (by decide) ?_
                              exact ih228 v161 gb2_160 _ _ _ (by omega) (by omega) (uC_s i228_1 hw160 (by omega) rfl (by omega) (by omega)) (hP.sub [1, 0, 2] rfl) (hD.sub [1, 0, 2] (by decide) rfl) hS (lv_sub hl [1, 2, 0] rfl)
                        exact J228 _ v137 gb2_136 _ _ _ (Nat.lt_succ_self _) (by omega) (fun q => uC_0 (by omega) q) (hP.sub [0, 1, 2] rfl) (hD.sub [0, 1, 2] (by decide) rfl) hS (lv_sub hl [1, 2, 0] rfl)
                refine lv_icmp_ne (tgt := 184) hx hb dX7_encode_126 (by decide) (fun c162 => ?_) (fun c162 => ?_)
                ·
                  have z162 := zi_ne c162
                  exact J184  _ _ _  (fun c => by first | exact absurd c.2 (stD_f (show stD r169 (aD gg 1 8) from by have g := hw169.1 (by omega); rw [show v163.toInt.toNat = 1 by omega, show v164.toInt.toNat = 8 by omega] at g; exact g) z170) | (have g := c.1; rw [show gg 0 = v20 from by rw [e20, show v19.toNatClampNeg = 0 from by show v19.toInt.toNat = 0; omega]] at g; omega)) (hP.sub [0, 1, 2] rfl) (hD.sub [0, 1, 2] (by decide) rfl) hS (lv_sub hl [0, 1, 2] rfl)
                ·
                  have z162 := zi_eq c162
                  refine lv_aload_n hx hb dX7_encode_129 rfl (lv_at hl 0 rfl) ?_
                  refine lv_iconst (v := 1) hx hb dX7_encode_130 (by decide) ?_
                  refine lv_topi (fun v163 e163 => ?_)
                  have z163 : v163.toInt = 1 := zi_c e163 (by decide)
                  refine lv_bipush (v := 8) hx hb dX7_encode_131 (by decide) ?_
                  refine lv_topi (fun v164 e164 => ?_)
                  have z164 : v164.toInt = 8 := zi_c e164 (by decide)
                  refine lv_iconst (v := 1) hx hb dX7_encode_133 (by decide) ?_
                  refine lv_topi (fun v165 e165 => ?_)
                  have z165 : v165.toInt = 1 := zi_c e165 (by decide)
                  have hh166 : 0 ≤ v163.toInt ∧ v163.toInt ≤ 8 := (by omega)
                  have hh167 : 0 ≤ v164.toInt ∧ v164.toInt ≤ 8 := (by omega)
                  have hh168 : v163.toInt ≤ v164.toInt := (by omega)
                  refine call_i (wc := [(aM, .inr (6, [.int th, .int mw, .ref bG, .int mz, .ref bL, .ref bY, .ref bB, .ref bC, .int tk, .int ss, .int ml, .int mh, .int mp, .int rw, .int wr, .int tc, .ref bT])), (bG, .inl (cI, 8, .inl gg))]) (wr := [(bB, .inl (cI, 66, .inl f18))]) (run_V (As := [.int v163, .int v164, .int v165]) (rest := []) kv_RX7_51 ⟨by decide, by decide⟩ ⟨rfl, rfl⟩ ⟨hx, hb, hml, hown, hts⟩ (c_Mo_are l D cI cJ cB aM bG bL bY bB bC bT th mw mz tk ss ml mh mp rw wr tc gg v163 v164 v165 hh166 hh167 hh168 _) ct_blind (ct_pre (wc := [(aM, .inr (6, [.int th, .int mw, .ref bG, .int mz, .ref bL, .ref bY, .ref bB, .ref bC, .int tk, .int ss, .int ml, .int mh, .int mp, .int rw, .int wr, .int tc, .ref bT])), (bG, .inl (cI, 8, .inl gg))]) hK hP hD hS hA hZ hN [1, 2] (by decide) rfl rfl) (va_recv hK hP (ci := 6) (q0 := 1) rfl rfl) rfl hl.1 rfl (Nat.le_of_ble_eq_true rfl) dX7_encode_134 ⟨Nat.le_of_ble_eq_true rfl, Nat.le_of_ble_eq_true rfl⟩) hP hD hS hA [1, 2] [0] rfl rfl (by decide) (by decide) (fun r169 u H locs hw169 hP1 hD1 hS1 => ?_)
                  have hw169 : (¬ v165.toInt = 0 → stD r169 (aD gg v163.toInt.toNat v164.toInt.toNat)) ∧ (v165.toInt = 0 → stD r169 (aQ gg v163.toInt.toNat v164.toInt.toNat)) := hw169
                  clear hP hD hS
                  have hP : va_P D classes [(bB, .inl (cI, 66, .inl f18)), (aM, .inr (6, [.int th, .int mw, .ref bG, .int mz, .ref bL, .ref bY, .ref bB, .ref bC, .int tk, .int ss, .int ml, .int mh, .int mp, .int rw, .int wr, .int tc, .ref bT])), (bG, .inl (cI, 8, .inl gg))] H := hP1
                  have hD : va_D A [(bB, .inl (cI, 66, .inl f18)), (aM, .inr (6, [.int th, .int mw, .ref bG, .int mz, .ref bL, .ref bY, .ref bB, .ref bC, .int tk, .int ss, .int ml, .int mh, .int mp, .int rw, .int wr, .int tc, .ref bT])), (bG, .inl (cI, 8, .inl gg))] := hD1
                  have hS := hS1
                  clear hP1 hD1 hS1
                  have rg_r169 := zi_rg r169
                  refine lv_if_eq (tgt := 184) hx hb dX7_encode_137 (by decide) (fun c170 => ?_) (fun c170 => ?_)
                  ·
                    have z170 := zi_eq0 c170
                    exact J184  _ _ _  (fun c => by first | exact absurd c.2 (stD_f (show stD r169 (aD gg 1 8) from by have g := hw169.1 (by omega); rw [show v163.toInt.toNat = 1 by omega, show v164.toInt.toNat = 8 by omega] at g; exact g) z170) | (have g := c.1; rw [show gg 0 = v20 from by rw [e20, show v19.toNatClampNeg = 0 from by show v19.toInt.toNat = 0; omega]] at g; omega)) (hP.sub [0, 1, 2] rfl) (hD.sub [0, 1, 2] (by decide) rfl) hS (lv_sub hl [0, 1, 2] rfl)
                  ·
                    have z170 := zi_ne0 c170
                    refine lv_aload_n hx hb dX7_encode_140 rfl (lv_at hl 0 rfl) ?_
                    refine lv_bipush (v := 120) hx hb dX7_encode_141 (by decide) ?_
                    refine lv_topi (fun v171 e171 => ?_)
                    have z171 : v171.toInt = 120 := zi_c e171 (by decide)
                    refine lv_iconst (v := 2) hx hb dX7_encode_143 (by decide) ?_
                    refine lv_topi (fun v172 e172 => ?_)
                    have z172 : v172.toInt = 2 := zi_c e172 (by decide)
                    refine lv_bipush (v := 8) hx hb dX7_encode_144 (by decide) ?_
                    refine lv_topi (fun v173 e173 => ?_)
                    have z173 : v173.toInt = 8 := zi_c e173 (by decide)
                    have hh174 : 0 ≤ v172.toInt ∧ 0 ≤ v173.toInt ∧ v172.toInt + v173.toInt ≤ 66 := (by omega)
                    have hh175 : v173.toInt ≤ 8 := (by omega)
                    refine call_v (wc := [(aM, .inr (6, [.int th, .int mw, .ref bG, .int mz, .ref bL, .ref bY, .ref bB, .ref bC, .int tk, .int ss, .int ml, .int mh, .int mp, .int rw, .int wr, .int tc, .ref bT])), (bB, .inl (cI, 66, .inl f18))]) (wr := [(bG, .inl (cI, 8, .inl gg))]) (run_V (As := [.int v171, .int v172, .int v173]) (rest := []) kv_RX7_47 ⟨by decide, by decide⟩ ⟨rfl, rfl⟩ ⟨hx, hb, hml, hown, hts⟩ (c_Mo_setBits l D cI cJ cB aM bG bL bY bB bC bT th mw mz tk ss ml mh mp rw wr tc f18 v171 v172 v173 hh174 hh175 _) ct_blind (ct_pre (wc := [(aM, .inr (6, [.int th, .int mw, .ref bG, .int mz, .ref bL, .ref bY, .ref bB, .ref bC, .int tk, .int ss, .int ml, .int mh, .int mp, .int rw, .int wr, .int tc, .ref bT])), (bB, .inl (cI, 66, .inl f18))]) hK hP hD hS hA hZ hN [1, 0] (by decide) rfl rfl) (va_recv hK hP (ci := 6) (q0 := 1) rfl rfl) rfl hl.1 rfl (Nat.le_of_ble_eq_true rfl) dX7_encode_146 ⟨Nat.le_of_ble_eq_true rfl, Nat.le_of_ble_eq_true rfl⟩) hP hD hS hA [1, 0] [2] rfl rfl (by decide) (by decide) (fun u H locs hw176 hP1 hD1 hS1 => ?_)
                    obtain ⟨gb2_176, hu9⟩ : ∃ z, z = u := ⟨_, rfl⟩
                    subst hu9
                    have hw176 : ∀ q : Nat, gb2_176 q = if v172.toInt.toNat ≤ q ∧ q < v172.toInt.toNat + v173.toInt.toNat then bi (bt v171 (q - v172.toInt.toNat)) else f18 q := hw176
                    clear hP hD hS
                    have hP : va_P D classes [(bG, .inl (cI, 8, .inl gg)), (aM, .inr (6, [.int th, .int mw, .ref bG, .int mz, .ref bL, .ref bY, .ref bB, .ref bC, .int tk, .int ss, .int ml, .int mh, .int mp, .int rw, .int wr, .int tc, .ref bT])), (bB, .inl (cI, 66, .inl gb2_176))] H := hP1
                    have hD : va_D A [(bG, .inl (cI, 8, .inl gg)), (aM, .inr (6, [.int th, .int mw, .ref bG, .int mz, .ref bL, .ref bY, .ref bB, .ref bC, .int tk, .int ss, .int ml, .int mh, .int mp, .int rw, .int wr, .int tc, .ref bT])), (bB, .inl (cI, 66, .inl gb2_176))] := hD1
                    have hS := hS1
                    clear hP1 hD1 hS1
                    refine lv_iconst (v := 1) hx hb dX7_encode_149 (by decide) ?_
                    refine lv_topi (fun v177 e177 => ?_)
                    have z177 : v177.toInt = 1 := zi_c e177 (by decide)
                    refine lv_istore_n (lv' := [(2, .int v177), (0, .ref aM), (1, .int en)]) hx hb dX7_encode_150 rfl hl (by decide) rfl (fun ls hl => ?_)
                    have J151 : ∀ (n : Nat) (k3 : Int32) (gb4 : Nat → Int32) (H : Heap) (locs : List Loc) (ls : Array Slot), ((8 - k3.toInt).toNat) < n → (1 ≤ k3.toInt ∧ k3.toInt ≤ 8) → (∀ q, gb4 q = uD gg gb2_176 2 1 k3.toInt.toNat q) → va_P D classes [(bG, .inl (cI, 8, .inl gg)), (aM, .inr (6, [.int th, .int mw, .ref bG, .int mz, .ref bL, .ref bY, .ref bB, .ref bC, .int tk, .int ss, .int ml, .int mh, .int mp, .int rw, .int wr, .int tc, .ref bT])), (bB, .inl (cI, 66, .inl gb4))] H → va_D A [(bG, .inl (cI, 8, .inl gg)), (aM, .inr (6, [.int th, .int mw, .ref bG, .int mz, .ref bL, .ref bY, .ref bB, .ref bC, .int tk, .int ss, .int ml, .int mh, .int mp, .int rw, .int wr, .int tc, .ref bT])), (bB, .inl (cI, 66, .inl gb4))] → va_S A s.heap H locs → lv_has ls 4 [(0, .ref aM), (1, .int en), (2, .int k3)] → W p l e (rmL 2 46 0 0) s m args below meth c H locs 0 0 Q (F0 m 151 ls []) := by
                      intro n
                      induction n with
                      | zero => intro k3 gb4 H locs ls hmu; exact absurd hmu (Nat.not_lt_zero _)
                      | succ n ih151 =>
                        intro k3 gb4 H locs ls hmu151 i151_0 i151_1 hP hD hS hl
                        have rg_k3 := zi_rg k3
                        refine lv_iload_n hx hb dX7_encode_151 rfl (lv_at hl 2 rfl) ?_
                        refine lv_bipush (v := 8) hx hb dX7_encode_152 (by decide) ?_
                        refine lv_topi (fun v178 e178 => ?_)
                        have z178 : v178.toInt = 8 := zi_c e178 (by decide)
                        refine lv_icmp_ge (tgt := 181) hx hb dX7_encode_154 (by decide) (fun c179 => ?_) (fun c179 => ?_)
                        ·
                          have z179 := zi_le c179
                          refine lv_goto (tgt := 456) hx hb dX7_encode_181 (by decide) ?_
                          have hq180 : okE gg gb4 := (by first | exact okE_cg (fun q => by rw [i151_1 q, show k3.toInt.toNat = 8 by omega, show gb2_176 = uT f18 120 from funext (uT_of hw176 (by omega) (by omega) (i_of z171 (by decide)))]) (enc_st ⟨by rw [show gg 0 = v20 from by rw [e20, show v19.toNatClampNeg = 0 from by show v19.toInt.toNat = 0; omega]]; omega, stD_t (show stD r169 (aD gg 1 8) from by have g := hw169.1 (by omega); rw [show v163.toInt.toNat = 1 by omega, show v164.toInt.toNat = 8 by omega] at g; exact g) z170⟩ (hdZ_of (p := 0) (fun q hq => i2_1 q (by omega)) ef18 (by omega) e17)) | exact okE_cg (fun q => by rw [i253_1 q, show k5.toInt.toNat = 8 by omega, show gb4 = uC gg gb2_136 0 4 from funext (fun q => by rw [i228_1 q, show k4.toInt.toNat = 4 by omega]), show gb2_136 = uT f18 51 from funext (uT_of hw136 (by omega) (by omega) (i_of z131 (by decide)))]) (enc_mid ⟨by rw [show gg 4 = v23 from by rw [e23, show v22.toNatClampNeg = 4 from by show v22.toInt.toNat = 4; omega]]; omega, stD_t (show stD r121 (aQ gg 0 4) from by have g := hw121.2 (by omega); rw [show v115.toInt.toNat = 0 by omega, show v116.toInt.toNat = 4 by omega] at g; exact g) z122, stD_t (show stD r129 (aD gg 5 8) from by have g := hw129.1 (by omega); rw [show v123.toInt.toNat = 5 by omega, show v124.toInt.toNat = 8 by omega] at g; exact g) z130⟩ (hdZ_of (p := 0) (fun q hq => i2_1 q (by omega)) ef18 (by omega) e17)) | exact okE_cg (fun q => by rw [i360_1 q, show k7.toInt.toNat = 8 by omega, show gb4 = uD gg gb2_86 10 0 en.toInt.toNat from funext (fun q => by rw [i326_1 q, show k6.toInt.toNat = en.toInt.toNat by omega]), show gb2_86 = uT f18 (st_k en.toInt.toNat) from funext (uT_of hw86 (by omega) (by omega) hw81)]) (enc_end (by omega) ⟨(by rcases i25_2 with g | g; (· omega); (· exact g.2.1)), stD_t (show stD r69 (aD gg 0 en.toInt.toNat) from by have g := hw69.1 (by omega); rw [show v64.toInt.toNat = 0 by omega] at g; exact g) z70, stD_t (show stD r78 (aQ gg (en.toInt.toNat + 1) 8) from by have g := hw78.2 (by omega); rw [show v72.toInt.toNat = en.toInt.toNat + 1 by omega, show v73.toInt.toNat = 8 by omega] at g; exact g) z79⟩ (hdZ_of (p := 0) (fun q hq => i2_1 q (by omega)) ef18 (by omega) e17)) | (by_cases q9 : r31.toInt = 0; (· exact okE_cg (fun q => by rw [i410_1.2 q9 q, show k8.toInt.toNat = 8 by omega, show gb2_37 = uT f18 30 from funext (uT_of hw37 (by omega) (by omega) (i_of z32 (by decide)))]) (enc_err (stD_f (show stD r14 (aD gg 0 8) from by have g := hw14.1 (by omega); rw [show v8.toInt.toNat = 0 by omega, show v9.toInt.toNat = 8 by omega] at g; exact g) z15) i184_0 i286_0 i390_0 (stD_f (show stD r31 (aQ gg 0 8) from by have g := hw31.2 (by omega); rw [show v25.toInt.toNat = 0 by omega, show v26.toInt.toNat = 8 by omega] at g; exact g) q9) (hdZ_of (p := 0) (fun q hq => i2_1 q (by omega)) ef18 (by omega) e17))); (· exact okE_cg (fun q => by rw [(i410_1.1 q9).2 q, show k8.toInt.toNat = 8 by omega, show gb2_37 = uT f18 30 from funext (uT_of hw37 (by omega) (by omega) (i_of z32 (by decide)))]) (enc_qui (stD_t (show stD r31 (aQ gg 0 8) from by have g := hw31.2 (by omega); rw [show v25.toInt.toNat = 0 by omega, show v26.toInt.toNat = 8 by omega] at g; exact g) q9) (hdZ_of (p := 0) (fun q hq => i2_1 q (by omega)) ef18 (by omega) e17)))))
                          exact hret (gg, gb4) _ _ _ _ dX7_encode_456 hq180 (hP.sub [1, 0, 2] rfl) (hD.sub [1, 0, 2] (by decide) rfl) hS
                        ·
                          have z179 := zi_nle c179
                          refine lv_aload_n hx hb dX7_encode_157 rfl (lv_at hl 0 rfl) ?_
                          refine lv_aload_n hx hb dX7_encode_158 rfl (lv_at hl 0 rfl) ?_
                          refine va_get (D := D) (ci := 6) (v := .ref bG) (C := RX7) (T := TX7) (N := 17) hx hb hts in_X7 hown hK hP 1 rfl rfl 2 (by decide) (hts _ wk60) (fun _ h9 => h9) rfl dX7_encode_159 ?_
                          refine lv_iload_n hx hb dX7_encode_162 rfl (lv_at hl 2 rfl) ?_
                          refine va_iald hx hb hK hP 0 0 rfl rfl (zi_in (by omega)) dX7_encode_163 ?_
                          refine lv_topi (fun v181 e181 => ?_)
                          refine lv_iconst (v := 2) hx hb dX7_encode_164 (by decide) ?_
                          refine lv_topi (fun v182 e182 => ?_)
                          have z182 : v182.toInt = 2 := zi_c e182 (by decide)
                          refine lv_bipush (v := 8) hx hb dX7_encode_165 (by decide) ?_
                          refine lv_topi (fun v183 e183 => ?_)
                          have z183 : v183.toInt = 8 := zi_c e183 (by decide)
                          refine lv_iload_n hx hb dX7_encode_167 rfl (lv_at hl 2 rfl) ?_
                          refine lv_imul hx hb dX7_encode_168 ?_
                          refine lv_topi (fun v184 e184 => ?_)
                          first | have z184 := zi_mulL (k := 8) e184 (by omega) (by omega) | skip
                          refine lv_iadd hx hb dX7_encode_169 ?_
                          refine lv_topi (fun v185 e185 => ?_)
                          first | have z185 := zi_add e185 (by omega) | skip
                          refine lv_bipush (v := 8) hx hb dX7_encode_170 (by decide) ?_
                          refine lv_topi (fun v186 e186 => ?_)
                          have z186 : v186.toInt = 8 := zi_c e186 (by decide)
                          have hh187 : 0 ≤ v185.toInt ∧ 0 ≤ v186.toInt ∧ v185.toInt + v186.toInt ≤ 66 := (by omega)
                          have hh188 : v186.toInt ≤ 8 := (by omega)
                          refine call_v (wc := [(aM, .inr (6, [.int th, .int mw, .ref bG, .int mz, .ref bL, .ref bY, .ref bB, .ref bC, .int tk, .int ss, .int ml, .int mh, .int mp, .int rw, .int wr, .int tc, .ref bT])), (bB, .inl (cI, 66, .inl gb4))]) (wr := [(bG, .inl (cI, 8, .inl gg))]) (run_V (As := [.int v181, .int v185, .int v186]) (rest := []) kv_RX7_47 ⟨by decide, by decide⟩ ⟨rfl, rfl⟩ ⟨hx, hb, hml, hown, hts⟩ (c_Mo_setBits l D cI cJ cB aM bG bL bY bB bC bT th mw mz tk ss ml mh mp rw wr tc gb4 v181 v185 v186 hh187 hh188 _) ct_blind (ct_pre (wc := [(aM, .inr (6, [.int th, .int mw, .ref bG, .int mz, .ref bL, .ref bY, .ref bB, .ref bC, .int tk, .int ss, .int ml, .int mh, .int mp, .int rw, .int wr, .int tc, .ref bT])), (bB, .inl (cI, 66, .inl gb4))]) hK hP hD hS hA hZ hN [1, 2] (by decide) rfl rfl) (va_recv hK hP (ci := 6) (q0 := 1) rfl rfl) rfl hl.1 rfl (Nat.le_of_ble_eq_true rfl) dX7_encode_172 ⟨Nat.le_of_ble_eq_true rfl, Nat.le_of_ble_eq_true rfl⟩) hP hD hS hA [1, 2] [0] rfl rfl (by decide) (by decide) (fun u H locs hw189 hP1 hD1 hS1 => ?_)
                          obtain ⟨gb2_189, hu9⟩ : ∃ z, z = u := ⟨_, rfl⟩
                          subst hu9
                          have hw189 : ∀ q : Nat, gb2_189 q = if v185.toInt.toNat ≤ q ∧ q < v185.toInt.toNat + v186.toInt.toNat then bi (bt v181 (q - v185.toInt.toNat)) else gb4 q := hw189
                          clear hP hD hS
                          have hP : va_P D classes [(bG, .inl (cI, 8, .inl gg)), (aM, .inr (6, [.int th, .int mw, .ref bG, .int mz, .ref bL, .ref bY, .ref bB, .ref bC, .int tk, .int ss, .int ml, .int mh, .int mp, .int rw, .int wr, .int tc, .ref bT])), (bB, .inl (cI, 66, .inl gb2_189))] H := hP1
                          have hD : va_D A [(bG, .inl (cI, 8, .inl gg)), (aM, .inr (6, [.int th, .int mw, .ref bG, .int mz, .ref bL, .ref bY, .ref bB, .ref bC, .int tk, .int ss, .int ml, .int mh, .int mp, .int rw, .int wr, .int tc, .ref bT])), (bB, .inl (cI, 66, .inl gb2_189))] := hD1
                          have hS := hS1
                          clear hP1 hD1 hS1
                          obtain ⟨v190, e190⟩ : ∃ y : Int32, y = k3 + 1 := ⟨_, rfl⟩
                          first | have z190 := zi_inc (z := 1) 1 (by decide) e190 (by omega) | skip
                          refine lv_iinc (v := v190) (lv' := [(2, .int v190), (0, .ref aM), (1, .int en)]) hx hb dX7_encode_175 hl (k := 2) rfl (by rw [e190]; rfl) (by decide) rfl (fun ls hl => ?_)
                          refine lv_goto (tgt := 151) hx hb dX7_encode_178 (by decide) ?_
                          exact ih151 v190 gb2_189 _ _ _ (by omega) (by omega) (uD_s i151_1 hw189 (by omega) (by omega) (show gg k3.toInt.toNat = v181 from e181.symm) (by omega) (by omega)) (hP.sub [0, 1, 2] rfl) (hD.sub [0, 1, 2] (by decide) rfl) hS (lv_sub hl [1, 2, 0] rfl)
                    exact J151 _ v177 gb2_176 _ _ _ (Nat.lt_succ_self _) (by omega) (fun q => uD_0 (by omega) q) (hP.sub [0, 1, 2] rfl) (hD.sub [0, 1, 2] (by decide) rfl) hS (lv_sub hl [1, 2, 0] rfl)
              ·
                have z15 := zi_ne0 c15
                refine lv_aload_n hx hb dX7_encode_70 rfl (lv_at hl 0 rfl) ?_
                refine va_get (D := D) (ci := 6) (v := .ref bB) (C := RX7) (T := TX7) (N := 17) hx hb hts in_X7 hown hK hP 1 rfl rfl 6 (by decide) (hts _ wk64) (fun _ h9 => h9) rfl dX7_encode_71 ?_
                refine lv_iconst (v := 1) hx hb dX7_encode_74 (by decide) ?_
                refine lv_topi (fun v191 e191 => ?_)
                have z191 : v191.toInt = 1 := zi_c e191 (by decide)
                refine lv_iconst (v := 1) hx hb dX7_encode_75 (by decide) ?_
                refine lv_topi (fun v192 e192 => ?_)
                have z192 : v192.toInt = 1 := zi_c e192 (by decide)
                obtain ⟨f193, ef193⟩ : ∃ z9, z9 = upd gb3 v191.toNatClampNeg v192 := ⟨_, rfl⟩
                refine va_iast hx hb hK hP hD hS 0 0 rfl rfl (zi_in (by omega)) dX7_encode_76 (fun H locs hP1 hD1 hS1 => ?_)
                rw [← ef193] at hP1 hD1
                clear hP hD hS
                have hP : va_P D classes [(bB, .inl (cI, 66, .inl f193)), (aM, .inr (6, [.int th, .int mw, .ref bG, .int mz, .ref bL, .ref bY, .ref bB, .ref bC, .int tk, .int ss, .int ml, .int mh, .int mp, .int rw, .int wr, .int tc, .ref bT])), (bG, .inl (cI, 8, .inl gg))] H := hP1
                have hD : va_D A [(bB, .inl (cI, 66, .inl f193)), (aM, .inr (6, [.int th, .int mw, .ref bG, .int mz, .ref bL, .ref bY, .ref bB, .ref bC, .int tk, .int ss, .int ml, .int mh, .int mp, .int rw, .int wr, .int tc, .ref bT])), (bG, .inl (cI, 8, .inl gg))] := hD1
                have hS := hS1
                clear hP1 hD1 hS1
                refine lv_iconst (v := 0) hx hb dX7_encode_77 (by decide) ?_
                refine lv_topi (fun v194 e194 => ?_)
                have z194 : v194.toInt = 0 := zi_c e194 (by decide)
                refine lv_istore_n (lv' := [(2, .int v194), (0, .ref aM), (1, .int en)]) hx hb dX7_encode_78 rfl hl (by decide) rfl (fun ls hl => ?_)
                have J79 : ∀ (n : Nat) (k2 : Int32) (gb4 : Nat → Int32) (H : Heap) (locs : List Loc) (ls : Array Slot), ((8 - k2.toInt).toNat) < n → (0 ≤ k2.toInt ∧ k2.toInt ≤ 8) → (∀ q, gb4 q = uD gg f193 2 0 k2.toInt.toNat q) → va_P D classes [(bB, .inl (cI, 66, .inl gb4)), (aM, .inr (6, [.int th, .int mw, .ref bG, .int mz, .ref bL, .ref bY, .ref bB, .ref bC, .int tk, .int ss, .int ml, .int mh, .int mp, .int rw, .int wr, .int tc, .ref bT])), (bG, .inl (cI, 8, .inl gg))] H → va_D A [(bB, .inl (cI, 66, .inl gb4)), (aM, .inr (6, [.int th, .int mw, .ref bG, .int mz, .ref bL, .ref bY, .ref bB, .ref bC, .int tk, .int ss, .int ml, .int mh, .int mp, .int rw, .int wr, .int tc, .ref bT])), (bG, .inl (cI, 8, .inl gg))] → va_S A s.heap H locs → lv_has ls 4 [(0, .ref aM), (1, .int en), (2, .int k2)] → W p l e (rmL 2 46 0 0) s m args below meth c H locs 0 0 Q (F0 m 79 ls []) := by
                  intro n
                  induction n with
                  | zero => intro k2 gb4 H locs ls hmu; exact absurd hmu (Nat.not_lt_zero _)
                  | succ n ih79 =>
                    intro k2 gb4 H locs ls hmu79 i79_0 i79_1 hP hD hS hl
                    have rg_k2 := zi_rg k2
                    refine lv_iload_n hx hb dX7_encode_79 rfl (lv_at hl 2 rfl) ?_
                    refine lv_bipush (v := 8) hx hb dX7_encode_80 (by decide) ?_
                    refine lv_topi (fun v195 e195 => ?_)
                    have z195 : v195.toInt = 8 := zi_c e195 (by decide)
                    refine lv_icmp_ge (tgt := 109) hx hb dX7_encode_82 (by decide) (fun c196 => ?_) (fun c196 => ?_)
                    ·
                      have z196 := zi_le c196
                      have hq197 : okE gg gb4 := (okE_cg (fun q => by rw [i79_1 q, show k2.toInt.toNat = 8 by omega]) (enc_all (stD_t (show stD r14 (aD gg 0 8) from by have g := hw14.1 (by omega); rw [show v8.toInt.toNat = 0 by omega, show v9.toInt.toNat = 8 by omega] at g; exact g) z15) (hdZ_of (p := 1) (fun q hq => i2_1 q (by omega)) ef193 (by omega) e192)))
                      exact hret (gg, gb4) _ _ _ _ dX7_encode_109 hq197 (hP.sub [1, 2, 0] rfl) (hD.sub [1, 2, 0] (by decide) rfl) hS
                    ·
                      have z196 := zi_nle c196
                      refine lv_aload_n hx hb dX7_encode_85 rfl (lv_at hl 0 rfl) ?_
                      refine lv_aload_n hx hb dX7_encode_86 rfl (lv_at hl 0 rfl) ?_
                      refine va_get (D := D) (ci := 6) (v := .ref bG) (C := RX7) (T := TX7) (N := 17) hx hb hts in_X7 hown hK hP 1 rfl rfl 2 (by decide) (hts _ wk60) (fun _ h9 => h9) rfl dX7_encode_87 ?_
                      refine lv_iload_n hx hb dX7_encode_90 rfl (lv_at hl 2 rfl) ?_
                      refine va_iald hx hb hK hP 2 0 rfl rfl (zi_in (by omega)) dX7_encode_91 ?_
                      refine lv_topi (fun v198 e198 => ?_)
                      refine lv_iconst (v := 2) hx hb dX7_encode_92 (by decide) ?_
                      refine lv_topi (fun v199 e199 => ?_)
                      have z199 : v199.toInt = 2 := zi_c e199 (by decide)
                      refine lv_bipush (v := 8) hx hb dX7_encode_93 (by decide) ?_
                      refine lv_topi (fun v200 e200 => ?_)
                      have z200 : v200.toInt = 8 := zi_c e200 (by decide)
                      refine lv_iload_n hx hb dX7_encode_95 rfl (lv_at hl 2 rfl) ?_
                      refine lv_imul hx hb dX7_encode_96 ?_
                      refine lv_topi (fun v201 e201 => ?_)
                      first | have z201 := zi_mulL (k := 8) e201 (by omega) (by omega) | skip
                      refine lv_iadd hx hb dX7_encode_97 ?_
                      refine lv_topi (fun v202 e202 => ?_)
                      first | have z202 := zi_add e202 (by omega) | skip
                      refine lv_bipush (v := 8) hx hb dX7_encode_98 (by decide) ?_
                      refine lv_topi (fun v203 e203 => ?_)
                      have z203 : v203.toInt = 8 := zi_c e203 (by decide)
                      have hh204 : 0 ≤ v202.toInt ∧ 0 ≤ v203.toInt ∧ v202.toInt + v203.toInt ≤ 66 := (by omega)
                      have hh205 : v203.toInt ≤ 8 := (by omega)
                      refine call_v (wc := [(aM, .inr (6, [.int th, .int mw, .ref bG, .int mz, .ref bL, .ref bY, .ref bB, .ref bC, .int tk, .int ss, .int ml, .int mh, .int mp, .int rw, .int wr, .int tc, .ref bT])), (bB, .inl (cI, 66, .inl gb4))]) (wr := [(bG, .inl (cI, 8, .inl gg))]) (run_V (As := [.int v198, .int v202, .int v203]) (rest := []) kv_RX7_47 ⟨by decide, by decide⟩ ⟨rfl, rfl⟩ ⟨hx, hb, hml, hown, hts⟩ (c_Mo_setBits l D cI cJ cB aM bG bL bY bB bC bT th mw mz tk ss ml mh mp rw wr tc gb4 v198 v202 v203 hh204 hh205 _) ct_blind (ct_pre (wc := [(aM, .inr (6, [.int th, .int mw, .ref bG, .int mz, .ref bL, .ref bY, .ref bB, .ref bC, .int tk, .int ss, .int ml, .int mh, .int mp, .int rw, .int wr, .int tc, .ref bT])), (bB, .inl (cI, 66, .inl gb4))]) hK hP hD hS hA hZ hN [1, 0] (by decide) rfl rfl) (va_recv hK hP (ci := 6) (q0 := 1) rfl rfl) rfl hl.1 rfl (Nat.le_of_ble_eq_true rfl) dX7_encode_100 ⟨Nat.le_of_ble_eq_true rfl, Nat.le_of_ble_eq_true rfl⟩) hP hD hS hA [1, 0] [2] rfl rfl (by decide) (by decide) (fun u H locs hw206 hP1 hD1 hS1 => ?_)
                      obtain ⟨gb2_206, hu9⟩ : ∃ z, z = u := ⟨_, rfl⟩
                      subst hu9
                      have hw206 : ∀ q : Nat, gb2_206 q = if v202.toInt.toNat ≤ q ∧ q < v202.toInt.toNat + v203.toInt.toNat then bi (bt v198 (q - v202.toInt.toNat)) else gb4 q := hw206
                      clear hP hD hS
                      have hP : va_P D classes [(bG, .inl (cI, 8, .inl gg)), (aM, .inr (6, [.int th, .int mw, .ref bG, .int mz, .ref bL, .ref bY, .ref bB, .ref bC, .int tk, .int ss, .int ml, .int mh, .int mp, .int rw, .int wr, .int tc, .ref bT])), (bB, .inl (cI, 66, .inl gb2_206))] H := hP1
                      have hD : va_D A [(bG, .inl (cI, 8, .inl gg)), (aM, .inr (6, [.int th, .int mw, .ref bG, .int mz, .ref bL, .ref bY, .ref bB, .ref bC, .int tk, .int ss, .int ml, .int mh, .int mp, .int rw, .int wr, .int tc, .ref bT])), (bB, .inl (cI, 66, .inl gb2_206))] := hD1
                      have hS := hS1
                      clear hP1 hD1 hS1
                      obtain ⟨v207, e207⟩ : ∃ y : Int32, y = k2 + 1 := ⟨_, rfl⟩
                      first | have z207 := zi_inc (z := 1) 1 (by decide) e207 (by omega) | skip
                      refine lv_iinc (v := v207) (lv' := [(2, .int v207), (0, .ref aM), (1, .int en)]) hx hb dX7_encode_103 hl (k := 2) rfl (by rw [e207]; rfl) (by decide) rfl (fun ls hl => ?_)
                      refine lv_goto (tgt := 79) hx hb dX7_encode_106 (by decide) ?_
                      exact ih79 v207 gb2_206 _ _ _ (by omega) (by omega) (uD_s i79_1 hw206 (by omega) (by omega) (show gg k2.toInt.toNat = v198 from e198.symm) (by omega) (by omega)) (hP.sub [2, 1, 0] rfl) (hD.sub [2, 1, 0] (by decide) rfl) hS (lv_sub hl [1, 2, 0] rfl)
                exact J79 _ v194 f193 _ _ _ (Nat.lt_succ_self _) (by omega) (fun q => uD_0 (by omega) q) (hP.sub [0, 1, 2] rfl) (hD.sub [0, 1, 2] (by decide) rfl) hS (lv_sub hl [1, 2, 0] rfl)
            ·
              have z7 := zi_nle c7
              refine lv_aload_n hx hb dX7_encode_31 rfl (lv_at hl 0 rfl) ?_
              refine va_get (D := D) (ci := 6) (v := .ref bG) (C := RX7) (T := TX7) (N := 17) hx hb hts in_X7 hown hK hP 0 rfl rfl 2 (by decide) (hts _ wk60) (fun _ h9 => h9) rfl dX7_encode_32 ?_
              refine lv_iload_n hx hb dX7_encode_35 rfl (lv_at hl 2 rfl) ?_
              refine va_iald hx hb hK hP 1 0 rfl rfl (zi_in (by omega)) dX7_encode_36 ?_
              refine lv_topi (fun v208 e208 => ?_)
              refine lv_sipush (v := 258) hx hb dX7_encode_37 (by decide) ?_
              refine lv_topi (fun v209 e209 => ?_)
              have z209 : v209.toInt = 258 := zi_c e209 (by decide)
              refine lv_icmp_ne (tgt := 51) hx hb dX7_encode_40 (by decide) (fun c210 => ?_) (fun c210 => ?_)
              ·
                have z210 := zi_ne c210
                refine lv_iload_n hx hb dX7_encode_51 rfl (lv_at hl 1 rfl) ?_
                refine lv_istore_n (lv' := [(1, .int en), (0, .ref aM), (2, .int k1)]) hx hb dX7_encode_52 rfl hl (by decide) rfl (fun ls hl => ?_)
                obtain ⟨v211, e211⟩ : ∃ y : Int32, y = k1 + 1 := ⟨_, rfl⟩
                first | have z211 := zi_inc (z := 1) 1 (by decide) e211 (by omega) | skip
                refine lv_iinc (v := v211) (lv' := [(2, .int v211), (1, .int en), (0, .ref aM)]) hx hb dX7_encode_53 hl (k := 2) rfl (by rw [e211]; rfl) (by decide) rfl (fun ls hl => ?_)
                refine lv_goto (tgt := 25) hx hb dX7_encode_56 (by decide) ?_
                exact ih25 en v211 _ _ _ (by omega) (by omega) (by omega) (by have g9 : gg k1.toInt.toNat = v208 := e208.symm; first | exact fEnd_n i25_2 (by omega) (by rw [g9]; omega) | exact fEnd_k i25_2 (by omega) (by omega) | exact fEnd_f i25_2 (by omega) (by omega) (by rw [g9]; omega) (by omega)) (hP.sub [0, 1, 2] rfl) (hD.sub [0, 1, 2] (by decide) rfl) hS (lv_sub hl [2, 1, 0] rfl)
              ·
                have z210 := zi_eq c210
                refine lv_iload_n hx hb dX7_encode_43 rfl (lv_at hl 1 rfl) ?_
                refine lv_if_ge (tgt := 51) hx hb dX7_encode_44 (by decide) (fun c212 => ?_) (fun c212 => ?_)
                ·
                  have z212 := zi_ge0 c212
                  refine lv_iload_n hx hb dX7_encode_51 rfl (lv_at hl 1 rfl) ?_
                  refine lv_istore_n (lv' := [(1, .int en), (0, .ref aM), (2, .int k1)]) hx hb dX7_encode_52 rfl hl (by decide) rfl (fun ls hl => ?_)
                  obtain ⟨v213, e213⟩ : ∃ y : Int32, y = k1 + 1 := ⟨_, rfl⟩
                  first | have z213 := zi_inc (z := 1) 1 (by decide) e213 (by omega) | skip
                  refine lv_iinc (v := v213) (lv' := [(2, .int v213), (1, .int en), (0, .ref aM)]) hx hb dX7_encode_53 hl (k := 2) rfl (by rw [e213]; rfl) (by decide) rfl (fun ls hl => ?_)
                  refine lv_goto (tgt := 25) hx hb dX7_encode_56 (by decide) ?_
                  exact ih25 en v213 _ _ _ (by omega) (by omega) (by omega) (by have g9 : gg k1.toInt.toNat = v208 := e208.symm; first | exact fEnd_n i25_2 (by omega) (by rw [g9]; omega) | exact fEnd_k i25_2 (by omega) (by omega) | exact fEnd_f i25_2 (by omega) (by omega) (by rw [g9]; omega) (by omega)) (hP.sub [0, 1, 2] rfl) (hD.sub [0, 1, 2] (by decide) rfl) hS (lv_sub hl [2, 1, 0] rfl)
                ·
                  have z212 := zi_nge0 c212
                  refine lv_iload_n hx hb dX7_encode_47 rfl (lv_at hl 2 rfl) ?_
                  refine lv_goto (tgt := 52) hx hb dX7_encode_48 (by decide) ?_
                  refine lv_istore_n (lv' := [(1, .int k1), (0, .ref aM), (2, .int k1)]) hx hb dX7_encode_52 rfl hl (by decide) rfl (fun ls hl => ?_)
                  obtain ⟨v214, e214⟩ : ∃ y : Int32, y = k1 + 1 := ⟨_, rfl⟩
                  first | have z214 := zi_inc (z := 1) 1 (by decide) e214 (by omega) | skip
                  refine lv_iinc (v := v214) (lv' := [(2, .int v214), (1, .int k1), (0, .ref aM)]) hx hb dX7_encode_53 hl (k := 2) rfl (by rw [e214]; rfl) (by decide) rfl (fun ls hl => ?_)
                  refine lv_goto (tgt := 25) hx hb dX7_encode_56 (by decide) ?_
                  exact ih25 k1 v214 _ _ _ (by omega) (by omega) (by omega) (by have g9 : gg k1.toInt.toNat = v208 := e208.symm; first | exact fEnd_n i25_2 (by omega) (by rw [g9]; omega) | exact fEnd_k i25_2 (by omega) (by omega) | exact fEnd_f i25_2 (by omega) (by omega) (by rw [g9]; omega) (by omega)) (hP.sub [0, 1, 2] rfl) (hD.sub [0, 1, 2] (by decide) rfl) hS (lv_sub hl [2, 1, 0] rfl)
        exact J25 _ v4 v5 _ _ _ (Nat.lt_succ_self _) (by omega) (by omega) (Or.inl ⟨z4, fun j hj => absurd hj (by omega)⟩) (hP.sub [0, 1, 2] rfl) (hD.sub [0, 1, 2] (by decide) rfl) hS (lv_sub hl [2, 1, 0] rfl)
      ·
        have z3 := zi_nle c3
        refine lv_aload_n hx hb dX7_encode_8 rfl (lv_at hl 0 rfl) ?_
        refine va_get (D := D) (ci := 6) (v := .ref bB) (C := RX7) (T := TX7) (N := 17) hx hb hts in_X7 hown hK hP 0 rfl rfl 6 (by decide) (hts _ wk64) (fun _ h9 => h9) rfl dX7_encode_9 ?_
        refine lv_iload_n hx hb dX7_encode_12 rfl (lv_at hl 1 rfl) ?_
        refine lv_iconst (v := 0) hx hb dX7_encode_13 (by decide) ?_
        refine lv_topi (fun v215 e215 => ?_)
        have z215 : v215.toInt = 0 := zi_c e215 (by decide)
        obtain ⟨f216, ef216⟩ : ∃ z9, z9 = upd gb3 k0.toNatClampNeg v215 := ⟨_, rfl⟩
        refine va_iast hx hb hK hP hD hS 2 0 rfl rfl (zi_in (by omega)) dX7_encode_14 (fun H locs hP1 hD1 hS1 => ?_)
        rw [← ef216] at hP1 hD1
        clear hP hD hS
        have hP : va_P D classes [(aM, .inr (6, [.int th, .int mw, .ref bG, .int mz, .ref bL, .ref bY, .ref bB, .ref bC, .int tk, .int ss, .int ml, .int mh, .int mp, .int rw, .int wr, .int tc, .ref bT])), (bG, .inl (cI, 8, .inl gg)), (bB, .inl (cI, 66, .inl f216))] H := hP1
        have hD : va_D A [(aM, .inr (6, [.int th, .int mw, .ref bG, .int mz, .ref bL, .ref bY, .ref bB, .ref bC, .int tk, .int ss, .int ml, .int mh, .int mp, .int rw, .int wr, .int tc, .ref bT])), (bG, .inl (cI, 8, .inl gg)), (bB, .inl (cI, 66, .inl f216))] := hD1
        have hS := hS1
        clear hP1 hD1 hS1
        obtain ⟨v217, e217⟩ : ∃ y : Int32, y = k0 + 1 := ⟨_, rfl⟩
        first | have z217 := zi_inc (z := 1) 1 (by decide) e217 (by omega) | skip
        refine lv_iinc (v := v217) (lv' := [(1, .int v217), (0, .ref aM)]) hx hb dX7_encode_15 hl (k := 1) rfl (by rw [e217]; rfl) (by decide) rfl (fun ls hl => ?_)
        refine lv_goto (tgt := 2) hx hb dX7_encode_18 (by decide) ?_
        exact ih2 v217 f216 _ _ _ (by omega) (by omega) (fun q hq => by rw [ef216]; by_cases g : q = k0.toInt.toNat; (· rw [g, show upd gb3 k0.toNatClampNeg v215 k0.toInt.toNat = v215 from pk_us, e215]); (· rw [pk_un (show q ≠ k0.toNatClampNeg from g)]; exact i2_1 q (by omega))) (hP.sub [0, 1, 2] rfl) (hD.sub [0, 1, 2] (by decide) rfl) hS (lv_sub hl [1, 0] rfl)
  exact J2 _ v1 gb _ _ _ (Nat.lt_succ_self _) (by omega) (fun q hq => absurd hq (by omega)) (hP.sub [0, 1, 2] rfl) (hD.sub [0, 1, 2] (by decide) rfl) hS (lv_sub hl [1, 0] rfl)
