set_option maxHeartbeats 4000000 in
set_option maxRecDepth 100000 in
theorem c_Mo_idle (l : Launch) (D : va_G) (cI cJ cB : ClassId) (aM : Nat) (bG : Nat) (bL : Nat) (bY : Nat) (bB : Nat) (bC : Nat) (bT : Nat) (th : Int32) (mw : Int32) (mz : Int32) (tk : Int32) (ss : Int32) (ml : Int32) (mh : Int32) (mp : Int32) (rw : Int32) (wr : Int32) (tc : Int32) (gg : Nat → Int32) (gl : Nat → Int32) (gy : Nat → Int32) (gb : Nat → Int32) (nn : Int32) (h1 : 0 ≤ mz.toInt ∧ mz.toInt ≤ 9066) (h2 : 0 ≤ mw.toInt ∧ mw.toInt < 8) (h3 : ∀ j, j < 58 → gy j = bi (bt (gy j) 0)) (h4 : ∀ j : Nat, (j : Int) < mz.toInt → gl j = bi (bt (gl j) 0)) :
    cti l yX7_idle (wsOf yX7_idle cX7_idle 4 (some .int)) (rmL 4 91 0 0) D classes (tys3 cI cJ cB) [.ref aM, .int nn] [(aM, .inr (6, [.int th, .int mw, .ref bG, .int mz, .ref bL, .ref bY, .ref bB, .ref bC, .int tk, .int ss, .int ml, .int mh, .int mp, .int rw, .int wr, .int tc, .ref bT])), (bG, .inl (cI, 8, .inl gg)), (bL, .inl (cB, 9200, .inl gl)), (bY, .inl (cI, 116, .inl gy)), (bB, .inl (cI, 66, .inl gb))] (fun (r : Int32) (u : Int32 × Int32 × Int32 × (Nat → Int32) × (Nat → Int32) × (Nat → Int32) × (Nat → Int32)) => ((u.2.1.toInt = mw.toInt) ∧ ((nn.toInt < 1 ∨ 100 < nn.toInt ∨ 0 < mw.toInt) → r.toInt = -12 ∧ u.2.2.1.toInt = mz.toInt) ∧ ((1 ≤ nn.toInt ∧ nn.toInt ≤ 100 ∧ mw.toInt = 0) → (9000 ≤ mz.toInt + 66 * (nn.toInt - 1) → r.toInt = -14 ∧ u.2.2.1.toInt = mz.toInt) ∧ (mz.toInt + 66 * (nn.toInt - 1) < 9000 → r.toInt = mz.toInt + 66 * nn.toInt ∧ u.2.2.1.toInt = mz.toInt + 66 * nn.toInt))) ∧ (∀ j, j < 58 → u.2.2.2.2.2.1 j = bi (bt (u.2.2.2.2.2.1 j) 0)) ∧ (∀ j : Nat, (j : Int) < u.2.2.1.toInt → u.2.2.2.2.1 j = bi (bt (u.2.2.2.2.1 j) 0)) ∧ ((nn.toInt < 1 ∨ 100 < nn.toInt ∨ 0 < mw.toInt ∨ 9000 ≤ mz.toInt + 66 * (nn.toInt - 1)) → u.2.2.2.1 = gg ∧ u.2.2.2.2.2.1 = gy ∧ u.2.2.2.2.1 = gl) ∧ (¬ (nn.toInt < 1 ∨ 100 < nn.toInt ∨ 0 < mw.toInt ∨ 9000 ≤ mz.toInt + 66 * (nn.toInt - 1)) → idlR nn.toInt.toNat mz.toInt u.2.2.1.toInt (sgB gy) (sgB u.2.2.2.2.2.1) (mlB gl) (mlB u.2.2.2.2.1))) (fun u : Int32 × Int32 × Int32 × (Nat → Int32) × (Nat → Int32) × (Nat → Int32) × (Nat → Int32) => ([(aM, .inr (6, [.int u.1, .int u.2.1, .ref bG, .int u.2.2.1, .ref bL, .ref bY, .ref bB, .ref bC, .int tk, .int ss, .int ml, .int mh, .int mp, .int rw, .int wr, .int tc, .ref bT])), (bG, .inl (cI, 8, .inl u.2.2.2.1)), (bL, .inl (cB, 9200, .inl u.2.2.2.2.1)), (bY, .inl (cI, 116, .inl u.2.2.2.2.2.1)), (bB, .inl (cI, 66, .inl u.2.2.2.2.2.2))] : va_W)) := by
  refine cti.of (by first | exact plainFor_of_name (by decide) | decide +kernel) (Nat.le_of_ble_eq_true rfl) (fun p e s m args below meth c A ls Q h hret => ?_)
  obtain ⟨hx, hb, hml, hown, hts, hnm, hP, hK, hD, hA, hS, hZ, hN, hl⟩ := h
  have hown : s.vm.findClass RX7 = some m.cls := hown
  have hl : lv_has ls 4 [(0, .ref aM), (1, .int nn)] := hl
  have hP : va_P D classes [(aM, .inr (6, [.int th, .int mw, .ref bG, .int mz, .ref bL, .ref bY, .ref bB, .ref bC, .int tk, .int ss, .int ml, .int mh, .int mp, .int rw, .int wr, .int tc, .ref bT])), (bG, .inl (cI, 8, .inl gg)), (bL, .inl (cB, 9200, .inl gl)), (bY, .inl (cI, 116, .inl gy)), (bB, .inl (cI, 66, .inl gb))] s.heap := hP
  have hD : va_D A [(aM, .inr (6, [.int th, .int mw, .ref bG, .int mz, .ref bL, .ref bY, .ref bB, .ref bC, .int tk, .int ss, .int ml, .int mh, .int mp, .int rw, .int wr, .int tc, .ref bT])), (bG, .inl (cI, 8, .inl gg)), (bL, .inl (cB, 9200, .inl gl)), (bY, .inl (cI, 116, .inl gy)), (bB, .inl (cI, 66, .inl gb))] := hD
  have rg_th := zi_rg th
  have rg_mw := zi_rg mw
  have rg_mz := zi_rg mz
  have rg_tk := zi_rg tk
  have rg_ss := zi_rg ss
  have rg_ml := zi_rg ml
  have rg_mh := zi_rg mh
  have rg_mp := zi_rg mp
  have rg_rw := zi_rg rw
  have rg_wr := zi_rg wr
  have rg_tc := zi_rg tc
  have rg_nn := zi_rg nn
  refine lv_aload_n hx hb dX7_idle_0 rfl (lv_at hl 0 rfl) ?_
  refine lv_iconst (v := 0) hx hb dX7_idle_1 (by decide) ?_
  refine lv_topi (fun v1 e1 => ?_)
  have z1 : v1.toInt = 0 := zi_c e1 (by decide)
  refine va_put (D := D) (ci := 6) (v := .int v1) (ty := .int) (C := RX7) (T := TX7) (N := 17) hx hb hts in_X7 tyX7 tyX7_ok nmX7 hown hK hP hD hS 0 rfl rfl 0 (by decide) (hts _ wk163) (fun _ h9 => h9) rfl (by decide +kernel) rfl rfl (Nat.le_of_ble_eq_true rfl) dX7_idle_2 (fun H locs hP1 hD1 hS1 => ?_)
  clear hP hD hS
  have hP : va_P D classes [(aM, .inr (6, [.int v1, .int mw, .ref bG, .int mz, .ref bL, .ref bY, .ref bB, .ref bC, .int tk, .int ss, .int ml, .int mh, .int mp, .int rw, .int wr, .int tc, .ref bT])), (bG, .inl (cI, 8, .inl gg)), (bL, .inl (cB, 9200, .inl gl)), (bY, .inl (cI, 116, .inl gy)), (bB, .inl (cI, 66, .inl gb))] H := hP1
  have hD : va_D A [(aM, .inr (6, [.int v1, .int mw, .ref bG, .int mz, .ref bL, .ref bY, .ref bB, .ref bC, .int tk, .int ss, .int ml, .int mh, .int mp, .int rw, .int wr, .int tc, .ref bT])), (bG, .inl (cI, 8, .inl gg)), (bL, .inl (cB, 9200, .inl gl)), (bY, .inl (cI, 116, .inl gy)), (bB, .inl (cI, 66, .inl gb))] := hD1
  have hS := hS1
  clear hP1 hD1 hS1
  refine lv_iload_n hx hb dX7_idle_5 rfl (lv_at hl 1 rfl) ?_
  refine lv_iconst (v := 1) hx hb dX7_idle_6 (by decide) ?_
  refine lv_topi (fun v2 e2 => ?_)
  have z2 : v2.toInt = 1 := zi_c e2 (by decide)
  refine lv_icmp_lt (tgt := 23) hx hb dX7_idle_7 (by decide) (fun c3 => ?_) (fun c3 => ?_)
  ·
    have z3 := zi_lt c3
    refine lv_bipush (v := -12) hx hb dX7_idle_23 (by decide) ?_
    refine lv_topi (fun v4 e4 => ?_)
    have z4 : v4.toInt = (-12) := zi_c e4 (by decide)
    have hq5 : ((mw.toInt = mw.toInt) ∧ ((nn.toInt < 1 ∨ 100 < nn.toInt ∨ 0 < mw.toInt) → v4.toInt = -12 ∧ mz.toInt = mz.toInt) ∧ ((1 ≤ nn.toInt ∧ nn.toInt ≤ 100 ∧ mw.toInt = 0) → (9000 ≤ mz.toInt + 66 * (nn.toInt - 1) → v4.toInt = -14 ∧ mz.toInt = mz.toInt) ∧ (mz.toInt + 66 * (nn.toInt - 1) < 9000 → v4.toInt = mz.toInt + 66 * nn.toInt ∧ mz.toInt = mz.toInt + 66 * nn.toInt))) ∧ (∀ j, j < 58 → gy j = bi (bt (gy j) 0)) ∧ (∀ j : Nat, (j : Int) < mz.toInt → gl j = bi (bt (gl j) 0)) ∧ ((nn.toInt < 1 ∨ 100 < nn.toInt ∨ 0 < mw.toInt ∨ 9000 ≤ mz.toInt + 66 * (nn.toInt - 1)) → gg = gg ∧ gy = gy ∧ gl = gl) ∧ (¬ (nn.toInt < 1 ∨ 100 < nn.toInt ∨ 0 < mw.toInt ∨ 9000 ≤ mz.toInt + 66 * (nn.toInt - 1)) → idlR nn.toInt.toNat mz.toInt mz.toInt (sgB gy) (sgB gy) (mlB gl) (mlB gl)) := ⟨by omega, h3, h4, fun _ => ⟨rfl, rfl, rfl⟩, fun q => by exfalso; omega⟩
    exact hret v4 (v1, mw, mz, gg, gl, gy, gb) _ _ _ _ dX7_idle_25 hq5 (hP.sub [0, 1, 2, 3, 4] rfl) (hD.sub [0, 1, 2, 3, 4] (by decide) rfl) hS
  ·
    have z3 := zi_nlt c3
    refine lv_iload_n hx hb dX7_idle_10 rfl (lv_at hl 1 rfl) ?_
    refine lv_bipush (v := 100) hx hb dX7_idle_11 (by decide) ?_
    refine lv_topi (fun v6 e6 => ?_)
    have z6 : v6.toInt = 100 := zi_c e6 (by decide)
    refine lv_icmp_gt (tgt := 23) hx hb dX7_idle_13 (by decide) (fun c7 => ?_) (fun c7 => ?_)
    ·
      have z7 := zi_lt c7
      refine lv_bipush (v := -12) hx hb dX7_idle_23 (by decide) ?_
      refine lv_topi (fun v8 e8 => ?_)
      have z8 : v8.toInt = (-12) := zi_c e8 (by decide)
      have hq9 : ((mw.toInt = mw.toInt) ∧ ((nn.toInt < 1 ∨ 100 < nn.toInt ∨ 0 < mw.toInt) → v8.toInt = -12 ∧ mz.toInt = mz.toInt) ∧ ((1 ≤ nn.toInt ∧ nn.toInt ≤ 100 ∧ mw.toInt = 0) → (9000 ≤ mz.toInt + 66 * (nn.toInt - 1) → v8.toInt = -14 ∧ mz.toInt = mz.toInt) ∧ (mz.toInt + 66 * (nn.toInt - 1) < 9000 → v8.toInt = mz.toInt + 66 * nn.toInt ∧ mz.toInt = mz.toInt + 66 * nn.toInt))) ∧ (∀ j, j < 58 → gy j = bi (bt (gy j) 0)) ∧ (∀ j : Nat, (j : Int) < mz.toInt → gl j = bi (bt (gl j) 0)) ∧ ((nn.toInt < 1 ∨ 100 < nn.toInt ∨ 0 < mw.toInt ∨ 9000 ≤ mz.toInt + 66 * (nn.toInt - 1)) → gg = gg ∧ gy = gy ∧ gl = gl) ∧ (¬ (nn.toInt < 1 ∨ 100 < nn.toInt ∨ 0 < mw.toInt ∨ 9000 ≤ mz.toInt + 66 * (nn.toInt - 1)) → idlR nn.toInt.toNat mz.toInt mz.toInt (sgB gy) (sgB gy) (mlB gl) (mlB gl)) := ⟨by omega, h3, h4, fun _ => ⟨rfl, rfl, rfl⟩, fun q => by exfalso; omega⟩
      exact hret v8 (v1, mw, mz, gg, gl, gy, gb) _ _ _ _ dX7_idle_25 hq9 (hP.sub [0, 1, 2, 3, 4] rfl) (hD.sub [0, 1, 2, 3, 4] (by decide) rfl) hS
    ·
      have z7 := zi_nlt c7
      refine lv_aload_n hx hb dX7_idle_16 rfl (lv_at hl 0 rfl) ?_
      refine va_get (D := D) (ci := 6) (v := .int mw) (C := RX7) (T := TX7) (N := 17) hx hb hts in_X7 hown hK hP 0 rfl rfl 1 (by decide) (hts _ wk164) (fun _ h9 => h9) rfl dX7_idle_17 ?_
      refine lv_if_le (tgt := 26) hx hb dX7_idle_20 (by decide) (fun c10 => ?_) (fun c10 => ?_)
      ·
        have z10 := zi_le0 c10
        refine lv_aload_n hx hb dX7_idle_26 rfl (lv_at hl 0 rfl) ?_
        refine va_get (D := D) (ci := 6) (v := .int mz) (C := RX7) (T := TX7) (N := 17) hx hb hts in_X7 hown hK hP 0 rfl rfl 3 (by decide) (hts _ wk67) (fun _ h9 => h9) rfl dX7_idle_27 ?_
        refine lv_bipush (v := 66) hx hb dX7_idle_30 (by decide) ?_
        refine lv_topi (fun v11 e11 => ?_)
        have z11 : v11.toInt = 66 := zi_c e11 (by decide)
        refine lv_iload_n hx hb dX7_idle_32 rfl (lv_at hl 1 rfl) ?_
        refine lv_iconst (v := 1) hx hb dX7_idle_33 (by decide) ?_
        refine lv_topi (fun v12 e12 => ?_)
        have z12 : v12.toInt = 1 := zi_c e12 (by decide)
        refine lv_isub hx hb dX7_idle_34 ?_
        refine lv_topi (fun v13 e13 => ?_)
        first | have z13 := zi_sub e13 (by omega) | skip
        refine lv_imul hx hb dX7_idle_35 ?_
        refine lv_topi (fun v14 e14 => ?_)
        first | have z14 := zi_mulL (k := 66) e14 (by omega) (by omega) | skip
        refine lv_iadd hx hb dX7_idle_36 ?_
        refine lv_topi (fun v15 e15 => ?_)
        first | have z15 := zi_add e15 (by omega) | skip
        refine lv_sipush (v := 9000) hx hb dX7_idle_37 (by decide) ?_
        refine lv_topi (fun v16 e16 => ?_)
        have z16 : v16.toInt = 9000 := zi_c e16 (by decide)
        refine lv_icmp_lt (tgt := 46) hx hb dX7_idle_40 (by decide) (fun c17 => ?_) (fun c17 => ?_)
        ·
          have z17 := zi_lt c17
          refine lv_iconst (v := 0) hx hb dX7_idle_46 (by decide) ?_
          refine lv_topi (fun v18 e18 => ?_)
          have z18 : v18.toInt = 0 := zi_c e18 (by decide)
          refine lv_istore_n (lv' := [(2, .int v18), (0, .ref aM), (1, .int nn)]) hx hb dX7_idle_47 rfl hl (by decide) rfl (fun ls hl => ?_)
          have J48 : ∀ (n : Nat) (i : Int32) (mw3 : Int32) (mz3 : Int32) (gg3 : Nat → Int32) (gl3 : Nat → Int32) (gy3 : Nat → Int32) (gb3 : Nat → Int32) (H : Heap) (locs : List Loc) (ls : Array Slot), ((nn.toInt - i.toInt).toNat) < n → (0 ≤ i.toInt ∧ i.toInt ≤ nn.toInt) → (mw3.toInt = 0 ∧ mz3.toInt = mz.toInt + 66 * i.toInt) → (∀ j, j < 58 → gy3 j = bi (bt (gy3 j) 0)) → (∀ j : Nat, (j : Int) < mz3.toInt → gl3 j = bi (bt (gl3 j) 0)) → (idlR i.toInt.toNat mz.toInt mz3.toInt (sgB gy) (sgB gy3) (mlB gl) (mlB gl3)) → va_P D classes [(aM, .inr (6, [.int v1, .int mw3, .ref bG, .int mz3, .ref bL, .ref bY, .ref bB, .ref bC, .int tk, .int ss, .int ml, .int mh, .int mp, .int rw, .int wr, .int tc, .ref bT])), (bG, .inl (cI, 8, .inl gg3)), (bL, .inl (cB, 9200, .inl gl3)), (bY, .inl (cI, 116, .inl gy3)), (bB, .inl (cI, 66, .inl gb3))] H → va_D A [(aM, .inr (6, [.int v1, .int mw3, .ref bG, .int mz3, .ref bL, .ref bY, .ref bB, .ref bC, .int tk, .int ss, .int ml, .int mh, .int mp, .int rw, .int wr, .int tc, .ref bT])), (bG, .inl (cI, 8, .inl gg3)), (bL, .inl (cB, 9200, .inl gl3)), (bY, .inl (cI, 116, .inl gy3)), (bB, .inl (cI, 66, .inl gb3))] → va_S A s.heap H locs → lv_has ls 4 [(0, .ref aM), (1, .int nn), (2, .int i)] → W p l e (rmL 4 91 0 0) s m args below meth c H locs 0 0 Q (F0 m 48 ls []) := by
            intro n
            induction n with
            | zero => intro i mw3 mz3 gg3 gl3 gy3 gb3 H locs ls hmu; exact absurd hmu (Nat.not_lt_zero _)
            | succ n ih48 =>
              intro i mw3 mz3 gg3 gl3 gy3 gb3 H locs ls hmu48 i48_0 i48_1 i48_2 i48_3 i48_4 hP hD hS hl
              have rg_i := zi_rg i
              have rg_mw3 := zi_rg mw3
              have rg_mz3 := zi_rg mz3
              refine lv_iload_n hx hb dX7_idle_48 rfl (lv_at hl 2 rfl) ?_
              refine lv_iload_n hx hb dX7_idle_49 rfl (lv_at hl 1 rfl) ?_
              refine lv_icmp_ge (tgt := 86) hx hb dX7_idle_50 (by decide) (fun c19 => ?_) (fun c19 => ?_)
              ·
                have z19 := zi_le c19
                refine lv_aload_n hx hb dX7_idle_86 rfl (lv_at hl 0 rfl) ?_
                refine va_get (D := D) (ci := 6) (v := .int mz3) (C := RX7) (T := TX7) (N := 17) hx hb hts in_X7 hown hK hP 0 rfl rfl 3 (by decide) (hts _ wk67) (fun _ h9 => h9) rfl dX7_idle_87 ?_
                have hq20 : ((mw3.toInt = mw.toInt) ∧ ((nn.toInt < 1 ∨ 100 < nn.toInt ∨ 0 < mw.toInt) → mz3.toInt = -12 ∧ mz3.toInt = mz.toInt) ∧ ((1 ≤ nn.toInt ∧ nn.toInt ≤ 100 ∧ mw.toInt = 0) → (9000 ≤ mz.toInt + 66 * (nn.toInt - 1) → mz3.toInt = -14 ∧ mz3.toInt = mz.toInt) ∧ (mz.toInt + 66 * (nn.toInt - 1) < 9000 → mz3.toInt = mz.toInt + 66 * nn.toInt ∧ mz3.toInt = mz.toInt + 66 * nn.toInt))) ∧ (∀ j, j < 58 → gy3 j = bi (bt (gy3 j) 0)) ∧ (∀ j : Nat, (j : Int) < mz3.toInt → gl3 j = bi (bt (gl3 j) 0)) ∧ ((nn.toInt < 1 ∨ 100 < nn.toInt ∨ 0 < mw.toInt ∨ 9000 ≤ mz.toInt + 66 * (nn.toInt - 1)) → gg3 = gg ∧ gy3 = gy ∧ gl3 = gl) ∧ (¬ (nn.toInt < 1 ∨ 100 < nn.toInt ∨ 0 < mw.toInt ∨ 9000 ≤ mz.toInt + 66 * (nn.toInt - 1)) → idlR nn.toInt.toNat mz.toInt mz3.toInt (sgB gy) (sgB gy3) (mlB gl) (mlB gl3)) := ⟨by omega, i48_2, i48_3, fun q => by exfalso; omega, fun _ => by rw [show nn.toInt.toNat = i.toInt.toNat by omega]; exact i48_4⟩
                exact hret mz3 (v1, mw3, mz3, gg3, gl3, gy3, gb3) _ _ _ _ dX7_idle_90 hq20 (hP.sub [0, 1, 2, 3, 4] rfl) (hD.sub [0, 1, 2, 3, 4] (by decide) rfl) hS
              ·
                have z19 := zi_nle c19
                refine lv_iconst (v := 0) hx hb dX7_idle_53 (by decide) ?_
                refine lv_topi (fun v21 e21 => ?_)
                have z21 : v21.toInt = 0 := zi_c e21 (by decide)
                refine lv_istore_n (lv' := [(3, .int v21), (0, .ref aM), (1, .int nn), (2, .int i)]) hx hb dX7_idle_54 rfl hl (by decide) rfl (fun ls hl => ?_)
                have J55 : ∀ (n : Nat) (k : Int32) (gg4 : Nat → Int32) (H : Heap) (locs : List Loc) (ls : Array Slot), ((8 - k.toInt).toNat) < n → (0 ≤ k.toInt ∧ k.toInt ≤ 8) → (∀ j, j < k.toInt.toNat → (gg4 j).toInt = 256) → va_P D classes [(aM, .inr (6, [.int v1, .int mw3, .ref bG, .int mz3, .ref bL, .ref bY, .ref bB, .ref bC, .int tk, .int ss, .int ml, .int mh, .int mp, .int rw, .int wr, .int tc, .ref bT])), (bG, .inl (cI, 8, .inl gg4)), (bL, .inl (cB, 9200, .inl gl3)), (bY, .inl (cI, 116, .inl gy3)), (bB, .inl (cI, 66, .inl gb3))] H → va_D A [(aM, .inr (6, [.int v1, .int mw3, .ref bG, .int mz3, .ref bL, .ref bY, .ref bB, .ref bC, .int tk, .int ss, .int ml, .int mh, .int mp, .int rw, .int wr, .int tc, .ref bT])), (bG, .inl (cI, 8, .inl gg4)), (bL, .inl (cB, 9200, .inl gl3)), (bY, .inl (cI, 116, .inl gy3)), (bB, .inl (cI, 66, .inl gb3))] → va_S A s.heap H locs → lv_has ls 4 [(0, .ref aM), (1, .int nn), (2, .int i), (3, .int k)] → W p l e (rmL 4 91 0 0) s m args below meth c H locs 0 0 Q (F0 m 55 ls []) := by
                  intro n
                  induction n with
                  | zero => intro k gg4 H locs ls hmu; exact absurd hmu (Nat.not_lt_zero _)
                  | succ n ih55 =>
                    intro k gg4 H locs ls hmu55 i55_0 i55_1 hP hD hS hl
                    have rg_k := zi_rg k
                    refine lv_iload_n hx hb dX7_idle_55 rfl (lv_at hl 3 rfl) ?_
                    refine lv_bipush (v := 8) hx hb dX7_idle_56 (by decide) ?_
                    refine lv_topi (fun v22 e22 => ?_)
                    have z22 : v22.toInt = 8 := zi_c e22 (by decide)
                    refine lv_icmp_ge (tgt := 76) hx hb dX7_idle_58 (by decide) (fun c23 => ?_) (fun c23 => ?_)
                    ·
                      have z23 := zi_le c23
                      refine lv_aload_n hx hb dX7_idle_76 rfl (lv_at hl 0 rfl) ?_
                      have hh24 : 0 ≤ mz3.toInt ∧ mz3.toInt + 66 ≤ 9200 := (by omega)
                      have hh25 : ∀ j, j < 58 → gy3 j = bi (bt (gy3 j) 0) := i48_2
                      have hh26 : ∀ j : Nat, (j : Int) < mz3.toInt → gl3 j = bi (bt (gl3 j) 0) := i48_3
                      refine call_v (wc := [(aM, .inr (6, [.int v1, .int mw3, .ref bG, .int mz3, .ref bL, .ref bY, .ref bB, .ref bC, .int tk, .int ss, .int ml, .int mh, .int mp, .int rw, .int wr, .int tc, .ref bT])), (bG, .inl (cI, 8, .inl gg4)), (bL, .inl (cB, 9200, .inl gl3)), (bY, .inl (cI, 116, .inl gy3)), (bB, .inl (cI, 66, .inl gb3))]) (wr := []) (run_V (As := []) (rest := []) kv_RX7_76 ⟨by decide, by decide⟩ ⟨rfl, rfl⟩ ⟨hx, hb, hml, hown, hts⟩ (c_Mo_send l D cI cJ cB aM bG bL bY bB bC bT v1 mw3 mz3 tk ss ml mh mp rw wr tc gg4 gl3 gy3 gb3 hh24 hh25 hh26 _) ct_blind (ct_pre (wc := [(aM, .inr (6, [.int v1, .int mw3, .ref bG, .int mz3, .ref bL, .ref bY, .ref bB, .ref bC, .int tk, .int ss, .int ml, .int mh, .int mp, .int rw, .int wr, .int tc, .ref bT])), (bG, .inl (cI, 8, .inl gg4)), (bL, .inl (cB, 9200, .inl gl3)), (bY, .inl (cI, 116, .inl gy3)), (bB, .inl (cI, 66, .inl gb3))]) hK hP hD hS hA hZ hN [0, 1, 2, 3, 4] (by decide) rfl rfl) (va_recv hK hP (ci := 6) (q0 := 0) rfl rfl) rfl hl.1 rfl (Nat.le_of_ble_eq_true rfl) dX7_idle_77 ⟨Nat.le_of_ble_eq_true rfl, Nat.le_of_ble_eq_true rfl⟩) hP hD hS hA [0, 1, 2, 3, 4] [] rfl rfl (by decide) (by decide) (fun u H locs hw27 hP1 hD1 hS1 => ?_)
                      obtain ⟨mw2_27, mz2_27, gg2_27, gl2_27, gy2_27, gb2_27⟩ := u
                      have hw27 : (mw2_27.toInt = 0 ∧ mz2_27.toInt = mz3.toInt + 66) ∧ (∀ j, j < 58 → gy2_27 j = bi (bt (gy2_27 j) 0)) ∧ (∀ j : Nat, (j : Int) < mz2_27.toInt → gl2_27 j = bi (bt (gl2_27 j) 0)) ∧ ∃ B, blkR gg4 B ∧ sndR B mz3.toInt mz2_27.toInt (sgB gy3) (sgB gy2_27) (mlB gl3) (mlB gl2_27) := hw27
                      clear hP hD hS
                      have hP : va_P D classes [(aM, .inr (6, [.int v1, .int mw2_27, .ref bG, .int mz2_27, .ref bL, .ref bY, .ref bB, .ref bC, .int tk, .int ss, .int ml, .int mh, .int mp, .int rw, .int wr, .int tc, .ref bT])), (bG, .inl (cI, 8, .inl gg2_27)), (bL, .inl (cB, 9200, .inl gl2_27)), (bY, .inl (cI, 116, .inl gy2_27)), (bB, .inl (cI, 66, .inl gb2_27))] H := hP1
                      have hD : va_D A [(aM, .inr (6, [.int v1, .int mw2_27, .ref bG, .int mz2_27, .ref bL, .ref bY, .ref bB, .ref bC, .int tk, .int ss, .int ml, .int mh, .int mp, .int rw, .int wr, .int tc, .ref bT])), (bG, .inl (cI, 8, .inl gg2_27)), (bL, .inl (cB, 9200, .inl gl2_27)), (bY, .inl (cI, 116, .inl gy2_27)), (bB, .inl (cI, 66, .inl gb2_27))] := hD1
                      have hS := hS1
                      clear hP1 hD1 hS1
                      have rg_mw2_27 := zi_rg mw2_27
                      have rg_mz2_27 := zi_rg mz2_27
                      obtain ⟨v28, e28⟩ : ∃ y : Int32, y = i + 1 := ⟨_, rfl⟩
                      first | have z28 := zi_inc (z := 1) 1 (by decide) e28 (by omega) | skip
                      refine lv_iinc (v := v28) (lv' := [(2, .int v28), (0, .ref aM), (1, .int nn), (3, .int k)]) hx hb dX7_idle_80 hl (k := 2) rfl (by rw [e28]; rfl) (by decide) rfl (fun ls hl => ?_)
                      refine lv_goto (tgt := 48) hx hb dX7_idle_83 (by decide) ?_
                      exact ih48 v28 mw2_27 mz2_27 gg2_27 gl2_27 gy2_27 gb2_27 _ _ _ (by omega) (by omega) (by omega) hw27.2.1 hw27.2.2.1 (by obtain ⟨B, w1, w2⟩ := hw27.2.2.2; rw [show v28.toInt.toNat = i.toInt.toNat + 1 by omega]; exact ⟨mz3.toInt, sgB gy3, mlB gl3, B, i48_4, blk_I (fun j hj => i55_1 j (by omega)) w1, w2⟩) (hP.sub [0, 1, 2, 3, 4] rfl) (hD.sub [0, 1, 2, 3, 4] (by decide) rfl) hS (lv_sub hl [1, 2, 0] rfl)
                    ·
                      have z23 := zi_nle c23
                      refine lv_aload_n hx hb dX7_idle_61 rfl (lv_at hl 0 rfl) ?_
                      refine va_get (D := D) (ci := 6) (v := .ref bG) (C := RX7) (T := TX7) (N := 17) hx hb hts in_X7 hown hK hP 0 rfl rfl 2 (by decide) (hts _ wk60) (fun _ h9 => h9) rfl dX7_idle_62 ?_
                      refine lv_iload_n hx hb dX7_idle_65 rfl (lv_at hl 3 rfl) ?_
                      refine lv_sipush (v := 256) hx hb dX7_idle_66 (by decide) ?_
                      refine lv_topi (fun v29 e29 => ?_)
                      have z29 : v29.toInt = 256 := zi_c e29 (by decide)
                      obtain ⟨f30, ef30⟩ : ∃ z9, z9 = upd gg4 k.toNatClampNeg v29 := ⟨_, rfl⟩
                      refine va_iast hx hb hK hP hD hS 1 0 rfl rfl (zi_in (by omega)) dX7_idle_69 (fun H locs hP1 hD1 hS1 => ?_)
                      rw [← ef30] at hP1 hD1
                      clear hP hD hS
                      have hP : va_P D classes [(aM, .inr (6, [.int v1, .int mw3, .ref bG, .int mz3, .ref bL, .ref bY, .ref bB, .ref bC, .int tk, .int ss, .int ml, .int mh, .int mp, .int rw, .int wr, .int tc, .ref bT])), (bG, .inl (cI, 8, .inl f30)), (bL, .inl (cB, 9200, .inl gl3)), (bY, .inl (cI, 116, .inl gy3)), (bB, .inl (cI, 66, .inl gb3))] H := hP1
                      have hD : va_D A [(aM, .inr (6, [.int v1, .int mw3, .ref bG, .int mz3, .ref bL, .ref bY, .ref bB, .ref bC, .int tk, .int ss, .int ml, .int mh, .int mp, .int rw, .int wr, .int tc, .ref bT])), (bG, .inl (cI, 8, .inl f30)), (bL, .inl (cB, 9200, .inl gl3)), (bY, .inl (cI, 116, .inl gy3)), (bB, .inl (cI, 66, .inl gb3))] := hD1
                      have hS := hS1
                      clear hP1 hD1 hS1
                      obtain ⟨v31, e31⟩ : ∃ y : Int32, y = k + 1 := ⟨_, rfl⟩
                      first | have z31 := zi_inc (z := 1) 1 (by decide) e31 (by omega) | skip
                      refine lv_iinc (v := v31) (lv' := [(3, .int v31), (0, .ref aM), (1, .int nn), (2, .int i)]) hx hb dX7_idle_70 hl (k := 3) rfl (by rw [e31]; rfl) (by decide) rfl (fun ls hl => ?_)
                      refine lv_goto (tgt := 55) hx hb dX7_idle_73 (by decide) ?_
                      exact ih55 v31 f30 _ _ _ (by omega) (by omega) (fun j hj => by rw [ef30]; by_cases g : j = k.toInt.toNat; (· rw [g, show upd gg4 k.toNatClampNeg v29 k.toInt.toNat = v29 from pk_us]; exact z29); (· rw [pk_un (show j ≠ k.toNatClampNeg from g)]; exact i55_1 j (by omega))) (hP.sub [0, 1, 2, 3, 4] rfl) (hD.sub [0, 1, 2, 3, 4] (by decide) rfl) hS (lv_sub hl [1, 2, 3, 0] rfl)
                exact J55 _ v21 gg3 _ _ _ (Nat.lt_succ_self _) (by omega) (fun j hj => absurd hj (by omega)) (hP.sub [0, 1, 2, 3, 4] rfl) (hD.sub [0, 1, 2, 3, 4] (by decide) rfl) hS (lv_sub hl [1, 2, 3, 0] rfl)
          exact J48 _ v18 mw mz gg gl gy gb _ _ _ (Nat.lt_succ_self _) (by omega) (by omega) h3 h4 (by rw [show v18.toInt.toNat = 0 by omega]; exact ⟨rfl, fun _ _ => rfl, fun _ _ _ => rfl⟩) (hP.sub [0, 1, 2, 3, 4] rfl) (hD.sub [0, 1, 2, 3, 4] (by decide) rfl) hS (lv_sub hl [1, 2, 0] rfl)
        ·
          have z17 := zi_nlt c17
          refine lv_bipush (v := -14) hx hb dX7_idle_43 (by decide) ?_
          refine lv_topi (fun v32 e32 => ?_)
          have z32 : v32.toInt = (-14) := zi_c e32 (by decide)
          have hq33 : ((mw.toInt = mw.toInt) ∧ ((nn.toInt < 1 ∨ 100 < nn.toInt ∨ 0 < mw.toInt) → v32.toInt = -12 ∧ mz.toInt = mz.toInt) ∧ ((1 ≤ nn.toInt ∧ nn.toInt ≤ 100 ∧ mw.toInt = 0) → (9000 ≤ mz.toInt + 66 * (nn.toInt - 1) → v32.toInt = -14 ∧ mz.toInt = mz.toInt) ∧ (mz.toInt + 66 * (nn.toInt - 1) < 9000 → v32.toInt = mz.toInt + 66 * nn.toInt ∧ mz.toInt = mz.toInt + 66 * nn.toInt))) ∧ (∀ j, j < 58 → gy j = bi (bt (gy j) 0)) ∧ (∀ j : Nat, (j : Int) < mz.toInt → gl j = bi (bt (gl j) 0)) ∧ ((nn.toInt < 1 ∨ 100 < nn.toInt ∨ 0 < mw.toInt ∨ 9000 ≤ mz.toInt + 66 * (nn.toInt - 1)) → gg = gg ∧ gy = gy ∧ gl = gl) ∧ (¬ (nn.toInt < 1 ∨ 100 < nn.toInt ∨ 0 < mw.toInt ∨ 9000 ≤ mz.toInt + 66 * (nn.toInt - 1)) → idlR nn.toInt.toNat mz.toInt mz.toInt (sgB gy) (sgB gy) (mlB gl) (mlB gl)) := ⟨by omega, h3, h4, fun _ => ⟨rfl, rfl, rfl⟩, fun q => by exfalso; omega⟩
          exact hret v32 (v1, mw, mz, gg, gl, gy, gb) _ _ _ _ dX7_idle_45 hq33 (hP.sub [0, 1, 2, 3, 4] rfl) (hD.sub [0, 1, 2, 3, 4] (by decide) rfl) hS
      ·
        have z10 := zi_nle0 c10
        refine lv_bipush (v := -12) hx hb dX7_idle_23 (by decide) ?_
        refine lv_topi (fun v34 e34 => ?_)
        have z34 : v34.toInt = (-12) := zi_c e34 (by decide)
        have hq35 : ((mw.toInt = mw.toInt) ∧ ((nn.toInt < 1 ∨ 100 < nn.toInt ∨ 0 < mw.toInt) → v34.toInt = -12 ∧ mz.toInt = mz.toInt) ∧ ((1 ≤ nn.toInt ∧ nn.toInt ≤ 100 ∧ mw.toInt = 0) → (9000 ≤ mz.toInt + 66 * (nn.toInt - 1) → v34.toInt = -14 ∧ mz.toInt = mz.toInt) ∧ (mz.toInt + 66 * (nn.toInt - 1) < 9000 → v34.toInt = mz.toInt + 66 * nn.toInt ∧ mz.toInt = mz.toInt + 66 * nn.toInt))) ∧ (∀ j, j < 58 → gy j = bi (bt (gy j) 0)) ∧ (∀ j : Nat, (j : Int) < mz.toInt → gl j = bi (bt (gl j) 0)) ∧ ((nn.toInt < 1 ∨ 100 < nn.toInt ∨ 0 < mw.toInt ∨ 9000 ≤ mz.toInt + 66 * (nn.toInt - 1)) → gg = gg ∧ gy = gy ∧ gl = gl) ∧ (¬ (nn.toInt < 1 ∨ 100 < nn.toInt ∨ 0 < mw.toInt ∨ 9000 ≤ mz.toInt + 66 * (nn.toInt - 1)) → idlR nn.toInt.toNat mz.toInt mz.toInt (sgB gy) (sgB gy) (mlB gl) (mlB gl)) := ⟨by omega, h3, h4, fun _ => ⟨rfl, rfl, rfl⟩, fun q => by exfalso; omega⟩
        exact hret v34 (v1, mw, mz, gg, gl, gy, gb) _ _ _ _ dX7_idle_25 hq35 (hP.sub [0, 1, 2, 3, 4] rfl) (hD.sub [0, 1, 2, 3, 4] (by decide) rfl) hS

set_option maxHeartbeats 4000000 in
set_option maxRecDepth 100000 in
theorem c_Mo_bits (l : Launch) (D : va_G) (cI cJ cB : ClassId) (aM : Nat) (bG : Nat) (bL : Nat) (bY : Nat) (bB : Nat) (bC : Nat) (bT : Nat) (th : Int32) (mw : Int32) (mz : Int32) (tk : Int32) (ss : Int32) (ml : Int32) (mh : Int32) (mp : Int32) (rw : Int32) (wr : Int32) (tc : Int32)  :
    cti l yX7_bits (wsOf yX7_bits cX7_bits 1 (some .int)) (rmL 0 0 0 0) D classes (tys3 cI cJ cB) [.ref aM] [(aM, .inr (6, [.int th, .int mw, .ref bG, .int mz, .ref bL, .ref bY, .ref bB, .ref bC, .int tk, .int ss, .int ml, .int mh, .int mp, .int rw, .int wr, .int tc, .ref bT]))] (fun (r : Int32) (u : Int32) => r.toInt = mz.toInt) (fun u : Int32 => ([(aM, .inr (6, [.int u, .int mw, .ref bG, .int mz, .ref bL, .ref bY, .ref bB, .ref bC, .int tk, .int ss, .int ml, .int mh, .int mp, .int rw, .int wr, .int tc, .ref bT]))] : va_W)) := by
  refine cti.of (by first | exact plainFor_of_name (by decide) | decide +kernel) (Nat.le_of_ble_eq_true rfl) (fun p e s m args below meth c A ls Q h hret => ?_)
  obtain ⟨hx, hb, hml, hown, hts, hnm, hP, hK, hD, hA, hS, hZ, hN, hl⟩ := h
  have hown : s.vm.findClass RX7 = some m.cls := hown
  have hl : lv_has ls 1 [(0, .ref aM)] := hl
  have hP : va_P D classes [(aM, .inr (6, [.int th, .int mw, .ref bG, .int mz, .ref bL, .ref bY, .ref bB, .ref bC, .int tk, .int ss, .int ml, .int mh, .int mp, .int rw, .int wr, .int tc, .ref bT]))] s.heap := hP
  have hD : va_D A [(aM, .inr (6, [.int th, .int mw, .ref bG, .int mz, .ref bL, .ref bY, .ref bB, .ref bC, .int tk, .int ss, .int ml, .int mh, .int mp, .int rw, .int wr, .int tc, .ref bT]))] := hD
  have rg_th := zi_rg th
  have rg_mw := zi_rg mw
  have rg_mz := zi_rg mz
  have rg_tk := zi_rg tk
  have rg_ss := zi_rg ss
  have rg_ml := zi_rg ml
  have rg_mh := zi_rg mh
  have rg_mp := zi_rg mp
  have rg_rw := zi_rg rw
  have rg_wr := zi_rg wr
  have rg_tc := zi_rg tc
  refine lv_aload_n hx hb dX7_bits_0 rfl (lv_at hl 0 rfl) ?_
  refine lv_iconst (v := 0) hx hb dX7_bits_1 (by decide) ?_
  refine lv_topi (fun v1 e1 => ?_)
  have z1 : v1.toInt = 0 := zi_c e1 (by decide)
  refine va_put (D := D) (ci := 6) (v := .int v1) (ty := .int) (C := RX7) (T := TX7) (N := 17) hx hb hts in_X7 tyX7 tyX7_ok nmX7 hown hK hP hD hS 0 rfl rfl 0 (by decide) (hts _ wk163) (fun _ h9 => h9) rfl (by decide +kernel) rfl rfl (Nat.le_of_ble_eq_true rfl) dX7_bits_2 (fun H locs hP1 hD1 hS1 => ?_)
  clear hP hD hS
  have hP : va_P D classes [(aM, .inr (6, [.int v1, .int mw, .ref bG, .int mz, .ref bL, .ref bY, .ref bB, .ref bC, .int tk, .int ss, .int ml, .int mh, .int mp, .int rw, .int wr, .int tc, .ref bT]))] H := hP1
  have hD : va_D A [(aM, .inr (6, [.int v1, .int mw, .ref bG, .int mz, .ref bL, .ref bY, .ref bB, .ref bC, .int tk, .int ss, .int ml, .int mh, .int mp, .int rw, .int wr, .int tc, .ref bT]))] := hD1
  have hS := hS1
  clear hP1 hD1 hS1
  refine lv_aload_n hx hb dX7_bits_5 rfl (lv_at hl 0 rfl) ?_
  refine va_get (D := D) (ci := 6) (v := .int mz) (C := RX7) (T := TX7) (N := 17) hx hb hts in_X7 hown hK hP 0 rfl rfl 3 (by decide) (hts _ wk67) (fun _ h9 => h9) rfl dX7_bits_6 ?_
  have hq2 : mz.toInt = mz.toInt := (by omega)
  exact hret mz v1 _ _ _ _ dX7_bits_9 hq2 (hP.sub [0] rfl) (hD.sub [0] (by decide) rfl) hS

set_option maxHeartbeats 4000000 in
set_option maxRecDepth 100000 in
theorem c_Mo_bit (l : Launch) (D : va_G) (cI cJ cB : ClassId) (aM : Nat) (bG : Nat) (bL : Nat) (bY : Nat) (bB : Nat) (bC : Nat) (bT : Nat) (th : Int32) (mw : Int32) (mz : Int32) (tk : Int32) (ss : Int32) (ml : Int32) (mh : Int32) (mp : Int32) (rw : Int32) (wr : Int32) (tc : Int32) (gl : Nat → Int32) (i : Int32) (h1 : 0 ≤ mz.toInt ∧ mz.toInt ≤ 9066) :
    cti l yX7_bit (wsOf yX7_bit cX7_bit 2 (some .int)) (rmL 0 0 0 0) D classes (tys3 cI cJ cB) [.ref aM, .int i] [(aM, .inr (6, [.int th, .int mw, .ref bG, .int mz, .ref bL, .ref bY, .ref bB, .ref bC, .int tk, .int ss, .int ml, .int mh, .int mp, .int rw, .int wr, .int tc, .ref bT])), (bL, .inl (cB, 9200, .inl gl))] (fun (r : Int32) (u : Int32) => ((i.toInt < 0 ∨ mz.toInt ≤ i.toInt) → r.toInt = -1) ∧ ((0 ≤ i.toInt ∧ i.toInt < mz.toInt) → r = gl i.toInt.toNat)) (fun u : Int32 => ([(aM, .inr (6, [.int u, .int mw, .ref bG, .int mz, .ref bL, .ref bY, .ref bB, .ref bC, .int tk, .int ss, .int ml, .int mh, .int mp, .int rw, .int wr, .int tc, .ref bT])), (bL, .inl (cB, 9200, .inl gl))] : va_W)) := by
  refine cti.of (by first | exact plainFor_of_name (by decide) | decide +kernel) (Nat.le_of_ble_eq_true rfl) (fun p e s m args below meth c A ls Q h hret => ?_)
  obtain ⟨hx, hb, hml, hown, hts, hnm, hP, hK, hD, hA, hS, hZ, hN, hl⟩ := h
  have hown : s.vm.findClass RX7 = some m.cls := hown
  have hl : lv_has ls 2 [(0, .ref aM), (1, .int i)] := hl
  have hP : va_P D classes [(aM, .inr (6, [.int th, .int mw, .ref bG, .int mz, .ref bL, .ref bY, .ref bB, .ref bC, .int tk, .int ss, .int ml, .int mh, .int mp, .int rw, .int wr, .int tc, .ref bT])), (bL, .inl (cB, 9200, .inl gl))] s.heap := hP
  have hD : va_D A [(aM, .inr (6, [.int th, .int mw, .ref bG, .int mz, .ref bL, .ref bY, .ref bB, .ref bC, .int tk, .int ss, .int ml, .int mh, .int mp, .int rw, .int wr, .int tc, .ref bT])), (bL, .inl (cB, 9200, .inl gl))] := hD
  have rg_th := zi_rg th
  have rg_mw := zi_rg mw
  have rg_mz := zi_rg mz
  have rg_tk := zi_rg tk
  have rg_ss := zi_rg ss
  have rg_ml := zi_rg ml
  have rg_mh := zi_rg mh
  have rg_mp := zi_rg mp
  have rg_rw := zi_rg rw
  have rg_wr := zi_rg wr
  have rg_tc := zi_rg tc
  have rg_i := zi_rg i
  refine lv_aload_n hx hb dX7_bit_0 rfl (lv_at hl 0 rfl) ?_
  refine lv_iconst (v := 0) hx hb dX7_bit_1 (by decide) ?_
  refine lv_topi (fun v1 e1 => ?_)
  have z1 : v1.toInt = 0 := zi_c e1 (by decide)
  refine va_put (D := D) (ci := 6) (v := .int v1) (ty := .int) (C := RX7) (T := TX7) (N := 17) hx hb hts in_X7 tyX7 tyX7_ok nmX7 hown hK hP hD hS 0 rfl rfl 0 (by decide) (hts _ wk163) (fun _ h9 => h9) rfl (by decide +kernel) rfl rfl (Nat.le_of_ble_eq_true rfl) dX7_bit_2 (fun H locs hP1 hD1 hS1 => ?_)
  clear hP hD hS
  have hP : va_P D classes [(aM, .inr (6, [.int v1, .int mw, .ref bG, .int mz, .ref bL, .ref bY, .ref bB, .ref bC, .int tk, .int ss, .int ml, .int mh, .int mp, .int rw, .int wr, .int tc, .ref bT])), (bL, .inl (cB, 9200, .inl gl))] H := hP1
  have hD : va_D A [(aM, .inr (6, [.int v1, .int mw, .ref bG, .int mz, .ref bL, .ref bY, .ref bB, .ref bC, .int tk, .int ss, .int ml, .int mh, .int mp, .int rw, .int wr, .int tc, .ref bT])), (bL, .inl (cB, 9200, .inl gl))] := hD1
  have hS := hS1
  clear hP1 hD1 hS1
  refine lv_iload_n hx hb dX7_bit_5 rfl (lv_at hl 1 rfl) ?_
  refine lv_if_lt (tgt := 17) hx hb dX7_bit_6 (by decide) (fun c2 => ?_) (fun c2 => ?_)
  ·
    have z2 := zi_lt0 c2
    refine lv_iconst (v := -1) hx hb dX7_bit_17 (by decide) ?_
    refine lv_topi (fun v3 e3 => ?_)
    have z3 : v3.toInt = (-1) := zi_c e3 (by decide)
    refine lv_goto (tgt := 27) hx hb dX7_bit_18 (by decide) ?_
    have hq4 : ((i.toInt < 0 ∨ mz.toInt ≤ i.toInt) → v3.toInt = -1) ∧ ((0 ≤ i.toInt ∧ i.toInt < mz.toInt) → v3 = gl i.toInt.toNat) := (by refine ⟨fun q => ?_, fun q => ?_⟩ <;> first | omega | (exfalso; omega) | exact e6)
    exact hret v3 v1 _ _ _ _ dX7_bit_27 hq4 (hP.sub [0, 1] rfl) (hD.sub [0, 1] (by decide) rfl) hS
  ·
    have z2 := zi_nlt0 c2
    refine lv_iload_n hx hb dX7_bit_9 rfl (lv_at hl 1 rfl) ?_
    refine lv_aload_n hx hb dX7_bit_10 rfl (lv_at hl 0 rfl) ?_
    refine va_get (D := D) (ci := 6) (v := .int mz) (C := RX7) (T := TX7) (N := 17) hx hb hts in_X7 hown hK hP 0 rfl rfl 3 (by decide) (hts _ wk67) (fun _ h9 => h9) rfl dX7_bit_11 ?_
    refine lv_icmp_lt (tgt := 21) hx hb dX7_bit_14 (by decide) (fun c5 => ?_) (fun c5 => ?_)
    ·
      have z5 := zi_lt c5
      refine lv_aload_n hx hb dX7_bit_21 rfl (lv_at hl 0 rfl) ?_
      refine va_get (D := D) (ci := 6) (v := .ref bL) (C := RX7) (T := TX7) (N := 17) hx hb hts in_X7 hown hK hP 0 rfl rfl 4 (by decide) (hts _ wk62) (fun _ h9 => h9) rfl dX7_bit_22 ?_
      refine lv_iload_n hx hb dX7_bit_25 rfl (lv_at hl 1 rfl) ?_
      refine va_bald hx hb hK hP 1 2 rfl rfl (zi_in (by omega)) dX7_bit_26 ?_
      refine lv_topi (fun v6 e6 => ?_)
      have hq7 : ((i.toInt < 0 ∨ mz.toInt ≤ i.toInt) → v6.toInt = -1) ∧ ((0 ≤ i.toInt ∧ i.toInt < mz.toInt) → v6 = gl i.toInt.toNat) := (by refine ⟨fun q => ?_, fun q => ?_⟩ <;> first | omega | (exfalso; omega) | exact e6)
      exact hret v6 v1 _ _ _ _ dX7_bit_27 hq7 (hP.sub [0, 1] rfl) (hD.sub [0, 1] (by decide) rfl) hS
    ·
      have z5 := zi_nlt c5
      refine lv_iconst (v := -1) hx hb dX7_bit_17 (by decide) ?_
      refine lv_topi (fun v8 e8 => ?_)
      have z8 : v8.toInt = (-1) := zi_c e8 (by decide)
      refine lv_goto (tgt := 27) hx hb dX7_bit_18 (by decide) ?_
      have hq9 : ((i.toInt < 0 ∨ mz.toInt ≤ i.toInt) → v8.toInt = -1) ∧ ((0 ≤ i.toInt ∧ i.toInt < mz.toInt) → v8 = gl i.toInt.toNat) := (by refine ⟨fun q => ?_, fun q => ?_⟩ <;> first | omega | (exfalso; omega) | exact e6)
      exact hret v8 v1 _ _ _ _ dX7_bit_27 hq9 (hP.sub [0, 1] rfl) (hD.sub [0, 1] (by decide) rfl) hS

set_option maxHeartbeats 4000000 in
set_option maxRecDepth 100000 in
theorem c_Mo_turn (l : Launch) (D : va_G) (cI cJ cB : ClassId) (aM : Nat) (bG : Nat) (bL : Nat) (bY : Nat) (bB : Nat) (bC : Nat) (bT : Nat) (th : Int32) (mw : Int32) (mz : Int32) (tk : Int32) (ss : Int32) (ml : Int32) (mh : Int32) (mp : Int32) (rw : Int32) (wr : Int32) (tc : Int32) (gl : Nat → Int32) (i : Int32) (h1 : 0 ≤ mz.toInt ∧ mz.toInt ≤ 9066) (h2 : ∀ j : Nat, (j : Int) < mz.toInt → gl j = bi (bt (gl j) 0)) :
    cti l yX7_turn (wsOf yX7_turn cX7_turn 2 (some .int)) (rmL 0 0 0 0) D classes (tys3 cI cJ cB) [.ref aM, .int i] [(aM, .inr (6, [.int th, .int mw, .ref bG, .int mz, .ref bL, .ref bY, .ref bB, .ref bC, .int tk, .int ss, .int ml, .int mh, .int mp, .int rw, .int wr, .int tc, .ref bT])), (bL, .inl (cB, 9200, .inl gl))] (fun (r : Int32) (u : Int32 × (Nat → Int32)) => ((i.toInt < 0 ∨ mz.toInt ≤ i.toInt) → r.toInt = -12 ∧ u.2 = gl) ∧ ((0 ≤ i.toInt ∧ i.toInt < mz.toInt) → r = bi (!bt (gl i.toInt.toNat) 0) ∧ ∀ j : Nat, u.2 j = if j = i.toInt.toNat then bi (!bt (gl i.toInt.toNat) 0) else gl j)) (fun u : Int32 × (Nat → Int32) => ([(aM, .inr (6, [.int u.1, .int mw, .ref bG, .int mz, .ref bL, .ref bY, .ref bB, .ref bC, .int tk, .int ss, .int ml, .int mh, .int mp, .int rw, .int wr, .int tc, .ref bT])), (bL, .inl (cB, 9200, .inl u.2))] : va_W)) := by
  refine cti.of (by first | exact plainFor_of_name (by decide) | decide +kernel) (Nat.le_of_ble_eq_true rfl) (fun p e s m args below meth c A ls Q h hret => ?_)
  obtain ⟨hx, hb, hml, hown, hts, hnm, hP, hK, hD, hA, hS, hZ, hN, hl⟩ := h
  have hown : s.vm.findClass RX7 = some m.cls := hown
  have hl : lv_has ls 2 [(0, .ref aM), (1, .int i)] := hl
  have hP : va_P D classes [(aM, .inr (6, [.int th, .int mw, .ref bG, .int mz, .ref bL, .ref bY, .ref bB, .ref bC, .int tk, .int ss, .int ml, .int mh, .int mp, .int rw, .int wr, .int tc, .ref bT])), (bL, .inl (cB, 9200, .inl gl))] s.heap := hP
  have hD : va_D A [(aM, .inr (6, [.int th, .int mw, .ref bG, .int mz, .ref bL, .ref bY, .ref bB, .ref bC, .int tk, .int ss, .int ml, .int mh, .int mp, .int rw, .int wr, .int tc, .ref bT])), (bL, .inl (cB, 9200, .inl gl))] := hD
  have rg_th := zi_rg th
  have rg_mw := zi_rg mw
  have rg_mz := zi_rg mz
  have rg_tk := zi_rg tk
  have rg_ss := zi_rg ss
  have rg_ml := zi_rg ml
  have rg_mh := zi_rg mh
  have rg_mp := zi_rg mp
  have rg_rw := zi_rg rw
  have rg_wr := zi_rg wr
  have rg_tc := zi_rg tc
  have rg_i := zi_rg i
  refine lv_aload_n hx hb dX7_turn_0 rfl (lv_at hl 0 rfl) ?_
  refine lv_iconst (v := 0) hx hb dX7_turn_1 (by decide) ?_
  refine lv_topi (fun v1 e1 => ?_)
  have z1 : v1.toInt = 0 := zi_c e1 (by decide)
  refine va_put (D := D) (ci := 6) (v := .int v1) (ty := .int) (C := RX7) (T := TX7) (N := 17) hx hb hts in_X7 tyX7 tyX7_ok nmX7 hown hK hP hD hS 0 rfl rfl 0 (by decide) (hts _ wk163) (fun _ h9 => h9) rfl (by decide +kernel) rfl rfl (Nat.le_of_ble_eq_true rfl) dX7_turn_2 (fun H locs hP1 hD1 hS1 => ?_)
  clear hP hD hS
  have hP : va_P D classes [(aM, .inr (6, [.int v1, .int mw, .ref bG, .int mz, .ref bL, .ref bY, .ref bB, .ref bC, .int tk, .int ss, .int ml, .int mh, .int mp, .int rw, .int wr, .int tc, .ref bT])), (bL, .inl (cB, 9200, .inl gl))] H := hP1
  have hD : va_D A [(aM, .inr (6, [.int v1, .int mw, .ref bG, .int mz, .ref bL, .ref bY, .ref bB, .ref bC, .int tk, .int ss, .int ml, .int mh, .int mp, .int rw, .int wr, .int tc, .ref bT])), (bL, .inl (cB, 9200, .inl gl))] := hD1
  have hS := hS1
  clear hP1 hD1 hS1
  refine lv_iload_n hx hb dX7_turn_5 rfl (lv_at hl 1 rfl) ?_
  refine lv_if_lt (tgt := 17) hx hb dX7_turn_6 (by decide) (fun c2 => ?_) (fun c2 => ?_)
  ·
    have z2 := zi_lt0 c2
    refine lv_bipush (v := -12) hx hb dX7_turn_17 (by decide) ?_
    refine lv_topi (fun v3 e3 => ?_)
    have z3 : v3.toInt = (-12) := zi_c e3 (by decide)
    have hq4 : ((i.toInt < 0 ∨ mz.toInt ≤ i.toInt) → v3.toInt = -12 ∧ gl = gl) ∧ ((0 ≤ i.toInt ∧ i.toInt < mz.toInt) → v3 = bi (!bt (gl i.toInt.toNat) 0) ∧ ∀ j : Nat, gl j = if j = i.toInt.toNat then bi (!bt (gl i.toInt.toNat) 0) else gl j) := (by refine ⟨fun q => ?_, fun q => ?_⟩ <;> first | (exfalso; omega) | exact ⟨by omega, rfl⟩ | exact tn_bit (h2 i.toInt.toNat (by omega)) (show v7 = gl i.toInt.toNat from e7) e6 e8 e9 ef10 e11)
    exact hret v3 (v1, gl) _ _ _ _ dX7_turn_19 hq4 (hP.sub [0, 1] rfl) (hD.sub [0, 1] (by decide) rfl) hS
  ·
    have z2 := zi_nlt0 c2
    refine lv_iload_n hx hb dX7_turn_9 rfl (lv_at hl 1 rfl) ?_
    refine lv_aload_n hx hb dX7_turn_10 rfl (lv_at hl 0 rfl) ?_
    refine va_get (D := D) (ci := 6) (v := .int mz) (C := RX7) (T := TX7) (N := 17) hx hb hts in_X7 hown hK hP 0 rfl rfl 3 (by decide) (hts _ wk67) (fun _ h9 => h9) rfl dX7_turn_11 ?_
    refine lv_icmp_lt (tgt := 20) hx hb dX7_turn_14 (by decide) (fun c5 => ?_) (fun c5 => ?_)
    ·
      have z5 := zi_lt c5
      refine lv_aload_n hx hb dX7_turn_20 rfl (lv_at hl 0 rfl) ?_
      refine va_get (D := D) (ci := 6) (v := .ref bL) (C := RX7) (T := TX7) (N := 17) hx hb hts in_X7 hown hK hP 0 rfl rfl 4 (by decide) (hts _ wk62) (fun _ h9 => h9) rfl dX7_turn_21 ?_
      refine lv_iload_n hx hb dX7_turn_24 rfl (lv_at hl 1 rfl) ?_
      refine lv_iconst (v := 1) hx hb dX7_turn_25 (by decide) ?_
      refine lv_topi (fun v6 e6 => ?_)
      have z6 : v6.toInt = 1 := zi_c e6 (by decide)
      refine lv_aload_n hx hb dX7_turn_26 rfl (lv_at hl 0 rfl) ?_
      refine va_get (D := D) (ci := 6) (v := .ref bL) (C := RX7) (T := TX7) (N := 17) hx hb hts in_X7 hown hK hP 0 rfl rfl 4 (by decide) (hts _ wk62) (fun _ h9 => h9) rfl dX7_turn_27 ?_
      refine lv_iload_n hx hb dX7_turn_30 rfl (lv_at hl 1 rfl) ?_
      refine va_bald hx hb hK hP 1 2 rfl rfl (zi_in (by omega)) dX7_turn_31 ?_
      refine lv_topi (fun v7 e7 => ?_)
      refine lv_isub hx hb dX7_turn_32 ?_
      refine lv_topi (fun v8 e8 => ?_)
      first | have z8 := zi_sub e8 (by omega) | skip
      refine lv_i2b hx hb dX7_turn_33 rfl ?_
      refine lv_topi (fun v9 e9 => ?_)
      obtain ⟨f10, ef10⟩ : ∃ z9, z9 = upd gl i.toNatClampNeg (vp_nar .byte v9) := ⟨_, rfl⟩
      refine va_bast hx hb hK hP hD hS 1 2 rfl rfl (zi_in (by omega)) dX7_turn_34 (fun H locs hP1 hD1 hS1 => ?_)
      rw [← ef10] at hP1 hD1
      clear hP hD hS
      have hP : va_P D classes [(aM, .inr (6, [.int v1, .int mw, .ref bG, .int mz, .ref bL, .ref bY, .ref bB, .ref bC, .int tk, .int ss, .int ml, .int mh, .int mp, .int rw, .int wr, .int tc, .ref bT])), (bL, .inl (cB, 9200, .inl f10))] H := hP1
      have hD : va_D A [(aM, .inr (6, [.int v1, .int mw, .ref bG, .int mz, .ref bL, .ref bY, .ref bB, .ref bC, .int tk, .int ss, .int ml, .int mh, .int mp, .int rw, .int wr, .int tc, .ref bT])), (bL, .inl (cB, 9200, .inl f10))] := hD1
      have hS := hS1
      clear hP1 hD1 hS1
      refine lv_aload_n hx hb dX7_turn_35 rfl (lv_at hl 0 rfl) ?_
      refine va_get (D := D) (ci := 6) (v := .ref bL) (C := RX7) (T := TX7) (N := 17) hx hb hts in_X7 hown hK hP 0 rfl rfl 4 (by decide) (hts _ wk62) (fun _ h9 => h9) rfl dX7_turn_36 ?_
      refine lv_iload_n hx hb dX7_turn_39 rfl (lv_at hl 1 rfl) ?_
      refine va_bald hx hb hK hP 1 2 rfl rfl (zi_in (by omega)) dX7_turn_40 ?_
      refine lv_topi (fun v11 e11 => ?_)
      have hq12 : ((i.toInt < 0 ∨ mz.toInt ≤ i.toInt) → v11.toInt = -12 ∧ f10 = gl) ∧ ((0 ≤ i.toInt ∧ i.toInt < mz.toInt) → v11 = bi (!bt (gl i.toInt.toNat) 0) ∧ ∀ j : Nat, f10 j = if j = i.toInt.toNat then bi (!bt (gl i.toInt.toNat) 0) else gl j) := (by refine ⟨fun q => ?_, fun q => ?_⟩ <;> first | (exfalso; omega) | exact ⟨by omega, rfl⟩ | exact tn_bit (h2 i.toInt.toNat (by omega)) (show v7 = gl i.toInt.toNat from e7) e6 e8 e9 ef10 e11)
      exact hret v11 (v1, f10) _ _ _ _ dX7_turn_41 hq12 (hP.sub [0, 1] rfl) (hD.sub [0, 1] (by decide) rfl) hS
    ·
      have z5 := zi_nlt c5
      refine lv_bipush (v := -12) hx hb dX7_turn_17 (by decide) ?_
      refine lv_topi (fun v13 e13 => ?_)
      have z13 : v13.toInt = (-12) := zi_c e13 (by decide)
      have hq14 : ((i.toInt < 0 ∨ mz.toInt ≤ i.toInt) → v13.toInt = -12 ∧ gl = gl) ∧ ((0 ≤ i.toInt ∧ i.toInt < mz.toInt) → v13 = bi (!bt (gl i.toInt.toNat) 0) ∧ ∀ j : Nat, gl j = if j = i.toInt.toNat then bi (!bt (gl i.toInt.toNat) 0) else gl j) := (by refine ⟨fun q => ?_, fun q => ?_⟩ <;> first | (exfalso; omega) | exact ⟨by omega, rfl⟩ | exact tn_bit (h2 i.toInt.toNat (by omega)) (show v7 = gl i.toInt.toNat from e7) e6 e8 e9 ef10 e11)
      exact hret v13 (v1, gl) _ _ _ _ dX7_turn_19 hq14 (hP.sub [0, 1] rfl) (hD.sub [0, 1] (by decide) rfl) hS

set_option maxHeartbeats 4000000 in
set_option maxRecDepth 100000 in
theorem c_Mo_add (l : Launch) (D : va_G) (cI cJ cB : ClassId) (aM : Nat) (bG : Nat) (bL : Nat) (bY : Nat) (bB : Nat) (bC : Nat) (bT : Nat) (th : Int32) (mw : Int32) (mz : Int32) (tk : Int32) (ss : Int32) (ml : Int32) (mh : Int32) (mp : Int32) (rw : Int32) (wr : Int32) (tc : Int32) (gl : Nat → Int32) (b : Int32) (h1 : 0 ≤ mz.toInt ∧ mz.toInt ≤ 9066) :
    cti l yX7_add (wsOf yX7_add cX7_add 2 (some .int)) (rmL 0 0 0 0) D classes (tys3 cI cJ cB) [.ref aM, .int b] [(aM, .inr (6, [.int th, .int mw, .ref bG, .int mz, .ref bL, .ref bY, .ref bB, .ref bC, .int tk, .int ss, .int ml, .int mh, .int mp, .int rw, .int wr, .int tc, .ref bT])), (bL, .inl (cB, 9200, .inl gl))] (fun (r : Int32) (u : Int32 × Int32 × (Nat → Int32)) => (((¬ b.toInt = 0 ∧ ¬ b.toInt = 1) → r.toInt = -12 ∧ u.2.1.toInt = mz.toInt) ∧ ((b.toInt = 0 ∨ b.toInt = 1) → (9066 ≤ mz.toInt → r.toInt = -14 ∧ u.2.1.toInt = mz.toInt) ∧ (mz.toInt < 9066 → r.toInt = mz.toInt + 1 ∧ u.2.1.toInt = mz.toInt + 1))) ∧ (¬ ((b.toInt = 0 ∨ b.toInt = 1) ∧ mz.toInt < 9066) → u.2.2 = gl) ∧ (((b.toInt = 0 ∨ b.toInt = 1) ∧ mz.toInt < 9066) → ∀ j : Nat, u.2.2 j = if j = mz.toInt.toNat then bi (bt b 0) else gl j)) (fun u : Int32 × Int32 × (Nat → Int32) => ([(aM, .inr (6, [.int u.1, .int mw, .ref bG, .int u.2.1, .ref bL, .ref bY, .ref bB, .ref bC, .int tk, .int ss, .int ml, .int mh, .int mp, .int rw, .int wr, .int tc, .ref bT])), (bL, .inl (cB, 9200, .inl u.2.2))] : va_W)) := by
  refine cti.of (by first | exact plainFor_of_name (by decide) | decide +kernel) (Nat.le_of_ble_eq_true rfl) (fun p e s m args below meth c A ls Q h hret => ?_)
  obtain ⟨hx, hb, hml, hown, hts, hnm, hP, hK, hD, hA, hS, hZ, hN, hl⟩ := h
  have hown : s.vm.findClass RX7 = some m.cls := hown
  have hl : lv_has ls 2 [(0, .ref aM), (1, .int b)] := hl
  have hP : va_P D classes [(aM, .inr (6, [.int th, .int mw, .ref bG, .int mz, .ref bL, .ref bY, .ref bB, .ref bC, .int tk, .int ss, .int ml, .int mh, .int mp, .int rw, .int wr, .int tc, .ref bT])), (bL, .inl (cB, 9200, .inl gl))] s.heap := hP
  have hD : va_D A [(aM, .inr (6, [.int th, .int mw, .ref bG, .int mz, .ref bL, .ref bY, .ref bB, .ref bC, .int tk, .int ss, .int ml, .int mh, .int mp, .int rw, .int wr, .int tc, .ref bT])), (bL, .inl (cB, 9200, .inl gl))] := hD
  have rg_th := zi_rg th
  have rg_mw := zi_rg mw
  have rg_mz := zi_rg mz
  have rg_tk := zi_rg tk
  have rg_ss := zi_rg ss
  have rg_ml := zi_rg ml
  have rg_mh := zi_rg mh
  have rg_mp := zi_rg mp
  have rg_rw := zi_rg rw
  have rg_wr := zi_rg wr
  have rg_tc := zi_rg tc
  have rg_b := zi_rg b
  refine lv_aload_n hx hb dX7_add_0 rfl (lv_at hl 0 rfl) ?_
  refine lv_iconst (v := 0) hx hb dX7_add_1 (by decide) ?_
  refine lv_topi (fun v1 e1 => ?_)
  have z1 : v1.toInt = 0 := zi_c e1 (by decide)
  refine va_put (D := D) (ci := 6) (v := .int v1) (ty := .int) (C := RX7) (T := TX7) (N := 17) hx hb hts in_X7 tyX7 tyX7_ok nmX7 hown hK hP hD hS 0 rfl rfl 0 (by decide) (hts _ wk163) (fun _ h9 => h9) rfl (by decide +kernel) rfl rfl (Nat.le_of_ble_eq_true rfl) dX7_add_2 (fun H locs hP1 hD1 hS1 => ?_)
  clear hP hD hS
  have hP : va_P D classes [(aM, .inr (6, [.int v1, .int mw, .ref bG, .int mz, .ref bL, .ref bY, .ref bB, .ref bC, .int tk, .int ss, .int ml, .int mh, .int mp, .int rw, .int wr, .int tc, .ref bT])), (bL, .inl (cB, 9200, .inl gl))] H := hP1
  have hD : va_D A [(aM, .inr (6, [.int v1, .int mw, .ref bG, .int mz, .ref bL, .ref bY, .ref bB, .ref bC, .int tk, .int ss, .int ml, .int mh, .int mp, .int rw, .int wr, .int tc, .ref bT])), (bL, .inl (cB, 9200, .inl gl))] := hD1
  have hS := hS1
  clear hP1 hD1 hS1
  refine lv_iload_n hx hb dX7_add_5 rfl (lv_at hl 1 rfl) ?_
  refine lv_if_eq (tgt := 17) hx hb dX7_add_6 (by decide) (fun c2 => ?_) (fun c2 => ?_)
  ·
    have z2 := zi_eq0 c2
    refine lv_aload_n hx hb dX7_add_17 rfl (lv_at hl 0 rfl) ?_
    refine va_get (D := D) (ci := 6) (v := .int mz) (C := RX7) (T := TX7) (N := 17) hx hb hts in_X7 hown hK hP 0 rfl rfl 3 (by decide) (hts _ wk67) (fun _ h9 => h9) rfl dX7_add_18 ?_
    refine lv_sipush (v := 9066) hx hb dX7_add_21 (by decide) ?_
    refine lv_topi (fun v3 e3 => ?_)
    have z3 : v3.toInt = 9066 := zi_c e3 (by decide)
    refine lv_icmp_lt (tgt := 30) hx hb dX7_add_24 (by decide) (fun c4 => ?_) (fun c4 => ?_)
    ·
      have z4 := zi_lt c4
      refine lv_aload_n hx hb dX7_add_30 rfl (lv_at hl 0 rfl) ?_
      refine va_get (D := D) (ci := 6) (v := .ref bL) (C := RX7) (T := TX7) (N := 17) hx hb hts in_X7 hown hK hP 0 rfl rfl 4 (by decide) (hts _ wk62) (fun _ h9 => h9) rfl dX7_add_31 ?_
      refine lv_aload_n hx hb dX7_add_34 rfl (lv_at hl 0 rfl) ?_
      refine va_get (D := D) (ci := 6) (v := .int mz) (C := RX7) (T := TX7) (N := 17) hx hb hts in_X7 hown hK hP 0 rfl rfl 3 (by decide) (hts _ wk67) (fun _ h9 => h9) rfl dX7_add_35 ?_
      refine lv_iload_n hx hb dX7_add_38 rfl (lv_at hl 1 rfl) ?_
      refine lv_i2b hx hb dX7_add_39 rfl ?_
      refine lv_topi (fun v5 e5 => ?_)
      obtain ⟨f6, ef6⟩ : ∃ z9, z9 = upd gl mz.toNatClampNeg (vp_nar .byte v5) := ⟨_, rfl⟩
      refine va_bast hx hb hK hP hD hS 1 2 rfl rfl (zi_in (by omega)) dX7_add_40 (fun H locs hP1 hD1 hS1 => ?_)
      rw [← ef6] at hP1 hD1
      clear hP hD hS
      have hP : va_P D classes [(aM, .inr (6, [.int v1, .int mw, .ref bG, .int mz, .ref bL, .ref bY, .ref bB, .ref bC, .int tk, .int ss, .int ml, .int mh, .int mp, .int rw, .int wr, .int tc, .ref bT])), (bL, .inl (cB, 9200, .inl f6))] H := hP1
      have hD : va_D A [(aM, .inr (6, [.int v1, .int mw, .ref bG, .int mz, .ref bL, .ref bY, .ref bB, .ref bC, .int tk, .int ss, .int ml, .int mh, .int mp, .int rw, .int wr, .int tc, .ref bT])), (bL, .inl (cB, 9200, .inl f6))] := hD1
      have hS := hS1
      clear hP1 hD1 hS1
      refine lv_aload_n hx hb dX7_add_41 rfl (lv_at hl 0 rfl) ?_
      refine lv_dup hx hb dX7_add_42 rfl ?_
      refine va_get (D := D) (ci := 6) (v := .int mz) (C := RX7) (T := TX7) (N := 17) hx hb hts in_X7 hown hK hP 0 rfl rfl 3 (by decide) (hts _ wk67) (fun _ h9 => h9) rfl dX7_add_43 ?_
      refine lv_iconst (v := 1) hx hb dX7_add_46 (by decide) ?_
      refine lv_topi (fun v7 e7 => ?_)
      have z7 : v7.toInt = 1 := zi_c e7 (by decide)
      refine lv_iadd hx hb dX7_add_47 ?_
      refine lv_topi (fun v8 e8 => ?_)
      first | have z8 := zi_add e8 (by omega) | skip
      refine va_put (D := D) (ci := 6) (v := .int v8) (ty := .int) (C := RX7) (T := TX7) (N := 17) hx hb hts in_X7 tyX7 tyX7_ok nmX7 hown hK hP hD hS 0 rfl rfl 3 (by decide) (hts _ wk67) (fun _ h9 => h9) rfl (by decide +kernel) rfl rfl (Nat.le_of_ble_eq_true rfl) dX7_add_48 (fun H locs hP1 hD1 hS1 => ?_)
      clear hP hD hS
      have hP : va_P D classes [(aM, .inr (6, [.int v1, .int mw, .ref bG, .int v8, .ref bL, .ref bY, .ref bB, .ref bC, .int tk, .int ss, .int ml, .int mh, .int mp, .int rw, .int wr, .int tc, .ref bT])), (bL, .inl (cB, 9200, .inl f6))] H := hP1
      have hD : va_D A [(aM, .inr (6, [.int v1, .int mw, .ref bG, .int v8, .ref bL, .ref bY, .ref bB, .ref bC, .int tk, .int ss, .int ml, .int mh, .int mp, .int rw, .int wr, .int tc, .ref bT])), (bL, .inl (cB, 9200, .inl f6))] := hD1
      have hS := hS1
      clear hP1 hD1 hS1
      refine lv_aload_n hx hb dX7_add_51 rfl (lv_at hl 0 rfl) ?_
      refine va_get (D := D) (ci := 6) (v := .int v8) (C := RX7) (T := TX7) (N := 17) hx hb hts in_X7 hown hK hP 0 rfl rfl 3 (by decide) (hts _ wk67) (fun _ h9 => h9) rfl dX7_add_52 ?_
      have hq9 : (((¬ b.toInt = 0 ∧ ¬ b.toInt = 1) → v8.toInt = -12 ∧ v8.toInt = mz.toInt) ∧ ((b.toInt = 0 ∨ b.toInt = 1) → (9066 ≤ mz.toInt → v8.toInt = -14 ∧ v8.toInt = mz.toInt) ∧ (mz.toInt < 9066 → v8.toInt = mz.toInt + 1 ∧ v8.toInt = mz.toInt + 1))) ∧ (¬ ((b.toInt = 0 ∨ b.toInt = 1) ∧ mz.toInt < 9066) → f6 = gl) ∧ (((b.toInt = 0 ∨ b.toInt = 1) ∧ mz.toInt < 9066) → ∀ j : Nat, f6 j = if j = mz.toInt.toNat then bi (bt b 0) else gl j) := (by refine ⟨by omega, fun q => ?_, fun q => ?_⟩ <;> first | rfl | (exfalso; omega) | exact fun j => ad_bit (by omega) e5 ef6 j | exact fun j => ad_bit (by omega) e16 ef17 j)
      exact hret v8 (v1, v8, f6) _ _ _ _ dX7_add_55 hq9 (hP.sub [0, 1] rfl) (hD.sub [0, 1] (by decide) rfl) hS
    ·
      have z4 := zi_nlt c4
      refine lv_bipush (v := -14) hx hb dX7_add_27 (by decide) ?_
      refine lv_topi (fun v10 e10 => ?_)
      have z10 : v10.toInt = (-14) := zi_c e10 (by decide)
      have hq11 : (((¬ b.toInt = 0 ∧ ¬ b.toInt = 1) → v10.toInt = -12 ∧ mz.toInt = mz.toInt) ∧ ((b.toInt = 0 ∨ b.toInt = 1) → (9066 ≤ mz.toInt → v10.toInt = -14 ∧ mz.toInt = mz.toInt) ∧ (mz.toInt < 9066 → v10.toInt = mz.toInt + 1 ∧ mz.toInt = mz.toInt + 1))) ∧ (¬ ((b.toInt = 0 ∨ b.toInt = 1) ∧ mz.toInt < 9066) → gl = gl) ∧ (((b.toInt = 0 ∨ b.toInt = 1) ∧ mz.toInt < 9066) → ∀ j : Nat, gl j = if j = mz.toInt.toNat then bi (bt b 0) else gl j) := (by refine ⟨by omega, fun q => ?_, fun q => ?_⟩ <;> first | rfl | (exfalso; omega) | exact fun j => ad_bit (by omega) e5 ef6 j | exact fun j => ad_bit (by omega) e16 ef17 j)
      exact hret v10 (v1, mz, gl) _ _ _ _ dX7_add_29 hq11 (hP.sub [0, 1] rfl) (hD.sub [0, 1] (by decide) rfl) hS
  ·
    have z2 := zi_ne0 c2
    refine lv_iload_n hx hb dX7_add_9 rfl (lv_at hl 1 rfl) ?_
    refine lv_iconst (v := 1) hx hb dX7_add_10 (by decide) ?_
    refine lv_topi (fun v12 e12 => ?_)
    have z12 : v12.toInt = 1 := zi_c e12 (by decide)
    refine lv_icmp_eq (tgt := 17) hx hb dX7_add_11 (by decide) (fun c13 => ?_) (fun c13 => ?_)
    ·
      have z13 := zi_eq c13
      refine lv_aload_n hx hb dX7_add_17 rfl (lv_at hl 0 rfl) ?_
      refine va_get (D := D) (ci := 6) (v := .int mz) (C := RX7) (T := TX7) (N := 17) hx hb hts in_X7 hown hK hP 0 rfl rfl 3 (by decide) (hts _ wk67) (fun _ h9 => h9) rfl dX7_add_18 ?_
      refine lv_sipush (v := 9066) hx hb dX7_add_21 (by decide) ?_
      refine lv_topi (fun v14 e14 => ?_)
      have z14 : v14.toInt = 9066 := zi_c e14 (by decide)
      refine lv_icmp_lt (tgt := 30) hx hb dX7_add_24 (by decide) (fun c15 => ?_) (fun c15 => ?_)
      ·
        have z15 := zi_lt c15
        refine lv_aload_n hx hb dX7_add_30 rfl (lv_at hl 0 rfl) ?_
        refine va_get (D := D) (ci := 6) (v := .ref bL) (C := RX7) (T := TX7) (N := 17) hx hb hts in_X7 hown hK hP 0 rfl rfl 4 (by decide) (hts _ wk62) (fun _ h9 => h9) rfl dX7_add_31 ?_
        refine lv_aload_n hx hb dX7_add_34 rfl (lv_at hl 0 rfl) ?_
        refine va_get (D := D) (ci := 6) (v := .int mz) (C := RX7) (T := TX7) (N := 17) hx hb hts in_X7 hown hK hP 0 rfl rfl 3 (by decide) (hts _ wk67) (fun _ h9 => h9) rfl dX7_add_35 ?_
        refine lv_iload_n hx hb dX7_add_38 rfl (lv_at hl 1 rfl) ?_
        refine lv_i2b hx hb dX7_add_39 rfl ?_
        refine lv_topi (fun v16 e16 => ?_)
        obtain ⟨f17, ef17⟩ : ∃ z9, z9 = upd gl mz.toNatClampNeg (vp_nar .byte v16) := ⟨_, rfl⟩
        refine va_bast hx hb hK hP hD hS 1 2 rfl rfl (zi_in (by omega)) dX7_add_40 (fun H locs hP1 hD1 hS1 => ?_)
        rw [← ef17] at hP1 hD1
        clear hP hD hS
        have hP : va_P D classes [(aM, .inr (6, [.int v1, .int mw, .ref bG, .int mz, .ref bL, .ref bY, .ref bB, .ref bC, .int tk, .int ss, .int ml, .int mh, .int mp, .int rw, .int wr, .int tc, .ref bT])), (bL, .inl (cB, 9200, .inl f17))] H := hP1
        have hD : va_D A [(aM, .inr (6, [.int v1, .int mw, .ref bG, .int mz, .ref bL, .ref bY, .ref bB, .ref bC, .int tk, .int ss, .int ml, .int mh, .int mp, .int rw, .int wr, .int tc, .ref bT])), (bL, .inl (cB, 9200, .inl f17))] := hD1
        have hS := hS1
        clear hP1 hD1 hS1
        refine lv_aload_n hx hb dX7_add_41 rfl (lv_at hl 0 rfl) ?_
        refine lv_dup hx hb dX7_add_42 rfl ?_
        refine va_get (D := D) (ci := 6) (v := .int mz) (C := RX7) (T := TX7) (N := 17) hx hb hts in_X7 hown hK hP 0 rfl rfl 3 (by decide) (hts _ wk67) (fun _ h9 => h9) rfl dX7_add_43 ?_
        refine lv_iconst (v := 1) hx hb dX7_add_46 (by decide) ?_
        refine lv_topi (fun v18 e18 => ?_)
        have z18 : v18.toInt = 1 := zi_c e18 (by decide)
        refine lv_iadd hx hb dX7_add_47 ?_
        refine lv_topi (fun v19 e19 => ?_)
        first | have z19 := zi_add e19 (by omega) | skip
        refine va_put (D := D) (ci := 6) (v := .int v19) (ty := .int) (C := RX7) (T := TX7) (N := 17) hx hb hts in_X7 tyX7 tyX7_ok nmX7 hown hK hP hD hS 0 rfl rfl 3 (by decide) (hts _ wk67) (fun _ h9 => h9) rfl (by decide +kernel) rfl rfl (Nat.le_of_ble_eq_true rfl) dX7_add_48 (fun H locs hP1 hD1 hS1 => ?_)
        clear hP hD hS
        have hP : va_P D classes [(aM, .inr (6, [.int v1, .int mw, .ref bG, .int v19, .ref bL, .ref bY, .ref bB, .ref bC, .int tk, .int ss, .int ml, .int mh, .int mp, .int rw, .int wr, .int tc, .ref bT])), (bL, .inl (cB, 9200, .inl f17))] H := hP1
        have hD : va_D A [(aM, .inr (6, [.int v1, .int mw, .ref bG, .int v19, .ref bL, .ref bY, .ref bB, .ref bC, .int tk, .int ss, .int ml, .int mh, .int mp, .int rw, .int wr, .int tc, .ref bT])), (bL, .inl (cB, 9200, .inl f17))] := hD1
        have hS := hS1
        clear hP1 hD1 hS1
        refine lv_aload_n hx hb dX7_add_51 rfl (lv_at hl 0 rfl) ?_
        refine va_get (D := D) (ci := 6) (v := .int v19) (C := RX7) (T := TX7) (N := 17) hx hb hts in_X7 hown hK hP 0 rfl rfl 3 (by decide) (hts _ wk67) (fun _ h9 => h9) rfl dX7_add_52 ?_
        have hq20 : (((¬ b.toInt = 0 ∧ ¬ b.toInt = 1) → v19.toInt = -12 ∧ v19.toInt = mz.toInt) ∧ ((b.toInt = 0 ∨ b.toInt = 1) → (9066 ≤ mz.toInt → v19.toInt = -14 ∧ v19.toInt = mz.toInt) ∧ (mz.toInt < 9066 → v19.toInt = mz.toInt + 1 ∧ v19.toInt = mz.toInt + 1))) ∧ (¬ ((b.toInt = 0 ∨ b.toInt = 1) ∧ mz.toInt < 9066) → f17 = gl) ∧ (((b.toInt = 0 ∨ b.toInt = 1) ∧ mz.toInt < 9066) → ∀ j : Nat, f17 j = if j = mz.toInt.toNat then bi (bt b 0) else gl j) := (by refine ⟨by omega, fun q => ?_, fun q => ?_⟩ <;> first | rfl | (exfalso; omega) | exact fun j => ad_bit (by omega) e5 ef6 j | exact fun j => ad_bit (by omega) e16 ef17 j)
        exact hret v19 (v1, v19, f17) _ _ _ _ dX7_add_55 hq20 (hP.sub [0, 1] rfl) (hD.sub [0, 1] (by decide) rfl) hS
      ·
        have z15 := zi_nlt c15
        refine lv_bipush (v := -14) hx hb dX7_add_27 (by decide) ?_
        refine lv_topi (fun v21 e21 => ?_)
        have z21 : v21.toInt = (-14) := zi_c e21 (by decide)
        have hq22 : (((¬ b.toInt = 0 ∧ ¬ b.toInt = 1) → v21.toInt = -12 ∧ mz.toInt = mz.toInt) ∧ ((b.toInt = 0 ∨ b.toInt = 1) → (9066 ≤ mz.toInt → v21.toInt = -14 ∧ mz.toInt = mz.toInt) ∧ (mz.toInt < 9066 → v21.toInt = mz.toInt + 1 ∧ mz.toInt = mz.toInt + 1))) ∧ (¬ ((b.toInt = 0 ∨ b.toInt = 1) ∧ mz.toInt < 9066) → gl = gl) ∧ (((b.toInt = 0 ∨ b.toInt = 1) ∧ mz.toInt < 9066) → ∀ j : Nat, gl j = if j = mz.toInt.toNat then bi (bt b 0) else gl j) := (by refine ⟨by omega, fun q => ?_, fun q => ?_⟩ <;> first | rfl | (exfalso; omega) | exact fun j => ad_bit (by omega) e5 ef6 j | exact fun j => ad_bit (by omega) e16 ef17 j)
        exact hret v21 (v1, mz, gl) _ _ _ _ dX7_add_29 hq22 (hP.sub [0, 1] rfl) (hD.sub [0, 1] (by decide) rfl) hS
    ·
      have z13 := zi_ne c13
      refine lv_bipush (v := -12) hx hb dX7_add_14 (by decide) ?_
      refine lv_topi (fun v23 e23 => ?_)
      have z23 : v23.toInt = (-12) := zi_c e23 (by decide)
      have hq24 : (((¬ b.toInt = 0 ∧ ¬ b.toInt = 1) → v23.toInt = -12 ∧ mz.toInt = mz.toInt) ∧ ((b.toInt = 0 ∨ b.toInt = 1) → (9066 ≤ mz.toInt → v23.toInt = -14 ∧ mz.toInt = mz.toInt) ∧ (mz.toInt < 9066 → v23.toInt = mz.toInt + 1 ∧ mz.toInt = mz.toInt + 1))) ∧ (¬ ((b.toInt = 0 ∨ b.toInt = 1) ∧ mz.toInt < 9066) → gl = gl) ∧ (((b.toInt = 0 ∨ b.toInt = 1) ∧ mz.toInt < 9066) → ∀ j : Nat, gl j = if j = mz.toInt.toNat then bi (bt b 0) else gl j) := (by refine ⟨by omega, fun q => ?_, fun q => ?_⟩ <;> first | rfl | (exfalso; omega) | exact fun j => ad_bit (by omega) e5 ef6 j | exact fun j => ad_bit (by omega) e16 ef17 j)
      exact hret v23 (v1, mz, gl) _ _ _ _ dX7_add_16 hq24 (hP.sub [0, 1] rfl) (hD.sub [0, 1] (by decide) rfl) hS

set_option maxHeartbeats 4000000 in
set_option maxRecDepth 100000 in
theorem c_Mo_get (l : Launch) (D : va_G) (cI cJ cB : ClassId) (aM : Nat) (bG : Nat) (bL : Nat) (bY : Nat) (bB : Nat) (bC : Nat) (bT : Nat) (th : Int32) (mw : Int32) (mz : Int32) (tk : Int32) (ss : Int32) (ml : Int32) (mh : Int32) (mp : Int32) (rw : Int32) (wr : Int32) (tc : Int32) (go : Nat → Int32) (tt : Int32) (nn : Int32) (h1 : 0 ≤ tt.toInt ∧ 0 ≤ nn.toInt ∧ tt.toInt + nn.toInt ≤ 66) :
    cti l yX7_get (wsOf yX7_get cX7_get 5 (some .int)) (rmL 0 0 0 0) D classes (tys3 cI cJ cB) [.ref aM, .int tt, .int nn] [(aM, .inr (6, [.int th, .int mw, .ref bG, .int mz, .ref bL, .ref bY, .ref bB, .ref bC, .int tk, .int ss, .int ml, .int mh, .int mp, .int rw, .int wr, .int tc, .ref bT])), (bC, .inl (cI, 66, .inl go))] (fun (r : Int32) (u : Unit) => True) (fun u : Unit => ([(aM, .inr (6, [.int th, .int mw, .ref bG, .int mz, .ref bL, .ref bY, .ref bB, .ref bC, .int tk, .int ss, .int ml, .int mh, .int mp, .int rw, .int wr, .int tc, .ref bT])), (bC, .inl (cI, 66, .inl go))] : va_W)) := by
  refine cti.of (by first | exact plainFor_of_name (by decide) | decide +kernel) (Nat.le_of_ble_eq_true rfl) (fun p e s m args below meth c A ls Q h hret => ?_)
  obtain ⟨hx, hb, hml, hown, hts, hnm, hP, hK, hD, hA, hS, hZ, hN, hl⟩ := h
  have hown : s.vm.findClass RX7 = some m.cls := hown
  have hl : lv_has ls 5 [(0, .ref aM), (1, .int tt), (2, .int nn)] := hl
  have hP : va_P D classes [(aM, .inr (6, [.int th, .int mw, .ref bG, .int mz, .ref bL, .ref bY, .ref bB, .ref bC, .int tk, .int ss, .int ml, .int mh, .int mp, .int rw, .int wr, .int tc, .ref bT])), (bC, .inl (cI, 66, .inl go))] s.heap := hP
  have hD : va_D A [(aM, .inr (6, [.int th, .int mw, .ref bG, .int mz, .ref bL, .ref bY, .ref bB, .ref bC, .int tk, .int ss, .int ml, .int mh, .int mp, .int rw, .int wr, .int tc, .ref bT])), (bC, .inl (cI, 66, .inl go))] := hD
  have rg_th := zi_rg th
  have rg_mw := zi_rg mw
  have rg_mz := zi_rg mz
  have rg_tk := zi_rg tk
  have rg_ss := zi_rg ss
  have rg_ml := zi_rg ml
  have rg_mh := zi_rg mh
  have rg_mp := zi_rg mp
  have rg_rw := zi_rg rw
  have rg_wr := zi_rg wr
  have rg_tc := zi_rg tc
  have rg_tt := zi_rg tt
  have rg_nn := zi_rg nn
  refine lv_iconst (v := 0) hx hb dX7_get_0 (by decide) ?_
  refine lv_topi (fun v1 e1 => ?_)
  have z1 : v1.toInt = 0 := zi_c e1 (by decide)
  refine lv_istore_n (lv' := [(3, .int v1), (0, .ref aM), (1, .int tt), (2, .int nn)]) hx hb dX7_get_1 rfl hl (by decide) rfl (fun ls hl => ?_)
  refine lv_iconst (v := 0) hx hb dX7_get_2 (by decide) ?_
  refine lv_topi (fun v2 e2 => ?_)
  have z2 : v2.toInt = 0 := zi_c e2 (by decide)
  refine lv_istore (lv' := [(4, .int v2), (3, .int v1), (0, .ref aM), (1, .int tt), (2, .int nn)]) hx hb dX7_get_3 hl (by decide) rfl (fun ls hl => ?_)
  have J5 : ∀ (n : Nat) (x : Int32) (k : Int32) (H : Heap) (locs : List Loc) (ls : Array Slot), ((nn.toInt - k.toInt).toNat) < n → (0 ≤ k.toInt ∧ k.toInt ≤ nn.toInt) → va_P D classes [(aM, .inr (6, [.int th, .int mw, .ref bG, .int mz, .ref bL, .ref bY, .ref bB, .ref bC, .int tk, .int ss, .int ml, .int mh, .int mp, .int rw, .int wr, .int tc, .ref bT])), (bC, .inl (cI, 66, .inl go))] H → va_D A [(aM, .inr (6, [.int th, .int mw, .ref bG, .int mz, .ref bL, .ref bY, .ref bB, .ref bC, .int tk, .int ss, .int ml, .int mh, .int mp, .int rw, .int wr, .int tc, .ref bT])), (bC, .inl (cI, 66, .inl go))] → va_S A s.heap H locs → lv_has ls 5 [(0, .ref aM), (1, .int tt), (2, .int nn), (3, .int x), (4, .int k)] → W p l e (rmL 0 0 0 0) s m args below meth c H locs 0 0 Q (F0 m 5 ls []) := by
    intro n
    induction n with
    | zero => intro x k H locs ls hmu; exact absurd hmu (Nat.not_lt_zero _)
    | succ n ih5 =>
      intro x k H locs ls hmu5 i5_0 hP hD hS hl
      have rg_x := zi_rg x
      have rg_k := zi_rg k
      refine lv_iload hx hb dX7_get_5 (lv_at hl 4 rfl) ?_
      refine lv_iload_n hx hb dX7_get_7 rfl (lv_at hl 2 rfl) ?_
      refine lv_icmp_ge (tgt := 32) hx hb dX7_get_8 (by decide) (fun c3 => ?_) (fun c3 => ?_)
      ·
        have z3 := zi_le c3
        refine lv_iload_n hx hb dX7_get_32 rfl (lv_at hl 3 rfl) ?_
        exact hret x () _ _ _ _ dX7_get_33 trivial (hP.sub [0, 1] rfl) (hD.sub [0, 1] (by decide) rfl) hS
      ·
        have z3 := zi_nle c3
        refine lv_iload_n hx hb dX7_get_11 rfl (lv_at hl 3 rfl) ?_
        refine lv_aload_n hx hb dX7_get_12 rfl (lv_at hl 0 rfl) ?_
        refine va_get (D := D) (ci := 6) (v := .ref bC) (C := RX7) (T := TX7) (N := 17) hx hb hts in_X7 hown hK hP 0 rfl rfl 7 (by decide) (hts _ wk65) (fun _ h9 => h9) rfl dX7_get_13 ?_
        refine lv_iload_n hx hb dX7_get_16 rfl (lv_at hl 1 rfl) ?_
        refine lv_iload hx hb dX7_get_17 (lv_at hl 4 rfl) ?_
        refine lv_iadd hx hb dX7_get_19 ?_
        refine lv_topi (fun v5 e5 => ?_)
        first | have z5 := zi_add e5 (by omega) | skip
        refine va_iald hx hb hK hP 1 0 rfl rfl (zi_in (by omega)) dX7_get_20 ?_
        refine lv_topi (fun v6 e6 => ?_)
        refine lv_iload hx hb dX7_get_21 (lv_at hl 4 rfl) ?_
        refine lv_ishl hx hb dX7_get_23 ?_
        refine lv_topi (fun v7 e7 => ?_)
        refine lv_ior hx hb dX7_get_24 ?_
        refine lv_topi (fun v8 e8 => ?_)
        refine lv_istore_n (lv' := [(3, .int v8), (0, .ref aM), (1, .int tt), (2, .int nn), (4, .int k)]) hx hb dX7_get_25 rfl hl (by decide) rfl (fun ls hl => ?_)
        obtain ⟨v9, e9⟩ : ∃ y : Int32, y = k + 1 := ⟨_, rfl⟩
        first | have z9 := zi_inc (z := 1) 1 (by decide) e9 (by omega) | skip
        refine lv_iinc (v := v9) (lv' := [(4, .int v9), (3, .int v8), (0, .ref aM), (1, .int tt), (2, .int nn)]) hx hb dX7_get_26 hl (k := 4) rfl (by rw [e9]; rfl) (by decide) rfl (fun ls hl => ?_)
        refine lv_goto (tgt := 5) hx hb dX7_get_29 (by decide) ?_
        exact ih5 v8 v9 _ _ _ (by omega) (by omega) (hP.sub [0, 1] rfl) (hD.sub [0, 1] (by decide) rfl) hS (lv_sub hl [2, 3, 4, 1, 0] rfl)
  exact J5 _ v1 v2 _ _ _ (Nat.lt_succ_self _) (by omega) (hP.sub [0, 1] rfl) (hD.sub [0, 1] (by decide) rfl) hS (lv_sub hl [2, 3, 4, 1, 0] rfl)

set_option maxHeartbeats 4000000 in
set_option maxRecDepth 100000 in
theorem c_Mo_codeAt (l : Launch) (D : va_G) (cI cJ cB : ClassId) (aM : Nat) (bG : Nat) (bL : Nat) (bY : Nat) (bB : Nat) (bC : Nat) (bT : Nat) (th : Int32) (mw : Int32) (mz : Int32) (tk : Int32) (ss : Int32) (ml : Int32) (mh : Int32) (mp : Int32) (rw : Int32) (wr : Int32) (tc : Int32) (go : Nat → Int32) (tt : Int32) (h1 : 0 ≤ tt.toInt ∧ tt.toInt + 7 ≤ 66) :
    cti l yX7_codeAt (wsOf yX7_codeAt cX7_codeAt 2 (some .int)) (rmL 1 24 0 0) D classes (tys3 cI cJ cB) [.ref aM, .int tt] [(aM, .inr (6, [.int th, .int mw, .ref bG, .int mz, .ref bL, .ref bY, .ref bB, .ref bC, .int tk, .int ss, .int ml, .int mh, .int mp, .int rw, .int wr, .int tc, .ref bT])), (bC, .inl (cI, 66, .inl go))] (fun (r : Int32) (u : Unit) => True) (fun u : Unit => ([(aM, .inr (6, [.int th, .int mw, .ref bG, .int mz, .ref bL, .ref bY, .ref bB, .ref bC, .int tk, .int ss, .int ml, .int mh, .int mp, .int rw, .int wr, .int tc, .ref bT])), (bC, .inl (cI, 66, .inl go))] : va_W)) := by
  refine cti.of (by first | exact plainFor_of_name (by decide) | decide +kernel) (Nat.le_of_ble_eq_true rfl) (fun p e s m args below meth c A ls Q h hret => ?_)
  obtain ⟨hx, hb, hml, hown, hts, hnm, hP, hK, hD, hA, hS, hZ, hN, hl⟩ := h
  have hown : s.vm.findClass RX7 = some m.cls := hown
  have hl : lv_has ls 2 [(0, .ref aM), (1, .int tt)] := hl
  have hP : va_P D classes [(aM, .inr (6, [.int th, .int mw, .ref bG, .int mz, .ref bL, .ref bY, .ref bB, .ref bC, .int tk, .int ss, .int ml, .int mh, .int mp, .int rw, .int wr, .int tc, .ref bT])), (bC, .inl (cI, 66, .inl go))] s.heap := hP
  have hD : va_D A [(aM, .inr (6, [.int th, .int mw, .ref bG, .int mz, .ref bL, .ref bY, .ref bB, .ref bC, .int tk, .int ss, .int ml, .int mh, .int mp, .int rw, .int wr, .int tc, .ref bT])), (bC, .inl (cI, 66, .inl go))] := hD
  have rg_th := zi_rg th
  have rg_mw := zi_rg mw
  have rg_mz := zi_rg mz
  have rg_tk := zi_rg tk
  have rg_ss := zi_rg ss
  have rg_ml := zi_rg ml
  have rg_mh := zi_rg mh
  have rg_mp := zi_rg mp
  have rg_rw := zi_rg rw
  have rg_wr := zi_rg wr
  have rg_tc := zi_rg tc
  have rg_tt := zi_rg tt
  refine lv_aload_n hx hb dX7_codeAt_0 rfl (lv_at hl 0 rfl) ?_
  refine lv_iload_n hx hb dX7_codeAt_1 rfl (lv_at hl 1 rfl) ?_
  refine lv_bipush (v := 7) hx hb dX7_codeAt_2 (by decide) ?_
  refine lv_topi (fun v1 e1 => ?_)
  have z1 : v1.toInt = 7 := zi_c e1 (by decide)
  have hh2 : 0 ≤ tt.toInt ∧ 0 ≤ v1.toInt ∧ tt.toInt + v1.toInt ≤ 66 := (by omega)
  refine call_i (wc := [(aM, .inr (6, [.int th, .int mw, .ref bG, .int mz, .ref bL, .ref bY, .ref bB, .ref bC, .int tk, .int ss, .int ml, .int mh, .int mp, .int rw, .int wr, .int tc, .ref bT])), (bC, .inl (cI, 66, .inl go))]) (wr := []) (run_V (As := [.int tt, .int v1]) (rest := []) kv_RX7_82 ⟨by decide, by decide⟩ ⟨rfl, rfl⟩ ⟨hx, hb, hml, hown, hts⟩ (c_Mo_get l D cI cJ cB aM bG bL bY bB bC bT th mw mz tk ss ml mh mp rw wr tc go tt v1 hh2 _) ct_blind (ct_pre (wc := [(aM, .inr (6, [.int th, .int mw, .ref bG, .int mz, .ref bL, .ref bY, .ref bB, .ref bC, .int tk, .int ss, .int ml, .int mh, .int mp, .int rw, .int wr, .int tc, .ref bT])), (bC, .inl (cI, 66, .inl go))]) hK hP hD hS hA hZ hN [0, 1] (by decide) rfl rfl) (va_recv hK hP (ci := 6) (q0 := 0) rfl rfl) rfl hl.1 rfl (Nat.le_of_ble_eq_true rfl) dX7_codeAt_4 ⟨Nat.le_of_ble_eq_true rfl, Nat.le_of_ble_eq_true rfl⟩) hP hD hS hA [0, 1] [] rfl rfl (by decide) (by decide) (fun r3 u H locs hw3 hP1 hD1 hS1 => ?_)
  clear hw3
  clear hP hD hS
  have hP : va_P D classes [(aM, .inr (6, [.int th, .int mw, .ref bG, .int mz, .ref bL, .ref bY, .ref bB, .ref bC, .int tk, .int ss, .int ml, .int mh, .int mp, .int rw, .int wr, .int tc, .ref bT])), (bC, .inl (cI, 66, .inl go))] H := hP1
  have hD : va_D A [(aM, .inr (6, [.int th, .int mw, .ref bG, .int mz, .ref bL, .ref bY, .ref bB, .ref bC, .int tk, .int ss, .int ml, .int mh, .int mp, .int rw, .int wr, .int tc, .ref bT])), (bC, .inl (cI, 66, .inl go))] := hD1
  have hS := hS1
  clear hP1 hD1 hS1
  have rg_r3 := zi_rg r3
  refine lv_if_ne (tgt := 16) hx hb dX7_codeAt_7 (by decide) (fun c4 => ?_) (fun c4 => ?_)
  ·
    have z4 := zi_ne0 c4
    refine lv_sipush (v := 259) hx hb dX7_codeAt_16 (by decide) ?_
    refine lv_topi (fun v5 e5 => ?_)
    have z5 : v5.toInt = 259 := zi_c e5 (by decide)
    exact hret v5 () _ _ _ _ dX7_codeAt_19 trivial (hP.sub [0, 1] rfl) (hD.sub [0, 1] (by decide) rfl) hS
  ·
    have z4 := zi_eq0 c4
    refine lv_sipush (v := 256) hx hb dX7_codeAt_10 (by decide) ?_
    refine lv_topi (fun v7 e7 => ?_)
    have z7 : v7.toInt = 256 := zi_c e7 (by decide)
    refine lv_goto (tgt := 19) hx hb dX7_codeAt_13 (by decide) ?_
    exact hret v7 () _ _ _ _ dX7_codeAt_19 trivial (hP.sub [0, 1] rfl) (hD.sub [0, 1] (by decide) rfl) hS

set_option maxHeartbeats 4000000 in
set_option maxRecDepth 100000 in
theorem c_Mo_endOf (l : Launch) (D : va_G) (cI cJ cB : ClassId) (aM : Nat) (bG : Nat) (bL : Nat) (bY : Nat) (bB : Nat) (bC : Nat) (bT : Nat) (th : Int32) (mw : Int32) (mz : Int32) (tk : Int32) (ss : Int32) (ml : Int32) (mh : Int32) (mp : Int32) (rw : Int32) (wr : Int32) (tc : Int32) (ty : Int32)  :
    cti l yX7_endOf (wsOf yX7_endOf cX7_endOf 4 (some .int)) (rmL 1 20 0 0) D classes (tys3 cI cJ cB) [.ref aM, .int ty] [(aM, .inr (6, [.int th, .int mw, .ref bG, .int mz, .ref bL, .ref bY, .ref bB, .ref bC, .int tk, .int ss, .int ml, .int mh, .int mp, .int rw, .int wr, .int tc, .ref bT]))] (fun (r : Int32) (u : Unit) => -1 ≤ r.toInt ∧ r.toInt ≤ 7) (fun u : Unit => ([(aM, .inr (6, [.int th, .int mw, .ref bG, .int mz, .ref bL, .ref bY, .ref bB, .ref bC, .int tk, .int ss, .int ml, .int mh, .int mp, .int rw, .int wr, .int tc, .ref bT]))] : va_W)) := by
  refine cti.of (by first | exact plainFor_of_name (by decide) | decide +kernel) (Nat.le_of_ble_eq_true rfl) (fun p e s m args below meth c A ls Q h hret => ?_)
  obtain ⟨hx, hb, hml, hown, hts, hnm, hP, hK, hD, hA, hS, hZ, hN, hl⟩ := h
  have hown : s.vm.findClass RX7 = some m.cls := hown
  have hl : lv_has ls 4 [(0, .ref aM), (1, .int ty)] := hl
  have hP : va_P D classes [(aM, .inr (6, [.int th, .int mw, .ref bG, .int mz, .ref bL, .ref bY, .ref bB, .ref bC, .int tk, .int ss, .int ml, .int mh, .int mp, .int rw, .int wr, .int tc, .ref bT]))] s.heap := hP
  have hD : va_D A [(aM, .inr (6, [.int th, .int mw, .ref bG, .int mz, .ref bL, .ref bY, .ref bB, .ref bC, .int tk, .int ss, .int ml, .int mh, .int mp, .int rw, .int wr, .int tc, .ref bT]))] := hD
  have rg_th := zi_rg th
  have rg_mw := zi_rg mw
  have rg_mz := zi_rg mz
  have rg_tk := zi_rg tk
  have rg_ss := zi_rg ss
  have rg_ml := zi_rg ml
  have rg_mh := zi_rg mh
  have rg_mp := zi_rg mp
  have rg_rw := zi_rg rw
  have rg_wr := zi_rg wr
  have rg_tc := zi_rg tc
  have rg_ty := zi_rg ty
  refine lv_iconst (v := -1) hx hb dX7_endOf_0 (by decide) ?_
  refine lv_topi (fun v1 e1 => ?_)
  have z1 : v1.toInt = (-1) := zi_c e1 (by decide)
  refine lv_istore_n (lv' := [(2, .int v1), (0, .ref aM), (1, .int ty)]) hx hb dX7_endOf_1 rfl hl (by decide) rfl (fun ls hl => ?_)
  refine lv_iconst (v := 0) hx hb dX7_endOf_2 (by decide) ?_
  refine lv_topi (fun v2 e2 => ?_)
  have z2 : v2.toInt = 0 := zi_c e2 (by decide)
  refine lv_istore_n (lv' := [(3, .int v2), (2, .int v1), (0, .ref aM), (1, .int ty)]) hx hb dX7_endOf_3 rfl hl (by decide) rfl (fun ls hl => ?_)
  have J4 : ∀ (n : Nat) (fo : Int32) (k : Int32) (H : Heap) (locs : List Loc) (ls : Array Slot), ((8 - k.toInt).toNat) < n → (-1 ≤ fo.toInt ∧ fo.toInt ≤ 7) → (0 ≤ k.toInt ∧ k.toInt ≤ 8) → va_P D classes [(aM, .inr (6, [.int th, .int mw, .ref bG, .int mz, .ref bL, .ref bY, .ref bB, .ref bC, .int tk, .int ss, .int ml, .int mh, .int mp, .int rw, .int wr, .int tc, .ref bT]))] H → va_D A [(aM, .inr (6, [.int th, .int mw, .ref bG, .int mz, .ref bL, .ref bY, .ref bB, .ref bC, .int tk, .int ss, .int ml, .int mh, .int mp, .int rw, .int wr, .int tc, .ref bT]))] → va_S A s.heap H locs → lv_has ls 4 [(0, .ref aM), (1, .int ty), (2, .int fo), (3, .int k)] → W p l e (rmL 1 20 0 0) s m args below meth c H locs 0 0 Q (F0 m 4 ls []) := by
    intro n
    induction n with
    | zero => intro fo k H locs ls hmu; exact absurd hmu (Nat.not_lt_zero _)
    | succ n ih4 =>
      intro fo k H locs ls hmu4 i4_0 i4_1 hP hD hS hl
      have rg_fo := zi_rg fo
      have rg_k := zi_rg k
      refine lv_iload_n hx hb dX7_endOf_4 rfl (lv_at hl 3 rfl) ?_
      refine lv_bipush (v := 8) hx hb dX7_endOf_5 (by decide) ?_
      refine lv_topi (fun v3 e3 => ?_)
      have z3 : v3.toInt = 8 := zi_c e3 (by decide)
      refine lv_icmp_ge (tgt := 30) hx hb dX7_endOf_7 (by decide) (fun c4 => ?_) (fun c4 => ?_)
      ·
        have z4 := zi_le c4
        refine lv_iload_n hx hb dX7_endOf_30 rfl (lv_at hl 2 rfl) ?_
        have hq5 : -1 ≤ fo.toInt ∧ fo.toInt ≤ 7 := (by omega)
        exact hret fo () _ _ _ _ dX7_endOf_31 hq5 (hP.sub [0] rfl) (hD.sub [0] (by decide) rfl) hS
      ·
        have z4 := zi_nle c4
        refine lv_iload_n hx hb dX7_endOf_10 rfl (lv_at hl 3 rfl) ?_
        have hh6 : 0 ≤ k.toInt ∧ k.toInt < 8 := (by omega)
        refine call_i (wc := []) (wr := [(aM, .inr (6, [.int th, .int mw, .ref bG, .int mz, .ref bL, .ref bY, .ref bB, .ref bC, .int tk, .int ss, .int ml, .int mh, .int mp, .int rw, .int wr, .int tc, .ref bT]))]) (run_S (As := [.int k]) (rest := []) ks_RX7_59 ⟨by decide, by decide⟩ ⟨rfl, rfl⟩ ⟨hx, hb, hml, hown, hts⟩ (c_Mo_typeOf l D cI cJ cB k hh6 _) ct_blind (ct_pre (wc := []) hK hP hD hS hA hZ hN [] (by decide) rfl rfl) rfl hl.1 rfl (Nat.le_of_ble_eq_true rfl) dX7_endOf_11 ⟨Nat.le_of_ble_eq_true rfl, Nat.le_of_ble_eq_true rfl⟩) hP hD hS hA [] [0] rfl rfl (by decide) (by decide) (fun r7 u H locs hw7 hP1 hD1 hS1 => ?_)
        have hw7 : r7 = st_k k.toInt.toNat := hw7
        clear hP hD hS
        have hP : va_P D classes [(aM, .inr (6, [.int th, .int mw, .ref bG, .int mz, .ref bL, .ref bY, .ref bB, .ref bC, .int tk, .int ss, .int ml, .int mh, .int mp, .int rw, .int wr, .int tc, .ref bT]))] H := hP1
        have hD : va_D A [(aM, .inr (6, [.int th, .int mw, .ref bG, .int mz, .ref bL, .ref bY, .ref bB, .ref bC, .int tk, .int ss, .int ml, .int mh, .int mp, .int rw, .int wr, .int tc, .ref bT]))] := hD1
        have hS := hS1
        clear hP1 hD1 hS1
        have rg_r7 := zi_rg r7
        refine lv_iload_n hx hb dX7_endOf_14 rfl (lv_at hl 1 rfl) ?_
        refine lv_icmp_ne (tgt := 22) hx hb dX7_endOf_15 (by decide) (fun c8 => ?_) (fun c8 => ?_)
        ·
          have z8 := zi_ne c8
          refine lv_iload_n hx hb dX7_endOf_22 rfl (lv_at hl 2 rfl) ?_
          refine lv_istore_n (lv' := [(2, .int fo), (0, .ref aM), (1, .int ty), (3, .int k)]) hx hb dX7_endOf_23 rfl hl (by decide) rfl (fun ls hl => ?_)
          obtain ⟨v9, e9⟩ : ∃ y : Int32, y = k + 1 := ⟨_, rfl⟩
          first | have z9 := zi_inc (z := 1) 1 (by decide) e9 (by omega) | skip
          refine lv_iinc (v := v9) (lv' := [(3, .int v9), (2, .int fo), (0, .ref aM), (1, .int ty)]) hx hb dX7_endOf_24 hl (k := 3) rfl (by rw [e9]; rfl) (by decide) rfl (fun ls hl => ?_)
          refine lv_goto (tgt := 4) hx hb dX7_endOf_27 (by decide) ?_
          exact ih4 fo v9 _ _ _ (by omega) (by omega) (by omega) (hP.sub [0] rfl) (hD.sub [0] (by decide) rfl) hS (lv_sub hl [2, 3, 1, 0] rfl)
        ·
          have z8 := zi_eq c8
          refine lv_iload_n hx hb dX7_endOf_18 rfl (lv_at hl 3 rfl) ?_
          refine lv_goto (tgt := 23) hx hb dX7_endOf_19 (by decide) ?_
          refine lv_istore_n (lv' := [(2, .int k), (0, .ref aM), (1, .int ty), (3, .int k)]) hx hb dX7_endOf_23 rfl hl (by decide) rfl (fun ls hl => ?_)
          obtain ⟨v10, e10⟩ : ∃ y : Int32, y = k + 1 := ⟨_, rfl⟩
          first | have z10 := zi_inc (z := 1) 1 (by decide) e10 (by omega) | skip
          refine lv_iinc (v := v10) (lv' := [(3, .int v10), (2, .int k), (0, .ref aM), (1, .int ty)]) hx hb dX7_endOf_24 hl (k := 3) rfl (by rw [e10]; rfl) (by decide) rfl (fun ls hl => ?_)
          refine lv_goto (tgt := 4) hx hb dX7_endOf_27 (by decide) ?_
          exact ih4 k v10 _ _ _ (by omega) (by omega) (by omega) (hP.sub [0] rfl) (hD.sub [0] (by decide) rfl) hS (lv_sub hl [2, 3, 1, 0] rfl)
  exact J4 _ v1 v2 _ _ _ (Nat.lt_succ_self _) (by omega) (by omega) (hP.sub [0] rfl) (hD.sub [0] (by decide) rfl) hS (lv_sub hl [2, 3, 1, 0] rfl)

set_option maxHeartbeats 4000000 in
set_option maxRecDepth 100000 in
theorem c_Mo_character (l : Launch) (D : va_G) (cI cJ cB : ClassId) (aM : Nat) (bG : Nat) (bL : Nat) (bY : Nat) (bB : Nat) (bC : Nat) (bT : Nat) (th : Int32) (mw : Int32) (mz : Int32) (tk : Int32) (ss : Int32) (ml : Int32) (mh : Int32) (mp : Int32) (rw : Int32) (wr : Int32) (tc : Int32) (go : Nat → Int32) (k : Int32) (h1 : 0 ≤ k.toInt ∧ k.toInt < 8) :
    cti l yX7_character (wsOf yX7_character cX7_character 4 (some .int)) (rmL 2 45 0 0) D classes (tys3 cI cJ cB) [.ref aM, .int k] [(aM, .inr (6, [.int th, .int mw, .ref bG, .int mz, .ref bL, .ref bY, .ref bB, .ref bC, .int tk, .int ss, .int ml, .int mh, .int mp, .int rw, .int wr, .int tc, .ref bT])), (bC, .inl (cI, 66, .inl go))] (fun (r : Int32) (u : Unit) => True) (fun u : Unit => ([(aM, .inr (6, [.int th, .int mw, .ref bG, .int mz, .ref bL, .ref bY, .ref bB, .ref bC, .int tk, .int ss, .int ml, .int mh, .int mp, .int rw, .int wr, .int tc, .ref bT])), (bC, .inl (cI, 66, .inl go))] : va_W)) := by
  refine cti.of (by first | exact plainFor_of_name (by decide) | decide +kernel) (Nat.le_of_ble_eq_true rfl) (fun p e s m args below meth c A ls Q h hret => ?_)
  obtain ⟨hx, hb, hml, hown, hts, hnm, hP, hK, hD, hA, hS, hZ, hN, hl⟩ := h
  have hown : s.vm.findClass RX7 = some m.cls := hown
  have hl : lv_has ls 4 [(0, .ref aM), (1, .int k)] := hl
  have hP : va_P D classes [(aM, .inr (6, [.int th, .int mw, .ref bG, .int mz, .ref bL, .ref bY, .ref bB, .ref bC, .int tk, .int ss, .int ml, .int mh, .int mp, .int rw, .int wr, .int tc, .ref bT])), (bC, .inl (cI, 66, .inl go))] s.heap := hP
  have hD : va_D A [(aM, .inr (6, [.int th, .int mw, .ref bG, .int mz, .ref bL, .ref bY, .ref bB, .ref bC, .int tk, .int ss, .int ml, .int mh, .int mp, .int rw, .int wr, .int tc, .ref bT])), (bC, .inl (cI, 66, .inl go))] := hD
  have rg_th := zi_rg th
  have rg_mw := zi_rg mw
  have rg_mz := zi_rg mz
  have rg_tk := zi_rg tk
  have rg_ss := zi_rg ss
  have rg_ml := zi_rg ml
  have rg_mh := zi_rg mh
  have rg_mp := zi_rg mp
  have rg_rw := zi_rg rw
  have rg_wr := zi_rg wr
  have rg_tc := zi_rg tc
  have rg_k := zi_rg k
  refine lv_aload_n hx hb dX7_character_0 rfl (lv_at hl 0 rfl) ?_
  refine va_get (D := D) (ci := 6) (v := .ref bC) (C := RX7) (T := TX7) (N := 17) hx hb hts in_X7 hown hK hP 0 rfl rfl 7 (by decide) (hts _ wk65) (fun _ h9 => h9) rfl dX7_character_1 ?_
  refine lv_iconst (v := 0) hx hb dX7_character_4 (by decide) ?_
  refine lv_topi (fun v1 e1 => ?_)
  have z1 : v1.toInt = 0 := zi_c e1 (by decide)
  refine va_iald hx hb hK hP 1 0 rfl rfl (zi_in (by omega)) dX7_character_5 ?_
  refine lv_topi (fun v2 e2 => ?_)
  refine lv_aload_n hx hb dX7_character_6 rfl (lv_at hl 0 rfl) ?_
  refine va_get (D := D) (ci := 6) (v := .ref bC) (C := RX7) (T := TX7) (N := 17) hx hb hts in_X7 hown hK hP 0 rfl rfl 7 (by decide) (hts _ wk65) (fun _ h9 => h9) rfl dX7_character_7 ?_
  refine lv_iconst (v := 1) hx hb dX7_character_10 (by decide) ?_
  refine lv_topi (fun v3 e3 => ?_)
  have z3 : v3.toInt = 1 := zi_c e3 (by decide)
  refine va_iald hx hb hK hP 1 0 rfl rfl (zi_in (by omega)) dX7_character_11 ?_
  refine lv_topi (fun v4 e4 => ?_)
  refine lv_icmp_ne (tgt := 19) hx hb dX7_character_12 (by decide) (fun c5 => ?_) (fun c5 => ?_)
  ·
    have z5 := zi_ne c5
    refine lv_aload_n hx hb dX7_character_19 rfl (lv_at hl 0 rfl) ?_
    refine va_get (D := D) (ci := 6) (v := .ref bC) (C := RX7) (T := TX7) (N := 17) hx hb hts in_X7 hown hK hP 0 rfl rfl 7 (by decide) (hts _ wk65) (fun _ h9 => h9) rfl dX7_character_20 ?_
    refine lv_iconst (v := 0) hx hb dX7_character_23 (by decide) ?_
    refine lv_topi (fun v6 e6 => ?_)
    have z6 : v6.toInt = 0 := zi_c e6 (by decide)
    refine va_iald hx hb hK hP 1 0 rfl rfl (zi_in (by omega)) dX7_character_24 ?_
    refine lv_topi (fun v7 e7 => ?_)
    refine lv_if_ne (tgt := 41) hx hb dX7_character_25 (by decide) (fun c8 => ?_) (fun c8 => ?_)
    ·
      have z8 := zi_ne0 c8
      refine lv_aload_n hx hb dX7_character_41 rfl (lv_at hl 0 rfl) ?_
      refine lv_iconst (v := 2) hx hb dX7_character_42 (by decide) ?_
      refine lv_topi (fun v9 e9 => ?_)
      have z9 : v9.toInt = 2 := zi_c e9 (by decide)
      refine lv_bipush (v := 8) hx hb dX7_character_43 (by decide) ?_
      refine lv_topi (fun v10 e10 => ?_)
      have z10 : v10.toInt = 8 := zi_c e10 (by decide)
      have hh11 : 0 ≤ v9.toInt ∧ 0 ≤ v10.toInt ∧ v9.toInt + v10.toInt ≤ 66 := (by omega)
      refine call_i (wc := [(aM, .inr (6, [.int th, .int mw, .ref bG, .int mz, .ref bL, .ref bY, .ref bB, .ref bC, .int tk, .int ss, .int ml, .int mh, .int mp, .int rw, .int wr, .int tc, .ref bT])), (bC, .inl (cI, 66, .inl go))]) (wr := []) (run_V (As := [.int v9, .int v10]) (rest := []) kv_RX7_82 ⟨by decide, by decide⟩ ⟨rfl, rfl⟩ ⟨hx, hb, hml, hown, hts⟩ (c_Mo_get l D cI cJ cB aM bG bL bY bB bC bT th mw mz tk ss ml mh mp rw wr tc go v9 v10 hh11 _) ct_blind (ct_pre (wc := [(aM, .inr (6, [.int th, .int mw, .ref bG, .int mz, .ref bL, .ref bY, .ref bB, .ref bC, .int tk, .int ss, .int ml, .int mh, .int mp, .int rw, .int wr, .int tc, .ref bT])), (bC, .inl (cI, 66, .inl go))]) hK hP hD hS hA hZ hN [0, 1] (by decide) rfl rfl) (va_recv hK hP (ci := 6) (q0 := 0) rfl rfl) rfl hl.1 rfl (Nat.le_of_ble_eq_true rfl) dX7_character_45 ⟨Nat.le_of_ble_eq_true rfl, Nat.le_of_ble_eq_true rfl⟩) hP hD hS hA [0, 1] [] rfl rfl (by decide) (by decide) (fun r12 u H locs hw12 hP1 hD1 hS1 => ?_)
      clear hw12
      clear hP hD hS
      have hP : va_P D classes [(aM, .inr (6, [.int th, .int mw, .ref bG, .int mz, .ref bL, .ref bY, .ref bB, .ref bC, .int tk, .int ss, .int ml, .int mh, .int mp, .int rw, .int wr, .int tc, .ref bT])), (bC, .inl (cI, 66, .inl go))] H := hP1
      have hD : va_D A [(aM, .inr (6, [.int th, .int mw, .ref bG, .int mz, .ref bL, .ref bY, .ref bB, .ref bC, .int tk, .int ss, .int ml, .int mh, .int mp, .int rw, .int wr, .int tc, .ref bT])), (bC, .inl (cI, 66, .inl go))] := hD1
      have hS := hS1
      clear hP1 hD1 hS1
      have rg_r12 := zi_rg r12
      refine lv_istore_n (lv' := [(2, .int r12), (0, .ref aM), (1, .int k)]) hx hb dX7_character_48 rfl hl (by decide) rfl (fun ls hl => ?_)
      refine lv_iload_n hx hb dX7_character_49 rfl (lv_at hl 0 rfl) ?_
      refine lv_bipush (v := 30) hx hb dX7_character_50 (by decide) ?_
      refine lv_topi (fun v13 e13 => ?_)
      have z13 : v13.toInt = 30 := zi_c e13 (by decide)
      refine lv_icmp_ne (tgt := 67) hx hb dX7_character_52 (by decide) (fun c14 => ?_) (fun c14 => ?_)
      ·
        have z14 := zi_ne c14
        refine lv_iload_n hx hb dX7_character_67 rfl (lv_at hl 0 rfl) ?_
        refine lv_bipush (v := 120) hx hb dX7_character_68 (by decide) ?_
        refine lv_topi (fun v15 e15 => ?_)
        have z15 : v15.toInt = 120 := zi_c e15 (by decide)
        refine lv_icmp_ne (tgt := 96) hx hb dX7_character_70 (by decide) (fun c16 => ?_) (fun c16 => ?_)
        ·
          have z16 := zi_ne c16
          refine lv_iload_n hx hb dX7_character_96 rfl (lv_at hl 0 rfl) ?_
          refine lv_bipush (v := 51) hx hb dX7_character_97 (by decide) ?_
          refine lv_topi (fun v17 e17 => ?_)
          have z17 : v17.toInt = 51 := zi_c e17 (by decide)
          refine lv_icmp_ne (tgt := 145) hx hb dX7_character_99 (by decide) (fun c18 => ?_) (fun c18 => ?_)
          ·
            have z18 := zi_ne c18
            refine lv_aload_n hx hb dX7_character_145 rfl (lv_at hl 1 rfl) ?_
            refine lv_iload_n hx hb dX7_character_146 rfl (lv_at hl 0 rfl) ?_
            refine call_i (wc := [(aM, .inr (6, [.int th, .int mw, .ref bG, .int mz, .ref bL, .ref bY, .ref bB, .ref bC, .int tk, .int ss, .int ml, .int mh, .int mp, .int rw, .int wr, .int tc, .ref bT]))]) (wr := [(bC, .inl (cI, 66, .inl go))]) (run_V (As := [.int r12]) (rest := []) kv_RX7_88 ⟨by decide, by decide⟩ ⟨rfl, rfl⟩ ⟨hx, hb, hml, hown, hts⟩ (c_Mo_endOf l D cI cJ cB aM bG bL bY bB bC bT th mw mz tk ss ml mh mp rw wr tc r12  _) ct_blind (ct_pre (wc := [(aM, .inr (6, [.int th, .int mw, .ref bG, .int mz, .ref bL, .ref bY, .ref bB, .ref bC, .int tk, .int ss, .int ml, .int mh, .int mp, .int rw, .int wr, .int tc, .ref bT]))]) hK hP hD hS hA hZ hN [0] (by decide) rfl rfl) (va_recv hK hP (ci := 6) (q0 := 0) rfl rfl) rfl hl.1 rfl (Nat.le_of_ble_eq_true rfl) dX7_character_147 ⟨Nat.le_of_ble_eq_true rfl, Nat.le_of_ble_eq_true rfl⟩) hP hD hS hA [0] [1] rfl rfl (by decide) (by decide) (fun r19 u H locs hw19 hP1 hD1 hS1 => ?_)
            have hw19 : -1 ≤ r19.toInt ∧ r19.toInt ≤ 7 := hw19
            clear hP hD hS
            have hP : va_P D classes [(bC, .inl (cI, 66, .inl go)), (aM, .inr (6, [.int th, .int mw, .ref bG, .int mz, .ref bL, .ref bY, .ref bB, .ref bC, .int tk, .int ss, .int ml, .int mh, .int mp, .int rw, .int wr, .int tc, .ref bT]))] H := hP1
            have hD : va_D A [(bC, .inl (cI, 66, .inl go)), (aM, .inr (6, [.int th, .int mw, .ref bG, .int mz, .ref bL, .ref bY, .ref bB, .ref bC, .int tk, .int ss, .int ml, .int mh, .int mp, .int rw, .int wr, .int tc, .ref bT]))] := hD1
            have hS := hS1
            clear hP1 hD1 hS1
            have rg_r19 := zi_rg r19
            refine lv_istore_n (lv' := [(3, .int r19), (2, .int r12), (0, .ref aM), (1, .int k)]) hx hb dX7_character_150 rfl hl (by decide) rfl (fun ls hl => ?_)
            refine lv_iload_n hx hb dX7_character_151 rfl (lv_at hl 0 rfl) ?_
            refine lv_if_ge (tgt := 161) hx hb dX7_character_152 (by decide) (fun c20 => ?_) (fun c20 => ?_)
            ·
              have z20 := zi_ge0 c20
              refine lv_iload_n hx hb dX7_character_161 rfl (lv_at hl 3 rfl) ?_
              refine lv_iload_n hx hb dX7_character_162 rfl (lv_at hl 0 rfl) ?_
              refine lv_icmp_ge (tgt := 182) hx hb dX7_character_163 (by decide) (fun c21 => ?_) (fun c21 => ?_)
              ·
                have z21 := zi_le c21
                refine lv_iload_n hx hb dX7_character_182 rfl (lv_at hl 3 rfl) ?_
                refine lv_iload_n hx hb dX7_character_183 rfl (lv_at hl 0 rfl) ?_
                refine lv_icmp_ne (tgt := 193) hx hb dX7_character_184 (by decide) (fun c22 => ?_) (fun c22 => ?_)
                ·
                  have z22 := zi_ne c22
                  refine lv_aload_n hx hb dX7_character_193 rfl (lv_at hl 2 rfl) ?_
                  refine lv_bipush (v := 66) hx hb dX7_character_194 (by decide) ?_
                  refine lv_topi (fun v23 e23 => ?_)
                  have z23 : v23.toInt = 66 := zi_c e23 (by decide)
                  refine lv_bipush (v := 7) hx hb dX7_character_196 (by decide) ?_
                  refine lv_topi (fun v24 e24 => ?_)
                  have z24 : v24.toInt = 7 := zi_c e24 (by decide)
                  refine lv_bipush (v := 8) hx hb dX7_character_198 (by decide) ?_
                  refine lv_topi (fun v25 e25 => ?_)
                  have z25 : v25.toInt = 8 := zi_c e25 (by decide)
                  refine lv_iload_n hx hb dX7_character_200 rfl (lv_at hl 3 rfl) ?_
                  refine lv_isub hx hb dX7_character_201 ?_
                  refine lv_topi (fun v26 e26 => ?_)
                  first | have z26 := zi_sub e26 (by omega) | skip
                  refine lv_imul hx hb dX7_character_202 ?_
                  refine lv_topi (fun v27 e27 => ?_)
                  first | have z27 := zi_mulL (k := 7) e27 (by omega) (by omega) | skip
                  refine lv_isub hx hb dX7_character_203 ?_
                  refine lv_topi (fun v28 e28 => ?_)
                  first | have z28 := zi_sub e28 (by omega) | skip
                  have hh29 : 0 ≤ v28.toInt ∧ v28.toInt + 7 ≤ 66 := (by omega)
                  refine call_i (wc := [(aM, .inr (6, [.int th, .int mw, .ref bG, .int mz, .ref bL, .ref bY, .ref bB, .ref bC, .int tk, .int ss, .int ml, .int mh, .int mp, .int rw, .int wr, .int tc, .ref bT])), (bC, .inl (cI, 66, .inl go))]) (wr := []) (run_V (As := [.int v28]) (rest := []) kv_RX7_85 ⟨by decide, by decide⟩ ⟨rfl, rfl⟩ ⟨hx, hb, hml, hown, hts⟩ (c_Mo_codeAt l D cI cJ cB aM bG bL bY bB bC bT th mw mz tk ss ml mh mp rw wr tc go v28 hh29 _) ct_blind (ct_pre (wc := [(aM, .inr (6, [.int th, .int mw, .ref bG, .int mz, .ref bL, .ref bY, .ref bB, .ref bC, .int tk, .int ss, .int ml, .int mh, .int mp, .int rw, .int wr, .int tc, .ref bT])), (bC, .inl (cI, 66, .inl go))]) hK hP hD hS hA hZ hN [1, 0] (by decide) rfl rfl) (va_recv hK hP (ci := 6) (q0 := 1) rfl rfl) rfl hl.1 rfl (Nat.le_of_ble_eq_true rfl) dX7_character_204 ⟨Nat.le_of_ble_eq_true rfl, Nat.le_of_ble_eq_true rfl⟩) hP hD hS hA [1, 0] [] rfl rfl (by decide) (by decide) (fun r30 u H locs hw30 hP1 hD1 hS1 => ?_)
                  clear hw30
                  clear hP hD hS
                  have hP : va_P D classes [(aM, .inr (6, [.int th, .int mw, .ref bG, .int mz, .ref bL, .ref bY, .ref bB, .ref bC, .int tk, .int ss, .int ml, .int mh, .int mp, .int rw, .int wr, .int tc, .ref bT])), (bC, .inl (cI, 66, .inl go))] H := hP1
                  have hD : va_D A [(aM, .inr (6, [.int th, .int mw, .ref bG, .int mz, .ref bL, .ref bY, .ref bB, .ref bC, .int tk, .int ss, .int ml, .int mh, .int mp, .int rw, .int wr, .int tc, .ref bT])), (bC, .inl (cI, 66, .inl go))] := hD1
                  have hS := hS1
                  clear hP1 hD1 hS1
                  have rg_r30 := zi_rg r30
                  exact hret r30 () _ _ _ _ dX7_character_207 trivial (hP.sub [0, 1] rfl) (hD.sub [0, 1] (by decide) rfl) hS
                ·
                  have z22 := zi_eq c22
                  refine lv_sipush (v := 258) hx hb dX7_character_187 (by decide) ?_
                  refine lv_topi (fun v32 e32 => ?_)
                  have z32 : v32.toInt = 258 := zi_c e32 (by decide)
                  refine lv_goto (tgt := 207) hx hb dX7_character_190 (by decide) ?_
                  exact hret v32 () _ _ _ _ dX7_character_207 trivial (hP.sub [1, 0] rfl) (hD.sub [1, 0] (by decide) rfl) hS
              ·
                have z21 := zi_nle c21
                refine lv_aload_n hx hb dX7_character_166 rfl (lv_at hl 2 rfl) ?_
                refine lv_bipush (v := 10) hx hb dX7_character_167 (by decide) ?_
                refine lv_topi (fun v34 e34 => ?_)
                have z34 : v34.toInt = 10 := zi_c e34 (by decide)
                refine lv_bipush (v := 8) hx hb dX7_character_169 (by decide) ?_
                refine lv_topi (fun v35 e35 => ?_)
                have z35 : v35.toInt = 8 := zi_c e35 (by decide)
                refine lv_iload_n hx hb dX7_character_171 rfl (lv_at hl 3 rfl) ?_
                refine lv_imul hx hb dX7_character_172 ?_
                refine lv_topi (fun v36 e36 => ?_)
                first | have z36 := zi_mulL (k := 8) e36 (by omega) (by omega) | skip
                refine lv_iadd hx hb dX7_character_173 ?_
                refine lv_topi (fun v37 e37 => ?_)
                first | have z37 := zi_add e37 (by omega) | skip
                refine lv_bipush (v := 8) hx hb dX7_character_174 (by decide) ?_
                refine lv_topi (fun v38 e38 => ?_)
                have z38 : v38.toInt = 8 := zi_c e38 (by decide)
                have hh39 : 0 ≤ v37.toInt ∧ 0 ≤ v38.toInt ∧ v37.toInt + v38.toInt ≤ 66 := (by omega)
                refine call_i (wc := [(aM, .inr (6, [.int th, .int mw, .ref bG, .int mz, .ref bL, .ref bY, .ref bB, .ref bC, .int tk, .int ss, .int ml, .int mh, .int mp, .int rw, .int wr, .int tc, .ref bT])), (bC, .inl (cI, 66, .inl go))]) (wr := []) (run_V (As := [.int v37, .int v38]) (rest := []) kv_RX7_82 ⟨by decide, by decide⟩ ⟨rfl, rfl⟩ ⟨hx, hb, hml, hown, hts⟩ (c_Mo_get l D cI cJ cB aM bG bL bY bB bC bT th mw mz tk ss ml mh mp rw wr tc go v37 v38 hh39 _) ct_blind (ct_pre (wc := [(aM, .inr (6, [.int th, .int mw, .ref bG, .int mz, .ref bL, .ref bY, .ref bB, .ref bC, .int tk, .int ss, .int ml, .int mh, .int mp, .int rw, .int wr, .int tc, .ref bT])), (bC, .inl (cI, 66, .inl go))]) hK hP hD hS hA hZ hN [1, 0] (by decide) rfl rfl) (va_recv hK hP (ci := 6) (q0 := 1) rfl rfl) rfl hl.1 rfl (Nat.le_of_ble_eq_true rfl) dX7_character_176 ⟨Nat.le_of_ble_eq_true rfl, Nat.le_of_ble_eq_true rfl⟩) hP hD hS hA [1, 0] [] rfl rfl (by decide) (by decide) (fun r40 u H locs hw40 hP1 hD1 hS1 => ?_)
                clear hw40
                clear hP hD hS
                have hP : va_P D classes [(aM, .inr (6, [.int th, .int mw, .ref bG, .int mz, .ref bL, .ref bY, .ref bB, .ref bC, .int tk, .int ss, .int ml, .int mh, .int mp, .int rw, .int wr, .int tc, .ref bT])), (bC, .inl (cI, 66, .inl go))] H := hP1
                have hD : va_D A [(aM, .inr (6, [.int th, .int mw, .ref bG, .int mz, .ref bL, .ref bY, .ref bB, .ref bC, .int tk, .int ss, .int ml, .int mh, .int mp, .int rw, .int wr, .int tc, .ref bT])), (bC, .inl (cI, 66, .inl go))] := hD1
                have hS := hS1
                clear hP1 hD1 hS1
                have rg_r40 := zi_rg r40
                refine lv_goto (tgt := 207) hx hb dX7_character_179 (by decide) ?_
                exact hret r40 () _ _ _ _ dX7_character_207 trivial (hP.sub [0, 1] rfl) (hD.sub [0, 1] (by decide) rfl) hS
            ·
              have z20 := zi_nge0 c20
              refine lv_sipush (v := 259) hx hb dX7_character_155 (by decide) ?_
              refine lv_topi (fun v42 e42 => ?_)
              have z42 : v42.toInt = 259 := zi_c e42 (by decide)
              refine lv_goto (tgt := 207) hx hb dX7_character_158 (by decide) ?_
              exact hret v42 () _ _ _ _ dX7_character_207 trivial (hP.sub [1, 0] rfl) (hD.sub [1, 0] (by decide) rfl) hS
          ·
            have z18 := zi_eq c18
            refine lv_iload_n hx hb dX7_character_102 rfl (lv_at hl 2 rfl) ?_
            refine lv_iconst (v := 4) hx hb dX7_character_103 (by decide) ?_
            refine lv_topi (fun v44 e44 => ?_)
            have z44 : v44.toInt = 4 := zi_c e44 (by decide)
            refine lv_icmp_ge (tgt := 121) hx hb dX7_character_104 (by decide) (fun c45 => ?_) (fun c45 => ?_)
            ·
              have z45 := zi_le c45
              refine lv_iload_n hx hb dX7_character_121 rfl (lv_at hl 2 rfl) ?_
              refine lv_iconst (v := 4) hx hb dX7_character_122 (by decide) ?_
              refine lv_topi (fun v46 e46 => ?_)
              have z46 : v46.toInt = 4 := zi_c e46 (by decide)
              refine lv_icmp_ne (tgt := 132) hx hb dX7_character_123 (by decide) (fun c47 => ?_) (fun c47 => ?_)
              ·
                have z47 := zi_ne c47
                refine lv_aload_n hx hb dX7_character_132 rfl (lv_at hl 1 rfl) ?_
                refine lv_iconst (v := 2) hx hb dX7_character_133 (by decide) ?_
                refine lv_topi (fun v48 e48 => ?_)
                have z48 : v48.toInt = 2 := zi_c e48 (by decide)
                refine lv_bipush (v := 8) hx hb dX7_character_134 (by decide) ?_
                refine lv_topi (fun v49 e49 => ?_)
                have z49 : v49.toInt = 8 := zi_c e49 (by decide)
                refine lv_iload_n hx hb dX7_character_136 rfl (lv_at hl 2 rfl) ?_
                refine lv_imul hx hb dX7_character_137 ?_
                refine lv_topi (fun v50 e50 => ?_)
                first | have z50 := zi_mulL (k := 8) e50 (by omega) (by omega) | skip
                refine lv_iadd hx hb dX7_character_138 ?_
                refine lv_topi (fun v51 e51 => ?_)
                first | have z51 := zi_add e51 (by omega) | skip
                refine lv_bipush (v := 8) hx hb dX7_character_139 (by decide) ?_
                refine lv_topi (fun v52 e52 => ?_)
                have z52 : v52.toInt = 8 := zi_c e52 (by decide)
                have hh53 : 0 ≤ v51.toInt ∧ 0 ≤ v52.toInt ∧ v51.toInt + v52.toInt ≤ 66 := (by omega)
                refine call_i (wc := [(aM, .inr (6, [.int th, .int mw, .ref bG, .int mz, .ref bL, .ref bY, .ref bB, .ref bC, .int tk, .int ss, .int ml, .int mh, .int mp, .int rw, .int wr, .int tc, .ref bT])), (bC, .inl (cI, 66, .inl go))]) (wr := []) (run_V (As := [.int v51, .int v52]) (rest := []) kv_RX7_82 ⟨by decide, by decide⟩ ⟨rfl, rfl⟩ ⟨hx, hb, hml, hown, hts⟩ (c_Mo_get l D cI cJ cB aM bG bL bY bB bC bT th mw mz tk ss ml mh mp rw wr tc go v51 v52 hh53 _) ct_blind (ct_pre (wc := [(aM, .inr (6, [.int th, .int mw, .ref bG, .int mz, .ref bL, .ref bY, .ref bB, .ref bC, .int tk, .int ss, .int ml, .int mh, .int mp, .int rw, .int wr, .int tc, .ref bT])), (bC, .inl (cI, 66, .inl go))]) hK hP hD hS hA hZ hN [0, 1] (by decide) rfl rfl) (va_recv hK hP (ci := 6) (q0 := 0) rfl rfl) rfl hl.1 rfl (Nat.le_of_ble_eq_true rfl) dX7_character_141 ⟨Nat.le_of_ble_eq_true rfl, Nat.le_of_ble_eq_true rfl⟩) hP hD hS hA [0, 1] [] rfl rfl (by decide) (by decide) (fun r54 u H locs hw54 hP1 hD1 hS1 => ?_)
                clear hw54
                clear hP hD hS
                have hP : va_P D classes [(aM, .inr (6, [.int th, .int mw, .ref bG, .int mz, .ref bL, .ref bY, .ref bB, .ref bC, .int tk, .int ss, .int ml, .int mh, .int mp, .int rw, .int wr, .int tc, .ref bT])), (bC, .inl (cI, 66, .inl go))] H := hP1
                have hD : va_D A [(aM, .inr (6, [.int th, .int mw, .ref bG, .int mz, .ref bL, .ref bY, .ref bB, .ref bC, .int tk, .int ss, .int ml, .int mh, .int mp, .int rw, .int wr, .int tc, .ref bT])), (bC, .inl (cI, 66, .inl go))] := hD1
                have hS := hS1
                clear hP1 hD1 hS1
                have rg_r54 := zi_rg r54
                exact hret r54 () _ _ _ _ dX7_character_144 trivial (hP.sub [0, 1] rfl) (hD.sub [0, 1] (by decide) rfl) hS
              ·
                have z47 := zi_eq c47
                refine lv_sipush (v := 257) hx hb dX7_character_126 (by decide) ?_
                refine lv_topi (fun v56 e56 => ?_)
                have z56 : v56.toInt = 257 := zi_c e56 (by decide)
                refine lv_goto (tgt := 144) hx hb dX7_character_129 (by decide) ?_
                exact hret v56 () _ _ _ _ dX7_character_144 trivial (hP.sub [0, 1] rfl) (hD.sub [0, 1] (by decide) rfl) hS
            ·
              have z45 := zi_nle c45
              refine lv_aload_n hx hb dX7_character_107 rfl (lv_at hl 1 rfl) ?_
              refine lv_bipush (v := 10) hx hb dX7_character_108 (by decide) ?_
              refine lv_topi (fun v58 e58 => ?_)
              have z58 : v58.toInt = 10 := zi_c e58 (by decide)
              refine lv_bipush (v := 7) hx hb dX7_character_110 (by decide) ?_
              refine lv_topi (fun v59 e59 => ?_)
              have z59 : v59.toInt = 7 := zi_c e59 (by decide)
              refine lv_iload_n hx hb dX7_character_112 rfl (lv_at hl 2 rfl) ?_
              refine lv_imul hx hb dX7_character_113 ?_
              refine lv_topi (fun v60 e60 => ?_)
              first | have z60 := zi_mulL (k := 7) e60 (by omega) (by omega) | skip
              refine lv_iadd hx hb dX7_character_114 ?_
              refine lv_topi (fun v61 e61 => ?_)
              first | have z61 := zi_add e61 (by omega) | skip
              have hh62 : 0 ≤ v61.toInt ∧ v61.toInt + 7 ≤ 66 := (by omega)
              refine call_i (wc := [(aM, .inr (6, [.int th, .int mw, .ref bG, .int mz, .ref bL, .ref bY, .ref bB, .ref bC, .int tk, .int ss, .int ml, .int mh, .int mp, .int rw, .int wr, .int tc, .ref bT])), (bC, .inl (cI, 66, .inl go))]) (wr := []) (run_V (As := [.int v61]) (rest := []) kv_RX7_85 ⟨by decide, by decide⟩ ⟨rfl, rfl⟩ ⟨hx, hb, hml, hown, hts⟩ (c_Mo_codeAt l D cI cJ cB aM bG bL bY bB bC bT th mw mz tk ss ml mh mp rw wr tc go v61 hh62 _) ct_blind (ct_pre (wc := [(aM, .inr (6, [.int th, .int mw, .ref bG, .int mz, .ref bL, .ref bY, .ref bB, .ref bC, .int tk, .int ss, .int ml, .int mh, .int mp, .int rw, .int wr, .int tc, .ref bT])), (bC, .inl (cI, 66, .inl go))]) hK hP hD hS hA hZ hN [0, 1] (by decide) rfl rfl) (va_recv hK hP (ci := 6) (q0 := 0) rfl rfl) rfl hl.1 rfl (Nat.le_of_ble_eq_true rfl) dX7_character_115 ⟨Nat.le_of_ble_eq_true rfl, Nat.le_of_ble_eq_true rfl⟩) hP hD hS hA [0, 1] [] rfl rfl (by decide) (by decide) (fun r63 u H locs hw63 hP1 hD1 hS1 => ?_)
              clear hw63
              clear hP hD hS
              have hP : va_P D classes [(aM, .inr (6, [.int th, .int mw, .ref bG, .int mz, .ref bL, .ref bY, .ref bB, .ref bC, .int tk, .int ss, .int ml, .int mh, .int mp, .int rw, .int wr, .int tc, .ref bT])), (bC, .inl (cI, 66, .inl go))] H := hP1
              have hD : va_D A [(aM, .inr (6, [.int th, .int mw, .ref bG, .int mz, .ref bL, .ref bY, .ref bB, .ref bC, .int tk, .int ss, .int ml, .int mh, .int mp, .int rw, .int wr, .int tc, .ref bT])), (bC, .inl (cI, 66, .inl go))] := hD1
              have hS := hS1
              clear hP1 hD1 hS1
              have rg_r63 := zi_rg r63
              refine lv_goto (tgt := 144) hx hb dX7_character_118 (by decide) ?_
              exact hret r63 () _ _ _ _ dX7_character_144 trivial (hP.sub [0, 1] rfl) (hD.sub [0, 1] (by decide) rfl) hS
        ·
          have z16 := zi_eq c16
          refine lv_iload_n hx hb dX7_character_73 rfl (lv_at hl 2 rfl) ?_
          refine lv_if_ne (tgt := 83) hx hb dX7_character_74 (by decide) (fun c65 => ?_) (fun c65 => ?_)
          ·
            have z65 := zi_ne0 c65
            refine lv_aload_n hx hb dX7_character_83 rfl (lv_at hl 1 rfl) ?_
            refine lv_iconst (v := 2) hx hb dX7_character_84 (by decide) ?_
            refine lv_topi (fun v66 e66 => ?_)
            have z66 : v66.toInt = 2 := zi_c e66 (by decide)
            refine lv_bipush (v := 8) hx hb dX7_character_85 (by decide) ?_
            refine lv_topi (fun v67 e67 => ?_)
            have z67 : v67.toInt = 8 := zi_c e67 (by decide)
            refine lv_iload_n hx hb dX7_character_87 rfl (lv_at hl 2 rfl) ?_
            refine lv_imul hx hb dX7_character_88 ?_
            refine lv_topi (fun v68 e68 => ?_)
            first | have z68 := zi_mulL (k := 8) e68 (by omega) (by omega) | skip
            refine lv_iadd hx hb dX7_character_89 ?_
            refine lv_topi (fun v69 e69 => ?_)
            first | have z69 := zi_add e69 (by omega) | skip
            refine lv_bipush (v := 8) hx hb dX7_character_90 (by decide) ?_
            refine lv_topi (fun v70 e70 => ?_)
            have z70 : v70.toInt = 8 := zi_c e70 (by decide)
            have hh71 : 0 ≤ v69.toInt ∧ 0 ≤ v70.toInt ∧ v69.toInt + v70.toInt ≤ 66 := (by omega)
            refine call_i (wc := [(aM, .inr (6, [.int th, .int mw, .ref bG, .int mz, .ref bL, .ref bY, .ref bB, .ref bC, .int tk, .int ss, .int ml, .int mh, .int mp, .int rw, .int wr, .int tc, .ref bT])), (bC, .inl (cI, 66, .inl go))]) (wr := []) (run_V (As := [.int v69, .int v70]) (rest := []) kv_RX7_82 ⟨by decide, by decide⟩ ⟨rfl, rfl⟩ ⟨hx, hb, hml, hown, hts⟩ (c_Mo_get l D cI cJ cB aM bG bL bY bB bC bT th mw mz tk ss ml mh mp rw wr tc go v69 v70 hh71 _) ct_blind (ct_pre (wc := [(aM, .inr (6, [.int th, .int mw, .ref bG, .int mz, .ref bL, .ref bY, .ref bB, .ref bC, .int tk, .int ss, .int ml, .int mh, .int mp, .int rw, .int wr, .int tc, .ref bT])), (bC, .inl (cI, 66, .inl go))]) hK hP hD hS hA hZ hN [0, 1] (by decide) rfl rfl) (va_recv hK hP (ci := 6) (q0 := 0) rfl rfl) rfl hl.1 rfl (Nat.le_of_ble_eq_true rfl) dX7_character_92 ⟨Nat.le_of_ble_eq_true rfl, Nat.le_of_ble_eq_true rfl⟩) hP hD hS hA [0, 1] [] rfl rfl (by decide) (by decide) (fun r72 u H locs hw72 hP1 hD1 hS1 => ?_)
            clear hw72
            clear hP hD hS
            have hP : va_P D classes [(aM, .inr (6, [.int th, .int mw, .ref bG, .int mz, .ref bL, .ref bY, .ref bB, .ref bC, .int tk, .int ss, .int ml, .int mh, .int mp, .int rw, .int wr, .int tc, .ref bT])), (bC, .inl (cI, 66, .inl go))] H := hP1
            have hD : va_D A [(aM, .inr (6, [.int th, .int mw, .ref bG, .int mz, .ref bL, .ref bY, .ref bB, .ref bC, .int tk, .int ss, .int ml, .int mh, .int mp, .int rw, .int wr, .int tc, .ref bT])), (bC, .inl (cI, 66, .inl go))] := hD1
            have hS := hS1
            clear hP1 hD1 hS1
            have rg_r72 := zi_rg r72
            exact hret r72 () _ _ _ _ dX7_character_95 trivial (hP.sub [0, 1] rfl) (hD.sub [0, 1] (by decide) rfl) hS
          ·
            have z65 := zi_eq0 c65
            refine lv_sipush (v := 257) hx hb dX7_character_77 (by decide) ?_
            refine lv_topi (fun v74 e74 => ?_)
            have z74 : v74.toInt = 257 := zi_c e74 (by decide)
            refine lv_goto (tgt := 95) hx hb dX7_character_80 (by decide) ?_
            exact hret v74 () _ _ _ _ dX7_character_95 trivial (hP.sub [0, 1] rfl) (hD.sub [0, 1] (by decide) rfl) hS
      ·
        have z14 := zi_eq c14
        refine lv_aload_n hx hb dX7_character_55 rfl (lv_at hl 1 rfl) ?_
        refine lv_bipush (v := 10) hx hb dX7_character_56 (by decide) ?_
        refine lv_topi (fun v76 e76 => ?_)
        have z76 : v76.toInt = 10 := zi_c e76 (by decide)
        refine lv_bipush (v := 7) hx hb dX7_character_58 (by decide) ?_
        refine lv_topi (fun v77 e77 => ?_)
        have z77 : v77.toInt = 7 := zi_c e77 (by decide)
        refine lv_iload_n hx hb dX7_character_60 rfl (lv_at hl 2 rfl) ?_
        refine lv_imul hx hb dX7_character_61 ?_
        refine lv_topi (fun v78 e78 => ?_)
        first | have z78 := zi_mulL (k := 7) e78 (by omega) (by omega) | skip
        refine lv_iadd hx hb dX7_character_62 ?_
        refine lv_topi (fun v79 e79 => ?_)
        first | have z79 := zi_add e79 (by omega) | skip
        have hh80 : 0 ≤ v79.toInt ∧ v79.toInt + 7 ≤ 66 := (by omega)
        refine call_i (wc := [(aM, .inr (6, [.int th, .int mw, .ref bG, .int mz, .ref bL, .ref bY, .ref bB, .ref bC, .int tk, .int ss, .int ml, .int mh, .int mp, .int rw, .int wr, .int tc, .ref bT])), (bC, .inl (cI, 66, .inl go))]) (wr := []) (run_V (As := [.int v79]) (rest := []) kv_RX7_85 ⟨by decide, by decide⟩ ⟨rfl, rfl⟩ ⟨hx, hb, hml, hown, hts⟩ (c_Mo_codeAt l D cI cJ cB aM bG bL bY bB bC bT th mw mz tk ss ml mh mp rw wr tc go v79 hh80 _) ct_blind (ct_pre (wc := [(aM, .inr (6, [.int th, .int mw, .ref bG, .int mz, .ref bL, .ref bY, .ref bB, .ref bC, .int tk, .int ss, .int ml, .int mh, .int mp, .int rw, .int wr, .int tc, .ref bT])), (bC, .inl (cI, 66, .inl go))]) hK hP hD hS hA hZ hN [0, 1] (by decide) rfl rfl) (va_recv hK hP (ci := 6) (q0 := 0) rfl rfl) rfl hl.1 rfl (Nat.le_of_ble_eq_true rfl) dX7_character_63 ⟨Nat.le_of_ble_eq_true rfl, Nat.le_of_ble_eq_true rfl⟩) hP hD hS hA [0, 1] [] rfl rfl (by decide) (by decide) (fun r81 u H locs hw81 hP1 hD1 hS1 => ?_)
        clear hw81
        clear hP hD hS
        have hP : va_P D classes [(aM, .inr (6, [.int th, .int mw, .ref bG, .int mz, .ref bL, .ref bY, .ref bB, .ref bC, .int tk, .int ss, .int ml, .int mh, .int mp, .int rw, .int wr, .int tc, .ref bT])), (bC, .inl (cI, 66, .inl go))] H := hP1
        have hD : va_D A [(aM, .inr (6, [.int th, .int mw, .ref bG, .int mz, .ref bL, .ref bY, .ref bB, .ref bC, .int tk, .int ss, .int ml, .int mh, .int mp, .int rw, .int wr, .int tc, .ref bT])), (bC, .inl (cI, 66, .inl go))] := hD1
        have hS := hS1
        clear hP1 hD1 hS1
        have rg_r81 := zi_rg r81
        exact hret r81 () _ _ _ _ dX7_character_66 trivial (hP.sub [0, 1] rfl) (hD.sub [0, 1] (by decide) rfl) hS
    ·
      have z8 := zi_eq0 c8
      refine lv_aload_n hx hb dX7_character_28 rfl (lv_at hl 0 rfl) ?_
      refine lv_iconst (v := 2) hx hb dX7_character_29 (by decide) ?_
      refine lv_topi (fun v83 e83 => ?_)
      have z83 : v83.toInt = 2 := zi_c e83 (by decide)
      refine lv_bipush (v := 8) hx hb dX7_character_30 (by decide) ?_
      refine lv_topi (fun v84 e84 => ?_)
      have z84 : v84.toInt = 8 := zi_c e84 (by decide)
      refine lv_iload_n hx hb dX7_character_32 rfl (lv_at hl 1 rfl) ?_
      refine lv_imul hx hb dX7_character_33 ?_
      refine lv_topi (fun v85 e85 => ?_)
      first | have z85 := zi_mulL (k := 8) e85 (by omega) (by omega) | skip
      refine lv_iadd hx hb dX7_character_34 ?_
      refine lv_topi (fun v86 e86 => ?_)
      first | have z86 := zi_add e86 (by omega) | skip
      refine lv_bipush (v := 8) hx hb dX7_character_35 (by decide) ?_
      refine lv_topi (fun v87 e87 => ?_)
      have z87 : v87.toInt = 8 := zi_c e87 (by decide)
      have hh88 : 0 ≤ v86.toInt ∧ 0 ≤ v87.toInt ∧ v86.toInt + v87.toInt ≤ 66 := (by omega)
      refine call_i (wc := [(aM, .inr (6, [.int th, .int mw, .ref bG, .int mz, .ref bL, .ref bY, .ref bB, .ref bC, .int tk, .int ss, .int ml, .int mh, .int mp, .int rw, .int wr, .int tc, .ref bT])), (bC, .inl (cI, 66, .inl go))]) (wr := []) (run_V (As := [.int v86, .int v87]) (rest := []) kv_RX7_82 ⟨by decide, by decide⟩ ⟨rfl, rfl⟩ ⟨hx, hb, hml, hown, hts⟩ (c_Mo_get l D cI cJ cB aM bG bL bY bB bC bT th mw mz tk ss ml mh mp rw wr tc go v86 v87 hh88 _) ct_blind (ct_pre (wc := [(aM, .inr (6, [.int th, .int mw, .ref bG, .int mz, .ref bL, .ref bY, .ref bB, .ref bC, .int tk, .int ss, .int ml, .int mh, .int mp, .int rw, .int wr, .int tc, .ref bT])), (bC, .inl (cI, 66, .inl go))]) hK hP hD hS hA hZ hN [0, 1] (by decide) rfl rfl) (va_recv hK hP (ci := 6) (q0 := 0) rfl rfl) rfl hl.1 rfl (Nat.le_of_ble_eq_true rfl) dX7_character_37 ⟨Nat.le_of_ble_eq_true rfl, Nat.le_of_ble_eq_true rfl⟩) hP hD hS hA [0, 1] [] rfl rfl (by decide) (by decide) (fun r89 u H locs hw89 hP1 hD1 hS1 => ?_)
      clear hw89
      clear hP hD hS
      have hP : va_P D classes [(aM, .inr (6, [.int th, .int mw, .ref bG, .int mz, .ref bL, .ref bY, .ref bB, .ref bC, .int tk, .int ss, .int ml, .int mh, .int mp, .int rw, .int wr, .int tc, .ref bT])), (bC, .inl (cI, 66, .inl go))] H := hP1
      have hD : va_D A [(aM, .inr (6, [.int th, .int mw, .ref bG, .int mz, .ref bL, .ref bY, .ref bB, .ref bC, .int tk, .int ss, .int ml, .int mh, .int mp, .int rw, .int wr, .int tc, .ref bT])), (bC, .inl (cI, 66, .inl go))] := hD1
      have hS := hS1
      clear hP1 hD1 hS1
      have rg_r89 := zi_rg r89
      exact hret r89 () _ _ _ _ dX7_character_40 trivial (hP.sub [0, 1] rfl) (hD.sub [0, 1] (by decide) rfl) hS
  ·
    have z5 := zi_eq c5
    refine lv_sipush (v := 259) hx hb dX7_character_15 (by decide) ?_
    refine lv_topi (fun v91 e91 => ?_)
    have z91 : v91.toInt = 259 := zi_c e91 (by decide)
    exact hret v91 () _ _ _ _ dX7_character_18 trivial (hP.sub [0, 1] rfl) (hD.sub [0, 1] (by decide) rfl) hS
