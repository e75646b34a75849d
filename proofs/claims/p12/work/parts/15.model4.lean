set_option maxHeartbeats 4000000 in
set_option maxRecDepth 100000 in
theorem c_Mo_receive (l : Launch) (D : va_G) (cI cJ cB : ClassId) (aM : Nat) (bG : Nat) (bL : Nat) (bY : Nat) (bB : Nat) (bC : Nat) (bT : Nat) (th : Int32) (mw : Int32) (mz : Int32) (tk : Int32) (ss : Int32) (ml : Int32) (mh : Int32) (mp : Int32) (rw : Int32) (wr : Int32) (tc : Int32) (gl : Nat → Int32) (gy : Nat → Int32) (go : Nat → Int32) (gt : Nat → Int32) (nn : Int32) (h1 : 0 ≤ mz.toInt ∧ mz.toInt ≤ 9066) (h2 : 0 ≤ tk.toInt ∧ tk.toInt ≤ 65) (h3 : 0 ≤ tc.toInt ∧ tc.toInt ≤ 900000000) (h4 : (0 ≤ ml.toInt ∧ ml.toInt ≤ 1) ∧ (0 ≤ mh.toInt ∧ mh.toInt ≤ 63) ∧ (0 ≤ wr.toInt ∧ wr.toInt ≤ 15) ∧ (0 ≤ ss.toInt ∧ ss.toInt ≤ 1) ∧ (0 ≤ rw.toInt ∧ rw.toInt ≤ 64) ∧ (0 ≤ mp.toInt ∧ mp.toInt ≤ 900000000)) (h5 : ∀ j : Nat, (j : Int) < mz.toInt → gl j = bi (bt (gl j) 0)) (h6 : rwK ml.toInt rw.toInt) :
    cti l yX7_receive (wsOf yX7_receive cX7_receive 5 (some .int)) (rmL 5 111 0 0) D classes (tys3 cI cJ cB) [.ref aM, .int nn] [(aM, .inr (6, [.int th, .int mw, .ref bG, .int mz, .ref bL, .ref bY, .ref bB, .ref bC, .int tk, .int ss, .int ml, .int mh, .int mp, .int rw, .int wr, .int tc, .ref bT])), (bL, .inl (cB, 9200, .inl gl)), (bY, .inl (cI, 116, .inl gy)), (bC, .inl (cI, 66, .inl go)), (bT, .inl (cI, 2400, .inl gt))] (fun (r : Int32) (u : Int32 × Int32 × Int32 × Int32 × Int32 × Int32 × Int32 × Int32 × Int32 × Int32 × (Nat → Int32) × (Nat → Int32) × (Nat → Int32) × (Nat → Int32)) => (((((0 ≤ u.2.2.2.2.1.toInt ∧ u.2.2.2.2.1.toInt ≤ 1) ∧ (0 ≤ u.2.2.2.2.2.1.toInt ∧ u.2.2.2.2.2.1.toInt ≤ 63) ∧ (0 ≤ u.2.2.2.2.2.2.2.2.1.toInt ∧ u.2.2.2.2.2.2.2.2.1.toInt ≤ 15) ∧ (0 ≤ u.2.2.2.1.toInt ∧ u.2.2.2.1.toInt ≤ 1) ∧ (0 ≤ u.2.2.2.2.2.2.2.1.toInt ∧ u.2.2.2.2.2.2.2.1.toInt ≤ 64)) ∧ (mp.toInt ≤ u.2.2.2.2.2.2.1.toInt ∧ u.2.2.2.2.2.2.1.toInt ≤ mp.toInt + 9066)) ∧ rwK u.2.2.2.2.1.toInt u.2.2.2.2.2.2.2.1.toInt) ∧ rcM nn.toInt mz.toInt (fun q : Nat => (gl q).toInt) ((go 0).toInt, (go 1).toInt, tk.toInt, ss.toInt, ml.toInt, mh.toInt, mp.toInt, rw.toInt, wr.toInt, tc.toInt) ((u.2.2.2.2.2.2.2.2.2.2.2.2.1 0).toInt, (u.2.2.2.2.2.2.2.2.2.2.2.2.1 1).toInt, u.2.2.1.toInt, u.2.2.2.1.toInt, u.2.2.2.2.1.toInt, u.2.2.2.2.2.1.toInt, u.2.2.2.2.2.2.1.toInt, u.2.2.2.2.2.2.2.1.toInt, u.2.2.2.2.2.2.2.2.1.toInt, u.2.2.2.2.2.2.2.2.2.1.toInt) r.toInt) ∧ (0 ≤ u.2.2.2.2.1.toInt ∧ u.2.2.2.2.1.toInt ≤ 1) ∧ (0 ≤ u.2.2.1.toInt ∧ u.2.2.1.toInt ≤ 65) ∧ (tc.toInt ≤ u.2.2.2.2.2.2.2.2.2.1.toInt ∧ u.2.2.2.2.2.2.2.2.2.1.toInt ≤ tc.toInt + 9066) ∧ (nn.toInt < 0 → r.toInt = -12 ∧ u.2.1.toInt = mz.toInt) ∧ (0 ≤ nn.toInt → (0 ≤ r.toInt ∧ r.toInt ≤ mz.toInt) ∧ (mz.toInt ≤ nn.toInt → u.2.1.toInt = 0) ∧ (nn.toInt < mz.toInt → u.2.1.toInt = mz.toInt - nn.toInt)) ∧ (∀ j : Nat, (j : Int) < u.2.1.toInt → u.2.2.2.2.2.2.2.2.2.2.1 j = gl (j + (mz.toInt - u.2.1.toInt).toNat)) ∧ ∀ j, j < 58 → u.2.2.2.2.2.2.2.2.2.2.2.1 j = gy j) (fun u : Int32 × Int32 × Int32 × Int32 × Int32 × Int32 × Int32 × Int32 × Int32 × Int32 × (Nat → Int32) × (Nat → Int32) × (Nat → Int32) × (Nat → Int32) => ([(aM, .inr (6, [.int u.1, .int mw, .ref bG, .int u.2.1, .ref bL, .ref bY, .ref bB, .ref bC, .int u.2.2.1, .int u.2.2.2.1, .int u.2.2.2.2.1, .int u.2.2.2.2.2.1, .int u.2.2.2.2.2.2.1, .int u.2.2.2.2.2.2.2.1, .int u.2.2.2.2.2.2.2.2.1, .int u.2.2.2.2.2.2.2.2.2.1, .ref bT])), (bL, .inl (cB, 9200, .inl u.2.2.2.2.2.2.2.2.2.2.1)), (bY, .inl (cI, 116, .inl u.2.2.2.2.2.2.2.2.2.2.2.1)), (bC, .inl (cI, 66, .inl u.2.2.2.2.2.2.2.2.2.2.2.2.1)), (bT, .inl (cI, 2400, .inl u.2.2.2.2.2.2.2.2.2.2.2.2.2))] : va_W)) := by
  refine cti.of (by first | exact plainFor_of_name (by decide) | decide +kernel) (Nat.le_of_ble_eq_true rfl) (fun p e s m args below meth c A ls Q h hret => ?_)
  obtain ⟨hx, hb, hml, hown, hts, hnm, hP, hK, hD, hA, hS, hZ, hN, hl⟩ := h
  have hown : s.vm.findClass RX7 = some m.cls := hown
  have hl : lv_has ls 5 [(0, .ref aM), (1, .int nn)] := hl
  have hP : va_P D classes [(aM, .inr (6, [.int th, .int mw, .ref bG, .int mz, .ref bL, .ref bY, .ref bB, .ref bC, .int tk, .int ss, .int ml, .int mh, .int mp, .int rw, .int wr, .int tc, .ref bT])), (bL, .inl (cB, 9200, .inl gl)), (bY, .inl (cI, 116, .inl gy)), (bC, .inl (cI, 66, .inl go)), (bT, .inl (cI, 2400, .inl gt))] s.heap := hP
  have hD : va_D A [(aM, .inr (6, [.int th, .int mw, .ref bG, .int mz, .ref bL, .ref bY, .ref bB, .ref bC, .int tk, .int ss, .int ml, .int mh, .int mp, .int rw, .int wr, .int tc, .ref bT])), (bL, .inl (cB, 9200, .inl gl)), (bY, .inl (cI, 116, .inl gy)), (bC, .inl (cI, 66, .inl go)), (bT, .inl (cI, 2400, .inl gt))] := hD
  have rg_th := zi_rg th
  have rg_mw := zi_rg mw
  have rg_mz := zi_rg mz
  have rg_tk := zi_rg tk
  have rg_ss := zi_rg ss
  have rg_ml := zi_rg ml
  have rg_mh := zi_rg mh
  have rg_mp := zi_rg mp
  have rg_rw := zi_rg rw
  have rg_wr := zi_rg wr
  have rg_tc := zi_rg tc
  have rg_nn := zi_rg nn
  refine lv_aload_n hx hb dX7_receive_0 rfl (lv_at hl 0 rfl) ?_
  refine lv_iconst (v := 0) hx hb dX7_receive_1 (by decide) ?_
  refine lv_topi (fun v1 e1 => ?_)
  have z1 : v1.toInt = 0 := zi_c e1 (by decide)
  refine va_put (D := D) (ci := 6) (v := .int v1) (ty := .int) (C := RX7) (T := TX7) (N := 17) hx hb hts in_X7 tyX7 tyX7_ok nmX7 hown hK hP hD hS 0 rfl rfl 0 (by decide) (hts _ wk163) (fun _ h9 => h9) rfl (by decide +kernel) rfl rfl (Nat.le_of_ble_eq_true rfl) dX7_receive_2 (fun H locs hP1 hD1 hS1 => ?_)
  clear hP hD hS
  have hP : va_P D classes [(aM, .inr (6, [.int v1, .int mw, .ref bG, .int mz, .ref bL, .ref bY, .ref bB, .ref bC, .int tk, .int ss, .int ml, .int mh, .int mp, .int rw, .int wr, .int tc, .ref bT])), (bL, .inl (cB, 9200, .inl gl)), (bY, .inl (cI, 116, .inl gy)), (bC, .inl (cI, 66, .inl go)), (bT, .inl (cI, 2400, .inl gt))] H := hP1
  have hD : va_D A [(aM, .inr (6, [.int v1, .int mw, .ref bG, .int mz, .ref bL, .ref bY, .ref bB, .ref bC, .int tk, .int ss, .int ml, .int mh, .int mp, .int rw, .int wr, .int tc, .ref bT])), (bL, .inl (cB, 9200, .inl gl)), (bY, .inl (cI, 116, .inl gy)), (bC, .inl (cI, 66, .inl go)), (bT, .inl (cI, 2400, .inl gt))] := hD1
  have hS := hS1
  clear hP1 hD1 hS1
  refine lv_iload_n hx hb dX7_receive_5 rfl (lv_at hl 1 rfl) ?_
  refine lv_if_ge (tgt := 12) hx hb dX7_receive_6 (by decide) (fun c2 => ?_) (fun c2 => ?_)
  ·
    have z2 := zi_ge0 c2
    refine lv_iload_n hx hb dX7_receive_12 rfl (lv_at hl 1 rfl) ?_
    refine lv_aload_n hx hb dX7_receive_13 rfl (lv_at hl 0 rfl) ?_
    refine va_get (D := D) (ci := 6) (v := .int mz) (C := RX7) (T := TX7) (N := 17) hx hb hts in_X7 hown hK hP 0 rfl rfl 3 (by decide) (hts _ wk67) (fun _ h9 => h9) rfl dX7_receive_14 ?_
    refine lv_icmp_ge (tgt := 24) hx hb dX7_receive_17 (by decide) (fun c3 => ?_) (fun c3 => ?_)
    ·
      have z3 := zi_le c3
      refine lv_aload_n hx hb dX7_receive_24 rfl (lv_at hl 0 rfl) ?_
      refine va_get (D := D) (ci := 6) (v := .int mz) (C := RX7) (T := TX7) (N := 17) hx hb hts in_X7 hown hK hP 0 rfl rfl 3 (by decide) (hts _ wk67) (fun _ h9 => h9) rfl dX7_receive_25 ?_
      refine lv_istore_n (lv' := [(2, .int mz), (0, .ref aM), (1, .int nn)]) hx hb dX7_receive_28 rfl hl (by decide) rfl (fun ls hl => ?_)
      refine lv_aload_n hx hb dX7_receive_29 rfl (lv_at hl 1 rfl) ?_
      refine va_get (D := D) (ci := 6) (v := .int tc) (C := RX7) (T := TX7) (N := 17) hx hb hts in_X7 hown hK hP 0 rfl rfl 15 (by decide) (hts _ wk375) (fun _ h9 => h9) rfl dX7_receive_30 ?_
      refine lv_istore_n (lv' := [(3, .int tc), (2, .int mz), (0, .ref aM), (1, .int nn)]) hx hb dX7_receive_33 rfl hl (by decide) rfl (fun ls hl => ?_)
      refine lv_iconst (v := 0) hx hb dX7_receive_34 (by decide) ?_
      refine lv_topi (fun v4 e4 => ?_)
      have z4 : v4.toInt = 0 := zi_c e4 (by decide)
      refine lv_istore (lv' := [(4, .int v4), (3, .int tc), (2, .int mz), (0, .ref aM), (1, .int nn)]) hx hb dX7_receive_35 hl (by decide) rfl (fun ls hl => ?_)
      have J37 : ∀ (n : Nat) (i : Int32) (tk3 : Int32) (ss3 : Int32) (ml3 : Int32) (mh3 : Int32) (mp3 : Int32) (rw3 : Int32) (wr3 : Int32) (tc3 : Int32) (gy3 : Nat → Int32) (go3 : Nat → Int32) (gt3 : Nat → Int32) (H : Heap) (locs : List Loc) (ls : Array Slot), ((mz.toInt - i.toInt).toNat) < n → (0 ≤ i.toInt ∧ i.toInt ≤ mz.toInt) → (0 ≤ tk3.toInt ∧ tk3.toInt ≤ 65) → (tc.toInt ≤ tc3.toInt ∧ tc3.toInt ≤ tc.toInt + i.toInt) → (((0 ≤ ml3.toInt ∧ ml3.toInt ≤ 1) ∧ (0 ≤ mh3.toInt ∧ mh3.toInt ≤ 63) ∧ (0 ≤ wr3.toInt ∧ wr3.toInt ≤ 15) ∧ (0 ≤ ss3.toInt ∧ ss3.toInt ≤ 1) ∧ (0 ≤ rw3.toInt ∧ rw3.toInt ≤ 64)) ∧ (mp.toInt ≤ mp3.toInt ∧ mp3.toInt ≤ mp.toInt + i.toInt)) → (∀ j, j < 58 → gy3 j = gy j) → (rwK ml3.toInt rw3.toInt) → (itM (fun q : Nat => (gl q).toInt) i.toInt.toNat ((go 0).toInt, (go 1).toInt, tk.toInt, ss.toInt, ml.toInt, mh.toInt, mp.toInt, rw.toInt, wr.toInt, tc.toInt) ((go3 0).toInt, (go3 1).toInt, tk3.toInt, ss3.toInt, ml3.toInt, mh3.toInt, mp3.toInt, rw3.toInt, wr3.toInt, tc3.toInt)) → va_P D classes [(aM, .inr (6, [.int v1, .int mw, .ref bG, .int mz, .ref bL, .ref bY, .ref bB, .ref bC, .int tk3, .int ss3, .int ml3, .int mh3, .int mp3, .int rw3, .int wr3, .int tc3, .ref bT])), (bL, .inl (cB, 9200, .inl gl)), (bY, .inl (cI, 116, .inl gy3)), (bC, .inl (cI, 66, .inl go3)), (bT, .inl (cI, 2400, .inl gt3))] H → va_D A [(aM, .inr (6, [.int v1, .int mw, .ref bG, .int mz, .ref bL, .ref bY, .ref bB, .ref bC, .int tk3, .int ss3, .int ml3, .int mh3, .int mp3, .int rw3, .int wr3, .int tc3, .ref bT])), (bL, .inl (cB, 9200, .inl gl)), (bY, .inl (cI, 116, .inl gy3)), (bC, .inl (cI, 66, .inl go3)), (bT, .inl (cI, 2400, .inl gt3))] → va_S A s.heap H locs → lv_has ls 5 [(3, .int tc), (2, .int mz), (0, .ref aM), (1, .int nn), (4, .int i)] → W p l e (rmL 5 111 0 0) s m args below meth c H locs 0 0 Q (F0 m 37 ls []) := by
        intro n
        induction n with
        | zero => intro i tk3 ss3 ml3 mh3 mp3 rw3 wr3 tc3 gy3 go3 gt3 H locs ls hmu; exact absurd hmu (Nat.not_lt_zero _)
        | succ n ih37 =>
          intro i tk3 ss3 ml3 mh3 mp3 rw3 wr3 tc3 gy3 go3 gt3 H locs ls hmu37 i37_0 i37_1 i37_2 i37_3 i37_4 i37_5 i37_6 hP hD hS hl
          have rg_i := zi_rg i
          have rg_tk3 := zi_rg tk3
          have rg_ss3 := zi_rg ss3
          have rg_ml3 := zi_rg ml3
          have rg_mh3 := zi_rg mh3
          have rg_mp3 := zi_rg mp3
          have rg_rw3 := zi_rg rw3
          have rg_wr3 := zi_rg wr3
          have rg_tc3 := zi_rg tc3
          refine lv_iload hx hb dX7_receive_37 (lv_at hl 4 rfl) ?_
          refine lv_iload_n hx hb dX7_receive_39 rfl (lv_at hl 1 rfl) ?_
          refine lv_icmp_ge (tgt := 103) hx hb dX7_receive_40 (by decide) (fun c5 => ?_) (fun c5 => ?_)
          ·
            have z5 := zi_le c5
            refine lv_aload_n hx hb dX7_receive_103 rfl (lv_at hl 2 rfl) ?_
            refine lv_aload_n hx hb dX7_receive_104 rfl (lv_at hl 2 rfl) ?_
            refine va_get (D := D) (ci := 6) (v := .int mz) (C := RX7) (T := TX7) (N := 17) hx hb hts in_X7 hown hK hP 0 rfl rfl 3 (by decide) (hts _ wk67) (fun _ h9 => h9) rfl dX7_receive_105 ?_
            refine lv_iload_n hx hb dX7_receive_108 rfl (lv_at hl 1 rfl) ?_
            refine lv_isub hx hb dX7_receive_109 ?_
            refine lv_topi (fun v6 e6 => ?_)
            first | have z6 := zi_sub e6 (by omega) | skip
            refine va_put (D := D) (ci := 6) (v := .int v6) (ty := .int) (C := RX7) (T := TX7) (N := 17) hx hb hts in_X7 tyX7 tyX7_ok nmX7 hown hK hP hD hS 0 rfl rfl 3 (by decide) (hts _ wk67) (fun _ h9 => h9) rfl (by decide +kernel) rfl rfl (Nat.le_of_ble_eq_true rfl) dX7_receive_110 (fun H locs hP1 hD1 hS1 => ?_)
            clear hP hD hS
            have hP : va_P D classes [(aM, .inr (6, [.int v1, .int mw, .ref bG, .int v6, .ref bL, .ref bY, .ref bB, .ref bC, .int tk3, .int ss3, .int ml3, .int mh3, .int mp3, .int rw3, .int wr3, .int tc3, .ref bT])), (bL, .inl (cB, 9200, .inl gl)), (bY, .inl (cI, 116, .inl gy3)), (bC, .inl (cI, 66, .inl go3)), (bT, .inl (cI, 2400, .inl gt3))] H := hP1
            have hD : va_D A [(aM, .inr (6, [.int v1, .int mw, .ref bG, .int v6, .ref bL, .ref bY, .ref bB, .ref bC, .int tk3, .int ss3, .int ml3, .int mh3, .int mp3, .int rw3, .int wr3, .int tc3, .ref bT])), (bL, .inl (cB, 9200, .inl gl)), (bY, .inl (cI, 116, .inl gy3)), (bC, .inl (cI, 66, .inl go3)), (bT, .inl (cI, 2400, .inl gt3))] := hD1
            have hS := hS1
            clear hP1 hD1 hS1
            refine lv_iconst (v := 0) hx hb dX7_receive_113 (by decide) ?_
            refine lv_topi (fun v7 e7 => ?_)
            have z7 : v7.toInt = 0 := zi_c e7 (by decide)
            refine lv_istore (lv' := [(4, .int v7), (3, .int tc), (2, .int mz), (0, .ref aM), (1, .int nn)]) hx hb dX7_receive_114 hl (by decide) rfl (fun ls hl => ?_)
            have J116 : ∀ (n : Nat) (i : Int32) (gl4 : Nat → Int32) (H : Heap) (locs : List Loc) (ls : Array Slot), ((v6.toInt - i.toInt).toNat) < n → (0 ≤ i.toInt ∧ i.toInt ≤ v6.toInt) → (∀ j : Nat, gl4 j = if (j : Int) < i.toInt then gl (j + mz.toInt.toNat) else gl j) → va_P D classes [(aM, .inr (6, [.int v1, .int mw, .ref bG, .int v6, .ref bL, .ref bY, .ref bB, .ref bC, .int tk3, .int ss3, .int ml3, .int mh3, .int mp3, .int rw3, .int wr3, .int tc3, .ref bT])), (bL, .inl (cB, 9200, .inl gl4)), (bY, .inl (cI, 116, .inl gy3)), (bC, .inl (cI, 66, .inl go3)), (bT, .inl (cI, 2400, .inl gt3))] H → va_D A [(aM, .inr (6, [.int v1, .int mw, .ref bG, .int v6, .ref bL, .ref bY, .ref bB, .ref bC, .int tk3, .int ss3, .int ml3, .int mh3, .int mp3, .int rw3, .int wr3, .int tc3, .ref bT])), (bL, .inl (cB, 9200, .inl gl4)), (bY, .inl (cI, 116, .inl gy3)), (bC, .inl (cI, 66, .inl go3)), (bT, .inl (cI, 2400, .inl gt3))] → va_S A s.heap H locs → lv_has ls 5 [(3, .int tc), (2, .int mz), (0, .ref aM), (1, .int nn), (4, .int i)] → W p l e (rmL 5 111 0 0) s m args below meth c H locs 0 0 Q (F0 m 116 ls []) := by
              intro n
              induction n with
              | zero => intro i gl4 H locs ls hmu; exact absurd hmu (Nat.not_lt_zero _)
              | succ n ih116 =>
                intro i gl4 H locs ls hmu116 i116_0 i116_1 hP hD hS hl
                have rg_i := zi_rg i
                refine lv_iload hx hb dX7_receive_116 (lv_at hl 4 rfl) ?_
                refine lv_aload_n hx hb dX7_receive_118 rfl (lv_at hl 2 rfl) ?_
                refine va_get (D := D) (ci := 6) (v := .int v6) (C := RX7) (T := TX7) (N := 17) hx hb hts in_X7 hown hK hP 0 rfl rfl 3 (by decide) (hts _ wk67) (fun _ h9 => h9) rfl dX7_receive_119 ?_
                refine lv_icmp_ge (tgt := 147) hx hb dX7_receive_122 (by decide) (fun c8 => ?_) (fun c8 => ?_)
                ·
                  have z8 := zi_le c8
                  refine lv_aload_n hx hb dX7_receive_147 rfl (lv_at hl 2 rfl) ?_
                  refine va_get (D := D) (ci := 6) (v := .int tc3) (C := RX7) (T := TX7) (N := 17) hx hb hts in_X7 hown hK hP 0 rfl rfl 15 (by decide) (hts _ wk375) (fun _ h9 => h9) rfl dX7_receive_148 ?_
                  refine lv_iload_n hx hb dX7_receive_151 rfl (lv_at hl 0 rfl) ?_
                  refine lv_isub hx hb dX7_receive_152 ?_
                  refine lv_topi (fun v9 e9 => ?_)
                  first | have z9 := zi_sub e9 (by omega) | skip
                  have hq10 : (((((0 ≤ ml3.toInt ∧ ml3.toInt ≤ 1) ∧ (0 ≤ mh3.toInt ∧ mh3.toInt ≤ 63) ∧ (0 ≤ wr3.toInt ∧ wr3.toInt ≤ 15) ∧ (0 ≤ ss3.toInt ∧ ss3.toInt ≤ 1) ∧ (0 ≤ rw3.toInt ∧ rw3.toInt ≤ 64)) ∧ (mp.toInt ≤ mp3.toInt ∧ mp3.toInt ≤ mp.toInt + 9066)) ∧ rwK ml3.toInt rw3.toInt) ∧ rcM nn.toInt mz.toInt (fun q : Nat => (gl q).toInt) ((go 0).toInt, (go 1).toInt, tk.toInt, ss.toInt, ml.toInt, mh.toInt, mp.toInt, rw.toInt, wr.toInt, tc.toInt) ((go3 0).toInt, (go3 1).toInt, tk3.toInt, ss3.toInt, ml3.toInt, mh3.toInt, mp3.toInt, rw3.toInt, wr3.toInt, tc3.toInt) v9.toInt) ∧ (0 ≤ ml3.toInt ∧ ml3.toInt ≤ 1) ∧ (0 ≤ tk3.toInt ∧ tk3.toInt ≤ 65) ∧ (tc.toInt ≤ tc3.toInt ∧ tc3.toInt ≤ tc.toInt + 9066) ∧ (nn.toInt < 0 → v9.toInt = -12 ∧ v6.toInt = mz.toInt) ∧ (0 ≤ nn.toInt → (0 ≤ v9.toInt ∧ v9.toInt ≤ mz.toInt) ∧ (mz.toInt ≤ nn.toInt → v6.toInt = 0) ∧ (nn.toInt < mz.toInt → v6.toInt = mz.toInt - nn.toInt)) ∧ (∀ j : Nat, (j : Int) < v6.toInt → gl4 j = gl (j + (mz.toInt - v6.toInt).toNat)) ∧ ∀ j, j < 58 → gy3 j = gy j := (by first | exact ⟨⟨⟨by omega, i37_5⟩, rcM_i i37_6 (by omega) (by omega) (show v9.toInt = tc3.toInt - tc.toInt by omega)⟩, by omega, by omega, by omega, by omega, by omega, fun j hj => by rw [i116_1 j, if_pos (by omega)]; exact congrArg gl (by omega), i37_4⟩ | exact ⟨⟨⟨by omega, i37_5⟩, rcM_i i37_6 (by omega) (by omega) (show v35.toInt = tc3.toInt - tc.toInt by omega)⟩, by omega, by omega, by omega, by omega, by omega, fun j hj => by rw [i116_1 j, if_pos (by omega)]; exact congrArg gl (by omega), i37_4⟩ | exact ⟨⟨⟨by omega, h6⟩, rcM_n (by omega) (by omega) (by omega)⟩, by omega, by omega, by omega, by omega, by omega, fun j hj => by rw [show (mz.toInt - mz.toInt).toNat = 0 by omega]; rfl, fun _ _ => rfl⟩)
                  exact hret v9 (v1, v6, tk3, ss3, ml3, mh3, mp3, rw3, wr3, tc3, gl4, gy3, go3, gt3) _ _ _ _ dX7_receive_153 hq10 (hP.sub [0, 1, 2, 3, 4] rfl) (hD.sub [0, 1, 2, 3, 4] (by decide) rfl) hS
                ·
                  have z8 := zi_nle c8
                  refine lv_aload_n hx hb dX7_receive_125 rfl (lv_at hl 2 rfl) ?_
                  refine va_get (D := D) (ci := 6) (v := .ref bL) (C := RX7) (T := TX7) (N := 17) hx hb hts in_X7 hown hK hP 0 rfl rfl 4 (by decide) (hts _ wk62) (fun _ h9 => h9) rfl dX7_receive_126 ?_
                  refine lv_iload hx hb dX7_receive_129 (lv_at hl 4 rfl) ?_
                  refine lv_aload_n hx hb dX7_receive_131 rfl (lv_at hl 2 rfl) ?_
                  refine va_get (D := D) (ci := 6) (v := .ref bL) (C := RX7) (T := TX7) (N := 17) hx hb hts in_X7 hown hK hP 0 rfl rfl 4 (by decide) (hts _ wk62) (fun _ h9 => h9) rfl dX7_receive_132 ?_
                  refine lv_iload hx hb dX7_receive_135 (lv_at hl 4 rfl) ?_
                  refine lv_iload_n hx hb dX7_receive_137 rfl (lv_at hl 1 rfl) ?_
                  refine lv_iadd hx hb dX7_receive_138 ?_
                  refine lv_topi (fun v11 e11 => ?_)
                  first | have z11 := zi_add e11 (by omega) | skip
                  refine va_bald hx hb hK hP 1 2 rfl rfl (zi_in (by omega)) dX7_receive_139 ?_
                  refine lv_topi (fun v12 e12 => ?_)
                  obtain ⟨f13, ef13⟩ : ∃ z9, z9 = upd gl4 i.toNatClampNeg (vp_nar .byte v12) := ⟨_, rfl⟩
                  refine va_bast hx hb hK hP hD hS 1 2 rfl rfl (zi_in (by omega)) dX7_receive_140 (fun H locs hP1 hD1 hS1 => ?_)
                  rw [← ef13] at hP1 hD1
                  clear hP hD hS
                  have hP : va_P D classes [(aM, .inr (6, [.int v1, .int mw, .ref bG, .int v6, .ref bL, .ref bY, .ref bB, .ref bC, .int tk3, .int ss3, .int ml3, .int mh3, .int mp3, .int rw3, .int wr3, .int tc3, .ref bT])), (bL, .inl (cB, 9200, .inl f13)), (bY, .inl (cI, 116, .inl gy3)), (bC, .inl (cI, 66, .inl go3)), (bT, .inl (cI, 2400, .inl gt3))] H := hP1
                  have hD : va_D A [(aM, .inr (6, [.int v1, .int mw, .ref bG, .int v6, .ref bL, .ref bY, .ref bB, .ref bC, .int tk3, .int ss3, .int ml3, .int mh3, .int mp3, .int rw3, .int wr3, .int tc3, .ref bT])), (bL, .inl (cB, 9200, .inl f13)), (bY, .inl (cI, 116, .inl gy3)), (bC, .inl (cI, 66, .inl go3)), (bT, .inl (cI, 2400, .inl gt3))] := hD1
                  have hS := hS1
                  clear hP1 hD1 hS1
                  obtain ⟨v14, e14⟩ : ∃ y : Int32, y = i + 1 := ⟨_, rfl⟩
                  first | have z14 := zi_inc (z := 1) 1 (by decide) e14 (by omega) | skip
                  refine lv_iinc (v := v14) (lv' := [(4, .int v14), (3, .int tc), (2, .int mz), (0, .ref aM), (1, .int nn)]) hx hb dX7_receive_141 hl (k := 4) rfl (by rw [e14]; rfl) (by decide) rfl (fun ls hl => ?_)
                  refine lv_goto (tgt := 116) hx hb dX7_receive_144 (by decide) ?_
                  exact ih116 v14 f13 _ _ _ (by omega) (by omega) (by first | exact cp_bit i116_1 (h5 _ (by omega)) (by omega) (by omega) e12 ef13 (by omega) | exact cp_bit i116_1 (h5 _ (by omega)) (by omega) (by omega) e38 ef39 (by omega)) (hP.sub [0, 1, 2, 3, 4] rfl) (hD.sub [0, 1, 2, 3, 4] (by decide) rfl) hS (lv_sub hl [1, 2, 3, 4, 0] rfl)
            exact J116 _ v7 gl _ _ _ (Nat.lt_succ_self _) (by omega) (fun j => by rw [if_neg (by omega)]) (hP.sub [0, 1, 2, 3, 4] rfl) (hD.sub [0, 1, 2, 3, 4] (by decide) rfl) hS (lv_sub hl [1, 2, 3, 4, 0] rfl)
          ·
            have z5 := zi_nle c5
            refine lv_aload_n hx hb dX7_receive_43 rfl (lv_at hl 2 rfl) ?_
            refine va_get (D := D) (ci := 6) (v := .int ss3) (C := RX7) (T := TX7) (N := 17) hx hb hts in_X7 hown hK hP 0 rfl rfl 9 (by decide) (hts _ wk376) (fun _ h9 => h9) rfl dX7_receive_44 ?_
            refine lv_if_eq (tgt := 58) hx hb dX7_receive_47 (by decide) (fun c15 => ?_) (fun c15 => ?_)
            ·
              have z15 := zi_eq0 c15
              refine lv_aload_n hx hb dX7_receive_58 rfl (lv_at hl 2 rfl) ?_
              refine va_get (D := D) (ci := 6) (v := .ref bC) (C := RX7) (T := TX7) (N := 17) hx hb hts in_X7 hown hK hP 0 rfl rfl 7 (by decide) (hts _ wk65) (fun _ h9 => h9) rfl dX7_receive_59 ?_
              refine lv_aload_n hx hb dX7_receive_62 rfl (lv_at hl 2 rfl) ?_
              refine va_get (D := D) (ci := 6) (v := .int tk3) (C := RX7) (T := TX7) (N := 17) hx hb hts in_X7 hown hK hP 0 rfl rfl 8 (by decide) (hts _ wk377) (fun _ h9 => h9) rfl dX7_receive_63 ?_
              refine lv_aload_n hx hb dX7_receive_66 rfl (lv_at hl 2 rfl) ?_
              refine va_get (D := D) (ci := 6) (v := .ref bL) (C := RX7) (T := TX7) (N := 17) hx hb hts in_X7 hown hK hP 0 rfl rfl 4 (by decide) (hts _ wk62) (fun _ h9 => h9) rfl dX7_receive_67 ?_
              refine lv_iload hx hb dX7_receive_70 (lv_at hl 4 rfl) ?_
              refine va_bald hx hb hK hP 1 2 rfl rfl (zi_in (by omega)) dX7_receive_72 ?_
              refine lv_topi (fun v16 e16 => ?_)
              obtain ⟨f17, ef17⟩ : ∃ z9, z9 = upd go3 tk3.toNatClampNeg v16 := ⟨_, rfl⟩
              refine va_iast hx hb hK hP hD hS 3 0 rfl rfl (zi_in (by omega)) dX7_receive_73 (fun H locs hP1 hD1 hS1 => ?_)
              rw [← ef17] at hP1 hD1
              clear hP hD hS
              have hP : va_P D classes [(aM, .inr (6, [.int v1, .int mw, .ref bG, .int mz, .ref bL, .ref bY, .ref bB, .ref bC, .int tk3, .int ss3, .int ml3, .int mh3, .int mp3, .int rw3, .int wr3, .int tc3, .ref bT])), (bL, .inl (cB, 9200, .inl gl)), (bY, .inl (cI, 116, .inl gy3)), (bC, .inl (cI, 66, .inl f17)), (bT, .inl (cI, 2400, .inl gt3))] H := hP1
              have hD : va_D A [(aM, .inr (6, [.int v1, .int mw, .ref bG, .int mz, .ref bL, .ref bY, .ref bB, .ref bC, .int tk3, .int ss3, .int ml3, .int mh3, .int mp3, .int rw3, .int wr3, .int tc3, .ref bT])), (bL, .inl (cB, 9200, .inl gl)), (bY, .inl (cI, 116, .inl gy3)), (bC, .inl (cI, 66, .inl f17)), (bT, .inl (cI, 2400, .inl gt3))] := hD1
              have hS := hS1
              clear hP1 hD1 hS1
              refine lv_aload_n hx hb dX7_receive_74 rfl (lv_at hl 2 rfl) ?_
              refine lv_dup hx hb dX7_receive_75 rfl ?_
              refine va_get (D := D) (ci := 6) (v := .int tk3) (C := RX7) (T := TX7) (N := 17) hx hb hts in_X7 hown hK hP 0 rfl rfl 8 (by decide) (hts _ wk377) (fun _ h9 => h9) rfl dX7_receive_76 ?_
              refine lv_iconst (v := 1) hx hb dX7_receive_79 (by decide) ?_
              refine lv_topi (fun v18 e18 => ?_)
              have z18 : v18.toInt = 1 := zi_c e18 (by decide)
              refine lv_iadd hx hb dX7_receive_80 ?_
              refine lv_topi (fun v19 e19 => ?_)
              first | have z19 := zi_add e19 (by omega) | skip
              refine va_put (D := D) (ci := 6) (v := .int v19) (ty := .int) (C := RX7) (T := TX7) (N := 17) hx hb hts in_X7 tyX7 tyX7_ok nmX7 hown hK hP hD hS 0 rfl rfl 8 (by decide) (hts _ wk377) (fun _ h9 => h9) rfl (by decide +kernel) rfl rfl (Nat.le_of_ble_eq_true rfl) dX7_receive_81 (fun H locs hP1 hD1 hS1 => ?_)
              clear hP hD hS
              have hP : va_P D classes [(aM, .inr (6, [.int v1, .int mw, .ref bG, .int mz, .ref bL, .ref bY, .ref bB, .ref bC, .int v19, .int ss3, .int ml3, .int mh3, .int mp3, .int rw3, .int wr3, .int tc3, .ref bT])), (bL, .inl (cB, 9200, .inl gl)), (bY, .inl (cI, 116, .inl gy3)), (bC, .inl (cI, 66, .inl f17)), (bT, .inl (cI, 2400, .inl gt3))] H := hP1
              have hD : va_D A [(aM, .inr (6, [.int v1, .int mw, .ref bG, .int mz, .ref bL, .ref bY, .ref bB, .ref bC, .int v19, .int ss3, .int ml3, .int mh3, .int mp3, .int rw3, .int wr3, .int tc3, .ref bT])), (bL, .inl (cB, 9200, .inl gl)), (bY, .inl (cI, 116, .inl gy3)), (bC, .inl (cI, 66, .inl f17)), (bT, .inl (cI, 2400, .inl gt3))] := hD1
              have hS := hS1
              clear hP1 hD1 hS1
              refine lv_aload_n hx hb dX7_receive_84 rfl (lv_at hl 2 rfl) ?_
              refine va_get (D := D) (ci := 6) (v := .int v19) (C := RX7) (T := TX7) (N := 17) hx hb hts in_X7 hown hK hP 0 rfl rfl 8 (by decide) (hts _ wk377) (fun _ h9 => h9) rfl dX7_receive_85 ?_
              refine lv_bipush (v := 66) hx hb dX7_receive_88 (by decide) ?_
              refine lv_topi (fun v20 e20 => ?_)
              have z20 : v20.toInt = 66 := zi_c e20 (by decide)
              refine lv_icmp_ne (tgt := 97) hx hb dX7_receive_90 (by decide) (fun c21 => ?_) (fun c21 => ?_)
              ·
                have z21 := zi_ne c21
                obtain ⟨v22, e22⟩ : ∃ y : Int32, y = i + 1 := ⟨_, rfl⟩
                first | have z22 := zi_inc (z := 1) 1 (by decide) e22 (by omega) | skip
                refine lv_iinc (v := v22) (lv' := [(4, .int v22), (3, .int tc), (2, .int mz), (0, .ref aM), (1, .int nn)]) hx hb dX7_receive_97 hl (k := 4) rfl (by rw [e22]; rfl) (by decide) rfl (fun ls hl => ?_)
                refine lv_goto (tgt := 37) hx hb dX7_receive_100 (by decide) ?_
                exact ih37 v22 v19 ss3 ml3 mh3 mp3 rw3 wr3 tc3 gy3 f17 gt3 _ _ _ (by omega) (by omega) (by omega) (by omega) (by omega) (by first | exact i37_4 | exact fun j hj => (hw26.2.2.2.2.2 j hj).trans (i37_4 j hj) | exact fun j hj => (hw52.2.2.2.2.2 j hj).trans (i37_4 j hj)) (by first | exact i37_5 | exact hw26.1.1.2 | exact hw52.1.1.2) (by first | exact itM_s (b := v16.toInt) i37_6 (by rw [e16]; rfl) (show v22.toInt.toNat = i.toInt.toNat + 1 by omega) (mk_up ef17 (show ((tk3.toNatClampNeg : Nat) : Int) = tk3.toInt by show ((tk3.toInt.toNat : Nat) : Int) = tk3.toInt; omega) (by omega) (by omega) (show v19.toInt = tk3.toInt + 1 by omega)) | exact itM_s (b := v16.toInt) i37_6 (by rw [e16]; rfl) (show v27.toInt.toNat = i.toInt.toNat + 1 by omega) (mk_end ef17 (show ((tk3.toNatClampNeg : Nat) : Int) = tk3.toInt by show ((tk3.toInt.toNat : Nat) : Int) = tk3.toInt; omega) (by omega) (by omega) hw26.2.2.1 hw26.1.2) | exact itM_s (b := (gl i.toInt.toNat).toInt) i37_6 rfl (show v29.toInt.toNat = i.toInt.toNat + 1 by omega) (mk_drop (by omega) z28) | exact itM_s (b := v42.toInt) i37_6 (by rw [e42]; rfl) (show v48.toInt.toNat = i.toInt.toNat + 1 by omega) (mk_up ef43 (show ((tk3.toNatClampNeg : Nat) : Int) = tk3.toInt by show ((tk3.toInt.toNat : Nat) : Int) = tk3.toInt; omega) (by omega) (by omega) (show v45.toInt = tk3.toInt + 1 by omega)) | exact itM_s (b := v42.toInt) i37_6 (by rw [e42]; rfl) (show v53.toInt.toNat = i.toInt.toNat + 1 by omega) (mk_end ef43 (show ((tk3.toNatClampNeg : Nat) : Int) = tk3.toInt by show ((tk3.toInt.toNat : Nat) : Int) = tk3.toInt; omega) (by omega) (by omega) hw52.2.2.1 hw52.1.2) | exact itM_s (b := (gl i.toInt.toNat).toInt) i37_6 rfl (show v55.toInt.toNat = i.toInt.toNat + 1 by omega) (mk_drop (by omega) z54)) (hP.sub [0, 1, 2, 3, 4] rfl) (hD.sub [0, 1, 2, 3, 4] (by decide) rfl) hS (lv_sub hl [1, 2, 3, 4, 0] rfl)
              ·
                have z21 := zi_eq c21
                refine lv_aload_n hx hb dX7_receive_93 rfl (lv_at hl 2 rfl) ?_
                have hh23 : 0 ≤ tc3.toInt ∧ tc3.toInt ≤ 1000000000 := (by omega)
                have hh24 : (0 ≤ ml3.toInt ∧ ml3.toInt ≤ 1) ∧ (0 ≤ mh3.toInt ∧ mh3.toInt ≤ 63) ∧ (0 ≤ wr3.toInt ∧ wr3.toInt ≤ 15) ∧ (0 ≤ ss3.toInt ∧ ss3.toInt ≤ 1) ∧ (0 ≤ rw3.toInt ∧ rw3.toInt ≤ 64) ∧ (0 ≤ mp3.toInt ∧ mp3.toInt ≤ 1000000000) := (by omega)
                have hh25 : rwK ml3.toInt rw3.toInt := i37_5
                refine call_v (wc := [(aM, .inr (6, [.int v1, .int mw, .ref bG, .int mz, .ref bL, .ref bY, .ref bB, .ref bC, .int v19, .int ss3, .int ml3, .int mh3, .int mp3, .int rw3, .int wr3, .int tc3, .ref bT])), (bY, .inl (cI, 116, .inl gy3)), (bC, .inl (cI, 66, .inl f17)), (bT, .inl (cI, 2400, .inl gt3))]) (wr := [(bL, .inl (cB, 9200, .inl gl))]) (run_V (As := []) (rest := []) kv_RX7_125 ⟨by decide, by decide⟩ ⟨rfl, rfl⟩ ⟨hx, hb, hml, hown, hts⟩ (c_Mo_whole l D cI cJ cB aM bG bL bY bB bC bT v1 mw mz v19 ss3 ml3 mh3 mp3 rw3 wr3 tc3 gy3 f17 gt3 hh23 hh24 hh25 _) ct_blind (ct_pre (wc := [(aM, .inr (6, [.int v1, .int mw, .ref bG, .int mz, .ref bL, .ref bY, .ref bB, .ref bC, .int v19, .int ss3, .int ml3, .int mh3, .int mp3, .int rw3, .int wr3, .int tc3, .ref bT])), (bY, .inl (cI, 116, .inl gy3)), (bC, .inl (cI, 66, .inl f17)), (bT, .inl (cI, 2400, .inl gt3))]) hK hP hD hS hA hZ hN [0, 2, 3, 4] (by decide) rfl rfl) (va_recv hK hP (ci := 6) (q0 := 0) rfl rfl) rfl hl.1 rfl (Nat.le_of_ble_eq_true rfl) dX7_receive_94 ⟨Nat.le_of_ble_eq_true rfl, Nat.le_of_ble_eq_true rfl⟩) hP hD hS hA [0, 2, 3, 4] [1] rfl rfl (by decide) (by decide) (fun u H locs hw26 hP1 hD1 hS1 => ?_)
                obtain ⟨tk2_26, ss2_26, ml2_26, mh2_26, mp2_26, rw2_26, wr2_26, tc2_26, gy2_26, go2_26, gt2_26⟩ := u
                have hw26 : (((((0 ≤ ml2_26.toInt ∧ ml2_26.toInt ≤ 1) ∧ (0 ≤ mh2_26.toInt ∧ mh2_26.toInt ≤ 63) ∧ (0 ≤ wr2_26.toInt ∧ wr2_26.toInt ≤ 15) ∧ (0 ≤ ss2_26.toInt ∧ ss2_26.toInt ≤ 1) ∧ (0 ≤ rw2_26.toInt ∧ rw2_26.toInt ≤ 64)) ∧ (mp3.toInt ≤ mp2_26.toInt ∧ mp2_26.toInt ≤ mp3.toInt + 1)) ∧ rwK ml2_26.toInt rw2_26.toInt) ∧ whR (fitM (f17 0).toInt (f17 1).toInt) ss3.toInt ml3.toInt mh3.toInt mp3.toInt rw3.toInt wr3.toInt tc3.toInt ss2_26.toInt ml2_26.toInt mh2_26.toInt mp2_26.toInt rw2_26.toInt wr2_26.toInt tc2_26.toInt) ∧ (0 ≤ ml2_26.toInt ∧ ml2_26.toInt ≤ 1) ∧ tk2_26.toInt = 0 ∧ tc3.toInt ≤ tc2_26.toInt ∧ tc2_26.toInt ≤ tc3.toInt + 1 ∧ ∀ j, j < 58 → gy2_26 j = gy3 j := hw26
                clear hP hD hS
                have hP : va_P D classes [(bL, .inl (cB, 9200, .inl gl)), (aM, .inr (6, [.int v1, .int mw, .ref bG, .int mz, .ref bL, .ref bY, .ref bB, .ref bC, .int tk2_26, .int ss2_26, .int ml2_26, .int mh2_26, .int mp2_26, .int rw2_26, .int wr2_26, .int tc2_26, .ref bT])), (bY, .inl (cI, 116, .inl gy2_26)), (bC, .inl (cI, 66, .inl go2_26)), (bT, .inl (cI, 2400, .inl gt2_26))] H := hP1
                have hD : va_D A [(bL, .inl (cB, 9200, .inl gl)), (aM, .inr (6, [.int v1, .int mw, .ref bG, .int mz, .ref bL, .ref bY, .ref bB, .ref bC, .int tk2_26, .int ss2_26, .int ml2_26, .int mh2_26, .int mp2_26, .int rw2_26, .int wr2_26, .int tc2_26, .ref bT])), (bY, .inl (cI, 116, .inl gy2_26)), (bC, .inl (cI, 66, .inl go2_26)), (bT, .inl (cI, 2400, .inl gt2_26))] := hD1
                have hS := hS1
                clear hP1 hD1 hS1
                have rg_tk2_26 := zi_rg tk2_26
                have rg_ss2_26 := zi_rg ss2_26
                have rg_ml2_26 := zi_rg ml2_26
                have rg_mh2_26 := zi_rg mh2_26
                have rg_mp2_26 := zi_rg mp2_26
                have rg_rw2_26 := zi_rg rw2_26
                have rg_wr2_26 := zi_rg wr2_26
                have rg_tc2_26 := zi_rg tc2_26
                obtain ⟨v27, e27⟩ : ∃ y : Int32, y = i + 1 := ⟨_, rfl⟩
                first | have z27 := zi_inc (z := 1) 1 (by decide) e27 (by omega) | skip
                refine lv_iinc (v := v27) (lv' := [(4, .int v27), (3, .int tc), (2, .int mz), (0, .ref aM), (1, .int nn)]) hx hb dX7_receive_97 hl (k := 4) rfl (by rw [e27]; rfl) (by decide) rfl (fun ls hl => ?_)
                refine lv_goto (tgt := 37) hx hb dX7_receive_100 (by decide) ?_
                exact ih37 v27 tk2_26 ss2_26 ml2_26 mh2_26 mp2_26 rw2_26 wr2_26 tc2_26 gy2_26 go2_26 gt2_26 _ _ _ (by omega) (by omega) (by omega) (by omega) (by omega) (by first | exact i37_4 | exact fun j hj => (hw26.2.2.2.2.2 j hj).trans (i37_4 j hj) | exact fun j hj => (hw52.2.2.2.2.2 j hj).trans (i37_4 j hj)) (by first | exact i37_5 | exact hw26.1.1.2 | exact hw52.1.1.2) (by first | exact itM_s (b := v16.toInt) i37_6 (by rw [e16]; rfl) (show v22.toInt.toNat = i.toInt.toNat + 1 by omega) (mk_up ef17 (show ((tk3.toNatClampNeg : Nat) : Int) = tk3.toInt by show ((tk3.toInt.toNat : Nat) : Int) = tk3.toInt; omega) (by omega) (by omega) (show v19.toInt = tk3.toInt + 1 by omega)) | exact itM_s (b := v16.toInt) i37_6 (by rw [e16]; rfl) (show v27.toInt.toNat = i.toInt.toNat + 1 by omega) (mk_end ef17 (show ((tk3.toNatClampNeg : Nat) : Int) = tk3.toInt by show ((tk3.toInt.toNat : Nat) : Int) = tk3.toInt; omega) (by omega) (by omega) hw26.2.2.1 hw26.1.2) | exact itM_s (b := (gl i.toInt.toNat).toInt) i37_6 rfl (show v29.toInt.toNat = i.toInt.toNat + 1 by omega) (mk_drop (by omega) z28) | exact itM_s (b := v42.toInt) i37_6 (by rw [e42]; rfl) (show v48.toInt.toNat = i.toInt.toNat + 1 by omega) (mk_up ef43 (show ((tk3.toNatClampNeg : Nat) : Int) = tk3.toInt by show ((tk3.toInt.toNat : Nat) : Int) = tk3.toInt; omega) (by omega) (by omega) (show v45.toInt = tk3.toInt + 1 by omega)) | exact itM_s (b := v42.toInt) i37_6 (by rw [e42]; rfl) (show v53.toInt.toNat = i.toInt.toNat + 1 by omega) (mk_end ef43 (show ((tk3.toNatClampNeg : Nat) : Int) = tk3.toInt by show ((tk3.toInt.toNat : Nat) : Int) = tk3.toInt; omega) (by omega) (by omega) hw52.2.2.1 hw52.1.2) | exact itM_s (b := (gl i.toInt.toNat).toInt) i37_6 rfl (show v55.toInt.toNat = i.toInt.toNat + 1 by omega) (mk_drop (by omega) z54)) (hP.sub [1, 0, 2, 3, 4] rfl) (hD.sub [1, 0, 2, 3, 4] (by decide) rfl) hS (lv_sub hl [1, 2, 3, 4, 0] rfl)
            ·
              have z15 := zi_ne0 c15
              refine lv_aload_n hx hb dX7_receive_50 rfl (lv_at hl 2 rfl) ?_
              refine lv_iconst (v := 0) hx hb dX7_receive_51 (by decide) ?_
              refine lv_topi (fun v28 e28 => ?_)
              have z28 : v28.toInt = 0 := zi_c e28 (by decide)
              refine va_put (D := D) (ci := 6) (v := .int v28) (ty := .boolean) (C := RX7) (T := TX7) (N := 17) hx hb hts in_X7 tyX7 tyX7_ok nmX7 hown hK hP hD hS 0 rfl rfl 9 (by decide) (hts _ wk376) (fun _ h9 => h9) rfl (by decide +kernel) (zb_n (by omega)) (zb_f (by omega)) (Nat.le_of_ble_eq_true rfl) dX7_receive_52 (fun H locs hP1 hD1 hS1 => ?_)
              clear hP hD hS
              have hP : va_P D classes [(aM, .inr (6, [.int v1, .int mw, .ref bG, .int mz, .ref bL, .ref bY, .ref bB, .ref bC, .int tk3, .int v28, .int ml3, .int mh3, .int mp3, .int rw3, .int wr3, .int tc3, .ref bT])), (bL, .inl (cB, 9200, .inl gl)), (bY, .inl (cI, 116, .inl gy3)), (bC, .inl (cI, 66, .inl go3)), (bT, .inl (cI, 2400, .inl gt3))] H := hP1
              have hD : va_D A [(aM, .inr (6, [.int v1, .int mw, .ref bG, .int mz, .ref bL, .ref bY, .ref bB, .ref bC, .int tk3, .int v28, .int ml3, .int mh3, .int mp3, .int rw3, .int wr3, .int tc3, .ref bT])), (bL, .inl (cB, 9200, .inl gl)), (bY, .inl (cI, 116, .inl gy3)), (bC, .inl (cI, 66, .inl go3)), (bT, .inl (cI, 2400, .inl gt3))] := hD1
              have hS := hS1
              clear hP1 hD1 hS1
              refine lv_goto (tgt := 97) hx hb dX7_receive_55 (by decide) ?_
              obtain ⟨v29, e29⟩ : ∃ y : Int32, y = i + 1 := ⟨_, rfl⟩
              first | have z29 := zi_inc (z := 1) 1 (by decide) e29 (by omega) | skip
              refine lv_iinc (v := v29) (lv' := [(4, .int v29), (3, .int tc), (2, .int mz), (0, .ref aM), (1, .int nn)]) hx hb dX7_receive_97 hl (k := 4) rfl (by rw [e29]; rfl) (by decide) rfl (fun ls hl => ?_)
              refine lv_goto (tgt := 37) hx hb dX7_receive_100 (by decide) ?_
              exact ih37 v29 tk3 v28 ml3 mh3 mp3 rw3 wr3 tc3 gy3 go3 gt3 _ _ _ (by omega) (by omega) (by omega) (by omega) (by omega) (by first | exact i37_4 | exact fun j hj => (hw26.2.2.2.2.2 j hj).trans (i37_4 j hj) | exact fun j hj => (hw52.2.2.2.2.2 j hj).trans (i37_4 j hj)) (by first | exact i37_5 | exact hw26.1.1.2 | exact hw52.1.1.2) (by first | exact itM_s (b := v16.toInt) i37_6 (by rw [e16]; rfl) (show v22.toInt.toNat = i.toInt.toNat + 1 by omega) (mk_up ef17 (show ((tk3.toNatClampNeg : Nat) : Int) = tk3.toInt by show ((tk3.toInt.toNat : Nat) : Int) = tk3.toInt; omega) (by omega) (by omega) (show v19.toInt = tk3.toInt + 1 by omega)) | exact itM_s (b := v16.toInt) i37_6 (by rw [e16]; rfl) (show v27.toInt.toNat = i.toInt.toNat + 1 by omega) (mk_end ef17 (show ((tk3.toNatClampNeg : Nat) : Int) = tk3.toInt by show ((tk3.toInt.toNat : Nat) : Int) = tk3.toInt; omega) (by omega) (by omega) hw26.2.2.1 hw26.1.2) | exact itM_s (b := (gl i.toInt.toNat).toInt) i37_6 rfl (show v29.toInt.toNat = i.toInt.toNat + 1 by omega) (mk_drop (by omega) z28) | exact itM_s (b := v42.toInt) i37_6 (by rw [e42]; rfl) (show v48.toInt.toNat = i.toInt.toNat + 1 by omega) (mk_up ef43 (show ((tk3.toNatClampNeg : Nat) : Int) = tk3.toInt by show ((tk3.toInt.toNat : Nat) : Int) = tk3.toInt; omega) (by omega) (by omega) (show v45.toInt = tk3.toInt + 1 by omega)) | exact itM_s (b := v42.toInt) i37_6 (by rw [e42]; rfl) (show v53.toInt.toNat = i.toInt.toNat + 1 by omega) (mk_end ef43 (show ((tk3.toNatClampNeg : Nat) : Int) = tk3.toInt by show ((tk3.toInt.toNat : Nat) : Int) = tk3.toInt; omega) (by omega) (by omega) hw52.2.2.1 hw52.1.2) | exact itM_s (b := (gl i.toInt.toNat).toInt) i37_6 rfl (show v55.toInt.toNat = i.toInt.toNat + 1 by omega) (mk_drop (by omega) z54)) (hP.sub [0, 1, 2, 3, 4] rfl) (hD.sub [0, 1, 2, 3, 4] (by decide) rfl) hS (lv_sub hl [1, 2, 3, 4, 0] rfl)
      exact J37 _ v4 tk ss ml mh mp rw wr tc gy go gt _ _ _ (Nat.lt_succ_self _) (by omega) (by omega) (by omega) (by omega) (fun _ _ => rfl) h6 (by first | (rw [show v4.toInt.toNat = 0 by omega]; exact rfl) | (rw [show v30.toInt.toNat = 0 by omega]; exact rfl)) (hP.sub [0, 1, 2, 3, 4] rfl) (hD.sub [0, 1, 2, 3, 4] (by decide) rfl) hS (lv_sub hl [1, 2, 3, 4, 0] rfl)
    ·
      have z3 := zi_nle c3
      refine lv_iload_n hx hb dX7_receive_20 rfl (lv_at hl 1 rfl) ?_
      refine lv_goto (tgt := 28) hx hb dX7_receive_21 (by decide) ?_
      refine lv_istore_n (lv' := [(2, .int nn), (0, .ref aM), (1, .int nn)]) hx hb dX7_receive_28 rfl hl (by decide) rfl (fun ls hl => ?_)
      refine lv_aload_n hx hb dX7_receive_29 rfl (lv_at hl 1 rfl) ?_
      refine va_get (D := D) (ci := 6) (v := .int tc) (C := RX7) (T := TX7) (N := 17) hx hb hts in_X7 hown hK hP 0 rfl rfl 15 (by decide) (hts _ wk375) (fun _ h9 => h9) rfl dX7_receive_30 ?_
      refine lv_istore_n (lv' := [(3, .int tc), (2, .int nn), (0, .ref aM), (1, .int nn)]) hx hb dX7_receive_33 rfl hl (by decide) rfl (fun ls hl => ?_)
      refine lv_iconst (v := 0) hx hb dX7_receive_34 (by decide) ?_
      refine lv_topi (fun v30 e30 => ?_)
      have z30 : v30.toInt = 0 := zi_c e30 (by decide)
      refine lv_istore (lv' := [(4, .int v30), (3, .int tc), (2, .int nn), (0, .ref aM), (1, .int nn)]) hx hb dX7_receive_35 hl (by decide) rfl (fun ls hl => ?_)
      have J37 : ∀ (n : Nat) (i : Int32) (tk3 : Int32) (ss3 : Int32) (ml3 : Int32) (mh3 : Int32) (mp3 : Int32) (rw3 : Int32) (wr3 : Int32) (tc3 : Int32) (gy3 : Nat → Int32) (go3 : Nat → Int32) (gt3 : Nat → Int32) (H : Heap) (locs : List Loc) (ls : Array Slot), ((nn.toInt - i.toInt).toNat) < n → (0 ≤ i.toInt ∧ i.toInt ≤ nn.toInt) → (0 ≤ tk3.toInt ∧ tk3.toInt ≤ 65) → (tc.toInt ≤ tc3.toInt ∧ tc3.toInt ≤ tc.toInt + i.toInt) → (((0 ≤ ml3.toInt ∧ ml3.toInt ≤ 1) ∧ (0 ≤ mh3.toInt ∧ mh3.toInt ≤ 63) ∧ (0 ≤ wr3.toInt ∧ wr3.toInt ≤ 15) ∧ (0 ≤ ss3.toInt ∧ ss3.toInt ≤ 1) ∧ (0 ≤ rw3.toInt ∧ rw3.toInt ≤ 64)) ∧ (mp.toInt ≤ mp3.toInt ∧ mp3.toInt ≤ mp.toInt + i.toInt)) → (∀ j, j < 58 → gy3 j = gy j) → (rwK ml3.toInt rw3.toInt) → (itM (fun q : Nat => (gl q).toInt) i.toInt.toNat ((go 0).toInt, (go 1).toInt, tk.toInt, ss.toInt, ml.toInt, mh.toInt, mp.toInt, rw.toInt, wr.toInt, tc.toInt) ((go3 0).toInt, (go3 1).toInt, tk3.toInt, ss3.toInt, ml3.toInt, mh3.toInt, mp3.toInt, rw3.toInt, wr3.toInt, tc3.toInt)) → va_P D classes [(aM, .inr (6, [.int v1, .int mw, .ref bG, .int mz, .ref bL, .ref bY, .ref bB, .ref bC, .int tk3, .int ss3, .int ml3, .int mh3, .int mp3, .int rw3, .int wr3, .int tc3, .ref bT])), (bL, .inl (cB, 9200, .inl gl)), (bY, .inl (cI, 116, .inl gy3)), (bC, .inl (cI, 66, .inl go3)), (bT, .inl (cI, 2400, .inl gt3))] H → va_D A [(aM, .inr (6, [.int v1, .int mw, .ref bG, .int mz, .ref bL, .ref bY, .ref bB, .ref bC, .int tk3, .int ss3, .int ml3, .int mh3, .int mp3, .int rw3, .int wr3, .int tc3, .ref bT])), (bL, .inl (cB, 9200, .inl gl)), (bY, .inl (cI, 116, .inl gy3)), (bC, .inl (cI, 66, .inl go3)), (bT, .inl (cI, 2400, .inl gt3))] → va_S A s.heap H locs → lv_has ls 5 [(3, .int tc), (2, .int nn), (0, .ref aM), (1, .int nn), (4, .int i)] → W p l e (rmL 5 111 0 0) s m args below meth c H locs 0 0 Q (F0 m 37 ls []) := by
        intro n
        induction n with
        | zero => intro i tk3 ss3 ml3 mh3 mp3 rw3 wr3 tc3 gy3 go3 gt3 H locs ls hmu; exact absurd hmu (Nat.not_lt_zero _)
        | succ n ih37 =>
          intro i tk3 ss3 ml3 mh3 mp3 rw3 wr3 tc3 gy3 go3 gt3 H locs ls hmu37 i37_0 i37_1 i37_2 i37_3 i37_4 i37_5 i37_6 hP hD hS hl
          have rg_i := zi_rg i
          have rg_tk3 := zi_rg tk3
          have rg_ss3 := zi_rg ss3
          have rg_ml3 := zi_rg ml3
          have rg_mh3 := zi_rg mh3
          have rg_mp3 := zi_rg mp3
          have rg_rw3 := zi_rg rw3
          have rg_wr3 := zi_rg wr3
          have rg_tc3 := zi_rg tc3
          refine lv_iload hx hb dX7_receive_37 (lv_at hl 4 rfl) ?_
          refine lv_iload_n hx hb dX7_receive_39 rfl (lv_at hl 1 rfl) ?_
          refine lv_icmp_ge (tgt := 103) hx hb dX7_receive_40 (by decide) (fun c31 => ?_) (fun c31 => ?_)
          ·
            have z31 := zi_le c31
            refine lv_aload_n hx hb dX7_receive_103 rfl (lv_at hl 2 rfl) ?_
            refine lv_aload_n hx hb dX7_receive_104 rfl (lv_at hl 2 rfl) ?_
            refine va_get (D := D) (ci := 6) (v := .int mz) (C := RX7) (T := TX7) (N := 17) hx hb hts in_X7 hown hK hP 0 rfl rfl 3 (by decide) (hts _ wk67) (fun _ h9 => h9) rfl dX7_receive_105 ?_
            refine lv_iload_n hx hb dX7_receive_108 rfl (lv_at hl 1 rfl) ?_
            refine lv_isub hx hb dX7_receive_109 ?_
            refine lv_topi (fun v32 e32 => ?_)
            first | have z32 := zi_sub e32 (by omega) | skip
            refine va_put (D := D) (ci := 6) (v := .int v32) (ty := .int) (C := RX7) (T := TX7) (N := 17) hx hb hts in_X7 tyX7 tyX7_ok nmX7 hown hK hP hD hS 0 rfl rfl 3 (by decide) (hts _ wk67) (fun _ h9 => h9) rfl (by decide +kernel) rfl rfl (Nat.le_of_ble_eq_true rfl) dX7_receive_110 (fun H locs hP1 hD1 hS1 => ?_)
            clear hP hD hS
            have hP : va_P D classes [(aM, .inr (6, [.int v1, .int mw, .ref bG, .int v32, .ref bL, .ref bY, .ref bB, .ref bC, .int tk3, .int ss3, .int ml3, .int mh3, .int mp3, .int rw3, .int wr3, .int tc3, .ref bT])), (bL, .inl (cB, 9200, .inl gl)), (bY, .inl (cI, 116, .inl gy3)), (bC, .inl (cI, 66, .inl go3)), (bT, .inl (cI, 2400, .inl gt3))] H := hP1
            have hD : va_D A [(aM, .inr (6, [.int v1, .int mw, .ref bG, .int v32, .ref bL, .ref bY, .ref bB, .ref bC, .int tk3, .int ss3, .int ml3, .int mh3, .int mp3, .int rw3, .int wr3, .int tc3, .ref bT])), (bL, .inl (cB, 9200, .inl gl)), (bY, .inl (cI, 116, .inl gy3)), (bC, .inl (cI, 66, .inl go3)), (bT, .inl (cI, 2400, .inl gt3))] := hD1
            have hS := hS1
            clear hP1 hD1 hS1
            refine lv_iconst (v := 0) hx hb dX7_receive_113 (by decide) ?_
            refine lv_topi (fun v33 e33 => ?_)
            have z33 : v33.toInt = 0 := zi_c e33 (by decide)
            refine lv_istore (lv' := [(4, .int v33), (3, .int tc), (2, .int nn), (0, .ref aM), (1, .int nn)]) hx hb dX7_receive_114 hl (by decide) rfl (fun ls hl => ?_)
            have J116 : ∀ (n : Nat) (i : Int32) (gl4 : Nat → Int32) (H : Heap) (locs : List Loc) (ls : Array Slot), ((v32.toInt - i.toInt).toNat) < n → (0 ≤ i.toInt ∧ i.toInt ≤ v32.toInt) → (∀ j : Nat, gl4 j = if (j : Int) < i.toInt then gl (j + nn.toInt.toNat) else gl j) → va_P D classes [(aM, .inr (6, [.int v1, .int mw, .ref bG, .int v32, .ref bL, .ref bY, .ref bB, .ref bC, .int tk3, .int ss3, .int ml3, .int mh3, .int mp3, .int rw3, .int wr3, .int tc3, .ref bT])), (bL, .inl (cB, 9200, .inl gl4)), (bY, .inl (cI, 116, .inl gy3)), (bC, .inl (cI, 66, .inl go3)), (bT, .inl (cI, 2400, .inl gt3))] H → va_D A [(aM, .inr (6, [.int v1, .int mw, .ref bG, .int v32, .ref bL, .ref bY, .ref bB, .ref bC, .int tk3, .int ss3, .int ml3, .int mh3, .int mp3, .int rw3, .int wr3, .int tc3, .ref bT])), (bL, .inl (cB, 9200, .inl gl4)), (bY, .inl (cI, 116, .inl gy3)), (bC, .inl (cI, 66, .inl go3)), (bT, .inl (cI, 2400, .inl gt3))] → va_S A s.heap H locs → lv_has ls 5 [(3, .int tc), (2, .int nn), (0, .ref aM), (1, .int nn), (4, .int i)] → W p l e (rmL 5 111 0 0) s m args below meth c H locs 0 0 Q (F0 m 116 ls []) := by
              intro n
              induction n with
              | zero => intro i gl4 H locs ls hmu; exact absurd hmu (Nat.not_lt_zero _)
              | succ n ih116 =>
                intro i gl4 H locs ls hmu116 i116_0 i116_1 hP hD hS hl
                have rg_i := zi_rg i
                refine lv_iload hx hb dX7_receive_116 (lv_at hl 4 rfl) ?_
                refine lv_aload_n hx hb dX7_receive_118 rfl (lv_at hl 2 rfl) ?_
                refine va_get (D := D) (ci := 6) (v := .int v32) (C := RX7) (T := TX7) (N := 17) hx hb hts in_X7 hown hK hP 0 rfl rfl 3 (by decide) (hts _ wk67) (fun _ h9 => h9) rfl dX7_receive_119 ?_
                refine lv_icmp_ge (tgt := 147) hx hb dX7_receive_122 (by decide) (fun c34 => ?_) (fun c34 => ?_)
                ·
                  have z34 := zi_le c34
                  refine lv_aload_n hx hb dX7_receive_147 rfl (lv_at hl 2 rfl) ?_
                  refine va_get (D := D) (ci := 6) (v := .int tc3) (C := RX7) (T := TX7) (N := 17) hx hb hts in_X7 hown hK hP 0 rfl rfl 15 (by decide) (hts _ wk375) (fun _ h9 => h9) rfl dX7_receive_148 ?_
                  refine lv_iload_n hx hb dX7_receive_151 rfl (lv_at hl 0 rfl) ?_
                  refine lv_isub hx hb dX7_receive_152 ?_
                  refine lv_topi (fun v35 e35 => ?_)
                  first | have z35 := zi_sub e35 (by omega) | skip
                  have hq36 : (((((0 ≤ ml3.toInt ∧ ml3.toInt ≤ 1) ∧ (0 ≤ mh3.toInt ∧ mh3.toInt ≤ 63) ∧ (0 ≤ wr3.toInt ∧ wr3.toInt ≤ 15) ∧ (0 ≤ ss3.toInt ∧ ss3.toInt ≤ 1) ∧ (0 ≤ rw3.toInt ∧ rw3.toInt ≤ 64)) ∧ (mp.toInt ≤ mp3.toInt ∧ mp3.toInt ≤ mp.toInt + 9066)) ∧ rwK ml3.toInt rw3.toInt) ∧ rcM nn.toInt mz.toInt (fun q : Nat => (gl q).toInt) ((go 0).toInt, (go 1).toInt, tk.toInt, ss.toInt, ml.toInt, mh.toInt, mp.toInt, rw.toInt, wr.toInt, tc.toInt) ((go3 0).toInt, (go3 1).toInt, tk3.toInt, ss3.toInt, ml3.toInt, mh3.toInt, mp3.toInt, rw3.toInt, wr3.toInt, tc3.toInt) v35.toInt) ∧ (0 ≤ ml3.toInt ∧ ml3.toInt ≤ 1) ∧ (0 ≤ tk3.toInt ∧ tk3.toInt ≤ 65) ∧ (tc.toInt ≤ tc3.toInt ∧ tc3.toInt ≤ tc.toInt + 9066) ∧ (nn.toInt < 0 → v35.toInt = -12 ∧ v32.toInt = mz.toInt) ∧ (0 ≤ nn.toInt → (0 ≤ v35.toInt ∧ v35.toInt ≤ mz.toInt) ∧ (mz.toInt ≤ nn.toInt → v32.toInt = 0) ∧ (nn.toInt < mz.toInt → v32.toInt = mz.toInt - nn.toInt)) ∧ (∀ j : Nat, (j : Int) < v32.toInt → gl4 j = gl (j + (mz.toInt - v32.toInt).toNat)) ∧ ∀ j, j < 58 → gy3 j = gy j := (by first | exact ⟨⟨⟨by omega, i37_5⟩, rcM_i i37_6 (by omega) (by omega) (show v9.toInt = tc3.toInt - tc.toInt by omega)⟩, by omega, by omega, by omega, by omega, by omega, fun j hj => by rw [i116_1 j, if_pos (by omega)]; exact congrArg gl (by omega), i37_4⟩ | exact ⟨⟨⟨by omega, i37_5⟩, rcM_i i37_6 (by omega) (by omega) (show v35.toInt = tc3.toInt - tc.toInt by omega)⟩, by omega, by omega, by omega, by omega, by omega, fun j hj => by rw [i116_1 j, if_pos (by omega)]; exact congrArg gl (by omega), i37_4⟩ | exact ⟨⟨⟨by omega, h6⟩, rcM_n (by omega) (by omega) (by omega)⟩, by omega, by omega, by omega, by omega, by omega, fun j hj => by rw [show (mz.toInt - mz.toInt).toNat = 0 by omega]; rfl, fun _ _ => rfl⟩)
                  exact hret v35 (v1, v32, tk3, ss3, ml3, mh3, mp3, rw3, wr3, tc3, gl4, gy3, go3, gt3) _ _ _ _ dX7_receive_153 hq36 (hP.sub [0, 1, 2, 3, 4] rfl) (hD.sub [0, 1, 2, 3, 4] (by decide) rfl) hS
                ·
                  have z34 := zi_nle c34
                  refine lv_aload_n hx hb dX7_receive_125 rfl (lv_at hl 2 rfl) ?_
                  refine va_get (D := D) (ci := 6) (v := .ref bL) (C := RX7) (T := TX7) (N := 17) hx hb hts in_X7 hown hK hP 0 rfl rfl 4 (by decide) (hts _ wk62) (fun _ h9 => h9) rfl dX7_receive_126 ?_
                  refine lv_iload hx hb dX7_receive_129 (lv_at hl 4 rfl) ?_
                  refine lv_aload_n hx hb dX7_receive_131 rfl (lv_at hl 2 rfl) ?_
                  refine va_get (D := D) (ci := 6) (v := .ref bL) (C := RX7) (T := TX7) (N := 17) hx hb hts in_X7 hown hK hP 0 rfl rfl 4 (by decide) (hts _ wk62) (fun _ h9 => h9) rfl dX7_receive_132 ?_
                  refine lv_iload hx hb dX7_receive_135 (lv_at hl 4 rfl) ?_
                  refine lv_iload_n hx hb dX7_receive_137 rfl (lv_at hl 1 rfl) ?_
                  refine lv_iadd hx hb dX7_receive_138 ?_
                  refine lv_topi (fun v37 e37 => ?_)
                  first | have z37 := zi_add e37 (by omega) | skip
                  refine va_bald hx hb hK hP 1 2 rfl rfl (zi_in (by omega)) dX7_receive_139 ?_
                  refine lv_topi (fun v38 e38 => ?_)
                  obtain ⟨f39, ef39⟩ : ∃ z9, z9 = upd gl4 i.toNatClampNeg (vp_nar .byte v38) := ⟨_, rfl⟩
                  refine va_bast hx hb hK hP hD hS 1 2 rfl rfl (zi_in (by omega)) dX7_receive_140 (fun H locs hP1 hD1 hS1 => ?_)
                  rw [← ef39] at hP1 hD1
                  clear hP hD hS
                  have hP : va_P D classes [(aM, .inr (6, [.int v1, .int mw, .ref bG, .int v32, .ref bL, .ref bY, .ref bB, .ref bC, .int tk3, .int ss3, .int ml3, .int mh3, .int mp3, .int rw3, .int wr3, .int tc3, .ref bT])), (bL, .inl (cB, 9200, .inl f39)), (bY, .inl (cI, 116, .inl gy3)), (bC, .inl (cI, 66, .inl go3)), (bT, .inl (cI, 2400, .inl gt3))] H := hP1
                  have hD : va_D A [(aM, .inr (6, [.int v1, .int mw, .ref bG, .int v32, .ref bL, .ref bY, .ref bB, .ref bC, .int tk3, .int ss3, .int ml3, .int mh3, .int mp3, .int rw3, .int wr3, .int tc3, .ref bT])), (bL, .inl (cB, 9200, .inl f39)), (bY, .inl (cI, 116, .inl gy3)), (bC, .inl (cI, 66, .inl go3)), (bT, .inl (cI, 2400, .inl gt3))] := hD1
                  have hS := hS1
                  clear hP1 hD1 hS1
                  obtain ⟨v40, e40⟩ : ∃ y : Int32, y = i + 1 := ⟨_, rfl⟩
                  first | have z40 := zi_inc (z := 1) 1 (by decide) e40 (by omega) | skip
                  refine lv_iinc (v := v40) (lv' := [(4, .int v40), (3, .int tc), (2, .int nn), (0, .ref aM), (1, .int nn)]) hx hb dX7_receive_141 hl (k := 4) rfl (by rw [e40]; rfl) (by decide) rfl (fun ls hl => ?_)
                  refine lv_goto (tgt := 116) hx hb dX7_receive_144 (by decide) ?_
                  exact ih116 v40 f39 _ _ _ (by omega) (by omega) (by first | exact cp_bit i116_1 (h5 _ (by omega)) (by omega) (by omega) e12 ef13 (by omega) | exact cp_bit i116_1 (h5 _ (by omega)) (by omega) (by omega) e38 ef39 (by omega)) (hP.sub [0, 1, 2, 3, 4] rfl) (hD.sub [0, 1, 2, 3, 4] (by decide) rfl) hS (lv_sub hl [1, 2, 3, 4, 0] rfl)
            exact J116 _ v33 gl _ _ _ (Nat.lt_succ_self _) (by omega) (fun j => by rw [if_neg (by omega)]) (hP.sub [0, 1, 2, 3, 4] rfl) (hD.sub [0, 1, 2, 3, 4] (by decide) rfl) hS (lv_sub hl [1, 2, 3, 4, 0] rfl)
          ·
            have z31 := zi_nle c31
            refine lv_aload_n hx hb dX7_receive_43 rfl (lv_at hl 2 rfl) ?_
            refine va_get (D := D) (ci := 6) (v := .int ss3) (C := RX7) (T := TX7) (N := 17) hx hb hts in_X7 hown hK hP 0 rfl rfl 9 (by decide) (hts _ wk376) (fun _ h9 => h9) rfl dX7_receive_44 ?_
            refine lv_if_eq (tgt := 58) hx hb dX7_receive_47 (by decide) (fun c41 => ?_) (fun c41 => ?_)
            ·
              have z41 := zi_eq0 c41
              refine lv_aload_n hx hb dX7_receive_58 rfl (lv_at hl 2 rfl) ?_
              refine va_get (D := D) (ci := 6) (v := .ref bC) (C := RX7) (T := TX7) (N := 17) hx hb hts in_X7 hown hK hP 0 rfl rfl 7 (by decide) (hts _ wk65) (fun _ h9 => h9) rfl dX7_receive_59 ?_
              refine lv_aload_n hx hb dX7_receive_62 rfl (lv_at hl 2 rfl) ?_
              refine va_get (D := D) (ci := 6) (v := .int tk3) (C := RX7) (T := TX7) (N := 17) hx hb hts in_X7 hown hK hP 0 rfl rfl 8 (by decide) (hts _ wk377) (fun _ h9 => h9) rfl dX7_receive_63 ?_
              refine lv_aload_n hx hb dX7_receive_66 rfl (lv_at hl 2 rfl) ?_
              refine va_get (D := D) (ci := 6) (v := .ref bL) (C := RX7) (T := TX7) (N := 17) hx hb hts in_X7 hown hK hP 0 rfl rfl 4 (by decide) (hts _ wk62) (fun _ h9 => h9) rfl dX7_receive_67 ?_
              refine lv_iload hx hb dX7_receive_70 (lv_at hl 4 rfl) ?_
              refine va_bald hx hb hK hP 1 2 rfl rfl (zi_in (by omega)) dX7_receive_72 ?_
              refine lv_topi (fun v42 e42 => ?_)
              obtain ⟨f43, ef43⟩ : ∃ z9, z9 = upd go3 tk3.toNatClampNeg v42 := ⟨_, rfl⟩
              refine va_iast hx hb hK hP hD hS 3 0 rfl rfl (zi_in (by omega)) dX7_receive_73 (fun H locs hP1 hD1 hS1 => ?_)
              rw [← ef43] at hP1 hD1
              clear hP hD hS
              have hP : va_P D classes [(aM, .inr (6, [.int v1, .int mw, .ref bG, .int mz, .ref bL, .ref bY, .ref bB, .ref bC, .int tk3, .int ss3, .int ml3, .int mh3, .int mp3, .int rw3, .int wr3, .int tc3, .ref bT])), (bL, .inl (cB, 9200, .inl gl)), (bY, .inl (cI, 116, .inl gy3)), (bC, .inl (cI, 66, .inl f43)), (bT, .inl (cI, 2400, .inl gt3))] H := hP1
              have hD : va_D A [(aM, .inr (6, [.int v1, .int mw, .ref bG, .int mz, .ref bL, .ref bY, .ref bB, .ref bC, .int tk3, .int ss3, .int ml3, .int mh3, .int mp3, .int rw3, .int wr3, .int tc3, .ref bT])), (bL, .inl (cB, 9200, .inl gl)), (bY, .inl (cI, 116, .inl gy3)), (bC, .inl (cI, 66, .inl f43)), (bT, .inl (cI, 2400, .inl gt3))] := hD1
              have hS := hS1
              clear hP1 hD1 hS1
              refine lv_aload_n hx hb dX7_receive_74 rfl (lv_at hl 2 rfl) ?_
              refine lv_dup hx hb dX7_receive_75 rfl ?_
              refine va_get (D := D) (ci := 6) (v := .int tk3) (C := RX7) (T := TX7) (N := 17) hx hb hts in_X7 hown hK hP 0 rfl rfl 8 (by decide) (hts _ wk377) (fun _ h9 => h9) rfl dX7_receive_76 ?_
              refine lv_iconst (v := 1) hx hb dX7_receive_79 (by decide) ?_
              refine lv_topi (fun v44 e44 => ?_)
              have z44 : v44.toInt = 1 := zi_c e44 (by decide)
              refine lv_iadd hx hb dX7_receive_80 ?_
              refine lv_topi (fun v45 e45 => ?_)
              first | have z45 := zi_add e45 (by omega) | skip
              refine va_put (D := D) (ci := 6) (v := .int v45) (ty := .int) (C := RX7) (T := TX7) (N := 17) hx hb hts in_X7 tyX7 tyX7_ok nmX7 hown hK hP hD hS 0 rfl rfl 8 (by decide) (hts _ wk377) (fun _ h9 => h9) rfl (by decide +kernel) rfl rfl (Nat.le_of_ble_eq_true rfl) dX7_receive_81 (fun H locs hP1 hD1 hS1 => ?_)
              clear hP hD hS
              have hP : va_P D classes [(aM, .inr (6, [.int v1, .int mw, .ref bG, .int mz, .ref bL, .ref bY, .ref bB, .ref bC, .int v45, .int ss3, .int ml3, .int mh3, .int mp3, .int rw3, .int wr3, .int tc3, .ref bT])), (bL, .inl (cB, 9200, .inl gl)), (bY, .inl (cI, 116, .inl gy3)), (bC, .inl (cI, 66, .inl f43)), (bT, .inl (cI, 2400, .inl gt3))] H := hP1
              have hD : va_D A [(aM, .inr (6, [.int v1, .int mw, .ref bG, .int mz, .ref bL, .ref bY, .ref bB, .ref bC, .int v45, .int ss3, .int ml3, .int mh3, .int mp3, .int rw3, .int wr3, .int tc3, .ref bT])), (bL, .inl (cB, 9200, .inl gl)), (bY, .inl (cI, 116, .inl gy3)), (bC, .inl (cI, 66, .inl f43)), (bT, .inl (cI, 2400, .inl gt3))] := hD1
              have hS := hS1
              clear hP1 hD1 hS1
              refine lv_aload_n hx hb dX7_receive_84 rfl (lv_at hl 2 rfl) ?_
              refine va_get (D := D) (ci := 6) (v := .int v45) (C := RX7) (T := TX7) (N := 17) hx hb hts in_X7 hown hK hP 0 rfl rfl 8 (by decide) (hts _ wk377) (fun _ h9 => h9) rfl dX7_receive_85 ?_
              refine lv_bipush (v := 66) hx hb dX7_receive_88 (by decide) ?_
              refine lv_topi (fun v46 e46 => ?_)
              have z46 : v46.toInt = 66 := zi_c e46 (by decide)
              refine lv_icmp_ne (tgt := 97) hx hb dX7_receive_90 (by decide) (fun c47 => ?_) (fun c47 => ?_)
              ·
                have z47 := zi_ne c47
                obtain ⟨v48, e48⟩ : ∃ y : Int32, y = i + 1 := ⟨_, rfl⟩
                first | have z48 := zi_inc (z := 1) 1 (by decide) e48 (by omega) | skip
                refine lv_iinc (v := v48) (lv' := [(4, .int v48), (3, .int tc), (2, .int nn), (0, .ref aM), (1, .int nn)]) hx hb dX7_receive_97 hl (k := 4) rfl (by rw [e48]; rfl) (by decide) rfl (fun ls hl => ?_)
                refine lv_goto (tgt := 37) hx hb dX7_receive_100 (by decide) ?_
                exact ih37 v48 v45 ss3 ml3 mh3 mp3 rw3 wr3 tc3 gy3 f43 gt3 _ _ _ (by omega) (by omega) (by omega) (by omega) (by omega) (by first | exact i37_4 | exact fun j hj => (hw26.2.2.2.2.2 j hj).trans (i37_4 j hj) | exact fun j hj => (hw52.2.2.2.2.2 j hj).trans (i37_4 j hj)) (by first | exact i37_5 | exact hw26.1.1.2 | exact hw52.1.1.2) (by first | exact itM_s (b := v16.toInt) i37_6 (by rw [e16]; rfl) (show v22.toInt.toNat = i.toInt.toNat + 1 by omega) (mk_up ef17 (show ((tk3.toNatClampNeg : Nat) : Int) = tk3.toInt by show ((tk3.toInt.toNat : Nat) : Int) = tk3.toInt; omega) (by omega) (by omega) (show v19.toInt = tk3.toInt + 1 by omega)) | exact itM_s (b := v16.toInt) i37_6 (by rw [e16]; rfl) (show v27.toInt.toNat = i.toInt.toNat + 1 by omega) (mk_end ef17 (show ((tk3.toNatClampNeg : Nat) : Int) = tk3.toInt by show ((tk3.toInt.toNat : Nat) : Int) = tk3.toInt; omega) (by omega) (by omega) hw26.2.2.1 hw26.1.2) | exact itM_s (b := (gl i.toInt.toNat).toInt) i37_6 rfl (show v29.toInt.toNat = i.toInt.toNat + 1 by omega) (mk_drop (by omega) z28) | exact itM_s (b := v42.toInt) i37_6 (by rw [e42]; rfl) (show v48.toInt.toNat = i.toInt.toNat + 1 by omega) (mk_up ef43 (show ((tk3.toNatClampNeg : Nat) : Int) = tk3.toInt by show ((tk3.toInt.toNat : Nat) : Int) = tk3.toInt; omega) (by omega) (by omega) (show v45.toInt = tk3.toInt + 1 by omega)) | exact itM_s (b := v42.toInt) i37_6 (by rw [e42]; rfl) (show v53.toInt.toNat = i.toInt.toNat + 1 by omega) (mk_end ef43 (show ((tk3.toNatClampNeg : Nat) : Int) = tk3.toInt by show ((tk3.toInt.toNat : Nat) : Int) = tk3.toInt; omega) (by omega) (by omega) hw52.2.2.1 hw52.1.2) | exact itM_s (b := (gl i.toInt.toNat).toInt) i37_6 rfl (show v55.toInt.toNat = i.toInt.toNat + 1 by omega) (mk_drop (by omega) z54)) (hP.sub [0, 1, 2, 3, 4] rfl) (hD.sub [0, 1, 2, 3, 4] (by decide) rfl) hS (lv_sub hl [1, 2, 3, 4, 0] rfl)
              ·
                have z47 := zi_eq c47
                refine lv_aload_n hx hb dX7_receive_93 rfl (lv_at hl 2 rfl) ?_
                have hh49 : 0 ≤ tc3.toInt ∧ tc3.toInt ≤ 1000000000 := (by omega)
                have hh50 : (0 ≤ ml3.toInt ∧ ml3.toInt ≤ 1) ∧ (0 ≤ mh3.toInt ∧ mh3.toInt ≤ 63) ∧ (0 ≤ wr3.toInt ∧ wr3.toInt ≤ 15) ∧ (0 ≤ ss3.toInt ∧ ss3.toInt ≤ 1) ∧ (0 ≤ rw3.toInt ∧ rw3.toInt ≤ 64) ∧ (0 ≤ mp3.toInt ∧ mp3.toInt ≤ 1000000000) := (by omega)
                have hh51 : rwK ml3.toInt rw3.toInt := i37_5
                refine call_v (wc := [(aM, .inr (6, [.int v1, .int mw, .ref bG, .int mz, .ref bL, .ref bY, .ref bB, .ref bC, .int v45, .int ss3, .int ml3, .int mh3, .int mp3, .int rw3, .int wr3, .int tc3, .ref bT])), (bY, .inl (cI, 116, .inl gy3)), (bC, .inl (cI, 66, .inl f43)), (bT, .inl (cI, 2400, .inl gt3))]) (wr := [(bL, .inl (cB, 9200, .inl gl))]) (run_V (As := []) (rest := []) kv_RX7_125 ⟨by decide, by decide⟩ ⟨rfl, rfl⟩ ⟨hx, hb, hml, hown, hts⟩ (c_Mo_whole l D cI cJ cB aM bG bL bY bB bC bT v1 mw mz v45 ss3 ml3 mh3 mp3 rw3 wr3 tc3 gy3 f43 gt3 hh49 hh50 hh51 _) ct_blind (ct_pre (wc := [(aM, .inr (6, [.int v1, .int mw, .ref bG, .int mz, .ref bL, .ref bY, .ref bB, .ref bC, .int v45, .int ss3, .int ml3, .int mh3, .int mp3, .int rw3, .int wr3, .int tc3, .ref bT])), (bY, .inl (cI, 116, .inl gy3)), (bC, .inl (cI, 66, .inl f43)), (bT, .inl (cI, 2400, .inl gt3))]) hK hP hD hS hA hZ hN [0, 2, 3, 4] (by decide) rfl rfl) (va_recv hK hP (ci := 6) (q0 := 0) rfl rfl) rfl hl.1 rfl (Nat.le_of_ble_eq_true rfl) dX7_receive_94 ⟨Nat.le_of_ble_eq_true rfl, Nat.le_of_ble_eq_true rfl⟩) hP hD hS hA [0, 2, 3, 4] [1] rfl rfl (by decide) (by decide) (fun u H locs hw52 hP1 hD1 hS1 => ?_)
                obtain ⟨tk2_52, ss2_52, ml2_52, mh2_52, mp2_52, rw2_52, wr2_52, tc2_52, gy2_52, go2_52, gt2_52⟩ := u
                have hw52 : (((((0 ≤ ml2_52.toInt ∧ ml2_52.toInt ≤ 1) ∧ (0 ≤ mh2_52.toInt ∧ mh2_52.toInt ≤ 63) ∧ (0 ≤ wr2_52.toInt ∧ wr2_52.toInt ≤ 15) ∧ (0 ≤ ss2_52.toInt ∧ ss2_52.toInt ≤ 1) ∧ (0 ≤ rw2_52.toInt ∧ rw2_52.toInt ≤ 64)) ∧ (mp3.toInt ≤ mp2_52.toInt ∧ mp2_52.toInt ≤ mp3.toInt + 1)) ∧ rwK ml2_52.toInt rw2_52.toInt) ∧ whR (fitM (f43 0).toInt (f43 1).toInt) ss3.toInt ml3.toInt mh3.toInt mp3.toInt rw3.toInt wr3.toInt tc3.toInt ss2_52.toInt ml2_52.toInt mh2_52.toInt mp2_52.toInt rw2_52.toInt wr2_52.toInt tc2_52.toInt) ∧ (0 ≤ ml2_52.toInt ∧ ml2_52.toInt ≤ 1) ∧ tk2_52.toInt = 0 ∧ tc3.toInt ≤ tc2_52.toInt ∧ tc2_52.toInt ≤ tc3.toInt + 1 ∧ ∀ j, j < 58 → gy2_52 j = gy3 j := hw52
                clear hP hD hS
                have hP : va_P D classes [(bL, .inl (cB, 9200, .inl gl)), (aM, .inr (6, [.int v1, .int mw, .ref bG, .int mz, .ref bL, .ref bY, .ref bB, .ref bC, .int tk2_52, .int ss2_52, .int ml2_52, .int mh2_52, .int mp2_52, .int rw2_52, .int wr2_52, .int tc2_52, .ref bT])), (bY, .inl (cI, 116, .inl gy2_52)), (bC, .inl (cI, 66, .inl go2_52)), (bT, .inl (cI, 2400, .inl gt2_52))] H := hP1
                have hD : va_D A [(bL, .inl (cB, 9200, .inl gl)), (aM, .inr (6, [.int v1, .int mw, .ref bG, .int mz, .ref bL, .ref bY, .ref bB, .ref bC, .int tk2_52, .int ss2_52, .int ml2_52, .int mh2_52, .int mp2_52, .int rw2_52, .int wr2_52, .int tc2_52, .ref bT])), (bY, .inl (cI, 116, .inl gy2_52)), (bC, .inl (cI, 66, .inl go2_52)), (bT, .inl (cI, 2400, .inl gt2_52))] := hD1
                have hS := hS1
                clear hP1 hD1 hS1
                have rg_tk2_52 := zi_rg tk2_52
                have rg_ss2_52 := zi_rg ss2_52
                have rg_ml2_52 := zi_rg ml2_52
                have rg_mh2_52 := zi_rg mh2_52
                have rg_mp2_52 := zi_rg mp2_52
                have rg_rw2_52 := zi_rg rw2_52
                have rg_wr2_52 := zi_rg wr2_52
                have rg_tc2_52 := zi_rg tc2_52
                obtain ⟨v53, e53⟩ : ∃ y : Int32, y = i + 1 := ⟨_, rfl⟩
                first | have z53 := zi_inc (z := 1) 1 (by decide) e53 (by omega) | skip
                refine lv_iinc (v := v53) (lv' := [(4, .int v53), (3, .int tc), (2, .int nn), (0, .ref aM), (1, .int nn)]) hx hb dX7_receive_97 hl (k := 4) rfl (by rw [e53]; rfl) (by decide) rfl (fun ls hl => ?_)
                refine lv_goto (tgt := 37) hx hb dX7_receive_100 (by decide) ?_
                exact ih37 v53 tk2_52 ss2_52 ml2_52 mh2_52 mp2_52 rw2_52 wr2_52 tc2_52 gy2_52 go2_52 gt2_52 _ _ _ (by omega) (by omega) (by omega) (by omega) (by omega) (by first | exact i37_4 | exact fun j hj => (hw26.2.2.2.2.2 j hj).trans (i37_4 j hj) | exact fun j hj => (hw52.2.2.2.2.2 j hj).trans (i37_4 j hj)) (by first | exact i37_5 | exact hw26.1.1.2 | exact hw52.1.1.2) (by first | exact itM_s (b := v16.toInt) i37_6 (by rw [e16]; rfl) (show v22.toInt.toNat = i.toInt.toNat + 1 by omega) (mk_up ef17 (show ((tk3.toNatClampNeg : Nat) : Int) = tk3.toInt by show ((tk3.toInt.toNat : Nat) : Int) = tk3.toInt; omega) (by omega) (by omega) (show v19.toInt = tk3.toInt + 1 by omega)) | exact itM_s (b := v16.toInt) i37_6 (by rw [e16]; rfl) (show v27.toInt.toNat = i.toInt.toNat + 1 by omega) (mk_end ef17 (show ((tk3.toNatClampNeg : Nat) : Int) = tk3.toInt by show ((tk3.toInt.toNat : Nat) : Int) = tk3.toInt; omega) (by omega) (by omega) hw26.2.2.1 hw26.1.2) | exact itM_s (b := (gl i.toInt.toNat).toInt) i37_6 rfl (show v29.toInt.toNat = i.toInt.toNat + 1 by omega) (mk_drop (by omega) z28) | exact itM_s (b := v42.toInt) i37_6 (by rw [e42]; rfl) (show v48.toInt.toNat = i.toInt.toNat + 1 by omega) (mk_up ef43 (show ((tk3.toNatClampNeg : Nat) : Int) = tk3.toInt by show ((tk3.toInt.toNat : Nat) : Int) = tk3.toInt; omega) (by omega) (by omega) (show v45.toInt = tk3.toInt + 1 by omega)) | exact itM_s (b := v42.toInt) i37_6 (by rw [e42]; rfl) (show v53.toInt.toNat = i.toInt.toNat + 1 by omega) (mk_end ef43 (show ((tk3.toNatClampNeg : Nat) : Int) = tk3.toInt by show ((tk3.toInt.toNat : Nat) : Int) = tk3.toInt; omega) (by omega) (by omega) hw52.2.2.1 hw52.1.2) | exact itM_s (b := (gl i.toInt.toNat).toInt) i37_6 rfl (show v55.toInt.toNat = i.toInt.toNat + 1 by omega) (mk_drop (by omega) z54)) (hP.sub [1, 0, 2, 3, 4] rfl) (hD.sub [1, 0, 2, 3, 4] (by decide) rfl) hS (lv_sub hl [1, 2, 3, 4, 0] rfl)
            ·
              have z41 := zi_ne0 c41
              refine lv_aload_n hx hb dX7_receive_50 rfl (lv_at hl 2 rfl) ?_
              refine lv_iconst (v := 0) hx hb dX7_receive_51 (by decide) ?_
              refine lv_topi (fun v54 e54 => ?_)
              have z54 : v54.toInt = 0 := zi_c e54 (by decide)
              refine va_put (D := D) (ci := 6) (v := .int v54) (ty := .boolean) (C := RX7) (T := TX7) (N := 17) hx hb hts in_X7 tyX7 tyX7_ok nmX7 hown hK hP hD hS 0 rfl rfl 9 (by decide) (hts _ wk376) (fun _ h9 => h9) rfl (by decide +kernel) (zb_n (by omega)) (zb_f (by omega)) (Nat.le_of_ble_eq_true rfl) dX7_receive_52 (fun H locs hP1 hD1 hS1 => ?_)
              clear hP hD hS
              have hP : va_P D classes [(aM, .inr (6, [.int v1, .int mw, .ref bG, .int mz, .ref bL, .ref bY, .ref bB, .ref bC, .int tk3, .int v54, .int ml3, .int mh3, .int mp3, .int rw3, .int wr3, .int tc3, .ref bT])), (bL, .inl (cB, 9200, .inl gl)), (bY, .inl (cI, 116, .inl gy3)), (bC, .inl (cI, 66, .inl go3)), (bT, .inl (cI, 2400, .inl gt3))] H := hP1
              have hD : va_D A [(aM, .inr (6, [.int v1, .int mw, .ref bG, .int mz, .ref bL, .ref bY, .ref bB, .ref bC, .int tk3, .int v54, .int ml3, .int mh3, .int mp3, .int rw3, .int wr3, .int tc3, .ref bT])), (bL, .inl (cB, 9200, .inl gl)), (bY, .inl (cI, 116, .inl gy3)), (bC, .inl (cI, 66, .inl go3)), (bT, .inl (cI, 2400, .inl gt3))] := hD1
              have hS := hS1
              clear hP1 hD1 hS1
              refine lv_goto (tgt := 97) hx hb dX7_receive_55 (by decide) ?_
              obtain ⟨v55, e55⟩ : ∃ y : Int32, y = i + 1 := ⟨_, rfl⟩
              first | have z55 := zi_inc (z := 1) 1 (by decide) e55 (by omega) | skip
              refine lv_iinc (v := v55) (lv' := [(4, .int v55), (3, .int tc), (2, .int nn), (0, .ref aM), (1, .int nn)]) hx hb dX7_receive_97 hl (k := 4) rfl (by rw [e55]; rfl) (by decide) rfl (fun ls hl => ?_)
              refine lv_goto (tgt := 37) hx hb dX7_receive_100 (by decide) ?_
              exact ih37 v55 tk3 v54 ml3 mh3 mp3 rw3 wr3 tc3 gy3 go3 gt3 _ _ _ (by omega) (by omega) (by omega) (by omega) (by omega) (by first | exact i37_4 | exact fun j hj => (hw26.2.2.2.2.2 j hj).trans (i37_4 j hj) | exact fun j hj => (hw52.2.2.2.2.2 j hj).trans (i37_4 j hj)) (by first | exact i37_5 | exact hw26.1.1.2 | exact hw52.1.1.2) (by first | exact itM_s (b := v16.toInt) i37_6 (by rw [e16]; rfl) (show v22.toInt.toNat = i.toInt.toNat + 1 by omega) (mk_up ef17 (show ((tk3.toNatClampNeg : Nat) : Int) = tk3.toInt by show ((tk3.toInt.toNat : Nat) : Int) = tk3.toInt; omega) (by omega) (by omega) (show v19.toInt = tk3.toInt + 1 by omega)) | exact itM_s (b := v16.toInt) i37_6 (by rw [e16]; rfl) (show v27.toInt.toNat = i.toInt.toNat + 1 by omega) (mk_end ef17 (show ((tk3.toNatClampNeg : Nat) : Int) = tk3.toInt by show ((tk3.toInt.toNat : Nat) : Int) = tk3.toInt; omega) (by omega) (by omega) hw26.2.2.1 hw26.1.2) | exact itM_s (b := (gl i.toInt.toNat).toInt) i37_6 rfl (show v29.toInt.toNat = i.toInt.toNat + 1 by omega) (mk_drop (by omega) z28) | exact itM_s (b := v42.toInt) i37_6 (by rw [e42]; rfl) (show v48.toInt.toNat = i.toInt.toNat + 1 by omega) (mk_up ef43 (show ((tk3.toNatClampNeg : Nat) : Int) = tk3.toInt by show ((tk3.toInt.toNat : Nat) : Int) = tk3.toInt; omega) (by omega) (by omega) (show v45.toInt = tk3.toInt + 1 by omega)) | exact itM_s (b := v42.toInt) i37_6 (by rw [e42]; rfl) (show v53.toInt.toNat = i.toInt.toNat + 1 by omega) (mk_end ef43 (show ((tk3.toNatClampNeg : Nat) : Int) = tk3.toInt by show ((tk3.toInt.toNat : Nat) : Int) = tk3.toInt; omega) (by omega) (by omega) hw52.2.2.1 hw52.1.2) | exact itM_s (b := (gl i.toInt.toNat).toInt) i37_6 rfl (show v55.toInt.toNat = i.toInt.toNat + 1 by omega) (mk_drop (by omega) z54)) (hP.sub [0, 1, 2, 3, 4] rfl) (hD.sub [0, 1, 2, 3, 4] (by decide) rfl) hS (lv_sub hl [1, 2, 3, 4, 0] rfl)
      exact J37 _ v30 tk ss ml mh mp rw wr tc gy go gt _ _ _ (Nat.lt_succ_self _) (by omega) (by omega) (by omega) (by omega) (fun _ _ => rfl) h6 (by first | (rw [show v4.toInt.toNat = 0 by omega]; exact rfl) | (rw [show v30.toInt.toNat = 0 by omega]; exact rfl)) (hP.sub [0, 1, 2, 3, 4] rfl) (hD.sub [0, 1, 2, 3, 4] (by decide) rfl) hS (lv_sub hl [1, 2, 3, 4, 0] rfl)
  ·
    have z2 := zi_nge0 c2
    refine lv_bipush (v := -12) hx hb dX7_receive_9 (by decide) ?_
    refine lv_topi (fun v56 e56 => ?_)
    have z56 : v56.toInt = (-12) := zi_c e56 (by decide)
    have hq57 : (((((0 ≤ ml.toInt ∧ ml.toInt ≤ 1) ∧ (0 ≤ mh.toInt ∧ mh.toInt ≤ 63) ∧ (0 ≤ wr.toInt ∧ wr.toInt ≤ 15) ∧ (0 ≤ ss.toInt ∧ ss.toInt ≤ 1) ∧ (0 ≤ rw.toInt ∧ rw.toInt ≤ 64)) ∧ (mp.toInt ≤ mp.toInt ∧ mp.toInt ≤ mp.toInt + 9066)) ∧ rwK ml.toInt rw.toInt) ∧ rcM nn.toInt mz.toInt (fun q : Nat => (gl q).toInt) ((go 0).toInt, (go 1).toInt, tk.toInt, ss.toInt, ml.toInt, mh.toInt, mp.toInt, rw.toInt, wr.toInt, tc.toInt) ((go 0).toInt, (go 1).toInt, tk.toInt, ss.toInt, ml.toInt, mh.toInt, mp.toInt, rw.toInt, wr.toInt, tc.toInt) v56.toInt) ∧ (0 ≤ ml.toInt ∧ ml.toInt ≤ 1) ∧ (0 ≤ tk.toInt ∧ tk.toInt ≤ 65) ∧ (tc.toInt ≤ tc.toInt ∧ tc.toInt ≤ tc.toInt + 9066) ∧ (nn.toInt < 0 → v56.toInt = -12 ∧ mz.toInt = mz.toInt) ∧ (0 ≤ nn.toInt → (0 ≤ v56.toInt ∧ v56.toInt ≤ mz.toInt) ∧ (mz.toInt ≤ nn.toInt → mz.toInt = 0) ∧ (nn.toInt < mz.toInt → mz.toInt = mz.toInt - nn.toInt)) ∧ (∀ j : Nat, (j : Int) < mz.toInt → gl j = gl (j + (mz.toInt - mz.toInt).toNat)) ∧ ∀ j, j < 58 → gy j = gy j := (by first | exact ⟨⟨⟨by omega, i37_5⟩, rcM_i i37_6 (by omega) (by omega) (show v9.toInt = tc3.toInt - tc.toInt by omega)⟩, by omega, by omega, by omega, by omega, by omega, fun j hj => by rw [i116_1 j, if_pos (by omega)]; exact congrArg gl (by omega), i37_4⟩ | exact ⟨⟨⟨by omega, i37_5⟩, rcM_i i37_6 (by omega) (by omega) (show v35.toInt = tc3.toInt - tc.toInt by omega)⟩, by omega, by omega, by omega, by omega, by omega, fun j hj => by rw [i116_1 j, if_pos (by omega)]; exact congrArg gl (by omega), i37_4⟩ | exact ⟨⟨⟨by omega, h6⟩, rcM_n (by omega) (by omega) (by omega)⟩, by omega, by omega, by omega, by omega, by omega, fun j hj => by rw [show (mz.toInt - mz.toInt).toNat = 0 by omega]; rfl, fun _ _ => rfl⟩)
    exact hret v56 (v1, mz, tk, ss, ml, mh, mp, rw, wr, tc, gl, gy, go, gt) _ _ _ _ dX7_receive_11 hq57 (hP.sub [0, 1, 2, 3, 4] rfl) (hD.sub [0, 1, 2, 3, 4] (by decide) rfl) hS

set_option maxHeartbeats 4000000 in
set_option maxRecDepth 100000 in
theorem c_Mo_told (l : Launch) (D : va_G) (cI cJ cB : ClassId) (aM : Nat) (bG : Nat) (bL : Nat) (bY : Nat) (bB : Nat) (bC : Nat) (bT : Nat) (th : Int32) (mw : Int32) (mz : Int32) (tk : Int32) (ss : Int32) (ml : Int32) (mh : Int32) (mp : Int32) (rw : Int32) (wr : Int32) (tc : Int32) (gt : Nat → Int32) (i : Int32) (j : Int32) (h1 : 0 ≤ tc.toInt ∧ tc.toInt ≤ 1000000000) :
    cti l yX7_told (wsOf yX7_told cX7_told 3 (some .int)) (rmL 0 0 0 0) D classes (tys3 cI cJ cB) [.ref aM, .int i, .int j] [(aM, .inr (6, [.int th, .int mw, .ref bG, .int mz, .ref bL, .ref bY, .ref bB, .ref bC, .int tk, .int ss, .int ml, .int mh, .int mp, .int rw, .int wr, .int tc, .ref bT])), (bT, .inl (cI, 2400, .inl gt))] (fun (r : Int32) (u : Int32) => tc.toInt = 0 → r.toInt = -1) (fun u : Int32 => ([(aM, .inr (6, [.int u, .int mw, .ref bG, .int mz, .ref bL, .ref bY, .ref bB, .ref bC, .int tk, .int ss, .int ml, .int mh, .int mp, .int rw, .int wr, .int tc, .ref bT])), (bT, .inl (cI, 2400, .inl gt))] : va_W)) := by
  refine cti.of (by first | exact plainFor_of_name (by decide) | decide +kernel) (Nat.le_of_ble_eq_true rfl) (fun p e s m args below meth c A ls Q h hret => ?_)
  obtain ⟨hx, hb, hml, hown, hts, hnm, hP, hK, hD, hA, hS, hZ, hN, hl⟩ := h
  have hown : s.vm.findClass RX7 = some m.cls := hown
  have hl : lv_has ls 3 [(0, .ref aM), (1, .int i), (2, .int j)] := hl
  have hP : va_P D classes [(aM, .inr (6, [.int th, .int mw, .ref bG, .int mz, .ref bL, .ref bY, .ref bB, .ref bC, .int tk, .int ss, .int ml, .int mh, .int mp, .int rw, .int wr, .int tc, .ref bT])), (bT, .inl (cI, 2400, .inl gt))] s.heap := hP
  have hD : va_D A [(aM, .inr (6, [.int th, .int mw, .ref bG, .int mz, .ref bL, .ref bY, .ref bB, .ref bC, .int tk, .int ss, .int ml, .int mh, .int mp, .int rw, .int wr, .int tc, .ref bT])), (bT, .inl (cI, 2400, .inl gt))] := hD
  have rg_th := zi_rg th
  have rg_mw := zi_rg mw
  have rg_mz := zi_rg mz
  have rg_tk := zi_rg tk
  have rg_ss := zi_rg ss
  have rg_ml := zi_rg ml
  have rg_mh := zi_rg mh
  have rg_mp := zi_rg mp
  have rg_rw := zi_rg rw
  have rg_wr := zi_rg wr
  have rg_tc := zi_rg tc
  have rg_i := zi_rg i
  have rg_j := zi_rg j
  refine lv_aload_n hx hb dX7_told_0 rfl (lv_at hl 0 rfl) ?_
  refine lv_iconst (v := 0) hx hb dX7_told_1 (by decide) ?_
  refine lv_topi (fun v1 e1 => ?_)
  have z1 : v1.toInt = 0 := zi_c e1 (by decide)
  refine va_put (D := D) (ci := 6) (v := .int v1) (ty := .int) (C := RX7) (T := TX7) (N := 17) hx hb hts in_X7 tyX7 tyX7_ok nmX7 hown hK hP hD hS 0 rfl rfl 0 (by decide) (hts _ wk163) (fun _ h9 => h9) rfl (by decide +kernel) rfl rfl (Nat.le_of_ble_eq_true rfl) dX7_told_2 (fun H locs hP1 hD1 hS1 => ?_)
  clear hP hD hS
  have hP : va_P D classes [(aM, .inr (6, [.int v1, .int mw, .ref bG, .int mz, .ref bL, .ref bY, .ref bB, .ref bC, .int tk, .int ss, .int ml, .int mh, .int mp, .int rw, .int wr, .int tc, .ref bT])), (bT, .inl (cI, 2400, .inl gt))] H := hP1
  have hD : va_D A [(aM, .inr (6, [.int v1, .int mw, .ref bG, .int mz, .ref bL, .ref bY, .ref bB, .ref bC, .int tk, .int ss, .int ml, .int mh, .int mp, .int rw, .int wr, .int tc, .ref bT])), (bT, .inl (cI, 2400, .inl gt))] := hD1
  have hS := hS1
  clear hP1 hD1 hS1
  refine lv_iload_n hx hb dX7_told_5 rfl (lv_at hl 1 rfl) ?_
  refine lv_if_lt (tgt := 39) hx hb dX7_told_6 (by decide) (fun c2 => ?_) (fun c2 => ?_)
  ·
    have z2 := zi_lt0 c2
    refine lv_iconst (v := -1) hx hb dX7_told_39 (by decide) ?_
    refine lv_topi (fun v3 e3 => ?_)
    have z3 : v3.toInt = (-1) := zi_c e3 (by decide)
    refine lv_goto (tgt := 58) hx hb dX7_told_40 (by decide) ?_
    have hq4 : tc.toInt = 0 → v3.toInt = -1 := (by omega)
    exact hret v3 v1 _ _ _ _ dX7_told_58 hq4 (hP.sub [0, 1] rfl) (hD.sub [0, 1] (by decide) rfl) hS
  ·
    have z2 := zi_nlt0 c2
    refine lv_iload_n hx hb dX7_told_9 rfl (lv_at hl 1 rfl) ?_
    refine lv_aload_n hx hb dX7_told_10 rfl (lv_at hl 0 rfl) ?_
    refine va_get (D := D) (ci := 6) (v := .int tc) (C := RX7) (T := TX7) (N := 17) hx hb hts in_X7 hown hK hP 0 rfl rfl 15 (by decide) (hts _ wk375) (fun _ h9 => h9) rfl dX7_told_11 ?_
    refine lv_icmp_ge (tgt := 39) hx hb dX7_told_14 (by decide) (fun c5 => ?_) (fun c5 => ?_)
    ·
      have z5 := zi_le c5
      refine lv_iconst (v := -1) hx hb dX7_told_39 (by decide) ?_
      refine lv_topi (fun v6 e6 => ?_)
      have z6 : v6.toInt = (-1) := zi_c e6 (by decide)
      refine lv_goto (tgt := 58) hx hb dX7_told_40 (by decide) ?_
      have hq7 : tc.toInt = 0 → v6.toInt = -1 := (by omega)
      exact hret v6 v1 _ _ _ _ dX7_told_58 hq7 (hP.sub [0, 1] rfl) (hD.sub [0, 1] (by decide) rfl) hS
    ·
      have z5 := zi_nle c5
      refine lv_iload_n hx hb dX7_told_17 rfl (lv_at hl 1 rfl) ?_
      refine lv_aload_n hx hb dX7_told_18 rfl (lv_at hl 0 rfl) ?_
      refine va_get (D := D) (ci := 6) (v := .int tc) (C := RX7) (T := TX7) (N := 17) hx hb hts in_X7 hown hK hP 0 rfl rfl 15 (by decide) (hts _ wk375) (fun _ h9 => h9) rfl dX7_told_19 ?_
      refine lv_sipush (v := 300) hx hb dX7_told_22 (by decide) ?_
      refine lv_topi (fun v8 e8 => ?_)
      have z8 : v8.toInt = 300 := zi_c e8 (by decide)
      refine lv_isub hx hb dX7_told_25 ?_
      refine lv_topi (fun v9 e9 => ?_)
      first | have z9 := zi_sub e9 (by omega) | skip
      refine lv_icmp_lt (tgt := 39) hx hb dX7_told_26 (by decide) (fun c10 => ?_) (fun c10 => ?_)
      ·
        have z10 := zi_lt c10
        refine lv_iconst (v := -1) hx hb dX7_told_39 (by decide) ?_
        refine lv_topi (fun v11 e11 => ?_)
        have z11 : v11.toInt = (-1) := zi_c e11 (by decide)
        refine lv_goto (tgt := 58) hx hb dX7_told_40 (by decide) ?_
        have hq12 : tc.toInt = 0 → v11.toInt = -1 := (by omega)
        exact hret v11 v1 _ _ _ _ dX7_told_58 hq12 (hP.sub [0, 1] rfl) (hD.sub [0, 1] (by decide) rfl) hS
      ·
        have z10 := zi_nlt c10
        refine lv_iload_n hx hb dX7_told_29 rfl (lv_at hl 2 rfl) ?_
        refine lv_if_lt (tgt := 39) hx hb dX7_told_30 (by decide) (fun c13 => ?_) (fun c13 => ?_)
        ·
          have z13 := zi_lt0 c13
          refine lv_iconst (v := -1) hx hb dX7_told_39 (by decide) ?_
          refine lv_topi (fun v14 e14 => ?_)
          have z14 : v14.toInt = (-1) := zi_c e14 (by decide)
          refine lv_goto (tgt := 58) hx hb dX7_told_40 (by decide) ?_
          have hq15 : tc.toInt = 0 → v14.toInt = -1 := (by omega)
          exact hret v14 v1 _ _ _ _ dX7_told_58 hq15 (hP.sub [0, 1] rfl) (hD.sub [0, 1] (by decide) rfl) hS
        ·
          have z13 := zi_nlt0 c13
          refine lv_iload_n hx hb dX7_told_33 rfl (lv_at hl 2 rfl) ?_
          refine lv_bipush (v := 7) hx hb dX7_told_34 (by decide) ?_
          refine lv_topi (fun v16 e16 => ?_)
          have z16 : v16.toInt = 7 := zi_c e16 (by decide)
          refine lv_icmp_le (tgt := 43) hx hb dX7_told_36 (by decide) (fun c17 => ?_) (fun c17 => ?_)
          ·
            have z17 := zi_le c17
            refine lv_aload_n hx hb dX7_told_43 rfl (lv_at hl 0 rfl) ?_
            refine va_get (D := D) (ci := 6) (v := .ref bT) (C := RX7) (T := TX7) (N := 17) hx hb hts in_X7 hown hK hP 0 rfl rfl 16 (by decide) (hts _ wk66) (fun _ h9 => h9) rfl dX7_told_44 ?_
            refine lv_bipush (v := 8) hx hb dX7_told_47 (by decide) ?_
            refine lv_topi (fun v18 e18 => ?_)
            have z18 : v18.toInt = 8 := zi_c e18 (by decide)
            refine lv_iload_n hx hb dX7_told_49 rfl (lv_at hl 1 rfl) ?_
            refine lv_sipush (v := 300) hx hb dX7_told_50 (by decide) ?_
            refine lv_topi (fun v19 e19 => ?_)
            have z19 : v19.toInt = 300 := zi_c e19 (by decide)
            refine lv_irem hx hb dX7_told_53 (zi_ne0' (z := 300) (by omega) (by decide)) ?_
            refine lv_topi (fun v20 e20 => ?_)
            first | have z20 := zi_rem (k := 300) e20 (by omega) (by omega) | skip
            refine lv_imul hx hb dX7_told_54 ?_
            refine lv_topi (fun v21 e21 => ?_)
            first | have z21 := zi_mulL (k := 8) e21 (by omega) (by omega) | skip
            refine lv_iload_n hx hb dX7_told_55 rfl (lv_at hl 2 rfl) ?_
            refine lv_iadd hx hb dX7_told_56 ?_
            refine lv_topi (fun v22 e22 => ?_)
            first | have z22 := zi_add e22 (by omega) | skip
            refine va_iald hx hb hK hP 1 0 rfl rfl (zi_in (by omega)) dX7_told_57 ?_
            refine lv_topi (fun v23 e23 => ?_)
            have hq24 : tc.toInt = 0 → v23.toInt = -1 := (by omega)
            exact hret v23 v1 _ _ _ _ dX7_told_58 hq24 (hP.sub [0, 1] rfl) (hD.sub [0, 1] (by decide) rfl) hS
          ·
            have z17 := zi_nle c17
            refine lv_iconst (v := -1) hx hb dX7_told_39 (by decide) ?_
            refine lv_topi (fun v25 e25 => ?_)
            have z25 : v25.toInt = (-1) := zi_c e25 (by decide)
            refine lv_goto (tgt := 58) hx hb dX7_told_40 (by decide) ?_
            have hq26 : tc.toInt = 0 → v25.toInt = -1 := (by omega)
            exact hret v25 v1 _ _ _ _ dX7_told_58 hq26 (hP.sub [0, 1] rfl) (hD.sub [0, 1] (by decide) rfl) hS

set_option maxHeartbeats 4000000 in
set_option maxRecDepth 100000 in
theorem c_Mo_receiver (l : Launch) (D : va_G) (cI cJ cB : ClassId) (aM : Nat) (bG : Nat) (bL : Nat) (bY : Nat) (bB : Nat) (bC : Nat) (bT : Nat) (th : Int32) (mw : Int32) (mz : Int32) (tk : Int32) (ss : Int32) (ml : Int32) (mh : Int32) (mp : Int32) (rw : Int32) (wr : Int32) (tc : Int32) (x : Int32) (h1 : 0 ≤ ml.toInt ∧ ml.toInt ≤ 1) :
    cti l yX7_receiver (wsOf yX7_receiver cX7_receiver 2 (some .int)) (rmL 0 0 0 0) D classes (tys3 cI cJ cB) [.ref aM, .int x] [(aM, .inr (6, [.int th, .int mw, .ref bG, .int mz, .ref bL, .ref bY, .ref bB, .ref bC, .int tk, .int ss, .int ml, .int mh, .int mp, .int rw, .int wr, .int tc, .ref bT]))] (fun (r : Int32) (u : Int32) => (x.toInt = 0 → r.toInt = ml.toInt) ∧ (x.toInt = 1 → r.toInt = mh.toInt) ∧ (x.toInt = 2 → r.toInt = mp.toInt) ∧ (x.toInt = 3 → r.toInt = tk.toInt) ∧ (x.toInt = 4 → r.toInt = tc.toInt) ∧ (x.toInt = 5 → r.toInt = wr.toInt) ∧ ((x.toInt < 0 ∨ 5 < x.toInt) → r.toInt = -12)) (fun u : Int32 => ([(aM, .inr (6, [.int u, .int mw, .ref bG, .int mz, .ref bL, .ref bY, .ref bB, .ref bC, .int tk, .int ss, .int ml, .int mh, .int mp, .int rw, .int wr, .int tc, .ref bT]))] : va_W)) := by
  refine cti.of (by first | exact plainFor_of_name (by decide) | decide +kernel) (Nat.le_of_ble_eq_true rfl) (fun p e s m args below meth c A ls Q h hret => ?_)
  obtain ⟨hx, hb, hml, hown, hts, hnm, hP, hK, hD, hA, hS, hZ, hN, hl⟩ := h
  have hown : s.vm.findClass RX7 = some m.cls := hown
  have hl : lv_has ls 2 [(0, .ref aM), (1, .int x)] := hl
  have hP : va_P D classes [(aM, .inr (6, [.int th, .int mw, .ref bG, .int mz, .ref bL, .ref bY, .ref bB, .ref bC, .int tk, .int ss, .int ml, .int mh, .int mp, .int rw, .int wr, .int tc, .ref bT]))] s.heap := hP
  have hD : va_D A [(aM, .inr (6, [.int th, .int mw, .ref bG, .int mz, .ref bL, .ref bY, .ref bB, .ref bC, .int tk, .int ss, .int ml, .int mh, .int mp, .int rw, .int wr, .int tc, .ref bT]))] := hD
  have rg_th := zi_rg th
  have rg_mw := zi_rg mw
  have rg_mz := zi_rg mz
  have rg_tk := zi_rg tk
  have rg_ss := zi_rg ss
  have rg_ml := zi_rg ml
  have rg_mh := zi_rg mh
  have rg_mp := zi_rg mp
  have rg_rw := zi_rg rw
  have rg_wr := zi_rg wr
  have rg_tc := zi_rg tc
  have rg_x := zi_rg x
  refine lv_aload_n hx hb dX7_receiver_0 rfl (lv_at hl 0 rfl) ?_
  refine lv_iconst (v := 0) hx hb dX7_receiver_1 (by decide) ?_
  refine lv_topi (fun v1 e1 => ?_)
  have z1 : v1.toInt = 0 := zi_c e1 (by decide)
  refine va_put (D := D) (ci := 6) (v := .int v1) (ty := .int) (C := RX7) (T := TX7) (N := 17) hx hb hts in_X7 tyX7 tyX7_ok nmX7 hown hK hP hD hS 0 rfl rfl 0 (by decide) (hts _ wk163) (fun _ h9 => h9) rfl (by decide +kernel) rfl rfl (Nat.le_of_ble_eq_true rfl) dX7_receiver_2 (fun H locs hP1 hD1 hS1 => ?_)
  clear hP hD hS
  have hP : va_P D classes [(aM, .inr (6, [.int v1, .int mw, .ref bG, .int mz, .ref bL, .ref bY, .ref bB, .ref bC, .int tk, .int ss, .int ml, .int mh, .int mp, .int rw, .int wr, .int tc, .ref bT]))] H := hP1
  have hD : va_D A [(aM, .inr (6, [.int v1, .int mw, .ref bG, .int mz, .ref bL, .ref bY, .ref bB, .ref bC, .int tk, .int ss, .int ml, .int mh, .int mp, .int rw, .int wr, .int tc, .ref bT]))] := hD1
  have hS := hS1
  clear hP1 hD1 hS1
  refine lv_iload_n hx hb dX7_receiver_5 rfl (lv_at hl 1 rfl) ?_
  have hs2 : (x.toInt < 0 ∨ 5 < x.toInt) ∨ x.toInt = 0 ∨ x.toInt = 1 ∨ x.toInt = 2 ∨ x.toInt = 3 ∨ x.toInt = 4 ∨ x.toInt = 5 := by omega
  rcases hs2 with z2 | z2 | z2 | z2 | z2 | z2 | z2
  ·
    refine lv_tableOut (tgt := 82) hx hb dX7_receiver_6 z2 (by decide) ?_
    refine lv_bipush (v := -12) hx hb dX7_receiver_82 (by decide) ?_
    refine lv_topi (fun v3 e3 => ?_)
    have z3 : v3.toInt = (-12) := zi_c e3 (by decide)
    have hq4 : (x.toInt = 0 → v3.toInt = ml.toInt) ∧ (x.toInt = 1 → v3.toInt = mh.toInt) ∧ (x.toInt = 2 → v3.toInt = mp.toInt) ∧ (x.toInt = 3 → v3.toInt = tk.toInt) ∧ (x.toInt = 4 → v3.toInt = tc.toInt) ∧ (x.toInt = 5 → v3.toInt = wr.toInt) ∧ ((x.toInt < 0 ∨ 5 < x.toInt) → v3.toInt = -12) := (by omega)
    exact hret v3 v1 _ _ _ _ dX7_receiver_84 hq4 (hP.sub [0] rfl) (hD.sub [0] (by decide) rfl) hS
  ·
    refine lv_tableIn (tgt := 44) hx hb dX7_receiver_6 (by omega) (by omega) (by rw [z2]; rfl) (by decide) ?_
    refine lv_aload_n hx hb dX7_receiver_44 rfl (lv_at hl 0 rfl) ?_
    refine va_get (D := D) (ci := 6) (v := .int ml) (C := RX7) (T := TX7) (N := 17) hx hb hts in_X7 hown hK hP 0 rfl rfl 10 (by decide) (hts _ wk382) (fun _ h9 => h9) rfl dX7_receiver_45 ?_
    refine lv_if_eq (tgt := 55) hx hb dX7_receiver_48 (by decide) (fun c5 => ?_) (fun c5 => ?_)
    ·
      have z5 := zi_eq0 c5
      refine lv_iconst (v := 0) hx hb dX7_receiver_55 (by decide) ?_
      refine lv_topi (fun v6 e6 => ?_)
      have z6 : v6.toInt = 0 := zi_c e6 (by decide)
      have hq7 : (x.toInt = 0 → v6.toInt = ml.toInt) ∧ (x.toInt = 1 → v6.toInt = mh.toInt) ∧ (x.toInt = 2 → v6.toInt = mp.toInt) ∧ (x.toInt = 3 → v6.toInt = tk.toInt) ∧ (x.toInt = 4 → v6.toInt = tc.toInt) ∧ (x.toInt = 5 → v6.toInt = wr.toInt) ∧ ((x.toInt < 0 ∨ 5 < x.toInt) → v6.toInt = -12) := (by omega)
      exact hret v6 v1 _ _ _ _ dX7_receiver_56 hq7 (hP.sub [0] rfl) (hD.sub [0] (by decide) rfl) hS
    ·
      have z5 := zi_ne0 c5
      refine lv_iconst (v := 1) hx hb dX7_receiver_51 (by decide) ?_
      refine lv_topi (fun v8 e8 => ?_)
      have z8 : v8.toInt = 1 := zi_c e8 (by decide)
      refine lv_goto (tgt := 56) hx hb dX7_receiver_52 (by decide) ?_
      have hq9 : (x.toInt = 0 → v8.toInt = ml.toInt) ∧ (x.toInt = 1 → v8.toInt = mh.toInt) ∧ (x.toInt = 2 → v8.toInt = mp.toInt) ∧ (x.toInt = 3 → v8.toInt = tk.toInt) ∧ (x.toInt = 4 → v8.toInt = tc.toInt) ∧ (x.toInt = 5 → v8.toInt = wr.toInt) ∧ ((x.toInt < 0 ∨ 5 < x.toInt) → v8.toInt = -12) := (by omega)
      exact hret v8 v1 _ _ _ _ dX7_receiver_56 hq9 (hP.sub [0] rfl) (hD.sub [0] (by decide) rfl) hS
  ·
    refine lv_tableIn (tgt := 57) hx hb dX7_receiver_6 (by omega) (by omega) (by rw [z2]; rfl) (by decide) ?_
    refine lv_aload_n hx hb dX7_receiver_57 rfl (lv_at hl 0 rfl) ?_
    refine va_get (D := D) (ci := 6) (v := .int mh) (C := RX7) (T := TX7) (N := 17) hx hb hts in_X7 hown hK hP 0 rfl rfl 11 (by decide) (hts _ wk383) (fun _ h9 => h9) rfl dX7_receiver_58 ?_
    have hq10 : (x.toInt = 0 → mh.toInt = ml.toInt) ∧ (x.toInt = 1 → mh.toInt = mh.toInt) ∧ (x.toInt = 2 → mh.toInt = mp.toInt) ∧ (x.toInt = 3 → mh.toInt = tk.toInt) ∧ (x.toInt = 4 → mh.toInt = tc.toInt) ∧ (x.toInt = 5 → mh.toInt = wr.toInt) ∧ ((x.toInt < 0 ∨ 5 < x.toInt) → mh.toInt = -12) := (by omega)
    exact hret mh v1 _ _ _ _ dX7_receiver_61 hq10 (hP.sub [0] rfl) (hD.sub [0] (by decide) rfl) hS
  ·
    refine lv_tableIn (tgt := 62) hx hb dX7_receiver_6 (by omega) (by omega) (by rw [z2]; rfl) (by decide) ?_
    refine lv_aload_n hx hb dX7_receiver_62 rfl (lv_at hl 0 rfl) ?_
    refine va_get (D := D) (ci := 6) (v := .int mp) (C := RX7) (T := TX7) (N := 17) hx hb hts in_X7 hown hK hP 0 rfl rfl 12 (by decide) (hts _ wk390) (fun _ h9 => h9) rfl dX7_receiver_63 ?_
    have hq11 : (x.toInt = 0 → mp.toInt = ml.toInt) ∧ (x.toInt = 1 → mp.toInt = mh.toInt) ∧ (x.toInt = 2 → mp.toInt = mp.toInt) ∧ (x.toInt = 3 → mp.toInt = tk.toInt) ∧ (x.toInt = 4 → mp.toInt = tc.toInt) ∧ (x.toInt = 5 → mp.toInt = wr.toInt) ∧ ((x.toInt < 0 ∨ 5 < x.toInt) → mp.toInt = -12) := (by omega)
    exact hret mp v1 _ _ _ _ dX7_receiver_66 hq11 (hP.sub [0] rfl) (hD.sub [0] (by decide) rfl) hS
  ·
    refine lv_tableIn (tgt := 67) hx hb dX7_receiver_6 (by omega) (by omega) (by rw [z2]; rfl) (by decide) ?_
    refine lv_aload_n hx hb dX7_receiver_67 rfl (lv_at hl 0 rfl) ?_
    refine va_get (D := D) (ci := 6) (v := .int tk) (C := RX7) (T := TX7) (N := 17) hx hb hts in_X7 hown hK hP 0 rfl rfl 8 (by decide) (hts _ wk377) (fun _ h9 => h9) rfl dX7_receiver_68 ?_
    have hq12 : (x.toInt = 0 → tk.toInt = ml.toInt) ∧ (x.toInt = 1 → tk.toInt = mh.toInt) ∧ (x.toInt = 2 → tk.toInt = mp.toInt) ∧ (x.toInt = 3 → tk.toInt = tk.toInt) ∧ (x.toInt = 4 → tk.toInt = tc.toInt) ∧ (x.toInt = 5 → tk.toInt = wr.toInt) ∧ ((x.toInt < 0 ∨ 5 < x.toInt) → tk.toInt = -12) := (by omega)
    exact hret tk v1 _ _ _ _ dX7_receiver_71 hq12 (hP.sub [0] rfl) (hD.sub [0] (by decide) rfl) hS
  ·
    refine lv_tableIn (tgt := 72) hx hb dX7_receiver_6 (by omega) (by omega) (by rw [z2]; rfl) (by decide) ?_
    refine lv_aload_n hx hb dX7_receiver_72 rfl (lv_at hl 0 rfl) ?_
    refine va_get (D := D) (ci := 6) (v := .int tc) (C := RX7) (T := TX7) (N := 17) hx hb hts in_X7 hown hK hP 0 rfl rfl 15 (by decide) (hts _ wk375) (fun _ h9 => h9) rfl dX7_receiver_73 ?_
    have hq13 : (x.toInt = 0 → tc.toInt = ml.toInt) ∧ (x.toInt = 1 → tc.toInt = mh.toInt) ∧ (x.toInt = 2 → tc.toInt = mp.toInt) ∧ (x.toInt = 3 → tc.toInt = tk.toInt) ∧ (x.toInt = 4 → tc.toInt = tc.toInt) ∧ (x.toInt = 5 → tc.toInt = wr.toInt) ∧ ((x.toInt < 0 ∨ 5 < x.toInt) → tc.toInt = -12) := (by omega)
    exact hret tc v1 _ _ _ _ dX7_receiver_76 hq13 (hP.sub [0] rfl) (hD.sub [0] (by decide) rfl) hS
  ·
    refine lv_tableIn (tgt := 77) hx hb dX7_receiver_6 (by omega) (by omega) (by rw [z2]; rfl) (by decide) ?_
    refine lv_aload_n hx hb dX7_receiver_77 rfl (lv_at hl 0 rfl) ?_
    refine va_get (D := D) (ci := 6) (v := .int wr) (C := RX7) (T := TX7) (N := 17) hx hb hts in_X7 hown hK hP 0 rfl rfl 14 (by decide) (hts _ wk385) (fun _ h9 => h9) rfl dX7_receiver_78 ?_
    have hq14 : (x.toInt = 0 → wr.toInt = ml.toInt) ∧ (x.toInt = 1 → wr.toInt = mh.toInt) ∧ (x.toInt = 2 → wr.toInt = mp.toInt) ∧ (x.toInt = 3 → wr.toInt = tk.toInt) ∧ (x.toInt = 4 → wr.toInt = tc.toInt) ∧ (x.toInt = 5 → wr.toInt = wr.toInt) ∧ ((x.toInt < 0 ∨ 5 < x.toInt) → wr.toInt = -12) := (by omega)
    exact hret wr v1 _ _ _ _ dX7_receiver_81 hq14 (hP.sub [0] rfl) (hD.sub [0] (by decide) rfl) hS
