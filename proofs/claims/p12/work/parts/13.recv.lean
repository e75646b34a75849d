set_option maxHeartbeats 4000000 in
set_option maxRecDepth 100000 in
theorem c_Gr_count (l : Launch) (D : va_G) (cI cJ cB : ClassId) (aQ : Nat) (aT : Nat) (aP : Nat) (gc : Int32)  :
    cti l yX1_count (wsOf yX1_count cX1_count 1 (some .int)) (rmL 0 0 0 0) D classes (tys3 cI cJ cB) [.ref aQ] [(aQ, .inr (0, [.ref aT, .ref aP, .int gc]))] (fun (r : Int32) (u : Unit) => r.toInt = gc.toInt) (fun u : Unit => ([(aQ, .inr (0, [.ref aT, .ref aP, .int gc]))] : va_W)) := by
  refine cti.of (by first | exact plainFor_of_name (by decide) | decide +kernel) (Nat.le_of_ble_eq_true rfl) (fun p e s m args below meth c A ls Q h hret => ?_)
  obtain ⟨hx, hb, hml, hown, hts, hnm, hP, hK, hD, hA, hS, hZ, hN, hl⟩ := h
  have hown : s.vm.findClass RX1 = some m.cls := hown
  have hl : lv_has ls 1 [(0, .ref aQ)] := hl
  have hP : va_P D classes [(aQ, .inr (0, [.ref aT, .ref aP, .int gc]))] s.heap := hP
  have hD : va_D A [(aQ, .inr (0, [.ref aT, .ref aP, .int gc]))] := hD
  have rg_gc := zi_rg gc
  refine lv_aload_n hx hb dX1_count_0 rfl (lv_at hl 0 rfl) ?_
  refine va_get (D := D) (ci := 0) (v := .int gc) (C := RX1) (T := TX1) (N := 3) hx hb hts in_X1 hown hK hP 0 rfl rfl 2 (by decide) (hts _ wk314) (fun _ h9 => h9) rfl dX1_count_1 ?_
  have hq1 : gc.toInt = gc.toInt := (by omega)
  exact hret gc () _ _ _ _ dX1_count_4 hq1 (hP.sub [0] rfl) (hD.sub [0] (by decide) rfl) hS

set_option maxHeartbeats 4000000 in
set_option maxRecDepth 100000 in
theorem c_Gr_slotOf (l : Launch) (D : va_G) (cI cJ cB : ClassId) (i : Int32) (h1 : 0 ≤ i.toInt) :
    cti l yX1_slotOf (wsOf yX1_slotOf cX1_slotOf 1 (some .int)) (rmL 1 22 0 0) D classes (tys3 cI cJ cB) [.int i] [] (fun (r : Int32) (u : Unit) => 0 ≤ r.toInt ∧ r.toInt < 300) (fun u : Unit => ([] : va_W)) := by
  refine cti.of (by first | exact plainFor_of_name (by decide) | decide +kernel) (Nat.le_of_ble_eq_true rfl) (fun p e s m args below meth c A ls Q h hret => ?_)
  obtain ⟨hx, hb, hml, hown, hts, hnm, hP, hK, hD, hA, hS, hZ, hN, hl⟩ := h
  have hown : s.vm.findClass RX1 = some m.cls := hown
  have hl : lv_has ls 1 [(0, .int i)] := hl
  have hP : va_P D classes [] s.heap := hP
  have hD : va_D A [] := hD
  have rg_i := zi_rg i
  refine lv_iload_n hx hb dX1_slotOf_0 rfl (lv_at hl 0 rfl) ?_
  refine lv_sipush (v := 300) hx hb dX1_slotOf_1 (by decide) ?_
  refine lv_topi (fun v1 e1 => ?_)
  have z1 : v1.toInt = 300 := zi_c e1 (by decide)
  have hh2 : 0 ≤ i.toInt := (by omega)
  have hh3 : 0 < v1.toInt := (by omega)
  refine call_i (wc := []) (wr := []) (run_S (As := [.int i, .int v1]) (rest := []) ks_RX1_37 ⟨by decide, by decide⟩ ⟨rfl, rfl⟩ ⟨hx, hb, hml, hown, hts⟩ (c_JM_floorMod l D cI cJ cB i v1 hh2 hh3 _) ct_blind (ct_pre (wc := []) hK hP hD hS hA hZ hN [] (by decide) rfl rfl) rfl hl.1 rfl (Nat.le_of_ble_eq_true rfl) dX1_slotOf_4 ⟨Nat.le_of_ble_eq_true rfl, Nat.le_of_ble_eq_true rfl⟩) hP hD hS hA [] [] rfl rfl (by decide) (by decide) (fun r4 u H locs hw4 hP1 hD1 hS1 => ?_)
  have hw4 : (0 ≤ r4.toInt ∧ r4.toInt < v1.toInt) ∧ r4.toInt = i.toInt % v1.toInt := hw4
  clear hP hD hS
  have hP : va_P D classes [] H := hP1
  have hD : va_D A [] := hD1
  have hS := hS1
  clear hP1 hD1 hS1
  have rg_r4 := zi_rg r4
  have hq5 : 0 ≤ r4.toInt ∧ r4.toInt < 300 := (by omega)
  exact hret r4 () _ _ _ _ dX1_slotOf_7 hq5 (hP.sub [] rfl) (hD.sub [] (by decide) rfl) hS

set_option maxHeartbeats 4000000 in
set_option maxRecDepth 100000 in
theorem c_Gr_isKept (l : Launch) (D : va_G) (cI cJ cB : ClassId) (aQ : Nat) (aT : Nat) (aP : Nat) (gc : Int32) (i : Int32)  :
    cti l yX1_isKept (wsOf yX1_isKept cX1_isKept 2 (some .boolean)) (rmL 0 0 0 0) D classes (tys3 cI cJ cB) [.ref aQ, .int i] [(aQ, .inr (0, [.ref aT, .ref aP, .int gc]))] (fun (r : Int32) (u : Unit) => (r.toInt = 1 ∧ 0 ≤ i.toInt ∧ i.toInt < gc.toInt) ∨ r.toInt = 0) (fun u : Unit => ([(aQ, .inr (0, [.ref aT, .ref aP, .int gc]))] : va_W)) := by
  refine ctz.of (by first | exact plainFor_of_name (by decide) | decide +kernel) (Nat.le_of_ble_eq_true rfl) (fun p e s m args below meth c A ls Q h hret => ?_)
  obtain ⟨hx, hb, hml, hown, hts, hnm, hP, hK, hD, hA, hS, hZ, hN, hl⟩ := h
  have hown : s.vm.findClass RX1 = some m.cls := hown
  have hl : lv_has ls 2 [(0, .ref aQ), (1, .int i)] := hl
  have hP : va_P D classes [(aQ, .inr (0, [.ref aT, .ref aP, .int gc]))] s.heap := hP
  have hD : va_D A [(aQ, .inr (0, [.ref aT, .ref aP, .int gc]))] := hD
  have rg_gc := zi_rg gc
  have rg_i := zi_rg i
  refine lv_iload_n hx hb dX1_isKept_0 rfl (lv_at hl 1 rfl) ?_
  refine lv_if_lt (tgt := 28) hx hb dX1_isKept_1 (by decide) (fun c1 => ?_) (fun c1 => ?_)
  ·
    have z1 := zi_lt0 c1
    refine lv_iconst (v := 0) hx hb dX1_isKept_28 (by decide) ?_
    refine lv_topi (fun v2 e2 => ?_)
    have z2 : v2.toInt = 0 := zi_c e2 (by decide)
    have hq3 : (v2.toInt = 1 ∧ 0 ≤ i.toInt ∧ i.toInt < gc.toInt) ∨ v2.toInt = 0 := (by omega)
    exact hret v2 () _ _ _ _ dX1_isKept_29 (zb_n (by omega)) hq3 (hP.sub [0] rfl) (hD.sub [0] (by decide) rfl) hS
  ·
    have z1 := zi_nlt0 c1
    refine lv_iload_n hx hb dX1_isKept_4 rfl (lv_at hl 1 rfl) ?_
    refine lv_aload_n hx hb dX1_isKept_5 rfl (lv_at hl 0 rfl) ?_
    refine va_get (D := D) (ci := 0) (v := .int gc) (C := RX1) (T := TX1) (N := 3) hx hb hts in_X1 hown hK hP 0 rfl rfl 2 (by decide) (hts _ wk314) (fun _ h9 => h9) rfl dX1_isKept_6 ?_
    refine lv_icmp_ge (tgt := 28) hx hb dX1_isKept_9 (by decide) (fun c4 => ?_) (fun c4 => ?_)
    ·
      have z4 := zi_le c4
      refine lv_iconst (v := 0) hx hb dX1_isKept_28 (by decide) ?_
      refine lv_topi (fun v5 e5 => ?_)
      have z5 : v5.toInt = 0 := zi_c e5 (by decide)
      have hq6 : (v5.toInt = 1 ∧ 0 ≤ i.toInt ∧ i.toInt < gc.toInt) ∨ v5.toInt = 0 := (by omega)
      exact hret v5 () _ _ _ _ dX1_isKept_29 (zb_n (by omega)) hq6 (hP.sub [0] rfl) (hD.sub [0] (by decide) rfl) hS
    ·
      have z4 := zi_nle c4
      refine lv_iload_n hx hb dX1_isKept_12 rfl (lv_at hl 1 rfl) ?_
      refine lv_aload_n hx hb dX1_isKept_13 rfl (lv_at hl 0 rfl) ?_
      refine va_get (D := D) (ci := 0) (v := .int gc) (C := RX1) (T := TX1) (N := 3) hx hb hts in_X1 hown hK hP 0 rfl rfl 2 (by decide) (hts _ wk314) (fun _ h9 => h9) rfl dX1_isKept_14 ?_
      refine lv_sipush (v := 300) hx hb dX1_isKept_17 (by decide) ?_
      refine lv_topi (fun v7 e7 => ?_)
      have z7 : v7.toInt = 300 := zi_c e7 (by decide)
      refine lv_isub hx hb dX1_isKept_20 ?_
      refine lv_topi (fun v8 e8 => ?_)
      first | have z8 := zi_sub e8 (by omega) | skip
      refine lv_icmp_lt (tgt := 28) hx hb dX1_isKept_21 (by decide) (fun c9 => ?_) (fun c9 => ?_)
      ·
        have z9 := zi_lt c9
        refine lv_iconst (v := 0) hx hb dX1_isKept_28 (by decide) ?_
        refine lv_topi (fun v10 e10 => ?_)
        have z10 : v10.toInt = 0 := zi_c e10 (by decide)
        have hq11 : (v10.toInt = 1 ∧ 0 ≤ i.toInt ∧ i.toInt < gc.toInt) ∨ v10.toInt = 0 := (by omega)
        exact hret v10 () _ _ _ _ dX1_isKept_29 (zb_n (by omega)) hq11 (hP.sub [0] rfl) (hD.sub [0] (by decide) rfl) hS
      ·
        have z9 := zi_nlt c9
        refine lv_iconst (v := 1) hx hb dX1_isKept_24 (by decide) ?_
        refine lv_topi (fun v12 e12 => ?_)
        have z12 : v12.toInt = 1 := zi_c e12 (by decide)
        refine lv_goto (tgt := 29) hx hb dX1_isKept_25 (by decide) ?_
        have hq13 : (v12.toInt = 1 ∧ 0 ≤ i.toInt ∧ i.toInt < gc.toInt) ∨ v12.toInt = 0 := (by omega)
        exact hret v12 () _ _ _ _ dX1_isKept_29 (zb_n (by omega)) hq13 (hP.sub [0] rfl) (hD.sub [0] (by decide) rfl) hS

set_option maxHeartbeats 4000000 in
set_option maxRecDepth 100000 in
theorem c_Gr_keep (l : Launch) (D : va_G) (cI cJ cB : ClassId) (aQ : Nat) (aT : Nat) (aP : Nat) (gc : Int32) (ty : Int32) (pl : Int64) (ft : Nat → Int32) (fp : Nat → Int64) (h1 : 0 ≤ gc.toInt ∧ gc.toInt ≤ 1000000000) :
    ctv l yX1_keep (wsOf yX1_keep cX1_keep 5 none) (rmL 2 42 0 0) D classes (tys3 cI cJ cB) [.ref aQ, .int ty, .long pl] [(aQ, .inr (0, [.ref aT, .ref aP, .int gc])), (aT, .inl (cI, 300, .inl ft)), (aP, .inl (cJ, 300, .inr (.inl fp)))] (fun u : Int32 × (Nat → Int32) × (Nat → Int64) => u.1.toInt = gc.toInt + 1) (fun u : Int32 × (Nat → Int32) × (Nat → Int64) => ([(aQ, .inr (0, [.ref aT, .ref aP, .int u.1])), (aT, .inl (cI, 300, .inl u.2.1)), (aP, .inl (cJ, 300, .inr (.inl u.2.2)))] : va_W)) 0 0 := by
  refine ctv.of (by first | exact plainFor_of_name (by decide) | decide +kernel) (Nat.le_of_ble_eq_true rfl) (fun p e s m args below meth c A ls Q h hret => ?_)
  obtain ⟨hx, hb, hml, hown, hts, hnm, hP, hK, hD, hA, hS, hZ, hN, hl⟩ := h
  have hown : s.vm.findClass RX1 = some m.cls := hown
  have hl : lv_has ls 5 [(0, .ref aQ), (1, .int ty), (2, .long pl)] := hl
  have hP : va_P D classes [(aQ, .inr (0, [.ref aT, .ref aP, .int gc])), (aT, .inl (cI, 300, .inl ft)), (aP, .inl (cJ, 300, .inr (.inl fp)))] s.heap := hP
  have hD : va_D A [(aQ, .inr (0, [.ref aT, .ref aP, .int gc])), (aT, .inl (cI, 300, .inl ft)), (aP, .inl (cJ, 300, .inr (.inl fp)))] := hD
  have rg_gc := zi_rg gc
  have rg_ty := zi_rg ty
  refine lv_aload_n hx hb dX1_keep_0 rfl (lv_at hl 0 rfl) ?_
  refine va_get (D := D) (ci := 0) (v := .int gc) (C := RX1) (T := TX1) (N := 3) hx hb hts in_X1 hown hK hP 0 rfl rfl 2 (by decide) (hts _ wk314) (fun _ h9 => h9) rfl dX1_keep_1 ?_
  have hh1 : 0 ≤ gc.toInt := (by omega)
  refine call_i (wc := []) (wr := [(aQ, .inr (0, [.ref aT, .ref aP, .int gc])), (aT, .inl (cI, 300, .inl ft)), (aP, .inl (cJ, 300, .inr (.inl fp)))]) (run_S (As := [.int gc]) (rest := []) ks_RX1_23 ⟨by decide, by decide⟩ ⟨rfl, rfl⟩ ⟨hx, hb, hml, hown, hts⟩ (c_Gr_slotOf l D cI cJ cB gc hh1 _) ct_blind (ct_pre (wc := []) hK hP hD hS hA hZ hN [] (by decide) rfl rfl) rfl hl.1 rfl (Nat.le_of_ble_eq_true rfl) dX1_keep_4 ⟨Nat.le_of_ble_eq_true rfl, Nat.le_of_ble_eq_true rfl⟩) hP hD hS hA [] [0, 1, 2] rfl rfl (by decide) (by decide) (fun r2 u H locs hw2 hP1 hD1 hS1 => ?_)
  have hw2 : 0 ≤ r2.toInt ∧ r2.toInt < 300 := hw2
  clear hP hD hS
  have hP : va_P D classes [(aQ, .inr (0, [.ref aT, .ref aP, .int gc])), (aT, .inl (cI, 300, .inl ft)), (aP, .inl (cJ, 300, .inr (.inl fp)))] H := hP1
  have hD : va_D A [(aQ, .inr (0, [.ref aT, .ref aP, .int gc])), (aT, .inl (cI, 300, .inl ft)), (aP, .inl (cJ, 300, .inr (.inl fp)))] := hD1
  have hS := hS1
  clear hP1 hD1 hS1
  have rg_r2 := zi_rg r2
  refine lv_istore (lv' := [(4, .int r2), (0, .ref aQ), (1, .int ty), (2, .long pl)]) hx hb dX1_keep_7 hl (by decide) rfl (fun ls hl => ?_)
  refine lv_aload_n hx hb dX1_keep_9 rfl (lv_at hl 1 rfl) ?_
  refine va_get (D := D) (ci := 0) (v := .ref aT) (C := RX1) (T := TX1) (N := 3) hx hb hts in_X1 hown hK hP 0 rfl rfl 0 (by decide) (hts _ wk54) (fun _ h9 => h9) rfl dX1_keep_10 ?_
  refine lv_iload hx hb dX1_keep_13 (lv_at hl 0 rfl) ?_
  refine lv_iload_n hx hb dX1_keep_15 rfl (lv_at hl 2 rfl) ?_
  obtain ⟨f3, ef3⟩ : ∃ z9, z9 = upd ft r2.toNatClampNeg ty := ⟨_, rfl⟩
  refine va_iast hx hb hK hP hD hS 1 0 rfl rfl (zi_in (by omega)) dX1_keep_16 (fun H locs hP1 hD1 hS1 => ?_)
  rw [← ef3] at hP1 hD1
  clear hP hD hS
  have hP : va_P D classes [(aQ, .inr (0, [.ref aT, .ref aP, .int gc])), (aT, .inl (cI, 300, .inl f3)), (aP, .inl (cJ, 300, .inr (.inl fp)))] H := hP1
  have hD : va_D A [(aQ, .inr (0, [.ref aT, .ref aP, .int gc])), (aT, .inl (cI, 300, .inl f3)), (aP, .inl (cJ, 300, .inr (.inl fp)))] := hD1
  have hS := hS1
  clear hP1 hD1 hS1
  refine lv_aload_n hx hb dX1_keep_17 rfl (lv_at hl 1 rfl) ?_
  refine va_get (D := D) (ci := 0) (v := .ref aP) (C := RX1) (T := TX1) (N := 3) hx hb hts in_X1 hown hK hP 0 rfl rfl 1 (by decide) (hts _ wk55) (fun _ h9 => h9) rfl dX1_keep_18 ?_
  refine lv_iload hx hb dX1_keep_21 (lv_at hl 0 rfl) ?_
  refine lv_lload_n hx hb dX1_keep_23 rfl (lv_at hl 3 rfl) ?_
  obtain ⟨f4, ef4⟩ : ∃ z9, z9 = vp_updL fp r2.toNatClampNeg pl := ⟨_, rfl⟩
  refine va_last hx hb hK hP hD hS 2 1 rfl rfl (zi_in (by omega)) dX1_keep_24 (fun H locs hP1 hD1 hS1 => ?_)
  rw [← ef4] at hP1 hD1
  clear hP hD hS
  have hP : va_P D classes [(aQ, .inr (0, [.ref aT, .ref aP, .int gc])), (aT, .inl (cI, 300, .inl f3)), (aP, .inl (cJ, 300, .inr (.inl f4)))] H := hP1
  have hD : va_D A [(aQ, .inr (0, [.ref aT, .ref aP, .int gc])), (aT, .inl (cI, 300, .inl f3)), (aP, .inl (cJ, 300, .inr (.inl f4)))] := hD1
  have hS := hS1
  clear hP1 hD1 hS1
  refine lv_aload_n hx hb dX1_keep_25 rfl (lv_at hl 1 rfl) ?_
  refine lv_dup hx hb dX1_keep_26 rfl ?_
  refine va_get (D := D) (ci := 0) (v := .int gc) (C := RX1) (T := TX1) (N := 3) hx hb hts in_X1 hown hK hP 0 rfl rfl 2 (by decide) (hts _ wk314) (fun _ h9 => h9) rfl dX1_keep_27 ?_
  refine lv_iconst (v := 1) hx hb dX1_keep_30 (by decide) ?_
  refine lv_topi (fun v5 e5 => ?_)
  have z5 : v5.toInt = 1 := zi_c e5 (by decide)
  refine lv_iadd hx hb dX1_keep_31 ?_
  refine lv_topi (fun v6 e6 => ?_)
  first | have z6 := zi_add e6 (by omega) | skip
  refine va_put (D := D) (ci := 0) (v := .int v6) (ty := .int) (C := RX1) (T := TX1) (N := 3) hx hb hts in_X1 tyX1 tyX1_ok nmX1 hown hK hP hD hS 0 rfl rfl 2 (by decide) (hts _ wk314) (fun _ h9 => h9) rfl (by decide +kernel) rfl rfl (Nat.le_of_ble_eq_true rfl) dX1_keep_32 (fun H locs hP1 hD1 hS1 => ?_)
  clear hP hD hS
  have hP : va_P D classes [(aQ, .inr (0, [.ref aT, .ref aP, .int v6])), (aT, .inl (cI, 300, .inl f3)), (aP, .inl (cJ, 300, .inr (.inl f4)))] H := hP1
  have hD : va_D A [(aQ, .inr (0, [.ref aT, .ref aP, .int v6])), (aT, .inl (cI, 300, .inl f3)), (aP, .inl (cJ, 300, .inr (.inl f4)))] := hD1
  have hS := hS1
  clear hP1 hD1 hS1
  have hq7 : v6.toInt = gc.toInt + 1 := (by omega)
  exact hret (v6, f3, f4) _ _ _ _ dX1_keep_35 hq7 (hP.sub [0, 1, 2] rfl) (hD.sub [0, 1, 2] (by decide) rfl) hS

set_option maxHeartbeats 4000000 in
set_option maxRecDepth 100000 in
theorem c_Gr_character (l : Launch) (D : va_G) (cI cJ cB : ClassId) (aQ : Nat) (aT : Nat) (aP : Nat) (gc : Int32) (i : Int32) (j : Int32) (ft : Nat → Int32) (fp : Nat → Int64)  :
    cti l yX1_character (wsOf yX1_character cX1_character 4 (some .int)) (rmL 5 113 0 0) D classes (tys3 cI cJ cB) [.ref aQ, .int i, .int j] [(aQ, .inr (0, [.ref aT, .ref aP, .int gc])), (aT, .inl (cI, 300, .inl ft)), (aP, .inl (cJ, 300, .inr (.inl fp)))] (fun (r : Int32) (u : Unit) => gc.toInt = 0 → r.toInt = -1) (fun u : Unit => ([(aQ, .inr (0, [.ref aT, .ref aP, .int gc])), (aT, .inl (cI, 300, .inl ft)), (aP, .inl (cJ, 300, .inr (.inl fp)))] : va_W)) := by
  refine cti.of (by first | exact plainFor_of_name (by decide) | decide +kernel) (Nat.le_of_ble_eq_true rfl) (fun p e s m args below meth c A ls Q h hret => ?_)
  obtain ⟨hx, hb, hml, hown, hts, hnm, hP, hK, hD, hA, hS, hZ, hN, hl⟩ := h
  have hown : s.vm.findClass RX1 = some m.cls := hown
  have hl : lv_has ls 4 [(0, .ref aQ), (1, .int i), (2, .int j)] := hl
  have hP : va_P D classes [(aQ, .inr (0, [.ref aT, .ref aP, .int gc])), (aT, .inl (cI, 300, .inl ft)), (aP, .inl (cJ, 300, .inr (.inl fp)))] s.heap := hP
  have hD : va_D A [(aQ, .inr (0, [.ref aT, .ref aP, .int gc])), (aT, .inl (cI, 300, .inl ft)), (aP, .inl (cJ, 300, .inr (.inl fp)))] := hD
  have rg_gc := zi_rg gc
  have rg_i := zi_rg i
  have rg_j := zi_rg j
  refine lv_iload_n hx hb dX1_character_0 rfl (lv_at hl 2 rfl) ?_
  refine lv_if_lt (tgt := 18) hx hb dX1_character_1 (by decide) (fun c1 => ?_) (fun c1 => ?_)
  ·
    have z1 := zi_lt0 c1
    refine lv_iconst (v := -1) hx hb dX1_character_18 (by decide) ?_
    refine lv_topi (fun v2 e2 => ?_)
    have z2 : v2.toInt = (-1) := zi_c e2 (by decide)
    have hq3 : gc.toInt = 0 → v2.toInt = -1 := (by omega)
    exact hret v2 () _ _ _ _ dX1_character_19 hq3 (hP.sub [0, 1, 2] rfl) (hD.sub [0, 1, 2] (by decide) rfl) hS
  ·
    have z1 := zi_nlt0 c1
    refine lv_iload_n hx hb dX1_character_4 rfl (lv_at hl 2 rfl) ?_
    refine lv_bipush (v := 8) hx hb dX1_character_5 (by decide) ?_
    refine lv_topi (fun v4 e4 => ?_)
    have z4 : v4.toInt = 8 := zi_c e4 (by decide)
    refine lv_icmp_ge (tgt := 18) hx hb dX1_character_7 (by decide) (fun c5 => ?_) (fun c5 => ?_)
    ·
      have z5 := zi_le c5
      refine lv_iconst (v := -1) hx hb dX1_character_18 (by decide) ?_
      refine lv_topi (fun v6 e6 => ?_)
      have z6 : v6.toInt = (-1) := zi_c e6 (by decide)
      have hq7 : gc.toInt = 0 → v6.toInt = -1 := (by omega)
      exact hret v6 () _ _ _ _ dX1_character_19 hq7 (hP.sub [0, 1, 2] rfl) (hD.sub [0, 1, 2] (by decide) rfl) hS
    ·
      have z5 := zi_nle c5
      refine lv_aload_n hx hb dX1_character_10 rfl (lv_at hl 0 rfl) ?_
      refine lv_iload_n hx hb dX1_character_11 rfl (lv_at hl 1 rfl) ?_
      refine call_i (wc := [(aQ, .inr (0, [.ref aT, .ref aP, .int gc]))]) (wr := [(aT, .inl (cI, 300, .inl ft)), (aP, .inl (cJ, 300, .inr (.inl fp)))]) (run_V (As := [.int i]) (rest := []) kv_RX1_27 ⟨by decide, by decide⟩ ⟨rfl, rfl⟩ ⟨hx, hb, hml, hown, hts⟩ (c_Gr_isKept l D cI cJ cB aQ aT aP gc i  _) ct_blind (ct_pre (wc := [(aQ, .inr (0, [.ref aT, .ref aP, .int gc]))]) hK hP hD hS hA hZ hN [0] (by decide) rfl rfl) (va_recv hK hP (ci := 0) (q0 := 0) rfl rfl) rfl hl.1 rfl (Nat.le_of_ble_eq_true rfl) dX1_character_12 ⟨Nat.le_of_ble_eq_true rfl, Nat.le_of_ble_eq_true rfl⟩) hP hD hS hA [0] [1, 2] rfl rfl (by decide) (by decide) (fun r8 u H locs hw8 hP1 hD1 hS1 => ?_)
      have hw8 : (r8.toInt = 1 ∧ 0 ≤ i.toInt ∧ i.toInt < gc.toInt) ∨ r8.toInt = 0 := hw8
      clear hP hD hS
      have hP : va_P D classes [(aT, .inl (cI, 300, .inl ft)), (aP, .inl (cJ, 300, .inr (.inl fp))), (aQ, .inr (0, [.ref aT, .ref aP, .int gc]))] H := hP1
      have hD : va_D A [(aT, .inl (cI, 300, .inl ft)), (aP, .inl (cJ, 300, .inr (.inl fp))), (aQ, .inr (0, [.ref aT, .ref aP, .int gc]))] := hD1
      have hS := hS1
      clear hP1 hD1 hS1
      have rg_r8 := zi_rg r8
      refine lv_if_ne (tgt := 20) hx hb dX1_character_15 (by decide) (fun c9 => ?_) (fun c9 => ?_)
      ·
        have z9 := zi_ne0 c9
        refine lv_iload_n hx hb dX1_character_20 rfl (lv_at hl 1 rfl) ?_
        have hh10 : 0 ≤ i.toInt := (by omega)
        refine call_i (wc := []) (wr := [(aT, .inl (cI, 300, .inl ft)), (aP, .inl (cJ, 300, .inr (.inl fp))), (aQ, .inr (0, [.ref aT, .ref aP, .int gc]))]) (run_S (As := [.int i]) (rest := []) ks_RX1_23 ⟨by decide, by decide⟩ ⟨rfl, rfl⟩ ⟨hx, hb, hml, hown, hts⟩ (c_Gr_slotOf l D cI cJ cB i hh10 _) ct_blind (ct_pre (wc := []) hK hP hD hS hA hZ hN [] (by decide) rfl rfl) rfl hl.1 rfl (Nat.le_of_ble_eq_true rfl) dX1_character_21 ⟨Nat.le_of_ble_eq_true rfl, Nat.le_of_ble_eq_true rfl⟩) hP hD hS hA [] [0, 1, 2] rfl rfl (by decide) (by decide) (fun r11 u H locs hw11 hP1 hD1 hS1 => ?_)
        have hw11 : 0 ≤ r11.toInt ∧ r11.toInt < 300 := hw11
        clear hP hD hS
        have hP : va_P D classes [(aT, .inl (cI, 300, .inl ft)), (aP, .inl (cJ, 300, .inr (.inl fp))), (aQ, .inr (0, [.ref aT, .ref aP, .int gc]))] H := hP1
        have hD : va_D A [(aT, .inl (cI, 300, .inl ft)), (aP, .inl (cJ, 300, .inr (.inl fp))), (aQ, .inr (0, [.ref aT, .ref aP, .int gc]))] := hD1
        have hS := hS1
        clear hP1 hD1 hS1
        have rg_r11 := zi_rg r11
        refine lv_istore_n (lv' := [(3, .int r11), (0, .ref aQ), (1, .int i), (2, .int j)]) hx hb dX1_character_24 rfl hl (by decide) rfl (fun ls hl => ?_)
        refine lv_aload_n hx hb dX1_character_25 rfl (lv_at hl 1 rfl) ?_
        refine va_get (D := D) (ci := 0) (v := .ref aT) (C := RX1) (T := TX1) (N := 3) hx hb hts in_X1 hown hK hP 2 rfl rfl 0 (by decide) (hts _ wk54) (fun _ h9 => h9) rfl dX1_character_26 ?_
        refine lv_iload_n hx hb dX1_character_29 rfl (lv_at hl 0 rfl) ?_
        refine va_iald hx hb hK hP 0 0 rfl rfl (zi_in (by omega)) dX1_character_30 ?_
        refine lv_topi (fun v12 e12 => ?_)
        refine lv_aload_n hx hb dX1_character_31 rfl (lv_at hl 1 rfl) ?_
        refine va_get (D := D) (ci := 0) (v := .ref aP) (C := RX1) (T := TX1) (N := 3) hx hb hts in_X1 hown hK hP 2 rfl rfl 1 (by decide) (hts _ wk55) (fun _ h9 => h9) rfl dX1_character_32 ?_
        refine lv_iload_n hx hb dX1_character_35 rfl (lv_at hl 0 rfl) ?_
        refine va_lald hx hb hK hP 1 1 rfl rfl (zi_in (by omega)) dX1_character_36 ?_
        refine lv_topl (fun v13 e13 => ?_)
        refine lv_iload_n hx hb dX1_character_37 rfl (lv_at hl 3 rfl) ?_
        have hh14 : 0 ≤ j.toInt ∧ j.toInt < 8 := (by omega)
        refine call_i (wc := []) (wr := [(aT, .inl (cI, 300, .inl ft)), (aP, .inl (cJ, 300, .inr (.inl fp))), (aQ, .inr (0, [.ref aT, .ref aP, .int gc]))]) (run_S (As := [.int v12, .long v13, .int j]) (rest := []) ks_RX1_31 ⟨by decide, by decide⟩ ⟨rfl, rfl⟩ ⟨hx, hb, hml, hown, hts⟩ (c_Co_characterOf l D cI cJ cB v12 j v13 hh14 _) ct_blind (ct_pre (wc := []) hK hP hD hS hA hZ hN [] (by decide) rfl rfl) rfl hl.1 rfl (Nat.le_of_ble_eq_true rfl) dX1_character_38 ⟨Nat.le_of_ble_eq_true rfl, Nat.le_of_ble_eq_true rfl⟩) hP hD hS hA [] [0, 1, 2] rfl rfl (by decide) (by decide) (fun r15 u H locs hw15 hP1 hD1 hS1 => ?_)
        clear hw15
        clear hP hD hS
        have hP : va_P D classes [(aT, .inl (cI, 300, .inl ft)), (aP, .inl (cJ, 300, .inr (.inl fp))), (aQ, .inr (0, [.ref aT, .ref aP, .int gc]))] H := hP1
        have hD : va_D A [(aT, .inl (cI, 300, .inl ft)), (aP, .inl (cJ, 300, .inr (.inl fp))), (aQ, .inr (0, [.ref aT, .ref aP, .int gc]))] := hD1
        have hS := hS1
        clear hP1 hD1 hS1
        have rg_r15 := zi_rg r15
        have hq16 : gc.toInt = 0 → r15.toInt = -1 := (by omega)
        exact hret r15 () _ _ _ _ dX1_character_41 hq16 (hP.sub [2, 0, 1] rfl) (hD.sub [2, 0, 1] (by decide) rfl) hS
      ·
        have z9 := zi_eq0 c9
        refine lv_iconst (v := -1) hx hb dX1_character_18 (by decide) ?_
        refine lv_topi (fun v17 e17 => ?_)
        have z17 : v17.toInt = (-1) := zi_c e17 (by decide)
        have hq18 : gc.toInt = 0 → v17.toInt = -1 := (by omega)
        exact hret v17 () _ _ _ _ dX1_character_19 hq18 (hP.sub [2, 0, 1] rfl) (hD.sub [2, 0, 1] (by decide) rfl) hS

set_option maxHeartbeats 4000000 in
set_option maxRecDepth 100000 in
theorem c_Re_isLocked (l : Launch) (D : va_G) (cI cJ cB : ClassId) (aR : Nat) (aB : Nat) (aQ : Nat) (hd : Int32) (pl : Int64) (hv : Int32) (lk : Int32) (dn : Int32) (ht : Int32) (sl : Int32) (br : Int32) (wh : Int32) (h1 : 0 ≤ lk.toInt ∧ lk.toInt ≤ 1) :
    cti l yX3_isLocked (wsOf yX3_isLocked cX3_isLocked 1 (some .boolean)) (rmL 0 0 0 0) D classes (tys3 cI cJ cB) [.ref aR] [(aR, .inr (2, [.ref aB, .ref aQ, .int hd, .long pl, .int hv, .int lk, .int dn, .int ht, .int sl, .int br, .int wh]))] (fun (r : Int32) (u : Unit) => r.toInt = lk.toInt) (fun u : Unit => ([(aR, .inr (2, [.ref aB, .ref aQ, .int hd, .long pl, .int hv, .int lk, .int dn, .int ht, .int sl, .int br, .int wh]))] : va_W)) := by
  refine ctz.of (by first | exact plainFor_of_name (by decide) | decide +kernel) (Nat.le_of_ble_eq_true rfl) (fun p e s m args below meth c A ls Q h hret => ?_)
  obtain ⟨hx, hb, hml, hown, hts, hnm, hP, hK, hD, hA, hS, hZ, hN, hl⟩ := h
  have hown : s.vm.findClass RX3 = some m.cls := hown
  have hl : lv_has ls 1 [(0, .ref aR)] := hl
  have hP : va_P D classes [(aR, .inr (2, [.ref aB, .ref aQ, .int hd, .long pl, .int hv, .int lk, .int dn, .int ht, .int sl, .int br, .int wh]))] s.heap := hP
  have hD : va_D A [(aR, .inr (2, [.ref aB, .ref aQ, .int hd, .long pl, .int hv, .int lk, .int dn, .int ht, .int sl, .int br, .int wh]))] := hD
  have rg_hd := zi_rg hd
  have rg_hv := zi_rg hv
  have rg_lk := zi_rg lk
  have rg_dn := zi_rg dn
  have rg_ht := zi_rg ht
  have rg_sl := zi_rg sl
  have rg_br := zi_rg br
  have rg_wh := zi_rg wh
  refine lv_aload_n hx hb dX3_isLocked_0 rfl (lv_at hl 0 rfl) ?_
  refine va_get (D := D) (ci := 2) (v := .int lk) (C := RX3) (T := TX3) (N := 11) hx hb hts in_X3 hown hK hP 0 rfl rfl 5 (by decide) (hts _ wk331) (fun _ h9 => h9) rfl dX3_isLocked_1 ?_
  have hq1 : lk.toInt = lk.toInt := (by omega)
  exact hret lk () _ _ _ _ dX3_isLocked_4 (zb_n (by omega)) hq1 (hP.sub [0] rfl) (hD.sub [0] (by decide) rfl) hS

set_option maxHeartbeats 4000000 in
set_option maxRecDepth 100000 in
theorem c_Re_hitCount (l : Launch) (D : va_G) (cI cJ cB : ClassId) (aR : Nat) (aB : Nat) (aQ : Nat) (hd : Int32) (pl : Int64) (hv : Int32) (lk : Int32) (dn : Int32) (ht : Int32) (sl : Int32) (br : Int32) (wh : Int32)  :
    cti l yX3_hitCount (wsOf yX3_hitCount cX3_hitCount 1 (some .int)) (rmL 0 0 0 0) D classes (tys3 cI cJ cB) [.ref aR] [(aR, .inr (2, [.ref aB, .ref aQ, .int hd, .long pl, .int hv, .int lk, .int dn, .int ht, .int sl, .int br, .int wh]))] (fun (r : Int32) (u : Unit) => r.toInt = ht.toInt) (fun u : Unit => ([(aR, .inr (2, [.ref aB, .ref aQ, .int hd, .long pl, .int hv, .int lk, .int dn, .int ht, .int sl, .int br, .int wh]))] : va_W)) := by
  refine cti.of (by first | exact plainFor_of_name (by decide) | decide +kernel) (Nat.le_of_ble_eq_true rfl) (fun p e s m args below meth c A ls Q h hret => ?_)
  obtain ⟨hx, hb, hml, hown, hts, hnm, hP, hK, hD, hA, hS, hZ, hN, hl⟩ := h
  have hown : s.vm.findClass RX3 = some m.cls := hown
  have hl : lv_has ls 1 [(0, .ref aR)] := hl
  have hP : va_P D classes [(aR, .inr (2, [.ref aB, .ref aQ, .int hd, .long pl, .int hv, .int lk, .int dn, .int ht, .int sl, .int br, .int wh]))] s.heap := hP
  have hD : va_D A [(aR, .inr (2, [.ref aB, .ref aQ, .int hd, .long pl, .int hv, .int lk, .int dn, .int ht, .int sl, .int br, .int wh]))] := hD
  have rg_hd := zi_rg hd
  have rg_hv := zi_rg hv
  have rg_lk := zi_rg lk
  have rg_dn := zi_rg dn
  have rg_ht := zi_rg ht
  have rg_sl := zi_rg sl
  have rg_br := zi_rg br
  have rg_wh := zi_rg wh
  refine lv_aload_n hx hb dX3_hitCount_0 rfl (lv_at hl 0 rfl) ?_
  refine va_get (D := D) (ci := 2) (v := .int ht) (C := RX3) (T := TX3) (N := 11) hx hb hts in_X3 hown hK hP 0 rfl rfl 7 (by decide) (hts _ wk353) (fun _ h9 => h9) rfl dX3_hitCount_1 ?_
  have hq1 : ht.toInt = ht.toInt := (by omega)
  exact hret ht () _ _ _ _ dX3_hitCount_4 hq1 (hP.sub [0] rfl) (hD.sub [0] (by decide) rfl) hS

set_option maxHeartbeats 4000000 in
set_option maxRecDepth 100000 in
theorem c_Re_slipCount (l : Launch) (D : va_G) (cI cJ cB : ClassId) (aR : Nat) (aB : Nat) (aQ : Nat) (hd : Int32) (pl : Int64) (hv : Int32) (lk : Int32) (dn : Int32) (ht : Int32) (sl : Int32) (br : Int32) (wh : Int32)  :
    cti l yX3_slipCount (wsOf yX3_slipCount cX3_slipCount 1 (some .int)) (rmL 0 0 0 0) D classes (tys3 cI cJ cB) [.ref aR] [(aR, .inr (2, [.ref aB, .ref aQ, .int hd, .long pl, .int hv, .int lk, .int dn, .int ht, .int sl, .int br, .int wh]))] (fun (r : Int32) (u : Unit) => r.toInt = sl.toInt) (fun u : Unit => ([(aR, .inr (2, [.ref aB, .ref aQ, .int hd, .long pl, .int hv, .int lk, .int dn, .int ht, .int sl, .int br, .int wh]))] : va_W)) := by
  refine cti.of (by first | exact plainFor_of_name (by decide) | decide +kernel) (Nat.le_of_ble_eq_true rfl) (fun p e s m args below meth c A ls Q h hret => ?_)
  obtain ⟨hx, hb, hml, hown, hts, hnm, hP, hK, hD, hA, hS, hZ, hN, hl⟩ := h
  have hown : s.vm.findClass RX3 = some m.cls := hown
  have hl : lv_has ls 1 [(0, .ref aR)] := hl
  have hP : va_P D classes [(aR, .inr (2, [.ref aB, .ref aQ, .int hd, .long pl, .int hv, .int lk, .int dn, .int ht, .int sl, .int br, .int wh]))] s.heap := hP
  have hD : va_D A [(aR, .inr (2, [.ref aB, .ref aQ, .int hd, .long pl, .int hv, .int lk, .int dn, .int ht, .int sl, .int br, .int wh]))] := hD
  have rg_hd := zi_rg hd
  have rg_hv := zi_rg hv
  have rg_lk := zi_rg lk
  have rg_dn := zi_rg dn
  have rg_ht := zi_rg ht
  have rg_sl := zi_rg sl
  have rg_br := zi_rg br
  have rg_wh := zi_rg wh
  refine lv_aload_n hx hb dX3_slipCount_0 rfl (lv_at hl 0 rfl) ?_
  refine va_get (D := D) (ci := 2) (v := .int sl) (C := RX3) (T := TX3) (N := 11) hx hb hts in_X3 hown hK hP 0 rfl rfl 8 (by decide) (hts _ wk354) (fun _ h9 => h9) rfl dX3_slipCount_1 ?_
  have hq1 : sl.toInt = sl.toInt := (by omega)
  exact hret sl () _ _ _ _ dX3_slipCount_4 hq1 (hP.sub [0] rfl) (hD.sub [0] (by decide) rfl) hS

set_option maxHeartbeats 4000000 in
set_option maxRecDepth 100000 in
theorem c_Re_bitsOfBlock (l : Launch) (D : va_G) (cI cJ cB : ClassId) (aR : Nat) (aB : Nat) (aQ : Nat) (hd : Int32) (pl : Int64) (hv : Int32) (lk : Int32) (dn : Int32) (ht : Int32) (sl : Int32) (br : Int32) (wh : Int32)  :
    cti l yX3_bitsOfBlock (wsOf yX3_bitsOfBlock cX3_bitsOfBlock 1 (some .int)) (rmL 0 0 0 0) D classes (tys3 cI cJ cB) [.ref aR] [(aR, .inr (2, [.ref aB, .ref aQ, .int hd, .long pl, .int hv, .int lk, .int dn, .int ht, .int sl, .int br, .int wh]))] (fun (r : Int32) (u : Unit) => r.toInt = hv.toInt) (fun u : Unit => ([(aR, .inr (2, [.ref aB, .ref aQ, .int hd, .long pl, .int hv, .int lk, .int dn, .int ht, .int sl, .int br, .int wh]))] : va_W)) := by
  refine cti.of (by first | exact plainFor_of_name (by decide) | decide +kernel) (Nat.le_of_ble_eq_true rfl) (fun p e s m args below meth c A ls Q h hret => ?_)
  obtain ⟨hx, hb, hml, hown, hts, hnm, hP, hK, hD, hA, hS, hZ, hN, hl⟩ := h
  have hown : s.vm.findClass RX3 = some m.cls := hown
  have hl : lv_has ls 1 [(0, .ref aR)] := hl
  have hP : va_P D classes [(aR, .inr (2, [.ref aB, .ref aQ, .int hd, .long pl, .int hv, .int lk, .int dn, .int ht, .int sl, .int br, .int wh]))] s.heap := hP
  have hD : va_D A [(aR, .inr (2, [.ref aB, .ref aQ, .int hd, .long pl, .int hv, .int lk, .int dn, .int ht, .int sl, .int br, .int wh]))] := hD
  have rg_hd := zi_rg hd
  have rg_hv := zi_rg hv
  have rg_lk := zi_rg lk
  have rg_dn := zi_rg dn
  have rg_ht := zi_rg ht
  have rg_sl := zi_rg sl
  have rg_br := zi_rg br
  have rg_wh := zi_rg wh
  refine lv_aload_n hx hb dX3_bitsOfBlock_0 rfl (lv_at hl 0 rfl) ?_
  refine va_get (D := D) (ci := 2) (v := .int hv) (C := RX3) (T := TX3) (N := 11) hx hb hts in_X3 hown hK hP 0 rfl rfl 4 (by decide) (hts _ wk320) (fun _ h9 => h9) rfl dX3_bitsOfBlock_1 ?_
  have hq1 : hv.toInt = hv.toInt := (by omega)
  exact hret hv () _ _ _ _ dX3_bitsOfBlock_4 hq1 (hP.sub [0] rfl) (hD.sub [0] (by decide) rfl) hS

set_option maxHeartbeats 4000000 in
set_option maxRecDepth 100000 in
theorem c_Re_wrongHeadCount (l : Launch) (D : va_G) (cI cJ cB : ClassId) (aR : Nat) (aB : Nat) (aQ : Nat) (hd : Int32) (pl : Int64) (hv : Int32) (lk : Int32) (dn : Int32) (ht : Int32) (sl : Int32) (br : Int32) (wh : Int32)  :
    cti l yX3_wrongHeadCount (wsOf yX3_wrongHeadCount cX3_wrongHeadCount 1 (some .int)) (rmL 0 0 0 0) D classes (tys3 cI cJ cB) [.ref aR] [(aR, .inr (2, [.ref aB, .ref aQ, .int hd, .long pl, .int hv, .int lk, .int dn, .int ht, .int sl, .int br, .int wh]))] (fun (r : Int32) (u : Unit) => r.toInt = wh.toInt) (fun u : Unit => ([(aR, .inr (2, [.ref aB, .ref aQ, .int hd, .long pl, .int hv, .int lk, .int dn, .int ht, .int sl, .int br, .int wh]))] : va_W)) := by
  refine cti.of (by first | exact plainFor_of_name (by decide) | decide +kernel) (Nat.le_of_ble_eq_true rfl) (fun p e s m args below meth c A ls Q h hret => ?_)
  obtain ⟨hx, hb, hml, hown, hts, hnm, hP, hK, hD, hA, hS, hZ, hN, hl⟩ := h
  have hown : s.vm.findClass RX3 = some m.cls := hown
  have hl : lv_has ls 1 [(0, .ref aR)] := hl
  have hP : va_P D classes [(aR, .inr (2, [.ref aB, .ref aQ, .int hd, .long pl, .int hv, .int lk, .int dn, .int ht, .int sl, .int br, .int wh]))] s.heap := hP
  have hD : va_D A [(aR, .inr (2, [.ref aB, .ref aQ, .int hd, .long pl, .int hv, .int lk, .int dn, .int ht, .int sl, .int br, .int wh]))] := hD
  have rg_hd := zi_rg hd
  have rg_hv := zi_rg hv
  have rg_lk := zi_rg lk
  have rg_dn := zi_rg dn
  have rg_ht := zi_rg ht
  have rg_sl := zi_rg sl
  have rg_br := zi_rg br
  have rg_wh := zi_rg wh
  refine lv_aload_n hx hb dX3_wrongHeadCount_0 rfl (lv_at hl 0 rfl) ?_
  refine va_get (D := D) (ci := 2) (v := .int wh) (C := RX3) (T := TX3) (N := 11) hx hb hts in_X3 hown hK hP 0 rfl rfl 10 (by decide) (hts _ wk348) (fun _ h9 => h9) rfl dX3_wrongHeadCount_1 ?_
  have hq1 : wh.toInt = wh.toInt := (by omega)
  exact hret wh () _ _ _ _ dX3_wrongHeadCount_4 hq1 (hP.sub [0] rfl) (hD.sub [0] (by decide) rfl) hS

set_option maxHeartbeats 4000000 in
set_option maxRecDepth 100000 in
theorem c_Re_groupCount (l : Launch) (D : va_G) (cI cJ cB : ClassId) (aR : Nat) (aB : Nat) (aQ : Nat) (aT : Nat) (aP : Nat) (hd : Int32) (pl : Int64) (hv : Int32) (lk : Int32) (dn : Int32) (ht : Int32) (sl : Int32) (br : Int32) (wh : Int32) (gc : Int32)  :
    cti l yX3_groupCount (wsOf yX3_groupCount cX3_groupCount 1 (some .int)) (rmL 1 20 0 0) D classes (tys3 cI cJ cB) [.ref aR] [(aR, .inr (2, [.ref aB, .ref aQ, .int hd, .long pl, .int hv, .int lk, .int dn, .int ht, .int sl, .int br, .int wh])), (aQ, .inr (0, [.ref aT, .ref aP, .int gc]))] (fun (r : Int32) (u : Unit) => r.toInt = gc.toInt) (fun u : Unit => ([(aR, .inr (2, [.ref aB, .ref aQ, .int hd, .long pl, .int hv, .int lk, .int dn, .int ht, .int sl, .int br, .int wh])), (aQ, .inr (0, [.ref aT, .ref aP, .int gc]))] : va_W)) := by
  refine cti.of (by first | exact plainFor_of_name (by decide) | decide +kernel) (Nat.le_of_ble_eq_true rfl) (fun p e s m args below meth c A ls Q h hret => ?_)
  obtain ⟨hx, hb, hml, hown, hts, hnm, hP, hK, hD, hA, hS, hZ, hN, hl⟩ := h
  have hown : s.vm.findClass RX3 = some m.cls := hown
  have hl : lv_has ls 1 [(0, .ref aR)] := hl
  have hP : va_P D classes [(aR, .inr (2, [.ref aB, .ref aQ, .int hd, .long pl, .int hv, .int lk, .int dn, .int ht, .int sl, .int br, .int wh])), (aQ, .inr (0, [.ref aT, .ref aP, .int gc]))] s.heap := hP
  have hD : va_D A [(aR, .inr (2, [.ref aB, .ref aQ, .int hd, .long pl, .int hv, .int lk, .int dn, .int ht, .int sl, .int br, .int wh])), (aQ, .inr (0, [.ref aT, .ref aP, .int gc]))] := hD
  have rg_hd := zi_rg hd
  have rg_hv := zi_rg hv
  have rg_lk := zi_rg lk
  have rg_dn := zi_rg dn
  have rg_ht := zi_rg ht
  have rg_sl := zi_rg sl
  have rg_br := zi_rg br
  have rg_wh := zi_rg wh
  have rg_gc := zi_rg gc
  refine lv_aload_n hx hb dX3_groupCount_0 rfl (lv_at hl 0 rfl) ?_
  refine va_get (D := D) (ci := 2) (v := .ref aQ) (C := RX3) (T := TX3) (N := 11) hx hb hts in_X3 hown hK hP 0 rfl rfl 1 (by decide) (hts _ wk50) (fun _ h9 => h9) rfl dX3_groupCount_1 ?_
  refine call_i (wc := [(aQ, .inr (0, [.ref aT, .ref aP, .int gc]))]) (wr := [(aR, .inr (2, [.ref aB, .ref aQ, .int hd, .long pl, .int hv, .int lk, .int dn, .int ht, .int sl, .int br, .int wh]))]) (run_V (As := []) (rest := []) kv_RX3_39 ⟨by decide, by decide⟩ ⟨rfl, rfl⟩ ⟨hx, hb, hml, hown, hts⟩ (c_Gr_count l D cI cJ cB aQ aT aP gc  _) ct_blind (ct_pre (wc := [(aQ, .inr (0, [.ref aT, .ref aP, .int gc]))]) hK hP hD hS hA hZ hN [1] (by decide) rfl rfl) (va_recv hK hP (ci := 0) (q0 := 1) rfl rfl) rfl hl.1 rfl (Nat.le_of_ble_eq_true rfl) dX3_groupCount_4 ⟨Nat.le_of_ble_eq_true rfl, Nat.le_of_ble_eq_true rfl⟩) hP hD hS hA [1] [0] rfl rfl (by decide) (by decide) (fun r1 u H locs hw1 hP1 hD1 hS1 => ?_)
  have hw1 : r1.toInt = gc.toInt := hw1
  clear hP hD hS
  have hP : va_P D classes [(aR, .inr (2, [.ref aB, .ref aQ, .int hd, .long pl, .int hv, .int lk, .int dn, .int ht, .int sl, .int br, .int wh])), (aQ, .inr (0, [.ref aT, .ref aP, .int gc]))] H := hP1
  have hD : va_D A [(aR, .inr (2, [.ref aB, .ref aQ, .int hd, .long pl, .int hv, .int lk, .int dn, .int ht, .int sl, .int br, .int wh])), (aQ, .inr (0, [.ref aT, .ref aP, .int gc]))] := hD1
  have hS := hS1
  clear hP1 hD1 hS1
  have rg_r1 := zi_rg r1
  have hq2 : r1.toInt = gc.toInt := (by omega)
  exact hret r1 () _ _ _ _ dX3_groupCount_7 hq2 (hP.sub [0, 1] rfl) (hD.sub [0, 1] (by decide) rfl) hS

set_option maxHeartbeats 4000000 in
set_option maxRecDepth 100000 in
theorem c_Re_character (l : Launch) (D : va_G) (cI cJ cB : ClassId) (aR : Nat) (aB : Nat) (aQ : Nat) (aT : Nat) (aP : Nat) (hd : Int32) (pl : Int64) (hv : Int32) (lk : Int32) (dn : Int32) (ht : Int32) (sl : Int32) (br : Int32) (wh : Int32) (gc : Int32) (i : Int32) (j : Int32) (ft : Nat → Int32) (fp : Nat → Int64)  :
    cti l yX3_character (wsOf yX3_character cX3_character 3 (some .int)) (rmL 6 136 0 0) D classes (tys3 cI cJ cB) [.ref aR, .int i, .int j] [(aR, .inr (2, [.ref aB, .ref aQ, .int hd, .long pl, .int hv, .int lk, .int dn, .int ht, .int sl, .int br, .int wh])), (aQ, .inr (0, [.ref aT, .ref aP, .int gc])), (aT, .inl (cI, 300, .inl ft)), (aP, .inl (cJ, 300, .inr (.inl fp)))] (fun (r : Int32) (u : Unit) => gc.toInt = 0 → r.toInt = -1) (fun u : Unit => ([(aR, .inr (2, [.ref aB, .ref aQ, .int hd, .long pl, .int hv, .int lk, .int dn, .int ht, .int sl, .int br, .int wh])), (aQ, .inr (0, [.ref aT, .ref aP, .int gc])), (aT, .inl (cI, 300, .inl ft)), (aP, .inl (cJ, 300, .inr (.inl fp)))] : va_W)) := by
  refine cti.of (by first | exact plainFor_of_name (by decide) | decide +kernel) (Nat.le_of_ble_eq_true rfl) (fun p e s m args below meth c A ls Q h hret => ?_)
  obtain ⟨hx, hb, hml, hown, hts, hnm, hP, hK, hD, hA, hS, hZ, hN, hl⟩ := h
  have hown : s.vm.findClass RX3 = some m.cls := hown
  have hl : lv_has ls 3 [(0, .ref aR), (1, .int i), (2, .int j)] := hl
  have hP : va_P D classes [(aR, .inr (2, [.ref aB, .ref aQ, .int hd, .long pl, .int hv, .int lk, .int dn, .int ht, .int sl, .int br, .int wh])), (aQ, .inr (0, [.ref aT, .ref aP, .int gc])), (aT, .inl (cI, 300, .inl ft)), (aP, .inl (cJ, 300, .inr (.inl fp)))] s.heap := hP
  have hD : va_D A [(aR, .inr (2, [.ref aB, .ref aQ, .int hd, .long pl, .int hv, .int lk, .int dn, .int ht, .int sl, .int br, .int wh])), (aQ, .inr (0, [.ref aT, .ref aP, .int gc])), (aT, .inl (cI, 300, .inl ft)), (aP, .inl (cJ, 300, .inr (.inl fp)))] := hD
  have rg_hd := zi_rg hd
  have rg_hv := zi_rg hv
  have rg_lk := zi_rg lk
  have rg_dn := zi_rg dn
  have rg_ht := zi_rg ht
  have rg_sl := zi_rg sl
  have rg_br := zi_rg br
  have rg_wh := zi_rg wh
  have rg_gc := zi_rg gc
  have rg_i := zi_rg i
  have rg_j := zi_rg j
  refine lv_aload_n hx hb dX3_character_0 rfl (lv_at hl 0 rfl) ?_
  refine va_get (D := D) (ci := 2) (v := .ref aQ) (C := RX3) (T := TX3) (N := 11) hx hb hts in_X3 hown hK hP 0 rfl rfl 1 (by decide) (hts _ wk50) (fun _ h9 => h9) rfl dX3_character_1 ?_
  refine lv_iload_n hx hb dX3_character_4 rfl (lv_at hl 1 rfl) ?_
  refine lv_iload_n hx hb dX3_character_5 rfl (lv_at hl 2 rfl) ?_
  refine call_i (wc := [(aQ, .inr (0, [.ref aT, .ref aP, .int gc])), (aT, .inl (cI, 300, .inl ft)), (aP, .inl (cJ, 300, .inr (.inl fp)))]) (wr := [(aR, .inr (2, [.ref aB, .ref aQ, .int hd, .long pl, .int hv, .int lk, .int dn, .int ht, .int sl, .int br, .int wh]))]) (run_V (As := [.int i, .int j]) (rest := []) kv_RX3_46 ⟨by decide, by decide⟩ ⟨rfl, rfl⟩ ⟨hx, hb, hml, hown, hts⟩ (c_Gr_character l D cI cJ cB aQ aT aP gc i j ft fp  _) ct_blind (ct_pre (wc := [(aQ, .inr (0, [.ref aT, .ref aP, .int gc])), (aT, .inl (cI, 300, .inl ft)), (aP, .inl (cJ, 300, .inr (.inl fp)))]) hK hP hD hS hA hZ hN [1, 2, 3] (by decide) rfl rfl) (va_recv hK hP (ci := 0) (q0 := 1) rfl rfl) rfl hl.1 rfl (Nat.le_of_ble_eq_true rfl) dX3_character_6 ⟨Nat.le_of_ble_eq_true rfl, Nat.le_of_ble_eq_true rfl⟩) hP hD hS hA [1, 2, 3] [0] rfl rfl (by decide) (by decide) (fun r1 u H locs hw1 hP1 hD1 hS1 => ?_)
  have hw1 : gc.toInt = 0 → r1.toInt = -1 := hw1
  clear hP hD hS
  have hP : va_P D classes [(aR, .inr (2, [.ref aB, .ref aQ, .int hd, .long pl, .int hv, .int lk, .int dn, .int ht, .int sl, .int br, .int wh])), (aQ, .inr (0, [.ref aT, .ref aP, .int gc])), (aT, .inl (cI, 300, .inl ft)), (aP, .inl (cJ, 300, .inr (.inl fp)))] H := hP1
  have hD : va_D A [(aR, .inr (2, [.ref aB, .ref aQ, .int hd, .long pl, .int hv, .int lk, .int dn, .int ht, .int sl, .int br, .int wh])), (aQ, .inr (0, [.ref aT, .ref aP, .int gc])), (aT, .inl (cI, 300, .inl ft)), (aP, .inl (cJ, 300, .inr (.inl fp)))] := hD1
  have hS := hS1
  clear hP1 hD1 hS1
  have rg_r1 := zi_rg r1
  have hq2 : gc.toInt = 0 → r1.toInt = -1 := (by omega)
  exact hret r1 () _ _ _ _ dX3_character_9 hq2 (hP.sub [0, 1, 2, 3] rfl) (hD.sub [0, 1, 2, 3] (by decide) rfl) hS

set_option maxHeartbeats 4000000 in
set_option maxRecDepth 100000 in
theorem c_Re_exchangeState (l : Launch) (D : va_G) (cI cJ cB : ClassId) (aR : Nat) (aB : Nat) (aQ : Nat) (hd : Int32) (pl : Int64) (hv : Int32) (lk : Int32) (dn : Int32) (ht : Int32) (sl : Int32) (br : Int32) (wh : Int32) (la : Int64) (x : Int64)  :
    ctl l yX3_exchangeState (wsOf yX3_exchangeState cX3_exchangeState 3 (some .long)) (rmL 1 24 0 0) D classes (tys3 cI cJ cB) [.ref aR, .long x] [(aR, .inr (2, [.ref aB, .ref aQ, .int hd, .long pl, .int hv, .int lk, .int dn, .int ht, .int sl, .int br, .int wh])), (aB, .inr (3, [.long la]))] (fun (r : Int64) (u : Int64) => r = la) (fun u : Int64 => ([(aR, .inr (2, [.ref aB, .ref aQ, .int hd, .long pl, .int hv, .int lk, .int dn, .int ht, .int sl, .int br, .int wh])), (aB, .inr (3, [.long u]))] : va_W)) := by
  refine ctl.of (by first | exact plainFor_of_name (by decide) | decide +kernel) (Nat.le_of_ble_eq_true rfl) (fun p e s m args below meth c A ls Q h hret => ?_)
  obtain ⟨hx, hb, hml, hown, hts, hnm, hP, hK, hD, hA, hS, hZ, hN, hl⟩ := h
  have hown : s.vm.findClass RX3 = some m.cls := hown
  have hl : lv_has ls 3 [(0, .ref aR), (1, .long x)] := hl
  have hP : va_P D classes [(aR, .inr (2, [.ref aB, .ref aQ, .int hd, .long pl, .int hv, .int lk, .int dn, .int ht, .int sl, .int br, .int wh])), (aB, .inr (3, [.long la]))] s.heap := hP
  have hD : va_D A [(aR, .inr (2, [.ref aB, .ref aQ, .int hd, .long pl, .int hv, .int lk, .int dn, .int ht, .int sl, .int br, .int wh])), (aB, .inr (3, [.long la]))] := hD
  have rg_hd := zi_rg hd
  have rg_hv := zi_rg hv
  have rg_lk := zi_rg lk
  have rg_dn := zi_rg dn
  have rg_ht := zi_rg ht
  have rg_sl := zi_rg sl
  have rg_br := zi_rg br
  have rg_wh := zi_rg wh
  refine lv_aload_n hx hb dX3_exchangeState_0 rfl (lv_at hl 0 rfl) ?_
  refine va_get (D := D) (ci := 2) (v := .ref aB) (C := RX3) (T := TX3) (N := 11) hx hb hts in_X3 hown hK hP 0 rfl rfl 0 (by decide) (hts _ wk46) (fun _ h9 => h9) rfl dX3_exchangeState_1 ?_
  refine lv_lload_n hx hb dX3_exchangeState_4 rfl (lv_at hl 1 rfl) ?_
  refine call_l (wc := [(aB, .inr (3, [.long la]))]) (wr := [(aR, .inr (2, [.ref aB, .ref aQ, .int hd, .long pl, .int hv, .int lk, .int dn, .int ht, .int sl, .int br, .int wh]))]) (run_V (As := [.long x]) (rest := []) kv_RX3_50 ⟨by decide, by decide⟩ ⟨rfl, rfl⟩ ⟨hx, hb, hml, hown, hts⟩ (c_Sc_exchange l D cI cJ cB aB la x  _) ct_blind (ct_pre (wc := [(aB, .inr (3, [.long la]))]) hK hP hD hS hA hZ hN [1] (by decide) rfl rfl) (va_recv hK hP (ci := 3) (q0 := 1) rfl rfl) rfl hl.1 rfl (Nat.le_of_ble_eq_true rfl) dX3_exchangeState_5 ⟨Nat.le_of_ble_eq_true rfl, Nat.le_of_ble_eq_true rfl⟩) hP hD hS hA [1] [0] rfl rfl (by decide) (by decide) (fun r1 u H locs hw1 hP1 hD1 hS1 => ?_)
  obtain ⟨la2_1, hu9⟩ : ∃ z, z = u := ⟨_, rfl⟩
  subst hu9
  have hw1 : r1 = la ∧ ∀ j, j < 58 → bl la2_1 j = bl x j := hw1
  clear hP hD hS
  have hP : va_P D classes [(aR, .inr (2, [.ref aB, .ref aQ, .int hd, .long pl, .int hv, .int lk, .int dn, .int ht, .int sl, .int br, .int wh])), (aB, .inr (3, [.long la2_1]))] H := hP1
  have hD : va_D A [(aR, .inr (2, [.ref aB, .ref aQ, .int hd, .long pl, .int hv, .int lk, .int dn, .int ht, .int sl, .int br, .int wh])), (aB, .inr (3, [.long la2_1]))] := hD1
  have hS := hS1
  clear hP1 hD1 hS1
  have hq2 : r1 = la := hw1.1
  exact hret r1 la2_1 _ _ _ _ dX3_exchangeState_8 hq2 (hP.sub [0, 1] rfl) (hD.sub [0, 1] (by decide) rfl) hS

set_option maxHeartbeats 4000000 in
set_option maxRecDepth 100000 in
theorem c_Re_beginBlock (l : Launch) (D : va_G) (cI cJ cB : ClassId) (aR : Nat) (aB : Nat) (aQ : Nat) (hd : Int32) (pl : Int64) (hv : Int32) (lk : Int32) (dn : Int32) (ht : Int32) (sl : Int32) (br : Int32) (wh : Int32)  :
    ctv l yX3_beginBlock (wsOf yX3_beginBlock cX3_beginBlock 1 none) (rmL 0 0 0 0) D classes (tys3 cI cJ cB) [.ref aR] [(aR, .inr (2, [.ref aB, .ref aQ, .int hd, .long pl, .int hv, .int lk, .int dn, .int ht, .int sl, .int br, .int wh]))] (fun u : Int32 × Int64 × Int32 => u.1.toInt = 0 ∧ u.2.2.toInt = 0) (fun u : Int32 × Int64 × Int32 => ([(aR, .inr (2, [.ref aB, .ref aQ, .int u.1, .long u.2.1, .int u.2.2, .int lk, .int dn, .int ht, .int sl, .int br, .int wh]))] : va_W)) 0 0 := by
  refine ctv.of (by first | exact plainFor_of_name (by decide) | decide +kernel) (Nat.le_of_ble_eq_true rfl) (fun p e s m args below meth c A ls Q h hret => ?_)
  obtain ⟨hx, hb, hml, hown, hts, hnm, hP, hK, hD, hA, hS, hZ, hN, hl⟩ := h
  have hown : s.vm.findClass RX3 = some m.cls := hown
  have hl : lv_has ls 1 [(0, .ref aR)] := hl
  have hP : va_P D classes [(aR, .inr (2, [.ref aB, .ref aQ, .int hd, .long pl, .int hv, .int lk, .int dn, .int ht, .int sl, .int br, .int wh]))] s.heap := hP
  have hD : va_D A [(aR, .inr (2, [.ref aB, .ref aQ, .int hd, .long pl, .int hv, .int lk, .int dn, .int ht, .int sl, .int br, .int wh]))] := hD
  have rg_hd := zi_rg hd
  have rg_hv := zi_rg hv
  have rg_lk := zi_rg lk
  have rg_dn := zi_rg dn
  have rg_ht := zi_rg ht
  have rg_sl := zi_rg sl
  have rg_br := zi_rg br
  have rg_wh := zi_rg wh
  refine lv_aload_n hx hb dX3_beginBlock_0 rfl (lv_at hl 0 rfl) ?_
  refine lv_iconst (v := 0) hx hb dX3_beginBlock_1 (by decide) ?_
  refine lv_topi (fun v1 e1 => ?_)
  have z1 : v1.toInt = 0 := zi_c e1 (by decide)
  refine va_put (D := D) (ci := 2) (v := .int v1) (ty := .int) (C := RX3) (T := TX3) (N := 11) hx hb hts in_X3 tyX3 tyX3_ok nmX3 hown hK hP hD hS 0 rfl rfl 2 (by decide) (hts _ wk321) (fun _ h9 => h9) rfl (by decide +kernel) rfl rfl (Nat.le_of_ble_eq_true rfl) dX3_beginBlock_2 (fun H locs hP1 hD1 hS1 => ?_)
  clear hP hD hS
  have hP : va_P D classes [(aR, .inr (2, [.ref aB, .ref aQ, .int v1, .long pl, .int hv, .int lk, .int dn, .int ht, .int sl, .int br, .int wh]))] H := hP1
  have hD : va_D A [(aR, .inr (2, [.ref aB, .ref aQ, .int v1, .long pl, .int hv, .int lk, .int dn, .int ht, .int sl, .int br, .int wh]))] := hD1
  have hS := hS1
  clear hP1 hD1 hS1
  refine lv_aload_n hx hb dX3_beginBlock_5 rfl (lv_at hl 0 rfl) ?_
  refine lv_lconst (v := 0) hx hb dX3_beginBlock_6 (by decide) ?_
  refine lv_topl (fun v2 e2 => ?_)
  refine va_put (D := D) (ci := 2) (v := .long v2) (ty := .long) (C := RX3) (T := TX3) (N := 11) hx hb hts in_X3 tyX3 tyX3_ok nmX3 hown hK hP hD hS 0 rfl rfl 3 (by decide) (hts _ wk322) (fun _ h9 => h9) rfl (by decide +kernel) rfl rfl (Nat.le_of_ble_eq_true rfl) dX3_beginBlock_7 (fun H locs hP1 hD1 hS1 => ?_)
  clear hP hD hS
  have hP : va_P D classes [(aR, .inr (2, [.ref aB, .ref aQ, .int v1, .long v2, .int hv, .int lk, .int dn, .int ht, .int sl, .int br, .int wh]))] H := hP1
  have hD : va_D A [(aR, .inr (2, [.ref aB, .ref aQ, .int v1, .long v2, .int hv, .int lk, .int dn, .int ht, .int sl, .int br, .int wh]))] := hD1
  have hS := hS1
  clear hP1 hD1 hS1
  refine lv_aload_n hx hb dX3_beginBlock_10 rfl (lv_at hl 0 rfl) ?_
  refine lv_iconst (v := 0) hx hb dX3_beginBlock_11 (by decide) ?_
  refine lv_topi (fun v3 e3 => ?_)
  have z3 : v3.toInt = 0 := zi_c e3 (by decide)
  refine va_put (D := D) (ci := 2) (v := .int v3) (ty := .int) (C := RX3) (T := TX3) (N := 11) hx hb hts in_X3 tyX3 tyX3_ok nmX3 hown hK hP hD hS 0 rfl rfl 4 (by decide) (hts _ wk320) (fun _ h9 => h9) rfl (by decide +kernel) rfl rfl (Nat.le_of_ble_eq_true rfl) dX3_beginBlock_12 (fun H locs hP1 hD1 hS1 => ?_)
  clear hP hD hS
  have hP : va_P D classes [(aR, .inr (2, [.ref aB, .ref aQ, .int v1, .long v2, .int v3, .int lk, .int dn, .int ht, .int sl, .int br, .int wh]))] H := hP1
  have hD : va_D A [(aR, .inr (2, [.ref aB, .ref aQ, .int v1, .long v2, .int v3, .int lk, .int dn, .int ht, .int sl, .int br, .int wh]))] := hD1
  have hS := hS1
  clear hP1 hD1 hS1
  have hq4 : v1.toInt = 0 ∧ v3.toInt = 0 := (by omega)
  exact hret (v1, v2, v3) _ _ _ _ dX3_beginBlock_15 hq4 (hP.sub [0] rfl) (hD.sub [0] (by decide) rfl) hS

set_option maxHeartbeats 4000000 in
set_option maxRecDepth 100000 in
theorem c_Re_beginRow (l : Launch) (D : va_G) (cI cJ cB : ClassId) (aR : Nat) (aB : Nat) (aQ : Nat) (hd : Int32) (pl : Int64) (hv : Int32) (lk : Int32) (dn : Int32) (ht : Int32) (sl : Int32) (br : Int32) (wh : Int32)  :
    ctv l yX3_beginRow (wsOf yX3_beginRow cX3_beginRow 1 none) (rmL 0 0 0 0) D classes (tys3 cI cJ cB) [.ref aR] [(aR, .inr (2, [.ref aB, .ref aQ, .int hd, .long pl, .int hv, .int lk, .int dn, .int ht, .int sl, .int br, .int wh]))] (fun u : Int32 × Int32 => u.1.toInt = 0 ∧ u.2.toInt = 0) (fun u : Int32 × Int32 => ([(aR, .inr (2, [.ref aB, .ref aQ, .int hd, .long pl, .int hv, .int lk, .int dn, .int ht, .int sl, .int u.1, .int u.2]))] : va_W)) 0 0 := by
  refine ctv.of (by first | exact plainFor_of_name (by decide) | decide +kernel) (Nat.le_of_ble_eq_true rfl) (fun p e s m args below meth c A ls Q h hret => ?_)
  obtain ⟨hx, hb, hml, hown, hts, hnm, hP, hK, hD, hA, hS, hZ, hN, hl⟩ := h
  have hown : s.vm.findClass RX3 = some m.cls := hown
  have hl : lv_has ls 1 [(0, .ref aR)] := hl
  have hP : va_P D classes [(aR, .inr (2, [.ref aB, .ref aQ, .int hd, .long pl, .int hv, .int lk, .int dn, .int ht, .int sl, .int br, .int wh]))] s.heap := hP
  have hD : va_D A [(aR, .inr (2, [.ref aB, .ref aQ, .int hd, .long pl, .int hv, .int lk, .int dn, .int ht, .int sl, .int br, .int wh]))] := hD
  have rg_hd := zi_rg hd
  have rg_hv := zi_rg hv
  have rg_lk := zi_rg lk
  have rg_dn := zi_rg dn
  have rg_ht := zi_rg ht
  have rg_sl := zi_rg sl
  have rg_br := zi_rg br
  have rg_wh := zi_rg wh
  refine lv_aload_n hx hb dX3_beginRow_0 rfl (lv_at hl 0 rfl) ?_
  refine lv_iconst (v := 0) hx hb dX3_beginRow_1 (by decide) ?_
  refine lv_topi (fun v1 e1 => ?_)
  have z1 : v1.toInt = 0 := zi_c e1 (by decide)
  refine va_put (D := D) (ci := 2) (v := .int v1) (ty := .int) (C := RX3) (T := TX3) (N := 11) hx hb hts in_X3 tyX3 tyX3_ok nmX3 hown hK hP hD hS 0 rfl rfl 9 (by decide) (hts _ wk347) (fun _ h9 => h9) rfl (by decide +kernel) rfl rfl (Nat.le_of_ble_eq_true rfl) dX3_beginRow_2 (fun H locs hP1 hD1 hS1 => ?_)
  clear hP hD hS
  have hP : va_P D classes [(aR, .inr (2, [.ref aB, .ref aQ, .int hd, .long pl, .int hv, .int lk, .int dn, .int ht, .int sl, .int v1, .int wh]))] H := hP1
  have hD : va_D A [(aR, .inr (2, [.ref aB, .ref aQ, .int hd, .long pl, .int hv, .int lk, .int dn, .int ht, .int sl, .int v1, .int wh]))] := hD1
  have hS := hS1
  clear hP1 hD1 hS1
  refine lv_aload_n hx hb dX3_beginRow_5 rfl (lv_at hl 0 rfl) ?_
  refine lv_iconst (v := 0) hx hb dX3_beginRow_6 (by decide) ?_
  refine lv_topi (fun v2 e2 => ?_)
  have z2 : v2.toInt = 0 := zi_c e2 (by decide)
  refine va_put (D := D) (ci := 2) (v := .int v2) (ty := .int) (C := RX3) (T := TX3) (N := 11) hx hb hts in_X3 tyX3 tyX3_ok nmX3 hown hK hP hD hS 0 rfl rfl 10 (by decide) (hts _ wk348) (fun _ h9 => h9) rfl (by decide +kernel) rfl rfl (Nat.le_of_ble_eq_true rfl) dX3_beginRow_7 (fun H locs hP1 hD1 hS1 => ?_)
  clear hP hD hS
  have hP : va_P D classes [(aR, .inr (2, [.ref aB, .ref aQ, .int hd, .long pl, .int hv, .int lk, .int dn, .int ht, .int sl, .int v1, .int v2]))] H := hP1
  have hD : va_D A [(aR, .inr (2, [.ref aB, .ref aQ, .int hd, .long pl, .int hv, .int lk, .int dn, .int ht, .int sl, .int v1, .int v2]))] := hD1
  have hS := hS1
  clear hP1 hD1 hS1
  have hq3 : v1.toInt = 0 ∧ v2.toInt = 0 := (by omega)
  exact hret (v1, v2) _ _ _ _ dX3_beginRow_10 hq3 (hP.sub [0] rfl) (hD.sub [0] (by decide) rfl) hS

set_option maxHeartbeats 4000000 in
set_option maxRecDepth 100000 in
theorem c_Re_slip (l : Launch) (D : va_G) (cI cJ cB : ClassId) (aR : Nat) (aB : Nat) (aQ : Nat) (hd : Int32) (pl : Int64) (hv : Int32) (lk : Int32) (dn : Int32) (ht : Int32) (sl : Int32) (br : Int32) (wh : Int32) (h1 : (0 ≤ lk.toInt ∧ lk.toInt ≤ 1) ∧ (0 ≤ sl.toInt ∧ sl.toInt ≤ 1000000000)) :
    ctv l yX3_slip (wsOf yX3_slip cX3_slip 1 none) (rmL 1 20 0 0) D classes (tys3 cI cJ cB) [.ref aR] [(aR, .inr (2, [.ref aB, .ref aQ, .int hd, .long pl, .int hv, .int lk, .int dn, .int ht, .int sl, .int br, .int wh]))] (fun u : Int32 × Int32 × Int32 × Int32 × Int32 × Int32 => (u.1.toInt = 0 ∧ u.2.1.toInt = 1 ∧ u.2.2.1.toInt = 0) ∧ u.2.2.2.1.toInt = sl.toInt + 1 ∧ u.2.2.2.2.1.toInt = 0 ∧ u.2.2.2.2.2.toInt = 0) (fun u : Int32 × Int32 × Int32 × Int32 × Int32 × Int32 => ([(aR, .inr (2, [.ref aB, .ref aQ, .int hd, .long pl, .int hv, .int u.1, .int u.2.1, .int u.2.2.1, .int u.2.2.2.1, .int u.2.2.2.2.1, .int u.2.2.2.2.2]))] : va_W)) 0 0 := by
  refine ctv.of (by first | exact plainFor_of_name (by decide) | decide +kernel) (Nat.le_of_ble_eq_true rfl) (fun p e s m args below meth c A ls Q h hret => ?_)
  obtain ⟨hx, hb, hml, hown, hts, hnm, hP, hK, hD, hA, hS, hZ, hN, hl⟩ := h
  have hown : s.vm.findClass RX3 = some m.cls := hown
  have hl : lv_has ls 1 [(0, .ref aR)] := hl
  have hP : va_P D classes [(aR, .inr (2, [.ref aB, .ref aQ, .int hd, .long pl, .int hv, .int lk, .int dn, .int ht, .int sl, .int br, .int wh]))] s.heap := hP
  have hD : va_D A [(aR, .inr (2, [.ref aB, .ref aQ, .int hd, .long pl, .int hv, .int lk, .int dn, .int ht, .int sl, .int br, .int wh]))] := hD
  have rg_hd := zi_rg hd
  have rg_hv := zi_rg hv
  have rg_lk := zi_rg lk
  have rg_dn := zi_rg dn
  have rg_ht := zi_rg ht
  have rg_sl := zi_rg sl
  have rg_br := zi_rg br
  have rg_wh := zi_rg wh
  refine lv_aload_n hx hb dX3_slip_0 rfl (lv_at hl 0 rfl) ?_
  refine lv_iconst (v := 0) hx hb dX3_slip_1 (by decide) ?_
  refine lv_topi (fun v1 e1 => ?_)
  have z1 : v1.toInt = 0 := zi_c e1 (by decide)
  refine va_put (D := D) (ci := 2) (v := .int v1) (ty := .boolean) (C := RX3) (T := TX3) (N := 11) hx hb hts in_X3 tyX3 tyX3_ok nmX3 hown hK hP hD hS 0 rfl rfl 5 (by decide) (hts _ wk331) (fun _ h9 => h9) rfl (by decide +kernel) (zb_n (by omega)) (zb_f (by omega)) (Nat.le_of_ble_eq_true rfl) dX3_slip_2 (fun H locs hP1 hD1 hS1 => ?_)
  clear hP hD hS
  have hP : va_P D classes [(aR, .inr (2, [.ref aB, .ref aQ, .int hd, .long pl, .int hv, .int v1, .int dn, .int ht, .int sl, .int br, .int wh]))] H := hP1
  have hD : va_D A [(aR, .inr (2, [.ref aB, .ref aQ, .int hd, .long pl, .int hv, .int v1, .int dn, .int ht, .int sl, .int br, .int wh]))] := hD1
  have hS := hS1
  clear hP1 hD1 hS1
  refine lv_aload_n hx hb dX3_slip_5 rfl (lv_at hl 0 rfl) ?_
  refine lv_iconst (v := 0) hx hb dX3_slip_6 (by decide) ?_
  refine lv_topi (fun v2 e2 => ?_)
  have z2 : v2.toInt = 0 := zi_c e2 (by decide)
  refine va_put (D := D) (ci := 2) (v := .int v2) (ty := .int) (C := RX3) (T := TX3) (N := 11) hx hb hts in_X3 tyX3 tyX3_ok nmX3 hown hK hP hD hS 0 rfl rfl 7 (by decide) (hts _ wk353) (fun _ h9 => h9) rfl (by decide +kernel) rfl rfl (Nat.le_of_ble_eq_true rfl) dX3_slip_7 (fun H locs hP1 hD1 hS1 => ?_)
  clear hP hD hS
  have hP : va_P D classes [(aR, .inr (2, [.ref aB, .ref aQ, .int hd, .long pl, .int hv, .int v1, .int dn, .int v2, .int sl, .int br, .int wh]))] H := hP1
  have hD : va_D A [(aR, .inr (2, [.ref aB, .ref aQ, .int hd, .long pl, .int hv, .int v1, .int dn, .int v2, .int sl, .int br, .int wh]))] := hD1
  have hS := hS1
  clear hP1 hD1 hS1
  refine lv_aload_n hx hb dX3_slip_10 rfl (lv_at hl 0 rfl) ?_
  refine call_v (wc := [(aR, .inr (2, [.ref aB, .ref aQ, .int hd, .long pl, .int hv, .int v1, .int dn, .int v2, .int sl, .int br, .int wh]))]) (wr := []) (run_V (As := []) (rest := []) kv_RX3_97 ⟨by decide, by decide⟩ ⟨rfl, rfl⟩ ⟨hx, hb, hml, hown, hts⟩ (c_Re_beginRow l D cI cJ cB aR aB aQ hd pl hv v1 dn v2 sl br wh  _) ct_blind (ct_pre (wc := [(aR, .inr (2, [.ref aB, .ref aQ, .int hd, .long pl, .int hv, .int v1, .int dn, .int v2, .int sl, .int br, .int wh]))]) hK hP hD hS hA hZ hN [0] (by decide) rfl rfl) (va_recv hK hP (ci := 2) (q0 := 0) rfl rfl) rfl hl.1 rfl (Nat.le_of_ble_eq_true rfl) dX3_slip_11 ⟨Nat.le_of_ble_eq_true rfl, Nat.le_of_ble_eq_true rfl⟩) hP hD hS hA [0] [] rfl rfl (by decide) (by decide) (fun u H locs hw3 hP1 hD1 hS1 => ?_)
  obtain ⟨br2_3, wh2_3⟩ := u
  have hw3 : br2_3.toInt = 0 ∧ wh2_3.toInt = 0 := hw3
  clear hP hD hS
  have hP : va_P D classes [(aR, .inr (2, [.ref aB, .ref aQ, .int hd, .long pl, .int hv, .int v1, .int dn, .int v2, .int sl, .int br2_3, .int wh2_3]))] H := hP1
  have hD : va_D A [(aR, .inr (2, [.ref aB, .ref aQ, .int hd, .long pl, .int hv, .int v1, .int dn, .int v2, .int sl, .int br2_3, .int wh2_3]))] := hD1
  have hS := hS1
  clear hP1 hD1 hS1
  have rg_br2_3 := zi_rg br2_3
  have rg_wh2_3 := zi_rg wh2_3
  refine lv_aload_n hx hb dX3_slip_14 rfl (lv_at hl 0 rfl) ?_
  refine lv_dup hx hb dX3_slip_15 rfl ?_
  refine va_get (D := D) (ci := 2) (v := .int sl) (C := RX3) (T := TX3) (N := 11) hx hb hts in_X3 hown hK hP 0 rfl rfl 8 (by decide) (hts _ wk354) (fun _ h9 => h9) rfl dX3_slip_16 ?_
  refine lv_iconst (v := 1) hx hb dX3_slip_19 (by decide) ?_
  refine lv_topi (fun v4 e4 => ?_)
  have z4 : v4.toInt = 1 := zi_c e4 (by decide)
  refine lv_iadd hx hb dX3_slip_20 ?_
  refine lv_topi (fun v5 e5 => ?_)
  first | have z5 := zi_add e5 (by omega) | skip
  refine va_put (D := D) (ci := 2) (v := .int v5) (ty := .int) (C := RX3) (T := TX3) (N := 11) hx hb hts in_X3 tyX3 tyX3_ok nmX3 hown hK hP hD hS 0 rfl rfl 8 (by decide) (hts _ wk354) (fun _ h9 => h9) rfl (by decide +kernel) rfl rfl (Nat.le_of_ble_eq_true rfl) dX3_slip_21 (fun H locs hP1 hD1 hS1 => ?_)
  clear hP hD hS
  have hP : va_P D classes [(aR, .inr (2, [.ref aB, .ref aQ, .int hd, .long pl, .int hv, .int v1, .int dn, .int v2, .int v5, .int br2_3, .int wh2_3]))] H := hP1
  have hD : va_D A [(aR, .inr (2, [.ref aB, .ref aQ, .int hd, .long pl, .int hv, .int v1, .int dn, .int v2, .int v5, .int br2_3, .int wh2_3]))] := hD1
  have hS := hS1
  clear hP1 hD1 hS1
  refine lv_aload_n hx hb dX3_slip_24 rfl (lv_at hl 0 rfl) ?_
  refine lv_iconst (v := 1) hx hb dX3_slip_25 (by decide) ?_
  refine lv_topi (fun v6 e6 => ?_)
  have z6 : v6.toInt = 1 := zi_c e6 (by decide)
  refine va_put (D := D) (ci := 2) (v := .int v6) (ty := .boolean) (C := RX3) (T := TX3) (N := 11) hx hb hts in_X3 tyX3 tyX3_ok nmX3 hown hK hP hD hS 0 rfl rfl 6 (by decide) (hts _ wk319) (fun _ h9 => h9) rfl (by decide +kernel) (zb_n (by omega)) (zb_f (by omega)) (Nat.le_of_ble_eq_true rfl) dX3_slip_26 (fun H locs hP1 hD1 hS1 => ?_)
  clear hP hD hS
  have hP : va_P D classes [(aR, .inr (2, [.ref aB, .ref aQ, .int hd, .long pl, .int hv, .int v1, .int v6, .int v2, .int v5, .int br2_3, .int wh2_3]))] H := hP1
  have hD : va_D A [(aR, .inr (2, [.ref aB, .ref aQ, .int hd, .long pl, .int hv, .int v1, .int v6, .int v2, .int v5, .int br2_3, .int wh2_3]))] := hD1
  have hS := hS1
  clear hP1 hD1 hS1
  have hq7 : (v1.toInt = 0 ∧ v6.toInt = 1 ∧ v2.toInt = 0) ∧ v5.toInt = sl.toInt + 1 ∧ br2_3.toInt = 0 ∧ wh2_3.toInt = 0 := (by omega)
  exact hret (v1, v6, v2, v5, br2_3, wh2_3) _ _ _ _ dX3_slip_29 hq7 (hP.sub [0] rfl) (hD.sub [0] (by decide) rfl) hS

set_option maxHeartbeats 4000000 in
set_option maxRecDepth 100000 in
theorem c_Re_countHit (l : Launch) (D : va_G) (cI cJ cB : ClassId) (aR : Nat) (aB : Nat) (aQ : Nat) (hd : Int32) (pl : Int64) (hv : Int32) (lk : Int32) (dn : Int32) (ht : Int32) (sl : Int32) (br : Int32) (wh : Int32) (hf : Int32) (h1 : (0 ≤ lk.toInt ∧ lk.toInt ≤ 1) ∧ (0 ≤ dn.toInt ∧ dn.toInt ≤ 1) ∧ (0 ≤ ht.toInt ∧ ht.toInt ≤ 63) ∧ (0 ≤ br.toInt ∧ br.toInt ≤ 63) ∧ (0 ≤ wh.toInt ∧ wh.toInt ≤ 15) ∧ (0 ≤ sl.toInt ∧ sl.toInt ≤ 1000000000)) :
    ctv l yX3_countHit (wsOf yX3_countHit cX3_countHit 2 none) (rmL 2 40 0 0) D classes (tys3 cI cJ cB) [.ref aR, .int hf] [(aR, .inr (2, [.ref aB, .ref aQ, .int hd, .long pl, .int hv, .int lk, .int dn, .int ht, .int sl, .int br, .int wh]))] (fun u : Int32 × Int32 × Int32 × Int32 × Int32 × Int32 => ((0 ≤ u.1.toInt ∧ u.1.toInt ≤ 1) ∧ (0 ≤ u.2.1.toInt ∧ u.2.1.toInt ≤ 1) ∧ (0 ≤ u.2.2.1.toInt ∧ u.2.2.1.toInt ≤ 63) ∧ (0 ≤ u.2.2.2.2.1.toInt ∧ u.2.2.2.2.1.toInt ≤ 63) ∧ (0 ≤ u.2.2.2.2.2.toInt ∧ u.2.2.2.2.2.toInt ≤ 15) ∧ (sl.toInt ≤ u.2.2.2.1.toInt ∧ u.2.2.2.1.toInt ≤ sl.toInt + 1)) ∧ hitR hf.toInt lk.toInt dn.toInt ht.toInt sl.toInt br.toInt wh.toInt u.1.toInt u.2.1.toInt u.2.2.1.toInt u.2.2.2.1.toInt u.2.2.2.2.1.toInt u.2.2.2.2.2.toInt) (fun u : Int32 × Int32 × Int32 × Int32 × Int32 × Int32 => ([(aR, .inr (2, [.ref aB, .ref aQ, .int hd, .long pl, .int hv, .int u.1, .int u.2.1, .int u.2.2.1, .int u.2.2.2.1, .int u.2.2.2.2.1, .int u.2.2.2.2.2]))] : va_W)) 0 0 := by
  refine ctv.of (by first | exact plainFor_of_name (by decide) | decide +kernel) (Nat.le_of_ble_eq_true rfl) (fun p e s m args below meth c A ls Q h hret => ?_)
  obtain ⟨hx, hb, hml, hown, hts, hnm, hP, hK, hD, hA, hS, hZ, hN, hl⟩ := h
  have hown : s.vm.findClass RX3 = some m.cls := hown
  have hl : lv_has ls 2 [(0, .ref aR), (1, .int hf)] := hl
  have hP : va_P D classes [(aR, .inr (2, [.ref aB, .ref aQ, .int hd, .long pl, .int hv, .int lk, .int dn, .int ht, .int sl, .int br, .int wh]))] s.heap := hP
  have hD : va_D A [(aR, .inr (2, [.ref aB, .ref aQ, .int hd, .long pl, .int hv, .int lk, .int dn, .int ht, .int sl, .int br, .int wh]))] := hD
  have rg_hd := zi_rg hd
  have rg_hv := zi_rg hv
  have rg_lk := zi_rg lk
  have rg_dn := zi_rg dn
  have rg_ht := zi_rg ht
  have rg_sl := zi_rg sl
  have rg_br := zi_rg br
  have rg_wh := zi_rg wh
  have rg_hf := zi_rg hf
  refine lv_iload_n hx hb dX3_countHit_0 rfl (lv_at hl 1 rfl) ?_
  refine lv_if_ne (tgt := 9) hx hb dX3_countHit_1 (by decide) (fun c1 => ?_) (fun c1 => ?_)
  ·
    have z1 := zi_ne0 c1
    refine lv_aload_n hx hb dX3_countHit_9 rfl (lv_at hl 0 rfl) ?_
    refine lv_dup hx hb dX3_countHit_10 rfl ?_
    refine va_get (D := D) (ci := 2) (v := .int ht) (C := RX3) (T := TX3) (N := 11) hx hb hts in_X3 hown hK hP 0 rfl rfl 7 (by decide) (hts _ wk353) (fun _ h9 => h9) rfl dX3_countHit_11 ?_
    refine lv_iconst (v := 1) hx hb dX3_countHit_14 (by decide) ?_
    refine lv_topi (fun v2 e2 => ?_)
    have z2 : v2.toInt = 1 := zi_c e2 (by decide)
    refine lv_iadd hx hb dX3_countHit_15 ?_
    refine lv_topi (fun v3 e3 => ?_)
    first | have z3 := zi_add e3 (by omega) | skip
    refine va_put (D := D) (ci := 2) (v := .int v3) (ty := .int) (C := RX3) (T := TX3) (N := 11) hx hb hts in_X3 tyX3 tyX3_ok nmX3 hown hK hP hD hS 0 rfl rfl 7 (by decide) (hts _ wk353) (fun _ h9 => h9) rfl (by decide +kernel) rfl rfl (Nat.le_of_ble_eq_true rfl) dX3_countHit_16 (fun H locs hP1 hD1 hS1 => ?_)
    clear hP hD hS
    have hP : va_P D classes [(aR, .inr (2, [.ref aB, .ref aQ, .int hd, .long pl, .int hv, .int lk, .int dn, .int v3, .int sl, .int br, .int wh]))] H := hP1
    have hD : va_D A [(aR, .inr (2, [.ref aB, .ref aQ, .int hd, .long pl, .int hv, .int lk, .int dn, .int v3, .int sl, .int br, .int wh]))] := hD1
    have hS := hS1
    clear hP1 hD1 hS1
    refine lv_aload_n hx hb dX3_countHit_19 rfl (lv_at hl 0 rfl) ?_
    refine va_get (D := D) (ci := 2) (v := .int v3) (C := RX3) (T := TX3) (N := 11) hx hb hts in_X3 hown hK hP 0 rfl rfl 7 (by decide) (hts _ wk353) (fun _ h9 => h9) rfl dX3_countHit_20 ?_
    refine lv_bipush (v := 64) hx hb dX3_countHit_23 (by decide) ?_
    refine lv_topi (fun v4 e4 => ?_)
    have z4 : v4.toInt = 64 := zi_c e4 (by decide)
    refine lv_icmp_ne (tgt := 38) hx hb dX3_countHit_25 (by decide) (fun c5 => ?_) (fun c5 => ?_)
    ·
      have z5 := zi_ne c5
      have hq6 : ((0 ≤ lk.toInt ∧ lk.toInt ≤ 1) ∧ (0 ≤ dn.toInt ∧ dn.toInt ≤ 1) ∧ (0 ≤ v3.toInt ∧ v3.toInt ≤ 63) ∧ (0 ≤ br.toInt ∧ br.toInt ≤ 63) ∧ (0 ≤ wh.toInt ∧ wh.toInt ≤ 15) ∧ (sl.toInt ≤ sl.toInt ∧ sl.toInt ≤ sl.toInt + 1)) ∧ hitR hf.toInt lk.toInt dn.toInt ht.toInt sl.toInt br.toInt wh.toInt lk.toInt dn.toInt v3.toInt sl.toInt br.toInt wh.toInt := (by refine ⟨by omega, ?_⟩; unfold hitR; refine ⟨fun q => ?_, fun q => ?_⟩ <;> omega)
      exact hret (lk, dn, v3, sl, br, wh) _ _ _ _ dX3_countHit_38 hq6 (hP.sub [0] rfl) (hD.sub [0] (by decide) rfl) hS
    ·
      have z5 := zi_eq c5
      refine lv_aload_n hx hb dX3_countHit_28 rfl (lv_at hl 0 rfl) ?_
      refine lv_iconst (v := 1) hx hb dX3_countHit_29 (by decide) ?_
      refine lv_topi (fun v7 e7 => ?_)
      have z7 : v7.toInt = 1 := zi_c e7 (by decide)
      refine va_put (D := D) (ci := 2) (v := .int v7) (ty := .boolean) (C := RX3) (T := TX3) (N := 11) hx hb hts in_X3 tyX3 tyX3_ok nmX3 hown hK hP hD hS 0 rfl rfl 5 (by decide) (hts _ wk331) (fun _ h9 => h9) rfl (by decide +kernel) (zb_n (by omega)) (zb_f (by omega)) (Nat.le_of_ble_eq_true rfl) dX3_countHit_30 (fun H locs hP1 hD1 hS1 => ?_)
      clear hP hD hS
      have hP : va_P D classes [(aR, .inr (2, [.ref aB, .ref aQ, .int hd, .long pl, .int hv, .int v7, .int dn, .int v3, .int sl, .int br, .int wh]))] H := hP1
      have hD : va_D A [(aR, .inr (2, [.ref aB, .ref aQ, .int hd, .long pl, .int hv, .int v7, .int dn, .int v3, .int sl, .int br, .int wh]))] := hD1
      have hS := hS1
      clear hP1 hD1 hS1
      refine lv_aload_n hx hb dX3_countHit_33 rfl (lv_at hl 0 rfl) ?_
      refine lv_iconst (v := 0) hx hb dX3_countHit_34 (by decide) ?_
      refine lv_topi (fun v8 e8 => ?_)
      have z8 : v8.toInt = 0 := zi_c e8 (by decide)
      refine va_put (D := D) (ci := 2) (v := .int v8) (ty := .int) (C := RX3) (T := TX3) (N := 11) hx hb hts in_X3 tyX3 tyX3_ok nmX3 hown hK hP hD hS 0 rfl rfl 7 (by decide) (hts _ wk353) (fun _ h9 => h9) rfl (by decide +kernel) rfl rfl (Nat.le_of_ble_eq_true rfl) dX3_countHit_35 (fun H locs hP1 hD1 hS1 => ?_)
      clear hP hD hS
      have hP : va_P D classes [(aR, .inr (2, [.ref aB, .ref aQ, .int hd, .long pl, .int hv, .int v7, .int dn, .int v8, .int sl, .int br, .int wh]))] H := hP1
      have hD : va_D A [(aR, .inr (2, [.ref aB, .ref aQ, .int hd, .long pl, .int hv, .int v7, .int dn, .int v8, .int sl, .int br, .int wh]))] := hD1
      have hS := hS1
      clear hP1 hD1 hS1
      have hq9 : ((0 ≤ v7.toInt ∧ v7.toInt ≤ 1) ∧ (0 ≤ dn.toInt ∧ dn.toInt ≤ 1) ∧ (0 ≤ v8.toInt ∧ v8.toInt ≤ 63) ∧ (0 ≤ br.toInt ∧ br.toInt ≤ 63) ∧ (0 ≤ wh.toInt ∧ wh.toInt ≤ 15) ∧ (sl.toInt ≤ sl.toInt ∧ sl.toInt ≤ sl.toInt + 1)) ∧ hitR hf.toInt lk.toInt dn.toInt ht.toInt sl.toInt br.toInt wh.toInt v7.toInt dn.toInt v8.toInt sl.toInt br.toInt wh.toInt := (by refine ⟨by omega, ?_⟩; unfold hitR; refine ⟨fun q => ?_, fun q => ?_⟩ <;> omega)
      exact hret (v7, dn, v8, sl, br, wh) _ _ _ _ dX3_countHit_38 hq9 (hP.sub [0] rfl) (hD.sub [0] (by decide) rfl) hS
  ·
    have z1 := zi_eq0 c1
    refine lv_aload_n hx hb dX3_countHit_4 rfl (lv_at hl 0 rfl) ?_
    have hh10 : (0 ≤ lk.toInt ∧ lk.toInt ≤ 1) ∧ (0 ≤ sl.toInt ∧ sl.toInt ≤ 1000000000) := (by omega)
    refine call_v (wc := [(aR, .inr (2, [.ref aB, .ref aQ, .int hd, .long pl, .int hv, .int lk, .int dn, .int ht, .int sl, .int br, .int wh]))]) (wr := []) (run_V (As := []) (rest := []) kv_RX3_91 ⟨by decide, by decide⟩ ⟨rfl, rfl⟩ ⟨hx, hb, hml, hown, hts⟩ (c_Re_slip l D cI cJ cB aR aB aQ hd pl hv lk dn ht sl br wh hh10 _) ct_blind (ct_pre (wc := [(aR, .inr (2, [.ref aB, .ref aQ, .int hd, .long pl, .int hv, .int lk, .int dn, .int ht, .int sl, .int br, .int wh]))]) hK hP hD hS hA hZ hN [0] (by decide) rfl rfl) (va_recv hK hP (ci := 2) (q0 := 0) rfl rfl) rfl hl.1 rfl (Nat.le_of_ble_eq_true rfl) dX3_countHit_5 ⟨Nat.le_of_ble_eq_true rfl, Nat.le_of_ble_eq_true rfl⟩) hP hD hS hA [0] [] rfl rfl (by decide) (by decide) (fun u H locs hw11 hP1 hD1 hS1 => ?_)
    obtain ⟨lk2_11, dn2_11, ht2_11, sl2_11, br2_11, wh2_11⟩ := u
    have hw11 : (lk2_11.toInt = 0 ∧ dn2_11.toInt = 1 ∧ ht2_11.toInt = 0) ∧ sl2_11.toInt = sl.toInt + 1 ∧ br2_11.toInt = 0 ∧ wh2_11.toInt = 0 := hw11
    clear hP hD hS
    have hP : va_P D classes [(aR, .inr (2, [.ref aB, .ref aQ, .int hd, .long pl, .int hv, .int lk2_11, .int dn2_11, .int ht2_11, .int sl2_11, .int br2_11, .int wh2_11]))] H := hP1
    have hD : va_D A [(aR, .inr (2, [.ref aB, .ref aQ, .int hd, .long pl, .int hv, .int lk2_11, .int dn2_11, .int ht2_11, .int sl2_11, .int br2_11, .int wh2_11]))] := hD1
    have hS := hS1
    clear hP1 hD1 hS1
    have rg_lk2_11 := zi_rg lk2_11
    have rg_dn2_11 := zi_rg dn2_11
    have rg_ht2_11 := zi_rg ht2_11
    have rg_sl2_11 := zi_rg sl2_11
    have rg_br2_11 := zi_rg br2_11
    have rg_wh2_11 := zi_rg wh2_11
    have hq12 : ((0 ≤ lk2_11.toInt ∧ lk2_11.toInt ≤ 1) ∧ (0 ≤ dn2_11.toInt ∧ dn2_11.toInt ≤ 1) ∧ (0 ≤ ht2_11.toInt ∧ ht2_11.toInt ≤ 63) ∧ (0 ≤ br2_11.toInt ∧ br2_11.toInt ≤ 63) ∧ (0 ≤ wh2_11.toInt ∧ wh2_11.toInt ≤ 15) ∧ (sl.toInt ≤ sl2_11.toInt ∧ sl2_11.toInt ≤ sl.toInt + 1)) ∧ hitR hf.toInt lk.toInt dn.toInt ht.toInt sl.toInt br.toInt wh.toInt lk2_11.toInt dn2_11.toInt ht2_11.toInt sl2_11.toInt br2_11.toInt wh2_11.toInt := (by refine ⟨by omega, ?_⟩; unfold hitR; refine ⟨fun q => ?_, fun q => ?_⟩ <;> omega)
    exact hret (lk2_11, dn2_11, ht2_11, sl2_11, br2_11, wh2_11) _ _ _ _ dX3_countHit_8 hq12 (hP.sub [0] rfl) (hD.sub [0] (by decide) rfl) hS

set_option maxHeartbeats 4000000 in
set_option maxRecDepth 100000 in
theorem c_Re_countInRow (l : Launch) (D : va_G) (cI cJ cB : ClassId) (aR : Nat) (aB : Nat) (aQ : Nat) (hd : Int32) (pl : Int64) (hv : Int32) (lk : Int32) (dn : Int32) (ht : Int32) (sl : Int32) (br : Int32) (wh : Int32) (hf : Int32) (h1 : (0 ≤ lk.toInt ∧ lk.toInt ≤ 1) ∧ (0 ≤ dn.toInt ∧ dn.toInt ≤ 1) ∧ (0 ≤ ht.toInt ∧ ht.toInt ≤ 63) ∧ (0 ≤ br.toInt ∧ br.toInt ≤ 63) ∧ (0 ≤ wh.toInt ∧ wh.toInt ≤ 15) ∧ (0 ≤ sl.toInt ∧ sl.toInt ≤ 1000000000)) :
    ctv l yX3_countInRow (wsOf yX3_countInRow cX3_countInRow 2 none) (rmL 2 40 0 0) D classes (tys3 cI cJ cB) [.ref aR, .int hf] [(aR, .inr (2, [.ref aB, .ref aQ, .int hd, .long pl, .int hv, .int lk, .int dn, .int ht, .int sl, .int br, .int wh]))] (fun u : Int32 × Int32 × Int32 × Int32 × Int32 × Int32 => ((0 ≤ u.1.toInt ∧ u.1.toInt ≤ 1) ∧ (0 ≤ u.2.1.toInt ∧ u.2.1.toInt ≤ 1) ∧ (0 ≤ u.2.2.1.toInt ∧ u.2.2.1.toInt ≤ 63) ∧ (0 ≤ u.2.2.2.2.1.toInt ∧ u.2.2.2.2.1.toInt ≤ 63) ∧ (0 ≤ u.2.2.2.2.2.toInt ∧ u.2.2.2.2.2.toInt ≤ 15) ∧ (sl.toInt ≤ u.2.2.2.1.toInt ∧ u.2.2.2.1.toInt ≤ sl.toInt + 1)) ∧ rowR hf.toInt lk.toInt dn.toInt ht.toInt sl.toInt br.toInt wh.toInt u.1.toInt u.2.1.toInt u.2.2.1.toInt u.2.2.2.1.toInt u.2.2.2.2.1.toInt u.2.2.2.2.2.toInt) (fun u : Int32 × Int32 × Int32 × Int32 × Int32 × Int32 => ([(aR, .inr (2, [.ref aB, .ref aQ, .int hd, .long pl, .int hv, .int u.1, .int u.2.1, .int u.2.2.1, .int u.2.2.2.1, .int u.2.2.2.2.1, .int u.2.2.2.2.2]))] : va_W)) 0 0 := by
  refine ctv.of (by first | exact plainFor_of_name (by decide) | decide +kernel) (Nat.le_of_ble_eq_true rfl) (fun p e s m args below meth c A ls Q h hret => ?_)
  obtain ⟨hx, hb, hml, hown, hts, hnm, hP, hK, hD, hA, hS, hZ, hN, hl⟩ := h
  have hown : s.vm.findClass RX3 = some m.cls := hown
  have hl : lv_has ls 2 [(0, .ref aR), (1, .int hf)] := hl
  have hP : va_P D classes [(aR, .inr (2, [.ref aB, .ref aQ, .int hd, .long pl, .int hv, .int lk, .int dn, .int ht, .int sl, .int br, .int wh]))] s.heap := hP
  have hD : va_D A [(aR, .inr (2, [.ref aB, .ref aQ, .int hd, .long pl, .int hv, .int lk, .int dn, .int ht, .int sl, .int br, .int wh]))] := hD
  have rg_hd := zi_rg hd
  have rg_hv := zi_rg hv
  have rg_lk := zi_rg lk
  have rg_dn := zi_rg dn
  have rg_ht := zi_rg ht
  have rg_sl := zi_rg sl
  have rg_br := zi_rg br
  have rg_wh := zi_rg wh
  have rg_hf := zi_rg hf
  refine lv_aload_n hx hb dX3_countInRow_0 rfl (lv_at hl 0 rfl) ?_
  refine lv_dup hx hb dX3_countInRow_1 rfl ?_
  refine va_get (D := D) (ci := 2) (v := .int br) (C := RX3) (T := TX3) (N := 11) hx hb hts in_X3 hown hK hP 0 rfl rfl 9 (by decide) (hts _ wk347) (fun _ h9 => h9) rfl dX3_countInRow_2 ?_
  refine lv_iconst (v := 1) hx hb dX3_countInRow_5 (by decide) ?_
  refine lv_topi (fun v1 e1 => ?_)
  have z1 : v1.toInt = 1 := zi_c e1 (by decide)
  refine lv_iadd hx hb dX3_countInRow_6 ?_
  refine lv_topi (fun v2 e2 => ?_)
  first | have z2 := zi_add e2 (by omega) | skip
  refine va_put (D := D) (ci := 2) (v := .int v2) (ty := .int) (C := RX3) (T := TX3) (N := 11) hx hb hts in_X3 tyX3 tyX3_ok nmX3 hown hK hP hD hS 0 rfl rfl 9 (by decide) (hts _ wk347) (fun _ h9 => h9) rfl (by decide +kernel) rfl rfl (Nat.le_of_ble_eq_true rfl) dX3_countInRow_7 (fun H locs hP1 hD1 hS1 => ?_)
  clear hP hD hS
  have hP : va_P D classes [(aR, .inr (2, [.ref aB, .ref aQ, .int hd, .long pl, .int hv, .int lk, .int dn, .int ht, .int sl, .int v2, .int wh]))] H := hP1
  have hD : va_D A [(aR, .inr (2, [.ref aB, .ref aQ, .int hd, .long pl, .int hv, .int lk, .int dn, .int ht, .int sl, .int v2, .int wh]))] := hD1
  have hS := hS1
  clear hP1 hD1 hS1
  refine lv_iload_n hx hb dX3_countInRow_10 rfl (lv_at hl 1 rfl) ?_
  refine lv_if_ne (tgt := 24) hx hb dX3_countInRow_11 (by decide) (fun c3 => ?_) (fun c3 => ?_)
  ·
    have z3 := zi_ne0 c3
    refine lv_aload_n hx hb dX3_countInRow_24 rfl (lv_at hl 0 rfl) ?_
    refine va_get (D := D) (ci := 2) (v := .int wh) (C := RX3) (T := TX3) (N := 11) hx hb hts in_X3 hown hK hP 0 rfl rfl 10 (by decide) (hts _ wk348) (fun _ h9 => h9) rfl dX3_countInRow_25 ?_
    refine lv_bipush (v := 16) hx hb dX3_countInRow_28 (by decide) ?_
    refine lv_topi (fun v4 e4 => ?_)
    have z4 : v4.toInt = 16 := zi_c e4 (by decide)
    refine lv_icmp_ne (tgt := 40) hx hb dX3_countInRow_30 (by decide) (fun c5 => ?_) (fun c5 => ?_)
    ·
      have z5 := zi_ne c5
      refine lv_aload_n hx hb dX3_countInRow_40 rfl (lv_at hl 0 rfl) ?_
      refine va_get (D := D) (ci := 2) (v := .int v2) (C := RX3) (T := TX3) (N := 11) hx hb hts in_X3 hown hK hP 0 rfl rfl 9 (by decide) (hts _ wk347) (fun _ h9 => h9) rfl dX3_countInRow_41 ?_
      refine lv_bipush (v := 64) hx hb dX3_countInRow_44 (by decide) ?_
      refine lv_topi (fun v6 e6 => ?_)
      have z6 : v6.toInt = 64 := zi_c e6 (by decide)
      refine lv_icmp_ne (tgt := 53) hx hb dX3_countInRow_46 (by decide) (fun c7 => ?_) (fun c7 => ?_)
      ·
        have z7 := zi_ne c7
        have hq8 : ((0 ≤ lk.toInt ∧ lk.toInt ≤ 1) ∧ (0 ≤ dn.toInt ∧ dn.toInt ≤ 1) ∧ (0 ≤ ht.toInt ∧ ht.toInt ≤ 63) ∧ (0 ≤ v2.toInt ∧ v2.toInt ≤ 63) ∧ (0 ≤ wh.toInt ∧ wh.toInt ≤ 15) ∧ (sl.toInt ≤ sl.toInt ∧ sl.toInt ≤ sl.toInt + 1)) ∧ rowR hf.toInt lk.toInt dn.toInt ht.toInt sl.toInt br.toInt wh.toInt lk.toInt dn.toInt ht.toInt sl.toInt v2.toInt wh.toInt := (by refine ⟨by omega, ?_⟩; unfold rowR; refine ⟨fun q => ?_, fun q => ?_⟩ <;> omega)
        exact hret (lk, dn, ht, sl, v2, wh) _ _ _ _ dX3_countInRow_53 hq8 (hP.sub [0] rfl) (hD.sub [0] (by decide) rfl) hS
      ·
        have z7 := zi_eq c7
        refine lv_aload_n hx hb dX3_countInRow_49 rfl (lv_at hl 0 rfl) ?_
        refine call_v (wc := [(aR, .inr (2, [.ref aB, .ref aQ, .int hd, .long pl, .int hv, .int lk, .int dn, .int ht, .int sl, .int v2, .int wh]))]) (wr := []) (run_V (As := []) (rest := []) kv_RX3_97 ⟨by decide, by decide⟩ ⟨rfl, rfl⟩ ⟨hx, hb, hml, hown, hts⟩ (c_Re_beginRow l D cI cJ cB aR aB aQ hd pl hv lk dn ht sl v2 wh  _) ct_blind (ct_pre (wc := [(aR, .inr (2, [.ref aB, .ref aQ, .int hd, .long pl, .int hv, .int lk, .int dn, .int ht, .int sl, .int v2, .int wh]))]) hK hP hD hS hA hZ hN [0] (by decide) rfl rfl) (va_recv hK hP (ci := 2) (q0 := 0) rfl rfl) rfl hl.1 rfl (Nat.le_of_ble_eq_true rfl) dX3_countInRow_50 ⟨Nat.le_of_ble_eq_true rfl, Nat.le_of_ble_eq_true rfl⟩) hP hD hS hA [0] [] rfl rfl (by decide) (by decide) (fun u H locs hw9 hP1 hD1 hS1 => ?_)
        obtain ⟨br2_9, wh2_9⟩ := u
        have hw9 : br2_9.toInt = 0 ∧ wh2_9.toInt = 0 := hw9
        clear hP hD hS
        have hP : va_P D classes [(aR, .inr (2, [.ref aB, .ref aQ, .int hd, .long pl, .int hv, .int lk, .int dn, .int ht, .int sl, .int br2_9, .int wh2_9]))] H := hP1
        have hD : va_D A [(aR, .inr (2, [.ref aB, .ref aQ, .int hd, .long pl, .int hv, .int lk, .int dn, .int ht, .int sl, .int br2_9, .int wh2_9]))] := hD1
        have hS := hS1
        clear hP1 hD1 hS1
        have rg_br2_9 := zi_rg br2_9
        have rg_wh2_9 := zi_rg wh2_9
        have hq10 : ((0 ≤ lk.toInt ∧ lk.toInt ≤ 1) ∧ (0 ≤ dn.toInt ∧ dn.toInt ≤ 1) ∧ (0 ≤ ht.toInt ∧ ht.toInt ≤ 63) ∧ (0 ≤ br2_9.toInt ∧ br2_9.toInt ≤ 63) ∧ (0 ≤ wh2_9.toInt ∧ wh2_9.toInt ≤ 15) ∧ (sl.toInt ≤ sl.toInt ∧ sl.toInt ≤ sl.toInt + 1)) ∧ rowR hf.toInt lk.toInt dn.toInt ht.toInt sl.toInt br.toInt wh.toInt lk.toInt dn.toInt ht.toInt sl.toInt br2_9.toInt wh2_9.toInt := (by refine ⟨by omega, ?_⟩; unfold rowR; refine ⟨fun q => ?_, fun q => ?_⟩ <;> omega)
        exact hret (lk, dn, ht, sl, br2_9, wh2_9) _ _ _ _ dX3_countInRow_53 hq10 (hP.sub [0] rfl) (hD.sub [0] (by decide) rfl) hS
    ·
      have z5 := zi_eq c5
      refine lv_aload_n hx hb dX3_countInRow_33 rfl (lv_at hl 0 rfl) ?_
      have hh11 : (0 ≤ lk.toInt ∧ lk.toInt ≤ 1) ∧ (0 ≤ sl.toInt ∧ sl.toInt ≤ 1000000000) := (by omega)
      refine call_v (wc := [(aR, .inr (2, [.ref aB, .ref aQ, .int hd, .long pl, .int hv, .int lk, .int dn, .int ht, .int sl, .int v2, .int wh]))]) (wr := []) (run_V (As := []) (rest := []) kv_RX3_91 ⟨by decide, by decide⟩ ⟨rfl, rfl⟩ ⟨hx, hb, hml, hown, hts⟩ (c_Re_slip l D cI cJ cB aR aB aQ hd pl hv lk dn ht sl v2 wh hh11 _) ct_blind (ct_pre (wc := [(aR, .inr (2, [.ref aB, .ref aQ, .int hd, .long pl, .int hv, .int lk, .int dn, .int ht, .int sl, .int v2, .int wh]))]) hK hP hD hS hA hZ hN [0] (by decide) rfl rfl) (va_recv hK hP (ci := 2) (q0 := 0) rfl rfl) rfl hl.1 rfl (Nat.le_of_ble_eq_true rfl) dX3_countInRow_34 ⟨Nat.le_of_ble_eq_true rfl, Nat.le_of_ble_eq_true rfl⟩) hP hD hS hA [0] [] rfl rfl (by decide) (by decide) (fun u H locs hw12 hP1 hD1 hS1 => ?_)
      obtain ⟨lk2_12, dn2_12, ht2_12, sl2_12, br2_12, wh2_12⟩ := u
      have hw12 : (lk2_12.toInt = 0 ∧ dn2_12.toInt = 1 ∧ ht2_12.toInt = 0) ∧ sl2_12.toInt = sl.toInt + 1 ∧ br2_12.toInt = 0 ∧ wh2_12.toInt = 0 := hw12
      clear hP hD hS
      have hP : va_P D classes [(aR, .inr (2, [.ref aB, .ref aQ, .int hd, .long pl, .int hv, .int lk2_12, .int dn2_12, .int ht2_12, .int sl2_12, .int br2_12, .int wh2_12]))] H := hP1
      have hD : va_D A [(aR, .inr (2, [.ref aB, .ref aQ, .int hd, .long pl, .int hv, .int lk2_12, .int dn2_12, .int ht2_12, .int sl2_12, .int br2_12, .int wh2_12]))] := hD1
      have hS := hS1
      clear hP1 hD1 hS1
      have rg_lk2_12 := zi_rg lk2_12
      have rg_dn2_12 := zi_rg dn2_12
      have rg_ht2_12 := zi_rg ht2_12
      have rg_sl2_12 := zi_rg sl2_12
      have rg_br2_12 := zi_rg br2_12
      have rg_wh2_12 := zi_rg wh2_12
      refine lv_goto (tgt := 53) hx hb dX3_countInRow_37 (by decide) ?_
      have hq13 : ((0 ≤ lk2_12.toInt ∧ lk2_12.toInt ≤ 1) ∧ (0 ≤ dn2_12.toInt ∧ dn2_12.toInt ≤ 1) ∧ (0 ≤ ht2_12.toInt ∧ ht2_12.toInt ≤ 63) ∧ (0 ≤ br2_12.toInt ∧ br2_12.toInt ≤ 63) ∧ (0 ≤ wh2_12.toInt ∧ wh2_12.toInt ≤ 15) ∧ (sl.toInt ≤ sl2_12.toInt ∧ sl2_12.toInt ≤ sl.toInt + 1)) ∧ rowR hf.toInt lk.toInt dn.toInt ht.toInt sl.toInt br.toInt wh.toInt lk2_12.toInt dn2_12.toInt ht2_12.toInt sl2_12.toInt br2_12.toInt wh2_12.toInt := (by refine ⟨by omega, ?_⟩; unfold rowR; refine ⟨fun q => ?_, fun q => ?_⟩ <;> omega)
      exact hret (lk2_12, dn2_12, ht2_12, sl2_12, br2_12, wh2_12) _ _ _ _ dX3_countInRow_53 hq13 (hP.sub [0] rfl) (hD.sub [0] (by decide) rfl) hS
  ·
    have z3 := zi_eq0 c3
    refine lv_aload_n hx hb dX3_countInRow_14 rfl (lv_at hl 0 rfl) ?_
    refine lv_dup hx hb dX3_countInRow_15 rfl ?_
    refine va_get (D := D) (ci := 2) (v := .int wh) (C := RX3) (T := TX3) (N := 11) hx hb hts in_X3 hown hK hP 0 rfl rfl 10 (by decide) (hts _ wk348) (fun _ h9 => h9) rfl dX3_countInRow_16 ?_
    refine lv_iconst (v := 1) hx hb dX3_countInRow_19 (by decide) ?_
    refine lv_topi (fun v14 e14 => ?_)
    have z14 : v14.toInt = 1 := zi_c e14 (by decide)
    refine lv_iadd hx hb dX3_countInRow_20 ?_
    refine lv_topi (fun v15 e15 => ?_)
    first | have z15 := zi_add e15 (by omega) | skip
    refine va_put (D := D) (ci := 2) (v := .int v15) (ty := .int) (C := RX3) (T := TX3) (N := 11) hx hb hts in_X3 tyX3 tyX3_ok nmX3 hown hK hP hD hS 0 rfl rfl 10 (by decide) (hts _ wk348) (fun _ h9 => h9) rfl (by decide +kernel) rfl rfl (Nat.le_of_ble_eq_true rfl) dX3_countInRow_21 (fun H locs hP1 hD1 hS1 => ?_)
    clear hP hD hS
    have hP : va_P D classes [(aR, .inr (2, [.ref aB, .ref aQ, .int hd, .long pl, .int hv, .int lk, .int dn, .int ht, .int sl, .int v2, .int v15]))] H := hP1
    have hD : va_D A [(aR, .inr (2, [.ref aB, .ref aQ, .int hd, .long pl, .int hv, .int lk, .int dn, .int ht, .int sl, .int v2, .int v15]))] := hD1
    have hS := hS1
    clear hP1 hD1 hS1
    refine lv_aload_n hx hb dX3_countInRow_24 rfl (lv_at hl 0 rfl) ?_
    refine va_get (D := D) (ci := 2) (v := .int v15) (C := RX3) (T := TX3) (N := 11) hx hb hts in_X3 hown hK hP 0 rfl rfl 10 (by decide) (hts _ wk348) (fun _ h9 => h9) rfl dX3_countInRow_25 ?_
    refine lv_bipush (v := 16) hx hb dX3_countInRow_28 (by decide) ?_
    refine lv_topi (fun v16 e16 => ?_)
    have z16 : v16.toInt = 16 := zi_c e16 (by decide)
    refine lv_icmp_ne (tgt := 40) hx hb dX3_countInRow_30 (by decide) (fun c17 => ?_) (fun c17 => ?_)
    ·
      have z17 := zi_ne c17
      refine lv_aload_n hx hb dX3_countInRow_40 rfl (lv_at hl 0 rfl) ?_
      refine va_get (D := D) (ci := 2) (v := .int v2) (C := RX3) (T := TX3) (N := 11) hx hb hts in_X3 hown hK hP 0 rfl rfl 9 (by decide) (hts _ wk347) (fun _ h9 => h9) rfl dX3_countInRow_41 ?_
      refine lv_bipush (v := 64) hx hb dX3_countInRow_44 (by decide) ?_
      refine lv_topi (fun v18 e18 => ?_)
      have z18 : v18.toInt = 64 := zi_c e18 (by decide)
      refine lv_icmp_ne (tgt := 53) hx hb dX3_countInRow_46 (by decide) (fun c19 => ?_) (fun c19 => ?_)
      ·
        have z19 := zi_ne c19
        have hq20 : ((0 ≤ lk.toInt ∧ lk.toInt ≤ 1) ∧ (0 ≤ dn.toInt ∧ dn.toInt ≤ 1) ∧ (0 ≤ ht.toInt ∧ ht.toInt ≤ 63) ∧ (0 ≤ v2.toInt ∧ v2.toInt ≤ 63) ∧ (0 ≤ v15.toInt ∧ v15.toInt ≤ 15) ∧ (sl.toInt ≤ sl.toInt ∧ sl.toInt ≤ sl.toInt + 1)) ∧ rowR hf.toInt lk.toInt dn.toInt ht.toInt sl.toInt br.toInt wh.toInt lk.toInt dn.toInt ht.toInt sl.toInt v2.toInt v15.toInt := (by refine ⟨by omega, ?_⟩; unfold rowR; refine ⟨fun q => ?_, fun q => ?_⟩ <;> omega)
        exact hret (lk, dn, ht, sl, v2, v15) _ _ _ _ dX3_countInRow_53 hq20 (hP.sub [0] rfl) (hD.sub [0] (by decide) rfl) hS
      ·
        have z19 := zi_eq c19
        refine lv_aload_n hx hb dX3_countInRow_49 rfl (lv_at hl 0 rfl) ?_
        refine call_v (wc := [(aR, .inr (2, [.ref aB, .ref aQ, .int hd, .long pl, .int hv, .int lk, .int dn, .int ht, .int sl, .int v2, .int v15]))]) (wr := []) (run_V (As := []) (rest := []) kv_RX3_97 ⟨by decide, by decide⟩ ⟨rfl, rfl⟩ ⟨hx, hb, hml, hown, hts⟩ (c_Re_beginRow l D cI cJ cB aR aB aQ hd pl hv lk dn ht sl v2 v15  _) ct_blind (ct_pre (wc := [(aR, .inr (2, [.ref aB, .ref aQ, .int hd, .long pl, .int hv, .int lk, .int dn, .int ht, .int sl, .int v2, .int v15]))]) hK hP hD hS hA hZ hN [0] (by decide) rfl rfl) (va_recv hK hP (ci := 2) (q0 := 0) rfl rfl) rfl hl.1 rfl (Nat.le_of_ble_eq_true rfl) dX3_countInRow_50 ⟨Nat.le_of_ble_eq_true rfl, Nat.le_of_ble_eq_true rfl⟩) hP hD hS hA [0] [] rfl rfl (by decide) (by decide) (fun u H locs hw21 hP1 hD1 hS1 => ?_)
        obtain ⟨br2_21, wh2_21⟩ := u
        have hw21 : br2_21.toInt = 0 ∧ wh2_21.toInt = 0 := hw21
        clear hP hD hS
        have hP : va_P D classes [(aR, .inr (2, [.ref aB, .ref aQ, .int hd, .long pl, .int hv, .int lk, .int dn, .int ht, .int sl, .int br2_21, .int wh2_21]))] H := hP1
        have hD : va_D A [(aR, .inr (2, [.ref aB, .ref aQ, .int hd, .long pl, .int hv, .int lk, .int dn, .int ht, .int sl, .int br2_21, .int wh2_21]))] := hD1
        have hS := hS1
        clear hP1 hD1 hS1
        have rg_br2_21 := zi_rg br2_21
        have rg_wh2_21 := zi_rg wh2_21
        have hq22 : ((0 ≤ lk.toInt ∧ lk.toInt ≤ 1) ∧ (0 ≤ dn.toInt ∧ dn.toInt ≤ 1) ∧ (0 ≤ ht.toInt ∧ ht.toInt ≤ 63) ∧ (0 ≤ br2_21.toInt ∧ br2_21.toInt ≤ 63) ∧ (0 ≤ wh2_21.toInt ∧ wh2_21.toInt ≤ 15) ∧ (sl.toInt ≤ sl.toInt ∧ sl.toInt ≤ sl.toInt + 1)) ∧ rowR hf.toInt lk.toInt dn.toInt ht.toInt sl.toInt br.toInt wh.toInt lk.toInt dn.toInt ht.toInt sl.toInt br2_21.toInt wh2_21.toInt := (by refine ⟨by omega, ?_⟩; unfold rowR; refine ⟨fun q => ?_, fun q => ?_⟩ <;> omega)
        exact hret (lk, dn, ht, sl, br2_21, wh2_21) _ _ _ _ dX3_countInRow_53 hq22 (hP.sub [0] rfl) (hD.sub [0] (by decide) rfl) hS
    ·
      have z17 := zi_eq c17
      refine lv_aload_n hx hb dX3_countInRow_33 rfl (lv_at hl 0 rfl) ?_
      have hh23 : (0 ≤ lk.toInt ∧ lk.toInt ≤ 1) ∧ (0 ≤ sl.toInt ∧ sl.toInt ≤ 1000000000) := (by omega)
      refine call_v (wc := [(aR, .inr (2, [.ref aB, .ref aQ, .int hd, .long pl, .int hv, .int lk, .int dn, .int ht, .int sl, .int v2, .int v15]))]) (wr := []) (run_V (As := []) (rest := []) kv_RX3_91 ⟨by decide, by decide⟩ ⟨rfl, rfl⟩ ⟨hx, hb, hml, hown, hts⟩ (c_Re_slip l D cI cJ cB aR aB aQ hd pl hv lk dn ht sl v2 v15 hh23 _) ct_blind (ct_pre (wc := [(aR, .inr (2, [.ref aB, .ref aQ, .int hd, .long pl, .int hv, .int lk, .int dn, .int ht, .int sl, .int v2, .int v15]))]) hK hP hD hS hA hZ hN [0] (by decide) rfl rfl) (va_recv hK hP (ci := 2) (q0 := 0) rfl rfl) rfl hl.1 rfl (Nat.le_of_ble_eq_true rfl) dX3_countInRow_34 ⟨Nat.le_of_ble_eq_true rfl, Nat.le_of_ble_eq_true rfl⟩) hP hD hS hA [0] [] rfl rfl (by decide) (by decide) (fun u H locs hw24 hP1 hD1 hS1 => ?_)
      obtain ⟨lk2_24, dn2_24, ht2_24, sl2_24, br2_24, wh2_24⟩ := u
      have hw24 : (lk2_24.toInt = 0 ∧ dn2_24.toInt = 1 ∧ ht2_24.toInt = 0) ∧ sl2_24.toInt = sl.toInt + 1 ∧ br2_24.toInt = 0 ∧ wh2_24.toInt = 0 := hw24
      clear hP hD hS
      have hP : va_P D classes [(aR, .inr (2, [.ref aB, .ref aQ, .int hd, .long pl, .int hv, .int lk2_24, .int dn2_24, .int ht2_24, .int sl2_24, .int br2_24, .int wh2_24]))] H := hP1
      have hD : va_D A [(aR, .inr (2, [.ref aB, .ref aQ, .int hd, .long pl, .int hv, .int lk2_24, .int dn2_24, .int ht2_24, .int sl2_24, .int br2_24, .int wh2_24]))] := hD1
      have hS := hS1
      clear hP1 hD1 hS1
      have rg_lk2_24 := zi_rg lk2_24
      have rg_dn2_24 := zi_rg dn2_24
      have rg_ht2_24 := zi_rg ht2_24
      have rg_sl2_24 := zi_rg sl2_24
      have rg_br2_24 := zi_rg br2_24
      have rg_wh2_24 := zi_rg wh2_24
      refine lv_goto (tgt := 53) hx hb dX3_countInRow_37 (by decide) ?_
      have hq25 : ((0 ≤ lk2_24.toInt ∧ lk2_24.toInt ≤ 1) ∧ (0 ≤ dn2_24.toInt ∧ dn2_24.toInt ≤ 1) ∧ (0 ≤ ht2_24.toInt ∧ ht2_24.toInt ≤ 63) ∧ (0 ≤ br2_24.toInt ∧ br2_24.toInt ≤ 63) ∧ (0 ≤ wh2_24.toInt ∧ wh2_24.toInt ≤ 15) ∧ (sl.toInt ≤ sl2_24.toInt ∧ sl2_24.toInt ≤ sl.toInt + 1)) ∧ rowR hf.toInt lk.toInt dn.toInt ht.toInt sl.toInt br.toInt wh.toInt lk2_24.toInt dn2_24.toInt ht2_24.toInt sl2_24.toInt br2_24.toInt wh2_24.toInt := (by refine ⟨by omega, ?_⟩; unfold rowR; refine ⟨fun q => ?_, fun q => ?_⟩ <;> omega)
      exact hret (lk2_24, dn2_24, ht2_24, sl2_24, br2_24, wh2_24) _ _ _ _ dX3_countInRow_53 hq25 (hP.sub [0] rfl) (hD.sub [0] (by decide) rfl) hS

set_option maxHeartbeats 4000000 in
set_option maxRecDepth 100000 in
theorem c_Re_endBlock (l : Launch) (D : va_G) (cI cJ cB : ClassId) (aR : Nat) (aB : Nat) (aQ : Nat) (aT : Nat) (aP : Nat) (hd : Int32) (pl : Int64) (hv : Int32) (lk : Int32) (dn : Int32) (ht : Int32) (sl : Int32) (br : Int32) (wh : Int32) (gc : Int32) (ft : Nat → Int32) (fp : Nat → Int64) (h1 : 0 ≤ gc.toInt ∧ gc.toInt ≤ 1000000000) (h2 : (0 ≤ lk.toInt ∧ lk.toInt ≤ 1) ∧ (0 ≤ dn.toInt ∧ dn.toInt ≤ 1) ∧ (0 ≤ ht.toInt ∧ ht.toInt ≤ 63) ∧ (0 ≤ br.toInt ∧ br.toInt ≤ 63) ∧ (0 ≤ wh.toInt ∧ wh.toInt ≤ 15) ∧ (0 ≤ sl.toInt ∧ sl.toInt ≤ 1000000000)) :
    ctv l yX3_endBlock (wsOf yX3_endBlock cX3_endBlock 2 none) (rmL 3 66 0 0) D classes (tys3 cI cJ cB) [.ref aR] [(aR, .inr (2, [.ref aB, .ref aQ, .int hd, .long pl, .int hv, .int lk, .int dn, .int ht, .int sl, .int br, .int wh])), (aQ, .inr (0, [.ref aT, .ref aP, .int gc])), (aT, .inl (cI, 300, .inl ft)), (aP, .inl (cJ, 300, .inr (.inl fp)))] (fun u : Int32 × Int32 × Int32 × Int32 × Int32 × Int32 × Int32 × (Nat → Int32) × (Nat → Int64) => (gc.toInt ≤ u.2.2.2.2.2.2.1.toInt ∧ u.2.2.2.2.2.2.1.toInt ≤ gc.toInt + 1) ∧ ((0 ≤ u.1.toInt ∧ u.1.toInt ≤ 1) ∧ (0 ≤ u.2.1.toInt ∧ u.2.1.toInt ≤ 1) ∧ (0 ≤ u.2.2.1.toInt ∧ u.2.2.1.toInt ≤ 63) ∧ (0 ≤ u.2.2.2.2.1.toInt ∧ u.2.2.2.2.1.toInt ≤ 63) ∧ (0 ≤ u.2.2.2.2.2.1.toInt ∧ u.2.2.2.2.2.1.toInt ≤ 15) ∧ (sl.toInt ≤ u.2.2.2.1.toInt ∧ u.2.2.2.1.toInt ≤ sl.toInt + 1)) ∧ endR hd.toInt lk.toInt dn.toInt ht.toInt sl.toInt br.toInt wh.toInt gc.toInt u.1.toInt u.2.1.toInt u.2.2.1.toInt u.2.2.2.1.toInt u.2.2.2.2.1.toInt u.2.2.2.2.2.1.toInt u.2.2.2.2.2.2.1.toInt) (fun u : Int32 × Int32 × Int32 × Int32 × Int32 × Int32 × Int32 × (Nat → Int32) × (Nat → Int64) => ([(aR, .inr (2, [.ref aB, .ref aQ, .int hd, .long pl, .int hv, .int u.1, .int u.2.1, .int u.2.2.1, .int u.2.2.2.1, .int u.2.2.2.2.1, .int u.2.2.2.2.2.1])), (aQ, .inr (0, [.ref aT, .ref aP, .int u.2.2.2.2.2.2.1])), (aT, .inl (cI, 300, .inl u.2.2.2.2.2.2.2.1)), (aP, .inl (cJ, 300, .inr (.inl u.2.2.2.2.2.2.2.2)))] : va_W)) 0 0 := by
  refine ctv.of (by first | exact plainFor_of_name (by decide) | decide +kernel) (Nat.le_of_ble_eq_true rfl) (fun p e s m args below meth c A ls Q h hret => ?_)
  obtain ⟨hx, hb, hml, hown, hts, hnm, hP, hK, hD, hA, hS, hZ, hN, hl⟩ := h
  have hown : s.vm.findClass RX3 = some m.cls := hown
  have hl : lv_has ls 2 [(0, .ref aR)] := hl
  have hP : va_P D classes [(aR, .inr (2, [.ref aB, .ref aQ, .int hd, .long pl, .int hv, .int lk, .int dn, .int ht, .int sl, .int br, .int wh])), (aQ, .inr (0, [.ref aT, .ref aP, .int gc])), (aT, .inl (cI, 300, .inl ft)), (aP, .inl (cJ, 300, .inr (.inl fp)))] s.heap := hP
  have hD : va_D A [(aR, .inr (2, [.ref aB, .ref aQ, .int hd, .long pl, .int hv, .int lk, .int dn, .int ht, .int sl, .int br, .int wh])), (aQ, .inr (0, [.ref aT, .ref aP, .int gc])), (aT, .inl (cI, 300, .inl ft)), (aP, .inl (cJ, 300, .inr (.inl fp)))] := hD
  have rg_hd := zi_rg hd
  have rg_hv := zi_rg hv
  have rg_lk := zi_rg lk
  have rg_dn := zi_rg dn
  have rg_ht := zi_rg ht
  have rg_sl := zi_rg sl
  have rg_br := zi_rg br
  have rg_wh := zi_rg wh
  have rg_gc := zi_rg gc
  refine lv_aload_n hx hb dX3_endBlock_0 rfl (lv_at hl 0 rfl) ?_
  refine va_get (D := D) (ci := 2) (v := .int hd) (C := RX3) (T := TX3) (N := 11) hx hb hts in_X3 hown hK hP 0 rfl rfl 2 (by decide) (hts _ wk321) (fun _ h9 => h9) rfl dX3_endBlock_1 ?_
  refine lv_iconst (v := 1) hx hb dX3_endBlock_4 (by decide) ?_
  refine lv_topi (fun v1 e1 => ?_)
  have z1 : v1.toInt = 1 := zi_c e1 (by decide)
  refine lv_icmp_eq (tgt := 16) hx hb dX3_endBlock_5 (by decide) (fun c2 => ?_) (fun c2 => ?_)
  ·
    have z2 := zi_eq c2
    refine lv_iconst (v := 1) hx hb dX3_endBlock_16 (by decide) ?_
    refine lv_topi (fun v3 e3 => ?_)
    have z3 : v3.toInt = 1 := zi_c e3 (by decide)
    refine lv_goto (tgt := 21) hx hb dX3_endBlock_17 (by decide) ?_
    refine lv_istore_n (lv' := [(1, .int v3), (0, .ref aR)]) hx hb dX3_endBlock_21 rfl hl (by decide) rfl (fun ls hl => ?_)
    refine lv_aload_n hx hb dX3_endBlock_22 rfl (lv_at hl 1 rfl) ?_
    refine va_get (D := D) (ci := 2) (v := .int lk) (C := RX3) (T := TX3) (N := 11) hx hb hts in_X3 hown hK hP 0 rfl rfl 5 (by decide) (hts _ wk331) (fun _ h9 => h9) rfl dX3_endBlock_23 ?_
    refine lv_if_eq (tgt := 59) hx hb dX3_endBlock_26 (by decide) (fun c4 => ?_) (fun c4 => ?_)
    ·
      have z4 := zi_eq0 c4
      refine lv_aload_n hx hb dX3_endBlock_59 rfl (lv_at hl 1 rfl) ?_
      refine lv_iload_n hx hb dX3_endBlock_60 rfl (lv_at hl 0 rfl) ?_
      have hh5 : (0 ≤ lk.toInt ∧ lk.toInt ≤ 1) ∧ (0 ≤ dn.toInt ∧ dn.toInt ≤ 1) ∧ (0 ≤ ht.toInt ∧ ht.toInt ≤ 63) ∧ (0 ≤ br.toInt ∧ br.toInt ≤ 63) ∧ (0 ≤ wh.toInt ∧ wh.toInt ≤ 15) ∧ (0 ≤ sl.toInt ∧ sl.toInt ≤ 1000000000) := (by omega)
      refine call_v (wc := [(aR, .inr (2, [.ref aB, .ref aQ, .int hd, .long pl, .int hv, .int lk, .int dn, .int ht, .int sl, .int br, .int wh]))]) (wr := [(aQ, .inr (0, [.ref aT, .ref aP, .int gc])), (aT, .inl (cI, 300, .inl ft)), (aP, .inl (cJ, 300, .inr (.inl fp)))]) (run_V (As := [.int v3]) (rest := []) kv_RX3_88 ⟨by decide, by decide⟩ ⟨rfl, rfl⟩ ⟨hx, hb, hml, hown, hts⟩ (c_Re_countHit l D cI cJ cB aR aB aQ hd pl hv lk dn ht sl br wh v3 hh5 _) ct_blind (ct_pre (wc := [(aR, .inr (2, [.ref aB, .ref aQ, .int hd, .long pl, .int hv, .int lk, .int dn, .int ht, .int sl, .int br, .int wh]))]) hK hP hD hS hA hZ hN [0] (by decide) rfl rfl) (va_recv hK hP (ci := 2) (q0 := 0) rfl rfl) rfl hl.1 rfl (Nat.le_of_ble_eq_true rfl) dX3_endBlock_61 ⟨Nat.le_of_ble_eq_true rfl, Nat.le_of_ble_eq_true rfl⟩) hP hD hS hA [0] [1, 2, 3] rfl rfl (by decide) (by decide) (fun u H locs hw6 hP1 hD1 hS1 => ?_)
      obtain ⟨lk2_6, dn2_6, ht2_6, sl2_6, br2_6, wh2_6⟩ := u
      have hw6 : ((0 ≤ lk2_6.toInt ∧ lk2_6.toInt ≤ 1) ∧ (0 ≤ dn2_6.toInt ∧ dn2_6.toInt ≤ 1) ∧ (0 ≤ ht2_6.toInt ∧ ht2_6.toInt ≤ 63) ∧ (0 ≤ br2_6.toInt ∧ br2_6.toInt ≤ 63) ∧ (0 ≤ wh2_6.toInt ∧ wh2_6.toInt ≤ 15) ∧ (sl.toInt ≤ sl2_6.toInt ∧ sl2_6.toInt ≤ sl.toInt + 1)) ∧ hitR v3.toInt lk.toInt dn.toInt ht.toInt sl.toInt br.toInt wh.toInt lk2_6.toInt dn2_6.toInt ht2_6.toInt sl2_6.toInt br2_6.toInt wh2_6.toInt := hw6
      clear hP hD hS
      have hP : va_P D classes [(aQ, .inr (0, [.ref aT, .ref aP, .int gc])), (aT, .inl (cI, 300, .inl ft)), (aP, .inl (cJ, 300, .inr (.inl fp))), (aR, .inr (2, [.ref aB, .ref aQ, .int hd, .long pl, .int hv, .int lk2_6, .int dn2_6, .int ht2_6, .int sl2_6, .int br2_6, .int wh2_6]))] H := hP1
      have hD : va_D A [(aQ, .inr (0, [.ref aT, .ref aP, .int gc])), (aT, .inl (cI, 300, .inl ft)), (aP, .inl (cJ, 300, .inr (.inl fp))), (aR, .inr (2, [.ref aB, .ref aQ, .int hd, .long pl, .int hv, .int lk2_6, .int dn2_6, .int ht2_6, .int sl2_6, .int br2_6, .int wh2_6]))] := hD1
      have hS := hS1
      clear hP1 hD1 hS1
      have rg_lk2_6 := zi_rg lk2_6
      have rg_dn2_6 := zi_rg dn2_6
      have rg_ht2_6 := zi_rg ht2_6
      have rg_sl2_6 := zi_rg sl2_6
      have rg_br2_6 := zi_rg br2_6
      have rg_wh2_6 := zi_rg wh2_6
      have hq7 : (gc.toInt ≤ gc.toInt ∧ gc.toInt ≤ gc.toInt + 1) ∧ ((0 ≤ lk2_6.toInt ∧ lk2_6.toInt ≤ 1) ∧ (0 ≤ dn2_6.toInt ∧ dn2_6.toInt ≤ 1) ∧ (0 ≤ ht2_6.toInt ∧ ht2_6.toInt ≤ 63) ∧ (0 ≤ br2_6.toInt ∧ br2_6.toInt ≤ 63) ∧ (0 ≤ wh2_6.toInt ∧ wh2_6.toInt ≤ 15) ∧ (sl.toInt ≤ sl2_6.toInt ∧ sl2_6.toInt ≤ sl.toInt + 1)) ∧ endR hd.toInt lk.toInt dn.toInt ht.toInt sl.toInt br.toInt wh.toInt gc.toInt lk2_6.toInt dn2_6.toInt ht2_6.toInt sl2_6.toInt br2_6.toInt wh2_6.toInt gc.toInt := (by refine ⟨by omega, by omega, ?_⟩; first | exact end_hit (by omega) rfl (fit_1 (by omega) z3) hw6.2 | exact end_row (by omega) hw10 (fit_1 (by omega) z3) hw12.2 | exact end_hit (by omega) rfl (fit_0 (by omega) z16) hw19.2 | exact end_row (by omega) hw23 (fit_0 (by omega) z16) hw25.2 | exact end_hit (by omega) rfl (fit_1 (by omega) z27) hw30.2 | exact end_row (by omega) hw34 (fit_1 (by omega) z27) hw36.2)
      exact hret (lk2_6, dn2_6, ht2_6, sl2_6, br2_6, wh2_6, gc, ft, fp) _ _ _ _ dX3_endBlock_64 hq7 (hP.sub [3, 0, 1, 2] rfl) (hD.sub [3, 0, 1, 2] (by decide) rfl) hS
    ·
      have z4 := zi_ne0 c4
      refine lv_aload_n hx hb dX3_endBlock_29 rfl (lv_at hl 1 rfl) ?_
      refine va_get (D := D) (ci := 2) (v := .ref aQ) (C := RX3) (T := TX3) (N := 11) hx hb hts in_X3 hown hK hP 0 rfl rfl 1 (by decide) (hts _ wk50) (fun _ h9 => h9) rfl dX3_endBlock_30 ?_
      refine lv_aload_n hx hb dX3_endBlock_33 rfl (lv_at hl 1 rfl) ?_
      refine va_get (D := D) (ci := 2) (v := .int hd) (C := RX3) (T := TX3) (N := 11) hx hb hts in_X3 hown hK hP 0 rfl rfl 2 (by decide) (hts _ wk321) (fun _ h9 => h9) rfl dX3_endBlock_34 ?_
      refine lv_aload_n hx hb dX3_endBlock_37 rfl (lv_at hl 1 rfl) ?_
      refine va_get (D := D) (ci := 2) (v := .long pl) (C := RX3) (T := TX3) (N := 11) hx hb hts in_X3 hown hK hP 0 rfl rfl 3 (by decide) (hts _ wk322) (fun _ h9 => h9) rfl dX3_endBlock_38 ?_
      refine call_i (wc := []) (wr := [(aR, .inr (2, [.ref aB, .ref aQ, .int hd, .long pl, .int hv, .int lk, .int dn, .int ht, .int sl, .int br, .int wh])), (aQ, .inr (0, [.ref aT, .ref aP, .int gc])), (aT, .inl (cI, 300, .inl ft)), (aP, .inl (cJ, 300, .inr (.inl fp)))]) (run_S (As := [.int hd, .long pl]) (rest := [.ref aQ]) ks_RX3_74 ⟨by decide, by decide⟩ ⟨rfl, rfl⟩ ⟨hx, hb, hml, hown, hts⟩ (c_Co_typeOfBlock l D cI cJ cB hd pl  _) ct_blind (ct_pre (wc := []) hK hP hD hS hA hZ hN [] (by decide) rfl rfl) rfl hl.1 rfl (Nat.le_of_ble_eq_true rfl) dX3_endBlock_41 ⟨Nat.le_of_ble_eq_true rfl, Nat.le_of_ble_eq_true rfl⟩) hP hD hS hA [] [0, 1, 2, 3] rfl rfl (by decide) (by decide) (fun r8 u H locs hw8 hP1 hD1 hS1 => ?_)
      clear hw8
      clear hP hD hS
      have hP : va_P D classes [(aR, .inr (2, [.ref aB, .ref aQ, .int hd, .long pl, .int hv, .int lk, .int dn, .int ht, .int sl, .int br, .int wh])), (aQ, .inr (0, [.ref aT, .ref aP, .int gc])), (aT, .inl (cI, 300, .inl ft)), (aP, .inl (cJ, 300, .inr (.inl fp)))] H := hP1
      have hD : va_D A [(aR, .inr (2, [.ref aB, .ref aQ, .int hd, .long pl, .int hv, .int lk, .int dn, .int ht, .int sl, .int br, .int wh])), (aQ, .inr (0, [.ref aT, .ref aP, .int gc])), (aT, .inl (cI, 300, .inl ft)), (aP, .inl (cJ, 300, .inr (.inl fp)))] := hD1
      have hS := hS1
      clear hP1 hD1 hS1
      have rg_r8 := zi_rg r8
      refine lv_aload_n hx hb dX3_endBlock_44 rfl (lv_at hl 1 rfl) ?_
      refine va_get (D := D) (ci := 2) (v := .long pl) (C := RX3) (T := TX3) (N := 11) hx hb hts in_X3 hown hK hP 0 rfl rfl 3 (by decide) (hts _ wk322) (fun _ h9 => h9) rfl dX3_endBlock_45 ?_
      have hh9 : 0 ≤ gc.toInt ∧ gc.toInt ≤ 1000000000 := (by omega)
      refine call_v (wc := [(aQ, .inr (0, [.ref aT, .ref aP, .int gc])), (aT, .inl (cI, 300, .inl ft)), (aP, .inl (cJ, 300, .inr (.inl fp)))]) (wr := [(aR, .inr (2, [.ref aB, .ref aQ, .int hd, .long pl, .int hv, .int lk, .int dn, .int ht, .int sl, .int br, .int wh]))]) (run_V (As := [.int r8, .long pl]) (rest := []) kv_RX3_80 ⟨by decide, by decide⟩ ⟨rfl, rfl⟩ ⟨hx, hb, hml, hown, hts⟩ (c_Gr_keep l D cI cJ cB aQ aT aP gc r8 pl ft fp hh9 _) ct_blind (ct_pre (wc := [(aQ, .inr (0, [.ref aT, .ref aP, .int gc])), (aT, .inl (cI, 300, .inl ft)), (aP, .inl (cJ, 300, .inr (.inl fp)))]) hK hP hD hS hA hZ hN [1, 2, 3] (by decide) rfl rfl) (va_recv hK hP (ci := 0) (q0 := 1) rfl rfl) rfl hl.1 rfl (Nat.le_of_ble_eq_true rfl) dX3_endBlock_48 ⟨Nat.le_of_ble_eq_true rfl, Nat.le_of_ble_eq_true rfl⟩) hP hD hS hA [1, 2, 3] [0] rfl rfl (by decide) (by decide) (fun u H locs hw10 hP1 hD1 hS1 => ?_)
      obtain ⟨gc2_10, ft2_10, fp2_10⟩ := u
      have hw10 : gc2_10.toInt = gc.toInt + 1 := hw10
      clear hP hD hS
      have hP : va_P D classes [(aR, .inr (2, [.ref aB, .ref aQ, .int hd, .long pl, .int hv, .int lk, .int dn, .int ht, .int sl, .int br, .int wh])), (aQ, .inr (0, [.ref aT, .ref aP, .int gc2_10])), (aT, .inl (cI, 300, .inl ft2_10)), (aP, .inl (cJ, 300, .inr (.inl fp2_10)))] H := hP1
      have hD : va_D A [(aR, .inr (2, [.ref aB, .ref aQ, .int hd, .long pl, .int hv, .int lk, .int dn, .int ht, .int sl, .int br, .int wh])), (aQ, .inr (0, [.ref aT, .ref aP, .int gc2_10])), (aT, .inl (cI, 300, .inl ft2_10)), (aP, .inl (cJ, 300, .inr (.inl fp2_10)))] := hD1
      have hS := hS1
      clear hP1 hD1 hS1
      have rg_gc2_10 := zi_rg gc2_10
      refine lv_aload_n hx hb dX3_endBlock_51 rfl (lv_at hl 1 rfl) ?_
      refine lv_iload_n hx hb dX3_endBlock_52 rfl (lv_at hl 0 rfl) ?_
      have hh11 : (0 ≤ lk.toInt ∧ lk.toInt ≤ 1) ∧ (0 ≤ dn.toInt ∧ dn.toInt ≤ 1) ∧ (0 ≤ ht.toInt ∧ ht.toInt ≤ 63) ∧ (0 ≤ br.toInt ∧ br.toInt ≤ 63) ∧ (0 ≤ wh.toInt ∧ wh.toInt ≤ 15) ∧ (0 ≤ sl.toInt ∧ sl.toInt ≤ 1000000000) := (by omega)
      refine call_v (wc := [(aR, .inr (2, [.ref aB, .ref aQ, .int hd, .long pl, .int hv, .int lk, .int dn, .int ht, .int sl, .int br, .int wh]))]) (wr := [(aQ, .inr (0, [.ref aT, .ref aP, .int gc2_10])), (aT, .inl (cI, 300, .inl ft2_10)), (aP, .inl (cJ, 300, .inr (.inl fp2_10)))]) (run_V (As := [.int v3]) (rest := []) kv_RX3_84 ⟨by decide, by decide⟩ ⟨rfl, rfl⟩ ⟨hx, hb, hml, hown, hts⟩ (c_Re_countInRow l D cI cJ cB aR aB aQ hd pl hv lk dn ht sl br wh v3 hh11 _) ct_blind (ct_pre (wc := [(aR, .inr (2, [.ref aB, .ref aQ, .int hd, .long pl, .int hv, .int lk, .int dn, .int ht, .int sl, .int br, .int wh]))]) hK hP hD hS hA hZ hN [0] (by decide) rfl rfl) (va_recv hK hP (ci := 2) (q0 := 0) rfl rfl) rfl hl.1 rfl (Nat.le_of_ble_eq_true rfl) dX3_endBlock_53 ⟨Nat.le_of_ble_eq_true rfl, Nat.le_of_ble_eq_true rfl⟩) hP hD hS hA [0] [1, 2, 3] rfl rfl (by decide) (by decide) (fun u H locs hw12 hP1 hD1 hS1 => ?_)
      obtain ⟨lk2_12, dn2_12, ht2_12, sl2_12, br2_12, wh2_12⟩ := u
      have hw12 : ((0 ≤ lk2_12.toInt ∧ lk2_12.toInt ≤ 1) ∧ (0 ≤ dn2_12.toInt ∧ dn2_12.toInt ≤ 1) ∧ (0 ≤ ht2_12.toInt ∧ ht2_12.toInt ≤ 63) ∧ (0 ≤ br2_12.toInt ∧ br2_12.toInt ≤ 63) ∧ (0 ≤ wh2_12.toInt ∧ wh2_12.toInt ≤ 15) ∧ (sl.toInt ≤ sl2_12.toInt ∧ sl2_12.toInt ≤ sl.toInt + 1)) ∧ rowR v3.toInt lk.toInt dn.toInt ht.toInt sl.toInt br.toInt wh.toInt lk2_12.toInt dn2_12.toInt ht2_12.toInt sl2_12.toInt br2_12.toInt wh2_12.toInt := hw12
      clear hP hD hS
      have hP : va_P D classes [(aQ, .inr (0, [.ref aT, .ref aP, .int gc2_10])), (aT, .inl (cI, 300, .inl ft2_10)), (aP, .inl (cJ, 300, .inr (.inl fp2_10))), (aR, .inr (2, [.ref aB, .ref aQ, .int hd, .long pl, .int hv, .int lk2_12, .int dn2_12, .int ht2_12, .int sl2_12, .int br2_12, .int wh2_12]))] H := hP1
      have hD : va_D A [(aQ, .inr (0, [.ref aT, .ref aP, .int gc2_10])), (aT, .inl (cI, 300, .inl ft2_10)), (aP, .inl (cJ, 300, .inr (.inl fp2_10))), (aR, .inr (2, [.ref aB, .ref aQ, .int hd, .long pl, .int hv, .int lk2_12, .int dn2_12, .int ht2_12, .int sl2_12, .int br2_12, .int wh2_12]))] := hD1
      have hS := hS1
      clear hP1 hD1 hS1
      have rg_lk2_12 := zi_rg lk2_12
      have rg_dn2_12 := zi_rg dn2_12
      have rg_ht2_12 := zi_rg ht2_12
      have rg_sl2_12 := zi_rg sl2_12
      have rg_br2_12 := zi_rg br2_12
      have rg_wh2_12 := zi_rg wh2_12
      refine lv_goto (tgt := 64) hx hb dX3_endBlock_56 (by decide) ?_
      have hq13 : (gc.toInt ≤ gc2_10.toInt ∧ gc2_10.toInt ≤ gc.toInt + 1) ∧ ((0 ≤ lk2_12.toInt ∧ lk2_12.toInt ≤ 1) ∧ (0 ≤ dn2_12.toInt ∧ dn2_12.toInt ≤ 1) ∧ (0 ≤ ht2_12.toInt ∧ ht2_12.toInt ≤ 63) ∧ (0 ≤ br2_12.toInt ∧ br2_12.toInt ≤ 63) ∧ (0 ≤ wh2_12.toInt ∧ wh2_12.toInt ≤ 15) ∧ (sl.toInt ≤ sl2_12.toInt ∧ sl2_12.toInt ≤ sl.toInt + 1)) ∧ endR hd.toInt lk.toInt dn.toInt ht.toInt sl.toInt br.toInt wh.toInt gc.toInt lk2_12.toInt dn2_12.toInt ht2_12.toInt sl2_12.toInt br2_12.toInt wh2_12.toInt gc2_10.toInt := (by refine ⟨by omega, by omega, ?_⟩; first | exact end_hit (by omega) rfl (fit_1 (by omega) z3) hw6.2 | exact end_row (by omega) hw10 (fit_1 (by omega) z3) hw12.2 | exact end_hit (by omega) rfl (fit_0 (by omega) z16) hw19.2 | exact end_row (by omega) hw23 (fit_0 (by omega) z16) hw25.2 | exact end_hit (by omega) rfl (fit_1 (by omega) z27) hw30.2 | exact end_row (by omega) hw34 (fit_1 (by omega) z27) hw36.2)
      exact hret (lk2_12, dn2_12, ht2_12, sl2_12, br2_12, wh2_12, gc2_10, ft2_10, fp2_10) _ _ _ _ dX3_endBlock_64 hq13 (hP.sub [3, 0, 1, 2] rfl) (hD.sub [3, 0, 1, 2] (by decide) rfl) hS
  ·
    have z2 := zi_ne c2
    refine lv_aload_n hx hb dX3_endBlock_8 rfl (lv_at hl 0 rfl) ?_
    refine va_get (D := D) (ci := 2) (v := .int hd) (C := RX3) (T := TX3) (N := 11) hx hb hts in_X3 hown hK hP 0 rfl rfl 2 (by decide) (hts _ wk321) (fun _ h9 => h9) rfl dX3_endBlock_9 ?_
    refine lv_iconst (v := 2) hx hb dX3_endBlock_12 (by decide) ?_
    refine lv_topi (fun v14 e14 => ?_)
    have z14 : v14.toInt = 2 := zi_c e14 (by decide)
    refine lv_icmp_ne (tgt := 20) hx hb dX3_endBlock_13 (by decide) (fun c15 => ?_) (fun c15 => ?_)
    ·
      have z15 := zi_ne c15
      refine lv_iconst (v := 0) hx hb dX3_endBlock_20 (by decide) ?_
      refine lv_topi (fun v16 e16 => ?_)
      have z16 : v16.toInt = 0 := zi_c e16 (by decide)
      refine lv_istore_n (lv' := [(1, .int v16), (0, .ref aR)]) hx hb dX3_endBlock_21 rfl hl (by decide) rfl (fun ls hl => ?_)
      refine lv_aload_n hx hb dX3_endBlock_22 rfl (lv_at hl 1 rfl) ?_
      refine va_get (D := D) (ci := 2) (v := .int lk) (C := RX3) (T := TX3) (N := 11) hx hb hts in_X3 hown hK hP 0 rfl rfl 5 (by decide) (hts _ wk331) (fun _ h9 => h9) rfl dX3_endBlock_23 ?_
      refine lv_if_eq (tgt := 59) hx hb dX3_endBlock_26 (by decide) (fun c17 => ?_) (fun c17 => ?_)
      ·
        have z17 := zi_eq0 c17
        refine lv_aload_n hx hb dX3_endBlock_59 rfl (lv_at hl 1 rfl) ?_
        refine lv_iload_n hx hb dX3_endBlock_60 rfl (lv_at hl 0 rfl) ?_
        have hh18 : (0 ≤ lk.toInt ∧ lk.toInt ≤ 1) ∧ (0 ≤ dn.toInt ∧ dn.toInt ≤ 1) ∧ (0 ≤ ht.toInt ∧ ht.toInt ≤ 63) ∧ (0 ≤ br.toInt ∧ br.toInt ≤ 63) ∧ (0 ≤ wh.toInt ∧ wh.toInt ≤ 15) ∧ (0 ≤ sl.toInt ∧ sl.toInt ≤ 1000000000) := (by omega)
        refine call_v (wc := [(aR, .inr (2, [.ref aB, .ref aQ, .int hd, .long pl, .int hv, .int lk, .int dn, .int ht, .int sl, .int br, .int wh]))]) (wr := [(aQ, .inr (0, [.ref aT, .ref aP, .int gc])), (aT, .inl (cI, 300, .inl ft)), (aP, .inl (cJ, 300, .inr (.inl fp)))]) (run_V (As := [.int v16]) (rest := []) kv_RX3_88 ⟨by decide, by decide⟩ ⟨rfl, rfl⟩ ⟨hx, hb, hml, hown, hts⟩ (c_Re_countHit l D cI cJ cB aR aB aQ hd pl hv lk dn ht sl br wh v16 hh18 _) ct_blind (ct_pre (wc := [(aR, .inr (2, [.ref aB, .ref aQ, .int hd, .long pl, .int hv, .int lk, .int dn, .int ht, .int sl, .int br, .int wh]))]) hK hP hD hS hA hZ hN [0] (by decide) rfl rfl) (va_recv hK hP (ci := 2) (q0 := 0) rfl rfl) rfl hl.1 rfl (Nat.le_of_ble_eq_true rfl) dX3_endBlock_61 ⟨Nat.le_of_ble_eq_true rfl, Nat.le_of_ble_eq_true rfl⟩) hP hD hS hA [0] [1, 2, 3] rfl rfl (by decide) (by decide) (fun u H locs hw19 hP1 hD1 hS1 => ?_)
        obtain ⟨lk2_19, dn2_19, ht2_19, sl2_19, br2_19, wh2_19⟩ := u
        have hw19 : ((0 ≤ lk2_19.toInt ∧ lk2_19.toInt ≤ 1) ∧ (0 ≤ dn2_19.toInt ∧ dn2_19.toInt ≤ 1) ∧ (0 ≤ ht2_19.toInt ∧ ht2_19.toInt ≤ 63) ∧ (0 ≤ br2_19.toInt ∧ br2_19.toInt ≤ 63) ∧ (0 ≤ wh2_19.toInt ∧ wh2_19.toInt ≤ 15) ∧ (sl.toInt ≤ sl2_19.toInt ∧ sl2_19.toInt ≤ sl.toInt + 1)) ∧ hitR v16.toInt lk.toInt dn.toInt ht.toInt sl.toInt br.toInt wh.toInt lk2_19.toInt dn2_19.toInt ht2_19.toInt sl2_19.toInt br2_19.toInt wh2_19.toInt := hw19
        clear hP hD hS
        have hP : va_P D classes [(aQ, .inr (0, [.ref aT, .ref aP, .int gc])), (aT, .inl (cI, 300, .inl ft)), (aP, .inl (cJ, 300, .inr (.inl fp))), (aR, .inr (2, [.ref aB, .ref aQ, .int hd, .long pl, .int hv, .int lk2_19, .int dn2_19, .int ht2_19, .int sl2_19, .int br2_19, .int wh2_19]))] H := hP1
        have hD : va_D A [(aQ, .inr (0, [.ref aT, .ref aP, .int gc])), (aT, .inl (cI, 300, .inl ft)), (aP, .inl (cJ, 300, .inr (.inl fp))), (aR, .inr (2, [.ref aB, .ref aQ, .int hd, .long pl, .int hv, .int lk2_19, .int dn2_19, .int ht2_19, .int sl2_19, .int br2_19, .int wh2_19]))] := hD1
        have hS := hS1
        clear hP1 hD1 hS1
        have rg_lk2_19 := zi_rg lk2_19
        have rg_dn2_19 := zi_rg dn2_19
        have rg_ht2_19 := zi_rg ht2_19
        have rg_sl2_19 := zi_rg sl2_19
        have rg_br2_19 := zi_rg br2_19
        have rg_wh2_19 := zi_rg wh2_19
        have hq20 : (gc.toInt ≤ gc.toInt ∧ gc.toInt ≤ gc.toInt + 1) ∧ ((0 ≤ lk2_19.toInt ∧ lk2_19.toInt ≤ 1) ∧ (0 ≤ dn2_19.toInt ∧ dn2_19.toInt ≤ 1) ∧ (0 ≤ ht2_19.toInt ∧ ht2_19.toInt ≤ 63) ∧ (0 ≤ br2_19.toInt ∧ br2_19.toInt ≤ 63) ∧ (0 ≤ wh2_19.toInt ∧ wh2_19.toInt ≤ 15) ∧ (sl.toInt ≤ sl2_19.toInt ∧ sl2_19.toInt ≤ sl.toInt + 1)) ∧ endR hd.toInt lk.toInt dn.toInt ht.toInt sl.toInt br.toInt wh.toInt gc.toInt lk2_19.toInt dn2_19.toInt ht2_19.toInt sl2_19.toInt br2_19.toInt wh2_19.toInt gc.toInt := (by refine ⟨by omega, by omega, ?_⟩; first | exact end_hit (by omega) rfl (fit_1 (by omega) z3) hw6.2 | exact end_row (by omega) hw10 (fit_1 (by omega) z3) hw12.2 | exact end_hit (by omega) rfl (fit_0 (by omega) z16) hw19.2 | exact end_row (by omega) hw23 (fit_0 (by omega) z16) hw25.2 | exact end_hit (by omega) rfl (fit_1 (by omega) z27) hw30.2 | exact end_row (by omega) hw34 (fit_1 (by omega) z27) hw36.2)
        exact hret (lk2_19, dn2_19, ht2_19, sl2_19, br2_19, wh2_19, gc, ft, fp) _ _ _ _ dX3_endBlock_64 hq20 (hP.sub [3, 0, 1, 2] rfl) (hD.sub [3, 0, 1, 2] (by decide) rfl) hS
      ·
        have z17 := zi_ne0 c17
        refine lv_aload_n hx hb dX3_endBlock_29 rfl (lv_at hl 1 rfl) ?_
        refine va_get (D := D) (ci := 2) (v := .ref aQ) (C := RX3) (T := TX3) (N := 11) hx hb hts in_X3 hown hK hP 0 rfl rfl 1 (by decide) (hts _ wk50) (fun _ h9 => h9) rfl dX3_endBlock_30 ?_
        refine lv_aload_n hx hb dX3_endBlock_33 rfl (lv_at hl 1 rfl) ?_
        refine va_get (D := D) (ci := 2) (v := .int hd) (C := RX3) (T := TX3) (N := 11) hx hb hts in_X3 hown hK hP 0 rfl rfl 2 (by decide) (hts _ wk321) (fun _ h9 => h9) rfl dX3_endBlock_34 ?_
        refine lv_aload_n hx hb dX3_endBlock_37 rfl (lv_at hl 1 rfl) ?_
        refine va_get (D := D) (ci := 2) (v := .long pl) (C := RX3) (T := TX3) (N := 11) hx hb hts in_X3 hown hK hP 0 rfl rfl 3 (by decide) (hts _ wk322) (fun _ h9 => h9) rfl dX3_endBlock_38 ?_
        refine call_i (wc := []) (wr := [(aR, .inr (2, [.ref aB, .ref aQ, .int hd, .long pl, .int hv, .int lk, .int dn, .int ht, .int sl, .int br, .int wh])), (aQ, .inr (0, [.ref aT, .ref aP, .int gc])), (aT, .inl (cI, 300, .inl ft)), (aP, .inl (cJ, 300, .inr (.inl fp)))]) (run_S (As := [.int hd, .long pl]) (rest := [.ref aQ]) ks_RX3_74 ⟨by decide, by decide⟩ ⟨rfl, rfl⟩ ⟨hx, hb, hml, hown, hts⟩ (c_Co_typeOfBlock l D cI cJ cB hd pl  _) ct_blind (ct_pre (wc := []) hK hP hD hS hA hZ hN [] (by decide) rfl rfl) rfl hl.1 rfl (Nat.le_of_ble_eq_true rfl) dX3_endBlock_41 ⟨Nat.le_of_ble_eq_true rfl, Nat.le_of_ble_eq_true rfl⟩) hP hD hS hA [] [0, 1, 2, 3] rfl rfl (by decide) (by decide) (fun r21 u H locs hw21 hP1 hD1 hS1 => ?_)
        clear hw21
        clear hP hD hS
        have hP : va_P D classes [(aR, .inr (2, [.ref aB, .ref aQ, .int hd, .long pl, .int hv, .int lk, .int dn, .int ht, .int sl, .int br, .int wh])), (aQ, .inr (0, [.ref aT, .ref aP, .int gc])), (aT, .inl (cI, 300, .inl ft)), (aP, .inl (cJ, 300, .inr (.inl fp)))] H := hP1
        have hD : va_D A [(aR, .inr (2, [.ref aB, .ref aQ, .int hd, .long pl, .int hv, .int lk, .int dn, .int ht, .int sl, .int br, .int wh])), (aQ, .inr (0, [.ref aT, .ref aP, .int gc])), (aT, .inl (cI, 300, .inl ft)), (aP, .inl (cJ, 300, .inr (.inl fp)))] := hD1
        have hS := hS1
        clear hP1 hD1 hS1
        have rg_r21 := zi_rg r21
        refine lv_aload_n hx hb dX3_endBlock_44 rfl (lv_at hl 1 rfl) ?_
        refine va_get (D := D) (ci := 2) (v := .long pl) (C := RX3) (T := TX3) (N := 11) hx hb hts in_X3 hown hK hP 0 rfl rfl 3 (by decide) (hts _ wk322) (fun _ h9 => h9) rfl dX3_endBlock_45 ?_
        have hh22 : 0 ≤ gc.toInt ∧ gc.toInt ≤ 1000000000 := (by omega)
        refine call_v (wc := [(aQ, .inr (0, [.ref aT, .ref aP, .int gc])), (aT, .inl (cI, 300, .inl ft)), (aP, .inl (cJ, 300, .inr (.inl fp)))]) (wr := [(aR, .inr (2, [.ref aB, .ref aQ, .int hd, .long pl, .int hv, .int lk, .int dn, .int ht, .int sl, .int br, .int wh]))]) (run_V (As := [.int r21, .long pl]) (rest := []) kv_RX3_80 ⟨by decide, by decide⟩ ⟨rfl, rfl⟩ ⟨hx, hb, hml, hown, hts⟩ (c_Gr_keep l D cI cJ cB aQ aT aP gc r21 pl ft fp hh22 _) ct_blind (ct_pre (wc := [(aQ, .inr (0, [.ref aT, .ref aP, .int gc])), (aT, .inl (cI, 300, .inl ft)), (aP, .inl (cJ, 300, .inr (.inl fp)))]) hK hP hD hS hA hZ hN [1, 2, 3] (by decide) rfl rfl) (va_recv hK hP (ci := 0) (q0 := 1) rfl rfl) rfl hl.1 rfl (Nat.le_of_ble_eq_true rfl) dX3_endBlock_48 ⟨Nat.le_of_ble_eq_true rfl, Nat.le_of_ble_eq_true rfl⟩) hP hD hS hA [1, 2, 3] [0] rfl rfl (by decide) (by decide) (fun u H locs hw23 hP1 hD1 hS1 => ?_)
        obtain ⟨gc2_23, ft2_23, fp2_23⟩ := u
        have hw23 : gc2_23.toInt = gc.toInt + 1 := hw23
        clear hP hD hS
        have hP : va_P D classes [(aR, .inr (2, [.ref aB, .ref aQ, .int hd, .long pl, .int hv, .int lk, .int dn, .int ht, .int sl, .int br, .int wh])), (aQ, .inr (0, [.ref aT, .ref aP, .int gc2_23])), (aT, .inl (cI, 300, .inl ft2_23)), (aP, .inl (cJ, 300, .inr (.inl fp2_23)))] H := hP1
        have hD : va_D A [(aR, .inr (2, [.ref aB, .ref aQ, .int hd, .long pl, .int hv, .int lk, .int dn, .int ht, .int sl, .int br, .int wh])), (aQ, .inr (0, [.ref aT, .ref aP, .int gc2_23])), (aT, .inl (cI, 300, .inl ft2_23)), (aP, .inl (cJ, 300, .inr (.inl fp2_23)))] := hD1
        have hS := hS1
        clear hP1 hD1 hS1
        have rg_gc2_23 := zi_rg gc2_23
        refine lv_aload_n hx hb dX3_endBlock_51 rfl (lv_at hl 1 rfl) ?_
        refine lv_iload_n hx hb dX3_endBlock_52 rfl (lv_at hl 0 rfl) ?_
        have hh24 : (0 ≤ lk.toInt ∧ lk.toInt ≤ 1) ∧ (0 ≤ dn.toInt ∧ dn.toInt ≤ 1) ∧ (0 ≤ ht.toInt ∧ ht.toInt ≤ 63) ∧ (0 ≤ br.toInt ∧ br.toInt ≤ 63) ∧ (0 ≤ wh.toInt ∧ wh.toInt ≤ 15) ∧ (0 ≤ sl.toInt ∧ sl.toInt ≤ 1000000000) := (by omega)
        refine call_v (wc := [(aR, .inr (2, [.ref aB, .ref aQ, .int hd, .long pl, .int hv, .int lk, .int dn, .int ht, .int sl, .int br, .int wh]))]) (wr := [(aQ, .inr (0, [.ref aT, .ref aP, .int gc2_23])), (aT, .inl (cI, 300, .inl ft2_23)), (aP, .inl (cJ, 300, .inr (.inl fp2_23)))]) (run_V (As := [.int v16]) (rest := []) kv_RX3_84 ⟨by decide, by decide⟩ ⟨rfl, rfl⟩ ⟨hx, hb, hml, hown, hts⟩ (c_Re_countInRow l D cI cJ cB aR aB aQ hd pl hv lk dn ht sl br wh v16 hh24 _) ct_blind (ct_pre (wc := [(aR, .inr (2, [.ref aB, .ref aQ, .int hd, .long pl, .int hv, .int lk, .int dn, .int ht, .int sl, .int br, .int wh]))]) hK hP hD hS hA hZ hN [0] (by decide) rfl rfl) (va_recv hK hP (ci := 2) (q0 := 0) rfl rfl) rfl hl.1 rfl (Nat.le_of_ble_eq_true rfl) dX3_endBlock_53 ⟨Nat.le_of_ble_eq_true rfl, Nat.le_of_ble_eq_true rfl⟩) hP hD hS hA [0] [1, 2, 3] rfl rfl (by decide) (by decide) (fun u H locs hw25 hP1 hD1 hS1 => ?_)
        obtain ⟨lk2_25, dn2_25, ht2_25, sl2_25, br2_25, wh2_25⟩ := u
        have hw25 : ((0 ≤ lk2_25.toInt ∧ lk2_25.toInt ≤ 1) ∧ (0 ≤ dn2_25.toInt ∧ dn2_25.toInt ≤ 1) ∧ (0 ≤ ht2_25.toInt ∧ ht2_25.toInt ≤ 63) ∧ (0 ≤ br2_25.toInt ∧ br2_25.toInt ≤ 63) ∧ (0 ≤ wh2_25.toInt ∧ wh2_25.toInt ≤ 15) ∧ (sl.toInt ≤ sl2_25.toInt ∧ sl2_25.toInt ≤ sl.toInt + 1)) ∧ rowR v16.toInt lk.toInt dn.toInt ht.toInt sl.toInt br.toInt wh.toInt lk2_25.toInt dn2_25.toInt ht2_25.toInt sl2_25.toInt br2_25.toInt wh2_25.toInt := hw25
        clear hP hD hS
        have hP : va_P D classes [(aQ, .inr (0, [.ref aT, .ref aP, .int gc2_23])), (aT, .inl (cI, 300, .inl ft2_23)), (aP, .inl (cJ, 300, .inr (.inl fp2_23))), (aR, .inr (2, [.ref aB, .ref aQ, .int hd, .long pl, .int hv, .int lk2_25, .int dn2_25, .int ht2_25, .int sl2_25, .int br2_25, .int wh2_25]))] H := hP1
        have hD : va_D A [(aQ, .inr (0, [.ref aT, .ref aP, .int gc2_23])), (aT, .inl (cI, 300, .inl ft2_23)), (aP, .inl (cJ, 300, .inr (.inl fp2_23))), (aR, .inr (2, [.ref aB, .ref aQ, .int hd, .long pl, .int hv, .int lk2_25, .int dn2_25, .int ht2_25, .int sl2_25, .int br2_25, .int wh2_25]))] := hD1
        have hS := hS1
        clear hP1 hD1 hS1
        have rg_lk2_25 := zi_rg lk2_25
        have rg_dn2_25 := zi_rg dn2_25
        have rg_ht2_25 := zi_rg ht2_25
        have rg_sl2_25 := zi_rg sl2_25
        have rg_br2_25 := zi_rg br2_25
        have rg_wh2_25 := zi_rg wh2_25
        refine lv_goto (tgt := 64) hx hb dX3_endBlock_56 (by decide) ?_
        have hq26 : (gc.toInt ≤ gc2_23.toInt ∧ gc2_23.toInt ≤ gc.toInt + 1) ∧ ((0 ≤ lk2_25.toInt ∧ lk2_25.toInt ≤ 1) ∧ (0 ≤ dn2_25.toInt ∧ dn2_25.toInt ≤ 1) ∧ (0 ≤ ht2_25.toInt ∧ ht2_25.toInt ≤ 63) ∧ (0 ≤ br2_25.toInt ∧ br2_25.toInt ≤ 63) ∧ (0 ≤ wh2_25.toInt ∧ wh2_25.toInt ≤ 15) ∧ (sl.toInt ≤ sl2_25.toInt ∧ sl2_25.toInt ≤ sl.toInt + 1)) ∧ endR hd.toInt lk.toInt dn.toInt ht.toInt sl.toInt br.toInt wh.toInt gc.toInt lk2_25.toInt dn2_25.toInt ht2_25.toInt sl2_25.toInt br2_25.toInt wh2_25.toInt gc2_23.toInt := (by refine ⟨by omega, by omega, ?_⟩; first | exact end_hit (by omega) rfl (fit_1 (by omega) z3) hw6.2 | exact end_row (by omega) hw10 (fit_1 (by omega) z3) hw12.2 | exact end_hit (by omega) rfl (fit_0 (by omega) z16) hw19.2 | exact end_row (by omega) hw23 (fit_0 (by omega) z16) hw25.2 | exact end_hit (by omega) rfl (fit_1 (by omega) z27) hw30.2 | exact end_row (by omega) hw34 (fit_1 (by omega) z27) hw36.2)
        exact hret (lk2_25, dn2_25, ht2_25, sl2_25, br2_25, wh2_25, gc2_23, ft2_23, fp2_23) _ _ _ _ dX3_endBlock_64 hq26 (hP.sub [3, 0, 1, 2] rfl) (hD.sub [3, 0, 1, 2] (by decide) rfl) hS
    ·
      have z15 := zi_eq c15
      refine lv_iconst (v := 1) hx hb dX3_endBlock_16 (by decide) ?_
      refine lv_topi (fun v27 e27 => ?_)
      have z27 : v27.toInt = 1 := zi_c e27 (by decide)
      refine lv_goto (tgt := 21) hx hb dX3_endBlock_17 (by decide) ?_
      refine lv_istore_n (lv' := [(1, .int v27), (0, .ref aR)]) hx hb dX3_endBlock_21 rfl hl (by decide) rfl (fun ls hl => ?_)
      refine lv_aload_n hx hb dX3_endBlock_22 rfl (lv_at hl 1 rfl) ?_
      refine va_get (D := D) (ci := 2) (v := .int lk) (C := RX3) (T := TX3) (N := 11) hx hb hts in_X3 hown hK hP 0 rfl rfl 5 (by decide) (hts _ wk331) (fun _ h9 => h9) rfl dX3_endBlock_23 ?_
      refine lv_if_eq (tgt := 59) hx hb dX3_endBlock_26 (by decide) (fun c28 => ?_) (fun c28 => ?_)
      ·
        have z28 := zi_eq0 c28
        refine lv_aload_n hx hb dX3_endBlock_59 rfl (lv_at hl 1 rfl) ?_
        refine lv_iload_n hx hb dX3_endBlock_60 rfl (lv_at hl 0 rfl) ?_
        have hh29 : (0 ≤ lk.toInt ∧ lk.toInt ≤ 1) ∧ (0 ≤ dn.toInt ∧ dn.toInt ≤ 1) ∧ (0 ≤ ht.toInt ∧ ht.toInt ≤ 63) ∧ (0 ≤ br.toInt ∧ br.toInt ≤ 63) ∧ (0 ≤ wh.toInt ∧ wh.toInt ≤ 15) ∧ (0 ≤ sl.toInt ∧ sl.toInt ≤ 1000000000) := (by omega)
        refine call_v (wc := [(aR, .inr (2, [.ref aB, .ref aQ, .int hd, .long pl, .int hv, .int lk, .int dn, .int ht, .int sl, .int br, .int wh]))]) (wr := [(aQ, .inr (0, [.ref aT, .ref aP, .int gc])), (aT, .inl (cI, 300, .inl ft)), (aP, .inl (cJ, 300, .inr (.inl fp)))]) (run_V (As := [.int v27]) (rest := []) kv_RX3_88 ⟨by decide, by decide⟩ ⟨rfl, rfl⟩ ⟨hx, hb, hml, hown, hts⟩ (c_Re_countHit l D cI cJ cB aR aB aQ hd pl hv lk dn ht sl br wh v27 hh29 _) ct_blind (ct_pre (wc := [(aR, .inr (2, [.ref aB, .ref aQ, .int hd, .long pl, .int hv, .int lk, .int dn, .int ht, .int sl, .int br, .int wh]))]) hK hP hD hS hA hZ hN [0] (by decide) rfl rfl) (va_recv hK hP (ci := 2) (q0 := 0) rfl rfl) rfl hl.1 rfl (Nat.le_of_ble_eq_true rfl) dX3_endBlock_61 ⟨Nat.le_of_ble_eq_true rfl, Nat.le_of_ble_eq_true rfl⟩) hP hD hS hA [0] [1, 2, 3] rfl rfl (by decide) (by decide) (fun u H locs hw30 hP1 hD1 hS1 => ?_)
        obtain ⟨lk2_30, dn2_30, ht2_30, sl2_30, br2_30, wh2_30⟩ := u
        have hw30 : ((0 ≤ lk2_30.toInt ∧ lk2_30.toInt ≤ 1) ∧ (0 ≤ dn2_30.toInt ∧ dn2_30.toInt ≤ 1) ∧ (0 ≤ ht2_30.toInt ∧ ht2_30.toInt ≤ 63) ∧ (0 ≤ br2_30.toInt ∧ br2_30.toInt ≤ 63) ∧ (0 ≤ wh2_30.toInt ∧ wh2_30.toInt ≤ 15) ∧ (sl.toInt ≤ sl2_30.toInt ∧ sl2_30.toInt ≤ sl.toInt + 1)) ∧ hitR v27.toInt lk.toInt dn.toInt ht.toInt sl.toInt br.toInt wh.toInt lk2_30.toInt dn2_30.toInt ht2_30.toInt sl2_30.toInt br2_30.toInt wh2_30.toInt := hw30
        clear hP hD hS
        have hP : va_P D classes [(aQ, .inr (0, [.ref aT, .ref aP, .int gc])), (aT, .inl (cI, 300, .inl ft)), (aP, .inl (cJ, 300, .inr (.inl fp))), (aR, .inr (2, [.ref aB, .ref aQ, .int hd, .long pl, .int hv, .int lk2_30, .int dn2_30, .int ht2_30, .int sl2_30, .int br2_30, .int wh2_30]))] H := hP1
        have hD : va_D A [(aQ, .inr (0, [.ref aT, .ref aP, .int gc])), (aT, .inl (cI, 300, .inl ft)), (aP, .inl (cJ, 300, .inr (.inl fp))), (aR, .inr (2, [.ref aB, .ref aQ, .int hd, .long pl, .int hv, .int lk2_30, .int dn2_30, .int ht2_30, .int sl2_30, .int br2_30, .int wh2_30]))] := hD1
        have hS := hS1
        clear hP1 hD1 hS1
        have rg_lk2_30 := zi_rg lk2_30
        have rg_dn2_30 := zi_rg dn2_30
        have rg_ht2_30 := zi_rg ht2_30
        have rg_sl2_30 := zi_rg sl2_30
        have rg_br2_30 := zi_rg br2_30
        have rg_wh2_30 := zi_rg wh2_30
        have hq31 : (gc.toInt ≤ gc.toInt ∧ gc.toInt ≤ gc.toInt + 1) ∧ ((0 ≤ lk2_30.toInt ∧ lk2_30.toInt ≤ 1) ∧ (0 ≤ dn2_30.toInt ∧ dn2_30.toInt ≤ 1) ∧ (0 ≤ ht2_30.toInt ∧ ht2_30.toInt ≤ 63) ∧ (0 ≤ br2_30.toInt ∧ br2_30.toInt ≤ 63) ∧ (0 ≤ wh2_30.toInt ∧ wh2_30.toInt ≤ 15) ∧ (sl.toInt ≤ sl2_30.toInt ∧ sl2_30.toInt ≤ sl.toInt + 1)) ∧ endR hd.toInt lk.toInt dn.toInt ht.toInt sl.toInt br.toInt wh.toInt gc.toInt lk2_30.toInt dn2_30.toInt ht2_30.toInt sl2_30.toInt br2_30.toInt wh2_30.toInt gc.toInt := (by refine ⟨by omega, by omega, ?_⟩; first | exact end_hit (by omega) rfl (fit_1 (by omega) z3) hw6.2 | exact end_row (by omega) hw10 (fit_1 (by omega) z3) hw12.2 | exact end_hit (by omega) rfl (fit_0 (by omega) z16) hw19.2 | exact end_row (by omega) hw23 (fit_0 (by omega) z16) hw25.2 | exact end_hit (by omega) rfl (fit_1 (by omega) z27) hw30.2 | exact end_row (by omega) hw34 (fit_1 (by omega) z27) hw36.2)
        exact hret (lk2_30, dn2_30, ht2_30, sl2_30, br2_30, wh2_30, gc, ft, fp) _ _ _ _ dX3_endBlock_64 hq31 (hP.sub [3, 0, 1, 2] rfl) (hD.sub [3, 0, 1, 2] (by decide) rfl) hS
      ·
        have z28 := zi_ne0 c28
        refine lv_aload_n hx hb dX3_endBlock_29 rfl (lv_at hl 1 rfl) ?_
        refine va_get (D := D) (ci := 2) (v := .ref aQ) (C := RX3) (T := TX3) (N := 11) hx hb hts in_X3 hown hK hP 0 rfl rfl 1 (by decide) (hts _ wk50) (fun _ h9 => h9) rfl dX3_endBlock_30 ?_
        refine lv_aload_n hx hb dX3_endBlock_33 rfl (lv_at hl 1 rfl) ?_
        refine va_get (D := D) (ci := 2) (v := .int hd) (C := RX3) (T := TX3) (N := 11) hx hb hts in_X3 hown hK hP 0 rfl rfl 2 (by decide) (hts _ wk321) (fun _ h9 => h9) rfl dX3_endBlock_34 ?_
        refine lv_aload_n hx hb dX3_endBlock_37 rfl (lv_at hl 1 rfl) ?_
        refine va_get (D := D) (ci := 2) (v := .long pl) (C := RX3) (T := TX3) (N := 11) hx hb hts in_X3 hown hK hP 0 rfl rfl 3 (by decide) (hts _ wk322) (fun _ h9 => h9) rfl dX3_endBlock_38 ?_
        refine call_i (wc := []) (wr := [(aR, .inr (2, [.ref aB, .ref aQ, .int hd, .long pl, .int hv, .int lk, .int dn, .int ht, .int sl, .int br, .int wh])), (aQ, .inr (0, [.ref aT, .ref aP, .int gc])), (aT, .inl (cI, 300, .inl ft)), (aP, .inl (cJ, 300, .inr (.inl fp)))]) (run_S (As := [.int hd, .long pl]) (rest := [.ref aQ]) ks_RX3_74 ⟨by decide, by decide⟩ ⟨rfl, rfl⟩ ⟨hx, hb, hml, hown, hts⟩ (c_Co_typeOfBlock l D cI cJ cB hd pl  _) ct_blind (ct_pre (wc := []) hK hP hD hS hA hZ hN [] (by decide) rfl rfl) rfl hl.1 rfl (Nat.le_of_ble_eq_true rfl) dX3_endBlock_41 ⟨Nat.le_of_ble_eq_true rfl, Nat.le_of_ble_eq_true rfl⟩) hP hD hS hA [] [0, 1, 2, 3] rfl rfl (by decide) (by decide) (fun r32 u H locs hw32 hP1 hD1 hS1 => ?_)
        clear hw32
        clear hP hD hS
        have hP : va_P D classes [(aR, .inr (2, [.ref aB, .ref aQ, .int hd, .long pl, .int hv, .int lk, .int dn, .int ht, .int sl, .int br, .int wh])), (aQ, .inr (0, [.ref aT, .ref aP, .int gc])), (aT, .inl (cI, 300, .inl ft)), (aP, .inl (cJ, 300, .inr (.inl fp)))] H := hP1
        have hD : va_D A [(aR, .inr (2, [.ref aB, .ref aQ, .int hd, .long pl, .int hv, .int lk, .int dn, .int ht, .int sl, .int br, .int wh])), (aQ, .inr (0, [.ref aT, .ref aP, .int gc])), (aT, .inl (cI, 300, .inl ft)), (aP, .inl (cJ, 300, .inr (.inl fp)))] := hD1
        have hS := hS1
        clear hP1 hD1 hS1
        have rg_r32 := zi_rg r32
        refine lv_aload_n hx hb dX3_endBlock_44 rfl (lv_at hl 1 rfl) ?_
        refine va_get (D := D) (ci := 2) (v := .long pl) (C := RX3) (T := TX3) (N := 11) hx hb hts in_X3 hown hK hP 0 rfl rfl 3 (by decide) (hts _ wk322) (fun _ h9 => h9) rfl dX3_endBlock_45 ?_
        have hh33 : 0 ≤ gc.toInt ∧ gc.toInt ≤ 1000000000 := (by omega)
        refine call_v (wc := [(aQ, .inr (0, [.ref aT, .ref aP, .int gc])), (aT, .inl (cI, 300, .inl ft)), (aP, .inl (cJ, 300, .inr (.inl fp)))]) (wr := [(aR, .inr (2, [.ref aB, .ref aQ, .int hd, .long pl, .int hv, .int lk, .int dn, .int ht, .int sl, .int br, .int wh]))]) (run_V (As := [.int r32, .long pl]) (rest := []) kv_RX3_80 ⟨by decide, by decide⟩ ⟨rfl, rfl⟩ ⟨hx, hb, hml, hown, hts⟩ (c_Gr_keep l D cI cJ cB aQ aT aP gc r32 pl ft fp hh33 _) ct_blind (ct_pre (wc := [(aQ, .inr (0, [.ref aT, .ref aP, .int gc])), (aT, .inl (cI, 300, .inl ft)), (aP, .inl (cJ, 300, .inr (.inl fp)))]) hK hP hD hS hA hZ hN [1, 2, 3] (by decide) rfl rfl) (va_recv hK hP (ci := 0) (q0 := 1) rfl rfl) rfl hl.1 rfl (Nat.le_of_ble_eq_true rfl) dX3_endBlock_48 ⟨Nat.le_of_ble_eq_true rfl, Nat.le_of_ble_eq_true rfl⟩) hP hD hS hA [1, 2, 3] [0] rfl rfl (by decide) (by decide) (fun u H locs hw34 hP1 hD1 hS1 => ?_)
        obtain ⟨gc2_34, ft2_34, fp2_34⟩ := u
        have hw34 : gc2_34.toInt = gc.toInt + 1 := hw34
        clear hP hD hS
        have hP : va_P D classes [(aR, .inr (2, [.ref aB, .ref aQ, .int hd, .long pl, .int hv, .int lk, .int dn, .int ht, .int sl, .int br, .int wh])), (aQ, .inr (0, [.ref aT, .ref aP, .int gc2_34])), (aT, .inl (cI, 300, .inl ft2_34)), (aP, .inl (cJ, 300, .inr (.inl fp2_34)))] H := hP1
        have hD : va_D A [(aR, .inr (2, [.ref aB, .ref aQ, .int hd, .long pl, .int hv, .int lk, .int dn, .int ht, .int sl, .int br, .int wh])), (aQ, .inr (0, [.ref aT, .ref aP, .int gc2_34])), (aT, .inl (cI, 300, .inl ft2_34)), (aP, .inl (cJ, 300, .inr (.inl fp2_34)))] := hD1
        have hS := hS1
        clear hP1 hD1 hS1
        have rg_gc2_34 := zi_rg gc2_34
        refine lv_aload_n hx hb dX3_endBlock_51 rfl (lv_at hl 1 rfl) ?_
        refine lv_iload_n hx hb dX3_endBlock_52 rfl (lv_at hl 0 rfl) ?_
        have hh35 : (0 ≤ lk.toInt ∧ lk.toInt ≤ 1) ∧ (0 ≤ dn.toInt ∧ dn.toInt ≤ 1) ∧ (0 ≤ ht.toInt ∧ ht.toInt ≤ 63) ∧ (0 ≤ br.toInt ∧ br.toInt ≤ 63) ∧ (0 ≤ wh.toInt ∧ wh.toInt ≤ 15) ∧ (0 ≤ sl.toInt ∧ sl.toInt ≤ 1000000000) := (by omega)
        refine call_v (wc := [(aR, .inr (2, [.ref aB, .ref aQ, .int hd, .long pl, .int hv, .int lk, .int dn, .int ht, .int sl, .int br, .int wh]))]) (wr := [(aQ, .inr (0, [.ref aT, .ref aP, .int gc2_34])), (aT, .inl (cI, 300, .inl ft2_34)), (aP, .inl (cJ, 300, .inr (.inl fp2_34)))]) (run_V (As := [.int v27]) (rest := []) kv_RX3_84 ⟨by decide, by decide⟩ ⟨rfl, rfl⟩ ⟨hx, hb, hml, hown, hts⟩ (c_Re_countInRow l D cI cJ cB aR aB aQ hd pl hv lk dn ht sl br wh v27 hh35 _) ct_blind (ct_pre (wc := [(aR, .inr (2, [.ref aB, .ref aQ, .int hd, .long pl, .int hv, .int lk, .int dn, .int ht, .int sl, .int br, .int wh]))]) hK hP hD hS hA hZ hN [0] (by decide) rfl rfl) (va_recv hK hP (ci := 2) (q0 := 0) rfl rfl) rfl hl.1 rfl (Nat.le_of_ble_eq_true rfl) dX3_endBlock_53 ⟨Nat.le_of_ble_eq_true rfl, Nat.le_of_ble_eq_true rfl⟩) hP hD hS hA [0] [1, 2, 3] rfl rfl (by decide) (by decide) (fun u H locs hw36 hP1 hD1 hS1 => ?_)
        obtain ⟨lk2_36, dn2_36, ht2_36, sl2_36, br2_36, wh2_36⟩ := u
        have hw36 : ((0 ≤ lk2_36.toInt ∧ lk2_36.toInt ≤ 1) ∧ (0 ≤ dn2_36.toInt ∧ dn2_36.toInt ≤ 1) ∧ (0 ≤ ht2_36.toInt ∧ ht2_36.toInt ≤ 63) ∧ (0 ≤ br2_36.toInt ∧ br2_36.toInt ≤ 63) ∧ (0 ≤ wh2_36.toInt ∧ wh2_36.toInt ≤ 15) ∧ (sl.toInt ≤ sl2_36.toInt ∧ sl2_36.toInt ≤ sl.toInt + 1)) ∧ rowR v27.toInt lk.toInt dn.toInt ht.toInt sl.toInt br.toInt wh.toInt lk2_36.toInt dn2_36.toInt ht2_36.toInt sl2_36.toInt br2_36.toInt wh2_36.toInt := hw36
        clear hP hD hS
        have hP : va_P D classes [(aQ, .inr (0, [.ref aT, .ref aP, .int gc2_34])), (aT, .inl (cI, 300, .inl ft2_34)), (aP, .inl (cJ, 300, .inr (.inl fp2_34))), (aR, .inr (2, [.ref aB, .ref aQ, .int hd, .long pl, .int hv, .int lk2_36, .int dn2_36, .int ht2_36, .int sl2_36, .int br2_36, .int wh2_36]))] H := hP1
        have hD : va_D A [(aQ, .inr (0, [.ref aT, .ref aP, .int gc2_34])), (aT, .inl (cI, 300, .inl ft2_34)), (aP, .inl (cJ, 300, .inr (.inl fp2_34))), (aR, .inr (2, [.ref aB, .ref aQ, .int hd, .long pl, .int hv, .int lk2_36, .int dn2_36, .int ht2_36, .int sl2_36, .int br2_36, .int wh2_36]))] := hD1
        have hS := hS1
        clear hP1 hD1 hS1
        have rg_lk2_36 := zi_rg lk2_36
        have rg_dn2_36 := zi_rg dn2_36
        have rg_ht2_36 := zi_rg ht2_36
        have rg_sl2_36 := zi_rg sl2_36
        have rg_br2_36 := zi_rg br2_36
        have rg_wh2_36 := zi_rg wh2_36
        refine lv_goto (tgt := 64) hx hb dX3_endBlock_56 (by decide) ?_
        have hq37 : (gc.toInt ≤ gc2_34.toInt ∧ gc2_34.toInt ≤ gc.toInt + 1) ∧ ((0 ≤ lk2_36.toInt ∧ lk2_36.toInt ≤ 1) ∧ (0 ≤ dn2_36.toInt ∧ dn2_36.toInt ≤ 1) ∧ (0 ≤ ht2_36.toInt ∧ ht2_36.toInt ≤ 63) ∧ (0 ≤ br2_36.toInt ∧ br2_36.toInt ≤ 63) ∧ (0 ≤ wh2_36.toInt ∧ wh2_36.toInt ≤ 15) ∧ (sl.toInt ≤ sl2_36.toInt ∧ sl2_36.toInt ≤ sl.toInt + 1)) ∧ endR hd.toInt lk.toInt dn.toInt ht.toInt sl.toInt br.toInt wh.toInt gc.toInt lk2_36.toInt dn2_36.toInt ht2_36.toInt sl2_36.toInt br2_36.toInt wh2_36.toInt gc2_34.toInt := (by refine ⟨by omega, by omega, ?_⟩; first | exact end_hit (by omega) rfl (fit_1 (by omega) z3) hw6.2 | exact end_row (by omega) hw10 (fit_1 (by omega) z3) hw12.2 | exact end_hit (by omega) rfl (fit_0 (by omega) z16) hw19.2 | exact end_row (by omega) hw23 (fit_0 (by omega) z16) hw25.2 | exact end_hit (by omega) rfl (fit_1 (by omega) z27) hw30.2 | exact end_row (by omega) hw34 (fit_1 (by omega) z27) hw36.2)
        exact hret (lk2_36, dn2_36, ht2_36, sl2_36, br2_36, wh2_36, gc2_34, ft2_34, fp2_34) _ _ _ _ dX3_endBlock_64 hq37 (hP.sub [3, 0, 1, 2] rfl) (hD.sub [3, 0, 1, 2] (by decide) rfl) hS

set_option maxHeartbeats 4000000 in
set_option maxRecDepth 100000 in
theorem c_Re_take (l : Launch) (D : va_G) (cI cJ cB : ClassId) (aR : Nat) (aB : Nat) (aQ : Nat) (aT : Nat) (aP : Nat) (hd : Int32) (pl : Int64) (hv : Int32) (lk : Int32) (dn : Int32) (ht : Int32) (sl : Int32) (br : Int32) (wh : Int32) (la : Int64) (gc : Int32) (ft : Nat → Int32) (fp : Nat → Int64) (b : Int32) (h1 : 0 ≤ gc.toInt ∧ gc.toInt ≤ 1000000000) (h2 : (0 ≤ lk.toInt ∧ lk.toInt ≤ 1) ∧ (0 ≤ dn.toInt ∧ dn.toInt ≤ 1) ∧ (0 ≤ ht.toInt ∧ ht.toInt ≤ 63) ∧ (0 ≤ br.toInt ∧ br.toInt ≤ 63) ∧ (0 ≤ wh.toInt ∧ wh.toInt ≤ 15) ∧ (0 ≤ sl.toInt ∧ sl.toInt ≤ 1000000000) ∧ (0 ≤ hv.toInt ∧ hv.toInt ≤ 65) ∧ (0 ≤ hd.toInt ∧ hd.toInt ≤ 3)) (h3 : 0 ≤ b.toInt ∧ b.toInt ≤ 1) (h4 : hdK hv.toInt hd.toInt) :
    ctv l yX3_take (wsOf yX3_take cX3_take 2 none) (rmL 4 87 0 0) D classes (tys3 cI cJ cB) [.ref aR, .int b] [(aR, .inr (2, [.ref aB, .ref aQ, .int hd, .long pl, .int hv, .int lk, .int dn, .int ht, .int sl, .int br, .int wh])), (aB, .inr (3, [.long la])), (aQ, .inr (0, [.ref aT, .ref aP, .int gc])), (aT, .inl (cI, 300, .inl ft)), (aP, .inl (cJ, 300, .inr (.inl fp)))] (fun u : Int32 × Int64 × Int32 × Int32 × Int32 × Int32 × Int32 × Int32 × Int32 × Int64 × Int32 × (Nat → Int32) × (Nat → Int64) => (gc.toInt ≤ u.2.2.2.2.2.2.2.2.2.2.1.toInt ∧ u.2.2.2.2.2.2.2.2.2.2.1.toInt ≤ gc.toInt + 1) ∧ (((0 ≤ u.2.2.2.1.toInt ∧ u.2.2.2.1.toInt ≤ 1) ∧ (0 ≤ u.2.2.2.2.1.toInt ∧ u.2.2.2.2.1.toInt ≤ 1) ∧ (0 ≤ u.2.2.2.2.2.1.toInt ∧ u.2.2.2.2.2.1.toInt ≤ 63) ∧ (0 ≤ u.2.2.2.2.2.2.2.1.toInt ∧ u.2.2.2.2.2.2.2.1.toInt ≤ 63) ∧ (0 ≤ u.2.2.2.2.2.2.2.2.1.toInt ∧ u.2.2.2.2.2.2.2.2.1.toInt ≤ 15) ∧ (sl.toInt ≤ u.2.2.2.2.2.2.1.toInt ∧ u.2.2.2.2.2.2.1.toInt ≤ sl.toInt + 1)) ∧ ((0 ≤ u.2.2.1.toInt ∧ u.2.2.1.toInt ≤ 65) ∧ (0 ≤ u.1.toInt ∧ u.1.toInt ≤ 3)) ∧ hdK u.2.2.1.toInt u.1.toInt) ∧ tkR b.toInt hd.toInt hv.toInt lk.toInt dn.toInt ht.toInt sl.toInt br.toInt wh.toInt gc.toInt u.1.toInt u.2.2.1.toInt u.2.2.2.1.toInt u.2.2.2.2.1.toInt u.2.2.2.2.2.1.toInt u.2.2.2.2.2.2.1.toInt u.2.2.2.2.2.2.2.1.toInt u.2.2.2.2.2.2.2.2.1.toInt u.2.2.2.2.2.2.2.2.2.2.1.toInt) (fun u : Int32 × Int64 × Int32 × Int32 × Int32 × Int32 × Int32 × Int32 × Int32 × Int64 × Int32 × (Nat → Int32) × (Nat → Int64) => ([(aR, .inr (2, [.ref aB, .ref aQ, .int u.1, .long u.2.1, .int u.2.2.1, .int u.2.2.2.1, .int u.2.2.2.2.1, .int u.2.2.2.2.2.1, .int u.2.2.2.2.2.2.1, .int u.2.2.2.2.2.2.2.1, .int u.2.2.2.2.2.2.2.2.1])), (aB, .inr (3, [.long u.2.2.2.2.2.2.2.2.2.1])), (aQ, .inr (0, [.ref aT, .ref aP, .int u.2.2.2.2.2.2.2.2.2.2.1])), (aT, .inl (cI, 300, .inl u.2.2.2.2.2.2.2.2.2.2.2.1)), (aP, .inl (cJ, 300, .inr (.inl u.2.2.2.2.2.2.2.2.2.2.2.2)))] : va_W)) 0 0 := by
  refine ctv.of (by first | exact plainFor_of_name (by decide) | decide +kernel) (Nat.le_of_ble_eq_true rfl) (fun p e s m args below meth c A ls Q h hret => ?_)
  obtain ⟨hx, hb, hml, hown, hts, hnm, hP, hK, hD, hA, hS, hZ, hN, hl⟩ := h
  have hown : s.vm.findClass RX3 = some m.cls := hown
  have hl : lv_has ls 2 [(0, .ref aR), (1, .int b)] := hl
  have hP : va_P D classes [(aR, .inr (2, [.ref aB, .ref aQ, .int hd, .long pl, .int hv, .int lk, .int dn, .int ht, .int sl, .int br, .int wh])), (aB, .inr (3, [.long la])), (aQ, .inr (0, [.ref aT, .ref aP, .int gc])), (aT, .inl (cI, 300, .inl ft)), (aP, .inl (cJ, 300, .inr (.inl fp)))] s.heap := hP
  have hD : va_D A [(aR, .inr (2, [.ref aB, .ref aQ, .int hd, .long pl, .int hv, .int lk, .int dn, .int ht, .int sl, .int br, .int wh])), (aB, .inr (3, [.long la])), (aQ, .inr (0, [.ref aT, .ref aP, .int gc])), (aT, .inl (cI, 300, .inl ft)), (aP, .inl (cJ, 300, .inr (.inl fp)))] := hD
  have rg_hd := zi_rg hd
  have rg_hv := zi_rg hv
  have rg_lk := zi_rg lk
  have rg_dn := zi_rg dn
  have rg_ht := zi_rg ht
  have rg_sl := zi_rg sl
  have rg_br := zi_rg br
  have rg_wh := zi_rg wh
  have rg_gc := zi_rg gc
  have rg_b := zi_rg b
  refine lv_aload_n hx hb dX3_take_0 rfl (lv_at hl 0 rfl) ?_
  refine va_get (D := D) (ci := 2) (v := .int dn) (C := RX3) (T := TX3) (N := 11) hx hb hts in_X3 hown hK hP 0 rfl rfl 6 (by decide) (hts _ wk319) (fun _ h9 => h9) rfl dX3_take_1 ?_
  refine lv_if_eq (tgt := 13) hx hb dX3_take_4 (by decide) (fun c1 => ?_) (fun c1 => ?_)
  ·
    have z1 := zi_eq0 c1
    refine lv_aload_n hx hb dX3_take_13 rfl (lv_at hl 0 rfl) ?_
    refine va_get (D := D) (ci := 2) (v := .int hv) (C := RX3) (T := TX3) (N := 11) hx hb hts in_X3 hown hK hP 0 rfl rfl 4 (by decide) (hts _ wk320) (fun _ h9 => h9) rfl dX3_take_14 ?_
    refine lv_iconst (v := 2) hx hb dX3_take_17 (by decide) ?_
    refine lv_topi (fun v2 e2 => ?_)
    have z2 : v2.toInt = 2 := zi_c e2 (by decide)
    refine lv_icmp_ge (tgt := 36) hx hb dX3_take_18 (by decide) (fun c3 => ?_) (fun c3 => ?_)
    ·
      have z3 := zi_le c3
      refine lv_aload_n hx hb dX3_take_36 rfl (lv_at hl 0 rfl) ?_
      refine lv_dup hx hb dX3_take_37 rfl ?_
      refine va_get (D := D) (ci := 2) (v := .long pl) (C := RX3) (T := TX3) (N := 11) hx hb hts in_X3 hown hK hP 0 rfl rfl 3 (by decide) (hts _ wk322) (fun _ h9 => h9) rfl dX3_take_38 ?_
      refine lv_aload_n hx hb dX3_take_41 rfl (lv_at hl 0 rfl) ?_
      refine va_get (D := D) (ci := 2) (v := .ref aB) (C := RX3) (T := TX3) (N := 11) hx hb hts in_X3 hown hK hP 0 rfl rfl 0 (by decide) (hts _ wk46) (fun _ h9 => h9) rfl dX3_take_42 ?_
      refine lv_iload_n hx hb dX3_take_45 rfl (lv_at hl 1 rfl) ?_
      have hh4 : 0 ≤ b.toInt ∧ b.toInt ≤ 1 := (by omega)
      refine call_i (wc := [(aB, .inr (3, [.long la]))]) (wr := [(aR, .inr (2, [.ref aB, .ref aQ, .int hd, .long pl, .int hv, .int lk, .int dn, .int ht, .int sl, .int br, .int wh])), (aQ, .inr (0, [.ref aT, .ref aP, .int gc])), (aT, .inl (cI, 300, .inl ft)), (aP, .inl (cJ, 300, .inr (.inl fp)))]) (run_V (As := [.int b]) (rest := [.long pl, .ref aR]) kv_RX3_64 ⟨by decide, by decide⟩ ⟨rfl, rfl⟩ ⟨hx, hb, hml, hown, hts⟩ (c_Sc_unscramble l D cI cJ cB aB la b hh4 _) ct_blind (ct_pre (wc := [(aB, .inr (3, [.long la]))]) hK hP hD hS hA hZ hN [1] (by decide) rfl rfl) (va_recv hK hP (ci := 3) (q0 := 1) rfl rfl) rfl hl.1 rfl (Nat.le_of_ble_eq_true rfl) dX3_take_46 ⟨Nat.le_of_ble_eq_true rfl, Nat.le_of_ble_eq_true rfl⟩) hP hD hS hA [1] [0, 2, 3, 4] rfl rfl (by decide) (by decide) (fun r5 u H locs hw5 hP1 hD1 hS1 => ?_)
      obtain ⟨la2_5, hu9⟩ : ∃ z, z = u := ⟨_, rfl⟩
      subst hu9
      clear hw5
      clear hP hD hS
      have hP : va_P D classes [(aR, .inr (2, [.ref aB, .ref aQ, .int hd, .long pl, .int hv, .int lk, .int dn, .int ht, .int sl, .int br, .int wh])), (aQ, .inr (0, [.ref aT, .ref aP, .int gc])), (aT, .inl (cI, 300, .inl ft)), (aP, .inl (cJ, 300, .inr (.inl fp))), (aB, .inr (3, [.long la2_5]))] H := hP1
      have hD : va_D A [(aR, .inr (2, [.ref aB, .ref aQ, .int hd, .long pl, .int hv, .int lk, .int dn, .int ht, .int sl, .int br, .int wh])), (aQ, .inr (0, [.ref aT, .ref aP, .int gc])), (aT, .inl (cI, 300, .inl ft)), (aP, .inl (cJ, 300, .inr (.inl fp))), (aB, .inr (3, [.long la2_5]))] := hD1
      have hS := hS1
      clear hP1 hD1 hS1
      have rg_r5 := zi_rg r5
      refine lv_i2l hx hb dX3_take_49 rfl ?_
      refine lv_topl (fun v6 e6 => ?_)
      refine lv_aload_n hx hb dX3_take_50 rfl (lv_at hl 0 rfl) ?_
      refine va_get (D := D) (ci := 2) (v := .int hv) (C := RX3) (T := TX3) (N := 11) hx hb hts in_X3 hown hK hP 0 rfl rfl 4 (by decide) (hts _ wk320) (fun _ h9 => h9) rfl dX3_take_51 ?_
      refine lv_iconst (v := 2) hx hb dX3_take_54 (by decide) ?_
      refine lv_topi (fun v7 e7 => ?_)
      have z7 : v7.toInt = 2 := zi_c e7 (by decide)
      refine lv_isub hx hb dX3_take_55 ?_
      refine lv_topi (fun v8 e8 => ?_)
      first | have z8 := zi_sub e8 (by omega) | skip
      refine lv_lshl hx hb dX3_take_56 rfl ?_
      refine lv_topl (fun v9 e9 => ?_)
      refine lv_lor hx hb dX3_take_57 ?_
      refine lv_topl (fun v10 e10 => ?_)
      refine va_put (D := D) (ci := 2) (v := .long v10) (ty := .long) (C := RX3) (T := TX3) (N := 11) hx hb hts in_X3 tyX3 tyX3_ok nmX3 hown hK hP hD hS 0 rfl rfl 3 (by decide) (hts _ wk322) (fun _ h9 => h9) rfl (by decide +kernel) rfl rfl (Nat.le_of_ble_eq_true rfl) dX3_take_58 (fun H locs hP1 hD1 hS1 => ?_)
      clear hP hD hS
      have hP : va_P D classes [(aR, .inr (2, [.ref aB, .ref aQ, .int hd, .long v10, .int hv, .int lk, .int dn, .int ht, .int sl, .int br, .int wh])), (aQ, .inr (0, [.ref aT, .ref aP, .int gc])), (aT, .inl (cI, 300, .inl ft)), (aP, .inl (cJ, 300, .inr (.inl fp))), (aB, .inr (3, [.long la2_5]))] H := hP1
      have hD : va_D A [(aR, .inr (2, [.ref aB, .ref aQ, .int hd, .long v10, .int hv, .int lk, .int dn, .int ht, .int sl, .int br, .int wh])), (aQ, .inr (0, [.ref aT, .ref aP, .int gc])), (aT, .inl (cI, 300, .inl ft)), (aP, .inl (cJ, 300, .inr (.inl fp))), (aB, .inr (3, [.long la2_5]))] := hD1
      have hS := hS1
      clear hP1 hD1 hS1
      refine lv_aload_n hx hb dX3_take_61 rfl (lv_at hl 0 rfl) ?_
      refine lv_dup hx hb dX3_take_62 rfl ?_
      refine va_get (D := D) (ci := 2) (v := .int hv) (C := RX3) (T := TX3) (N := 11) hx hb hts in_X3 hown hK hP 0 rfl rfl 4 (by decide) (hts _ wk320) (fun _ h9 => h9) rfl dX3_take_63 ?_
      refine lv_iconst (v := 1) hx hb dX3_take_66 (by decide) ?_
      refine lv_topi (fun v11 e11 => ?_)
      have z11 : v11.toInt = 1 := zi_c e11 (by decide)
      refine lv_iadd hx hb dX3_take_67 ?_
      refine lv_topi (fun v12 e12 => ?_)
      first | have z12 := zi_add e12 (by omega) | skip
      refine va_put (D := D) (ci := 2) (v := .int v12) (ty := .int) (C := RX3) (T := TX3) (N := 11) hx hb hts in_X3 tyX3 tyX3_ok nmX3 hown hK hP hD hS 0 rfl rfl 4 (by decide) (hts _ wk320) (fun _ h9 => h9) rfl (by decide +kernel) rfl rfl (Nat.le_of_ble_eq_true rfl) dX3_take_68 (fun H locs hP1 hD1 hS1 => ?_)
      clear hP hD hS
      have hP : va_P D classes [(aR, .inr (2, [.ref aB, .ref aQ, .int hd, .long v10, .int v12, .int lk, .int dn, .int ht, .int sl, .int br, .int wh])), (aQ, .inr (0, [.ref aT, .ref aP, .int gc])), (aT, .inl (cI, 300, .inl ft)), (aP, .inl (cJ, 300, .inr (.inl fp))), (aB, .inr (3, [.long la2_5]))] H := hP1
      have hD : va_D A [(aR, .inr (2, [.ref aB, .ref aQ, .int hd, .long v10, .int v12, .int lk, .int dn, .int ht, .int sl, .int br, .int wh])), (aQ, .inr (0, [.ref aT, .ref aP, .int gc])), (aT, .inl (cI, 300, .inl ft)), (aP, .inl (cJ, 300, .inr (.inl fp))), (aB, .inr (3, [.long la2_5]))] := hD1
      have hS := hS1
      clear hP1 hD1 hS1
      refine lv_aload_n hx hb dX3_take_71 rfl (lv_at hl 0 rfl) ?_
      refine va_get (D := D) (ci := 2) (v := .int v12) (C := RX3) (T := TX3) (N := 11) hx hb hts in_X3 hown hK hP 0 rfl rfl 4 (by decide) (hts _ wk320) (fun _ h9 => h9) rfl dX3_take_72 ?_
      refine lv_bipush (v := 66) hx hb dX3_take_75 (by decide) ?_
      refine lv_topi (fun v13 e13 => ?_)
      have z13 : v13.toInt = 66 := zi_c e13 (by decide)
      refine lv_icmp_ne (tgt := 88) hx hb dX3_take_77 (by decide) (fun c14 => ?_) (fun c14 => ?_)
      ·
        have z14 := zi_ne c14
        have hq15 : (gc.toInt ≤ gc.toInt ∧ gc.toInt ≤ gc.toInt + 1) ∧ (((0 ≤ lk.toInt ∧ lk.toInt ≤ 1) ∧ (0 ≤ dn.toInt ∧ dn.toInt ≤ 1) ∧ (0 ≤ ht.toInt ∧ ht.toInt ≤ 63) ∧ (0 ≤ br.toInt ∧ br.toInt ≤ 63) ∧ (0 ≤ wh.toInt ∧ wh.toInt ≤ 15) ∧ (sl.toInt ≤ sl.toInt ∧ sl.toInt ≤ sl.toInt + 1)) ∧ ((0 ≤ v12.toInt ∧ v12.toInt ≤ 65) ∧ (0 ≤ hd.toInt ∧ hd.toInt ≤ 3)) ∧ hdK v12.toInt hd.toInt) ∧ tkR b.toInt hd.toInt hv.toInt lk.toInt dn.toInt ht.toInt sl.toInt br.toInt wh.toInt gc.toInt hd.toInt v12.toInt lk.toInt dn.toInt ht.toInt sl.toInt br.toInt wh.toInt gc.toInt := (by first | exact ⟨by omega, ⟨by omega, by omega, ⟨fun q => by omega, fun q => by omega⟩⟩, tk_go (by omega) (show hv.toInt < 65 by omega) (show v12.toInt = hv.toInt + 1 by omega) (fun q => by omega) (fun _ => rfl)⟩ | exact ⟨by omega, ⟨by omega, by omega, ⟨fun q => by omega, fun q => by omega⟩⟩, tk_end (by omega) (by omega) hw19.1 hw19.2 hw18.2.2⟩ | (exfalso; omega) | (have zq := hd_sh (by omega) h3 e21 e22 e23; have k1 := h4.1; have k2 := h4.2; exact ⟨by omega, ⟨by omega, by omega, ⟨fun q => by omega, fun q => by omega⟩⟩, tk_go (by omega) (show hv.toInt < 65 by omega) (show v25.toInt = hv.toInt + 1 by omega) (fun _ => zq) (fun q => by omega)⟩))
        exact hret (hd, v10, v12, lk, dn, ht, sl, br, wh, la2_5, gc, ft, fp) _ _ _ _ dX3_take_88 hq15 (hP.sub [0, 4, 1, 2, 3] rfl) (hD.sub [0, 4, 1, 2, 3] (by decide) rfl) hS
      ·
        have z14 := zi_eq c14
        refine lv_aload_n hx hb dX3_take_80 rfl (lv_at hl 0 rfl) ?_
        have hh16 : 0 ≤ gc.toInt ∧ gc.toInt ≤ 1000000000 := (by omega)
        have hh17 : (0 ≤ lk.toInt ∧ lk.toInt ≤ 1) ∧ (0 ≤ dn.toInt ∧ dn.toInt ≤ 1) ∧ (0 ≤ ht.toInt ∧ ht.toInt ≤ 63) ∧ (0 ≤ br.toInt ∧ br.toInt ≤ 63) ∧ (0 ≤ wh.toInt ∧ wh.toInt ≤ 15) ∧ (0 ≤ sl.toInt ∧ sl.toInt ≤ 1000000000) := (by omega)
        refine call_v (wc := [(aR, .inr (2, [.ref aB, .ref aQ, .int hd, .long v10, .int v12, .int lk, .int dn, .int ht, .int sl, .int br, .int wh])), (aQ, .inr (0, [.ref aT, .ref aP, .int gc])), (aT, .inl (cI, 300, .inl ft)), (aP, .inl (cJ, 300, .inr (.inl fp)))]) (wr := [(aB, .inr (3, [.long la2_5]))]) (run_V (As := []) (rest := []) kv_RX3_68 ⟨by decide, by decide⟩ ⟨rfl, rfl⟩ ⟨hx, hb, hml, hown, hts⟩ (c_Re_endBlock l D cI cJ cB aR aB aQ aT aP hd v10 v12 lk dn ht sl br wh gc ft fp hh16 hh17 _) ct_blind (ct_pre (wc := [(aR, .inr (2, [.ref aB, .ref aQ, .int hd, .long v10, .int v12, .int lk, .int dn, .int ht, .int sl, .int br, .int wh])), (aQ, .inr (0, [.ref aT, .ref aP, .int gc])), (aT, .inl (cI, 300, .inl ft)), (aP, .inl (cJ, 300, .inr (.inl fp)))]) hK hP hD hS hA hZ hN [0, 1, 2, 3] (by decide) rfl rfl) (va_recv hK hP (ci := 2) (q0 := 0) rfl rfl) rfl hl.1 rfl (Nat.le_of_ble_eq_true rfl) dX3_take_81 ⟨Nat.le_of_ble_eq_true rfl, Nat.le_of_ble_eq_true rfl⟩) hP hD hS hA [0, 1, 2, 3] [4] rfl rfl (by decide) (by decide) (fun u H locs hw18 hP1 hD1 hS1 => ?_)
        obtain ⟨lk2_18, dn2_18, ht2_18, sl2_18, br2_18, wh2_18, gc2_18, ft2_18, fp2_18⟩ := u
        have hw18 : (gc.toInt ≤ gc2_18.toInt ∧ gc2_18.toInt ≤ gc.toInt + 1) ∧ ((0 ≤ lk2_18.toInt ∧ lk2_18.toInt ≤ 1) ∧ (0 ≤ dn2_18.toInt ∧ dn2_18.toInt ≤ 1) ∧ (0 ≤ ht2_18.toInt ∧ ht2_18.toInt ≤ 63) ∧ (0 ≤ br2_18.toInt ∧ br2_18.toInt ≤ 63) ∧ (0 ≤ wh2_18.toInt ∧ wh2_18.toInt ≤ 15) ∧ (sl.toInt ≤ sl2_18.toInt ∧ sl2_18.toInt ≤ sl.toInt + 1)) ∧ endR hd.toInt lk.toInt dn.toInt ht.toInt sl.toInt br.toInt wh.toInt gc.toInt lk2_18.toInt dn2_18.toInt ht2_18.toInt sl2_18.toInt br2_18.toInt wh2_18.toInt gc2_18.toInt := hw18
        clear hP hD hS
        have hP : va_P D classes [(aB, .inr (3, [.long la2_5])), (aR, .inr (2, [.ref aB, .ref aQ, .int hd, .long v10, .int v12, .int lk2_18, .int dn2_18, .int ht2_18, .int sl2_18, .int br2_18, .int wh2_18])), (aQ, .inr (0, [.ref aT, .ref aP, .int gc2_18])), (aT, .inl (cI, 300, .inl ft2_18)), (aP, .inl (cJ, 300, .inr (.inl fp2_18)))] H := hP1
        have hD : va_D A [(aB, .inr (3, [.long la2_5])), (aR, .inr (2, [.ref aB, .ref aQ, .int hd, .long v10, .int v12, .int lk2_18, .int dn2_18, .int ht2_18, .int sl2_18, .int br2_18, .int wh2_18])), (aQ, .inr (0, [.ref aT, .ref aP, .int gc2_18])), (aT, .inl (cI, 300, .inl ft2_18)), (aP, .inl (cJ, 300, .inr (.inl fp2_18)))] := hD1
        have hS := hS1
        clear hP1 hD1 hS1
        have rg_lk2_18 := zi_rg lk2_18
        have rg_dn2_18 := zi_rg dn2_18
        have rg_ht2_18 := zi_rg ht2_18
        have rg_sl2_18 := zi_rg sl2_18
        have rg_br2_18 := zi_rg br2_18
        have rg_wh2_18 := zi_rg wh2_18
        have rg_gc2_18 := zi_rg gc2_18
        refine lv_aload_n hx hb dX3_take_84 rfl (lv_at hl 0 rfl) ?_
        refine call_v (wc := [(aR, .inr (2, [.ref aB, .ref aQ, .int hd, .long v10, .int v12, .int lk2_18, .int dn2_18, .int ht2_18, .int sl2_18, .int br2_18, .int wh2_18]))]) (wr := [(aB, .inr (3, [.long la2_5])), (aQ, .inr (0, [.ref aT, .ref aP, .int gc2_18])), (aT, .inl (cI, 300, .inl ft2_18)), (aP, .inl (cJ, 300, .inr (.inl fp2_18)))]) (run_V (As := []) (rest := []) kv_RX3_71 ⟨by decide, by decide⟩ ⟨rfl, rfl⟩ ⟨hx, hb, hml, hown, hts⟩ (c_Re_beginBlock l D cI cJ cB aR aB aQ hd v10 v12 lk2_18 dn2_18 ht2_18 sl2_18 br2_18 wh2_18  _) ct_blind (ct_pre (wc := [(aR, .inr (2, [.ref aB, .ref aQ, .int hd, .long v10, .int v12, .int lk2_18, .int dn2_18, .int ht2_18, .int sl2_18, .int br2_18, .int wh2_18]))]) hK hP hD hS hA hZ hN [1] (by decide) rfl rfl) (va_recv hK hP (ci := 2) (q0 := 1) rfl rfl) rfl hl.1 rfl (Nat.le_of_ble_eq_true rfl) dX3_take_85 ⟨Nat.le_of_ble_eq_true rfl, Nat.le_of_ble_eq_true rfl⟩) hP hD hS hA [1] [0, 2, 3, 4] rfl rfl (by decide) (by decide) (fun u H locs hw19 hP1 hD1 hS1 => ?_)
        obtain ⟨hd2_19, pl2_19, hv2_19⟩ := u
        have hw19 : hd2_19.toInt = 0 ∧ hv2_19.toInt = 0 := hw19
        clear hP hD hS
        have hP : va_P D classes [(aB, .inr (3, [.long la2_5])), (aQ, .inr (0, [.ref aT, .ref aP, .int gc2_18])), (aT, .inl (cI, 300, .inl ft2_18)), (aP, .inl (cJ, 300, .inr (.inl fp2_18))), (aR, .inr (2, [.ref aB, .ref aQ, .int hd2_19, .long pl2_19, .int hv2_19, .int lk2_18, .int dn2_18, .int ht2_18, .int sl2_18, .int br2_18, .int wh2_18]))] H := hP1
        have hD : va_D A [(aB, .inr (3, [.long la2_5])), (aQ, .inr (0, [.ref aT, .ref aP, .int gc2_18])), (aT, .inl (cI, 300, .inl ft2_18)), (aP, .inl (cJ, 300, .inr (.inl fp2_18))), (aR, .inr (2, [.ref aB, .ref aQ, .int hd2_19, .long pl2_19, .int hv2_19, .int lk2_18, .int dn2_18, .int ht2_18, .int sl2_18, .int br2_18, .int wh2_18]))] := hD1
        have hS := hS1
        clear hP1 hD1 hS1
        have rg_hd2_19 := zi_rg hd2_19
        have rg_hv2_19 := zi_rg hv2_19
        have hq20 : (gc.toInt ≤ gc2_18.toInt ∧ gc2_18.toInt ≤ gc.toInt + 1) ∧ (((0 ≤ lk2_18.toInt ∧ lk2_18.toInt ≤ 1) ∧ (0 ≤ dn2_18.toInt ∧ dn2_18.toInt ≤ 1) ∧ (0 ≤ ht2_18.toInt ∧ ht2_18.toInt ≤ 63) ∧ (0 ≤ br2_18.toInt ∧ br2_18.toInt ≤ 63) ∧ (0 ≤ wh2_18.toInt ∧ wh2_18.toInt ≤ 15) ∧ (sl.toInt ≤ sl2_18.toInt ∧ sl2_18.toInt ≤ sl.toInt + 1)) ∧ ((0 ≤ hv2_19.toInt ∧ hv2_19.toInt ≤ 65) ∧ (0 ≤ hd2_19.toInt ∧ hd2_19.toInt ≤ 3)) ∧ hdK hv2_19.toInt hd2_19.toInt) ∧ tkR b.toInt hd.toInt hv.toInt lk.toInt dn.toInt ht.toInt sl.toInt br.toInt wh.toInt gc.toInt hd2_19.toInt hv2_19.toInt lk2_18.toInt dn2_18.toInt ht2_18.toInt sl2_18.toInt br2_18.toInt wh2_18.toInt gc2_18.toInt := (by first | exact ⟨by omega, ⟨by omega, by omega, ⟨fun q => by omega, fun q => by omega⟩⟩, tk_go (by omega) (show hv.toInt < 65 by omega) (show v12.toInt = hv.toInt + 1 by omega) (fun q => by omega) (fun _ => rfl)⟩ | exact ⟨by omega, ⟨by omega, by omega, ⟨fun q => by omega, fun q => by omega⟩⟩, tk_end (by omega) (by omega) hw19.1 hw19.2 hw18.2.2⟩ | (exfalso; omega) | (have zq := hd_sh (by omega) h3 e21 e22 e23; have k1 := h4.1; have k2 := h4.2; exact ⟨by omega, ⟨by omega, by omega, ⟨fun q => by omega, fun q => by omega⟩⟩, tk_go (by omega) (show hv.toInt < 65 by omega) (show v25.toInt = hv.toInt + 1 by omega) (fun _ => zq) (fun q => by omega)⟩))
        exact hret (hd2_19, pl2_19, hv2_19, lk2_18, dn2_18, ht2_18, sl2_18, br2_18, wh2_18, la2_5, gc2_18, ft2_18, fp2_18) _ _ _ _ dX3_take_88 hq20 (hP.sub [4, 0, 1, 2, 3] rfl) (hD.sub [4, 0, 1, 2, 3] (by decide) rfl) hS
    ·
      have z3 := zi_nle c3
      refine lv_aload_n hx hb dX3_take_21 rfl (lv_at hl 0 rfl) ?_
      refine lv_aload_n hx hb dX3_take_22 rfl (lv_at hl 0 rfl) ?_
      refine va_get (D := D) (ci := 2) (v := .int hd) (C := RX3) (T := TX3) (N := 11) hx hb hts in_X3 hown hK hP 0 rfl rfl 2 (by decide) (hts _ wk321) (fun _ h9 => h9) rfl dX3_take_23 ?_
      refine lv_iconst (v := 1) hx hb dX3_take_26 (by decide) ?_
      refine lv_topi (fun v21 e21 => ?_)
      have z21 : v21.toInt = 1 := zi_c e21 (by decide)
      refine lv_ishl hx hb dX3_take_27 ?_
      refine lv_topi (fun v22 e22 => ?_)
      refine lv_iload_n hx hb dX3_take_28 rfl (lv_at hl 1 rfl) ?_
      refine lv_ior hx hb dX3_take_29 ?_
      refine lv_topi (fun v23 e23 => ?_)
      refine va_put (D := D) (ci := 2) (v := .int v23) (ty := .int) (C := RX3) (T := TX3) (N := 11) hx hb hts in_X3 tyX3 tyX3_ok nmX3 hown hK hP hD hS 0 rfl rfl 2 (by decide) (hts _ wk321) (fun _ h9 => h9) rfl (by decide +kernel) rfl rfl (Nat.le_of_ble_eq_true rfl) dX3_take_30 (fun H locs hP1 hD1 hS1 => ?_)
      clear hP hD hS
      have hP : va_P D classes [(aR, .inr (2, [.ref aB, .ref aQ, .int v23, .long pl, .int hv, .int lk, .int dn, .int ht, .int sl, .int br, .int wh])), (aB, .inr (3, [.long la])), (aQ, .inr (0, [.ref aT, .ref aP, .int gc])), (aT, .inl (cI, 300, .inl ft)), (aP, .inl (cJ, 300, .inr (.inl fp)))] H := hP1
      have hD : va_D A [(aR, .inr (2, [.ref aB, .ref aQ, .int v23, .long pl, .int hv, .int lk, .int dn, .int ht, .int sl, .int br, .int wh])), (aB, .inr (3, [.long la])), (aQ, .inr (0, [.ref aT, .ref aP, .int gc])), (aT, .inl (cI, 300, .inl ft)), (aP, .inl (cJ, 300, .inr (.inl fp)))] := hD1
      have hS := hS1
      clear hP1 hD1 hS1
      refine lv_goto (tgt := 61) hx hb dX3_take_33 (by decide) ?_
      refine lv_aload_n hx hb dX3_take_61 rfl (lv_at hl 0 rfl) ?_
      refine lv_dup hx hb dX3_take_62 rfl ?_
      refine va_get (D := D) (ci := 2) (v := .int hv) (C := RX3) (T := TX3) (N := 11) hx hb hts in_X3 hown hK hP 0 rfl rfl 4 (by decide) (hts _ wk320) (fun _ h9 => h9) rfl dX3_take_63 ?_
      refine lv_iconst (v := 1) hx hb dX3_take_66 (by decide) ?_
      refine lv_topi (fun v24 e24 => ?_)
      have z24 : v24.toInt = 1 := zi_c e24 (by decide)
      refine lv_iadd hx hb dX3_take_67 ?_
      refine lv_topi (fun v25 e25 => ?_)
      first | have z25 := zi_add e25 (by omega) | skip
      refine va_put (D := D) (ci := 2) (v := .int v25) (ty := .int) (C := RX3) (T := TX3) (N := 11) hx hb hts in_X3 tyX3 tyX3_ok nmX3 hown hK hP hD hS 0 rfl rfl 4 (by decide) (hts _ wk320) (fun _ h9 => h9) rfl (by decide +kernel) rfl rfl (Nat.le_of_ble_eq_true rfl) dX3_take_68 (fun H locs hP1 hD1 hS1 => ?_)
      clear hP hD hS
      have hP : va_P D classes [(aR, .inr (2, [.ref aB, .ref aQ, .int v23, .long pl, .int v25, .int lk, .int dn, .int ht, .int sl, .int br, .int wh])), (aB, .inr (3, [.long la])), (aQ, .inr (0, [.ref aT, .ref aP, .int gc])), (aT, .inl (cI, 300, .inl ft)), (aP, .inl (cJ, 300, .inr (.inl fp)))] H := hP1
      have hD : va_D A [(aR, .inr (2, [.ref aB, .ref aQ, .int v23, .long pl, .int v25, .int lk, .int dn, .int ht, .int sl, .int br, .int wh])), (aB, .inr (3, [.long la])), (aQ, .inr (0, [.ref aT, .ref aP, .int gc])), (aT, .inl (cI, 300, .inl ft)), (aP, .inl (cJ, 300, .inr (.inl fp)))] := hD1
      have hS := hS1
      clear hP1 hD1 hS1
      refine lv_aload_n hx hb dX3_take_71 rfl (lv_at hl 0 rfl) ?_
      refine va_get (D := D) (ci := 2) (v := .int v25) (C := RX3) (T := TX3) (N := 11) hx hb hts in_X3 hown hK hP 0 rfl rfl 4 (by decide) (hts _ wk320) (fun _ h9 => h9) rfl dX3_take_72 ?_
      refine lv_bipush (v := 66) hx hb dX3_take_75 (by decide) ?_
      refine lv_topi (fun v26 e26 => ?_)
      have z26 : v26.toInt = 66 := zi_c e26 (by decide)
      refine lv_icmp_ne (tgt := 88) hx hb dX3_take_77 (by decide) (fun c27 => ?_) (fun c27 => ?_)
      ·
        have z27 := zi_ne c27
        have hq28 : (gc.toInt ≤ gc.toInt ∧ gc.toInt ≤ gc.toInt + 1) ∧ (((0 ≤ lk.toInt ∧ lk.toInt ≤ 1) ∧ (0 ≤ dn.toInt ∧ dn.toInt ≤ 1) ∧ (0 ≤ ht.toInt ∧ ht.toInt ≤ 63) ∧ (0 ≤ br.toInt ∧ br.toInt ≤ 63) ∧ (0 ≤ wh.toInt ∧ wh.toInt ≤ 15) ∧ (sl.toInt ≤ sl.toInt ∧ sl.toInt ≤ sl.toInt + 1)) ∧ ((0 ≤ v25.toInt ∧ v25.toInt ≤ 65) ∧ (0 ≤ v23.toInt ∧ v23.toInt ≤ 3)) ∧ hdK v25.toInt v23.toInt) ∧ tkR b.toInt hd.toInt hv.toInt lk.toInt dn.toInt ht.toInt sl.toInt br.toInt wh.toInt gc.toInt v23.toInt v25.toInt lk.toInt dn.toInt ht.toInt sl.toInt br.toInt wh.toInt gc.toInt := (by first | exact ⟨by omega, ⟨by omega, by omega, ⟨fun q => by omega, fun q => by omega⟩⟩, tk_go (by omega) (show hv.toInt < 65 by omega) (show v12.toInt = hv.toInt + 1 by omega) (fun q => by omega) (fun _ => rfl)⟩ | exact ⟨by omega, ⟨by omega, by omega, ⟨fun q => by omega, fun q => by omega⟩⟩, tk_end (by omega) (by omega) hw19.1 hw19.2 hw18.2.2⟩ | (exfalso; omega) | (have zq := hd_sh (by omega) h3 e21 e22 e23; have k1 := h4.1; have k2 := h4.2; exact ⟨by omega, ⟨by omega, by omega, ⟨fun q => by omega, fun q => by omega⟩⟩, tk_go (by omega) (show hv.toInt < 65 by omega) (show v25.toInt = hv.toInt + 1 by omega) (fun _ => zq) (fun q => by omega)⟩))
        exact hret (v23, pl, v25, lk, dn, ht, sl, br, wh, la, gc, ft, fp) _ _ _ _ dX3_take_88 hq28 (hP.sub [0, 1, 2, 3, 4] rfl) (hD.sub [0, 1, 2, 3, 4] (by decide) rfl) hS
      ·
        have z27 := zi_eq c27
        refine lv_aload_n hx hb dX3_take_80 rfl (lv_at hl 0 rfl) ?_
        have hh29 : 0 ≤ gc.toInt ∧ gc.toInt ≤ 1000000000 := (by omega)
        have hh30 : (0 ≤ lk.toInt ∧ lk.toInt ≤ 1) ∧ (0 ≤ dn.toInt ∧ dn.toInt ≤ 1) ∧ (0 ≤ ht.toInt ∧ ht.toInt ≤ 63) ∧ (0 ≤ br.toInt ∧ br.toInt ≤ 63) ∧ (0 ≤ wh.toInt ∧ wh.toInt ≤ 15) ∧ (0 ≤ sl.toInt ∧ sl.toInt ≤ 1000000000) := (by omega)
        refine call_v (wc := [(aR, .inr (2, [.ref aB, .ref aQ, .int v23, .long pl, .int v25, .int lk, .int dn, .int ht, .int sl, .int br, .int wh])), (aQ, .inr (0, [.ref aT, .ref aP, .int gc])), (aT, .inl (cI, 300, .inl ft)), (aP, .inl (cJ, 300, .inr (.inl fp)))]) (wr := [(aB, .inr (3, [.long la]))]) (run_V (As := []) (rest := []) kv_RX3_68 ⟨by decide, by decide⟩ ⟨rfl, rfl⟩ ⟨hx, hb, hml, hown, hts⟩ (c_Re_endBlock l D cI cJ cB aR aB aQ aT aP v23 pl v25 lk dn ht sl br wh gc ft fp hh29 hh30 _) ct_blind (ct_pre (wc := [(aR, .inr (2, [.ref aB, .ref aQ, .int v23, .long pl, .int v25, .int lk, .int dn, .int ht, .int sl, .int br, .int wh])), (aQ, .inr (0, [.ref aT, .ref aP, .int gc])), (aT, .inl (cI, 300, .inl ft)), (aP, .inl (cJ, 300, .inr (.inl fp)))]) hK hP hD hS hA hZ hN [0, 2, 3, 4] (by decide) rfl rfl) (va_recv hK hP (ci := 2) (q0 := 0) rfl rfl) rfl hl.1 rfl (Nat.le_of_ble_eq_true rfl) dX3_take_81 ⟨Nat.le_of_ble_eq_true rfl, Nat.le_of_ble_eq_true rfl⟩) hP hD hS hA [0, 2, 3, 4] [1] rfl rfl (by decide) (by decide) (fun u H locs hw31 hP1 hD1 hS1 => ?_)
        obtain ⟨lk2_31, dn2_31, ht2_31, sl2_31, br2_31, wh2_31, gc2_31, ft2_31, fp2_31⟩ := u
        have hw31 : (gc.toInt ≤ gc2_31.toInt ∧ gc2_31.toInt ≤ gc.toInt + 1) ∧ ((0 ≤ lk2_31.toInt ∧ lk2_31.toInt ≤ 1) ∧ (0 ≤ dn2_31.toInt ∧ dn2_31.toInt ≤ 1) ∧ (0 ≤ ht2_31.toInt ∧ ht2_31.toInt ≤ 63) ∧ (0 ≤ br2_31.toInt ∧ br2_31.toInt ≤ 63) ∧ (0 ≤ wh2_31.toInt ∧ wh2_31.toInt ≤ 15) ∧ (sl.toInt ≤ sl2_31.toInt ∧ sl2_31.toInt ≤ sl.toInt + 1)) ∧ endR v23.toInt lk.toInt dn.toInt ht.toInt sl.toInt br.toInt wh.toInt gc.toInt lk2_31.toInt dn2_31.toInt ht2_31.toInt sl2_31.toInt br2_31.toInt wh2_31.toInt gc2_31.toInt := hw31
        clear hP hD hS
        have hP : va_P D classes [(aB, .inr (3, [.long la])), (aR, .inr (2, [.ref aB, .ref aQ, .int v23, .long pl, .int v25, .int lk2_31, .int dn2_31, .int ht2_31, .int sl2_31, .int br2_31, .int wh2_31])), (aQ, .inr (0, [.ref aT, .ref aP, .int gc2_31])), (aT, .inl (cI, 300, .inl ft2_31)), (aP, .inl (cJ, 300, .inr (.inl fp2_31)))] H := hP1
        have hD : va_D A [(aB, .inr (3, [.long la])), (aR, .inr (2, [.ref aB, .ref aQ, .int v23, .long pl, .int v25, .int lk2_31, .int dn2_31, .int ht2_31, .int sl2_31, .int br2_31, .int wh2_31])), (aQ, .inr (0, [.ref aT, .ref aP, .int gc2_31])), (aT, .inl (cI, 300, .inl ft2_31)), (aP, .inl (cJ, 300, .inr (.inl fp2_31)))] := hD1
        have hS := hS1
        clear hP1 hD1 hS1
        have rg_lk2_31 := zi_rg lk2_31
        have rg_dn2_31 := zi_rg dn2_31
        have rg_ht2_31 := zi_rg ht2_31
        have rg_sl2_31 := zi_rg sl2_31
        have rg_br2_31 := zi_rg br2_31
        have rg_wh2_31 := zi_rg wh2_31
        have rg_gc2_31 := zi_rg gc2_31
        refine lv_aload_n hx hb dX3_take_84 rfl (lv_at hl 0 rfl) ?_
        refine call_v (wc := [(aR, .inr (2, [.ref aB, .ref aQ, .int v23, .long pl, .int v25, .int lk2_31, .int dn2_31, .int ht2_31, .int sl2_31, .int br2_31, .int wh2_31]))]) (wr := [(aB, .inr (3, [.long la])), (aQ, .inr (0, [.ref aT, .ref aP, .int gc2_31])), (aT, .inl (cI, 300, .inl ft2_31)), (aP, .inl (cJ, 300, .inr (.inl fp2_31)))]) (run_V (As := []) (rest := []) kv_RX3_71 ⟨by decide, by decide⟩ ⟨rfl, rfl⟩ ⟨hx, hb, hml, hown, hts⟩ (c_Re_beginBlock l D cI cJ cB aR aB aQ v23 pl v25 lk2_31 dn2_31 ht2_31 sl2_31 br2_31 wh2_31  _) ct_blind (ct_pre (wc := [(aR, .inr (2, [.ref aB, .ref aQ, .int v23, .long pl, .int v25, .int lk2_31, .int dn2_31, .int ht2_31, .int sl2_31, .int br2_31, .int wh2_31]))]) hK hP hD hS hA hZ hN [1] (by decide) rfl rfl) (va_recv hK hP (ci := 2) (q0 := 1) rfl rfl) rfl hl.1 rfl (Nat.le_of_ble_eq_true rfl) dX3_take_85 ⟨Nat.le_of_ble_eq_true rfl, Nat.le_of_ble_eq_true rfl⟩) hP hD hS hA [1] [0, 2, 3, 4] rfl rfl (by decide) (by decide) (fun u H locs hw32 hP1 hD1 hS1 => ?_)
        obtain ⟨hd2_32, pl2_32, hv2_32⟩ := u
        have hw32 : hd2_32.toInt = 0 ∧ hv2_32.toInt = 0 := hw32
        clear hP hD hS
        have hP : va_P D classes [(aB, .inr (3, [.long la])), (aQ, .inr (0, [.ref aT, .ref aP, .int gc2_31])), (aT, .inl (cI, 300, .inl ft2_31)), (aP, .inl (cJ, 300, .inr (.inl fp2_31))), (aR, .inr (2, [.ref aB, .ref aQ, .int hd2_32, .long pl2_32, .int hv2_32, .int lk2_31, .int dn2_31, .int ht2_31, .int sl2_31, .int br2_31, .int wh2_31]))] H := hP1
        have hD : va_D A [(aB, .inr (3, [.long la])), (aQ, .inr (0, [.ref aT, .ref aP, .int gc2_31])), (aT, .inl (cI, 300, .inl ft2_31)), (aP, .inl (cJ, 300, .inr (.inl fp2_31))), (aR, .inr (2, [.ref aB, .ref aQ, .int hd2_32, .long pl2_32, .int hv2_32, .int lk2_31, .int dn2_31, .int ht2_31, .int sl2_31, .int br2_31, .int wh2_31]))] := hD1
        have hS := hS1
        clear hP1 hD1 hS1
        have rg_hd2_32 := zi_rg hd2_32
        have rg_hv2_32 := zi_rg hv2_32
        have hq33 : (gc.toInt ≤ gc2_31.toInt ∧ gc2_31.toInt ≤ gc.toInt + 1) ∧ (((0 ≤ lk2_31.toInt ∧ lk2_31.toInt ≤ 1) ∧ (0 ≤ dn2_31.toInt ∧ dn2_31.toInt ≤ 1) ∧ (0 ≤ ht2_31.toInt ∧ ht2_31.toInt ≤ 63) ∧ (0 ≤ br2_31.toInt ∧ br2_31.toInt ≤ 63) ∧ (0 ≤ wh2_31.toInt ∧ wh2_31.toInt ≤ 15) ∧ (sl.toInt ≤ sl2_31.toInt ∧ sl2_31.toInt ≤ sl.toInt + 1)) ∧ ((0 ≤ hv2_32.toInt ∧ hv2_32.toInt ≤ 65) ∧ (0 ≤ hd2_32.toInt ∧ hd2_32.toInt ≤ 3)) ∧ hdK hv2_32.toInt hd2_32.toInt) ∧ tkR b.toInt hd.toInt hv.toInt lk.toInt dn.toInt ht.toInt sl.toInt br.toInt wh.toInt gc.toInt hd2_32.toInt hv2_32.toInt lk2_31.toInt dn2_31.toInt ht2_31.toInt sl2_31.toInt br2_31.toInt wh2_31.toInt gc2_31.toInt := (by first | exact ⟨by omega, ⟨by omega, by omega, ⟨fun q => by omega, fun q => by omega⟩⟩, tk_go (by omega) (show hv.toInt < 65 by omega) (show v12.toInt = hv.toInt + 1 by omega) (fun q => by omega) (fun _ => rfl)⟩ | exact ⟨by omega, ⟨by omega, by omega, ⟨fun q => by omega, fun q => by omega⟩⟩, tk_end (by omega) (by omega) hw19.1 hw19.2 hw18.2.2⟩ | (exfalso; omega) | (have zq := hd_sh (by omega) h3 e21 e22 e23; have k1 := h4.1; have k2 := h4.2; exact ⟨by omega, ⟨by omega, by omega, ⟨fun q => by omega, fun q => by omega⟩⟩, tk_go (by omega) (show hv.toInt < 65 by omega) (show v25.toInt = hv.toInt + 1 by omega) (fun _ => zq) (fun q => by omega)⟩))
        exact hret (hd2_32, pl2_32, hv2_32, lk2_31, dn2_31, ht2_31, sl2_31, br2_31, wh2_31, la, gc2_31, ft2_31, fp2_31) _ _ _ _ dX3_take_88 hq33 (hP.sub [4, 0, 1, 2, 3] rfl) (hD.sub [4, 0, 1, 2, 3] (by decide) rfl) hS
  ·
    have z1 := zi_ne0 c1
    refine lv_aload_n hx hb dX3_take_7 rfl (lv_at hl 0 rfl) ?_
    refine lv_iconst (v := 0) hx hb dX3_take_8 (by decide) ?_
    refine lv_topi (fun v34 e34 => ?_)
    have z34 : v34.toInt = 0 := zi_c e34 (by decide)
    refine va_put (D := D) (ci := 2) (v := .int v34) (ty := .boolean) (C := RX3) (T := TX3) (N := 11) hx hb hts in_X3 tyX3 tyX3_ok nmX3 hown hK hP hD hS 0 rfl rfl 6 (by decide) (hts _ wk319) (fun _ h9 => h9) rfl (by decide +kernel) (zb_n (by omega)) (zb_f (by omega)) (Nat.le_of_ble_eq_true rfl) dX3_take_9 (fun H locs hP1 hD1 hS1 => ?_)
    clear hP hD hS
    have hP : va_P D classes [(aR, .inr (2, [.ref aB, .ref aQ, .int hd, .long pl, .int hv, .int lk, .int v34, .int ht, .int sl, .int br, .int wh])), (aB, .inr (3, [.long la])), (aQ, .inr (0, [.ref aT, .ref aP, .int gc])), (aT, .inl (cI, 300, .inl ft)), (aP, .inl (cJ, 300, .inr (.inl fp)))] H := hP1
    have hD : va_D A [(aR, .inr (2, [.ref aB, .ref aQ, .int hd, .long pl, .int hv, .int lk, .int v34, .int ht, .int sl, .int br, .int wh])), (aB, .inr (3, [.long la])), (aQ, .inr (0, [.ref aT, .ref aP, .int gc])), (aT, .inl (cI, 300, .inl ft)), (aP, .inl (cJ, 300, .inr (.inl fp)))] := hD1
    have hS := hS1
    clear hP1 hD1 hS1
    have hq35 : (gc.toInt ≤ gc.toInt ∧ gc.toInt ≤ gc.toInt + 1) ∧ (((0 ≤ lk.toInt ∧ lk.toInt ≤ 1) ∧ (0 ≤ v34.toInt ∧ v34.toInt ≤ 1) ∧ (0 ≤ ht.toInt ∧ ht.toInt ≤ 63) ∧ (0 ≤ br.toInt ∧ br.toInt ≤ 63) ∧ (0 ≤ wh.toInt ∧ wh.toInt ≤ 15) ∧ (sl.toInt ≤ sl.toInt ∧ sl.toInt ≤ sl.toInt + 1)) ∧ ((0 ≤ hv.toInt ∧ hv.toInt ≤ 65) ∧ (0 ≤ hd.toInt ∧ hd.toInt ≤ 3)) ∧ hdK hv.toInt hd.toInt) ∧ tkR b.toInt hd.toInt hv.toInt lk.toInt dn.toInt ht.toInt sl.toInt br.toInt wh.toInt gc.toInt hd.toInt hv.toInt lk.toInt v34.toInt ht.toInt sl.toInt br.toInt wh.toInt gc.toInt := ⟨by omega, ⟨by omega, by omega, h4⟩, tk_drop (by omega) (by omega)⟩
    exact hret (hd, pl, hv, lk, v34, ht, sl, br, wh, la, gc, ft, fp) _ _ _ _ dX3_take_12 hq35 (hP.sub [0, 1, 2, 3, 4] rfl) (hD.sub [0, 1, 2, 3, 4] (by decide) rfl) hS

set_option maxHeartbeats 4000000 in
set_option maxRecDepth 100000 in
theorem c_Gr_init (l : Launch) (D : va_G) (cI cJ cB : ClassId) (aQ : Nat)  :
    ctv l yX1_init (wsOf yX1_init cX1_init 1 none) (rmL 1 24 2 600) D classes (tys3 cI cJ cB) [.ref aQ] [(aQ, .inr (0, [.null, .null, .int 0]))] (fun u : Nat × Nat => True) (fun u : Nat × Nat => ([(aQ, .inr (0, [.ref u.1, .ref u.2, .int 0])), (u.1, .inl (cI, 300, .inl (fun _ => 0))), (u.2, .inl (cJ, 300, .inr (.inl (fun _ => 0))))] : va_W)) 2 600 := by
  refine ctv.of (by first | exact plainFor_of_name (by decide) | decide +kernel) (Nat.le_of_ble_eq_true rfl) (fun p e s m args below meth c A ls Q h hret => ?_)
  obtain ⟨hx, hb, hml, hown, hts, hnm, hP, hK, hD, hA, hS, hZ, hN, hl⟩ := h
  have hown : s.vm.findClass RX1 = some m.cls := hown
  have hl : lv_has ls 1 [(0, .ref aQ)] := hl
  have hP : va_P D classes [(aQ, .inr (0, [.null, .null, .int 0]))] s.heap := hP
  have hD : va_D A [(aQ, .inr (0, [.null, .null, .int 0]))] := hD
  refine lv_aload_n hx hb dX1_init_0 rfl (lv_at hl 0 rfl) ?_
  refine W.objInit hx hb hown (hts _ wk53) (hts _ wk11) (hts _ wk12) rfl (by rw [hml]; exact hl.1) rfl dX1_init_1 (Nat.le_of_ble_eq_true rfl) (Nat.le_of_ble_eq_true rfl) ?_
  refine W.eq (g2 := F0 m 4 ls []) rfl ?_
  refine lv_aload_n hx hb dX1_init_4 rfl (lv_at hl 0 rfl) ?_
  refine lv_sipush (v := 300) hx hb dX1_init_5 (by decide) ?_
  refine lv_topi (fun v1 e1 => ?_)
  have z1 : v1.toInt = 300 := zi_c e1 (by decide)
  refine va_newa (a0 := (300, .inl (fun _ => 0))) (atype := .int) (ty := .int) hx hb (hts _ wk37) rfl hK hP hD hS hA (fun _ => rfl) (by rw [e1]; decide) (by rw [e1]; decide) (by decide) (Nat.le_of_ble_eq_true rfl) (Nat.le_of_ble_eq_true rfl) dX1_init_8 (fun q2 cN H hK9 hP1 hD1 hS1 => ?_)
  have hcN : cN = cI := ty3_eq 0 3 hK9 rfl rfl rfl rfl
  rw [hcN] at hP1 hD1
  clear hK9
  clear hP hD hS
  have hP : va_P D classes [(aQ, .inr (0, [.null, .null, .int 0])), (q2, .inl (cI, 300, .inl (fun _ => 0)))] H := hP1
  have hD : va_D A [(aQ, .inr (0, [.null, .null, .int 0])), (q2, .inl (cI, 300, .inl (fun _ => 0)))] := hD1
  have hS := hS1
  clear hP1 hD1 hS1
  refine W.widen (k := 1) (n := 300) (Nat.le_refl _) (Nat.le_refl _) ?_
  refine va_putF (D := D) (ci := 0) (v := .ref q2) (ty := (.array .int)) (C := RX1) (T := TX1) (N := 3) hx hb hts in_X1 tyX1 tyX1_ok nmX1 hown hK hP hD hS 0 rfl rfl 0 (by decide) (hts _ wk54) (fun _ h9 => h9) rfl hnm rfl (by decide +kernel) rfl rfl (Nat.le_of_ble_eq_true rfl) dX1_init_10 (fun H locs hP1 hD1 hS1 => ?_)
  clear hP hD hS
  have hP : va_P D classes [(aQ, .inr (0, [.ref q2, .null, .int 0])), (q2, .inl (cI, 300, .inl (fun _ => 0)))] H := hP1
  have hD : va_D A [(aQ, .inr (0, [.ref q2, .null, .int 0])), (q2, .inl (cI, 300, .inl (fun _ => 0)))] := hD1
  have hS := hS1
  clear hP1 hD1 hS1
  refine lv_aload_n hx hb dX1_init_13 rfl (lv_at hl 0 rfl) ?_
  refine lv_sipush (v := 300) hx hb dX1_init_14 (by decide) ?_
  refine lv_topi (fun v3 e3 => ?_)
  have z3 : v3.toInt = 300 := zi_c e3 (by decide)
  refine va_newa (a0 := (300, .inr (.inl (fun _ => 0)))) (atype := .long) (ty := .long) hx hb (hts _ wk28) rfl hK hP hD hS hA (fun _ => rfl) (by rw [e3]; decide) (by rw [e3]; decide) (by decide) (Nat.le_of_ble_eq_true rfl) (Nat.le_of_ble_eq_true rfl) dX1_init_17 (fun q4 cN H hK9 hP1 hD1 hS1 => ?_)
  have hcN : cN = cJ := ty3_eq 1 3 hK9 rfl rfl rfl rfl
  rw [hcN] at hP1 hD1
  clear hK9
  clear hP hD hS
  have hP : va_P D classes [(aQ, .inr (0, [.ref q2, .null, .int 0])), (q2, .inl (cI, 300, .inl (fun _ => 0))), (q4, .inl (cJ, 300, .inr (.inl (fun _ => 0))))] H := hP1
  have hD : va_D A [(aQ, .inr (0, [.ref q2, .null, .int 0])), (q2, .inl (cI, 300, .inl (fun _ => 0))), (q4, .inl (cJ, 300, .inr (.inl (fun _ => 0))))] := hD1
  have hS := hS1
  clear hP1 hD1 hS1
  refine W.widen (k := 2) (n := 600) (Nat.le_refl _) (Nat.le_refl _) ?_
  refine va_putF (D := D) (ci := 0) (v := .ref q4) (ty := (.array .long)) (C := RX1) (T := TX1) (N := 3) hx hb hts in_X1 tyX1 tyX1_ok nmX1 hown hK hP hD hS 0 rfl rfl 1 (by decide) (hts _ wk55) (fun _ h9 => h9) rfl hnm rfl (by decide +kernel) rfl rfl (Nat.le_of_ble_eq_true rfl) dX1_init_19 (fun H locs hP1 hD1 hS1 => ?_)
  clear hP hD hS
  have hP : va_P D classes [(aQ, .inr (0, [.ref q2, .ref q4, .int 0])), (q2, .inl (cI, 300, .inl (fun _ => 0))), (q4, .inl (cJ, 300, .inr (.inl (fun _ => 0))))] H := hP1
  have hD : va_D A [(aQ, .inr (0, [.ref q2, .ref q4, .int 0])), (q2, .inl (cI, 300, .inl (fun _ => 0))), (q4, .inl (cJ, 300, .inr (.inl (fun _ => 0))))] := hD1
  have hS := hS1
  clear hP1 hD1 hS1
  exact hret (q2, q4) _ _ _ _ dX1_init_22 trivial (hP.sub [0, 1, 2] rfl) (hD.sub [0, 1, 2] (by decide) rfl) hS

set_option maxHeartbeats 4000000 in
set_option maxRecDepth 100000 in
theorem c_Re_init (l : Launch) (D : va_G) (cI cJ cB : ClassId) (aR : Nat)  :
    ctv l yX3_init (wsOf yX3_init cX3_init 1 none) (rmL 2 44 4 604) D classes (tys3 cI cJ cB) [.ref aR] [(aR, .inr (2, [.null, .null, .int 0, .long 0, .int 0, .int 0, .int 0, .int 0, .int 0, .int 0, .int 0]))] (fun u : Nat × Nat × Nat × Nat => True) (fun u : Nat × Nat × Nat × Nat => ([(aR, .inr (2, [.ref u.1, .ref u.2.1, .int 0, .long 0, .int 0, .int 0, .int 0, .int 0, .int 0, .int 0, .int 0])), (u.1, .inr (3, [.long 0])), (u.2.1, .inr (0, [.ref u.2.2.1, .ref u.2.2.2, .int 0])), (u.2.2.1, .inl (cI, 300, .inl (fun _ => 0))), (u.2.2.2, .inl (cJ, 300, .inr (.inl (fun _ => 0))))] : va_W)) 4 604 := by
  refine ctv.of (by first | exact plainFor_of_name (by decide) | decide +kernel) (Nat.le_of_ble_eq_true rfl) (fun p e s m args below meth c A ls Q h hret => ?_)
  obtain ⟨hx, hb, hml, hown, hts, hnm, hP, hK, hD, hA, hS, hZ, hN, hl⟩ := h
  have hown : s.vm.findClass RX3 = some m.cls := hown
  have hl : lv_has ls 1 [(0, .ref aR)] := hl
  have hP : va_P D classes [(aR, .inr (2, [.null, .null, .int 0, .long 0, .int 0, .int 0, .int 0, .int 0, .int 0, .int 0, .int 0]))] s.heap := hP
  have hD : va_D A [(aR, .inr (2, [.null, .null, .int 0, .long 0, .int 0, .int 0, .int 0, .int 0, .int 0, .int 0, .int 0]))] := hD
  refine lv_aload_n hx hb dX3_init_0 rfl (lv_at hl 0 rfl) ?_
  refine W.objInit hx hb hown (hts _ wk44) (hts _ wk11) (hts _ wk12) rfl (by rw [hml]; exact hl.1) rfl dX3_init_1 (Nat.le_of_ble_eq_true rfl) (Nat.le_of_ble_eq_true rfl) ?_
  refine W.eq (g2 := F0 m 4 ls []) rfl ?_
  refine lv_aload_n hx hb dX3_init_4 rfl (lv_at hl 0 rfl) ?_
  refine va_new (ci := 3) (fs := [.long 0]) (C := RX4) (T := TX4) (N := 1) hx hb hts in_X4 tyX4 tyX4_ok hown (hts _ wk45) (hts _ wk34) (hts _ wk35) hK hP hD hS hA rfl (fun j hj => by rcases (show j = 0 by omega) with rfl <;> rfl) (Nat.le_of_ble_eq_true rfl) (Nat.le_of_ble_eq_true rfl) dX3_init_5 (fun q1 H hP1 hD1 hS1 => ?_)
  clear hP hD hS
  have hP : va_P D classes [(aR, .inr (2, [.null, .null, .int 0, .long 0, .int 0, .int 0, .int 0, .int 0, .int 0, .int 0, .int 0])), (q1, .inr (3, [.long 0]))] H := hP1
  have hD : va_D A [(aR, .inr (2, [.null, .null, .int 0, .long 0, .int 0, .int 0, .int 0, .int 0, .int 0, .int 0, .int 0])), (q1, .inr (3, [.long 0]))] := hD1
  have hS := hS1
  clear hP1 hD1 hS1
  refine W.widen (k := 1) (n := 1) (Nat.le_refl _) (Nat.le_refl _) ?_
  refine lv_dup hx hb dX3_init_8 rfl ?_
  refine call_v (wc := [(q1, .inr (3, [.long 0]))]) (wr := [(aR, .inr (2, [.null, .null, .int 0, .long 0, .int 0, .int 0, .int 0, .int 0, .int 0, .int 0, .int 0]))]) (run_N (As := []) (rest := [.ref q1, .ref aR]) kn_RX3_11 hN ⟨by decide, by decide⟩ ⟨rfl, rfl⟩ ⟨hx, hb, hml, hown, hts⟩ (c_Sc_init l D cI cJ cB q1  _) ct_blind (ct_pre (wc := [(q1, .inr (3, [.long 0]))]) hK hP hD hS hA hZ hN [1] (by decide) rfl rfl) rfl hl.1 rfl (Nat.le_of_ble_eq_true rfl) dX3_init_9 ⟨Nat.le_of_ble_eq_true rfl, Nat.le_of_ble_eq_true rfl⟩) hP hD hS hA [1] [0] rfl rfl (by decide) (by decide) (fun u H locs hw2 hP1 hD1 hS1 => ?_)
  clear hw2
  clear hP hD hS
  have hP : va_P D classes [(aR, .inr (2, [.null, .null, .int 0, .long 0, .int 0, .int 0, .int 0, .int 0, .int 0, .int 0, .int 0])), (q1, .inr (3, [.long 0]))] H := hP1
  have hD : va_D A [(aR, .inr (2, [.null, .null, .int 0, .long 0, .int 0, .int 0, .int 0, .int 0, .int 0, .int 0, .int 0])), (q1, .inr (3, [.long 0]))] := hD1
  have hS := hS1
  clear hP1 hD1 hS1
  refine va_putF (D := D) (ci := 2) (v := .ref q1) (ty := (.object "LineBlocks$Scrambler")) (C := RX3) (T := TX3) (N := 11) hx hb hts in_X3 tyX3 tyX3_ok nmX3 hown hK hP hD hS 0 rfl rfl 0 (by decide) (hts _ wk46) (fun _ h9 => h9) rfl hnm rfl (by decide +kernel) rfl rfl (Nat.le_of_ble_eq_true rfl) dX3_init_12 (fun H locs hP1 hD1 hS1 => ?_)
  clear hP hD hS
  have hP : va_P D classes [(aR, .inr (2, [.ref q1, .null, .int 0, .long 0, .int 0, .int 0, .int 0, .int 0, .int 0, .int 0, .int 0])), (q1, .inr (3, [.long 0]))] H := hP1
  have hD : va_D A [(aR, .inr (2, [.ref q1, .null, .int 0, .long 0, .int 0, .int 0, .int 0, .int 0, .int 0, .int 0, .int 0])), (q1, .inr (3, [.long 0]))] := hD1
  have hS := hS1
  clear hP1 hD1 hS1
  refine lv_aload_n hx hb dX3_init_15 rfl (lv_at hl 0 rfl) ?_
  refine va_new (ci := 0) (fs := [.null, .null, .int 0]) (C := RX1) (T := TX1) (N := 3) hx hb hts in_X1 tyX1 tyX1_ok hown (hts _ wk47) (hts _ wk48) (hts _ wk49) hK hP hD hS hA rfl (fun j hj => by rcases (show j = 0 ∨ j = 1 ∨ j = 2 by omega) with rfl | rfl | rfl <;> rfl) (Nat.le_of_ble_eq_true rfl) (Nat.le_of_ble_eq_true rfl) dX3_init_16 (fun q3 H hP1 hD1 hS1 => ?_)
  clear hP hD hS
  have hP : va_P D classes [(aR, .inr (2, [.ref q1, .null, .int 0, .long 0, .int 0, .int 0, .int 0, .int 0, .int 0, .int 0, .int 0])), (q1, .inr (3, [.long 0])), (q3, .inr (0, [.null, .null, .int 0]))] H := hP1
  have hD : va_D A [(aR, .inr (2, [.ref q1, .null, .int 0, .long 0, .int 0, .int 0, .int 0, .int 0, .int 0, .int 0, .int 0])), (q1, .inr (3, [.long 0])), (q3, .inr (0, [.null, .null, .int 0]))] := hD1
  have hS := hS1
  clear hP1 hD1 hS1
  refine W.widen (k := 2) (n := 4) (Nat.le_refl _) (Nat.le_refl _) ?_
  refine lv_dup hx hb dX3_init_19 rfl ?_
  refine call_v (wc := [(q3, .inr (0, [.null, .null, .int 0]))]) (wr := [(aR, .inr (2, [.ref q1, .null, .int 0, .long 0, .int 0, .int 0, .int 0, .int 0, .int 0, .int 0, .int 0])), (q1, .inr (3, [.long 0]))]) (run_N (As := []) (rest := [.ref q3, .ref aR]) kn_RX3_20 hN ⟨by decide, by decide⟩ ⟨rfl, rfl⟩ ⟨hx, hb, hml, hown, hts⟩ (c_Gr_init l D cI cJ cB q3  _) ct_blind (ct_pre (wc := [(q3, .inr (0, [.null, .null, .int 0]))]) hK hP hD hS hA hZ hN [2] (by decide) rfl rfl) rfl hl.1 rfl (Nat.le_of_ble_eq_true rfl) dX3_init_20 ⟨Nat.le_of_ble_eq_true rfl, Nat.le_of_ble_eq_true rfl⟩) hP hD hS hA [2] [0, 1] rfl rfl (by decide) (by decide) (fun u H locs hw4 hP1 hD1 hS1 => ?_)
  obtain ⟨aT_4, aP_4⟩ := u
  clear hw4
  clear hP hD hS
  have hP : va_P D classes [(aR, .inr (2, [.ref q1, .null, .int 0, .long 0, .int 0, .int 0, .int 0, .int 0, .int 0, .int 0, .int 0])), (q1, .inr (3, [.long 0])), (q3, .inr (0, [.ref aT_4, .ref aP_4, .int 0])), (aT_4, .inl (cI, 300, .inl (fun _ => 0))), (aP_4, .inl (cJ, 300, .inr (.inl (fun _ => 0))))] H := hP1
  have hD : va_D A [(aR, .inr (2, [.ref q1, .null, .int 0, .long 0, .int 0, .int 0, .int 0, .int 0, .int 0, .int 0, .int 0])), (q1, .inr (3, [.long 0])), (q3, .inr (0, [.ref aT_4, .ref aP_4, .int 0])), (aT_4, .inl (cI, 300, .inl (fun _ => 0))), (aP_4, .inl (cJ, 300, .inr (.inl (fun _ => 0))))] := hD1
  have hS := hS1
  clear hP1 hD1 hS1
  refine W.widen (k := 4) (n := 604) (Nat.le_refl _) (Nat.le_refl _) ?_
  refine va_putF (D := D) (ci := 2) (v := .ref q3) (ty := (.object "LineBlocks$Groups")) (C := RX3) (T := TX3) (N := 11) hx hb hts in_X3 tyX3 tyX3_ok nmX3 hown hK hP hD hS 0 rfl rfl 1 (by decide) (hts _ wk50) (fun _ h9 => h9) rfl hnm rfl (by decide +kernel) rfl rfl (Nat.le_of_ble_eq_true rfl) dX3_init_23 (fun H locs hP1 hD1 hS1 => ?_)
  clear hP hD hS
  have hP : va_P D classes [(aR, .inr (2, [.ref q1, .ref q3, .int 0, .long 0, .int 0, .int 0, .int 0, .int 0, .int 0, .int 0, .int 0])), (q1, .inr (3, [.long 0])), (q3, .inr (0, [.ref aT_4, .ref aP_4, .int 0])), (aT_4, .inl (cI, 300, .inl (fun _ => 0))), (aP_4, .inl (cJ, 300, .inr (.inl (fun _ => 0))))] H := hP1
  have hD : va_D A [(aR, .inr (2, [.ref q1, .ref q3, .int 0, .long 0, .int 0, .int 0, .int 0, .int 0, .int 0, .int 0, .int 0])), (q1, .inr (3, [.long 0])), (q3, .inr (0, [.ref aT_4, .ref aP_4, .int 0])), (aT_4, .inl (cI, 300, .inl (fun _ => 0))), (aP_4, .inl (cJ, 300, .inr (.inl (fun _ => 0))))] := hD1
  have hS := hS1
  clear hP1 hD1 hS1
  exact hret (q1, q3, aT_4, aP_4) _ _ _ _ dX3_init_26 trivial (hP.sub [0, 1, 2, 3, 4] rfl) (hD.sub [0, 1, 2, 3, 4] (by decide) rfl) hS
