set_option maxHeartbeats 4000000 in
set_option maxRecDepth 100000 in
theorem c_Co_isData (l : Launch) (D : va_G) (cI cJ cB : ClassId) (x : Int32)  :
    cti l yX0_isData (wsOf yX0_isData cX0_isData 1 (some .boolean)) (rmL 0 0 0 0) D classes (tys3 cI cJ cB) [.int x] [] (fun (r : Int32) (u : Unit) => 0 ≤ r.toInt ∧ r.toInt ≤ 1) (fun u : Unit => ([] : va_W)) := by
  refine ctz.of (by first | exact plainFor_of_name (by decide) | decide +kernel) (Nat.le_of_ble_eq_true rfl) (fun p e s m args below meth c A ls Q h hret => ?_)
  obtain ⟨hx, hb, hml, hown, hts, hnm, hP, hK, hD, hA, hS, hZ, hN, hl⟩ := h
  have hown : s.vm.findClass RX0 = some m.cls := hown
  have hl : lv_has ls 1 [(0, .int x)] := hl
  have hP : va_P D classes [] s.heap := hP
  have hD : va_D A [] := hD
  have rg_x := zi_rg x
  refine lv_iload_n hx hb dX0_isData_0 rfl (lv_at hl 0 rfl) ?_
  refine lv_sipush (v := 256) hx hb dX0_isData_1 (by decide) ?_
  refine lv_topi (fun v1 e1 => ?_)
  have z1 : v1.toInt = 256 := zi_c e1 (by decide)
  refine lv_icmp_ge (tgt := 11) hx hb dX0_isData_4 (by decide) (fun c2 => ?_) (fun c2 => ?_)
  ·
    have z2 := zi_le c2
    refine lv_iconst (v := 0) hx hb dX0_isData_11 (by decide) ?_
    refine lv_topi (fun v3 e3 => ?_)
    have z3 : v3.toInt = 0 := zi_c e3 (by decide)
    have hq4 : 0 ≤ v3.toInt ∧ v3.toInt ≤ 1 := (by omega)
    exact hret v3 () _ _ _ _ dX0_isData_12 (zb_n (by omega)) hq4 (hP.sub [] rfl) (hD.sub [] (by decide) rfl) hS
  ·
    have z2 := zi_nle c2
    refine lv_iconst (v := 1) hx hb dX0_isData_7 (by decide) ?_
    refine lv_topi (fun v5 e5 => ?_)
    have z5 : v5.toInt = 1 := zi_c e5 (by decide)
    refine lv_goto (tgt := 12) hx hb dX0_isData_8 (by decide) ?_
    have hq6 : 0 ≤ v5.toInt ∧ v5.toInt ≤ 1 := (by omega)
    exact hret v5 () _ _ _ _ dX0_isData_12 (zb_n (by omega)) hq6 (hP.sub [] rfl) (hD.sub [] (by decide) rfl) hS

set_option maxHeartbeats 4000000 in
set_option maxRecDepth 100000 in
theorem c_Co_codeShift (l : Launch) (D : va_G) (cI cJ cB : ClassId) (x : Int32)  :
    cti l yX0_codeShift (wsOf yX0_codeShift cX0_codeShift 1 (some .int)) (rmL 0 0 0 0) D classes (tys3 cI cJ cB) [.int x] [] (fun (r : Int32) (u : Unit) => True) (fun u : Unit => ([] : va_W)) := by
  refine cti.of (by first | exact plainFor_of_name (by decide) | decide +kernel) (Nat.le_of_ble_eq_true rfl) (fun p e s m args below meth c A ls Q h hret => ?_)
  obtain ⟨hx, hb, hml, hown, hts, hnm, hP, hK, hD, hA, hS, hZ, hN, hl⟩ := h
  have hown : s.vm.findClass RX0 = some m.cls := hown
  have hl : lv_has ls 1 [(0, .int x)] := hl
  have hP : va_P D classes [] s.heap := hP
  have hD : va_D A [] := hD
  have rg_x := zi_rg x
  refine lv_bipush (v := 8) hx hb dX0_codeShift_0 (by decide) ?_
  refine lv_topi (fun v1 e1 => ?_)
  have z1 : v1.toInt = 8 := zi_c e1 (by decide)
  refine lv_iload_n hx hb dX0_codeShift_2 rfl (lv_at hl 0 rfl) ?_
  refine lv_bipush (v := 7) hx hb dX0_codeShift_3 (by decide) ?_
  refine lv_topi (fun v2 e2 => ?_)
  have z2 : v2.toInt = 7 := zi_c e2 (by decide)
  refine lv_imul hx hb dX0_codeShift_5 ?_
  refine lv_topi (fun v3 e3 => ?_)
  first | have z3 := zi_mul (k := 7) e3 (by omega) (by omega) | skip
  refine lv_iadd hx hb dX0_codeShift_6 ?_
  refine lv_topi (fun v4 e4 => ?_)
  first | have z4 := zi_add e4 (by omega) | skip
  exact hret v4 () _ _ _ _ dX0_codeShift_7 trivial (hP.sub [] rfl) (hD.sub [] (by decide) rfl) hS

set_option maxHeartbeats 4000000 in
set_option maxRecDepth 100000 in
theorem c_Co_endPlace (l : Launch) (D : va_G) (cI cJ cB : ClassId) (ty : Int32)  :
    cti l yX0_endPlace (wsOf yX0_endPlace cX0_endPlace 2 (some .int)) (rmL 0 0 0 0) D classes (tys3 cI cJ cB) [.int ty] [] (fun (r : Int32) (u : Unit) => True) (fun u : Unit => ([] : va_W)) := by
  refine cti.of (by first | exact plainFor_of_name (by decide) | decide +kernel) (Nat.le_of_ble_eq_true rfl) (fun p e s m args below meth c A ls Q h hret => ?_)
  obtain ⟨hx, hb, hml, hown, hts, hnm, hP, hK, hD, hA, hS, hZ, hN, hl⟩ := h
  have hown : s.vm.findClass RX0 = some m.cls := hown
  have hl : lv_has ls 2 [(0, .int ty)] := hl
  obtain ⟨tE, hZ1, hT1⟩ := id hZ
  have hP : va_P D classes [] s.heap := hP
  have hD : va_D A [] := hD
  have rg_ty := zi_rg ty
  refine lv_iconst (v := 0) hx hb dX0_endPlace_0 (by decide) ?_
  refine lv_topi (fun v1 e1 => ?_)
  have z1 : v1.toInt = 0 := zi_c e1 (by decide)
  refine lv_istore_n (lv' := [(1, .int v1), (0, .int ty)]) hx hb dX0_endPlace_1 rfl hl (by decide) rfl (fun ls hl => ?_)
  have J2 : ∀ (n : Nat) (k : Int32) (H : Heap) (locs : List Loc) (ls : Array Slot), ((8 - k.toInt).toNat) < n → (0 ≤ k.toInt ∧ k.toInt ≤ 8) → va_P D classes [] H → va_D A [] → va_S A s.heap H locs → lv_has ls 2 [(0, .int ty), (1, .int k)] → W p l e (rmL 0 0 0 0) s m args below meth c H locs 0 0 Q (F0 m 2 ls []) := by
    intro n
    induction n with
    | zero => intro k H locs ls hmu; exact absurd hmu (Nat.not_lt_zero _)
    | succ n ih2 =>
      intro k H locs ls hmu2 i2_0 hP hD hS hl
      have rg_k := zi_rg k
      refine lv_iload_n hx hb dX0_endPlace_2 rfl (lv_at hl 1 rfl) ?_
      refine va_gets hx hb hZ1 hS hown (hts _ wk94) (fun _ h9 => h9) dX0_endPlace_3 ?_
      refine va_tlen hx hb hT1 hS (v := 8) rfl dX0_endPlace_6 ?_
      refine lv_topi (fun v2 e2 => ?_)
      have z2 : v2.toInt = 8 := zi_c e2 (by decide)
      refine lv_icmp_ge (tgt := 27) hx hb dX0_endPlace_7 (by decide) (fun c3 => ?_) (fun c3 => ?_)
      ·
        have z3 := zi_le c3
        refine lv_iconst (v := -1) hx hb dX0_endPlace_27 (by decide) ?_
        refine lv_topi (fun v4 e4 => ?_)
        have z4 : v4.toInt = (-1) := zi_c e4 (by decide)
        exact hret v4 () _ _ _ _ dX0_endPlace_28 trivial (hP.sub [] rfl) (hD.sub [] (by decide) rfl) hS
      ·
        have z3 := zi_nle c3
        refine va_gets hx hb hZ1 hS hown (hts _ wk94) (fun _ h9 => h9) dX0_endPlace_10 ?_
        refine lv_iload_n hx hb dX0_endPlace_13 rfl (lv_at hl 1 rfl) ?_
        refine va_ti hx hb hT1 hS (zi_in (by omega)) rfl dX0_endPlace_14 ?_
        refine lv_topi (fun v6 e6 => ?_)
        refine lv_iload_n hx hb dX0_endPlace_15 rfl (lv_at hl 0 rfl) ?_
        refine lv_icmp_ne (tgt := 21) hx hb dX0_endPlace_16 (by decide) (fun c7 => ?_) (fun c7 => ?_)
        ·
          have z7 := zi_ne c7
          obtain ⟨v8, e8⟩ : ∃ y : Int32, y = k + 1 := ⟨_, rfl⟩
          first | have z8 := zi_inc (z := 1) 1 (by decide) e8 (by omega) | skip
          refine lv_iinc (v := v8) (lv' := [(1, .int v8), (0, .int ty)]) hx hb dX0_endPlace_21 hl (k := 1) rfl (by rw [e8]; rfl) (by decide) rfl (fun ls hl => ?_)
          refine lv_goto (tgt := 2) hx hb dX0_endPlace_24 (by decide) ?_
          exact ih2 v8 _ _ _ (by omega) (by omega) (hP.sub [] rfl) (hD.sub [] (by decide) rfl) hS (lv_sub hl [1, 0] rfl)
        ·
          have z7 := zi_eq c7
          refine lv_iload_n hx hb dX0_endPlace_19 rfl (lv_at hl 1 rfl) ?_
          exact hret k () _ _ _ _ dX0_endPlace_20 trivial (hP.sub [] rfl) (hD.sub [] (by decide) rfl) hS
  exact J2 _ v1 _ _ _ (Nat.lt_succ_self _) (by omega) (hP.sub [] rfl) (hD.sub [] (by decide) rfl) hS (lv_sub hl [1, 0] rfl)

set_option maxHeartbeats 4000000 in
set_option maxRecDepth 100000 in
theorem c_Co_dataShift (l : Launch) (D : va_G) (cI cJ cB : ClassId) (ty : Int32) (x : Int32)  :
    cti l yX0_dataShift (wsOf yX0_dataShift cX0_dataShift 2 (some .int)) (rmL 1 21 0 0) D classes (tys3 cI cJ cB) [.int ty, .int x] [] (fun (r : Int32) (u : Unit) => True) (fun u : Unit => ([] : va_W)) := by
  refine cti.of (by first | exact plainFor_of_name (by decide) | decide +kernel) (Nat.le_of_ble_eq_true rfl) (fun p e s m args below meth c A ls Q h hret => ?_)
  obtain ⟨hx, hb, hml, hown, hts, hnm, hP, hK, hD, hA, hS, hZ, hN, hl⟩ := h
  have hown : s.vm.findClass RX0 = some m.cls := hown
  have hl : lv_has ls 2 [(0, .int ty), (1, .int x)] := hl
  have hP : va_P D classes [] s.heap := hP
  have hD : va_D A [] := hD
  have rg_ty := zi_rg ty
  have rg_x := zi_rg x
  refine lv_iload_n hx hb dX0_dataShift_0 rfl (lv_at hl 0 rfl) ?_
  refine call_i (wc := []) (wr := []) (run_S (As := [.int ty]) (rest := []) ks_RX0_31 ⟨by decide, by decide⟩ ⟨rfl, rfl⟩ ⟨hx, hb, hml, hown, hts⟩ (c_Co_endPlace l D cI cJ cB ty  _) ct_blind (ct_pre (wc := []) hK hP hD hS hA hZ hN [] (by decide) rfl rfl) rfl hl.1 rfl (Nat.le_of_ble_eq_true rfl) dX0_dataShift_1 ⟨Nat.le_of_ble_eq_true rfl, Nat.le_of_ble_eq_true rfl⟩) hP hD hS hA [] [] rfl rfl (by decide) (by decide) (fun r1 u H locs hw1 hP1 hD1 hS1 => ?_)
  clear hw1
  clear hP hD hS
  have hP : va_P D classes [] H := hP1
  have hD : va_D A [] := hD1
  have hS := hS1
  clear hP1 hD1 hS1
  have rg_r1 := zi_rg r1
  refine lv_iconst (v := -1) hx hb dX0_dataShift_4 (by decide) ?_
  refine lv_topi (fun v2 e2 => ?_)
  have z2 : v2.toInt = (-1) := zi_c e2 (by decide)
  refine lv_icmp_ne (tgt := 15) hx hb dX0_dataShift_5 (by decide) (fun c3 => ?_) (fun c3 => ?_)
  ·
    have z3 := zi_ne c3
    refine lv_bipush (v := 8) hx hb dX0_dataShift_15 (by decide) ?_
    refine lv_topi (fun v4 e4 => ?_)
    have z4 : v4.toInt = 8 := zi_c e4 (by decide)
    refine lv_iload_n hx hb dX0_dataShift_17 rfl (lv_at hl 1 rfl) ?_
    refine lv_bipush (v := 8) hx hb dX0_dataShift_18 (by decide) ?_
    refine lv_topi (fun v5 e5 => ?_)
    have z5 : v5.toInt = 8 := zi_c e5 (by decide)
    refine lv_imul hx hb dX0_dataShift_20 ?_
    refine lv_topi (fun v6 e6 => ?_)
    first | have z6 := zi_mul (k := 8) e6 (by omega) (by omega) | skip
    refine lv_iadd hx hb dX0_dataShift_21 ?_
    refine lv_topi (fun v7 e7 => ?_)
    first | have z7 := zi_add e7 (by omega) | skip
    exact hret v7 () _ _ _ _ dX0_dataShift_22 trivial (hP.sub [] rfl) (hD.sub [] (by decide) rfl) hS
  ·
    have z3 := zi_eq c3
    refine lv_iload_n hx hb dX0_dataShift_8 rfl (lv_at hl 1 rfl) ?_
    refine lv_bipush (v := 8) hx hb dX0_dataShift_9 (by decide) ?_
    refine lv_topi (fun v9 e9 => ?_)
    have z9 : v9.toInt = 8 := zi_c e9 (by decide)
    refine lv_imul hx hb dX0_dataShift_11 ?_
    refine lv_topi (fun v10 e10 => ?_)
    first | have z10 := zi_mul (k := 8) e10 (by omega) (by omega) | skip
    refine lv_goto (tgt := 22) hx hb dX0_dataShift_12 (by decide) ?_
    exact hret v10 () _ _ _ _ dX0_dataShift_22 trivial (hP.sub [] rfl) (hD.sub [] (by decide) rfl) hS

set_option maxHeartbeats 4000000 in
set_option maxRecDepth 100000 in
theorem c_Co_leadingData (l : Launch) (D : va_G) (cI cJ cB : ClassId) (aG : Nat) (fg : Nat → Int32)  :
    cti l yX0_leadingData (wsOf yX0_leadingData cX0_leadingData 2 (some .int)) (rmL 1 20 0 0) D classes (tys3 cI cJ cB) [.ref aG] [(aG, .inl (cI, 8, .inl fg))] (fun (r : Int32) (u : Unit) => 0 ≤ r.toInt ∧ r.toInt ≤ 8) (fun u : Unit => ([(aG, .inl (cI, 8, .inl fg))] : va_W)) := by
  refine cti.of (by first | exact plainFor_of_name (by decide) | decide +kernel) (Nat.le_of_ble_eq_true rfl) (fun p e s m args below meth c A ls Q h hret => ?_)
  obtain ⟨hx, hb, hml, hown, hts, hnm, hP, hK, hD, hA, hS, hZ, hN, hl⟩ := h
  have hown : s.vm.findClass RX0 = some m.cls := hown
  have hl : lv_has ls 2 [(0, .ref aG)] := hl
  have hP : va_P D classes [(aG, .inl (cI, 8, .inl fg))] s.heap := hP
  have hD : va_D A [(aG, .inl (cI, 8, .inl fg))] := hD
  refine lv_iconst (v := 0) hx hb dX0_leadingData_0 (by decide) ?_
  refine lv_topi (fun v1 e1 => ?_)
  have z1 : v1.toInt = 0 := zi_c e1 (by decide)
  refine lv_istore_n (lv' := [(1, .int v1), (0, .ref aG)]) hx hb dX0_leadingData_1 rfl hl (by decide) rfl (fun ls hl => ?_)
  have J2 : ∀ (n : Nat) (k : Int32) (H : Heap) (locs : List Loc) (ls : Array Slot), ((8 - k.toInt).toNat) < n → (0 ≤ k.toInt ∧ k.toInt ≤ 8) → va_P D classes [(aG, .inl (cI, 8, .inl fg))] H → va_D A [(aG, .inl (cI, 8, .inl fg))] → va_S A s.heap H locs → lv_has ls 2 [(0, .ref aG), (1, .int k)] → W p l e (rmL 1 20 0 0) s m args below meth c H locs 0 0 Q (F0 m 2 ls []) := by
    intro n
    induction n with
    | zero => intro k H locs ls hmu; exact absurd hmu (Nat.not_lt_zero _)
    | succ n ih2 =>
      intro k H locs ls hmu2 i2_0 hP hD hS hl
      have rg_k := zi_rg k
      refine lv_iload_n hx hb dX0_leadingData_2 rfl (lv_at hl 1 rfl) ?_
      refine lv_bipush (v := 8) hx hb dX0_leadingData_3 (by decide) ?_
      refine lv_topi (fun v2 e2 => ?_)
      have z2 : v2.toInt = 8 := zi_c e2 (by decide)
      refine lv_icmp_ge (tgt := 23) hx hb dX0_leadingData_5 (by decide) (fun c3 => ?_) (fun c3 => ?_)
      ·
        have z3 := zi_le c3
        refine lv_iload_n hx hb dX0_leadingData_23 rfl (lv_at hl 1 rfl) ?_
        have hq4 : 0 ≤ k.toInt ∧ k.toInt ≤ 8 := (by omega)
        exact hret k () _ _ _ _ dX0_leadingData_24 hq4 (hP.sub [0] rfl) (hD.sub [0] (by decide) rfl) hS
      ·
        have z3 := zi_nle c3
        refine lv_aload_n hx hb dX0_leadingData_8 rfl (lv_at hl 0 rfl) ?_
        refine lv_iload_n hx hb dX0_leadingData_9 rfl (lv_at hl 1 rfl) ?_
        refine va_iald hx hb hK hP 0 0 rfl rfl (zi_in (by omega)) dX0_leadingData_10 ?_
        refine lv_topi (fun v5 e5 => ?_)
        refine call_i (wc := []) (wr := [(aG, .inl (cI, 8, .inl fg))]) (run_S (As := [.int v5]) (rest := []) ks_RX0_57 ⟨by decide, by decide⟩ ⟨rfl, rfl⟩ ⟨hx, hb, hml, hown, hts⟩ (c_Co_isData l D cI cJ cB v5  _) ct_blind (ct_pre (wc := []) hK hP hD hS hA hZ hN [] (by decide) rfl rfl) rfl hl.1 rfl (Nat.le_of_ble_eq_true rfl) dX0_leadingData_11 ⟨Nat.le_of_ble_eq_true rfl, Nat.le_of_ble_eq_true rfl⟩) hP hD hS hA [] [0] rfl rfl (by decide) (by decide) (fun r6 u H locs hw6 hP1 hD1 hS1 => ?_)
        have hw6 : 0 ≤ r6.toInt ∧ r6.toInt ≤ 1 := hw6
        clear hP hD hS
        have hP : va_P D classes [(aG, .inl (cI, 8, .inl fg))] H := hP1
        have hD : va_D A [(aG, .inl (cI, 8, .inl fg))] := hD1
        have hS := hS1
        clear hP1 hD1 hS1
        have rg_r6 := zi_rg r6
        refine lv_if_eq (tgt := 23) hx hb dX0_leadingData_14 (by decide) (fun c7 => ?_) (fun c7 => ?_)
        ·
          have z7 := zi_eq0 c7
          refine lv_iload_n hx hb dX0_leadingData_23 rfl (lv_at hl 1 rfl) ?_
          have hq8 : 0 ≤ k.toInt ∧ k.toInt ≤ 8 := (by omega)
          exact hret k () _ _ _ _ dX0_leadingData_24 hq8 (hP.sub [0] rfl) (hD.sub [0] (by decide) rfl) hS
        ·
          have z7 := zi_ne0 c7
          obtain ⟨v9, e9⟩ : ∃ y : Int32, y = k + 1 := ⟨_, rfl⟩
          first | have z9 := zi_inc (z := 1) 1 (by decide) e9 (by omega) | skip
          refine lv_iinc (v := v9) (lv' := [(1, .int v9), (0, .ref aG)]) hx hb dX0_leadingData_17 hl (k := 1) rfl (by rw [e9]; rfl) (by decide) rfl (fun ls hl => ?_)
          refine lv_goto (tgt := 2) hx hb dX0_leadingData_20 (by decide) ?_
          exact ih2 v9 _ _ _ (by omega) (by omega) (hP.sub [0] rfl) (hD.sub [0] (by decide) rfl) hS (lv_sub hl [1, 0] rfl)
  exact J2 _ v1 _ _ _ (Nat.lt_succ_self _) (by omega) (hP.sub [0] rfl) (hD.sub [0] (by decide) rfl) hS (lv_sub hl [1, 0] rfl)

set_option maxHeartbeats 4000000 in
set_option maxRecDepth 100000 in
theorem c_Co_areData (l : Launch) (D : va_G) (cI cJ cB : ClassId) (aG : Nat) (fg : Nat → Int32) (fr : Int32) (h1 : 0 ≤ fr.toInt ∧ fr.toInt ≤ 8) :
    cti l yX0_areData (wsOf yX0_areData cX0_areData 3 (some .boolean)) (rmL 1 20 0 0) D classes (tys3 cI cJ cB) [.ref aG, .int fr] [(aG, .inl (cI, 8, .inl fg))] (fun (r : Int32) (u : Unit) => 0 ≤ r.toInt ∧ r.toInt ≤ 1) (fun u : Unit => ([(aG, .inl (cI, 8, .inl fg))] : va_W)) := by
  refine ctz.of (by first | exact plainFor_of_name (by decide) | decide +kernel) (Nat.le_of_ble_eq_true rfl) (fun p e s m args below meth c A ls Q h hret => ?_)
  obtain ⟨hx, hb, hml, hown, hts, hnm, hP, hK, hD, hA, hS, hZ, hN, hl⟩ := h
  have hown : s.vm.findClass RX0 = some m.cls := hown
  have hl : lv_has ls 3 [(0, .ref aG), (1, .int fr)] := hl
  have hP : va_P D classes [(aG, .inl (cI, 8, .inl fg))] s.heap := hP
  have hD : va_D A [(aG, .inl (cI, 8, .inl fg))] := hD
  have rg_fr := zi_rg fr
  refine lv_iload_n hx hb dX0_areData_0 rfl (lv_at hl 1 rfl) ?_
  refine lv_istore_n (lv' := [(2, .int fr), (0, .ref aG), (1, .int fr)]) hx hb dX0_areData_1 rfl hl (by decide) rfl (fun ls hl => ?_)
  have J2 : ∀ (n : Nat) (k : Int32) (H : Heap) (locs : List Loc) (ls : Array Slot), ((8 - k.toInt).toNat) < n → (0 ≤ k.toInt ∧ k.toInt ≤ 8) → va_P D classes [(aG, .inl (cI, 8, .inl fg))] H → va_D A [(aG, .inl (cI, 8, .inl fg))] → va_S A s.heap H locs → lv_has ls 3 [(0, .ref aG), (1, .int fr), (2, .int k)] → W p l e (rmL 1 20 0 0) s m args below meth c H locs 0 0 Q (F0 m 2 ls []) := by
    intro n
    induction n with
    | zero => intro k H locs ls hmu; exact absurd hmu (Nat.not_lt_zero _)
    | succ n ih2 =>
      intro k H locs ls hmu2 i2_0 hP hD hS hl
      have rg_k := zi_rg k
      refine lv_iload_n hx hb dX0_areData_2 rfl (lv_at hl 2 rfl) ?_
      refine lv_bipush (v := 8) hx hb dX0_areData_3 (by decide) ?_
      refine lv_topi (fun v1 e1 => ?_)
      have z1 : v1.toInt = 8 := zi_c e1 (by decide)
      refine lv_icmp_ge (tgt := 25) hx hb dX0_areData_5 (by decide) (fun c2 => ?_) (fun c2 => ?_)
      ·
        have z2 := zi_le c2
        refine lv_iconst (v := 1) hx hb dX0_areData_25 (by decide) ?_
        refine lv_topi (fun v3 e3 => ?_)
        have z3 : v3.toInt = 1 := zi_c e3 (by decide)
        have hq4 : 0 ≤ v3.toInt ∧ v3.toInt ≤ 1 := (by omega)
        exact hret v3 () _ _ _ _ dX0_areData_26 (zb_n (by omega)) hq4 (hP.sub [0] rfl) (hD.sub [0] (by decide) rfl) hS
      ·
        have z2 := zi_nle c2
        refine lv_aload_n hx hb dX0_areData_8 rfl (lv_at hl 0 rfl) ?_
        refine lv_iload_n hx hb dX0_areData_9 rfl (lv_at hl 2 rfl) ?_
        refine va_iald hx hb hK hP 0 0 rfl rfl (zi_in (by omega)) dX0_areData_10 ?_
        refine lv_topi (fun v5 e5 => ?_)
        refine call_i (wc := []) (wr := [(aG, .inl (cI, 8, .inl fg))]) (run_S (As := [.int v5]) (rest := []) ks_RX0_57 ⟨by decide, by decide⟩ ⟨rfl, rfl⟩ ⟨hx, hb, hml, hown, hts⟩ (c_Co_isData l D cI cJ cB v5  _) ct_blind (ct_pre (wc := []) hK hP hD hS hA hZ hN [] (by decide) rfl rfl) rfl hl.1 rfl (Nat.le_of_ble_eq_true rfl) dX0_areData_11 ⟨Nat.le_of_ble_eq_true rfl, Nat.le_of_ble_eq_true rfl⟩) hP hD hS hA [] [0] rfl rfl (by decide) (by decide) (fun r6 u H locs hw6 hP1 hD1 hS1 => ?_)
        have hw6 : 0 ≤ r6.toInt ∧ r6.toInt ≤ 1 := hw6
        clear hP hD hS
        have hP : va_P D classes [(aG, .inl (cI, 8, .inl fg))] H := hP1
        have hD : va_D A [(aG, .inl (cI, 8, .inl fg))] := hD1
        have hS := hS1
        clear hP1 hD1 hS1
        have rg_r6 := zi_rg r6
        refine lv_if_ne (tgt := 19) hx hb dX0_areData_14 (by decide) (fun c7 => ?_) (fun c7 => ?_)
        ·
          have z7 := zi_ne0 c7
          obtain ⟨v8, e8⟩ : ∃ y : Int32, y = k + 1 := ⟨_, rfl⟩
          first | have z8 := zi_inc (z := 1) 1 (by decide) e8 (by omega) | skip
          refine lv_iinc (v := v8) (lv' := [(2, .int v8), (0, .ref aG), (1, .int fr)]) hx hb dX0_areData_19 hl (k := 2) rfl (by rw [e8]; rfl) (by decide) rfl (fun ls hl => ?_)
          refine lv_goto (tgt := 2) hx hb dX0_areData_22 (by decide) ?_
          exact ih2 v8 _ _ _ (by omega) (by omega) (hP.sub [0] rfl) (hD.sub [0] (by decide) rfl) hS (lv_sub hl [1, 2, 0] rfl)
        ·
          have z7 := zi_eq0 c7
          refine lv_iconst (v := 0) hx hb dX0_areData_17 (by decide) ?_
          refine lv_topi (fun v9 e9 => ?_)
          have z9 : v9.toInt = 0 := zi_c e9 (by decide)
          have hq10 : 0 ≤ v9.toInt ∧ v9.toInt ≤ 1 := (by omega)
          exact hret v9 () _ _ _ _ dX0_areData_18 (zb_n (by omega)) hq10 (hP.sub [0] rfl) (hD.sub [0] (by decide) rfl) hS
  exact J2 _ fr _ _ _ (Nat.lt_succ_self _) (by omega) (hP.sub [0] rfl) (hD.sub [0] (by decide) rfl) hS (lv_sub hl [1, 2, 0] rfl)

set_option maxHeartbeats 4000000 in
set_option maxRecDepth 100000 in
theorem c_Co_areIdleOrError (l : Launch) (D : va_G) (cI cJ cB : ClassId) (aG : Nat) (fg : Nat → Int32) (fr : Int32) (to : Int32) (h1 : 0 ≤ fr.toInt ∧ fr.toInt ≤ 8) (h2 : 0 ≤ to.toInt ∧ to.toInt ≤ 8) :
    cti l yX0_areIdleOrError (wsOf yX0_areIdleOrError cX0_areIdleOrError 4 (some .boolean)) (rmL 0 0 0 0) D classes (tys3 cI cJ cB) [.ref aG, .int fr, .int to] [(aG, .inl (cI, 8, .inl fg))] (fun (r : Int32) (u : Unit) => 0 ≤ r.toInt ∧ r.toInt ≤ 1) (fun u : Unit => ([(aG, .inl (cI, 8, .inl fg))] : va_W)) := by
  refine ctz.of (by first | exact plainFor_of_name (by decide) | decide +kernel) (Nat.le_of_ble_eq_true rfl) (fun p e s m args below meth c A ls Q h hret => ?_)
  obtain ⟨hx, hb, hml, hown, hts, hnm, hP, hK, hD, hA, hS, hZ, hN, hl⟩ := h
  have hown : s.vm.findClass RX0 = some m.cls := hown
  have hl : lv_has ls 4 [(0, .ref aG), (1, .int fr), (2, .int to)] := hl
  have hP : va_P D classes [(aG, .inl (cI, 8, .inl fg))] s.heap := hP
  have hD : va_D A [(aG, .inl (cI, 8, .inl fg))] := hD
  have rg_fr := zi_rg fr
  have rg_to := zi_rg to
  refine lv_iload_n hx hb dX0_areIdleOrError_0 rfl (lv_at hl 1 rfl) ?_
  refine lv_istore_n (lv' := [(3, .int fr), (0, .ref aG), (1, .int fr), (2, .int to)]) hx hb dX0_areIdleOrError_1 rfl hl (by decide) rfl (fun ls hl => ?_)
  have J2 : ∀ (n : Nat) (k : Int32) (H : Heap) (locs : List Loc) (ls : Array Slot), ((8 - k.toInt).toNat) < n → (0 ≤ k.toInt ∧ k.toInt ≤ 8) → va_P D classes [(aG, .inl (cI, 8, .inl fg))] H → va_D A [(aG, .inl (cI, 8, .inl fg))] → va_S A s.heap H locs → lv_has ls 4 [(0, .ref aG), (1, .int fr), (2, .int to), (3, .int k)] → W p l e (rmL 0 0 0 0) s m args below meth c H locs 0 0 Q (F0 m 2 ls []) := by
    intro n
    induction n with
    | zero => intro k H locs ls hmu; exact absurd hmu (Nat.not_lt_zero _)
    | succ n ih2 =>
      intro k H locs ls hmu2 i2_0 hP hD hS hl
      have rg_k := zi_rg k
      refine lv_iload_n hx hb dX0_areIdleOrError_2 rfl (lv_at hl 3 rfl) ?_
      refine lv_iload_n hx hb dX0_areIdleOrError_3 rfl (lv_at hl 2 rfl) ?_
      refine lv_icmp_ge (tgt := 33) hx hb dX0_areIdleOrError_4 (by decide) (fun c1 => ?_) (fun c1 => ?_)
      ·
        have z1 := zi_le c1
        refine lv_iconst (v := 1) hx hb dX0_areIdleOrError_33 (by decide) ?_
        refine lv_topi (fun v2 e2 => ?_)
        have z2 : v2.toInt = 1 := zi_c e2 (by decide)
        have hq3 : 0 ≤ v2.toInt ∧ v2.toInt ≤ 1 := (by omega)
        exact hret v2 () _ _ _ _ dX0_areIdleOrError_34 (zb_n (by omega)) hq3 (hP.sub [0] rfl) (hD.sub [0] (by decide) rfl) hS
      ·
        have z1 := zi_nle c1
        refine lv_aload_n hx hb dX0_areIdleOrError_7 rfl (lv_at hl 0 rfl) ?_
        refine lv_iload_n hx hb dX0_areIdleOrError_8 rfl (lv_at hl 3 rfl) ?_
        refine va_iald hx hb hK hP 0 0 rfl rfl (zi_in (by omega)) dX0_areIdleOrError_9 ?_
        refine lv_topi (fun v4 e4 => ?_)
        refine lv_sipush (v := 256) hx hb dX0_areIdleOrError_10 (by decide) ?_
        refine lv_topi (fun v5 e5 => ?_)
        have z5 : v5.toInt = 256 := zi_c e5 (by decide)
        refine lv_icmp_eq (tgt := 27) hx hb dX0_areIdleOrError_13 (by decide) (fun c6 => ?_) (fun c6 => ?_)
        ·
          have z6 := zi_eq c6
          obtain ⟨v7, e7⟩ : ∃ y : Int32, y = k + 1 := ⟨_, rfl⟩
          first | have z7 := zi_inc (z := 1) 1 (by decide) e7 (by omega) | skip
          refine lv_iinc (v := v7) (lv' := [(3, .int v7), (0, .ref aG), (1, .int fr), (2, .int to)]) hx hb dX0_areIdleOrError_27 hl (k := 3) rfl (by rw [e7]; rfl) (by decide) rfl (fun ls hl => ?_)
          refine lv_goto (tgt := 2) hx hb dX0_areIdleOrError_30 (by decide) ?_
          exact ih2 v7 _ _ _ (by omega) (by omega) (hP.sub [0] rfl) (hD.sub [0] (by decide) rfl) hS (lv_sub hl [1, 2, 3, 0] rfl)
        ·
          have z6 := zi_ne c6
          refine lv_aload_n hx hb dX0_areIdleOrError_16 rfl (lv_at hl 0 rfl) ?_
          refine lv_iload_n hx hb dX0_areIdleOrError_17 rfl (lv_at hl 3 rfl) ?_
          refine va_iald hx hb hK hP 0 0 rfl rfl (zi_in (by omega)) dX0_areIdleOrError_18 ?_
          refine lv_topi (fun v8 e8 => ?_)
          refine lv_sipush (v := 259) hx hb dX0_areIdleOrError_19 (by decide) ?_
          refine lv_topi (fun v9 e9 => ?_)
          have z9 : v9.toInt = 259 := zi_c e9 (by decide)
          refine lv_icmp_eq (tgt := 27) hx hb dX0_areIdleOrError_22 (by decide) (fun c10 => ?_) (fun c10 => ?_)
          ·
            have z10 := zi_eq c10
            obtain ⟨v11, e11⟩ : ∃ y : Int32, y = k + 1 := ⟨_, rfl⟩
            first | have z11 := zi_inc (z := 1) 1 (by decide) e11 (by omega) | skip
            refine lv_iinc (v := v11) (lv' := [(3, .int v11), (0, .ref aG), (1, .int fr), (2, .int to)]) hx hb dX0_areIdleOrError_27 hl (k := 3) rfl (by rw [e11]; rfl) (by decide) rfl (fun ls hl => ?_)
            refine lv_goto (tgt := 2) hx hb dX0_areIdleOrError_30 (by decide) ?_
            exact ih2 v11 _ _ _ (by omega) (by omega) (hP.sub [0] rfl) (hD.sub [0] (by decide) rfl) hS (lv_sub hl [1, 2, 3, 0] rfl)
          ·
            have z10 := zi_ne c10
            refine lv_iconst (v := 0) hx hb dX0_areIdleOrError_25 (by decide) ?_
            refine lv_topi (fun v12 e12 => ?_)
            have z12 : v12.toInt = 0 := zi_c e12 (by decide)
            have hq13 : 0 ≤ v12.toInt ∧ v12.toInt ≤ 1 := (by omega)
            exact hret v12 () _ _ _ _ dX0_areIdleOrError_26 (zb_n (by omega)) hq13 (hP.sub [0] rfl) (hD.sub [0] (by decide) rfl) hS
  exact J2 _ fr _ _ _ (Nat.lt_succ_self _) (by omega) (hP.sub [0] rfl) (hD.sub [0] (by decide) rfl) hS (lv_sub hl [1, 2, 3, 0] rfl)

set_option maxHeartbeats 4000000 in
set_option maxRecDepth 100000 in
theorem c_Co_typeOfGroup (l : Launch) (D : va_G) (cI cJ cB : ClassId) (aG : Nat) (fg : Nat → Int32)  :
    cti l yX0_typeOfGroup (wsOf yX0_typeOfGroup cX0_typeOfGroup 2 (some .int)) (rmL 2 42 0 0) D classes (tys3 cI cJ cB) [.ref aG] [(aG, .inl (cI, 8, .inl fg))] (fun (r : Int32) (u : Unit) => True) (fun u : Unit => ([(aG, .inl (cI, 8, .inl fg))] : va_W)) := by
  refine cti.of (by first | exact plainFor_of_name (by decide) | decide +kernel) (Nat.le_of_ble_eq_true rfl) (fun p e s m args below meth c A ls Q h hret => ?_)
  obtain ⟨hx, hb, hml, hown, hts, hnm, hP, hK, hD, hA, hS, hZ, hN, hl⟩ := h
  have hown : s.vm.findClass RX0 = some m.cls := hown
  have hl : lv_has ls 2 [(0, .ref aG)] := hl
  obtain ⟨tE, hZ1, hT1⟩ := id hZ
  have hP : va_P D classes [(aG, .inl (cI, 8, .inl fg))] s.heap := hP
  have hD : va_D A [(aG, .inl (cI, 8, .inl fg))] := hD
  refine lv_aload_n hx hb dX0_typeOfGroup_0 rfl (lv_at hl 0 rfl) ?_
  refine call_i (wc := [(aG, .inl (cI, 8, .inl fg))]) (wr := []) (run_S (As := [.ref aG]) (rest := []) ks_RX0_9 ⟨by decide, by decide⟩ ⟨rfl, rfl⟩ ⟨hx, hb, hml, hown, hts⟩ (c_Co_leadingData l D cI cJ cB aG fg  _) ct_blind (ct_pre (wc := [(aG, .inl (cI, 8, .inl fg))]) hK hP hD hS hA hZ hN [0] (by decide) rfl rfl) rfl hl.1 rfl (Nat.le_of_ble_eq_true rfl) dX0_typeOfGroup_1 ⟨Nat.le_of_ble_eq_true rfl, Nat.le_of_ble_eq_true rfl⟩) hP hD hS hA [0] [] rfl rfl (by decide) (by decide) (fun r1 u H locs hw1 hP1 hD1 hS1 => ?_)
  have hw1 : 0 ≤ r1.toInt ∧ r1.toInt ≤ 8 := hw1
  clear hP hD hS
  have hP : va_P D classes [(aG, .inl (cI, 8, .inl fg))] H := hP1
  have hD : va_D A [(aG, .inl (cI, 8, .inl fg))] := hD1
  have hS := hS1
  clear hP1 hD1 hS1
  have rg_r1 := zi_rg r1
  refine lv_istore_n (lv' := [(1, .int r1), (0, .ref aG)]) hx hb dX0_typeOfGroup_4 rfl hl (by decide) rfl (fun ls hl => ?_)
  refine lv_iload_n hx hb dX0_typeOfGroup_5 rfl (lv_at hl 0 rfl) ?_
  refine lv_bipush (v := 8) hx hb dX0_typeOfGroup_6 (by decide) ?_
  refine lv_topi (fun v2 e2 => ?_)
  have z2 : v2.toInt = 8 := zi_c e2 (by decide)
  refine lv_icmp_ne (tgt := 13) hx hb dX0_typeOfGroup_8 (by decide) (fun c3 => ?_) (fun c3 => ?_)
  ·
    have z3 := zi_ne c3
    refine lv_aload_n hx hb dX0_typeOfGroup_13 rfl (lv_at hl 1 rfl) ?_
    refine lv_iload_n hx hb dX0_typeOfGroup_14 rfl (lv_at hl 0 rfl) ?_
    refine va_iald hx hb hK hP 0 0 rfl rfl (zi_in (by omega)) dX0_typeOfGroup_15 ?_
    refine lv_topi (fun v4 e4 => ?_)
    refine lv_sipush (v := 258) hx hb dX0_typeOfGroup_16 (by decide) ?_
    refine lv_topi (fun v5 e5 => ?_)
    have z5 : v5.toInt = 258 := zi_c e5 (by decide)
    have J40 : ∀   (H : Heap) (locs : List Loc) (ls : Array Slot), va_P D classes [(aG, .inl (cI, 8, .inl fg))] H → va_D A [(aG, .inl (cI, 8, .inl fg))] → va_S A s.heap H locs → lv_has ls 2 [(1, .int r1), (0, .ref aG)] → W p l e (rmL 2 42 0 0) s m args below meth c H locs 0 0 Q (F0 m 40 ls []) := by
      intro  H locs ls  hP hD hS hl
      refine lv_aload_n hx hb dX0_typeOfGroup_40 rfl (lv_at hl 1 rfl) ?_
      refine lv_iconst (v := 0) hx hb dX0_typeOfGroup_41 (by decide) ?_
      refine lv_topi (fun v6 e6 => ?_)
      have z6 : v6.toInt = 0 := zi_c e6 (by decide)
      refine va_iald hx hb hK hP 0 0 rfl rfl (zi_in (by omega)) dX0_typeOfGroup_42 ?_
      refine lv_topi (fun v7 e7 => ?_)
      refine lv_sipush (v := 257) hx hb dX0_typeOfGroup_43 (by decide) ?_
      refine lv_topi (fun v8 e8 => ?_)
      have z8 : v8.toInt = 257 := zi_c e8 (by decide)
      have J60 : ∀   (H : Heap) (locs : List Loc) (ls : Array Slot), va_P D classes [(aG, .inl (cI, 8, .inl fg))] H → va_D A [(aG, .inl (cI, 8, .inl fg))] → va_S A s.heap H locs → lv_has ls 2 [(1, .int r1), (0, .ref aG)] → W p l e (rmL 2 42 0 0) s m args below meth c H locs 0 0 Q (F0 m 60 ls []) := by
        intro  H locs ls  hP hD hS hl
        refine lv_aload_n hx hb dX0_typeOfGroup_60 rfl (lv_at hl 1 rfl) ?_
        refine lv_iconst (v := 0) hx hb dX0_typeOfGroup_61 (by decide) ?_
        refine lv_topi (fun v9 e9 => ?_)
        have z9 : v9.toInt = 0 := zi_c e9 (by decide)
        refine lv_iconst (v := 4) hx hb dX0_typeOfGroup_62 (by decide) ?_
        refine lv_topi (fun v10 e10 => ?_)
        have z10 : v10.toInt = 4 := zi_c e10 (by decide)
        have hh11 : 0 ≤ v9.toInt ∧ v9.toInt ≤ 8 := (by omega)
        have hh12 : 0 ≤ v10.toInt ∧ v10.toInt ≤ 8 := (by omega)
        refine call_i (wc := [(aG, .inl (cI, 8, .inl fg))]) (wr := []) (run_S (As := [.ref aG, .int v9, .int v10]) (rest := []) ks_RX0_15 ⟨by decide, by decide⟩ ⟨rfl, rfl⟩ ⟨hx, hb, hml, hown, hts⟩ (c_Co_areIdleOrError l D cI cJ cB aG fg v9 v10 hh11 hh12 _) ct_blind (ct_pre (wc := [(aG, .inl (cI, 8, .inl fg))]) hK hP hD hS hA hZ hN [0] (by decide) rfl rfl) rfl hl.1 rfl (Nat.le_of_ble_eq_true rfl) dX0_typeOfGroup_63 ⟨Nat.le_of_ble_eq_true rfl, Nat.le_of_ble_eq_true rfl⟩) hP hD hS hA [0] [] rfl rfl (by decide) (by decide) (fun r13 u H locs hw13 hP1 hD1 hS1 => ?_)
        have hw13 : 0 ≤ r13.toInt ∧ r13.toInt ≤ 1 := hw13
        clear hP hD hS
        have hP : va_P D classes [(aG, .inl (cI, 8, .inl fg))] H := hP1
        have hD : va_D A [(aG, .inl (cI, 8, .inl fg))] := hD1
        have hS := hS1
        clear hP1 hD1 hS1
        have rg_r13 := zi_rg r13
        have J89 : ∀   (H : Heap) (locs : List Loc) (ls : Array Slot), va_P D classes [(aG, .inl (cI, 8, .inl fg))] H → va_D A [(aG, .inl (cI, 8, .inl fg))] → va_S A s.heap H locs → lv_has ls 2 [(1, .int r1), (0, .ref aG)] → W p l e (rmL 2 42 0 0) s m args below meth c H locs 0 0 Q (F0 m 89 ls []) := by
          intro  H locs ls  hP hD hS hl
          refine lv_aload_n hx hb dX0_typeOfGroup_89 rfl (lv_at hl 1 rfl) ?_
          refine lv_iconst (v := 0) hx hb dX0_typeOfGroup_90 (by decide) ?_
          refine lv_topi (fun v14 e14 => ?_)
          have z14 : v14.toInt = 0 := zi_c e14 (by decide)
          refine lv_bipush (v := 8) hx hb dX0_typeOfGroup_91 (by decide) ?_
          refine lv_topi (fun v15 e15 => ?_)
          have z15 : v15.toInt = 8 := zi_c e15 (by decide)
          have hh16 : 0 ≤ v14.toInt ∧ v14.toInt ≤ 8 := (by omega)
          have hh17 : 0 ≤ v15.toInt ∧ v15.toInt ≤ 8 := (by omega)
          refine call_i (wc := [(aG, .inl (cI, 8, .inl fg))]) (wr := []) (run_S (As := [.ref aG, .int v14, .int v15]) (rest := []) ks_RX0_15 ⟨by decide, by decide⟩ ⟨rfl, rfl⟩ ⟨hx, hb, hml, hown, hts⟩ (c_Co_areIdleOrError l D cI cJ cB aG fg v14 v15 hh16 hh17 _) ct_blind (ct_pre (wc := [(aG, .inl (cI, 8, .inl fg))]) hK hP hD hS hA hZ hN [0] (by decide) rfl rfl) rfl hl.1 rfl (Nat.le_of_ble_eq_true rfl) dX0_typeOfGroup_93 ⟨Nat.le_of_ble_eq_true rfl, Nat.le_of_ble_eq_true rfl⟩) hP hD hS hA [0] [] rfl rfl (by decide) (by decide) (fun r18 u H locs hw18 hP1 hD1 hS1 => ?_)
          have hw18 : 0 ≤ r18.toInt ∧ r18.toInt ≤ 1 := hw18
          clear hP hD hS
          have hP : va_P D classes [(aG, .inl (cI, 8, .inl fg))] H := hP1
          have hD : va_D A [(aG, .inl (cI, 8, .inl fg))] := hD1
          have hS := hS1
          clear hP1 hD1 hS1
          have rg_r18 := zi_rg r18
          refine lv_if_eq (tgt := 104) hx hb dX0_typeOfGroup_96 (by decide) (fun c19 => ?_) (fun c19 => ?_)
          ·
            have z19 := zi_eq0 c19
            refine lv_bipush (v := -2) hx hb dX0_typeOfGroup_104 (by decide) ?_
            refine lv_topi (fun v20 e20 => ?_)
            have z20 : v20.toInt = (-2) := zi_c e20 (by decide)
            exact hret v20 () _ _ _ _ dX0_typeOfGroup_106 trivial (hP.sub [0] rfl) (hD.sub [0] (by decide) rfl) hS
          ·
            have z19 := zi_ne0 c19
            refine lv_bipush (v := 30) hx hb dX0_typeOfGroup_99 (by decide) ?_
            refine lv_topi (fun v22 e22 => ?_)
            have z22 : v22.toInt = 30 := zi_c e22 (by decide)
            refine lv_goto (tgt := 106) hx hb dX0_typeOfGroup_101 (by decide) ?_
            exact hret v22 () _ _ _ _ dX0_typeOfGroup_106 trivial (hP.sub [0] rfl) (hD.sub [0] (by decide) rfl) hS
        refine lv_if_eq (tgt := 89) hx hb dX0_typeOfGroup_66 (by decide) (fun c24 => ?_) (fun c24 => ?_)
        ·
          have z24 := zi_eq0 c24
          exact J89  _ _ _   (hP.sub [0] rfl) (hD.sub [0] (by decide) rfl) hS (lv_sub hl [0, 1] rfl)
        ·
          have z24 := zi_ne0 c24
          refine lv_aload_n hx hb dX0_typeOfGroup_69 rfl (lv_at hl 1 rfl) ?_
          refine lv_iconst (v := 4) hx hb dX0_typeOfGroup_70 (by decide) ?_
          refine lv_topi (fun v25 e25 => ?_)
          have z25 : v25.toInt = 4 := zi_c e25 (by decide)
          refine va_iald hx hb hK hP 0 0 rfl rfl (zi_in (by omega)) dX0_typeOfGroup_71 ?_
          refine lv_topi (fun v26 e26 => ?_)
          refine lv_sipush (v := 257) hx hb dX0_typeOfGroup_72 (by decide) ?_
          refine lv_topi (fun v27 e27 => ?_)
          have z27 : v27.toInt = 257 := zi_c e27 (by decide)
          refine lv_icmp_ne (tgt := 89) hx hb dX0_typeOfGroup_75 (by decide) (fun c28 => ?_) (fun c28 => ?_)
          ·
            have z28 := zi_ne c28
            exact J89  _ _ _   (hP.sub [0] rfl) (hD.sub [0] (by decide) rfl) hS (lv_sub hl [0, 1] rfl)
          ·
            have z28 := zi_eq c28
            refine lv_aload_n hx hb dX0_typeOfGroup_78 rfl (lv_at hl 1 rfl) ?_
            refine lv_iconst (v := 5) hx hb dX0_typeOfGroup_79 (by decide) ?_
            refine lv_topi (fun v29 e29 => ?_)
            have z29 : v29.toInt = 5 := zi_c e29 (by decide)
            have hh30 : 0 ≤ v29.toInt ∧ v29.toInt ≤ 8 := (by omega)
            refine call_i (wc := [(aG, .inl (cI, 8, .inl fg))]) (wr := []) (run_S (As := [.ref aG, .int v29]) (rest := []) ks_RX0_23 ⟨by decide, by decide⟩ ⟨rfl, rfl⟩ ⟨hx, hb, hml, hown, hts⟩ (c_Co_areData l D cI cJ cB aG fg v29 hh30 _) ct_blind (ct_pre (wc := [(aG, .inl (cI, 8, .inl fg))]) hK hP hD hS hA hZ hN [0] (by decide) rfl rfl) rfl hl.1 rfl (Nat.le_of_ble_eq_true rfl) dX0_typeOfGroup_80 ⟨Nat.le_of_ble_eq_true rfl, Nat.le_of_ble_eq_true rfl⟩) hP hD hS hA [0] [] rfl rfl (by decide) (by decide) (fun r31 u H locs hw31 hP1 hD1 hS1 => ?_)
            have hw31 : 0 ≤ r31.toInt ∧ r31.toInt ≤ 1 := hw31
            clear hP hD hS
            have hP : va_P D classes [(aG, .inl (cI, 8, .inl fg))] H := hP1
            have hD : va_D A [(aG, .inl (cI, 8, .inl fg))] := hD1
            have hS := hS1
            clear hP1 hD1 hS1
            have rg_r31 := zi_rg r31
            refine lv_if_eq (tgt := 89) hx hb dX0_typeOfGroup_83 (by decide) (fun c32 => ?_) (fun c32 => ?_)
            ·
              have z32 := zi_eq0 c32
              exact J89  _ _ _   (hP.sub [0] rfl) (hD.sub [0] (by decide) rfl) hS (lv_sub hl [0, 1] rfl)
            ·
              have z32 := zi_ne0 c32
              refine lv_bipush (v := 51) hx hb dX0_typeOfGroup_86 (by decide) ?_
              refine lv_topi (fun v33 e33 => ?_)
              have z33 : v33.toInt = 51 := zi_c e33 (by decide)
              exact hret v33 () _ _ _ _ dX0_typeOfGroup_88 trivial (hP.sub [0] rfl) (hD.sub [0] (by decide) rfl) hS
      refine lv_icmp_ne (tgt := 60) hx hb dX0_typeOfGroup_46 (by decide) (fun c35 => ?_) (fun c35 => ?_)
      ·
        have z35 := zi_ne c35
        exact J60  _ _ _   (hP.sub [0] rfl) (hD.sub [0] (by decide) rfl) hS (lv_sub hl [0, 1] rfl)
      ·
        have z35 := zi_eq c35
        refine lv_aload_n hx hb dX0_typeOfGroup_49 rfl (lv_at hl 1 rfl) ?_
        refine lv_iconst (v := 1) hx hb dX0_typeOfGroup_50 (by decide) ?_
        refine lv_topi (fun v36 e36 => ?_)
        have z36 : v36.toInt = 1 := zi_c e36 (by decide)
        have hh37 : 0 ≤ v36.toInt ∧ v36.toInt ≤ 8 := (by omega)
        refine call_i (wc := [(aG, .inl (cI, 8, .inl fg))]) (wr := []) (run_S (As := [.ref aG, .int v36]) (rest := []) ks_RX0_23 ⟨by decide, by decide⟩ ⟨rfl, rfl⟩ ⟨hx, hb, hml, hown, hts⟩ (c_Co_areData l D cI cJ cB aG fg v36 hh37 _) ct_blind (ct_pre (wc := [(aG, .inl (cI, 8, .inl fg))]) hK hP hD hS hA hZ hN [0] (by decide) rfl rfl) rfl hl.1 rfl (Nat.le_of_ble_eq_true rfl) dX0_typeOfGroup_51 ⟨Nat.le_of_ble_eq_true rfl, Nat.le_of_ble_eq_true rfl⟩) hP hD hS hA [0] [] rfl rfl (by decide) (by decide) (fun r38 u H locs hw38 hP1 hD1 hS1 => ?_)
        have hw38 : 0 ≤ r38.toInt ∧ r38.toInt ≤ 1 := hw38
        clear hP hD hS
        have hP : va_P D classes [(aG, .inl (cI, 8, .inl fg))] H := hP1
        have hD : va_D A [(aG, .inl (cI, 8, .inl fg))] := hD1
        have hS := hS1
        clear hP1 hD1 hS1
        have rg_r38 := zi_rg r38
        refine lv_if_eq (tgt := 60) hx hb dX0_typeOfGroup_54 (by decide) (fun c39 => ?_) (fun c39 => ?_)
        ·
          have z39 := zi_eq0 c39
          exact J60  _ _ _   (hP.sub [0] rfl) (hD.sub [0] (by decide) rfl) hS (lv_sub hl [0, 1] rfl)
        ·
          have z39 := zi_ne0 c39
          refine lv_bipush (v := 120) hx hb dX0_typeOfGroup_57 (by decide) ?_
          refine lv_topi (fun v40 e40 => ?_)
          have z40 : v40.toInt = 120 := zi_c e40 (by decide)
          exact hret v40 () _ _ _ _ dX0_typeOfGroup_59 trivial (hP.sub [0] rfl) (hD.sub [0] (by decide) rfl) hS
    refine lv_icmp_ne (tgt := 40) hx hb dX0_typeOfGroup_19 (by decide) (fun c42 => ?_) (fun c42 => ?_)
    ·
      have z42 := zi_ne c42
      exact J40  _ _ _   (hP.sub [0] rfl) (hD.sub [0] (by decide) rfl) hS (lv_sub hl [0, 1] rfl)
    ·
      have z42 := zi_eq c42
      refine lv_aload_n hx hb dX0_typeOfGroup_22 rfl (lv_at hl 1 rfl) ?_
      refine lv_iload_n hx hb dX0_typeOfGroup_23 rfl (lv_at hl 0 rfl) ?_
      refine lv_iconst (v := 1) hx hb dX0_typeOfGroup_24 (by decide) ?_
      refine lv_topi (fun v43 e43 => ?_)
      have z43 : v43.toInt = 1 := zi_c e43 (by decide)
      refine lv_iadd hx hb dX0_typeOfGroup_25 ?_
      refine lv_topi (fun v44 e44 => ?_)
      first | have z44 := zi_add e44 (by omega) | skip
      refine lv_bipush (v := 8) hx hb dX0_typeOfGroup_26 (by decide) ?_
      refine lv_topi (fun v45 e45 => ?_)
      have z45 : v45.toInt = 8 := zi_c e45 (by decide)
      have hh46 : 0 ≤ v44.toInt ∧ v44.toInt ≤ 8 := (by omega)
      have hh47 : 0 ≤ v45.toInt ∧ v45.toInt ≤ 8 := (by omega)
      refine call_i (wc := [(aG, .inl (cI, 8, .inl fg))]) (wr := []) (run_S (As := [.ref aG, .int v44, .int v45]) (rest := []) ks_RX0_15 ⟨by decide, by decide⟩ ⟨rfl, rfl⟩ ⟨hx, hb, hml, hown, hts⟩ (c_Co_areIdleOrError l D cI cJ cB aG fg v44 v45 hh46 hh47 _) ct_blind (ct_pre (wc := [(aG, .inl (cI, 8, .inl fg))]) hK hP hD hS hA hZ hN [0] (by decide) rfl rfl) rfl hl.1 rfl (Nat.le_of_ble_eq_true rfl) dX0_typeOfGroup_28 ⟨Nat.le_of_ble_eq_true rfl, Nat.le_of_ble_eq_true rfl⟩) hP hD hS hA [0] [] rfl rfl (by decide) (by decide) (fun r48 u H locs hw48 hP1 hD1 hS1 => ?_)
      have hw48 : 0 ≤ r48.toInt ∧ r48.toInt ≤ 1 := hw48
      clear hP hD hS
      have hP : va_P D classes [(aG, .inl (cI, 8, .inl fg))] H := hP1
      have hD : va_D A [(aG, .inl (cI, 8, .inl fg))] := hD1
      have hS := hS1
      clear hP1 hD1 hS1
      have rg_r48 := zi_rg r48
      refine lv_if_eq (tgt := 40) hx hb dX0_typeOfGroup_31 (by decide) (fun c49 => ?_) (fun c49 => ?_)
      ·
        have z49 := zi_eq0 c49
        exact J40  _ _ _   (hP.sub [0] rfl) (hD.sub [0] (by decide) rfl) hS (lv_sub hl [0, 1] rfl)
      ·
        have z49 := zi_ne0 c49
        refine va_gets hx hb hZ1 hS hown (hts _ wk94) (fun _ h9 => h9) dX0_typeOfGroup_34 ?_
        refine lv_iload_n hx hb dX0_typeOfGroup_37 rfl (lv_at hl 0 rfl) ?_
        refine va_ti hx hb hT1 hS (zi_in (by omega)) rfl dX0_typeOfGroup_38 ?_
        refine lv_topi (fun v50 e50 => ?_)
        exact hret v50 () _ _ _ _ dX0_typeOfGroup_39 trivial (hP.sub [0] rfl) (hD.sub [0] (by decide) rfl) hS
  ·
    have z3 := zi_eq c3
    refine lv_iconst (v := -1) hx hb dX0_typeOfGroup_11 (by decide) ?_
    refine lv_topi (fun v52 e52 => ?_)
    have z52 : v52.toInt = (-1) := zi_c e52 (by decide)
    exact hret v52 () _ _ _ _ dX0_typeOfGroup_12 trivial (hP.sub [0] rfl) (hD.sub [0] (by decide) rfl) hS

set_option maxHeartbeats 4000000 in
set_option maxRecDepth 100000 in
theorem c_Co_bitsOf (l : Launch) (D : va_G) (cI cJ cB : ClassId) (ty : Int32) (ch : Int32) (x : Int32)  :
    ctl l yX0_bitsOf (wsOf yX0_bitsOf cX0_bitsOf 3 (some .long)) (rmL 2 42 0 0) D classes (tys3 cI cJ cB) [.int ty, .int ch, .int x] [] (fun (r : Int64) (u : Unit) => True) (fun u : Unit => ([] : va_W)) := by
  refine ctl.of (by first | exact plainFor_of_name (by decide) | decide +kernel) (Nat.le_of_ble_eq_true rfl) (fun p e s m args below meth c A ls Q h hret => ?_)
  obtain ⟨hx, hb, hml, hown, hts, hnm, hP, hK, hD, hA, hS, hZ, hN, hl⟩ := h
  have hown : s.vm.findClass RX0 = some m.cls := hown
  have hl : lv_has ls 3 [(0, .int ty), (1, .int ch), (2, .int x)] := hl
  have hP : va_P D classes [] s.heap := hP
  have hD : va_D A [] := hD
  have rg_ty := zi_rg ty
  have rg_ch := zi_rg ch
  have rg_x := zi_rg x
  refine lv_iload_n hx hb dX0_bitsOf_0 rfl (lv_at hl 1 rfl) ?_
  refine call_i (wc := []) (wr := []) (run_S (As := [.int ch]) (rest := []) ks_RX0_57 ⟨by decide, by decide⟩ ⟨rfl, rfl⟩ ⟨hx, hb, hml, hown, hts⟩ (c_Co_isData l D cI cJ cB ch  _) ct_blind (ct_pre (wc := []) hK hP hD hS hA hZ hN [] (by decide) rfl rfl) rfl hl.1 rfl (Nat.le_of_ble_eq_true rfl) dX0_bitsOf_1 ⟨Nat.le_of_ble_eq_true rfl, Nat.le_of_ble_eq_true rfl⟩) hP hD hS hA [] [] rfl rfl (by decide) (by decide) (fun r1 u H locs hw1 hP1 hD1 hS1 => ?_)
  have hw1 : 0 ≤ r1.toInt ∧ r1.toInt ≤ 1 := hw1
  clear hP hD hS
  have hP : va_P D classes [] H := hP1
  have hD : va_D A [] := hD1
  have hS := hS1
  clear hP1 hD1 hS1
  have rg_r1 := zi_rg r1
  refine lv_if_eq (tgt := 16) hx hb dX0_bitsOf_4 (by decide) (fun c2 => ?_) (fun c2 => ?_)
  ·
    have z2 := zi_eq0 c2
    refine lv_iload_n hx hb dX0_bitsOf_16 rfl (lv_at hl 1 rfl) ?_
    refine lv_sipush (v := 259) hx hb dX0_bitsOf_17 (by decide) ?_
    refine lv_topi (fun v3 e3 => ?_)
    have z3 : v3.toInt = 259 := zi_c e3 (by decide)
    refine lv_icmp_ne (tgt := 34) hx hb dX0_bitsOf_20 (by decide) (fun c4 => ?_) (fun c4 => ?_)
    ·
      have z4 := zi_ne c4
      refine lv_lconst (v := 0) hx hb dX0_bitsOf_34 (by decide) ?_
      refine lv_topl (fun v5 e5 => ?_)
      exact hret v5 () _ _ _ _ dX0_bitsOf_35 trivial (hP.sub [] rfl) (hD.sub [] (by decide) rfl) hS
    ·
      have z4 := zi_eq c4
      refine lv_ldc2 (v := 30) hx hb hown (hts _ wk117) dX0_bitsOf_23 ?_
      refine lv_topl (fun v7 e7 => ?_)
      refine lv_iload_n hx hb dX0_bitsOf_26 rfl (lv_at hl 2 rfl) ?_
      refine call_i (wc := []) (wr := []) (run_S (As := [.int x]) (rest := [.long v7]) ks_RX0_54 ⟨by decide, by decide⟩ ⟨rfl, rfl⟩ ⟨hx, hb, hml, hown, hts⟩ (c_Co_codeShift l D cI cJ cB x  _) ct_blind (ct_pre (wc := []) hK hP hD hS hA hZ hN [] (by decide) rfl rfl) rfl hl.1 rfl (Nat.le_of_ble_eq_true rfl) dX0_bitsOf_27 ⟨Nat.le_of_ble_eq_true rfl, Nat.le_of_ble_eq_true rfl⟩) hP hD hS hA [] [] rfl rfl (by decide) (by decide) (fun r8 u H locs hw8 hP1 hD1 hS1 => ?_)
      clear hw8
      clear hP hD hS
      have hP : va_P D classes [] H := hP1
      have hD : va_D A [] := hD1
      have hS := hS1
      clear hP1 hD1 hS1
      have rg_r8 := zi_rg r8
      refine lv_lshl hx hb dX0_bitsOf_30 rfl ?_
      refine lv_topl (fun v9 e9 => ?_)
      refine lv_goto (tgt := 35) hx hb dX0_bitsOf_31 (by decide) ?_
      exact hret v9 () _ _ _ _ dX0_bitsOf_35 trivial (hP.sub [] rfl) (hD.sub [] (by decide) rfl) hS
  ·
    have z2 := zi_ne0 c2
    refine lv_iload_n hx hb dX0_bitsOf_7 rfl (lv_at hl 1 rfl) ?_
    refine lv_i2l hx hb dX0_bitsOf_8 rfl ?_
    refine lv_topl (fun v11 e11 => ?_)
    refine lv_iload_n hx hb dX0_bitsOf_9 rfl (lv_at hl 0 rfl) ?_
    refine lv_iload_n hx hb dX0_bitsOf_10 rfl (lv_at hl 2 rfl) ?_
    refine call_i (wc := []) (wr := []) (run_S (As := [.int ty, .int x]) (rest := [.long v11]) ks_RX0_50 ⟨by decide, by decide⟩ ⟨rfl, rfl⟩ ⟨hx, hb, hml, hown, hts⟩ (c_Co_dataShift l D cI cJ cB ty x  _) ct_blind (ct_pre (wc := []) hK hP hD hS hA hZ hN [] (by decide) rfl rfl) rfl hl.1 rfl (Nat.le_of_ble_eq_true rfl) dX0_bitsOf_11 ⟨Nat.le_of_ble_eq_true rfl, Nat.le_of_ble_eq_true rfl⟩) hP hD hS hA [] [] rfl rfl (by decide) (by decide) (fun r12 u H locs hw12 hP1 hD1 hS1 => ?_)
    clear hw12
    clear hP hD hS
    have hP : va_P D classes [] H := hP1
    have hD : va_D A [] := hD1
    have hS := hS1
    clear hP1 hD1 hS1
    have rg_r12 := zi_rg r12
    refine lv_lshl hx hb dX0_bitsOf_14 rfl ?_
    refine lv_topl (fun v13 e13 => ?_)
    exact hret v13 () _ _ _ _ dX0_bitsOf_15 trivial (hP.sub [] rfl) (hD.sub [] (by decide) rfl) hS

set_option maxHeartbeats 4000000 in
set_option maxRecDepth 100000 in
theorem c_Co_payloadOf (l : Launch) (D : va_G) (cI cJ cB : ClassId) (aG : Nat) (fg : Nat → Int32) (ty : Int32)  :
    ctl l yX0_payloadOf (wsOf yX0_payloadOf cX0_payloadOf 5 (some .long)) (rmL 3 64 0 0) D classes (tys3 cI cJ cB) [.int ty, .ref aG] [(aG, .inl (cI, 8, .inl fg))] (fun (r : Int64) (u : Unit) => True) (fun u : Unit => ([(aG, .inl (cI, 8, .inl fg))] : va_W)) := by
  refine ctl.of (by first | exact plainFor_of_name (by decide) | decide +kernel) (Nat.le_of_ble_eq_true rfl) (fun p e s m args below meth c A ls Q h hret => ?_)
  obtain ⟨hx, hb, hml, hown, hts, hnm, hP, hK, hD, hA, hS, hZ, hN, hl⟩ := h
  have hown : s.vm.findClass RX0 = some m.cls := hown
  have hl : lv_has ls 5 [(0, .int ty), (1, .ref aG)] := hl
  have hP : va_P D classes [(aG, .inl (cI, 8, .inl fg))] s.heap := hP
  have hD : va_D A [(aG, .inl (cI, 8, .inl fg))] := hD
  have rg_ty := zi_rg ty
  have J15 : ∀ (n : Nat) (pl : Int64) (k : Int32) (H : Heap) (locs : List Loc) (ls : Array Slot), ((8 - k.toInt).toNat) < n → (0 ≤ k.toInt ∧ k.toInt ≤ 8) → va_P D classes [(aG, .inl (cI, 8, .inl fg))] H → va_D A [(aG, .inl (cI, 8, .inl fg))] → va_S A s.heap H locs → lv_has ls 5 [(0, .int ty), (1, .ref aG), (2, .long pl), (4, .int k)] → W p l e (rmL 3 64 0 0) s m args below meth c H locs 0 0 Q (F0 m 15 ls []) := by
    intro n
    induction n with
    | zero => intro pl k H locs ls hmu; exact absurd hmu (Nat.not_lt_zero _)
    | succ n ih15 =>
      intro pl k H locs ls hmu15 i15_0 hP hD hS hl
      have rg_k := zi_rg k
      refine lv_iload hx hb dX0_payloadOf_15 (lv_at hl 3 rfl) ?_
      refine lv_bipush (v := 8) hx hb dX0_payloadOf_17 (by decide) ?_
      refine lv_topi (fun v1 e1 => ?_)
      have z1 : v1.toInt = 8 := zi_c e1 (by decide)
      refine lv_icmp_ge (tgt := 41) hx hb dX0_payloadOf_19 (by decide) (fun c2 => ?_) (fun c2 => ?_)
      ·
        have z2 := zi_le c2
        refine lv_lload_n hx hb dX0_payloadOf_41 rfl (lv_at hl 2 rfl) ?_
        exact hret pl () _ _ _ _ dX0_payloadOf_42 trivial (hP.sub [0] rfl) (hD.sub [0] (by decide) rfl) hS
      ·
        have z2 := zi_nle c2
        refine lv_lload_n hx hb dX0_payloadOf_22 rfl (lv_at hl 2 rfl) ?_
        refine lv_iload_n hx hb dX0_payloadOf_23 rfl (lv_at hl 0 rfl) ?_
        refine lv_aload_n hx hb dX0_payloadOf_24 rfl (lv_at hl 1 rfl) ?_
        refine lv_iload hx hb dX0_payloadOf_25 (lv_at hl 3 rfl) ?_
        refine va_iald hx hb hK hP 0 0 rfl rfl (zi_in (by omega)) dX0_payloadOf_27 ?_
        refine lv_topi (fun v4 e4 => ?_)
        refine lv_iload hx hb dX0_payloadOf_28 (lv_at hl 3 rfl) ?_
        refine call_l (wc := []) (wr := [(aG, .inl (cI, 8, .inl fg))]) (run_S (As := [.int ty, .int v4, .int k]) (rest := [.long pl]) ks_RX0_27 ⟨by decide, by decide⟩ ⟨rfl, rfl⟩ ⟨hx, hb, hml, hown, hts⟩ (c_Co_bitsOf l D cI cJ cB ty v4 k  _) ct_blind (ct_pre (wc := []) hK hP hD hS hA hZ hN [] (by decide) rfl rfl) rfl hl.1 rfl (Nat.le_of_ble_eq_true rfl) dX0_payloadOf_30 ⟨Nat.le_of_ble_eq_true rfl, Nat.le_of_ble_eq_true rfl⟩) hP hD hS hA [] [0] rfl rfl (by decide) (by decide) (fun r5 u H locs hw5 hP1 hD1 hS1 => ?_)
        clear hw5
        clear hP hD hS
        have hP : va_P D classes [(aG, .inl (cI, 8, .inl fg))] H := hP1
        have hD : va_D A [(aG, .inl (cI, 8, .inl fg))] := hD1
        have hS := hS1
        clear hP1 hD1 hS1
        refine lv_lor hx hb dX0_payloadOf_33 ?_
        refine lv_topl (fun v6 e6 => ?_)
        refine lv_lstore_n (lv' := [(2, .long v6), (0, .int ty), (1, .ref aG), (4, .int k)]) hx hb dX0_payloadOf_34 rfl hl (by decide) rfl (fun ls hl => ?_)
        obtain ⟨v7, e7⟩ : ∃ y : Int32, y = k + 1 := ⟨_, rfl⟩
        first | have z7 := zi_inc (z := 1) 1 (by decide) e7 (by omega) | skip
        refine lv_iinc (v := v7) (lv' := [(4, .int v7), (2, .long v6), (0, .int ty), (1, .ref aG)]) hx hb dX0_payloadOf_35 hl (k := 3) rfl (by rw [e7]; rfl) (by decide) rfl (fun ls hl => ?_)
        refine lv_goto (tgt := 15) hx hb dX0_payloadOf_38 (by decide) ?_
        exact ih15 v6 v7 _ _ _ (by omega) (by omega) (hP.sub [0] rfl) (hD.sub [0] (by decide) rfl) hS (lv_sub hl [2, 3, 1, 0] rfl)
  refine lv_iload_n hx hb dX0_payloadOf_0 rfl (lv_at hl 0 rfl) ?_
  refine lv_iconst (v := -1) hx hb dX0_payloadOf_1 (by decide) ?_
  refine lv_topi (fun v8 e8 => ?_)
  have z8 : v8.toInt = (-1) := zi_c e8 (by decide)
  refine lv_icmp_ne (tgt := 9) hx hb dX0_payloadOf_2 (by decide) (fun c9 => ?_) (fun c9 => ?_)
  ·
    have z9 := zi_ne c9
    refine lv_iload_n hx hb dX0_payloadOf_9 rfl (lv_at hl 0 rfl) ?_
    refine lv_i2l hx hb dX0_payloadOf_10 rfl ?_
    refine lv_topl (fun v10 e10 => ?_)
    refine lv_lstore_n (lv' := [(2, .long v10), (0, .int ty), (1, .ref aG)]) hx hb dX0_payloadOf_11 rfl hl (by decide) rfl (fun ls hl => ?_)
    refine lv_iconst (v := 0) hx hb dX0_payloadOf_12 (by decide) ?_
    refine lv_topi (fun v11 e11 => ?_)
    have z11 : v11.toInt = 0 := zi_c e11 (by decide)
    refine lv_istore (lv' := [(4, .int v11), (2, .long v10), (0, .int ty), (1, .ref aG)]) hx hb dX0_payloadOf_13 hl (by decide) rfl (fun ls hl => ?_)
    exact J15 _ v10 v11 _ _ _ (Nat.lt_succ_self _) (by omega) (hP.sub [0] rfl) (hD.sub [0] (by decide) rfl) hS (lv_sub hl [2, 3, 1, 0] rfl)
  ·
    have z9 := zi_eq c9
    refine lv_lconst (v := 0) hx hb dX0_payloadOf_5 (by decide) ?_
    refine lv_topl (fun v12 e12 => ?_)
    refine lv_goto (tgt := 11) hx hb dX0_payloadOf_6 (by decide) ?_
    refine lv_lstore_n (lv' := [(2, .long v12), (0, .int ty), (1, .ref aG)]) hx hb dX0_payloadOf_11 rfl hl (by decide) rfl (fun ls hl => ?_)
    refine lv_iconst (v := 0) hx hb dX0_payloadOf_12 (by decide) ?_
    refine lv_topi (fun v13 e13 => ?_)
    have z13 : v13.toInt = 0 := zi_c e13 (by decide)
    refine lv_istore (lv' := [(4, .int v13), (2, .long v12), (0, .int ty), (1, .ref aG)]) hx hb dX0_payloadOf_13 hl (by decide) rfl (fun ls hl => ?_)
    exact J15 _ v12 v13 _ _ _ (Nat.lt_succ_self _) (by omega) (hP.sub [0] rfl) (hD.sub [0] (by decide) rfl) hS (lv_sub hl [2, 3, 1, 0] rfl)

set_option maxHeartbeats 4000000 in
set_option maxRecDepth 100000 in
theorem c_Co_typeOfBlock (l : Launch) (D : va_G) (cI cJ cB : ClassId) (hd : Int32) (pl : Int64)  :
    cti l yX0_typeOfBlock (wsOf yX0_typeOfBlock cX0_typeOfBlock 3 (some .int)) (rmL 0 0 0 0) D classes (tys3 cI cJ cB) [.int hd, .long pl] [] (fun (r : Int32) (u : Unit) => True) (fun u : Unit => ([] : va_W)) := by
  refine cti.of (by first | exact plainFor_of_name (by decide) | decide +kernel) (Nat.le_of_ble_eq_true rfl) (fun p e s m args below meth c A ls Q h hret => ?_)
  obtain ⟨hx, hb, hml, hown, hts, hnm, hP, hK, hD, hA, hS, hZ, hN, hl⟩ := h
  have hown : s.vm.findClass RX0 = some m.cls := hown
  have hl : lv_has ls 3 [(0, .int hd), (1, .long pl)] := hl
  have hP : va_P D classes [] s.heap := hP
  have hD : va_D A [] := hD
  have rg_hd := zi_rg hd
  refine lv_iload_n hx hb dX0_typeOfBlock_0 rfl (lv_at hl 0 rfl) ?_
  refine lv_iconst (v := 1) hx hb dX0_typeOfBlock_1 (by decide) ?_
  refine lv_topi (fun v1 e1 => ?_)
  have z1 : v1.toInt = 1 := zi_c e1 (by decide)
  refine lv_icmp_ne (tgt := 7) hx hb dX0_typeOfBlock_2 (by decide) (fun c2 => ?_) (fun c2 => ?_)
  ·
    have z2 := zi_ne c2
    refine lv_iload_n hx hb dX0_typeOfBlock_7 rfl (lv_at hl 0 rfl) ?_
    refine lv_iconst (v := 2) hx hb dX0_typeOfBlock_8 (by decide) ?_
    refine lv_topi (fun v3 e3 => ?_)
    have z3 : v3.toInt = 2 := zi_c e3 (by decide)
    refine lv_icmp_ne (tgt := 21) hx hb dX0_typeOfBlock_9 (by decide) (fun c4 => ?_) (fun c4 => ?_)
    ·
      have z4 := zi_ne c4
      refine lv_bipush (v := -2) hx hb dX0_typeOfBlock_21 (by decide) ?_
      refine lv_topi (fun v5 e5 => ?_)
      have z5 : v5.toInt = (-2) := zi_c e5 (by decide)
      exact hret v5 () _ _ _ _ dX0_typeOfBlock_23 trivial (hP.sub [] rfl) (hD.sub [] (by decide) rfl) hS
    ·
      have z4 := zi_eq c4
      refine lv_lload_n hx hb dX0_typeOfBlock_12 rfl (lv_at hl 1 rfl) ?_
      refine lv_l2i hx hb dX0_typeOfBlock_13 rfl ?_
      refine lv_topi (fun v7 e7 => ?_)
      refine lv_sipush (v := 255) hx hb dX0_typeOfBlock_14 (by decide) ?_
      refine lv_topi (fun v8 e8 => ?_)
      have z8 : v8.toInt = 255 := zi_c e8 (by decide)
      refine lv_iand hx hb dX0_typeOfBlock_17 ?_
      refine lv_topi (fun v9 e9 => ?_)
      have z9 := zi_and e9 e8 8 (z := 256) (by decide) (by decide) (by decide)
      refine lv_goto (tgt := 23) hx hb dX0_typeOfBlock_18 (by decide) ?_
      exact hret v9 () _ _ _ _ dX0_typeOfBlock_23 trivial (hP.sub [] rfl) (hD.sub [] (by decide) rfl) hS
  ·
    have z2 := zi_eq c2
    refine lv_iconst (v := -1) hx hb dX0_typeOfBlock_5 (by decide) ?_
    refine lv_topi (fun v11 e11 => ?_)
    have z11 : v11.toInt = (-1) := zi_c e11 (by decide)
    exact hret v11 () _ _ _ _ dX0_typeOfBlock_6 trivial (hP.sub [] rfl) (hD.sub [] (by decide) rfl) hS

set_option maxHeartbeats 4000000 in
set_option maxRecDepth 100000 in
theorem c_Co_dataAt (l : Launch) (D : va_G) (cI cJ cB : ClassId) (ty : Int32) (x : Int32) (pl : Int64)  :
    cti l yX0_dataAt (wsOf yX0_dataAt cX0_dataAt 4 (some .int)) (rmL 2 42 0 0) D classes (tys3 cI cJ cB) [.int ty, .long pl, .int x] [] (fun (r : Int32) (u : Unit) => True) (fun u : Unit => ([] : va_W)) := by
  refine cti.of (by first | exact plainFor_of_name (by decide) | decide +kernel) (Nat.le_of_ble_eq_true rfl) (fun p e s m args below meth c A ls Q h hret => ?_)
  obtain ⟨hx, hb, hml, hown, hts, hnm, hP, hK, hD, hA, hS, hZ, hN, hl⟩ := h
  have hown : s.vm.findClass RX0 = some m.cls := hown
  have hl : lv_has ls 4 [(0, .int ty), (1, .long pl), (3, .int x)] := hl
  have hP : va_P D classes [] s.heap := hP
  have hD : va_D A [] := hD
  have rg_ty := zi_rg ty
  have rg_x := zi_rg x
  refine lv_lload_n hx hb dX0_dataAt_0 rfl (lv_at hl 1 rfl) ?_
  refine lv_iload_n hx hb dX0_dataAt_1 rfl (lv_at hl 0 rfl) ?_
  refine lv_iload_n hx hb dX0_dataAt_2 rfl (lv_at hl 2 rfl) ?_
  refine call_i (wc := []) (wr := []) (run_S (As := [.int ty, .int x]) (rest := [.long pl]) ks_RX0_50 ⟨by decide, by decide⟩ ⟨rfl, rfl⟩ ⟨hx, hb, hml, hown, hts⟩ (c_Co_dataShift l D cI cJ cB ty x  _) ct_blind (ct_pre (wc := []) hK hP hD hS hA hZ hN [] (by decide) rfl rfl) rfl hl.1 rfl (Nat.le_of_ble_eq_true rfl) dX0_dataAt_3 ⟨Nat.le_of_ble_eq_true rfl, Nat.le_of_ble_eq_true rfl⟩) hP hD hS hA [] [] rfl rfl (by decide) (by decide) (fun r1 u H locs hw1 hP1 hD1 hS1 => ?_)
  clear hw1
  clear hP hD hS
  have hP : va_P D classes [] H := hP1
  have hD : va_D A [] := hD1
  have hS := hS1
  clear hP1 hD1 hS1
  have rg_r1 := zi_rg r1
  refine lv_lushr hx hb dX0_dataAt_6 rfl ?_
  refine lv_topl (fun v2 e2 => ?_)
  refine lv_l2i hx hb dX0_dataAt_7 rfl ?_
  refine lv_topi (fun v3 e3 => ?_)
  refine lv_sipush (v := 255) hx hb dX0_dataAt_8 (by decide) ?_
  refine lv_topi (fun v4 e4 => ?_)
  have z4 : v4.toInt = 255 := zi_c e4 (by decide)
  refine lv_iand hx hb dX0_dataAt_11 ?_
  refine lv_topi (fun v5 e5 => ?_)
  have z5 := zi_and e5 e4 8 (z := 256) (by decide) (by decide) (by decide)
  exact hret v5 () _ _ _ _ dX0_dataAt_12 trivial (hP.sub [] rfl) (hD.sub [] (by decide) rfl) hS

set_option maxHeartbeats 4000000 in
set_option maxRecDepth 100000 in
theorem c_Co_codedAt (l : Launch) (D : va_G) (cI cJ cB : ClassId) (x : Int32) (pl : Int64)  :
    cti l yX0_codedAt (wsOf yX0_codedAt cX0_codedAt 4 (some .int)) (rmL 1 20 0 0) D classes (tys3 cI cJ cB) [.long pl, .int x] [] (fun (r : Int32) (u : Unit) => True) (fun u : Unit => ([] : va_W)) := by
  refine cti.of (by first | exact plainFor_of_name (by decide) | decide +kernel) (Nat.le_of_ble_eq_true rfl) (fun p e s m args below meth c A ls Q h hret => ?_)
  obtain ⟨hx, hb, hml, hown, hts, hnm, hP, hK, hD, hA, hS, hZ, hN, hl⟩ := h
  have hown : s.vm.findClass RX0 = some m.cls := hown
  have hl : lv_has ls 4 [(0, .long pl), (2, .int x)] := hl
  have hP : va_P D classes [] s.heap := hP
  have hD : va_D A [] := hD
  have rg_x := zi_rg x
  refine lv_lload_n hx hb dX0_codedAt_0 rfl (lv_at hl 0 rfl) ?_
  refine lv_iload_n hx hb dX0_codedAt_1 rfl (lv_at hl 1 rfl) ?_
  refine call_i (wc := []) (wr := []) (run_S (As := [.int x]) (rest := [.long pl]) ks_RX0_54 ⟨by decide, by decide⟩ ⟨rfl, rfl⟩ ⟨hx, hb, hml, hown, hts⟩ (c_Co_codeShift l D cI cJ cB x  _) ct_blind (ct_pre (wc := []) hK hP hD hS hA hZ hN [] (by decide) rfl rfl) rfl hl.1 rfl (Nat.le_of_ble_eq_true rfl) dX0_codedAt_2 ⟨Nat.le_of_ble_eq_true rfl, Nat.le_of_ble_eq_true rfl⟩) hP hD hS hA [] [] rfl rfl (by decide) (by decide) (fun r1 u H locs hw1 hP1 hD1 hS1 => ?_)
  clear hw1
  clear hP hD hS
  have hP : va_P D classes [] H := hP1
  have hD : va_D A [] := hD1
  have hS := hS1
  clear hP1 hD1 hS1
  have rg_r1 := zi_rg r1
  refine lv_lushr hx hb dX0_codedAt_5 rfl ?_
  refine lv_topl (fun v2 e2 => ?_)
  refine lv_l2i hx hb dX0_codedAt_6 rfl ?_
  refine lv_topi (fun v3 e3 => ?_)
  refine lv_bipush (v := 127) hx hb dX0_codedAt_7 (by decide) ?_
  refine lv_topi (fun v4 e4 => ?_)
  have z4 : v4.toInt = 127 := zi_c e4 (by decide)
  refine lv_iand hx hb dX0_codedAt_9 ?_
  refine lv_topi (fun v5 e5 => ?_)
  have z5 := zi_and e5 e4 7 (z := 128) (by decide) (by decide) (by decide)
  refine lv_istore_n (lv' := [(3, .int v5), (0, .long pl), (2, .int x)]) hx hb dX0_codedAt_10 rfl hl (by decide) rfl (fun ls hl => ?_)
  refine lv_iload_n hx hb dX0_codedAt_11 rfl (lv_at hl 0 rfl) ?_
  refine lv_if_ne (tgt := 21) hx hb dX0_codedAt_12 (by decide) (fun c6 => ?_) (fun c6 => ?_)
  ·
    have z6 := zi_ne0 c6
    refine lv_sipush (v := 259) hx hb dX0_codedAt_21 (by decide) ?_
    refine lv_topi (fun v7 e7 => ?_)
    have z7 : v7.toInt = 259 := zi_c e7 (by decide)
    exact hret v7 () _ _ _ _ dX0_codedAt_24 trivial (hP.sub [] rfl) (hD.sub [] (by decide) rfl) hS
  ·
    have z6 := zi_eq0 c6
    refine lv_sipush (v := 256) hx hb dX0_codedAt_15 (by decide) ?_
    refine lv_topi (fun v9 e9 => ?_)
    have z9 : v9.toInt = 256 := zi_c e9 (by decide)
    refine lv_goto (tgt := 24) hx hb dX0_codedAt_18 (by decide) ?_
    exact hret v9 () _ _ _ _ dX0_codedAt_24 trivial (hP.sub [] rfl) (hD.sub [] (by decide) rfl) hS

set_option maxHeartbeats 4000000 in
set_option maxRecDepth 100000 in
theorem c_Co_characterByEnd (l : Launch) (D : va_G) (cI cJ cB : ClassId) (en : Int32) (ty : Int32) (x : Int32) (pl : Int64)  :
    cti l yX0_characterByEnd (wsOf yX0_characterByEnd cX0_characterByEnd 5 (some .int)) (rmL 3 65 0 0) D classes (tys3 cI cJ cB) [.int en, .int ty, .long pl, .int x] [] (fun (r : Int32) (u : Unit) => True) (fun u : Unit => ([] : va_W)) := by
  refine cti.of (by first | exact plainFor_of_name (by decide) | decide +kernel) (Nat.le_of_ble_eq_true rfl) (fun p e s m args below meth c A ls Q h hret => ?_)
  obtain ⟨hx, hb, hml, hown, hts, hnm, hP, hK, hD, hA, hS, hZ, hN, hl⟩ := h
  have hown : s.vm.findClass RX0 = some m.cls := hown
  have hl : lv_has ls 5 [(0, .int en), (1, .int ty), (2, .long pl), (4, .int x)] := hl
  have hP : va_P D classes [] s.heap := hP
  have hD : va_D A [] := hD
  have rg_en := zi_rg en
  have rg_ty := zi_rg ty
  have rg_x := zi_rg x
  refine lv_iload hx hb dX0_characterByEnd_0 (lv_at hl 3 rfl) ?_
  refine lv_iload_n hx hb dX0_characterByEnd_2 rfl (lv_at hl 0 rfl) ?_
  refine lv_icmp_ne (tgt := 10) hx hb dX0_characterByEnd_3 (by decide) (fun c1 => ?_) (fun c1 => ?_)
  ·
    have z1 := zi_ne c1
    refine lv_iload hx hb dX0_characterByEnd_10 (lv_at hl 3 rfl) ?_
    refine lv_iload_n hx hb dX0_characterByEnd_12 rfl (lv_at hl 0 rfl) ?_
    refine lv_icmp_ge (tgt := 26) hx hb dX0_characterByEnd_13 (by decide) (fun c2 => ?_) (fun c2 => ?_)
    ·
      have z2 := zi_le c2
      refine lv_lload_n hx hb dX0_characterByEnd_26 rfl (lv_at hl 2 rfl) ?_
      refine lv_iload hx hb dX0_characterByEnd_27 (lv_at hl 3 rfl) ?_
      refine call_i (wc := []) (wr := []) (run_S (As := [.long pl, .int x]) (rest := []) ks_RX0_43 ⟨by decide, by decide⟩ ⟨rfl, rfl⟩ ⟨hx, hb, hml, hown, hts⟩ (c_Co_codedAt l D cI cJ cB x pl  _) ct_blind (ct_pre (wc := []) hK hP hD hS hA hZ hN [] (by decide) rfl rfl) rfl hl.1 rfl (Nat.le_of_ble_eq_true rfl) dX0_characterByEnd_29 ⟨Nat.le_of_ble_eq_true rfl, Nat.le_of_ble_eq_true rfl⟩) hP hD hS hA [] [] rfl rfl (by decide) (by decide) (fun r3 u H locs hw3 hP1 hD1 hS1 => ?_)
      clear hw3
      clear hP hD hS
      have hP : va_P D classes [] H := hP1
      have hD : va_D A [] := hD1
      have hS := hS1
      clear hP1 hD1 hS1
      have rg_r3 := zi_rg r3
      exact hret r3 () _ _ _ _ dX0_characterByEnd_32 trivial (hP.sub [] rfl) (hD.sub [] (by decide) rfl) hS
    ·
      have z2 := zi_nle c2
      refine lv_iload_n hx hb dX0_characterByEnd_16 rfl (lv_at hl 1 rfl) ?_
      refine lv_lload_n hx hb dX0_characterByEnd_17 rfl (lv_at hl 2 rfl) ?_
      refine lv_iload hx hb dX0_characterByEnd_18 (lv_at hl 3 rfl) ?_
      refine call_i (wc := []) (wr := []) (run_S (As := [.int ty, .long pl, .int x]) (rest := []) ks_RX0_39 ⟨by decide, by decide⟩ ⟨rfl, rfl⟩ ⟨hx, hb, hml, hown, hts⟩ (c_Co_dataAt l D cI cJ cB ty x pl  _) ct_blind (ct_pre (wc := []) hK hP hD hS hA hZ hN [] (by decide) rfl rfl) rfl hl.1 rfl (Nat.le_of_ble_eq_true rfl) dX0_characterByEnd_20 ⟨Nat.le_of_ble_eq_true rfl, Nat.le_of_ble_eq_true rfl⟩) hP hD hS hA [] [] rfl rfl (by decide) (by decide) (fun r5 u H locs hw5 hP1 hD1 hS1 => ?_)
      clear hw5
      clear hP hD hS
      have hP : va_P D classes [] H := hP1
      have hD : va_D A [] := hD1
      have hS := hS1
      clear hP1 hD1 hS1
      have rg_r5 := zi_rg r5
      refine lv_goto (tgt := 32) hx hb dX0_characterByEnd_23 (by decide) ?_
      exact hret r5 () _ _ _ _ dX0_characterByEnd_32 trivial (hP.sub [] rfl) (hD.sub [] (by decide) rfl) hS
  ·
    have z1 := zi_eq c1
    refine lv_sipush (v := 258) hx hb dX0_characterByEnd_6 (by decide) ?_
    refine lv_topi (fun v7 e7 => ?_)
    have z7 : v7.toInt = 258 := zi_c e7 (by decide)
    exact hret v7 () _ _ _ _ dX0_characterByEnd_9 trivial (hP.sub [] rfl) (hD.sub [] (by decide) rfl) hS

set_option maxHeartbeats 4000000 in
set_option maxRecDepth 100000 in
theorem c_Co_characterByMiddleStart (l : Launch) (D : va_G) (cI cJ cB : ClassId) (x : Int32) (pl : Int64)  :
    cti l yX0_characterByMiddleStart (wsOf yX0_characterByMiddleStart cX0_characterByMiddleStart 3 (some .int)) (rmL 3 65 0 0) D classes (tys3 cI cJ cB) [.long pl, .int x] [] (fun (r : Int32) (u : Unit) => True) (fun u : Unit => ([] : va_W)) := by
  refine cti.of (by first | exact plainFor_of_name (by decide) | decide +kernel) (Nat.le_of_ble_eq_true rfl) (fun p e s m args below meth c A ls Q h hret => ?_)
  obtain ⟨hx, hb, hml, hown, hts, hnm, hP, hK, hD, hA, hS, hZ, hN, hl⟩ := h
  have hown : s.vm.findClass RX0 = some m.cls := hown
  have hl : lv_has ls 3 [(0, .long pl), (2, .int x)] := hl
  have hP : va_P D classes [] s.heap := hP
  have hD : va_D A [] := hD
  have rg_x := zi_rg x
  refine lv_iload_n hx hb dX0_characterByMiddleStart_0 rfl (lv_at hl 1 rfl) ?_
  refine lv_iconst (v := 4) hx hb dX0_characterByMiddleStart_1 (by decide) ?_
  refine lv_topi (fun v1 e1 => ?_)
  have z1 : v1.toInt = 4 := zi_c e1 (by decide)
  refine lv_icmp_ne (tgt := 9) hx hb dX0_characterByMiddleStart_2 (by decide) (fun c2 => ?_) (fun c2 => ?_)
  ·
    have z2 := zi_ne c2
    refine lv_iload_n hx hb dX0_characterByMiddleStart_9 rfl (lv_at hl 1 rfl) ?_
    refine lv_iconst (v := 4) hx hb dX0_characterByMiddleStart_10 (by decide) ?_
    refine lv_topi (fun v3 e3 => ?_)
    have z3 : v3.toInt = 4 := zi_c e3 (by decide)
    refine lv_icmp_ge (tgt := 22) hx hb dX0_characterByMiddleStart_11 (by decide) (fun c4 => ?_) (fun c4 => ?_)
    ·
      have z4 := zi_le c4
      refine lv_bipush (v := 51) hx hb dX0_characterByMiddleStart_22 (by decide) ?_
      refine lv_topi (fun v5 e5 => ?_)
      have z5 : v5.toInt = 51 := zi_c e5 (by decide)
      refine lv_lload_n hx hb dX0_characterByMiddleStart_24 rfl (lv_at hl 0 rfl) ?_
      refine lv_iload_n hx hb dX0_characterByMiddleStart_25 rfl (lv_at hl 1 rfl) ?_
      refine call_i (wc := []) (wr := []) (run_S (As := [.int v5, .long pl, .int x]) (rest := []) ks_RX0_39 ⟨by decide, by decide⟩ ⟨rfl, rfl⟩ ⟨hx, hb, hml, hown, hts⟩ (c_Co_dataAt l D cI cJ cB v5 x pl  _) ct_blind (ct_pre (wc := []) hK hP hD hS hA hZ hN [] (by decide) rfl rfl) rfl hl.1 rfl (Nat.le_of_ble_eq_true rfl) dX0_characterByMiddleStart_26 ⟨Nat.le_of_ble_eq_true rfl, Nat.le_of_ble_eq_true rfl⟩) hP hD hS hA [] [] rfl rfl (by decide) (by decide) (fun r6 u H locs hw6 hP1 hD1 hS1 => ?_)
      clear hw6
      clear hP hD hS
      have hP : va_P D classes [] H := hP1
      have hD : va_D A [] := hD1
      have hS := hS1
      clear hP1 hD1 hS1
      have rg_r6 := zi_rg r6
      exact hret r6 () _ _ _ _ dX0_characterByMiddleStart_29 trivial (hP.sub [] rfl) (hD.sub [] (by decide) rfl) hS
    ·
      have z4 := zi_nle c4
      refine lv_lload_n hx hb dX0_characterByMiddleStart_14 rfl (lv_at hl 0 rfl) ?_
      refine lv_iload_n hx hb dX0_characterByMiddleStart_15 rfl (lv_at hl 1 rfl) ?_
      refine call_i (wc := []) (wr := []) (run_S (As := [.long pl, .int x]) (rest := []) ks_RX0_43 ⟨by decide, by decide⟩ ⟨rfl, rfl⟩ ⟨hx, hb, hml, hown, hts⟩ (c_Co_codedAt l D cI cJ cB x pl  _) ct_blind (ct_pre (wc := []) hK hP hD hS hA hZ hN [] (by decide) rfl rfl) rfl hl.1 rfl (Nat.le_of_ble_eq_true rfl) dX0_characterByMiddleStart_16 ⟨Nat.le_of_ble_eq_true rfl, Nat.le_of_ble_eq_true rfl⟩) hP hD hS hA [] [] rfl rfl (by decide) (by decide) (fun r8 u H locs hw8 hP1 hD1 hS1 => ?_)
      clear hw8
      clear hP hD hS
      have hP : va_P D classes [] H := hP1
      have hD : va_D A [] := hD1
      have hS := hS1
      clear hP1 hD1 hS1
      have rg_r8 := zi_rg r8
      refine lv_goto (tgt := 29) hx hb dX0_characterByMiddleStart_19 (by decide) ?_
      exact hret r8 () _ _ _ _ dX0_characterByMiddleStart_29 trivial (hP.sub [] rfl) (hD.sub [] (by decide) rfl) hS
  ·
    have z2 := zi_eq c2
    refine lv_sipush (v := 257) hx hb dX0_characterByMiddleStart_5 (by decide) ?_
    refine lv_topi (fun v10 e10 => ?_)
    have z10 : v10.toInt = 257 := zi_c e10 (by decide)
    exact hret v10 () _ _ _ _ dX0_characterByMiddleStart_8 trivial (hP.sub [] rfl) (hD.sub [] (by decide) rfl) hS

set_option maxHeartbeats 4000000 in
set_option maxRecDepth 100000 in
theorem c_Co_characterOf (l : Launch) (D : va_G) (cI cJ cB : ClassId) (ty : Int32) (x : Int32) (pl : Int64)  :
    cti l yX0_characterOf (wsOf yX0_characterOf cX0_characterOf 5 (some .int)) (rmL 4 89 0 0) D classes (tys3 cI cJ cB) [.int ty, .long pl, .int x] [] (fun (r : Int32) (u : Unit) => True) (fun u : Unit => ([] : va_W)) := by
  refine cti.of (by first | exact plainFor_of_name (by decide) | decide +kernel) (Nat.le_of_ble_eq_true rfl) (fun p e s m args below meth c A ls Q h hret => ?_)
  obtain ⟨hx, hb, hml, hown, hts, hnm, hP, hK, hD, hA, hS, hZ, hN, hl⟩ := h
  have hown : s.vm.findClass RX0 = some m.cls := hown
  have hl : lv_has ls 5 [(0, .int ty), (1, .long pl), (3, .int x)] := hl
  have hP : va_P D classes [] s.heap := hP
  have hD : va_D A [] := hD
  have rg_ty := zi_rg ty
  have rg_x := zi_rg x
  refine lv_iload_n hx hb dX0_characterOf_0 rfl (lv_at hl 0 rfl) ?_
  refine call_i (wc := []) (wr := []) (run_S (As := [.int ty]) (rest := []) ks_RX0_31 ⟨by decide, by decide⟩ ⟨rfl, rfl⟩ ⟨hx, hb, hml, hown, hts⟩ (c_Co_endPlace l D cI cJ cB ty  _) ct_blind (ct_pre (wc := []) hK hP hD hS hA hZ hN [] (by decide) rfl rfl) rfl hl.1 rfl (Nat.le_of_ble_eq_true rfl) dX0_characterOf_1 ⟨Nat.le_of_ble_eq_true rfl, Nat.le_of_ble_eq_true rfl⟩) hP hD hS hA [] [] rfl rfl (by decide) (by decide) (fun r1 u H locs hw1 hP1 hD1 hS1 => ?_)
  clear hw1
  clear hP hD hS
  have hP : va_P D classes [] H := hP1
  have hD : va_D A [] := hD1
  have hS := hS1
  clear hP1 hD1 hS1
  have rg_r1 := zi_rg r1
  refine lv_istore (lv' := [(4, .int r1), (0, .int ty), (1, .long pl), (3, .int x)]) hx hb dX0_characterOf_4 hl (by decide) rfl (fun ls hl => ?_)
  refine lv_iload hx hb dX0_characterOf_6 (lv_at hl 0 rfl) ?_
  refine lv_iconst (v := -1) hx hb dX0_characterOf_8 (by decide) ?_
  refine lv_topi (fun v2 e2 => ?_)
  have z2 : v2.toInt = (-1) := zi_c e2 (by decide)
  refine lv_icmp_eq (tgt := 21) hx hb dX0_characterOf_9 (by decide) (fun c3 => ?_) (fun c3 => ?_)
  ·
    have z3 := zi_eq c3
    refine lv_iload_n hx hb dX0_characterOf_21 rfl (lv_at hl 1 rfl) ?_
    have hs4 : (¬ ty.toInt = -1 ∧ ¬ ty.toInt = 30 ∧ ¬ ty.toInt = 51 ∧ ¬ ty.toInt = 120) ∨ ty.toInt = -1 ∨ ty.toInt = 30 ∨ ty.toInt = 51 ∨ ty.toInt = 120 := by omega
    rcases hs4 with z4 | z4 | z4 | z4 | z4
    ·
      refine lv_lookup (tgt := 100) (off := 78) hx hb dX0_characterOf_22 (by decide) (by show Op.lookupswitch.offset [(-1, 42), (30, 49), (51, 72), (120, 55)] 78 ty.toInt = 78; rw [Op.lookupswitch.offset_cons, if_neg (by omega), Op.lookupswitch.offset_cons, if_neg (by omega), Op.lookupswitch.offset_cons, if_neg (by omega), Op.lookupswitch.offset_cons, if_neg (by omega)]; rfl) (by decide) ?_
      refine lv_sipush (v := 259) hx hb dX0_characterOf_100 (by decide) ?_
      refine lv_topi (fun v5 e5 => ?_)
      have z5 : v5.toInt = 259 := zi_c e5 (by decide)
      exact hret v5 () _ _ _ _ dX0_characterOf_103 trivial (hP.sub [] rfl) (hD.sub [] (by decide) rfl) hS
    ·
      refine lv_lookup (tgt := 64) (off := 42) hx hb dX0_characterOf_22 (by decide) (by rw [z4]; rfl) (by decide) ?_
      refine lv_iload_n hx hb dX0_characterOf_64 rfl (lv_at hl 1 rfl) ?_
      refine lv_lload_n hx hb dX0_characterOf_65 rfl (lv_at hl 2 rfl) ?_
      refine lv_iload_n hx hb dX0_characterOf_66 rfl (lv_at hl 3 rfl) ?_
      refine call_i (wc := []) (wr := []) (run_S (As := [.int ty, .long pl, .int x]) (rest := []) ks_RX0_39 ⟨by decide, by decide⟩ ⟨rfl, rfl⟩ ⟨hx, hb, hml, hown, hts⟩ (c_Co_dataAt l D cI cJ cB ty x pl  _) ct_blind (ct_pre (wc := []) hK hP hD hS hA hZ hN [] (by decide) rfl rfl) rfl hl.1 rfl (Nat.le_of_ble_eq_true rfl) dX0_characterOf_67 ⟨Nat.le_of_ble_eq_true rfl, Nat.le_of_ble_eq_true rfl⟩) hP hD hS hA [] [] rfl rfl (by decide) (by decide) (fun r7 u H locs hw7 hP1 hD1 hS1 => ?_)
      clear hw7
      clear hP hD hS
      have hP : va_P D classes [] H := hP1
      have hD : va_D A [] := hD1
      have hS := hS1
      clear hP1 hD1 hS1
      have rg_r7 := zi_rg r7
      exact hret r7 () _ _ _ _ dX0_characterOf_70 trivial (hP.sub [] rfl) (hD.sub [] (by decide) rfl) hS
    ·
      refine lv_lookup (tgt := 71) (off := 49) hx hb dX0_characterOf_22 (by decide) (by rw [z4]; rfl) (by decide) ?_
      refine lv_lload_n hx hb dX0_characterOf_71 rfl (lv_at hl 2 rfl) ?_
      refine lv_iload_n hx hb dX0_characterOf_72 rfl (lv_at hl 3 rfl) ?_
      refine call_i (wc := []) (wr := []) (run_S (As := [.long pl, .int x]) (rest := []) ks_RX0_43 ⟨by decide, by decide⟩ ⟨rfl, rfl⟩ ⟨hx, hb, hml, hown, hts⟩ (c_Co_codedAt l D cI cJ cB x pl  _) ct_blind (ct_pre (wc := []) hK hP hD hS hA hZ hN [] (by decide) rfl rfl) rfl hl.1 rfl (Nat.le_of_ble_eq_true rfl) dX0_characterOf_73 ⟨Nat.le_of_ble_eq_true rfl, Nat.le_of_ble_eq_true rfl⟩) hP hD hS hA [] [] rfl rfl (by decide) (by decide) (fun r9 u H locs hw9 hP1 hD1 hS1 => ?_)
      clear hw9
      clear hP hD hS
      have hP : va_P D classes [] H := hP1
      have hD : va_D A [] := hD1
      have hS := hS1
      clear hP1 hD1 hS1
      have rg_r9 := zi_rg r9
      exact hret r9 () _ _ _ _ dX0_characterOf_76 trivial (hP.sub [] rfl) (hD.sub [] (by decide) rfl) hS
    ·
      refine lv_lookup (tgt := 94) (off := 72) hx hb dX0_characterOf_22 (by decide) (by rw [z4]; rfl) (by decide) ?_
      refine lv_lload_n hx hb dX0_characterOf_94 rfl (lv_at hl 2 rfl) ?_
      refine lv_iload_n hx hb dX0_characterOf_95 rfl (lv_at hl 3 rfl) ?_
      refine call_i (wc := []) (wr := []) (run_S (As := [.long pl, .int x]) (rest := []) ks_RX0_47 ⟨by decide, by decide⟩ ⟨rfl, rfl⟩ ⟨hx, hb, hml, hown, hts⟩ (c_Co_characterByMiddleStart l D cI cJ cB x pl  _) ct_blind (ct_pre (wc := []) hK hP hD hS hA hZ hN [] (by decide) rfl rfl) rfl hl.1 rfl (Nat.le_of_ble_eq_true rfl) dX0_characterOf_96 ⟨Nat.le_of_ble_eq_true rfl, Nat.le_of_ble_eq_true rfl⟩) hP hD hS hA [] [] rfl rfl (by decide) (by decide) (fun r11 u H locs hw11 hP1 hD1 hS1 => ?_)
      clear hw11
      clear hP hD hS
      have hP : va_P D classes [] H := hP1
      have hD : va_D A [] := hD1
      have hS := hS1
      clear hP1 hD1 hS1
      have rg_r11 := zi_rg r11
      exact hret r11 () _ _ _ _ dX0_characterOf_99 trivial (hP.sub [] rfl) (hD.sub [] (by decide) rfl) hS
    ·
      refine lv_lookup (tgt := 77) (off := 55) hx hb dX0_characterOf_22 (by decide) (by rw [z4]; rfl) (by decide) ?_
      refine lv_iload_n hx hb dX0_characterOf_77 rfl (lv_at hl 3 rfl) ?_
      refine lv_if_ne (tgt := 87) hx hb dX0_characterOf_78 (by decide) (fun c13 => ?_) (fun c13 => ?_)
      ·
        have z13 := zi_ne0 c13
        refine lv_iload_n hx hb dX0_characterOf_87 rfl (lv_at hl 1 rfl) ?_
        refine lv_lload_n hx hb dX0_characterOf_88 rfl (lv_at hl 2 rfl) ?_
        refine lv_iload_n hx hb dX0_characterOf_89 rfl (lv_at hl 3 rfl) ?_
        refine call_i (wc := []) (wr := []) (run_S (As := [.int ty, .long pl, .int x]) (rest := []) ks_RX0_39 ⟨by decide, by decide⟩ ⟨rfl, rfl⟩ ⟨hx, hb, hml, hown, hts⟩ (c_Co_dataAt l D cI cJ cB ty x pl  _) ct_blind (ct_pre (wc := []) hK hP hD hS hA hZ hN [] (by decide) rfl rfl) rfl hl.1 rfl (Nat.le_of_ble_eq_true rfl) dX0_characterOf_90 ⟨Nat.le_of_ble_eq_true rfl, Nat.le_of_ble_eq_true rfl⟩) hP hD hS hA [] [] rfl rfl (by decide) (by decide) (fun r14 u H locs hw14 hP1 hD1 hS1 => ?_)
        clear hw14
        clear hP hD hS
        have hP : va_P D classes [] H := hP1
        have hD : va_D A [] := hD1
        have hS := hS1
        clear hP1 hD1 hS1
        have rg_r14 := zi_rg r14
        exact hret r14 () _ _ _ _ dX0_characterOf_93 trivial (hP.sub [] rfl) (hD.sub [] (by decide) rfl) hS
      ·
        have z13 := zi_eq0 c13
        refine lv_sipush (v := 257) hx hb dX0_characterOf_81 (by decide) ?_
        refine lv_topi (fun v16 e16 => ?_)
        have z16 : v16.toInt = 257 := zi_c e16 (by decide)
        refine lv_goto (tgt := 93) hx hb dX0_characterOf_84 (by decide) ?_
        exact hret v16 () _ _ _ _ dX0_characterOf_93 trivial (hP.sub [] rfl) (hD.sub [] (by decide) rfl) hS
  ·
    have z3 := zi_ne c3
    refine lv_iload hx hb dX0_characterOf_12 (lv_at hl 0 rfl) ?_
    refine lv_iload_n hx hb dX0_characterOf_14 rfl (lv_at hl 1 rfl) ?_
    refine lv_lload_n hx hb dX0_characterOf_15 rfl (lv_at hl 2 rfl) ?_
    refine lv_iload_n hx hb dX0_characterOf_16 rfl (lv_at hl 3 rfl) ?_
    refine call_i (wc := []) (wr := []) (run_S (As := [.int r1, .int ty, .long pl, .int x]) (rest := []) ks_RX0_35 ⟨by decide, by decide⟩ ⟨rfl, rfl⟩ ⟨hx, hb, hml, hown, hts⟩ (c_Co_characterByEnd l D cI cJ cB r1 ty x pl  _) ct_blind (ct_pre (wc := []) hK hP hD hS hA hZ hN [] (by decide) rfl rfl) rfl hl.1 rfl (Nat.le_of_ble_eq_true rfl) dX0_characterOf_17 ⟨Nat.le_of_ble_eq_true rfl, Nat.le_of_ble_eq_true rfl⟩) hP hD hS hA [] [] rfl rfl (by decide) (by decide) (fun r18 u H locs hw18 hP1 hD1 hS1 => ?_)
    clear hw18
    clear hP hD hS
    have hP : va_P D classes [] H := hP1
    have hD : va_D A [] := hD1
    have hS := hS1
    clear hP1 hD1 hS1
    have rg_r18 := zi_rg r18
    exact hret r18 () _ _ _ _ dX0_characterOf_20 trivial (hP.sub [] rfl) (hD.sub [] (by decide) rfl) hS
