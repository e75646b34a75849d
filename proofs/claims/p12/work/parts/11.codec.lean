set_option maxHeartbeats 4000000 in
set_option maxRecDepth 100000 in
theorem c_Co_isData (l : Launch) (D : va_G) (cI cJ cB : ClassId) (x : Int32)  :
    cti l yX0_isData (wsOf yX0_isData cX0_isData 1 (some .boolean)) (rmL 0 0 0 0) D classes (tys3 cI cJ cB) [.int x] [] (fun (r : Int32) (u : Unit) => (r.toInt = 1 ∧ x.toInt < 256) ∨ (r.toInt = 0 ∧ 256 ≤ x.toInt)) (fun u : Unit => ([] : va_W)) := by
  refine ctz.of (by first | exact plainFor_of_name (by decide) | decide +kernel) (Nat.le_of_ble_eq_true rfl) (fun p e s m args below meth c A ls Q h hret => ?_)
  obtain ⟨hx, hb, hml, hown, hts, hnm, hP, hK, hD, hA, hS, hZ, hN, hl⟩ := h
  have hown : s.vm.findClass RX0 = some m.cls := hown
  have hl : lv_has ls 1 [(0, .int x)] := hl
  have hP : va_P D classes [] s.heap := hP
  have hD : va_D A [] := hD
  have rg_x := zi_rg x
  refine lv_iload_n hx hb dX0_isData_0 rfl (lv_at hl 0 rfl) ?_
  refine lv_sipush (v := 256) hx hb dX0_isData_1 (by decide) ?_
  refine lv_topi (fun v1 e1 => ?_)
  have z1 : v1.toInt = 256 := zi_c e1 (by decide)
  refine lv_icmp_ge (tgt := 11) hx hb dX0_isData_4 (by decide) (fun c2 => ?_) (fun c2 => ?_)
  ·
    have z2 := zi_le c2
    refine lv_iconst (v := 0) hx hb dX0_isData_11 (by decide) ?_
    refine lv_topi (fun v3 e3 => ?_)
    have z3 : v3.toInt = 0 := zi_c e3 (by decide)
    have hq4 : (v3.toInt = 1 ∧ x.toInt < 256) ∨ (v3.toInt = 0 ∧ 256 ≤ x.toInt) := (by omega)
    exact hret v3 () _ _ _ _ dX0_isData_12 (zb_n (by omega)) hq4 (hP.sub [] rfl) (hD.sub [] (by decide) rfl) hS
  ·
    have z2 := zi_nle c2
    refine lv_iconst (v := 1) hx hb dX0_isData_7 (by decide) ?_
    refine lv_topi (fun v5 e5 => ?_)
    have z5 : v5.toInt = 1 := zi_c e5 (by decide)
    refine lv_goto (tgt := 12) hx hb dX0_isData_8 (by decide) ?_
    have hq6 : (v5.toInt = 1 ∧ x.toInt < 256) ∨ (v5.toInt = 0 ∧ 256 ≤ x.toInt) := (by omega)
    exact hret v5 () _ _ _ _ dX0_isData_12 (zb_n (by omega)) hq6 (hP.sub [] rfl) (hD.sub [] (by decide) rfl) hS

set_option maxHeartbeats 4000000 in
set_option maxRecDepth 100000 in
theorem c_Co_codeShift (l : Launch) (D : va_G) (cI cJ cB : ClassId) (x : Int32) (h1 : 0 ≤ x.toInt ∧ x.toInt < 8) :
    cti l yX0_codeShift (wsOf yX0_codeShift cX0_codeShift 1 (some .int)) (rmL 0 0 0 0) D classes (tys3 cI cJ cB) [.int x] [] (fun (r : Int32) (u : Unit) => r.toInt = 8 + 7 * x.toInt) (fun u : Unit => ([] : va_W)) := by
  refine cti.of (by first | exact plainFor_of_name (by decide) | decide +kernel) (Nat.le_of_ble_eq_true rfl) (fun p e s m args below meth c A ls Q h hret => ?_)
  obtain ⟨hx, hb, hml, hown, hts, hnm, hP, hK, hD, hA, hS, hZ, hN, hl⟩ := h
  have hown : s.vm.findClass RX0 = some m.cls := hown
  have hl : lv_has ls 1 [(0, .int x)] := hl
  have hP : va_P D classes [] s.heap := hP
  have hD : va_D A [] := hD
  have rg_x := zi_rg x
  refine lv_bipush (v := 8) hx hb dX0_codeShift_0 (by decide) ?_
  refine lv_topi (fun v1 e1 => ?_)
  have z1 : v1.toInt = 8 := zi_c e1 (by decide)
  refine lv_iload_n hx hb dX0_codeShift_2 rfl (lv_at hl 0 rfl) ?_
  refine lv_bipush (v := 7) hx hb dX0_codeShift_3 (by decide) ?_
  refine lv_topi (fun v2 e2 => ?_)
  have z2 : v2.toInt = 7 := zi_c e2 (by decide)
  refine lv_imul hx hb dX0_codeShift_5 ?_
  refine lv_topi (fun v3 e3 => ?_)
  first | have z3 := zi_mul (k := 7) e3 (by omega) (by omega) | skip
  refine lv_iadd hx hb dX0_codeShift_6 ?_
  refine lv_topi (fun v4 e4 => ?_)
  first | have z4 := zi_add e4 (by omega) | skip
  have hq5 : v4.toInt = 8 + 7 * x.toInt := (by omega)
  exact hret v4 () _ _ _ _ dX0_codeShift_7 hq5 (hP.sub [] rfl) (hD.sub [] (by decide) rfl) hS

set_option maxHeartbeats 4000000 in
set_option maxRecDepth 100000 in
theorem c_Co_endPlace (l : Launch) (D : va_G) (cI cJ cB : ClassId) (ty : Int32)  :
    cti l yX0_endPlace (wsOf yX0_endPlace cX0_endPlace 2 (some .int)) (rmL 0 0 0 0) D classes (tys3 cI cJ cB) [.int ty] [] (fun (r : Int32) (u : Unit) => (r.toInt = -1 ∧ ∀ d, d < 8 → ¬ ty = st_k d) ∨ ((0 ≤ r.toInt ∧ r.toInt < 8) ∧ ty = st_k r.toInt.toNat)) (fun u : Unit => ([] : va_W)) := by
  refine cti.of (by first | exact plainFor_of_name (by decide) | decide +kernel) (Nat.le_of_ble_eq_true rfl) (fun p e s m args below meth c A ls Q h hret => ?_)
  obtain ⟨hx, hb, hml, hown, hts, hnm, hP, hK, hD, hA, hS, hZ, hN, hl⟩ := h
  have hown : s.vm.findClass RX0 = some m.cls := hown
  have hl : lv_has ls 2 [(0, .int ty)] := hl
  obtain ⟨tE, hZ1, hT1⟩ := id hZ
  have hP : va_P D classes [] s.heap := hP
  have hD : va_D A [] := hD
  have rg_ty := zi_rg ty
  refine lv_iconst (v := 0) hx hb dX0_endPlace_0 (by decide) ?_
  refine lv_topi (fun v1 e1 => ?_)
  have z1 : v1.toInt = 0 := zi_c e1 (by decide)
  refine lv_istore_n (lv' := [(1, .int v1), (0, .int ty)]) hx hb dX0_endPlace_1 rfl hl (by decide) rfl (fun ls hl => ?_)
  have J2 : ∀ (n : Nat) (k : Int32) (H : Heap) (locs : List Loc) (ls : Array Slot), ((8 - k.toInt).toNat) < n → (0 ≤ k.toInt ∧ k.toInt ≤ 8) → (∀ d, d < k.toInt.toNat → ¬ ty = st_k d) → va_P D classes [] H → va_D A [] → va_S A s.heap H locs → lv_has ls 2 [(0, .int ty), (1, .int k)] → W p l e (rmL 0 0 0 0) s m args below meth c H locs 0 0 Q (F0 m 2 ls []) := by
    intro n
    induction n with
    | zero => intro k H locs ls hmu; exact absurd hmu (Nat.not_lt_zero _)
    | succ n ih2 =>
      intro k H locs ls hmu2 i2_0 i2_1 hP hD hS hl
      have rg_k := zi_rg k
      refine lv_iload_n hx hb dX0_endPlace_2 rfl (lv_at hl 1 rfl) ?_
      refine va_gets hx hb hZ1 hS hown (hts _ wk94) (fun _ h9 => h9) dX0_endPlace_3 ?_
      refine va_tlen hx hb hT1 hS (v := 8) rfl dX0_endPlace_6 ?_
      refine lv_topi (fun v2 e2 => ?_)
      have z2 : v2.toInt = 8 := zi_c e2 (by decide)
      refine lv_icmp_ge (tgt := 27) hx hb dX0_endPlace_7 (by decide) (fun c3 => ?_) (fun c3 => ?_)
      ·
        have z3 := zi_le c3
        refine lv_iconst (v := -1) hx hb dX0_endPlace_27 (by decide) ?_
        refine lv_topi (fun v4 e4 => ?_)
        have z4 : v4.toInt = (-1) := zi_c e4 (by decide)
        have hq5 : (v4.toInt = -1 ∧ ∀ d, d < 8 → ¬ ty = st_k d) ∨ ((0 ≤ v4.toInt ∧ v4.toInt < 8) ∧ ty = st_k v4.toInt.toNat) := (Or.inl ⟨z4, fun d hd => i2_1 d (by omega)⟩)
        exact hret v4 () _ _ _ _ dX0_endPlace_28 hq5 (hP.sub [] rfl) (hD.sub [] (by decide) rfl) hS
      ·
        have z3 := zi_nle c3
        refine va_gets hx hb hZ1 hS hown (hts _ wk94) (fun _ h9 => h9) dX0_endPlace_10 ?_
        refine lv_iload_n hx hb dX0_endPlace_13 rfl (lv_at hl 1 rfl) ?_
        refine va_ti hx hb hT1 hS (zi_in (by omega)) rfl dX0_endPlace_14 ?_
        refine lv_topi (fun v6 e6 => ?_)
        refine lv_iload_n hx hb dX0_endPlace_15 rfl (lv_at hl 0 rfl) ?_
        refine lv_icmp_ne (tgt := 21) hx hb dX0_endPlace_16 (by decide) (fun c7 => ?_) (fun c7 => ?_)
        ·
          have z7 := zi_ne c7
          obtain ⟨v8, e8⟩ : ∃ y : Int32, y = k + 1 := ⟨_, rfl⟩
          first | have z8 := zi_inc (z := 1) 1 (by decide) e8 (by omega) | skip
          refine lv_iinc (v := v8) (lv' := [(1, .int v8), (0, .int ty)]) hx hb dX0_endPlace_21 hl (k := 1) rfl (by rw [e8]; rfl) (by decide) rfl (fun ls hl => ?_)
          refine lv_goto (tgt := 2) hx hb dX0_endPlace_24 (by decide) ?_
          exact ih2 v8 _ _ _ (by omega) (by omega) (fun d hd => by rcases (show d < k.toInt.toNat ∨ d = k.toInt.toNat by omega) with g | g; (· exact i2_1 d g); (· rw [g, show st_k k.toInt.toNat = v6 from e6.symm]; exact fun q => c7 q.symm)) (hP.sub [] rfl) (hD.sub [] (by decide) rfl) hS (lv_sub hl [1, 0] rfl)
        ·
          have z7 := zi_eq c7
          refine lv_iload_n hx hb dX0_endPlace_19 rfl (lv_at hl 1 rfl) ?_
          have hq9 : (k.toInt = -1 ∧ ∀ d, d < 8 → ¬ ty = st_k d) ∨ ((0 ≤ k.toInt ∧ k.toInt < 8) ∧ ty = st_k k.toInt.toNat) := (Or.inr ⟨by omega, by rw [← c7]; exact e6⟩)
          exact hret k () _ _ _ _ dX0_endPlace_20 hq9 (hP.sub [] rfl) (hD.sub [] (by decide) rfl) hS
  exact J2 _ v1 _ _ _ (Nat.lt_succ_self _) (by omega) (fun d hd => absurd hd (by omega)) (hP.sub [] rfl) (hD.sub [] (by decide) rfl) hS (lv_sub hl [1, 0] rfl)

set_option maxHeartbeats 4000000 in
set_option maxRecDepth 100000 in
theorem c_Co_dataShift (l : Launch) (D : va_G) (cI cJ cB : ClassId) (ty : Int32) (x : Int32) (h1 : 0 ≤ x.toInt ∧ x.toInt < 8) :
    cti l yX0_dataShift (wsOf yX0_dataShift cX0_dataShift 2 (some .int)) (rmL 1 21 0 0) D classes (tys3 cI cJ cB) [.int ty, .int x] [] (fun (r : Int32) (u : Unit) => (¬ eT ty → r.toInt = 8 * x.toInt) ∧ (eT ty → r.toInt = 8 + 8 * x.toInt)) (fun u : Unit => ([] : va_W)) := by
  refine cti.of (by first | exact plainFor_of_name (by decide) | decide +kernel) (Nat.le_of_ble_eq_true rfl) (fun p e s m args below meth c A ls Q h hret => ?_)
  obtain ⟨hx, hb, hml, hown, hts, hnm, hP, hK, hD, hA, hS, hZ, hN, hl⟩ := h
  have hown : s.vm.findClass RX0 = some m.cls := hown
  have hl : lv_has ls 2 [(0, .int ty), (1, .int x)] := hl
  have hP : va_P D classes [] s.heap := hP
  have hD : va_D A [] := hD
  have rg_ty := zi_rg ty
  have rg_x := zi_rg x
  refine lv_iload_n hx hb dX0_dataShift_0 rfl (lv_at hl 0 rfl) ?_
  refine call_i (wc := []) (wr := []) (run_S (As := [.int ty]) (rest := []) ks_RX0_31 ⟨by decide, by decide⟩ ⟨rfl, rfl⟩ ⟨hx, hb, hml, hown, hts⟩ (c_Co_endPlace l D cI cJ cB ty  _) ct_blind (ct_pre (wc := []) hK hP hD hS hA hZ hN [] (by decide) rfl rfl) rfl hl.1 rfl (Nat.le_of_ble_eq_true rfl) dX0_dataShift_1 ⟨Nat.le_of_ble_eq_true rfl, Nat.le_of_ble_eq_true rfl⟩) hP hD hS hA [] [] rfl rfl (by decide) (by decide) (fun r1 u H locs hw1 hP1 hD1 hS1 => ?_)
  have hw1 : (r1.toInt = -1 ∧ ∀ d, d < 8 → ¬ ty = st_k d) ∨ ((0 ≤ r1.toInt ∧ r1.toInt < 8) ∧ ty = st_k r1.toInt.toNat) := hw1
  clear hP hD hS
  have hP : va_P D classes [] H := hP1
  have hD : va_D A [] := hD1
  have hS := hS1
  clear hP1 hD1 hS1
  have rg_r1 := zi_rg r1
  refine lv_iconst (v := -1) hx hb dX0_dataShift_4 (by decide) ?_
  refine lv_topi (fun v2 e2 => ?_)
  have z2 : v2.toInt = (-1) := zi_c e2 (by decide)
  refine lv_icmp_ne (tgt := 15) hx hb dX0_dataShift_5 (by decide) (fun c3 => ?_) (fun c3 => ?_)
  ·
    have z3 := zi_ne c3
    refine lv_bipush (v := 8) hx hb dX0_dataShift_15 (by decide) ?_
    refine lv_topi (fun v4 e4 => ?_)
    have z4 : v4.toInt = 8 := zi_c e4 (by decide)
    refine lv_iload_n hx hb dX0_dataShift_17 rfl (lv_at hl 1 rfl) ?_
    refine lv_bipush (v := 8) hx hb dX0_dataShift_18 (by decide) ?_
    refine lv_topi (fun v5 e5 => ?_)
    have z5 : v5.toInt = 8 := zi_c e5 (by decide)
    refine lv_imul hx hb dX0_dataShift_20 ?_
    refine lv_topi (fun v6 e6 => ?_)
    first | have z6 := zi_mul (k := 8) e6 (by omega) (by omega) | skip
    refine lv_iadd hx hb dX0_dataShift_21 ?_
    refine lv_topi (fun v7 e7 => ?_)
    first | have z7 := zi_add e7 (by omega) | skip
    have hq8 : (¬ eT ty → v7.toInt = 8 * x.toInt) ∧ (eT ty → v7.toInt = 8 + 8 * x.toInt) := (by refine ⟨fun q => ?_, fun q => ?_⟩ <;> (rcases hw1 with g | g) <;> first | omega | exact absurd (show eT ty from ⟨_, by omega, g.2⟩) q | (obtain ⟨d, hd, hq⟩ := q; exact absurd hq (g.2 d hd)) | (exfalso; omega))
    exact hret v7 () _ _ _ _ dX0_dataShift_22 hq8 (hP.sub [] rfl) (hD.sub [] (by decide) rfl) hS
  ·
    have z3 := zi_eq c3
    refine lv_iload_n hx hb dX0_dataShift_8 rfl (lv_at hl 1 rfl) ?_
    refine lv_bipush (v := 8) hx hb dX0_dataShift_9 (by decide) ?_
    refine lv_topi (fun v9 e9 => ?_)
    have z9 : v9.toInt = 8 := zi_c e9 (by decide)
    refine lv_imul hx hb dX0_dataShift_11 ?_
    refine lv_topi (fun v10 e10 => ?_)
    first | have z10 := zi_mul (k := 8) e10 (by omega) (by omega) | skip
    refine lv_goto (tgt := 22) hx hb dX0_dataShift_12 (by decide) ?_
    have hq11 : (¬ eT ty → v10.toInt = 8 * x.toInt) ∧ (eT ty → v10.toInt = 8 + 8 * x.toInt) := (by refine ⟨fun q => ?_, fun q => ?_⟩ <;> (rcases hw1 with g | g) <;> first | omega | exact absurd (show eT ty from ⟨_, by omega, g.2⟩) q | (obtain ⟨d, hd, hq⟩ := q; exact absurd hq (g.2 d hd)) | (exfalso; omega))
    exact hret v10 () _ _ _ _ dX0_dataShift_22 hq11 (hP.sub [] rfl) (hD.sub [] (by decide) rfl) hS

set_option maxHeartbeats 4000000 in
set_option maxRecDepth 100000 in
theorem c_Co_leadingData (l : Launch) (D : va_G) (cI cJ cB : ClassId) (aG : Nat) (fg : Nat → Int32)  :
    cti l yX0_leadingData (wsOf yX0_leadingData cX0_leadingData 2 (some .int)) (rmL 1 20 0 0) D classes (tys3 cI cJ cB) [.ref aG] [(aG, .inl (cI, 8, .inl fg))] (fun (r : Int32) (u : Unit) => (0 ≤ r.toInt ∧ r.toInt ≤ 8) ∧ aD fg 0 r.toInt.toNat ∧ (r.toInt < 8 → 256 ≤ (fg r.toInt.toNat).toInt)) (fun u : Unit => ([(aG, .inl (cI, 8, .inl fg))] : va_W)) := by
  refine cti.of (by first | exact plainFor_of_name (by decide) | decide +kernel) (Nat.le_of_ble_eq_true rfl) (fun p e s m args below meth c A ls Q h hret => ?_)
  obtain ⟨hx, hb, hml, hown, hts, hnm, hP, hK, hD, hA, hS, hZ, hN, hl⟩ := h
  have hown : s.vm.findClass RX0 = some m.cls := hown
  have hl : lv_has ls 2 [(0, .ref aG)] := hl
  have hP : va_P D classes [(aG, .inl (cI, 8, .inl fg))] s.heap := hP
  have hD : va_D A [(aG, .inl (cI, 8, .inl fg))] := hD
  refine lv_iconst (v := 0) hx hb dX0_leadingData_0 (by decide) ?_
  refine lv_topi (fun v1 e1 => ?_)
  have z1 : v1.toInt = 0 := zi_c e1 (by decide)
  refine lv_istore_n (lv' := [(1, .int v1), (0, .ref aG)]) hx hb dX0_leadingData_1 rfl hl (by decide) rfl (fun ls hl => ?_)
  have J2 : ∀ (n : Nat) (k : Int32) (H : Heap) (locs : List Loc) (ls : Array Slot), ((8 - k.toInt).toNat) < n → (0 ≤ k.toInt ∧ k.toInt ≤ 8) → (aD fg 0 k.toInt.toNat) → va_P D classes [(aG, .inl (cI, 8, .inl fg))] H → va_D A [(aG, .inl (cI, 8, .inl fg))] → va_S A s.heap H locs → lv_has ls 2 [(0, .ref aG), (1, .int k)] → W p l e (rmL 1 20 0 0) s m args below meth c H locs 0 0 Q (F0 m 2 ls []) := by
    intro n
    induction n with
    | zero => intro k H locs ls hmu; exact absurd hmu (Nat.not_lt_zero _)
    | succ n ih2 =>
      intro k H locs ls hmu2 i2_0 i2_1 hP hD hS hl
      have rg_k := zi_rg k
      refine lv_iload_n hx hb dX0_leadingData_2 rfl (lv_at hl 1 rfl) ?_
      refine lv_bipush (v := 8) hx hb dX0_leadingData_3 (by decide) ?_
      refine lv_topi (fun v2 e2 => ?_)
      have z2 : v2.toInt = 8 := zi_c e2 (by decide)
      refine lv_icmp_ge (tgt := 23) hx hb dX0_leadingData_5 (by decide) (fun c3 => ?_) (fun c3 => ?_)
      ·
        have z3 := zi_le c3
        refine lv_iload_n hx hb dX0_leadingData_23 rfl (lv_at hl 1 rfl) ?_
        have hq4 : (0 ≤ k.toInt ∧ k.toInt ≤ 8) ∧ aD fg 0 k.toInt.toNat ∧ (k.toInt < 8 → 256 ≤ (fg k.toInt.toNat).toInt) := (by refine ⟨by omega, i2_1, fun q => ?_⟩; first | (exfalso; omega) | (rw [show fg k.toInt.toNat = v5 from e5.symm]; omega))
        exact hret k () _ _ _ _ dX0_leadingData_24 hq4 (hP.sub [0] rfl) (hD.sub [0] (by decide) rfl) hS
      ·
        have z3 := zi_nle c3
        refine lv_aload_n hx hb dX0_leadingData_8 rfl (lv_at hl 0 rfl) ?_
        refine lv_iload_n hx hb dX0_leadingData_9 rfl (lv_at hl 1 rfl) ?_
        refine va_iald hx hb hK hP 0 0 rfl rfl (zi_in (by omega)) dX0_leadingData_10 ?_
        refine lv_topi (fun v5 e5 => ?_)
        refine call_i (wc := []) (wr := [(aG, .inl (cI, 8, .inl fg))]) (run_S (As := [.int v5]) (rest := []) ks_RX0_57 ⟨by decide, by decide⟩ ⟨rfl, rfl⟩ ⟨hx, hb, hml, hown, hts⟩ (c_Co_isData l D cI cJ cB v5  _) ct_blind (ct_pre (wc := []) hK hP hD hS hA hZ hN [] (by decide) rfl rfl) rfl hl.1 rfl (Nat.le_of_ble_eq_true rfl) dX0_leadingData_11 ⟨Nat.le_of_ble_eq_true rfl, Nat.le_of_ble_eq_true rfl⟩) hP hD hS hA [] [0] rfl rfl (by decide) (by decide) (fun r6 u H locs hw6 hP1 hD1 hS1 => ?_)
        have hw6 : (r6.toInt = 1 ∧ v5.toInt < 256) ∨ (r6.toInt = 0 ∧ 256 ≤ v5.toInt) := hw6
        clear hP hD hS
        have hP : va_P D classes [(aG, .inl (cI, 8, .inl fg))] H := hP1
        have hD : va_D A [(aG, .inl (cI, 8, .inl fg))] := hD1
        have hS := hS1
        clear hP1 hD1 hS1
        have rg_r6 := zi_rg r6
        refine lv_if_eq (tgt := 23) hx hb dX0_leadingData_14 (by decide) (fun c7 => ?_) (fun c7 => ?_)
        ·
          have z7 := zi_eq0 c7
          refine lv_iload_n hx hb dX0_leadingData_23 rfl (lv_at hl 1 rfl) ?_
          have hq8 : (0 ≤ k.toInt ∧ k.toInt ≤ 8) ∧ aD fg 0 k.toInt.toNat ∧ (k.toInt < 8 → 256 ≤ (fg k.toInt.toNat).toInt) := (by refine ⟨by omega, i2_1, fun q => ?_⟩; first | (exfalso; omega) | (rw [show fg k.toInt.toNat = v5 from e5.symm]; omega))
          exact hret k () _ _ _ _ dX0_leadingData_24 hq8 (hP.sub [0] rfl) (hD.sub [0] (by decide) rfl) hS
        ·
          have z7 := zi_ne0 c7
          obtain ⟨v9, e9⟩ : ∃ y : Int32, y = k + 1 := ⟨_, rfl⟩
          first | have z9 := zi_inc (z := 1) 1 (by decide) e9 (by omega) | skip
          refine lv_iinc (v := v9) (lv' := [(1, .int v9), (0, .ref aG)]) hx hb dX0_leadingData_17 hl (k := 1) rfl (by rw [e9]; rfl) (by decide) rfl (fun ls hl => ?_)
          refine lv_goto (tgt := 2) hx hb dX0_leadingData_20 (by decide) ?_
          exact ih2 v9 _ _ _ (by omega) (by omega) (fun q h1 h2 => by rcases (show q < k.toInt.toNat ∨ q = k.toInt.toNat by omega) with g | g; (· exact i2_1 q h1 g); (· rw [g, show fg k.toInt.toNat = v5 from e5.symm]; omega)) (hP.sub [0] rfl) (hD.sub [0] (by decide) rfl) hS (lv_sub hl [1, 0] rfl)
  exact J2 _ v1 _ _ _ (Nat.lt_succ_self _) (by omega) (fun q h1 h2 => absurd h2 (by omega)) (hP.sub [0] rfl) (hD.sub [0] (by decide) rfl) hS (lv_sub hl [1, 0] rfl)

set_option maxHeartbeats 4000000 in
set_option maxRecDepth 100000 in
theorem c_Co_areData (l : Launch) (D : va_G) (cI cJ cB : ClassId) (aG : Nat) (fg : Nat → Int32) (fr : Int32) (h1 : 0 ≤ fr.toInt ∧ fr.toInt ≤ 8) :
    cti l yX0_areData (wsOf yX0_areData cX0_areData 3 (some .boolean)) (rmL 1 20 0 0) D classes (tys3 cI cJ cB) [.ref aG, .int fr] [(aG, .inl (cI, 8, .inl fg))] (fun (r : Int32) (u : Unit) => (r.toInt = 1 ∧ aD fg fr.toInt.toNat 8) ∨ (r.toInt = 0 ∧ ¬ aD fg fr.toInt.toNat 8)) (fun u : Unit => ([(aG, .inl (cI, 8, .inl fg))] : va_W)) := by
  refine ctz.of (by first | exact plainFor_of_name (by decide) | decide +kernel) (Nat.le_of_ble_eq_true rfl) (fun p e s m args below meth c A ls Q h hret => ?_)
  obtain ⟨hx, hb, hml, hown, hts, hnm, hP, hK, hD, hA, hS, hZ, hN, hl⟩ := h
  have hown : s.vm.findClass RX0 = some m.cls := hown
  have hl : lv_has ls 3 [(0, .ref aG), (1, .int fr)] := hl
  have hP : va_P D classes [(aG, .inl (cI, 8, .inl fg))] s.heap := hP
  have hD : va_D A [(aG, .inl (cI, 8, .inl fg))] := hD
  have rg_fr := zi_rg fr
  refine lv_iload_n hx hb dX0_areData_0 rfl (lv_at hl 1 rfl) ?_
  refine lv_istore_n (lv' := [(2, .int fr), (0, .ref aG), (1, .int fr)]) hx hb dX0_areData_1 rfl hl (by decide) rfl (fun ls hl => ?_)
  have J2 : ∀ (n : Nat) (k : Int32) (H : Heap) (locs : List Loc) (ls : Array Slot), ((8 - k.toInt).toNat) < n → (0 ≤ k.toInt ∧ k.toInt ≤ 8) → (aD fg fr.toInt.toNat k.toInt.toNat) → (fr.toInt ≤ k.toInt) → va_P D classes [(aG, .inl (cI, 8, .inl fg))] H → va_D A [(aG, .inl (cI, 8, .inl fg))] → va_S A s.heap H locs → lv_has ls 3 [(0, .ref aG), (1, .int fr), (2, .int k)] → W p l e (rmL 1 20 0 0) s m args below meth c H locs 0 0 Q (F0 m 2 ls []) := by
    intro n
    induction n with
    | zero => intro k H locs ls hmu; exact absurd hmu (Nat.not_lt_zero _)
    | succ n ih2 =>
      intro k H locs ls hmu2 i2_0 i2_1 i2_2 hP hD hS hl
      have rg_k := zi_rg k
      refine lv_iload_n hx hb dX0_areData_2 rfl (lv_at hl 2 rfl) ?_
      refine lv_bipush (v := 8) hx hb dX0_areData_3 (by decide) ?_
      refine lv_topi (fun v1 e1 => ?_)
      have z1 : v1.toInt = 8 := zi_c e1 (by decide)
      refine lv_icmp_ge (tgt := 25) hx hb dX0_areData_5 (by decide) (fun c2 => ?_) (fun c2 => ?_)
      ·
        have z2 := zi_le c2
        refine lv_iconst (v := 1) hx hb dX0_areData_25 (by decide) ?_
        refine lv_topi (fun v3 e3 => ?_)
        have z3 : v3.toInt = 1 := zi_c e3 (by decide)
        have hq4 : (v3.toInt = 1 ∧ aD fg fr.toInt.toNat 8) ∨ (v3.toInt = 0 ∧ ¬ aD fg fr.toInt.toNat 8) := (Or.inl ⟨z3, by rw [show 8 = k.toInt.toNat by omega]; exact i2_1⟩)
        exact hret v3 () _ _ _ _ dX0_areData_26 (zb_n (by omega)) hq4 (hP.sub [0] rfl) (hD.sub [0] (by decide) rfl) hS
      ·
        have z2 := zi_nle c2
        refine lv_aload_n hx hb dX0_areData_8 rfl (lv_at hl 0 rfl) ?_
        refine lv_iload_n hx hb dX0_areData_9 rfl (lv_at hl 2 rfl) ?_
        refine va_iald hx hb hK hP 0 0 rfl rfl (zi_in (by omega)) dX0_areData_10 ?_
        refine lv_topi (fun v5 e5 => ?_)
        refine call_i (wc := []) (wr := [(aG, .inl (cI, 8, .inl fg))]) (run_S (As := [.int v5]) (rest := []) ks_RX0_57 ⟨by decide, by decide⟩ ⟨rfl, rfl⟩ ⟨hx, hb, hml, hown, hts⟩ (c_Co_isData l D cI cJ cB v5  _) ct_blind (ct_pre (wc := []) hK hP hD hS hA hZ hN [] (by decide) rfl rfl) rfl hl.1 rfl (Nat.le_of_ble_eq_true rfl) dX0_areData_11 ⟨Nat.le_of_ble_eq_true rfl, Nat.le_of_ble_eq_true rfl⟩) hP hD hS hA [] [0] rfl rfl (by decide) (by decide) (fun r6 u H locs hw6 hP1 hD1 hS1 => ?_)
        have hw6 : (r6.toInt = 1 ∧ v5.toInt < 256) ∨ (r6.toInt = 0 ∧ 256 ≤ v5.toInt) := hw6
        clear hP hD hS
        have hP : va_P D classes [(aG, .inl (cI, 8, .inl fg))] H := hP1
        have hD : va_D A [(aG, .inl (cI, 8, .inl fg))] := hD1
        have hS := hS1
        clear hP1 hD1 hS1
        have rg_r6 := zi_rg r6
        refine lv_if_ne (tgt := 19) hx hb dX0_areData_14 (by decide) (fun c7 => ?_) (fun c7 => ?_)
        ·
          have z7 := zi_ne0 c7
          obtain ⟨v8, e8⟩ : ∃ y : Int32, y = k + 1 := ⟨_, rfl⟩
          first | have z8 := zi_inc (z := 1) 1 (by decide) e8 (by omega) | skip
          refine lv_iinc (v := v8) (lv' := [(2, .int v8), (0, .ref aG), (1, .int fr)]) hx hb dX0_areData_19 hl (k := 2) rfl (by rw [e8]; rfl) (by decide) rfl (fun ls hl => ?_)
          refine lv_goto (tgt := 2) hx hb dX0_areData_22 (by decide) ?_
          exact ih2 v8 _ _ _ (by omega) (by omega) (fun q h1 h2 => by rcases (show q < k.toInt.toNat ∨ q = k.toInt.toNat by omega) with g | g; (· exact i2_1 q h1 g); (· rw [g, show fg k.toInt.toNat = v5 from e5.symm]; omega)) (by omega) (hP.sub [0] rfl) (hD.sub [0] (by decide) rfl) hS (lv_sub hl [1, 2, 0] rfl)
        ·
          have z7 := zi_eq0 c7
          refine lv_iconst (v := 0) hx hb dX0_areData_17 (by decide) ?_
          refine lv_topi (fun v9 e9 => ?_)
          have z9 : v9.toInt = 0 := zi_c e9 (by decide)
          have hq10 : (v9.toInt = 1 ∧ aD fg fr.toInt.toNat 8) ∨ (v9.toInt = 0 ∧ ¬ aD fg fr.toInt.toNat 8) := (Or.inr ⟨z9, fun q => by have g := q k.toInt.toNat (by omega) (by omega); rw [show fg k.toInt.toNat = v5 from e5.symm] at g; omega⟩)
          exact hret v9 () _ _ _ _ dX0_areData_18 (zb_n (by omega)) hq10 (hP.sub [0] rfl) (hD.sub [0] (by decide) rfl) hS
  exact J2 _ fr _ _ _ (Nat.lt_succ_self _) (by omega) (fun q h1 h2 => absurd h2 (by omega)) (by omega) (hP.sub [0] rfl) (hD.sub [0] (by decide) rfl) hS (lv_sub hl [1, 2, 0] rfl)

set_option maxHeartbeats 4000000 in
set_option maxRecDepth 100000 in
theorem c_Co_areIdleOrError (l : Launch) (D : va_G) (cI cJ cB : ClassId) (aG : Nat) (fg : Nat → Int32) (fr : Int32) (to : Int32) (h1 : 0 ≤ fr.toInt ∧ fr.toInt ≤ 8) (h2 : 0 ≤ to.toInt ∧ to.toInt ≤ 8) (h3 : fr.toInt ≤ to.toInt) :
    cti l yX0_areIdleOrError (wsOf yX0_areIdleOrError cX0_areIdleOrError 4 (some .boolean)) (rmL 0 0 0 0) D classes (tys3 cI cJ cB) [.ref aG, .int fr, .int to] [(aG, .inl (cI, 8, .inl fg))] (fun (r : Int32) (u : Unit) => (r.toInt = 1 ∧ aQ fg fr.toInt.toNat to.toInt.toNat) ∨ (r.toInt = 0 ∧ ¬ aQ fg fr.toInt.toNat to.toInt.toNat)) (fun u : Unit => ([(aG, .inl (cI, 8, .inl fg))] : va_W)) := by
  refine ctz.of (by first | exact plainFor_of_name (by decide) | decide +kernel) (Nat.le_of_ble_eq_true rfl) (fun p e s m args below meth c A ls Q h hret => ?_)
  obtain ⟨hx, hb, hml, hown, hts, hnm, hP, hK, hD, hA, hS, hZ, hN, hl⟩ := h
  have hown : s.vm.findClass RX0 = some m.cls := hown
  have hl : lv_has ls 4 [(0, .ref aG), (1, .int fr), (2, .int to)] := hl
  have hP : va_P D classes [(aG, .inl (cI, 8, .inl fg))] s.heap := hP
  have hD : va_D A [(aG, .inl (cI, 8, .inl fg))] := hD
  have rg_fr := zi_rg fr
  have rg_to := zi_rg to
  refine lv_iload_n hx hb dX0_areIdleOrError_0 rfl (lv_at hl 1 rfl) ?_
  refine lv_istore_n (lv' := [(3, .int fr), (0, .ref aG), (1, .int fr), (2, .int to)]) hx hb dX0_areIdleOrError_1 rfl hl (by decide) rfl (fun ls hl => ?_)
  have J2 : ∀ (n : Nat) (k : Int32) (H : Heap) (locs : List Loc) (ls : Array Slot), ((8 - k.toInt).toNat) < n → (0 ≤ k.toInt ∧ k.toInt ≤ 8) → (aQ fg fr.toInt.toNat k.toInt.toNat) → (fr.toInt ≤ k.toInt ∧ k.toInt ≤ to.toInt) → va_P D classes [(aG, .inl (cI, 8, .inl fg))] H → va_D A [(aG, .inl (cI, 8, .inl fg))] → va_S A s.heap H locs → lv_has ls 4 [(0, .ref aG), (1, .int fr), (2, .int to), (3, .int k)] → W p l e (rmL 0 0 0 0) s m args below meth c H locs 0 0 Q (F0 m 2 ls []) := by
    intro n
    induction n with
    | zero => intro k H locs ls hmu; exact absurd hmu (Nat.not_lt_zero _)
    | succ n ih2 =>
      intro k H locs ls hmu2 i2_0 i2_1 i2_2 hP hD hS hl
      have rg_k := zi_rg k
      refine lv_iload_n hx hb dX0_areIdleOrError_2 rfl (lv_at hl 3 rfl) ?_
      refine lv_iload_n hx hb dX0_areIdleOrError_3 rfl (lv_at hl 2 rfl) ?_
      refine lv_icmp_ge (tgt := 33) hx hb dX0_areIdleOrError_4 (by decide) (fun c1 => ?_) (fun c1 => ?_)
      ·
        have z1 := zi_le c1
        refine lv_iconst (v := 1) hx hb dX0_areIdleOrError_33 (by decide) ?_
        refine lv_topi (fun v2 e2 => ?_)
        have z2 : v2.toInt = 1 := zi_c e2 (by decide)
        have hq3 : (v2.toInt = 1 ∧ aQ fg fr.toInt.toNat to.toInt.toNat) ∨ (v2.toInt = 0 ∧ ¬ aQ fg fr.toInt.toNat to.toInt.toNat) := (Or.inl ⟨z2, by rw [show to.toInt.toNat = k.toInt.toNat by omega]; exact i2_1⟩)
        exact hret v2 () _ _ _ _ dX0_areIdleOrError_34 (zb_n (by omega)) hq3 (hP.sub [0] rfl) (hD.sub [0] (by decide) rfl) hS
      ·
        have z1 := zi_nle c1
        refine lv_aload_n hx hb dX0_areIdleOrError_7 rfl (lv_at hl 0 rfl) ?_
        refine lv_iload_n hx hb dX0_areIdleOrError_8 rfl (lv_at hl 3 rfl) ?_
        refine va_iald hx hb hK hP 0 0 rfl rfl (zi_in (by omega)) dX0_areIdleOrError_9 ?_
        refine lv_topi (fun v4 e4 => ?_)
        refine lv_sipush (v := 256) hx hb dX0_areIdleOrError_10 (by decide) ?_
        refine lv_topi (fun v5 e5 => ?_)
        have z5 : v5.toInt = 256 := zi_c e5 (by decide)
        refine lv_icmp_eq (tgt := 27) hx hb dX0_areIdleOrError_13 (by decide) (fun c6 => ?_) (fun c6 => ?_)
        ·
          have z6 := zi_eq c6
          obtain ⟨v7, e7⟩ : ∃ y : Int32, y = k + 1 := ⟨_, rfl⟩
          first | have z7 := zi_inc (z := 1) 1 (by decide) e7 (by omega) | skip
          refine lv_iinc (v := v7) (lv' := [(3, .int v7), (0, .ref aG), (1, .int fr), (2, .int to)]) hx hb dX0_areIdleOrError_27 hl (k := 3) rfl (by rw [e7]; rfl) (by decide) rfl (fun ls hl => ?_)
          refine lv_goto (tgt := 2) hx hb dX0_areIdleOrError_30 (by decide) ?_
          exact ih2 v7 _ _ _ (by omega) (by omega) (fun q h1 h2 => by rcases (show q < k.toInt.toNat ∨ q = k.toInt.toNat by omega) with g | g; (· exact i2_1 q h1 g); (· rw [g, show fg k.toInt.toNat = v4 from e4.symm]; first | (left; omega) | (right; rw [show v4 = v8 from e4.trans e8.symm]; omega))) (by omega) (hP.sub [0] rfl) (hD.sub [0] (by decide) rfl) hS (lv_sub hl [1, 2, 3, 0] rfl)
        ·
          have z6 := zi_ne c6
          refine lv_aload_n hx hb dX0_areIdleOrError_16 rfl (lv_at hl 0 rfl) ?_
          refine lv_iload_n hx hb dX0_areIdleOrError_17 rfl (lv_at hl 3 rfl) ?_
          refine va_iald hx hb hK hP 0 0 rfl rfl (zi_in (by omega)) dX0_areIdleOrError_18 ?_
          refine lv_topi (fun v8 e8 => ?_)
          refine lv_sipush (v := 259) hx hb dX0_areIdleOrError_19 (by decide) ?_
          refine lv_topi (fun v9 e9 => ?_)
          have z9 : v9.toInt = 259 := zi_c e9 (by decide)
          refine lv_icmp_eq (tgt := 27) hx hb dX0_areIdleOrError_22 (by decide) (fun c10 => ?_) (fun c10 => ?_)
          ·
            have z10 := zi_eq c10
            obtain ⟨v11, e11⟩ : ∃ y : Int32, y = k + 1 := ⟨_, rfl⟩
            first | have z11 := zi_inc (z := 1) 1 (by decide) e11 (by omega) | skip
            refine lv_iinc (v := v11) (lv' := [(3, .int v11), (0, .ref aG), (1, .int fr), (2, .int to)]) hx hb dX0_areIdleOrError_27 hl (k := 3) rfl (by rw [e11]; rfl) (by decide) rfl (fun ls hl => ?_)
            refine lv_goto (tgt := 2) hx hb dX0_areIdleOrError_30 (by decide) ?_
            exact ih2 v11 _ _ _ (by omega) (by omega) (fun q h1 h2 => by rcases (show q < k.toInt.toNat ∨ q = k.toInt.toNat by omega) with g | g; (· exact i2_1 q h1 g); (· rw [g, show fg k.toInt.toNat = v4 from e4.symm]; first | (left; omega) | (right; rw [show v4 = v8 from e4.trans e8.symm]; omega))) (by omega) (hP.sub [0] rfl) (hD.sub [0] (by decide) rfl) hS (lv_sub hl [1, 2, 3, 0] rfl)
          ·
            have z10 := zi_ne c10
            refine lv_iconst (v := 0) hx hb dX0_areIdleOrError_25 (by decide) ?_
            refine lv_topi (fun v12 e12 => ?_)
            have z12 : v12.toInt = 0 := zi_c e12 (by decide)
            have hq13 : (v12.toInt = 1 ∧ aQ fg fr.toInt.toNat to.toInt.toNat) ∨ (v12.toInt = 0 ∧ ¬ aQ fg fr.toInt.toNat to.toInt.toNat) := (Or.inr ⟨z12, fun q => by have g := q k.toInt.toNat (by omega) (by omega); rw [show fg k.toInt.toNat = v4 from e4.symm] at g; have g2 := zi_eq (show v4 = v8 from e4.trans e8.symm); omega⟩)
            exact hret v12 () _ _ _ _ dX0_areIdleOrError_26 (zb_n (by omega)) hq13 (hP.sub [0] rfl) (hD.sub [0] (by decide) rfl) hS
  exact J2 _ fr _ _ _ (Nat.lt_succ_self _) (by omega) (fun q h1 h2 => absurd h2 (by omega)) (by omega) (hP.sub [0] rfl) (hD.sub [0] (by decide) rfl) hS (lv_sub hl [1, 2, 3, 0] rfl)

set_option maxHeartbeats 4000000 in
set_option maxRecDepth 100000 in
theorem c_Co_typeOfGroup (l : Launch) (D : va_G) (cI cJ cB : ClassId) (aG : Nat) (fg : Nat → Int32)  :
    cti l yX0_typeOfGroup (wsOf yX0_typeOfGroup cX0_typeOfGroup 2 (some .int)) (rmL 2 42 0 0) D classes (tys3 cI cJ cB) [.ref aG] [(aG, .inl (cI, 8, .inl fg))] (fun (r : Int32) (u : Unit) => tyR fg r) (fun u : Unit => ([(aG, .inl (cI, 8, .inl fg))] : va_W)) := by
  refine cti.of (by first | exact plainFor_of_name (by decide) | decide +kernel) (Nat.le_of_ble_eq_true rfl) (fun p e s m args below meth c A ls Q h hret => ?_)
  obtain ⟨hx, hb, hml, hown, hts, hnm, hP, hK, hD, hA, hS, hZ, hN, hl⟩ := h
  have hown : s.vm.findClass RX0 = some m.cls := hown
  have hl : lv_has ls 2 [(0, .ref aG)] := hl
  obtain ⟨tE, hZ1, hT1⟩ := id hZ
  have hP : va_P D classes [(aG, .inl (cI, 8, .inl fg))] s.heap := hP
  have hD : va_D A [(aG, .inl (cI, 8, .inl fg))] := hD
  refine lv_aload_n hx hb dX0_typeOfGroup_0 rfl (lv_at hl 0 rfl) ?_
  refine call_i (wc := [(aG, .inl (cI, 8, .inl fg))]) (wr := []) (run_S (As := [.ref aG]) (rest := []) ks_RX0_9 ⟨by decide, by decide⟩ ⟨rfl, rfl⟩ ⟨hx, hb, hml, hown, hts⟩ (c_Co_leadingData l D cI cJ cB aG fg  _) ct_blind (ct_pre (wc := [(aG, .inl (cI, 8, .inl fg))]) hK hP hD hS hA hZ hN [0] (by decide) rfl rfl) rfl hl.1 rfl (Nat.le_of_ble_eq_true rfl) dX0_typeOfGroup_1 ⟨Nat.le_of_ble_eq_true rfl, Nat.le_of_ble_eq_true rfl⟩) hP hD hS hA [0] [] rfl rfl (by decide) (by decide) (fun r1 u H locs hw1 hP1 hD1 hS1 => ?_)
  have hw1 : (0 ≤ r1.toInt ∧ r1.toInt ≤ 8) ∧ aD fg 0 r1.toInt.toNat ∧ (r1.toInt < 8 → 256 ≤ (fg r1.toInt.toNat).toInt) := hw1
  clear hP hD hS
  have hP : va_P D classes [(aG, .inl (cI, 8, .inl fg))] H := hP1
  have hD : va_D A [(aG, .inl (cI, 8, .inl fg))] := hD1
  have hS := hS1
  clear hP1 hD1 hS1
  have rg_r1 := zi_rg r1
  refine lv_istore_n (lv' := [(1, .int r1), (0, .ref aG)]) hx hb dX0_typeOfGroup_4 rfl hl (by decide) rfl (fun ls hl => ?_)
  refine lv_iload_n hx hb dX0_typeOfGroup_5 rfl (lv_at hl 0 rfl) ?_
  refine lv_bipush (v := 8) hx hb dX0_typeOfGroup_6 (by decide) ?_
  refine lv_topi (fun v2 e2 => ?_)
  have z2 : v2.toInt = 8 := zi_c e2 (by decide)
  refine lv_icmp_ne (tgt := 13) hx hb dX0_typeOfGroup_8 (by decide) (fun c3 => ?_) (fun c3 => ?_)
  ·
    have z3 := zi_ne c3
    refine lv_aload_n hx hb dX0_typeOfGroup_13 rfl (lv_at hl 1 rfl) ?_
    refine lv_iload_n hx hb dX0_typeOfGroup_14 rfl (lv_at hl 0 rfl) ?_
    refine va_iald hx hb hK hP 0 0 rfl rfl (zi_in (by omega)) dX0_typeOfGroup_15 ?_
    refine lv_topi (fun v4 e4 => ?_)
    refine lv_sipush (v := 258) hx hb dX0_typeOfGroup_16 (by decide) ?_
    refine lv_topi (fun v5 e5 => ?_)
    have z5 : v5.toInt = 258 := zi_c e5 (by decide)
    have J40 : ∀   (H : Heap) (locs : List Loc) (ls : Array Slot), (∀ d, d < 8 → ¬ gEnd fg d) → va_P D classes [(aG, .inl (cI, 8, .inl fg))] H → va_D A [(aG, .inl (cI, 8, .inl fg))] → va_S A s.heap H locs → lv_has ls 2 [(1, .int r1), (0, .ref aG)] → W p l e (rmL 2 42 0 0) s m args below meth c H locs 0 0 Q (F0 m 40 ls []) := by
      intro  H locs ls i40_0 hP hD hS hl
      refine lv_aload_n hx hb dX0_typeOfGroup_40 rfl (lv_at hl 1 rfl) ?_
      refine lv_iconst (v := 0) hx hb dX0_typeOfGroup_41 (by decide) ?_
      refine lv_topi (fun v6 e6 => ?_)
      have z6 : v6.toInt = 0 := zi_c e6 (by decide)
      refine va_iald hx hb hK hP 0 0 rfl rfl (zi_in (by omega)) dX0_typeOfGroup_42 ?_
      refine lv_topi (fun v7 e7 => ?_)
      refine lv_sipush (v := 257) hx hb dX0_typeOfGroup_43 (by decide) ?_
      refine lv_topi (fun v8 e8 => ?_)
      have z8 : v8.toInt = 257 := zi_c e8 (by decide)
      have J60 : ∀   (H : Heap) (locs : List Loc) (ls : Array Slot), (¬ gSt fg) → va_P D classes [(aG, .inl (cI, 8, .inl fg))] H → va_D A [(aG, .inl (cI, 8, .inl fg))] → va_S A s.heap H locs → lv_has ls 2 [(1, .int r1), (0, .ref aG)] → W p l e (rmL 2 42 0 0) s m args below meth c H locs 0 0 Q (F0 m 60 ls []) := by
        intro  H locs ls i60_0 hP hD hS hl
        refine lv_aload_n hx hb dX0_typeOfGroup_60 rfl (lv_at hl 1 rfl) ?_
        refine lv_iconst (v := 0) hx hb dX0_typeOfGroup_61 (by decide) ?_
        refine lv_topi (fun v9 e9 => ?_)
        have z9 : v9.toInt = 0 := zi_c e9 (by decide)
        refine lv_iconst (v := 4) hx hb dX0_typeOfGroup_62 (by decide) ?_
        refine lv_topi (fun v10 e10 => ?_)
        have z10 : v10.toInt = 4 := zi_c e10 (by decide)
        have hh11 : 0 ≤ v9.toInt ∧ v9.toInt ≤ 8 := (by omega)
        have hh12 : 0 ≤ v10.toInt ∧ v10.toInt ≤ 8 := (by omega)
        have hh13 : v9.toInt ≤ v10.toInt := (by omega)
        refine call_i (wc := [(aG, .inl (cI, 8, .inl fg))]) (wr := []) (run_S (As := [.ref aG, .int v9, .int v10]) (rest := []) ks_RX0_15 ⟨by decide, by decide⟩ ⟨rfl, rfl⟩ ⟨hx, hb, hml, hown, hts⟩ (c_Co_areIdleOrError l D cI cJ cB aG fg v9 v10 hh11 hh12 hh13 _) ct_blind (ct_pre (wc := [(aG, .inl (cI, 8, .inl fg))]) hK hP hD hS hA hZ hN [0] (by decide) rfl rfl) rfl hl.1 rfl (Nat.le_of_ble_eq_true rfl) dX0_typeOfGroup_63 ⟨Nat.le_of_ble_eq_true rfl, Nat.le_of_ble_eq_true rfl⟩) hP hD hS hA [0] [] rfl rfl (by decide) (by decide) (fun r14 u H locs hw14 hP1 hD1 hS1 => ?_)
        have hw14 : (r14.toInt = 1 ∧ aQ fg v9.toInt.toNat v10.toInt.toNat) ∨ (r14.toInt = 0 ∧ ¬ aQ fg v9.toInt.toNat v10.toInt.toNat) := hw14
        clear hP hD hS
        have hP : va_P D classes [(aG, .inl (cI, 8, .inl fg))] H := hP1
        have hD : va_D A [(aG, .inl (cI, 8, .inl fg))] := hD1
        have hS := hS1
        clear hP1 hD1 hS1
        have rg_r14 := zi_rg r14
        have J89 : ∀   (H : Heap) (locs : List Loc) (ls : Array Slot), (¬ gMid fg) → va_P D classes [(aG, .inl (cI, 8, .inl fg))] H → va_D A [(aG, .inl (cI, 8, .inl fg))] → va_S A s.heap H locs → lv_has ls 2 [(1, .int r1), (0, .ref aG)] → W p l e (rmL 2 42 0 0) s m args below meth c H locs 0 0 Q (F0 m 89 ls []) := by
          intro  H locs ls i89_0 hP hD hS hl
          refine lv_aload_n hx hb dX0_typeOfGroup_89 rfl (lv_at hl 1 rfl) ?_
          refine lv_iconst (v := 0) hx hb dX0_typeOfGroup_90 (by decide) ?_
          refine lv_topi (fun v15 e15 => ?_)
          have z15 : v15.toInt = 0 := zi_c e15 (by decide)
          refine lv_bipush (v := 8) hx hb dX0_typeOfGroup_91 (by decide) ?_
          refine lv_topi (fun v16 e16 => ?_)
          have z16 : v16.toInt = 8 := zi_c e16 (by decide)
          have hh17 : 0 ≤ v15.toInt ∧ v15.toInt ≤ 8 := (by omega)
          have hh18 : 0 ≤ v16.toInt ∧ v16.toInt ≤ 8 := (by omega)
          have hh19 : v15.toInt ≤ v16.toInt := (by omega)
          refine call_i (wc := [(aG, .inl (cI, 8, .inl fg))]) (wr := []) (run_S (As := [.ref aG, .int v15, .int v16]) (rest := []) ks_RX0_15 ⟨by decide, by decide⟩ ⟨rfl, rfl⟩ ⟨hx, hb, hml, hown, hts⟩ (c_Co_areIdleOrError l D cI cJ cB aG fg v15 v16 hh17 hh18 hh19 _) ct_blind (ct_pre (wc := [(aG, .inl (cI, 8, .inl fg))]) hK hP hD hS hA hZ hN [0] (by decide) rfl rfl) rfl hl.1 rfl (Nat.le_of_ble_eq_true rfl) dX0_typeOfGroup_93 ⟨Nat.le_of_ble_eq_true rfl, Nat.le_of_ble_eq_true rfl⟩) hP hD hS hA [0] [] rfl rfl (by decide) (by decide) (fun r20 u H locs hw20 hP1 hD1 hS1 => ?_)
          have hw20 : (r20.toInt = 1 ∧ aQ fg v15.toInt.toNat v16.toInt.toNat) ∨ (r20.toInt = 0 ∧ ¬ aQ fg v15.toInt.toNat v16.toInt.toNat) := hw20
          clear hP hD hS
          have hP : va_P D classes [(aG, .inl (cI, 8, .inl fg))] H := hP1
          have hD : va_D A [(aG, .inl (cI, 8, .inl fg))] := hD1
          have hS := hS1
          clear hP1 hD1 hS1
          have rg_r20 := zi_rg r20
          refine lv_if_eq (tgt := 104) hx hb dX0_typeOfGroup_96 (by decide) (fun c21 => ?_) (fun c21 => ?_)
          ·
            have z21 := zi_eq0 c21
            refine lv_bipush (v := -2) hx hb dX0_typeOfGroup_104 (by decide) ?_
            refine lv_topi (fun v22 e22 => ?_)
            have z22 : v22.toInt = (-2) := zi_c e22 (by decide)
            have hq23 : tyR fg v22 := (by have q8 : (r20.toInt = 1 ∧ aQ fg 0 8) ∨ (r20.toInt = 0 ∧ ¬ aQ fg 0 8) := (by rw [show v15.toInt.toNat = 0 by omega, show v16.toInt.toNat = 8 by omega] at hw20; exact hw20); rcases q8 with g | g; (· exact Or.inr (Or.inr (Or.inr (Or.inr (Or.inl ⟨by omega, g.2⟩))))); (· exact Or.inr (Or.inr (Or.inr (Or.inr (Or.inr ⟨by omega, fun q => absurd (q r1.toInt.toNat (by omega) (by omega)) (by have := hw1.2.2 (by omega); omega), i60_0, i89_0, i40_0, g.2⟩))))))
            exact hret v22 () _ _ _ _ dX0_typeOfGroup_106 hq23 (hP.sub [0] rfl) (hD.sub [0] (by decide) rfl) hS
          ·
            have z21 := zi_ne0 c21
            refine lv_bipush (v := 30) hx hb dX0_typeOfGroup_99 (by decide) ?_
            refine lv_topi (fun v24 e24 => ?_)
            have z24 : v24.toInt = 30 := zi_c e24 (by decide)
            refine lv_goto (tgt := 106) hx hb dX0_typeOfGroup_101 (by decide) ?_
            have hq25 : tyR fg v24 := (by have q8 : (r20.toInt = 1 ∧ aQ fg 0 8) ∨ (r20.toInt = 0 ∧ ¬ aQ fg 0 8) := (by rw [show v15.toInt.toNat = 0 by omega, show v16.toInt.toNat = 8 by omega] at hw20; exact hw20); rcases q8 with g | g; (· exact Or.inr (Or.inr (Or.inr (Or.inr (Or.inl ⟨by omega, g.2⟩))))); (· exact Or.inr (Or.inr (Or.inr (Or.inr (Or.inr ⟨by omega, fun q => absurd (q r1.toInt.toNat (by omega) (by omega)) (by have := hw1.2.2 (by omega); omega), i60_0, i89_0, i40_0, g.2⟩))))))
            exact hret v24 () _ _ _ _ dX0_typeOfGroup_106 hq25 (hP.sub [0] rfl) (hD.sub [0] (by decide) rfl) hS
        refine lv_if_eq (tgt := 89) hx hb dX0_typeOfGroup_66 (by decide) (fun c26 => ?_) (fun c26 => ?_)
        ·
          have z26 := zi_eq0 c26
          exact J89  _ _ _  (fun q => by first | (rcases hw33 with g | g; (· omega); (· exact g.2 (by rw [show v31.toInt.toNat = 5 by omega]; exact q.2.2))) | (have q1 := q.1; rw [show fg 4 = v28 from by rw [e28, show v27.toNatClampNeg = 4 from by show v27.toInt.toNat = 4; omega]] at q1; omega) | (rcases hw14 with g | g; (· omega); (· exact g.2 (by rw [show v9.toInt.toNat = 0 by omega, show v10.toInt.toNat = 4 by omega]; exact q.2.1)))) (hP.sub [0] rfl) (hD.sub [0] (by decide) rfl) hS (lv_sub hl [0, 1] rfl)
        ·
          have z26 := zi_ne0 c26
          refine lv_aload_n hx hb dX0_typeOfGroup_69 rfl (lv_at hl 1 rfl) ?_
          refine lv_iconst (v := 4) hx hb dX0_typeOfGroup_70 (by decide) ?_
          refine lv_topi (fun v27 e27 => ?_)
          have z27 : v27.toInt = 4 := zi_c e27 (by decide)
          refine va_iald hx hb hK hP 0 0 rfl rfl (zi_in (by omega)) dX0_typeOfGroup_71 ?_
          refine lv_topi (fun v28 e28 => ?_)
          refine lv_sipush (v := 257) hx hb dX0_typeOfGroup_72 (by decide) ?_
          refine lv_topi (fun v29 e29 => ?_)
          have z29 : v29.toInt = 257 := zi_c e29 (by decide)
          refine lv_icmp_ne (tgt := 89) hx hb dX0_typeOfGroup_75 (by decide) (fun c30 => ?_) (fun c30 => ?_)
          ·
            have z30 := zi_ne c30
            exact J89  _ _ _  (fun q => by first | (rcases hw33 with g | g; (· omega); (· exact g.2 (by rw [show v31.toInt.toNat = 5 by omega]; exact q.2.2))) | (have q1 := q.1; rw [show fg 4 = v28 from by rw [e28, show v27.toNatClampNeg = 4 from by show v27.toInt.toNat = 4; omega]] at q1; omega) | (rcases hw14 with g | g; (· omega); (· exact g.2 (by rw [show v9.toInt.toNat = 0 by omega, show v10.toInt.toNat = 4 by omega]; exact q.2.1)))) (hP.sub [0] rfl) (hD.sub [0] (by decide) rfl) hS (lv_sub hl [0, 1] rfl)
          ·
            have z30 := zi_eq c30
            refine lv_aload_n hx hb dX0_typeOfGroup_78 rfl (lv_at hl 1 rfl) ?_
            refine lv_iconst (v := 5) hx hb dX0_typeOfGroup_79 (by decide) ?_
            refine lv_topi (fun v31 e31 => ?_)
            have z31 : v31.toInt = 5 := zi_c e31 (by decide)
            have hh32 : 0 ≤ v31.toInt ∧ v31.toInt ≤ 8 := (by omega)
            refine call_i (wc := [(aG, .inl (cI, 8, .inl fg))]) (wr := []) (run_S (As := [.ref aG, .int v31]) (rest := []) ks_RX0_23 ⟨by decide, by decide⟩ ⟨rfl, rfl⟩ ⟨hx, hb, hml, hown, hts⟩ (c_Co_areData l D cI cJ cB aG fg v31 hh32 _) ct_blind (ct_pre (wc := [(aG, .inl (cI, 8, .inl fg))]) hK hP hD hS hA hZ hN [0] (by decide) rfl rfl) rfl hl.1 rfl (Nat.le_of_ble_eq_true rfl) dX0_typeOfGroup_80 ⟨Nat.le_of_ble_eq_true rfl, Nat.le_of_ble_eq_true rfl⟩) hP hD hS hA [0] [] rfl rfl (by decide) (by decide) (fun r33 u H locs hw33 hP1 hD1 hS1 => ?_)
            have hw33 : (r33.toInt = 1 ∧ aD fg v31.toInt.toNat 8) ∨ (r33.toInt = 0 ∧ ¬ aD fg v31.toInt.toNat 8) := hw33
            clear hP hD hS
            have hP : va_P D classes [(aG, .inl (cI, 8, .inl fg))] H := hP1
            have hD : va_D A [(aG, .inl (cI, 8, .inl fg))] := hD1
            have hS := hS1
            clear hP1 hD1 hS1
            have rg_r33 := zi_rg r33
            refine lv_if_eq (tgt := 89) hx hb dX0_typeOfGroup_83 (by decide) (fun c34 => ?_) (fun c34 => ?_)
            ·
              have z34 := zi_eq0 c34
              exact J89  _ _ _  (fun q => by first | (rcases hw33 with g | g; (· omega); (· exact g.2 (by rw [show v31.toInt.toNat = 5 by omega]; exact q.2.2))) | (have q1 := q.1; rw [show fg 4 = v28 from by rw [e28, show v27.toNatClampNeg = 4 from by show v27.toInt.toNat = 4; omega]] at q1; omega) | (rcases hw14 with g | g; (· omega); (· exact g.2 (by rw [show v9.toInt.toNat = 0 by omega, show v10.toInt.toNat = 4 by omega]; exact q.2.1)))) (hP.sub [0] rfl) (hD.sub [0] (by decide) rfl) hS (lv_sub hl [0, 1] rfl)
            ·
              have z34 := zi_ne0 c34
              refine lv_bipush (v := 51) hx hb dX0_typeOfGroup_86 (by decide) ?_
              refine lv_topi (fun v35 e35 => ?_)
              have z35 : v35.toInt = 51 := zi_c e35 (by decide)
              have hq36 : tyR fg v35 := (Or.inr (Or.inr (Or.inr (Or.inl ⟨z35, by rw [show fg 4 = v28 from by rw [e28, show v27.toNatClampNeg = 4 from by show v27.toInt.toNat = 4; omega]]; omega, by rcases hw14 with g | g; (· have g2 := g.2; rw [show v9.toInt.toNat = 0 by omega, show v10.toInt.toNat = 4 by omega] at g2; exact g2); (· omega), by rcases hw33 with g | g; (· have g2 := g.2; rw [show v31.toInt.toNat = 5 by omega] at g2; exact g2); (· omega)⟩))))
              exact hret v35 () _ _ _ _ dX0_typeOfGroup_88 hq36 (hP.sub [0] rfl) (hD.sub [0] (by decide) rfl) hS
      refine lv_icmp_ne (tgt := 60) hx hb dX0_typeOfGroup_46 (by decide) (fun c37 => ?_) (fun c37 => ?_)
      ·
        have z37 := zi_ne c37
        exact J60  _ _ _  (fun q => by first | (rcases hw40 with g | g; (· omega); (· exact g.2 (by rw [show v38.toInt.toNat = 1 by omega]; exact q.2))) | (have q1 := q.1; rw [show fg 0 = v7 from by rw [e7, show v6.toNatClampNeg = 0 from by show v6.toInt.toNat = 0; omega]] at q1; omega)) (hP.sub [0] rfl) (hD.sub [0] (by decide) rfl) hS (lv_sub hl [0, 1] rfl)
      ·
        have z37 := zi_eq c37
        refine lv_aload_n hx hb dX0_typeOfGroup_49 rfl (lv_at hl 1 rfl) ?_
        refine lv_iconst (v := 1) hx hb dX0_typeOfGroup_50 (by decide) ?_
        refine lv_topi (fun v38 e38 => ?_)
        have z38 : v38.toInt = 1 := zi_c e38 (by decide)
        have hh39 : 0 ≤ v38.toInt ∧ v38.toInt ≤ 8 := (by omega)
        refine call_i (wc := [(aG, .inl (cI, 8, .inl fg))]) (wr := []) (run_S (As := [.ref aG, .int v38]) (rest := []) ks_RX0_23 ⟨by decide, by decide⟩ ⟨rfl, rfl⟩ ⟨hx, hb, hml, hown, hts⟩ (c_Co_areData l D cI cJ cB aG fg v38 hh39 _) ct_blind (ct_pre (wc := [(aG, .inl (cI, 8, .inl fg))]) hK hP hD hS hA hZ hN [0] (by decide) rfl rfl) rfl hl.1 rfl (Nat.le_of_ble_eq_true rfl) dX0_typeOfGroup_51 ⟨Nat.le_of_ble_eq_true rfl, Nat.le_of_ble_eq_true rfl⟩) hP hD hS hA [0] [] rfl rfl (by decide) (by decide) (fun r40 u H locs hw40 hP1 hD1 hS1 => ?_)
        have hw40 : (r40.toInt = 1 ∧ aD fg v38.toInt.toNat 8) ∨ (r40.toInt = 0 ∧ ¬ aD fg v38.toInt.toNat 8) := hw40
        clear hP hD hS
        have hP : va_P D classes [(aG, .inl (cI, 8, .inl fg))] H := hP1
        have hD : va_D A [(aG, .inl (cI, 8, .inl fg))] := hD1
        have hS := hS1
        clear hP1 hD1 hS1
        have rg_r40 := zi_rg r40
        refine lv_if_eq (tgt := 60) hx hb dX0_typeOfGroup_54 (by decide) (fun c41 => ?_) (fun c41 => ?_)
        ·
          have z41 := zi_eq0 c41
          exact J60  _ _ _  (fun q => by first | (rcases hw40 with g | g; (· omega); (· exact g.2 (by rw [show v38.toInt.toNat = 1 by omega]; exact q.2))) | (have q1 := q.1; rw [show fg 0 = v7 from by rw [e7, show v6.toNatClampNeg = 0 from by show v6.toInt.toNat = 0; omega]] at q1; omega)) (hP.sub [0] rfl) (hD.sub [0] (by decide) rfl) hS (lv_sub hl [0, 1] rfl)
        ·
          have z41 := zi_ne0 c41
          refine lv_bipush (v := 120) hx hb dX0_typeOfGroup_57 (by decide) ?_
          refine lv_topi (fun v42 e42 => ?_)
          have z42 : v42.toInt = 120 := zi_c e42 (by decide)
          have hq43 : tyR fg v42 := (Or.inr (Or.inr (Or.inl ⟨z42, by rw [show fg 0 = v7 from by rw [e7, show v6.toNatClampNeg = 0 from by show v6.toInt.toNat = 0; omega]]; omega, by rcases hw40 with g | g; (· rw [show 1 = v38.toInt.toNat by omega]; exact g.2); (· omega)⟩)))
          exact hret v42 () _ _ _ _ dX0_typeOfGroup_59 hq43 (hP.sub [0] rfl) (hD.sub [0] (by decide) rfl) hS
    refine lv_icmp_ne (tgt := 40) hx hb dX0_typeOfGroup_19 (by decide) (fun c44 => ?_) (fun c44 => ?_)
    ·
      have z44 := zi_ne c44
      exact J40  _ _ _  (no_end hw1.2.1 (hw1.2.2 (by omega)) (fun q => by first | (rcases hw51 with g | g; (· omega); (· exact g.2 (by rw [show v46.toInt.toNat = r1.toInt.toNat + 1 by omega, show v47.toInt.toNat = 8 by omega]; exact q.2))) | (have q1 := q.1; rw [show fg r1.toInt.toNat = v4 from e4.symm] at q1; omega))) (hP.sub [0] rfl) (hD.sub [0] (by decide) rfl) hS (lv_sub hl [0, 1] rfl)
    ·
      have z44 := zi_eq c44
      refine lv_aload_n hx hb dX0_typeOfGroup_22 rfl (lv_at hl 1 rfl) ?_
      refine lv_iload_n hx hb dX0_typeOfGroup_23 rfl (lv_at hl 0 rfl) ?_
      refine lv_iconst (v := 1) hx hb dX0_typeOfGroup_24 (by decide) ?_
      refine lv_topi (fun v45 e45 => ?_)
      have z45 : v45.toInt = 1 := zi_c e45 (by decide)
      refine lv_iadd hx hb dX0_typeOfGroup_25 ?_
      refine lv_topi (fun v46 e46 => ?_)
      first | have z46 := zi_add e46 (by omega) | skip
      refine lv_bipush (v := 8) hx hb dX0_typeOfGroup_26 (by decide) ?_
      refine lv_topi (fun v47 e47 => ?_)
      have z47 : v47.toInt = 8 := zi_c e47 (by decide)
      have hh48 : 0 ≤ v46.toInt ∧ v46.toInt ≤ 8 := (by omega)
      have hh49 : 0 ≤ v47.toInt ∧ v47.toInt ≤ 8 := (by omega)
      have hh50 : v46.toInt ≤ v47.toInt := (by omega)
      refine call_i (wc := [(aG, .inl (cI, 8, .inl fg))]) (wr := []) (run_S (As := [.ref aG, .int v46, .int v47]) (rest := []) ks_RX0_15 ⟨by decide, by decide⟩ ⟨rfl, rfl⟩ ⟨hx, hb, hml, hown, hts⟩ (c_Co_areIdleOrError l D cI cJ cB aG fg v46 v47 hh48 hh49 hh50 _) ct_blind (ct_pre (wc := [(aG, .inl (cI, 8, .inl fg))]) hK hP hD hS hA hZ hN [0] (by decide) rfl rfl) rfl hl.1 rfl (Nat.le_of_ble_eq_true rfl) dX0_typeOfGroup_28 ⟨Nat.le_of_ble_eq_true rfl, Nat.le_of_ble_eq_true rfl⟩) hP hD hS hA [0] [] rfl rfl (by decide) (by decide) (fun r51 u H locs hw51 hP1 hD1 hS1 => ?_)
      have hw51 : (r51.toInt = 1 ∧ aQ fg v46.toInt.toNat v47.toInt.toNat) ∨ (r51.toInt = 0 ∧ ¬ aQ fg v46.toInt.toNat v47.toInt.toNat) := hw51
      clear hP hD hS
      have hP : va_P D classes [(aG, .inl (cI, 8, .inl fg))] H := hP1
      have hD : va_D A [(aG, .inl (cI, 8, .inl fg))] := hD1
      have hS := hS1
      clear hP1 hD1 hS1
      have rg_r51 := zi_rg r51
      refine lv_if_eq (tgt := 40) hx hb dX0_typeOfGroup_31 (by decide) (fun c52 => ?_) (fun c52 => ?_)
      ·
        have z52 := zi_eq0 c52
        exact J40  _ _ _  (no_end hw1.2.1 (hw1.2.2 (by omega)) (fun q => by first | (rcases hw51 with g | g; (· omega); (· exact g.2 (by rw [show v46.toInt.toNat = r1.toInt.toNat + 1 by omega, show v47.toInt.toNat = 8 by omega]; exact q.2))) | (have q1 := q.1; rw [show fg r1.toInt.toNat = v4 from e4.symm] at q1; omega))) (hP.sub [0] rfl) (hD.sub [0] (by decide) rfl) hS (lv_sub hl [0, 1] rfl)
      ·
        have z52 := zi_ne0 c52
        refine va_gets hx hb hZ1 hS hown (hts _ wk94) (fun _ h9 => h9) dX0_typeOfGroup_34 ?_
        refine lv_iload_n hx hb dX0_typeOfGroup_37 rfl (lv_at hl 0 rfl) ?_
        refine va_ti hx hb hT1 hS (zi_in (by omega)) rfl dX0_typeOfGroup_38 ?_
        refine lv_topi (fun v53 e53 => ?_)
        have hq54 : tyR fg v53 := (Or.inr (Or.inl ⟨r1.toInt.toNat, by omega, ⟨by rw [show fg r1.toInt.toNat = v4 from e4.symm]; omega, hw1.2.1, by rcases hw51 with g | g; (· have g2 := g.2; rw [show v46.toInt.toNat = r1.toInt.toNat + 1 by omega, show v47.toInt.toNat = 8 by omega] at g2; exact g2); (· omega)⟩, e53⟩))
        exact hret v53 () _ _ _ _ dX0_typeOfGroup_39 hq54 (hP.sub [0] rfl) (hD.sub [0] (by decide) rfl) hS
  ·
    have z3 := zi_eq c3
    refine lv_iconst (v := -1) hx hb dX0_typeOfGroup_11 (by decide) ?_
    refine lv_topi (fun v55 e55 => ?_)
    have z55 : v55.toInt = (-1) := zi_c e55 (by decide)
    have hq56 : tyR fg v55 := (Or.inl ⟨z55, by rw [show 8 = r1.toInt.toNat by omega]; exact hw1.2.1⟩)
    exact hret v55 () _ _ _ _ dX0_typeOfGroup_12 hq56 (hP.sub [0] rfl) (hD.sub [0] (by decide) rfl) hS

set_option maxHeartbeats 4000000 in
set_option maxRecDepth 100000 in
theorem c_Co_bitsOf (l : Launch) (D : va_G) (cI cJ cB : ClassId) (ty : Int32) (ch : Int32) (x : Int32) (h1 : 0 ≤ x.toInt ∧ x.toInt < 8) (h2 : 0 ≤ ch.toInt ∧ ch.toInt ≤ 259) (h3 : eT ty → ch.toInt < 256 → x.toInt < 7) :
    ctl l yX0_bitsOf (wsOf yX0_bitsOf cX0_bitsOf 3 (some .long)) (rmL 2 42 0 0) D classes (tys3 cI cJ cB) [.int ty, .int ch, .int x] [] (fun (r : Int64) (u : Unit) => (¬ eT ty → ∀ q, q < 64 → bl r q = bo (8 * x.toInt.toNat) ch x.toInt.toNat q) ∧ (eT ty → ∀ q, q < 64 → bl r q = bo (8 + 8 * x.toInt.toNat) ch x.toInt.toNat q)) (fun u : Unit => ([] : va_W)) := by
  refine ctl.of (by first | exact plainFor_of_name (by decide) | decide +kernel) (Nat.le_of_ble_eq_true rfl) (fun p e s m args below meth c A ls Q h hret => ?_)
  obtain ⟨hx, hb, hml, hown, hts, hnm, hP, hK, hD, hA, hS, hZ, hN, hl⟩ := h
  have hown : s.vm.findClass RX0 = some m.cls := hown
  have hl : lv_has ls 3 [(0, .int ty), (1, .int ch), (2, .int x)] := hl
  have hP : va_P D classes [] s.heap := hP
  have hD : va_D A [] := hD
  have rg_ty := zi_rg ty
  have rg_ch := zi_rg ch
  have rg_x := zi_rg x
  refine lv_iload_n hx hb dX0_bitsOf_0 rfl (lv_at hl 1 rfl) ?_
  refine call_i (wc := []) (wr := []) (run_S (As := [.int ch]) (rest := []) ks_RX0_57 ⟨by decide, by decide⟩ ⟨rfl, rfl⟩ ⟨hx, hb, hml, hown, hts⟩ (c_Co_isData l D cI cJ cB ch  _) ct_blind (ct_pre (wc := []) hK hP hD hS hA hZ hN [] (by decide) rfl rfl) rfl hl.1 rfl (Nat.le_of_ble_eq_true rfl) dX0_bitsOf_1 ⟨Nat.le_of_ble_eq_true rfl, Nat.le_of_ble_eq_true rfl⟩) hP hD hS hA [] [] rfl rfl (by decide) (by decide) (fun r1 u H locs hw1 hP1 hD1 hS1 => ?_)
  have hw1 : (r1.toInt = 1 ∧ ch.toInt < 256) ∨ (r1.toInt = 0 ∧ 256 ≤ ch.toInt) := hw1
  clear hP hD hS
  have hP : va_P D classes [] H := hP1
  have hD : va_D A [] := hD1
  have hS := hS1
  clear hP1 hD1 hS1
  have rg_r1 := zi_rg r1
  refine lv_if_eq (tgt := 16) hx hb dX0_bitsOf_4 (by decide) (fun c2 => ?_) (fun c2 => ?_)
  ·
    have z2 := zi_eq0 c2
    refine lv_iload_n hx hb dX0_bitsOf_16 rfl (lv_at hl 1 rfl) ?_
    refine lv_sipush (v := 259) hx hb dX0_bitsOf_17 (by decide) ?_
    refine lv_topi (fun v3 e3 => ?_)
    have z3 : v3.toInt = 259 := zi_c e3 (by decide)
    refine lv_icmp_ne (tgt := 34) hx hb dX0_bitsOf_20 (by decide) (fun c4 => ?_) (fun c4 => ?_)
    ·
      have z4 := zi_ne c4
      refine lv_lconst (v := 0) hx hb dX0_bitsOf_34 (by decide) ?_
      refine lv_topl (fun v5 e5 => ?_)
      have hq6 : (¬ eT ty → ∀ q, q < 64 → bl v5 q = bo (8 * x.toInt.toNat) ch x.toInt.toNat q) ∧ (eT ty → ∀ q, q < 64 → bl v5 q = bo (8 + 8 * x.toInt.toNat) ch x.toInt.toNat q) := (by refine ⟨fun t q hq => ?_, fun t q hq => ?_⟩ <;> (unfold bo; rw [if_neg (by omega)]) <;> first | (rw [if_neg (by omega), e5]; exact bl_0 _) | (rw [if_pos (by omega), e10, e7, bl_shl (k := 8 + 7 * x.toInt.toNat) (by omega) (by omega) hq, bl_30 _ (by omega)]))
      exact hret v5 () _ _ _ _ dX0_bitsOf_35 hq6 (hP.sub [] rfl) (hD.sub [] (by decide) rfl) hS
    ·
      have z4 := zi_eq c4
      refine lv_ldc2 (v := 30) hx hb hown (hts _ wk117) dX0_bitsOf_23 ?_
      refine lv_topl (fun v7 e7 => ?_)
      refine lv_iload_n hx hb dX0_bitsOf_26 rfl (lv_at hl 2 rfl) ?_
      have hh8 : 0 ≤ x.toInt ∧ x.toInt < 8 := (by omega)
      refine call_i (wc := []) (wr := []) (run_S (As := [.int x]) (rest := [.long v7]) ks_RX0_54 ⟨by decide, by decide⟩ ⟨rfl, rfl⟩ ⟨hx, hb, hml, hown, hts⟩ (c_Co_codeShift l D cI cJ cB x hh8 _) ct_blind (ct_pre (wc := []) hK hP hD hS hA hZ hN [] (by decide) rfl rfl) rfl hl.1 rfl (Nat.le_of_ble_eq_true rfl) dX0_bitsOf_27 ⟨Nat.le_of_ble_eq_true rfl, Nat.le_of_ble_eq_true rfl⟩) hP hD hS hA [] [] rfl rfl (by decide) (by decide) (fun r9 u H locs hw9 hP1 hD1 hS1 => ?_)
      have hw9 : r9.toInt = 8 + 7 * x.toInt := hw9
      clear hP hD hS
      have hP : va_P D classes [] H := hP1
      have hD : va_D A [] := hD1
      have hS := hS1
      clear hP1 hD1 hS1
      have rg_r9 := zi_rg r9
      refine lv_lshl hx hb dX0_bitsOf_30 rfl ?_
      refine lv_topl (fun v10 e10 => ?_)
      refine lv_goto (tgt := 35) hx hb dX0_bitsOf_31 (by decide) ?_
      have hq11 : (¬ eT ty → ∀ q, q < 64 → bl v10 q = bo (8 * x.toInt.toNat) ch x.toInt.toNat q) ∧ (eT ty → ∀ q, q < 64 → bl v10 q = bo (8 + 8 * x.toInt.toNat) ch x.toInt.toNat q) := (by refine ⟨fun t q hq => ?_, fun t q hq => ?_⟩ <;> (unfold bo; rw [if_neg (by omega)]) <;> first | (rw [if_neg (by omega), e5]; exact bl_0 _) | (rw [if_pos (by omega), e10, e7, bl_shl (k := 8 + 7 * x.toInt.toNat) (by omega) (by omega) hq, bl_30 _ (by omega)]))
      exact hret v10 () _ _ _ _ dX0_bitsOf_35 hq11 (hP.sub [] rfl) (hD.sub [] (by decide) rfl) hS
  ·
    have z2 := zi_ne0 c2
    refine lv_iload_n hx hb dX0_bitsOf_7 rfl (lv_at hl 1 rfl) ?_
    refine lv_i2l hx hb dX0_bitsOf_8 rfl ?_
    refine lv_topl (fun v12 e12 => ?_)
    refine lv_iload_n hx hb dX0_bitsOf_9 rfl (lv_at hl 0 rfl) ?_
    refine lv_iload_n hx hb dX0_bitsOf_10 rfl (lv_at hl 2 rfl) ?_
    have hh13 : 0 ≤ x.toInt ∧ x.toInt < 8 := (by omega)
    refine call_i (wc := []) (wr := []) (run_S (As := [.int ty, .int x]) (rest := [.long v12]) ks_RX0_50 ⟨by decide, by decide⟩ ⟨rfl, rfl⟩ ⟨hx, hb, hml, hown, hts⟩ (c_Co_dataShift l D cI cJ cB ty x hh13 _) ct_blind (ct_pre (wc := []) hK hP hD hS hA hZ hN [] (by decide) rfl rfl) rfl hl.1 rfl (Nat.le_of_ble_eq_true rfl) dX0_bitsOf_11 ⟨Nat.le_of_ble_eq_true rfl, Nat.le_of_ble_eq_true rfl⟩) hP hD hS hA [] [] rfl rfl (by decide) (by decide) (fun r14 u H locs hw14 hP1 hD1 hS1 => ?_)
    have hw14 : (¬ eT ty → r14.toInt = 8 * x.toInt) ∧ (eT ty → r14.toInt = 8 + 8 * x.toInt) := hw14
    clear hP hD hS
    have hP : va_P D classes [] H := hP1
    have hD : va_D A [] := hD1
    have hS := hS1
    clear hP1 hD1 hS1
    have rg_r14 := zi_rg r14
    refine lv_lshl hx hb dX0_bitsOf_14 rfl ?_
    refine lv_topl (fun v15 e15 => ?_)
    have hq16 : (¬ eT ty → ∀ q, q < 64 → bl v15 q = bo (8 * x.toInt.toNat) ch x.toInt.toNat q) ∧ (eT ty → ∀ q, q < 64 → bl v15 q = bo (8 + 8 * x.toInt.toNat) ch x.toInt.toNat q) := (by refine ⟨fun t q hq => ?_, fun t q hq => ?_⟩; (· have w := hw14.1 t; unfold bo; rw [if_pos (by omega), e15, e12, bl_shl (k := 8 * x.toInt.toNat) (by omega) (by omega) hq, bl_cn (by omega) (by omega)]); (· have w := hw14.2 t; have w2 := h3 t (by omega); unfold bo; rw [if_pos (by omega), e15, e12, bl_shl (k := 8 + 8 * x.toInt.toNat) (by omega) (by omega) hq, bl_cn (by omega) (by omega)]))
    exact hret v15 () _ _ _ _ dX0_bitsOf_15 hq16 (hP.sub [] rfl) (hD.sub [] (by decide) rfl) hS

set_option maxHeartbeats 4000000 in
set_option maxRecDepth 100000 in
theorem c_Co_payloadOf (l : Launch) (D : va_G) (cI cJ cB : ClassId) (aG : Nat) (fg : Nat → Int32) (ty : Int32) (h1 : ∀ j, j < 8 → 0 ≤ (fg j).toInt ∧ (fg j).toInt ≤ 259) (h2 : eT ty → 256 ≤ (fg 7).toInt) (h3 : ty.toInt = -1 ∨ (0 ≤ ty.toInt ∧ ty.toInt ≤ 255)) :
    ctl l yX0_payloadOf (wsOf yX0_payloadOf cX0_payloadOf 5 (some .long)) (rmL 3 64 0 0) D classes (tys3 cI cJ cB) [.int ty, .ref aG] [(aG, .inl (cI, 8, .inl fg))] (fun (r : Int64) (u : Unit) => pbits fg ty r) (fun u : Unit => ([(aG, .inl (cI, 8, .inl fg))] : va_W)) := by
  refine ctl.of (by first | exact plainFor_of_name (by decide) | decide +kernel) (Nat.le_of_ble_eq_true rfl) (fun p e s m args below meth c A ls Q h hret => ?_)
  obtain ⟨hx, hb, hml, hown, hts, hnm, hP, hK, hD, hA, hS, hZ, hN, hl⟩ := h
  have hown : s.vm.findClass RX0 = some m.cls := hown
  have hl : lv_has ls 5 [(0, .int ty), (1, .ref aG)] := hl
  have hP : va_P D classes [(aG, .inl (cI, 8, .inl fg))] s.heap := hP
  have hD : va_D A [(aG, .inl (cI, 8, .inl fg))] := hD
  have rg_ty := zi_rg ty
  have J15 : ∀ (n : Nat) (pl : Int64) (k : Int32) (H : Heap) (locs : List Loc) (ls : Array Slot), ((8 - k.toInt).toNat) < n → (0 ≤ k.toInt ∧ k.toInt ≤ 8) → ((¬ eT ty → ∀ q, q < 64 → bl pl q = (tb ty q || orb (fun j => bo (0 + 8 * j) (fg j) j q) k.toInt.toNat)) ∧ (eT ty → ∀ q, q < 64 → bl pl q = (tb ty q || orb (fun j => bo (8 + 8 * j) (fg j) j q) k.toInt.toNat))) → va_P D classes [(aG, .inl (cI, 8, .inl fg))] H → va_D A [(aG, .inl (cI, 8, .inl fg))] → va_S A s.heap H locs → lv_has ls 5 [(0, .int ty), (1, .ref aG), (2, .long pl), (4, .int k)] → W p l e (rmL 3 64 0 0) s m args below meth c H locs 0 0 Q (F0 m 15 ls []) := by
    intro n
    induction n with
    | zero => intro pl k H locs ls hmu; exact absurd hmu (Nat.not_lt_zero _)
    | succ n ih15 =>
      intro pl k H locs ls hmu15 i15_0 i15_1 hP hD hS hl
      have rg_k := zi_rg k
      refine lv_iload hx hb dX0_payloadOf_15 (lv_at hl 3 rfl) ?_
      refine lv_bipush (v := 8) hx hb dX0_payloadOf_17 (by decide) ?_
      refine lv_topi (fun v1 e1 => ?_)
      have z1 : v1.toInt = 8 := zi_c e1 (by decide)
      refine lv_icmp_ge (tgt := 41) hx hb dX0_payloadOf_19 (by decide) (fun c2 => ?_) (fun c2 => ?_)
      ·
        have z2 := zi_le c2
        refine lv_lload_n hx hb dX0_payloadOf_41 rfl (lv_at hl 2 rfl) ?_
        have hq3 : pbits fg ty pl := (by have q8 := i15_1; rw [show k.toInt.toNat = 8 by omega] at q8; exact q8)
        exact hret pl () _ _ _ _ dX0_payloadOf_42 hq3 (hP.sub [0] rfl) (hD.sub [0] (by decide) rfl) hS
      ·
        have z2 := zi_nle c2
        refine lv_lload_n hx hb dX0_payloadOf_22 rfl (lv_at hl 2 rfl) ?_
        refine lv_iload_n hx hb dX0_payloadOf_23 rfl (lv_at hl 0 rfl) ?_
        refine lv_aload_n hx hb dX0_payloadOf_24 rfl (lv_at hl 1 rfl) ?_
        refine lv_iload hx hb dX0_payloadOf_25 (lv_at hl 3 rfl) ?_
        refine va_iald hx hb hK hP 0 0 rfl rfl (zi_in (by omega)) dX0_payloadOf_27 ?_
        refine lv_topi (fun v4 e4 => ?_)
        refine lv_iload hx hb dX0_payloadOf_28 (lv_at hl 3 rfl) ?_
        have hh5 : 0 ≤ k.toInt ∧ k.toInt < 8 := (by omega)
        have hh6 : 0 ≤ v4.toInt ∧ v4.toInt ≤ 259 := (by rw [e4]; exact h1 _ (by show k.toInt.toNat < 8; omega))
        have hh7 : eT ty → v4.toInt < 256 → k.toInt < 7 := (fun t q => by rcases (show k.toInt < 7 ∨ k.toInt = 7 by omega) with g | g; (· exact g); (· have q7 := h2 t; rw [show fg 7 = v4 from by rw [e4, show k.toNatClampNeg = 7 from by show k.toInt.toNat = 7; omega]] at q7; omega))
        refine call_l (wc := []) (wr := [(aG, .inl (cI, 8, .inl fg))]) (run_S (As := [.int ty, .int v4, .int k]) (rest := [.long pl]) ks_RX0_27 ⟨by decide, by decide⟩ ⟨rfl, rfl⟩ ⟨hx, hb, hml, hown, hts⟩ (c_Co_bitsOf l D cI cJ cB ty v4 k hh5 hh6 hh7 _) ct_blind (ct_pre (wc := []) hK hP hD hS hA hZ hN [] (by decide) rfl rfl) rfl hl.1 rfl (Nat.le_of_ble_eq_true rfl) dX0_payloadOf_30 ⟨Nat.le_of_ble_eq_true rfl, Nat.le_of_ble_eq_true rfl⟩) hP hD hS hA [] [0] rfl rfl (by decide) (by decide) (fun r8 u H locs hw8 hP1 hD1 hS1 => ?_)
        have hw8 : (¬ eT ty → ∀ q, q < 64 → bl r8 q = bo (8 * k.toInt.toNat) v4 k.toInt.toNat q) ∧ (eT ty → ∀ q, q < 64 → bl r8 q = bo (8 + 8 * k.toInt.toNat) v4 k.toInt.toNat q) := hw8
        clear hP hD hS
        have hP : va_P D classes [(aG, .inl (cI, 8, .inl fg))] H := hP1
        have hD : va_D A [(aG, .inl (cI, 8, .inl fg))] := hD1
        have hS := hS1
        clear hP1 hD1 hS1
        refine lv_lor hx hb dX0_payloadOf_33 ?_
        refine lv_topl (fun v9 e9 => ?_)
        refine lv_lstore_n (lv' := [(2, .long v9), (0, .int ty), (1, .ref aG), (4, .int k)]) hx hb dX0_payloadOf_34 rfl hl (by decide) rfl (fun ls hl => ?_)
        obtain ⟨v10, e10⟩ : ∃ y : Int32, y = k + 1 := ⟨_, rfl⟩
        first | have z10 := zi_inc (z := 1) 1 (by decide) e10 (by omega) | skip
        refine lv_iinc (v := v10) (lv' := [(4, .int v10), (2, .long v9), (0, .int ty), (1, .ref aG)]) hx hb dX0_payloadOf_35 hl (k := 3) rfl (by rw [e10]; rfl) (by decide) rfl (fun ls hl => ?_)
        refine lv_goto (tgt := 15) hx hb dX0_payloadOf_38 (by decide) ?_
        exact ih15 v9 v10 _ _ _ (by omega) (by omega) (by have x4 : fg k.toInt.toNat = v4 := e4.symm; rw [show v10.toInt.toNat = k.toInt.toNat + 1 by omega]; refine ⟨fun t q hq => ?_, fun t q hq => ?_⟩; (· rw [e9, bl_or, i15_1.1 t q hq, hw8.1 t q hq]; show _ = (_ || (orb _ _ || bo (0 + 8 * k.toInt.toNat) (fg k.toInt.toNat) k.toInt.toNat q)); rw [x4, Nat.zero_add, Bool.or_assoc]); (· rw [e9, bl_or, i15_1.2 t q hq, hw8.2 t q hq]; show _ = (_ || (orb _ _ || bo (8 + 8 * k.toInt.toNat) (fg k.toInt.toNat) k.toInt.toNat q)); rw [x4, Bool.or_assoc])) (hP.sub [0] rfl) (hD.sub [0] (by decide) rfl) hS (lv_sub hl [2, 3, 1, 0] rfl)
  refine lv_iload_n hx hb dX0_payloadOf_0 rfl (lv_at hl 0 rfl) ?_
  refine lv_iconst (v := -1) hx hb dX0_payloadOf_1 (by decide) ?_
  refine lv_topi (fun v11 e11 => ?_)
  have z11 : v11.toInt = (-1) := zi_c e11 (by decide)
  refine lv_icmp_ne (tgt := 9) hx hb dX0_payloadOf_2 (by decide) (fun c12 => ?_) (fun c12 => ?_)
  ·
    have z12 := zi_ne c12
    refine lv_iload_n hx hb dX0_payloadOf_9 rfl (lv_at hl 0 rfl) ?_
    refine lv_i2l hx hb dX0_payloadOf_10 rfl ?_
    refine lv_topl (fun v13 e13 => ?_)
    refine lv_lstore_n (lv' := [(2, .long v13), (0, .int ty), (1, .ref aG)]) hx hb dX0_payloadOf_11 rfl hl (by decide) rfl (fun ls hl => ?_)
    refine lv_iconst (v := 0) hx hb dX0_payloadOf_12 (by decide) ?_
    refine lv_topi (fun v14 e14 => ?_)
    have z14 : v14.toInt = 0 := zi_c e14 (by decide)
    refine lv_istore (lv' := [(4, .int v14), (2, .long v13), (0, .int ty), (1, .ref aG)]) hx hb dX0_payloadOf_13 hl (by decide) rfl (fun ls hl => ?_)
    exact J15 _ v13 v14 _ _ _ (Nat.lt_succ_self _) (by omega) (by refine ⟨fun t q hq => ?_, fun t q hq => ?_⟩ <;> (unfold tb) <;> first | (rw [if_neg (by omega), e13, bl_cn (by omega) hq, show v14.toInt.toNat = 0 by omega]; simp [orb]; done) | (rw [if_pos (by omega), e15, bl_0, show v16.toInt.toNat = 0 by omega]; simp [orb]; done)) (hP.sub [0] rfl) (hD.sub [0] (by decide) rfl) hS (lv_sub hl [2, 3, 1, 0] rfl)
  ·
    have z12 := zi_eq c12
    refine lv_lconst (v := 0) hx hb dX0_payloadOf_5 (by decide) ?_
    refine lv_topl (fun v15 e15 => ?_)
    refine lv_goto (tgt := 11) hx hb dX0_payloadOf_6 (by decide) ?_
    refine lv_lstore_n (lv' := [(2, .long v15), (0, .int ty), (1, .ref aG)]) hx hb dX0_payloadOf_11 rfl hl (by decide) rfl (fun ls hl => ?_)
    refine lv_iconst (v := 0) hx hb dX0_payloadOf_12 (by decide) ?_
    refine lv_topi (fun v16 e16 => ?_)
    have z16 : v16.toInt = 0 := zi_c e16 (by decide)
    refine lv_istore (lv' := [(4, .int v16), (2, .long v15), (0, .int ty), (1, .ref aG)]) hx hb dX0_payloadOf_13 hl (by decide) rfl (fun ls hl => ?_)
    exact J15 _ v15 v16 _ _ _ (Nat.lt_succ_self _) (by omega) (by refine ⟨fun t q hq => ?_, fun t q hq => ?_⟩ <;> (unfold tb) <;> first | (rw [if_neg (by omega), e13, bl_cn (by omega) hq, show v14.toInt.toNat = 0 by omega]; simp [orb]; done) | (rw [if_pos (by omega), e15, bl_0, show v16.toInt.toNat = 0 by omega]; simp [orb]; done)) (hP.sub [0] rfl) (hD.sub [0] (by decide) rfl) hS (lv_sub hl [2, 3, 1, 0] rfl)

set_option maxHeartbeats 4000000 in
set_option maxRecDepth 100000 in
theorem c_Co_typeOfBlock (l : Launch) (D : va_G) (cI cJ cB : ClassId) (hd : Int32) (pl : Int64)  :
    cti l yX0_typeOfBlock (wsOf yX0_typeOfBlock cX0_typeOfBlock 3 (some .int)) (rmL 0 0 0 0) D classes (tys3 cI cJ cB) [.int hd, .long pl] [] (fun (r : Int32) (u : Unit) => True) (fun u : Unit => ([] : va_W)) := by
  refine cti.of (by first | exact plainFor_of_name (by decide) | decide +kernel) (Nat.le_of_ble_eq_true rfl) (fun p e s m args below meth c A ls Q h hret => ?_)
  obtain ⟨hx, hb, hml, hown, hts, hnm, hP, hK, hD, hA, hS, hZ, hN, hl⟩ := h
  have hown : s.vm.findClass RX0 = some m.cls := hown
  have hl : lv_has ls 3 [(0, .int hd), (1, .long pl)] := hl
  have hP : va_P D classes [] s.heap := hP
  have hD : va_D A [] := hD
  have rg_hd := zi_rg hd
  refine lv_iload_n hx hb dX0_typeOfBlock_0 rfl (lv_at hl 0 rfl) ?_
  refine lv_iconst (v := 1) hx hb dX0_typeOfBlock_1 (by decide) ?_
  refine lv_topi (fun v1 e1 => ?_)
  have z1 : v1.toInt = 1 := zi_c e1 (by decide)
  refine lv_icmp_ne (tgt := 7) hx hb dX0_typeOfBlock_2 (by decide) (fun c2 => ?_) (fun c2 => ?_)
  ·
    have z2 := zi_ne c2
    refine lv_iload_n hx hb dX0_typeOfBlock_7 rfl (lv_at hl 0 rfl) ?_
    refine lv_iconst (v := 2) hx hb dX0_typeOfBlock_8 (by decide) ?_
    refine lv_topi (fun v3 e3 => ?_)
    have z3 : v3.toInt = 2 := zi_c e3 (by decide)
    refine lv_icmp_ne (tgt := 21) hx hb dX0_typeOfBlock_9 (by decide) (fun c4 => ?_) (fun c4 => ?_)
    ·
      have z4 := zi_ne c4
      refine lv_bipush (v := -2) hx hb dX0_typeOfBlock_21 (by decide) ?_
      refine lv_topi (fun v5 e5 => ?_)
      have z5 : v5.toInt = (-2) := zi_c e5 (by decide)
      exact hret v5 () _ _ _ _ dX0_typeOfBlock_23 trivial (hP.sub [] rfl) (hD.sub [] (by decide) rfl) hS
    ·
      have z4 := zi_eq c4
      refine lv_lload_n hx hb dX0_typeOfBlock_12 rfl (lv_at hl 1 rfl) ?_
      refine lv_l2i hx hb dX0_typeOfBlock_13 rfl ?_
      refine lv_topi (fun v7 e7 => ?_)
      refine lv_sipush (v := 255) hx hb dX0_typeOfBlock_14 (by decide) ?_
      refine lv_topi (fun v8 e8 => ?_)
      have z8 : v8.toInt = 255 := zi_c e8 (by decide)
      refine lv_iand hx hb dX0_typeOfBlock_17 ?_
      refine lv_topi (fun v9 e9 => ?_)
      have z9 := zi_and e9 e8 8 (z := 256) (by decide) (by decide) (by decide)
      refine lv_goto (tgt := 23) hx hb dX0_typeOfBlock_18 (by decide) ?_
      exact hret v9 () _ _ _ _ dX0_typeOfBlock_23 trivial (hP.sub [] rfl) (hD.sub [] (by decide) rfl) hS
  ·
    have z2 := zi_eq c2
    refine lv_iconst (v := -1) hx hb dX0_typeOfBlock_5 (by decide) ?_
    refine lv_topi (fun v11 e11 => ?_)
    have z11 : v11.toInt = (-1) := zi_c e11 (by decide)
    exact hret v11 () _ _ _ _ dX0_typeOfBlock_6 trivial (hP.sub [] rfl) (hD.sub [] (by decide) rfl) hS

set_option maxHeartbeats 4000000 in
set_option maxRecDepth 100000 in
theorem c_Co_dataAt (l : Launch) (D : va_G) (cI cJ cB : ClassId) (ty : Int32) (x : Int32) (pl : Int64) (h1 : 0 ≤ x.toInt ∧ x.toInt < 8) :
    cti l yX0_dataAt (wsOf yX0_dataAt cX0_dataAt 4 (some .int)) (rmL 2 42 0 0) D classes (tys3 cI cJ cB) [.int ty, .long pl, .int x] [] (fun (r : Int32) (u : Unit) => True) (fun u : Unit => ([] : va_W)) := by
  refine cti.of (by first | exact plainFor_of_name (by decide) | decide +kernel) (Nat.le_of_ble_eq_true rfl) (fun p e s m args below meth c A ls Q h hret => ?_)
  obtain ⟨hx, hb, hml, hown, hts, hnm, hP, hK, hD, hA, hS, hZ, hN, hl⟩ := h
  have hown : s.vm.findClass RX0 = some m.cls := hown
  have hl : lv_has ls 4 [(0, .int ty), (1, .long pl), (3, .int x)] := hl
  have hP : va_P D classes [] s.heap := hP
  have hD : va_D A [] := hD
  have rg_ty := zi_rg ty
  have rg_x := zi_rg x
  refine lv_lload_n hx hb dX0_dataAt_0 rfl (lv_at hl 1 rfl) ?_
  refine lv_iload_n hx hb dX0_dataAt_1 rfl (lv_at hl 0 rfl) ?_
  refine lv_iload_n hx hb dX0_dataAt_2 rfl (lv_at hl 2 rfl) ?_
  have hh1 : 0 ≤ x.toInt ∧ x.toInt < 8 := (by omega)
  refine call_i (wc := []) (wr := []) (run_S (As := [.int ty, .int x]) (rest := [.long pl]) ks_RX0_50 ⟨by decide, by decide⟩ ⟨rfl, rfl⟩ ⟨hx, hb, hml, hown, hts⟩ (c_Co_dataShift l D cI cJ cB ty x hh1 _) ct_blind (ct_pre (wc := []) hK hP hD hS hA hZ hN [] (by decide) rfl rfl) rfl hl.1 rfl (Nat.le_of_ble_eq_true rfl) dX0_dataAt_3 ⟨Nat.le_of_ble_eq_true rfl, Nat.le_of_ble_eq_true rfl⟩) hP hD hS hA [] [] rfl rfl (by decide) (by decide) (fun r2 u H locs hw2 hP1 hD1 hS1 => ?_)
  have hw2 : (¬ eT ty → r2.toInt = 8 * x.toInt) ∧ (eT ty → r2.toInt = 8 + 8 * x.toInt) := hw2
  clear hP hD hS
  have hP : va_P D classes [] H := hP1
  have hD : va_D A [] := hD1
  have hS := hS1
  clear hP1 hD1 hS1
  have rg_r2 := zi_rg r2
  refine lv_lushr hx hb dX0_dataAt_6 rfl ?_
  refine lv_topl (fun v3 e3 => ?_)
  refine lv_l2i hx hb dX0_dataAt_7 rfl ?_
  refine lv_topi (fun v4 e4 => ?_)
  refine lv_sipush (v := 255) hx hb dX0_dataAt_8 (by decide) ?_
  refine lv_topi (fun v5 e5 => ?_)
  have z5 : v5.toInt = 255 := zi_c e5 (by decide)
  refine lv_iand hx hb dX0_dataAt_11 ?_
  refine lv_topi (fun v6 e6 => ?_)
  have z6 := zi_and e6 e5 8 (z := 256) (by decide) (by decide) (by decide)
  exact hret v6 () _ _ _ _ dX0_dataAt_12 trivial (hP.sub [] rfl) (hD.sub [] (by decide) rfl) hS

set_option maxHeartbeats 4000000 in
set_option maxRecDepth 100000 in
theorem c_Co_codedAt (l : Launch) (D : va_G) (cI cJ cB : ClassId) (x : Int32) (pl : Int64) (h1 : 0 ≤ x.toInt ∧ x.toInt < 8) :
    cti l yX0_codedAt (wsOf yX0_codedAt cX0_codedAt 4 (some .int)) (rmL 1 20 0 0) D classes (tys3 cI cJ cB) [.long pl, .int x] [] (fun (r : Int32) (u : Unit) => True) (fun u : Unit => ([] : va_W)) := by
  refine cti.of (by first | exact plainFor_of_name (by decide) | decide +kernel) (Nat.le_of_ble_eq_true rfl) (fun p e s m args below meth c A ls Q h hret => ?_)
  obtain ⟨hx, hb, hml, hown, hts, hnm, hP, hK, hD, hA, hS, hZ, hN, hl⟩ := h
  have hown : s.vm.findClass RX0 = some m.cls := hown
  have hl : lv_has ls 4 [(0, .long pl), (2, .int x)] := hl
  have hP : va_P D classes [] s.heap := hP
  have hD : va_D A [] := hD
  have rg_x := zi_rg x
  refine lv_lload_n hx hb dX0_codedAt_0 rfl (lv_at hl 0 rfl) ?_
  refine lv_iload_n hx hb dX0_codedAt_1 rfl (lv_at hl 1 rfl) ?_
  have hh1 : 0 ≤ x.toInt ∧ x.toInt < 8 := (by omega)
  refine call_i (wc := []) (wr := []) (run_S (As := [.int x]) (rest := [.long pl]) ks_RX0_54 ⟨by decide, by decide⟩ ⟨rfl, rfl⟩ ⟨hx, hb, hml, hown, hts⟩ (c_Co_codeShift l D cI cJ cB x hh1 _) ct_blind (ct_pre (wc := []) hK hP hD hS hA hZ hN [] (by decide) rfl rfl) rfl hl.1 rfl (Nat.le_of_ble_eq_true rfl) dX0_codedAt_2 ⟨Nat.le_of_ble_eq_true rfl, Nat.le_of_ble_eq_true rfl⟩) hP hD hS hA [] [] rfl rfl (by decide) (by decide) (fun r2 u H locs hw2 hP1 hD1 hS1 => ?_)
  have hw2 : r2.toInt = 8 + 7 * x.toInt := hw2
  clear hP hD hS
  have hP : va_P D classes [] H := hP1
  have hD : va_D A [] := hD1
  have hS := hS1
  clear hP1 hD1 hS1
  have rg_r2 := zi_rg r2
  refine lv_lushr hx hb dX0_codedAt_5 rfl ?_
  refine lv_topl (fun v3 e3 => ?_)
  refine lv_l2i hx hb dX0_codedAt_6 rfl ?_
  refine lv_topi (fun v4 e4 => ?_)
  refine lv_bipush (v := 127) hx hb dX0_codedAt_7 (by decide) ?_
  refine lv_topi (fun v5 e5 => ?_)
  have z5 : v5.toInt = 127 := zi_c e5 (by decide)
  refine lv_iand hx hb dX0_codedAt_9 ?_
  refine lv_topi (fun v6 e6 => ?_)
  have z6 := zi_and e6 e5 7 (z := 128) (by decide) (by decide) (by decide)
  refine lv_istore_n (lv' := [(3, .int v6), (0, .long pl), (2, .int x)]) hx hb dX0_codedAt_10 rfl hl (by decide) rfl (fun ls hl => ?_)
  refine lv_iload_n hx hb dX0_codedAt_11 rfl (lv_at hl 0 rfl) ?_
  refine lv_if_ne (tgt := 21) hx hb dX0_codedAt_12 (by decide) (fun c7 => ?_) (fun c7 => ?_)
  ·
    have z7 := zi_ne0 c7
    refine lv_sipush (v := 259) hx hb dX0_codedAt_21 (by decide) ?_
    refine lv_topi (fun v8 e8 => ?_)
    have z8 : v8.toInt = 259 := zi_c e8 (by decide)
    exact hret v8 () _ _ _ _ dX0_codedAt_24 trivial (hP.sub [] rfl) (hD.sub [] (by decide) rfl) hS
  ·
    have z7 := zi_eq0 c7
    refine lv_sipush (v := 256) hx hb dX0_codedAt_15 (by decide) ?_
    refine lv_topi (fun v10 e10 => ?_)
    have z10 : v10.toInt = 256 := zi_c e10 (by decide)
    refine lv_goto (tgt := 24) hx hb dX0_codedAt_18 (by decide) ?_
    exact hret v10 () _ _ _ _ dX0_codedAt_24 trivial (hP.sub [] rfl) (hD.sub [] (by decide) rfl) hS

set_option maxHeartbeats 4000000 in
set_option maxRecDepth 100000 in
theorem c_Co_characterByEnd (l : Launch) (D : va_G) (cI cJ cB : ClassId) (en : Int32) (ty : Int32) (x : Int32) (pl : Int64) (h1 : 0 ≤ x.toInt ∧ x.toInt < 8) :
    cti l yX0_characterByEnd (wsOf yX0_characterByEnd cX0_characterByEnd 5 (some .int)) (rmL 3 65 0 0) D classes (tys3 cI cJ cB) [.int en, .int ty, .long pl, .int x] [] (fun (r : Int32) (u : Unit) => True) (fun u : Unit => ([] : va_W)) := by
  refine cti.of (by first | exact plainFor_of_name (by decide) | decide +kernel) (Nat.le_of_ble_eq_true rfl) (fun p e s m args below meth c A ls Q h hret => ?_)
  obtain ⟨hx, hb, hml, hown, hts, hnm, hP, hK, hD, hA, hS, hZ, hN, hl⟩ := h
  have hown : s.vm.findClass RX0 = some m.cls := hown
  have hl : lv_has ls 5 [(0, .int en), (1, .int ty), (2, .long pl), (4, .int x)] := hl
  have hP : va_P D classes [] s.heap := hP
  have hD : va_D A [] := hD
  have rg_en := zi_rg en
  have rg_ty := zi_rg ty
  have rg_x := zi_rg x
  refine lv_iload hx hb dX0_characterByEnd_0 (lv_at hl 3 rfl) ?_
  refine lv_iload_n hx hb dX0_characterByEnd_2 rfl (lv_at hl 0 rfl) ?_
  refine lv_icmp_ne (tgt := 10) hx hb dX0_characterByEnd_3 (by decide) (fun c1 => ?_) (fun c1 => ?_)
  ·
    have z1 := zi_ne c1
    refine lv_iload hx hb dX0_characterByEnd_10 (lv_at hl 3 rfl) ?_
    refine lv_iload_n hx hb dX0_characterByEnd_12 rfl (lv_at hl 0 rfl) ?_
    refine lv_icmp_ge (tgt := 26) hx hb dX0_characterByEnd_13 (by decide) (fun c2 => ?_) (fun c2 => ?_)
    ·
      have z2 := zi_le c2
      refine lv_lload_n hx hb dX0_characterByEnd_26 rfl (lv_at hl 2 rfl) ?_
      refine lv_iload hx hb dX0_characterByEnd_27 (lv_at hl 3 rfl) ?_
      have hh3 : 0 ≤ x.toInt ∧ x.toInt < 8 := (by omega)
      refine call_i (wc := []) (wr := []) (run_S (As := [.long pl, .int x]) (rest := []) ks_RX0_43 ⟨by decide, by decide⟩ ⟨rfl, rfl⟩ ⟨hx, hb, hml, hown, hts⟩ (c_Co_codedAt l D cI cJ cB x pl hh3 _) ct_blind (ct_pre (wc := []) hK hP hD hS hA hZ hN [] (by decide) rfl rfl) rfl hl.1 rfl (Nat.le_of_ble_eq_true rfl) dX0_characterByEnd_29 ⟨Nat.le_of_ble_eq_true rfl, Nat.le_of_ble_eq_true rfl⟩) hP hD hS hA [] [] rfl rfl (by decide) (by decide) (fun r4 u H locs hw4 hP1 hD1 hS1 => ?_)
      clear hw4
      clear hP hD hS
      have hP : va_P D classes [] H := hP1
      have hD : va_D A [] := hD1
      have hS := hS1
      clear hP1 hD1 hS1
      have rg_r4 := zi_rg r4
      exact hret r4 () _ _ _ _ dX0_characterByEnd_32 trivial (hP.sub [] rfl) (hD.sub [] (by decide) rfl) hS
    ·
      have z2 := zi_nle c2
      refine lv_iload_n hx hb dX0_characterByEnd_16 rfl (lv_at hl 1 rfl) ?_
      refine lv_lload_n hx hb dX0_characterByEnd_17 rfl (lv_at hl 2 rfl) ?_
      refine lv_iload hx hb dX0_characterByEnd_18 (lv_at hl 3 rfl) ?_
      have hh6 : 0 ≤ x.toInt ∧ x.toInt < 8 := (by omega)
      refine call_i (wc := []) (wr := []) (run_S (As := [.int ty, .long pl, .int x]) (rest := []) ks_RX0_39 ⟨by decide, by decide⟩ ⟨rfl, rfl⟩ ⟨hx, hb, hml, hown, hts⟩ (c_Co_dataAt l D cI cJ cB ty x pl hh6 _) ct_blind (ct_pre (wc := []) hK hP hD hS hA hZ hN [] (by decide) rfl rfl) rfl hl.1 rfl (Nat.le_of_ble_eq_true rfl) dX0_characterByEnd_20 ⟨Nat.le_of_ble_eq_true rfl, Nat.le_of_ble_eq_true rfl⟩) hP hD hS hA [] [] rfl rfl (by decide) (by decide) (fun r7 u H locs hw7 hP1 hD1 hS1 => ?_)
      clear hw7
      clear hP hD hS
      have hP : va_P D classes [] H := hP1
      have hD : va_D A [] := hD1
      have hS := hS1
      clear hP1 hD1 hS1
      have rg_r7 := zi_rg r7
      refine lv_goto (tgt := 32) hx hb dX0_characterByEnd_23 (by decide) ?_
      exact hret r7 () _ _ _ _ dX0_characterByEnd_32 trivial (hP.sub [] rfl) (hD.sub [] (by decide) rfl) hS
  ·
    have z1 := zi_eq c1
    refine lv_sipush (v := 258) hx hb dX0_characterByEnd_6 (by decide) ?_
    refine lv_topi (fun v9 e9 => ?_)
    have z9 : v9.toInt = 258 := zi_c e9 (by decide)
    exact hret v9 () _ _ _ _ dX0_characterByEnd_9 trivial (hP.sub [] rfl) (hD.sub [] (by decide) rfl) hS

set_option maxHeartbeats 4000000 in
set_option maxRecDepth 100000 in
theorem c_Co_characterByMiddleStart (l : Launch) (D : va_G) (cI cJ cB : ClassId) (x : Int32) (pl : Int64) (h1 : 0 ≤ x.toInt ∧ x.toInt < 8) :
    cti l yX0_characterByMiddleStart (wsOf yX0_characterByMiddleStart cX0_characterByMiddleStart 3 (some .int)) (rmL 3 65 0 0) D classes (tys3 cI cJ cB) [.long pl, .int x] [] (fun (r : Int32) (u : Unit) => True) (fun u : Unit => ([] : va_W)) := by
  refine cti.of (by first | exact plainFor_of_name (by decide) | decide +kernel) (Nat.le_of_ble_eq_true rfl) (fun p e s m args below meth c A ls Q h hret => ?_)
  obtain ⟨hx, hb, hml, hown, hts, hnm, hP, hK, hD, hA, hS, hZ, hN, hl⟩ := h
  have hown : s.vm.findClass RX0 = some m.cls := hown
  have hl : lv_has ls 3 [(0, .long pl), (2, .int x)] := hl
  have hP : va_P D classes [] s.heap := hP
  have hD : va_D A [] := hD
  have rg_x := zi_rg x
  refine lv_iload_n hx hb dX0_characterByMiddleStart_0 rfl (lv_at hl 1 rfl) ?_
  refine lv_iconst (v := 4) hx hb dX0_characterByMiddleStart_1 (by decide) ?_
  refine lv_topi (fun v1 e1 => ?_)
  have z1 : v1.toInt = 4 := zi_c e1 (by decide)
  refine lv_icmp_ne (tgt := 9) hx hb dX0_characterByMiddleStart_2 (by decide) (fun c2 => ?_) (fun c2 => ?_)
  ·
    have z2 := zi_ne c2
    refine lv_iload_n hx hb dX0_characterByMiddleStart_9 rfl (lv_at hl 1 rfl) ?_
    refine lv_iconst (v := 4) hx hb dX0_characterByMiddleStart_10 (by decide) ?_
    refine lv_topi (fun v3 e3 => ?_)
    have z3 : v3.toInt = 4 := zi_c e3 (by decide)
    refine lv_icmp_ge (tgt := 22) hx hb dX0_characterByMiddleStart_11 (by decide) (fun c4 => ?_) (fun c4 => ?_)
    ·
      have z4 := zi_le c4
      refine lv_bipush (v := 51) hx hb dX0_characterByMiddleStart_22 (by decide) ?_
      refine lv_topi (fun v5 e5 => ?_)
      have z5 : v5.toInt = 51 := zi_c e5 (by decide)
      refine lv_lload_n hx hb dX0_characterByMiddleStart_24 rfl (lv_at hl 0 rfl) ?_
      refine lv_iload_n hx hb dX0_characterByMiddleStart_25 rfl (lv_at hl 1 rfl) ?_
      have hh6 : 0 ≤ x.toInt ∧ x.toInt < 8 := (by omega)
      refine call_i (wc := []) (wr := []) (run_S (As := [.int v5, .long pl, .int x]) (rest := []) ks_RX0_39 ⟨by decide, by decide⟩ ⟨rfl, rfl⟩ ⟨hx, hb, hml, hown, hts⟩ (c_Co_dataAt l D cI cJ cB v5 x pl hh6 _) ct_blind (ct_pre (wc := []) hK hP hD hS hA hZ hN [] (by decide) rfl rfl) rfl hl.1 rfl (Nat.le_of_ble_eq_true rfl) dX0_characterByMiddleStart_26 ⟨Nat.le_of_ble_eq_true rfl, Nat.le_of_ble_eq_true rfl⟩) hP hD hS hA [] [] rfl rfl (by decide) (by decide) (fun r7 u H locs hw7 hP1 hD1 hS1 => ?_)
      clear hw7
      clear hP hD hS
      have hP : va_P D classes [] H := hP1
      have hD : va_D A [] := hD1
      have hS := hS1
      clear hP1 hD1 hS1
      have rg_r7 := zi_rg r7
      exact hret r7 () _ _ _ _ dX0_characterByMiddleStart_29 trivial (hP.sub [] rfl) (hD.sub [] (by decide) rfl) hS
    ·
      have z4 := zi_nle c4
      refine lv_lload_n hx hb dX0_characterByMiddleStart_14 rfl (lv_at hl 0 rfl) ?_
      refine lv_iload_n hx hb dX0_characterByMiddleStart_15 rfl (lv_at hl 1 rfl) ?_
      have hh9 : 0 ≤ x.toInt ∧ x.toInt < 8 := (by omega)
      refine call_i (wc := []) (wr := []) (run_S (As := [.long pl, .int x]) (rest := []) ks_RX0_43 ⟨by decide, by decide⟩ ⟨rfl, rfl⟩ ⟨hx, hb, hml, hown, hts⟩ (c_Co_codedAt l D cI cJ cB x pl hh9 _) ct_blind (ct_pre (wc := []) hK hP hD hS hA hZ hN [] (by decide) rfl rfl) rfl hl.1 rfl (Nat.le_of_ble_eq_true rfl) dX0_characterByMiddleStart_16 ⟨Nat.le_of_ble_eq_true rfl, Nat.le_of_ble_eq_true rfl⟩) hP hD hS hA [] [] rfl rfl (by decide) (by decide) (fun r10 u H locs hw10 hP1 hD1 hS1 => ?_)
      clear hw10
      clear hP hD hS
      have hP : va_P D classes [] H := hP1
      have hD : va_D A [] := hD1
      have hS := hS1
      clear hP1 hD1 hS1
      have rg_r10 := zi_rg r10
      refine lv_goto (tgt := 29) hx hb dX0_characterByMiddleStart_19 (by decide) ?_
      exact hret r10 () _ _ _ _ dX0_characterByMiddleStart_29 trivial (hP.sub [] rfl) (hD.sub [] (by decide) rfl) hS
  ·
    have z2 := zi_eq c2
    refine lv_sipush (v := 257) hx hb dX0_characterByMiddleStart_5 (by decide) ?_
    refine lv_topi (fun v12 e12 => ?_)
    have z12 : v12.toInt = 257 := zi_c e12 (by decide)
    exact hret v12 () _ _ _ _ dX0_characterByMiddleStart_8 trivial (hP.sub [] rfl) (hD.sub [] (by decide) rfl) hS

set_option maxHeartbeats 4000000 in
set_option maxRecDepth 100000 in
theorem c_Co_characterOf (l : Launch) (D : va_G) (cI cJ cB : ClassId) (ty : Int32) (x : Int32) (pl : Int64) (h1 : 0 ≤ x.toInt ∧ x.toInt < 8) :
    cti l yX0_characterOf (wsOf yX0_characterOf cX0_characterOf 5 (some .int)) (rmL 4 89 0 0) D classes (tys3 cI cJ cB) [.int ty, .long pl, .int x] [] (fun (r : Int32) (u : Unit) => True) (fun u : Unit => ([] : va_W)) := by
  refine cti.of (by first | exact plainFor_of_name (by decide) | decide +kernel) (Nat.le_of_ble_eq_true rfl) (fun p e s m args below meth c A ls Q h hret => ?_)
  obtain ⟨hx, hb, hml, hown, hts, hnm, hP, hK, hD, hA, hS, hZ, hN, hl⟩ := h
  have hown : s.vm.findClass RX0 = some m.cls := hown
  have hl : lv_has ls 5 [(0, .int ty), (1, .long pl), (3, .int x)] := hl
  have hP : va_P D classes [] s.heap := hP
  have hD : va_D A [] := hD
  have rg_ty := zi_rg ty
  have rg_x := zi_rg x
  refine lv_iload_n hx hb dX0_characterOf_0 rfl (lv_at hl 0 rfl) ?_
  refine call_i (wc := []) (wr := []) (run_S (As := [.int ty]) (rest := []) ks_RX0_31 ⟨by decide, by decide⟩ ⟨rfl, rfl⟩ ⟨hx, hb, hml, hown, hts⟩ (c_Co_endPlace l D cI cJ cB ty  _) ct_blind (ct_pre (wc := []) hK hP hD hS hA hZ hN [] (by decide) rfl rfl) rfl hl.1 rfl (Nat.le_of_ble_eq_true rfl) dX0_characterOf_1 ⟨Nat.le_of_ble_eq_true rfl, Nat.le_of_ble_eq_true rfl⟩) hP hD hS hA [] [] rfl rfl (by decide) (by decide) (fun r1 u H locs hw1 hP1 hD1 hS1 => ?_)
  have hw1 : (r1.toInt = -1 ∧ ∀ d, d < 8 → ¬ ty = st_k d) ∨ ((0 ≤ r1.toInt ∧ r1.toInt < 8) ∧ ty = st_k r1.toInt.toNat) := hw1
  clear hP hD hS
  have hP : va_P D classes [] H := hP1
  have hD : va_D A [] := hD1
  have hS := hS1
  clear hP1 hD1 hS1
  have rg_r1 := zi_rg r1
  refine lv_istore (lv' := [(4, .int r1), (0, .int ty), (1, .long pl), (3, .int x)]) hx hb dX0_characterOf_4 hl (by decide) rfl (fun ls hl => ?_)
  refine lv_iload hx hb dX0_characterOf_6 (lv_at hl 0 rfl) ?_
  refine lv_iconst (v := -1) hx hb dX0_characterOf_8 (by decide) ?_
  refine lv_topi (fun v2 e2 => ?_)
  have z2 : v2.toInt = (-1) := zi_c e2 (by decide)
  refine lv_icmp_eq (tgt := 21) hx hb dX0_characterOf_9 (by decide) (fun c3 => ?_) (fun c3 => ?_)
  ·
    have z3 := zi_eq c3
    refine lv_iload_n hx hb dX0_characterOf_21 rfl (lv_at hl 1 rfl) ?_
    have hs4 : (¬ ty.toInt = -1 ∧ ¬ ty.toInt = 30 ∧ ¬ ty.toInt = 51 ∧ ¬ ty.toInt = 120) ∨ ty.toInt = -1 ∨ ty.toInt = 30 ∨ ty.toInt = 51 ∨ ty.toInt = 120 := by omega
    rcases hs4 with z4 | z4 | z4 | z4 | z4
    ·
      refine lv_lookup (tgt := 100) (off := 78) hx hb dX0_characterOf_22 (by decide) (by show Op.lookupswitch.offset [(-1, 42), (30, 49), (51, 72), (120, 55)] 78 ty.toInt = 78; rw [Op.lookupswitch.offset_cons, if_neg (by omega), Op.lookupswitch.offset_cons, if_neg (by omega), Op.lookupswitch.offset_cons, if_neg (by omega), Op.lookupswitch.offset_cons, if_neg (by omega)]; rfl) (by decide) ?_
      refine lv_sipush (v := 259) hx hb dX0_characterOf_100 (by decide) ?_
      refine lv_topi (fun v5 e5 => ?_)
      have z5 : v5.toInt = 259 := zi_c e5 (by decide)
      exact hret v5 () _ _ _ _ dX0_characterOf_103 trivial (hP.sub [] rfl) (hD.sub [] (by decide) rfl) hS
    ·
      refine lv_lookup (tgt := 64) (off := 42) hx hb dX0_characterOf_22 (by decide) (by rw [z4]; rfl) (by decide) ?_
      refine lv_iload_n hx hb dX0_characterOf_64 rfl (lv_at hl 1 rfl) ?_
      refine lv_lload_n hx hb dX0_characterOf_65 rfl (lv_at hl 2 rfl) ?_
      refine lv_iload_n hx hb dX0_characterOf_66 rfl (lv_at hl 3 rfl) ?_
      have hh7 : 0 ≤ x.toInt ∧ x.toInt < 8 := (by omega)
      refine call_i (wc := []) (wr := []) (run_S (As := [.int ty, .long pl, .int x]) (rest := []) ks_RX0_39 ⟨by decide, by decide⟩ ⟨rfl, rfl⟩ ⟨hx, hb, hml, hown, hts⟩ (c_Co_dataAt l D cI cJ cB ty x pl hh7 _) ct_blind (ct_pre (wc := []) hK hP hD hS hA hZ hN [] (by decide) rfl rfl) rfl hl.1 rfl (Nat.le_of_ble_eq_true rfl) dX0_characterOf_67 ⟨Nat.le_of_ble_eq_true rfl, Nat.le_of_ble_eq_true rfl⟩) hP hD hS hA [] [] rfl rfl (by decide) (by decide) (fun r8 u H locs hw8 hP1 hD1 hS1 => ?_)
      clear hw8
      clear hP hD hS
      have hP : va_P D classes [] H := hP1
      have hD : va_D A [] := hD1
      have hS := hS1
      clear hP1 hD1 hS1
      have rg_r8 := zi_rg r8
      exact hret r8 () _ _ _ _ dX0_characterOf_70 trivial (hP.sub [] rfl) (hD.sub [] (by decide) rfl) hS
    ·
      refine lv_lookup (tgt := 71) (off := 49) hx hb dX0_characterOf_22 (by decide) (by rw [z4]; rfl) (by decide) ?_
      refine lv_lload_n hx hb dX0_characterOf_71 rfl (lv_at hl 2 rfl) ?_
      refine lv_iload_n hx hb dX0_characterOf_72 rfl (lv_at hl 3 rfl) ?_
      have hh10 : 0 ≤ x.toInt ∧ x.toInt < 8 := (by omega)
      refine call_i (wc := []) (wr := []) (run_S (As := [.long pl, .int x]) (rest := []) ks_RX0_43 ⟨by decide, by decide⟩ ⟨rfl, rfl⟩ ⟨hx, hb, hml, hown, hts⟩ (c_Co_codedAt l D cI cJ cB x pl hh10 _) ct_blind (ct_pre (wc := []) hK hP hD hS hA hZ hN [] (by decide) rfl rfl) rfl hl.1 rfl (Nat.le_of_ble_eq_true rfl) dX0_characterOf_73 ⟨Nat.le_of_ble_eq_true rfl, Nat.le_of_ble_eq_true rfl⟩) hP hD hS hA [] [] rfl rfl (by decide) (by decide) (fun r11 u H locs hw11 hP1 hD1 hS1 => ?_)
      clear hw11
      clear hP hD hS
      have hP : va_P D classes [] H := hP1
      have hD : va_D A [] := hD1
      have hS := hS1
      clear hP1 hD1 hS1
      have rg_r11 := zi_rg r11
      exact hret r11 () _ _ _ _ dX0_characterOf_76 trivial (hP.sub [] rfl) (hD.sub [] (by decide) rfl) hS
    ·
      refine lv_lookup (tgt := 94) (off := 72) hx hb dX0_characterOf_22 (by decide) (by rw [z4]; rfl) (by decide) ?_
      refine lv_lload_n hx hb dX0_characterOf_94 rfl (lv_at hl 2 rfl) ?_
      refine lv_iload_n hx hb dX0_characterOf_95 rfl (lv_at hl 3 rfl) ?_
      have hh13 : 0 ≤ x.toInt ∧ x.toInt < 8 := (by omega)
      refine call_i (wc := []) (wr := []) (run_S (As := [.long pl, .int x]) (rest := []) ks_RX0_47 ⟨by decide, by decide⟩ ⟨rfl, rfl⟩ ⟨hx, hb, hml, hown, hts⟩ (c_Co_characterByMiddleStart l D cI cJ cB x pl hh13 _) ct_blind (ct_pre (wc := []) hK hP hD hS hA hZ hN [] (by decide) rfl rfl) rfl hl.1 rfl (Nat.le_of_ble_eq_true rfl) dX0_characterOf_96 ⟨Nat.le_of_ble_eq_true rfl, Nat.le_of_ble_eq_true rfl⟩) hP hD hS hA [] [] rfl rfl (by decide) (by decide) (fun r14 u H locs hw14 hP1 hD1 hS1 => ?_)
      clear hw14
      clear hP hD hS
      have hP : va_P D classes [] H := hP1
      have hD : va_D A [] := hD1
      have hS := hS1
      clear hP1 hD1 hS1
      have rg_r14 := zi_rg r14
      exact hret r14 () _ _ _ _ dX0_characterOf_99 trivial (hP.sub [] rfl) (hD.sub [] (by decide) rfl) hS
    ·
      refine lv_lookup (tgt := 77) (off := 55) hx hb dX0_characterOf_22 (by decide) (by rw [z4]; rfl) (by decide) ?_
      refine lv_iload_n hx hb dX0_characterOf_77 rfl (lv_at hl 3 rfl) ?_
      refine lv_if_ne (tgt := 87) hx hb dX0_characterOf_78 (by decide) (fun c16 => ?_) (fun c16 => ?_)
      ·
        have z16 := zi_ne0 c16
        refine lv_iload_n hx hb dX0_characterOf_87 rfl (lv_at hl 1 rfl) ?_
        refine lv_lload_n hx hb dX0_characterOf_88 rfl (lv_at hl 2 rfl) ?_
        refine lv_iload_n hx hb dX0_characterOf_89 rfl (lv_at hl 3 rfl) ?_
        have hh17 : 0 ≤ x.toInt ∧ x.toInt < 8 := (by omega)
        refine call_i (wc := []) (wr := []) (run_S (As := [.int ty, .long pl, .int x]) (rest := []) ks_RX0_39 ⟨by decide, by decide⟩ ⟨rfl, rfl⟩ ⟨hx, hb, hml, hown, hts⟩ (c_Co_dataAt l D cI cJ cB ty x pl hh17 _) ct_blind (ct_pre (wc := []) hK hP hD hS hA hZ hN [] (by decide) rfl rfl) rfl hl.1 rfl (Nat.le_of_ble_eq_true rfl) dX0_characterOf_90 ⟨Nat.le_of_ble_eq_true rfl, Nat.le_of_ble_eq_true rfl⟩) hP hD hS hA [] [] rfl rfl (by decide) (by decide) (fun r18 u H locs hw18 hP1 hD1 hS1 => ?_)
        clear hw18
        clear hP hD hS
        have hP : va_P D classes [] H := hP1
        have hD : va_D A [] := hD1
        have hS := hS1
        clear hP1 hD1 hS1
        have rg_r18 := zi_rg r18
        exact hret r18 () _ _ _ _ dX0_characterOf_93 trivial (hP.sub [] rfl) (hD.sub [] (by decide) rfl) hS
      ·
        have z16 := zi_eq0 c16
        refine lv_sipush (v := 257) hx hb dX0_characterOf_81 (by decide) ?_
        refine lv_topi (fun v20 e20 => ?_)
        have z20 : v20.toInt = 257 := zi_c e20 (by decide)
        refine lv_goto (tgt := 93) hx hb dX0_characterOf_84 (by decide) ?_
        exact hret v20 () _ _ _ _ dX0_characterOf_93 trivial (hP.sub [] rfl) (hD.sub [] (by decide) rfl) hS
  ·
    have z3 := zi_ne c3
    refine lv_iload hx hb dX0_characterOf_12 (lv_at hl 0 rfl) ?_
    refine lv_iload_n hx hb dX0_characterOf_14 rfl (lv_at hl 1 rfl) ?_
    refine lv_lload_n hx hb dX0_characterOf_15 rfl (lv_at hl 2 rfl) ?_
    refine lv_iload_n hx hb dX0_characterOf_16 rfl (lv_at hl 3 rfl) ?_
    have hh22 : 0 ≤ x.toInt ∧ x.toInt < 8 := (by omega)
    refine call_i (wc := []) (wr := []) (run_S (As := [.int r1, .int ty, .long pl, .int x]) (rest := []) ks_RX0_35 ⟨by decide, by decide⟩ ⟨rfl, rfl⟩ ⟨hx, hb, hml, hown, hts⟩ (c_Co_characterByEnd l D cI cJ cB r1 ty x pl hh22 _) ct_blind (ct_pre (wc := []) hK hP hD hS hA hZ hN [] (by decide) rfl rfl) rfl hl.1 rfl (Nat.le_of_ble_eq_true rfl) dX0_characterOf_17 ⟨Nat.le_of_ble_eq_true rfl, Nat.le_of_ble_eq_true rfl⟩) hP hD hS hA [] [] rfl rfl (by decide) (by decide) (fun r23 u H locs hw23 hP1 hD1 hS1 => ?_)
    clear hw23
    clear hP hD hS
    have hP : va_P D classes [] H := hP1
    have hD : va_D A [] := hD1
    have hS := hS1
    clear hP1 hD1 hS1
    have rg_r23 := zi_rg r23
    exact hret r23 () _ _ _ _ dX0_characterOf_20 trivial (hP.sub [] rfl) (hD.sub [] (by decide) rfl) hS
