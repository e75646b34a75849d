set_option maxHeartbeats 4000000 in
set_option maxRecDepth 100000 in
theorem c_JM_floorMod (l : Launch) (D : va_G) (cI cJ cB : ClassId) (x : Int32) (y : Int32) (h1 : 0 ≤ x.toInt) (h2 : 0 < y.toInt) :
    cti l yJ9_floorMod_7cf53 (wsOf yJ9_floorMod_7cf53 cJ9_floorMod_7cf53 3 (some .int)) (rmL 0 0 0 0) D classes (tys3 cI cJ cB) [.int x, .int y] [] (fun (r : Int32) (u : Unit) => (0 ≤ r.toInt ∧ r.toInt < y.toInt) ∧ r.toInt = x.toInt % y.toInt) (fun u : Unit => ([] : va_W)) := by
  refine cti.of (by first | exact plainFor_of_name (by decide) | decide +kernel) (Nat.le_of_ble_eq_true rfl) (fun p e s m args below meth c A ls Q h hret => ?_)
  obtain ⟨hx, hb, hml, hown, hts, hnm, hP, hK, hD, hA, hS, hZ, hN, hl⟩ := h
  have hown : s.vm.findClass RJ9 = some m.cls := hown
  have hl : lv_has ls 3 [(0, .int x), (1, .int y)] := hl
  have hP : va_P D classes [] s.heap := hP
  have hD : va_D A [] := hD
  have rg_x := zi_rg x
  have rg_y := zi_rg y
  refine lv_iload_n hx hb dJ9_floorMod_7cf53_0 rfl (lv_at hl 0 rfl) ?_
  refine lv_iload_n hx hb dJ9_floorMod_7cf53_1 rfl (lv_at hl 1 rfl) ?_
  refine lv_irem hx hb dJ9_floorMod_7cf53_2 (zi_pne (by omega)) ?_
  refine lv_topi (fun v1 e1 => ?_)
  have z1 := zi_remv e1 (by omega) (by omega)
  refine lv_istore_n (lv' := [(2, .int v1), (0, .int x), (1, .int y)]) hx hb dJ9_floorMod_7cf53_3 rfl hl (by decide) rfl (fun ls hl => ?_)
  refine lv_iload_n hx hb dJ9_floorMod_7cf53_4 rfl (lv_at hl 1 rfl) ?_
  refine lv_iload_n hx hb dJ9_floorMod_7cf53_5 rfl (lv_at hl 2 rfl) ?_
  refine lv_ixor hx hb dJ9_floorMod_7cf53_6 ?_
  refine lv_topi (fun v2 e2 => ?_)
  have z2 := zi_xor e2 (by omega)
  refine lv_if_ge (tgt := 18) hx hb dJ9_floorMod_7cf53_7 (by decide) (fun c3 => ?_) (fun c3 => ?_)
  ·
    have z3 := zi_ge0 c3
    refine lv_iload_n hx hb dJ9_floorMod_7cf53_18 rfl (lv_at hl 0 rfl) ?_
    have hq4 : (0 ≤ v1.toInt ∧ v1.toInt < y.toInt) ∧ v1.toInt = x.toInt % y.toInt := (by omega)
    exact hret v1 () _ _ _ _ dJ9_floorMod_7cf53_19 hq4 (hP.sub [] rfl) (hD.sub [] (by decide) rfl) hS
  ·
    have z3 := zi_nge0 c3
    refine lv_iload_n hx hb dJ9_floorMod_7cf53_10 rfl (lv_at hl 0 rfl) ?_
    refine lv_if_eq (tgt := 18) hx hb dJ9_floorMod_7cf53_11 (by decide) (fun c5 => ?_) (fun c5 => ?_)
    ·
      have z5 := zi_eq0 c5
      refine lv_iload_n hx hb dJ9_floorMod_7cf53_18 rfl (lv_at hl 0 rfl) ?_
      have hq6 : (0 ≤ v1.toInt ∧ v1.toInt < y.toInt) ∧ v1.toInt = x.toInt % y.toInt := (by omega)
      exact hret v1 () _ _ _ _ dJ9_floorMod_7cf53_19 hq6 (hP.sub [] rfl) (hD.sub [] (by decide) rfl) hS
    ·
      have z5 := zi_ne0 c5
      refine lv_iload_n hx hb dJ9_floorMod_7cf53_14 rfl (lv_at hl 0 rfl) ?_
      refine lv_iload_n hx hb dJ9_floorMod_7cf53_15 rfl (lv_at hl 2 rfl) ?_
      refine lv_iadd hx hb dJ9_floorMod_7cf53_16 ?_
      refine lv_topi (fun v7 e7 => ?_)
      first | have z7 := zi_add e7 (by omega) | skip
      have hq8 : (0 ≤ v7.toInt ∧ v7.toInt < y.toInt) ∧ v7.toInt = x.toInt % y.toInt := (by omega)
      exact hret v7 () _ _ _ _ dJ9_floorMod_7cf53_17 hq8 (hP.sub [] rfl) (hD.sub [] (by decide) rfl) hS

set_option maxHeartbeats 4000000 in
set_option maxRecDepth 100000 in
theorem c_JA_fill (l : Launch) (D : va_G) (cI cJ cB : ClassId) (aG : Nat) (x : Int32) (fg : Nat → Int32)  :
    ctv l yJ7_fill_53178 (wsOf yJ7_fill_53178 cJ7_fill_53178 4 none) (rmL 0 0 0 0) D classes (tys3 cI cJ cB) [.ref aG, .int x] [(aG, .inl (cI, 8, .inl fg))] (fun u : (Nat → Int32) => ∀ j, j < 8 → u j = x) (fun u : (Nat → Int32) => ([(aG, .inl (cI, 8, .inl u))] : va_W)) 0 0 := by
  refine ctv.of (by first | exact plainFor_of_name (by decide) | decide +kernel) (Nat.le_of_ble_eq_true rfl) (fun p e s m args below meth c A ls Q h hret => ?_)
  obtain ⟨hx, hb, hml, hown, hts, hnm, hP, hK, hD, hA, hS, hZ, hN, hl⟩ := h
  have hown : s.vm.findClass RJ7 = some m.cls := hown
  have hl : lv_has ls 4 [(0, .ref aG), (1, .int x)] := hl
  have hP : va_P D classes [(aG, .inl (cI, 8, .inl fg))] s.heap := hP
  have hD : va_D A [(aG, .inl (cI, 8, .inl fg))] := hD
  have rg_x := zi_rg x
  refine lv_iconst (v := 0) hx hb dJ7_fill_53178_0 (by decide) ?_
  refine lv_topi (fun v1 e1 => ?_)
  have z1 : v1.toInt = 0 := zi_c e1 (by decide)
  refine lv_istore_n (lv' := [(2, .int v1), (0, .ref aG), (1, .int x)]) hx hb dJ7_fill_53178_1 rfl hl (by decide) rfl (fun ls hl => ?_)
  refine lv_aload_n hx hb dJ7_fill_53178_2 rfl (lv_at hl 1 rfl) ?_
  refine va_alen hx hb hK hP 0 0 rfl rfl (v := 8) rfl dJ7_fill_53178_3 ?_
  refine lv_topi (fun v2 e2 => ?_)
  have z2 : v2.toInt = 8 := zi_c e2 (by decide)
  refine lv_istore_n (lv' := [(3, .int v2), (2, .int v1), (0, .ref aG), (1, .int x)]) hx hb dJ7_fill_53178_4 rfl hl (by decide) rfl (fun ls hl => ?_)
  have J5 : ∀ (n : Nat) (k : Int32) (g : Nat → Int32) (H : Heap) (locs : List Loc) (ls : Array Slot), ((8 - k.toInt).toNat) < n → (0 ≤ k.toInt) → (∀ j, j < k.toInt.toNat → g j = x) → va_P D classes [(aG, .inl (cI, 8, .inl g))] H → va_D A [(aG, .inl (cI, 8, .inl g))] → va_S A s.heap H locs → lv_has ls 4 [(3, .int v2), (0, .ref aG), (1, .int x), (2, .int k)] → W p l e (rmL 0 0 0 0) s m args below meth c H locs 0 0 Q (F0 m 5 ls []) := by
    intro n
    induction n with
    | zero => intro k g H locs ls hmu; exact absurd hmu (Nat.not_lt_zero _)
    | succ n ih5 =>
      intro k g H locs ls hmu5 i5_0 i5_1 hP hD hS hl
      have rg_k := zi_rg k
      refine lv_iload_n hx hb dJ7_fill_53178_5 rfl (lv_at hl 3 rfl) ?_
      refine lv_iload_n hx hb dJ7_fill_53178_6 rfl (lv_at hl 0 rfl) ?_
      refine lv_icmp_ge (tgt := 20) hx hb dJ7_fill_53178_7 (by decide) (fun c3 => ?_) (fun c3 => ?_)
      ·
        have z3 := zi_le c3
        have hq4 : ∀ j, j < 8 → g j = x := (fun j hj => i5_1 j (by omega))
        exact hret g _ _ _ _ dJ7_fill_53178_20 hq4 (hP.sub [0] rfl) (hD.sub [0] (by decide) rfl) hS
      ·
        have z3 := zi_nle c3
        refine lv_aload_n hx hb dJ7_fill_53178_10 rfl (lv_at hl 1 rfl) ?_
        refine lv_iload_n hx hb dJ7_fill_53178_11 rfl (lv_at hl 3 rfl) ?_
        refine lv_iload_n hx hb dJ7_fill_53178_12 rfl (lv_at hl 2 rfl) ?_
        obtain ⟨f5, ef5⟩ : ∃ z9, z9 = upd g k.toNatClampNeg x := ⟨_, rfl⟩
        refine va_iast hx hb hK hP hD hS 0 0 rfl rfl (zi_in (by omega)) dJ7_fill_53178_13 (fun H locs hP1 hD1 hS1 => ?_)
        rw [← ef5] at hP1 hD1
        clear hP hD hS
        have hP : va_P D classes [(aG, .inl (cI, 8, .inl f5))] H := hP1
        have hD : va_D A [(aG, .inl (cI, 8, .inl f5))] := hD1
        have hS := hS1
        clear hP1 hD1 hS1
        obtain ⟨v6, e6⟩ : ∃ y : Int32, y = k + 1 := ⟨_, rfl⟩
        first | have z6 := zi_inc (z := 1) 1 (by decide) e6 (by omega) | skip
        refine lv_iinc (v := v6) (lv' := [(2, .int v6), (3, .int v2), (0, .ref aG), (1, .int x)]) hx hb dJ7_fill_53178_14 hl (k := 3) rfl (by rw [e6]; rfl) (by decide) rfl (fun ls hl => ?_)
        refine lv_goto (tgt := 5) hx hb dJ7_fill_53178_17 (by decide) ?_
        exact ih5 v6 f5 _ _ _ (by omega) (by omega) (fun j hj => by rw [ef5]; by_cases g9 : j = k.toInt.toNat; (· rw [g9]; exact pk_us); (· rw [pk_un (show j ≠ k.toNatClampNeg from g9)]; exact i5_1 j (by omega))) (hP.sub [0] rfl) (hD.sub [0] (by decide) rfl) hS (lv_sub hl [1, 2, 3, 0] rfl)
  exact J5 _ v1 fg _ _ _ (Nat.lt_succ_self _) (by omega) (fun j hj => absurd hj (by omega)) (hP.sub [0] rfl) (hD.sub [0] (by decide) rfl) hS (lv_sub hl [0, 2, 3, 1] rfl)

set_option maxHeartbeats 4000000 in
set_option maxRecDepth 100000 in
theorem c_Ln_size (l : Launch) (D : va_G) (cI cJ cB : ClassId) (aL : Nat) (aW : Nat) (fi : Int32) (cn : Int32)  :
    cti l yX2_size (wsOf yX2_size cX2_size 1 (some .int)) (rmL 0 0 0 0) D classes (tys3 cI cJ cB) [.ref aL] [(aL, .inr (1, [.ref aW, .int fi, .int cn]))] (fun (r : Int32) (u : Unit) => r.toInt = cn.toInt) (fun u : Unit => ([(aL, .inr (1, [.ref aW, .int fi, .int cn]))] : va_W)) := by
  refine cti.of (by first | exact plainFor_of_name (by decide) | decide +kernel) (Nat.le_of_ble_eq_true rfl) (fun p e s m args below meth c A ls Q h hret => ?_)
  obtain ⟨hx, hb, hml, hown, hts, hnm, hP, hK, hD, hA, hS, hZ, hN, hl⟩ := h
  have hown : s.vm.findClass RX2 = some m.cls := hown
  have hl : lv_has ls 1 [(0, .ref aL)] := hl
  have hP : va_P D classes [(aL, .inr (1, [.ref aW, .int fi, .int cn]))] s.heap := hP
  have hD : va_D A [(aL, .inr (1, [.ref aW, .int fi, .int cn]))] := hD
  have rg_fi := zi_rg fi
  have rg_cn := zi_rg cn
  refine lv_aload_n hx hb dX2_size_0 rfl (lv_at hl 0 rfl) ?_
  refine va_get (D := D) (ci := 1) (v := .int cn) (C := RX2) (T := TX2) (N := 3) hx hb hts in_X2 hown hK hP 0 rfl rfl 2 (by decide) (hts _ wk81) (fun _ h9 => h9) rfl dX2_size_1 ?_
  have hq1 : cn.toInt = cn.toInt := (by omega)
  exact hret cn () _ _ _ _ dX2_size_4 hq1 (hP.sub [0] rfl) (hD.sub [0] (by decide) rfl) hS

set_option maxHeartbeats 4000000 in
set_option maxRecDepth 100000 in
theorem c_Ln_has (l : Launch) (D : va_G) (cI cJ cB : ClassId) (aL : Nat) (aW : Nat) (fi : Int32) (cn : Int32) (i : Int32)  :
    cti l yX2_has (wsOf yX2_has cX2_has 2 (some .boolean)) (rmL 0 0 0 0) D classes (tys3 cI cJ cB) [.ref aL, .int i] [(aL, .inr (1, [.ref aW, .int fi, .int cn]))] (fun (r : Int32) (u : Unit) => (r.toInt = 1 ∧ 0 ≤ i.toInt ∧ i.toInt < cn.toInt) ∨ (r.toInt = 0 ∧ (i.toInt < 0 ∨ cn.toInt ≤ i.toInt))) (fun u : Unit => ([(aL, .inr (1, [.ref aW, .int fi, .int cn]))] : va_W)) := by
  refine ctz.of (by first | exact plainFor_of_name (by decide) | decide +kernel) (Nat.le_of_ble_eq_true rfl) (fun p e s m args below meth c A ls Q h hret => ?_)
  obtain ⟨hx, hb, hml, hown, hts, hnm, hP, hK, hD, hA, hS, hZ, hN, hl⟩ := h
  have hown : s.vm.findClass RX2 = some m.cls := hown
  have hl : lv_has ls 2 [(0, .ref aL), (1, .int i)] := hl
  have hP : va_P D classes [(aL, .inr (1, [.ref aW, .int fi, .int cn]))] s.heap := hP
  have hD : va_D A [(aL, .inr (1, [.ref aW, .int fi, .int cn]))] := hD
  have rg_fi := zi_rg fi
  have rg_cn := zi_rg cn
  have rg_i := zi_rg i
  refine lv_iload_n hx hb dX2_has_0 rfl (lv_at hl 1 rfl) ?_
  refine lv_if_lt (tgt := 16) hx hb dX2_has_1 (by decide) (fun c1 => ?_) (fun c1 => ?_)
  ·
    have z1 := zi_lt0 c1
    refine lv_iconst (v := 0) hx hb dX2_has_16 (by decide) ?_
    refine lv_topi (fun v2 e2 => ?_)
    have z2 : v2.toInt = 0 := zi_c e2 (by decide)
    have hq3 : (v2.toInt = 1 ∧ 0 ≤ i.toInt ∧ i.toInt < cn.toInt) ∨ (v2.toInt = 0 ∧ (i.toInt < 0 ∨ cn.toInt ≤ i.toInt)) := (by omega)
    exact hret v2 () _ _ _ _ dX2_has_17 (zb_n (by omega)) hq3 (hP.sub [0] rfl) (hD.sub [0] (by decide) rfl) hS
  ·
    have z1 := zi_nlt0 c1
    refine lv_iload_n hx hb dX2_has_4 rfl (lv_at hl 1 rfl) ?_
    refine lv_aload_n hx hb dX2_has_5 rfl (lv_at hl 0 rfl) ?_
    refine va_get (D := D) (ci := 1) (v := .int cn) (C := RX2) (T := TX2) (N := 3) hx hb hts in_X2 hown hK hP 0 rfl rfl 2 (by decide) (hts _ wk81) (fun _ h9 => h9) rfl dX2_has_6 ?_
    refine lv_icmp_ge (tgt := 16) hx hb dX2_has_9 (by decide) (fun c4 => ?_) (fun c4 => ?_)
    ·
      have z4 := zi_le c4
      refine lv_iconst (v := 0) hx hb dX2_has_16 (by decide) ?_
      refine lv_topi (fun v5 e5 => ?_)
      have z5 : v5.toInt = 0 := zi_c e5 (by decide)
      have hq6 : (v5.toInt = 1 ∧ 0 ≤ i.toInt ∧ i.toInt < cn.toInt) ∨ (v5.toInt = 0 ∧ (i.toInt < 0 ∨ cn.toInt ≤ i.toInt)) := (by omega)
      exact hret v5 () _ _ _ _ dX2_has_17 (zb_n (by omega)) hq6 (hP.sub [0] rfl) (hD.sub [0] (by decide) rfl) hS
    ·
      have z4 := zi_nle c4
      refine lv_iconst (v := 1) hx hb dX2_has_12 (by decide) ?_
      refine lv_topi (fun v7 e7 => ?_)
      have z7 : v7.toInt = 1 := zi_c e7 (by decide)
      refine lv_goto (tgt := 17) hx hb dX2_has_13 (by decide) ?_
      have hq8 : (v7.toInt = 1 ∧ 0 ≤ i.toInt ∧ i.toInt < cn.toInt) ∨ (v7.toInt = 0 ∧ (i.toInt < 0 ∨ cn.toInt ≤ i.toInt)) := (by omega)
      exact hret v7 () _ _ _ _ dX2_has_17 (zb_n (by omega)) hq8 (hP.sub [0] rfl) (hD.sub [0] (by decide) rfl) hS

set_option maxHeartbeats 4000000 in
set_option maxRecDepth 100000 in
theorem c_Ln_ringPlace (l : Launch) (D : va_G) (cI cJ cB : ClassId) (aL : Nat) (aW : Nat) (fi : Int32) (cn : Int32) (i : Int32) (h1 : 0 ≤ fi.toInt ∧ fi.toInt < 9088) (h2 : 0 ≤ i.toInt ∧ i.toInt ≤ 9087) :
    cti l yX2_ringPlace (wsOf yX2_ringPlace cX2_ringPlace 2 (some .int)) (rmL 1 22 0 0) D classes (tys3 cI cJ cB) [.ref aL, .int i] [(aL, .inr (1, [.ref aW, .int fi, .int cn]))] (fun (r : Int32) (u : Unit) => (0 ≤ r.toInt ∧ r.toInt < 9088) ∧ r.toInt = (fi.toInt + i.toInt) % 9088) (fun u : Unit => ([(aL, .inr (1, [.ref aW, .int fi, .int cn]))] : va_W)) := by
  refine cti.of (by first | exact plainFor_of_name (by decide) | decide +kernel) (Nat.le_of_ble_eq_true rfl) (fun p e s m args below meth c A ls Q h hret => ?_)
  obtain ⟨hx, hb, hml, hown, hts, hnm, hP, hK, hD, hA, hS, hZ, hN, hl⟩ := h
  have hown : s.vm.findClass RX2 = some m.cls := hown
  have hl : lv_has ls 2 [(0, .ref aL), (1, .int i)] := hl
  have hP : va_P D classes [(aL, .inr (1, [.ref aW, .int fi, .int cn]))] s.heap := hP
  have hD : va_D A [(aL, .inr (1, [.ref aW, .int fi, .int cn]))] := hD
  have rg_fi := zi_rg fi
  have rg_cn := zi_rg cn
  have rg_i := zi_rg i
  refine lv_aload_n hx hb dX2_ringPlace_0 rfl (lv_at hl 0 rfl) ?_
  refine va_get (D := D) (ci := 1) (v := .int fi) (C := RX2) (T := TX2) (N := 3) hx hb hts in_X2 hown hK hP 0 rfl rfl 1 (by decide) (hts _ wk140) (fun _ h9 => h9) rfl dX2_ringPlace_1 ?_
  refine lv_iload_n hx hb dX2_ringPlace_4 rfl (lv_at hl 1 rfl) ?_
  refine lv_iadd hx hb dX2_ringPlace_5 ?_
  refine lv_topi (fun v1 e1 => ?_)
  first | have z1 := zi_add e1 (by omega) | skip
  refine lv_sipush (v := 9088) hx hb dX2_ringPlace_6 (by decide) ?_
  refine lv_topi (fun v2 e2 => ?_)
  have z2 : v2.toInt = 9088 := zi_c e2 (by decide)
  have hh3 : 0 ≤ v1.toInt := (by omega)
  have hh4 : 0 < v2.toInt := (by omega)
  refine call_i (wc := []) (wr := [(aL, .inr (1, [.ref aW, .int fi, .int cn]))]) (run_S (As := [.int v1, .int v2]) (rest := []) ks_RX2_28 ⟨by decide, by decide⟩ ⟨rfl, rfl⟩ ⟨hx, hb, hml, hown, hts⟩ (c_JM_floorMod l D cI cJ cB v1 v2 hh3 hh4 _) ct_blind (ct_pre (wc := []) hK hP hD hS hA hZ hN [] (by decide) rfl rfl) rfl hl.1 rfl (Nat.le_of_ble_eq_true rfl) dX2_ringPlace_9 ⟨Nat.le_of_ble_eq_true rfl, Nat.le_of_ble_eq_true rfl⟩) hP hD hS hA [] [0] rfl rfl (by decide) (by decide) (fun r5 u H locs hw5 hP1 hD1 hS1 => ?_)
  have hw5 : (0 ≤ r5.toInt ∧ r5.toInt < v2.toInt) ∧ r5.toInt = v1.toInt % v2.toInt := hw5
  clear hP hD hS
  have hP : va_P D classes [(aL, .inr (1, [.ref aW, .int fi, .int cn]))] H := hP1
  have hD : va_D A [(aL, .inr (1, [.ref aW, .int fi, .int cn]))] := hD1
  have hS := hS1
  clear hP1 hD1 hS1
  have rg_r5 := zi_rg r5
  have hq6 : (0 ≤ r5.toInt ∧ r5.toInt < 9088) ∧ r5.toInt = (fi.toInt + i.toInt) % 9088 := (by have h9 := hw5.2; have h8 := hw5.1; rw [z2] at h9 h8; clear hw5; omega)
  exact hret r5 () _ _ _ _ dX2_ringPlace_12 hq6 (hP.sub [0] rfl) (hD.sub [0] (by decide) rfl) hS

set_option maxHeartbeats 4000000 in
set_option maxRecDepth 100000 in
theorem c_Ln_at (l : Launch) (D : va_G) (cI cJ cB : ClassId) (aL : Nat) (aW : Nat) (fi : Int32) (cn : Int32) (i : Int32) (fw : Nat → Int64) (h1 : 0 ≤ fi.toInt ∧ fi.toInt < 9088) (h2 : 0 ≤ i.toInt ∧ i.toInt ≤ 9087) :
    cti l yX2_at (wsOf yX2_at cX2_at 3 (some .int)) (rmL 2 43 0 0) D classes (tys3 cI cJ cB) [.ref aL, .int i] [(aL, .inr (1, [.ref aW, .int fi, .int cn])), (aW, .inl (cJ, 142, .inr (.inl fw)))] (fun (r : Int32) (u : Unit) => (0 ≤ r.toInt ∧ r.toInt < 2) ∧ r = bi (lnB fw fi.toInt i.toInt)) (fun u : Unit => ([(aL, .inr (1, [.ref aW, .int fi, .int cn])), (aW, .inl (cJ, 142, .inr (.inl fw)))] : va_W)) := by
  refine cti.of (by first | exact plainFor_of_name (by decide) | decide +kernel) (Nat.le_of_ble_eq_true rfl) (fun p e s m args below meth c A ls Q h hret => ?_)
  obtain ⟨hx, hb, hml, hown, hts, hnm, hP, hK, hD, hA, hS, hZ, hN, hl⟩ := h
  have hown : s.vm.findClass RX2 = some m.cls := hown
  have hl : lv_has ls 3 [(0, .ref aL), (1, .int i)] := hl
  have hP : va_P D classes [(aL, .inr (1, [.ref aW, .int fi, .int cn])), (aW, .inl (cJ, 142, .inr (.inl fw)))] s.heap := hP
  have hD : va_D A [(aL, .inr (1, [.ref aW, .int fi, .int cn])), (aW, .inl (cJ, 142, .inr (.inl fw)))] := hD
  have rg_fi := zi_rg fi
  have rg_cn := zi_rg cn
  have rg_i := zi_rg i
  refine lv_aload_n hx hb dX2_at_0 rfl (lv_at hl 0 rfl) ?_
  refine lv_iload_n hx hb dX2_at_1 rfl (lv_at hl 1 rfl) ?_
  have hh1 : 0 ≤ fi.toInt ∧ fi.toInt < 9088 := (by omega)
  have hh2 : 0 ≤ i.toInt ∧ i.toInt ≤ 9087 := (by omega)
  refine call_i (wc := [(aL, .inr (1, [.ref aW, .int fi, .int cn]))]) (wr := [(aW, .inl (cJ, 142, .inr (.inl fw)))]) (run_V (As := [.int i]) (rest := []) kv_RX2_19 ⟨by decide, by decide⟩ ⟨rfl, rfl⟩ ⟨hx, hb, hml, hown, hts⟩ (c_Ln_ringPlace l D cI cJ cB aL aW fi cn i hh1 hh2 _) ct_blind (ct_pre (wc := [(aL, .inr (1, [.ref aW, .int fi, .int cn]))]) hK hP hD hS hA hZ hN [0] (by decide) rfl rfl) (va_recv hK hP (ci := 1) (q0 := 0) rfl rfl) rfl hl.1 rfl (Nat.le_of_ble_eq_true rfl) dX2_at_2 ⟨Nat.le_of_ble_eq_true rfl, Nat.le_of_ble_eq_true rfl⟩) hP hD hS hA [0] [1] rfl rfl (by decide) (by decide) (fun r3 u H locs hw3 hP1 hD1 hS1 => ?_)
  have hw3 : (0 ≤ r3.toInt ∧ r3.toInt < 9088) ∧ r3.toInt = (fi.toInt + i.toInt) % 9088 := hw3
  clear hP hD hS
  have hP : va_P D classes [(aW, .inl (cJ, 142, .inr (.inl fw))), (aL, .inr (1, [.ref aW, .int fi, .int cn]))] H := hP1
  have hD : va_D A [(aW, .inl (cJ, 142, .inr (.inl fw))), (aL, .inr (1, [.ref aW, .int fi, .int cn]))] := hD1
  have hS := hS1
  clear hP1 hD1 hS1
  have rg_r3 := zi_rg r3
  refine lv_istore_n (lv' := [(2, .int r3), (0, .ref aL), (1, .int i)]) hx hb dX2_at_5 rfl hl (by decide) rfl (fun ls hl => ?_)
  refine lv_aload_n hx hb dX2_at_6 rfl (lv_at hl 1 rfl) ?_
  refine va_get (D := D) (ci := 1) (v := .ref aW) (C := RX2) (T := TX2) (N := 3) hx hb hts in_X2 hown hK hP 1 rfl rfl 0 (by decide) (hts _ wk29) (fun _ h9 => h9) rfl dX2_at_7 ?_
  refine lv_iload_n hx hb dX2_at_10 rfl (lv_at hl 0 rfl) ?_
  refine lv_bipush (v := 64) hx hb dX2_at_11 (by decide) ?_
  refine lv_topi (fun v4 e4 => ?_)
  have z4 : v4.toInt = 64 := zi_c e4 (by decide)
  refine lv_idiv hx hb dX2_at_13 (zi_ne0' (z := 64) (by omega) (by decide)) ?_
  refine lv_topi (fun v5 e5 => ?_)
  first | have z5 := zi_div (k := 64) e5 (by omega) (by omega) | skip
  refine va_lald hx hb hK hP 0 1 rfl rfl (zi_in (by omega)) dX2_at_14 ?_
  refine lv_topl (fun v6 e6 => ?_)
  refine lv_iload_n hx hb dX2_at_15 rfl (lv_at hl 0 rfl) ?_
  refine lv_bipush (v := 64) hx hb dX2_at_16 (by decide) ?_
  refine lv_topi (fun v7 e7 => ?_)
  have z7 : v7.toInt = 64 := zi_c e7 (by decide)
  refine lv_irem hx hb dX2_at_18 (zi_ne0' (z := 64) (by omega) (by decide)) ?_
  refine lv_topi (fun v8 e8 => ?_)
  first | have z8 := zi_rem (k := 64) e8 (by omega) (by omega) | skip
  refine lv_lushr hx hb dX2_at_19 rfl ?_
  refine lv_topl (fun v9 e9 => ?_)
  refine lv_l2i hx hb dX2_at_20 rfl ?_
  refine lv_topi (fun v10 e10 => ?_)
  refine lv_iconst (v := 1) hx hb dX2_at_21 (by decide) ?_
  refine lv_topi (fun v11 e11 => ?_)
  have z11 : v11.toInt = 1 := zi_c e11 (by decide)
  refine lv_iand hx hb dX2_at_22 ?_
  refine lv_topi (fun v12 e12 => ?_)
  have z12 := zi_and e12 e11 1 (z := 2) (by decide) (by decide) (by decide)
  have hq13 : (0 ≤ v12.toInt ∧ v12.toInt < 2) ∧ v12 = bi (lnB fw fi.toInt i.toInt) := (by have x1 : v5.toNatClampNeg = r3.toInt.toNat / 64 := (by show v5.toInt.toNat = _; omega); refine ⟨z12, ?_⟩; rw [rd_bit (k := r3.toInt.toNat % 64) (by omega) (by omega) e9 e10 e11 e12, e6, x1]; unfold lnB; rw [← hw3.2])
  exact hret v12 () _ _ _ _ dX2_at_23 hq13 (hP.sub [1, 0] rfl) (hD.sub [1, 0] (by decide) rfl) hS

set_option maxHeartbeats 4000000 in
set_option maxRecDepth 100000 in
theorem c_Ln_flip (l : Launch) (D : va_G) (cI cJ cB : ClassId) (aL : Nat) (aW : Nat) (fi : Int32) (cn : Int32) (i : Int32) (fw : Nat → Int64) (h1 : 0 ≤ fi.toInt ∧ fi.toInt < 9088) (h2 : 0 ≤ i.toInt ∧ i.toInt ≤ 9087) :
    ctv l yX2_flip (wsOf yX2_flip cX2_flip 3 none) (rmL 2 43 0 0) D classes (tys3 cI cJ cB) [.ref aL, .int i] [(aL, .inr (1, [.ref aW, .int fi, .int cn])), (aW, .inl (cJ, 142, .inr (.inl fw)))] (fun u : (Nat → Int64) => ∀ j : Int, lnB u fi.toInt j = if (fi.toInt + j) % 9088 = (fi.toInt + i.toInt) % 9088 then !lnB fw fi.toInt j else lnB fw fi.toInt j) (fun u : (Nat → Int64) => ([(aL, .inr (1, [.ref aW, .int fi, .int cn])), (aW, .inl (cJ, 142, .inr (.inl u)))] : va_W)) 0 0 := by
  refine ctv.of (by first | exact plainFor_of_name (by decide) | decide +kernel) (Nat.le_of_ble_eq_true rfl) (fun p e s m args below meth c A ls Q h hret => ?_)
  obtain ⟨hx, hb, hml, hown, hts, hnm, hP, hK, hD, hA, hS, hZ, hN, hl⟩ := h
  have hown : s.vm.findClass RX2 = some m.cls := hown
  have hl : lv_has ls 3 [(0, .ref aL), (1, .int i)] := hl
  have hP : va_P D classes [(aL, .inr (1, [.ref aW, .int fi, .int cn])), (aW, .inl (cJ, 142, .inr (.inl fw)))] s.heap := hP
  have hD : va_D A [(aL, .inr (1, [.ref aW, .int fi, .int cn])), (aW, .inl (cJ, 142, .inr (.inl fw)))] := hD
  have rg_fi := zi_rg fi
  have rg_cn := zi_rg cn
  have rg_i := zi_rg i
  refine lv_aload_n hx hb dX2_flip_0 rfl (lv_at hl 0 rfl) ?_
  refine lv_iload_n hx hb dX2_flip_1 rfl (lv_at hl 1 rfl) ?_
  have hh1 : 0 ≤ fi.toInt ∧ fi.toInt < 9088 := (by omega)
  have hh2 : 0 ≤ i.toInt ∧ i.toInt ≤ 9087 := (by omega)
  refine call_i (wc := [(aL, .inr (1, [.ref aW, .int fi, .int cn]))]) (wr := [(aW, .inl (cJ, 142, .inr (.inl fw)))]) (run_V (As := [.int i]) (rest := []) kv_RX2_19 ⟨by decide, by decide⟩ ⟨rfl, rfl⟩ ⟨hx, hb, hml, hown, hts⟩ (c_Ln_ringPlace l D cI cJ cB aL aW fi cn i hh1 hh2 _) ct_blind (ct_pre (wc := [(aL, .inr (1, [.ref aW, .int fi, .int cn]))]) hK hP hD hS hA hZ hN [0] (by decide) rfl rfl) (va_recv hK hP (ci := 1) (q0 := 0) rfl rfl) rfl hl.1 rfl (Nat.le_of_ble_eq_true rfl) dX2_flip_2 ⟨Nat.le_of_ble_eq_true rfl, Nat.le_of_ble_eq_true rfl⟩) hP hD hS hA [0] [1] rfl rfl (by decide) (by decide) (fun r3 u H locs hw3 hP1 hD1 hS1 => ?_)
  have hw3 : (0 ≤ r3.toInt ∧ r3.toInt < 9088) ∧ r3.toInt = (fi.toInt + i.toInt) % 9088 := hw3
  clear hP hD hS
  have hP : va_P D classes [(aW, .inl (cJ, 142, .inr (.inl fw))), (aL, .inr (1, [.ref aW, .int fi, .int cn]))] H := hP1
  have hD : va_D A [(aW, .inl (cJ, 142, .inr (.inl fw))), (aL, .inr (1, [.ref aW, .int fi, .int cn]))] := hD1
  have hS := hS1
  clear hP1 hD1 hS1
  have rg_r3 := zi_rg r3
  refine lv_istore_n (lv' := [(2, .int r3), (0, .ref aL), (1, .int i)]) hx hb dX2_flip_5 rfl hl (by decide) rfl (fun ls hl => ?_)
  refine lv_aload_n hx hb dX2_flip_6 rfl (lv_at hl 1 rfl) ?_
  refine va_get (D := D) (ci := 1) (v := .ref aW) (C := RX2) (T := TX2) (N := 3) hx hb hts in_X2 hown hK hP 1 rfl rfl 0 (by decide) (hts _ wk29) (fun _ h9 => h9) rfl dX2_flip_7 ?_
  refine lv_iload_n hx hb dX2_flip_10 rfl (lv_at hl 0 rfl) ?_
  refine lv_bipush (v := 64) hx hb dX2_flip_11 (by decide) ?_
  refine lv_topi (fun v4 e4 => ?_)
  have z4 : v4.toInt = 64 := zi_c e4 (by decide)
  refine lv_idiv hx hb dX2_flip_13 (zi_ne0' (z := 64) (by omega) (by decide)) ?_
  refine lv_topi (fun v5 e5 => ?_)
  first | have z5 := zi_div (k := 64) e5 (by omega) (by omega) | skip
  refine lv_dup2_11 hx hb dX2_flip_14 rfl rfl ?_
  refine va_lald hx hb hK hP 0 1 rfl rfl (zi_in (by omega)) dX2_flip_15 ?_
  refine lv_topl (fun v6 e6 => ?_)
  refine lv_lconst (v := 1) hx hb dX2_flip_16 (by decide) ?_
  refine lv_topl (fun v7 e7 => ?_)
  refine lv_iload_n hx hb dX2_flip_17 rfl (lv_at hl 0 rfl) ?_
  refine lv_bipush (v := 64) hx hb dX2_flip_18 (by decide) ?_
  refine lv_topi (fun v8 e8 => ?_)
  have z8 : v8.toInt = 64 := zi_c e8 (by decide)
  refine lv_irem hx hb dX2_flip_20 (zi_ne0' (z := 64) (by omega) (by decide)) ?_
  refine lv_topi (fun v9 e9 => ?_)
  first | have z9 := zi_rem (k := 64) e9 (by omega) (by omega) | skip
  refine lv_lshl hx hb dX2_flip_21 rfl ?_
  refine lv_topl (fun v10 e10 => ?_)
  refine lv_lxor hx hb dX2_flip_22 ?_
  refine lv_topl (fun v11 e11 => ?_)
  obtain ⟨f12, ef12⟩ : ∃ z9, z9 = vp_updL fw v5.toNatClampNeg v11 := ⟨_, rfl⟩
  refine va_last hx hb hK hP hD hS 0 1 rfl rfl (zi_in (by omega)) dX2_flip_23 (fun H locs hP1 hD1 hS1 => ?_)
  rw [← ef12] at hP1 hD1
  clear hP hD hS
  have hP : va_P D classes [(aW, .inl (cJ, 142, .inr (.inl f12))), (aL, .inr (1, [.ref aW, .int fi, .int cn]))] H := hP1
  have hD : va_D A [(aW, .inl (cJ, 142, .inr (.inl f12))), (aL, .inr (1, [.ref aW, .int fi, .int cn]))] := hD1
  have hS := hS1
  clear hP1 hD1 hS1
  have hq13 : ∀ j : Int, lnB f12 fi.toInt j = if (fi.toInt + j) % 9088 = (fi.toInt + i.toInt) % 9088 then !lnB fw fi.toInt j else lnB fw fi.toInt j := (by have x1 : v5.toNatClampNeg = r3.toInt.toNat / 64 := (by show v5.toInt.toNat = _; omega); intro j; rw [lnB_up (fw := fw) (gw := f12) (f := fi.toInt) (p := r3.toInt) (c := !bl (fw (r3.toInt.toNat / 64)) (r3.toInt.toNat % 64)) hw3.1 (fun q hq => by rw [ef12, x1]; exact pk_uLn hq) (fun q hq => by rw [ef12, x1, pk_uLs, fl_bit (s := v9) (k := r3.toInt.toNat % 64) (by omega) (by omega) (by rw [e10, e7]) e11 hq, e6, x1]; by_cases g : q = r3.toInt.toNat % 64; (· rw [if_pos g, if_pos g, g]); (· rw [if_neg g, if_neg g])) j, hw3.2]; by_cases g : (fi.toInt + j) % 9088 = (fi.toInt + i.toInt) % 9088; (· rw [if_pos g, if_pos g]; unfold lnB; rw [g]); (· rw [if_neg g, if_neg g]))
  exact hret f12 _ _ _ _ dX2_flip_24 hq13 (hP.sub [1, 0] rfl) (hD.sub [1, 0] (by decide) rfl) hS

set_option maxHeartbeats 4000000 in
set_option maxRecDepth 100000 in
theorem c_Ln_append (l : Launch) (D : va_G) (cI cJ cB : ClassId) (aL : Nat) (aW : Nat) (fi : Int32) (cn : Int32) (b : Int32) (fw : Nat → Int64) (h1 : 0 ≤ fi.toInt ∧ fi.toInt < 9088) (h2 : 0 ≤ cn.toInt ∧ cn.toInt ≤ 9087) (h3 : 0 ≤ b.toInt ∧ b.toInt ≤ 1) :
    ctv l yX2_append (wsOf yX2_append cX2_append 3 none) (rmL 2 43 0 0) D classes (tys3 cI cJ cB) [.ref aL, .int b] [(aL, .inr (1, [.ref aW, .int fi, .int cn])), (aW, .inl (cJ, 142, .inr (.inl fw)))] (fun u : Int32 × (Nat → Int64) => u.1.toInt = cn.toInt + 1 ∧ ∀ j : Int, lnB u.2 fi.toInt j = if (fi.toInt + j) % 9088 = (fi.toInt + cn.toInt) % 9088 then bt b 0 else lnB fw fi.toInt j) (fun u : Int32 × (Nat → Int64) => ([(aL, .inr (1, [.ref aW, .int fi, .int u.1])), (aW, .inl (cJ, 142, .inr (.inl u.2)))] : va_W)) 0 0 := by
  refine ctv.of (by first | exact plainFor_of_name (by decide) | decide +kernel) (Nat.le_of_ble_eq_true rfl) (fun p e s m args below meth c A ls Q h hret => ?_)
  obtain ⟨hx, hb, hml, hown, hts, hnm, hP, hK, hD, hA, hS, hZ, hN, hl⟩ := h
  have hown : s.vm.findClass RX2 = some m.cls := hown
  have hl : lv_has ls 3 [(0, .ref aL), (1, .int b)] := hl
  have hP : va_P D classes [(aL, .inr (1, [.ref aW, .int fi, .int cn])), (aW, .inl (cJ, 142, .inr (.inl fw)))] s.heap := hP
  have hD : va_D A [(aL, .inr (1, [.ref aW, .int fi, .int cn])), (aW, .inl (cJ, 142, .inr (.inl fw)))] := hD
  have rg_fi := zi_rg fi
  have rg_cn := zi_rg cn
  have rg_b := zi_rg b
  refine lv_aload_n hx hb dX2_append_0 rfl (lv_at hl 0 rfl) ?_
  refine lv_aload_n hx hb dX2_append_1 rfl (lv_at hl 0 rfl) ?_
  refine va_get (D := D) (ci := 1) (v := .int cn) (C := RX2) (T := TX2) (N := 3) hx hb hts in_X2 hown hK hP 0 rfl rfl 2 (by decide) (hts _ wk81) (fun _ h9 => h9) rfl dX2_append_2 ?_
  have hh1 : 0 ≤ fi.toInt ∧ fi.toInt < 9088 := (by omega)
  have hh2 : 0 ≤ cn.toInt ∧ cn.toInt ≤ 9087 := (by omega)
  refine call_i (wc := [(aL, .inr (1, [.ref aW, .int fi, .int cn]))]) (wr := [(aW, .inl (cJ, 142, .inr (.inl fw)))]) (run_V (As := [.int cn]) (rest := []) kv_RX2_19 ⟨by decide, by decide⟩ ⟨rfl, rfl⟩ ⟨hx, hb, hml, hown, hts⟩ (c_Ln_ringPlace l D cI cJ cB aL aW fi cn cn hh1 hh2 _) ct_blind (ct_pre (wc := [(aL, .inr (1, [.ref aW, .int fi, .int cn]))]) hK hP hD hS hA hZ hN [0] (by decide) rfl rfl) (va_recv hK hP (ci := 1) (q0 := 0) rfl rfl) rfl hl.1 rfl (Nat.le_of_ble_eq_true rfl) dX2_append_5 ⟨Nat.le_of_ble_eq_true rfl, Nat.le_of_ble_eq_true rfl⟩) hP hD hS hA [0] [1] rfl rfl (by decide) (by decide) (fun r3 u H locs hw3 hP1 hD1 hS1 => ?_)
  have hw3 : (0 ≤ r3.toInt ∧ r3.toInt < 9088) ∧ r3.toInt = (fi.toInt + cn.toInt) % 9088 := hw3
  clear hP hD hS
  have hP : va_P D classes [(aW, .inl (cJ, 142, .inr (.inl fw))), (aL, .inr (1, [.ref aW, .int fi, .int cn]))] H := hP1
  have hD : va_D A [(aW, .inl (cJ, 142, .inr (.inl fw))), (aL, .inr (1, [.ref aW, .int fi, .int cn]))] := hD1
  have hS := hS1
  clear hP1 hD1 hS1
  have rg_r3 := zi_rg r3
  refine lv_istore_n (lv' := [(2, .int r3), (0, .ref aL), (1, .int b)]) hx hb dX2_append_8 rfl hl (by decide) rfl (fun ls hl => ?_)
  refine lv_aload_n hx hb dX2_append_9 rfl (lv_at hl 1 rfl) ?_
  refine va_get (D := D) (ci := 1) (v := .ref aW) (C := RX2) (T := TX2) (N := 3) hx hb hts in_X2 hown hK hP 1 rfl rfl 0 (by decide) (hts _ wk29) (fun _ h9 => h9) rfl dX2_append_10 ?_
  refine lv_iload_n hx hb dX2_append_13 rfl (lv_at hl 0 rfl) ?_
  refine lv_bipush (v := 64) hx hb dX2_append_14 (by decide) ?_
  refine lv_topi (fun v4 e4 => ?_)
  have z4 : v4.toInt = 64 := zi_c e4 (by decide)
  refine lv_idiv hx hb dX2_append_16 (zi_ne0' (z := 64) (by omega) (by decide)) ?_
  refine lv_topi (fun v5 e5 => ?_)
  first | have z5 := zi_div (k := 64) e5 (by omega) (by omega) | skip
  refine lv_dup2_11 hx hb dX2_append_17 rfl rfl ?_
  refine va_lald hx hb hK hP 0 1 rfl rfl (zi_in (by omega)) dX2_append_18 ?_
  refine lv_topl (fun v6 e6 => ?_)
  refine lv_lconst (v := 1) hx hb dX2_append_19 (by decide) ?_
  refine lv_topl (fun v7 e7 => ?_)
  refine lv_iload_n hx hb dX2_append_20 rfl (lv_at hl 0 rfl) ?_
  refine lv_bipush (v := 64) hx hb dX2_append_21 (by decide) ?_
  refine lv_topi (fun v8 e8 => ?_)
  have z8 : v8.toInt = 64 := zi_c e8 (by decide)
  refine lv_irem hx hb dX2_append_23 (zi_ne0' (z := 64) (by omega) (by decide)) ?_
  refine lv_topi (fun v9 e9 => ?_)
  first | have z9 := zi_rem (k := 64) e9 (by omega) (by omega) | skip
  refine lv_lshl hx hb dX2_append_24 rfl ?_
  refine lv_topl (fun v10 e10 => ?_)
  refine lv_ldc2 (v := (-1)) hx hb hown (hts _ wk135) dX2_append_25 ?_
  refine lv_topl (fun v11 e11 => ?_)
  refine lv_lxor hx hb dX2_append_28 ?_
  refine lv_topl (fun v12 e12 => ?_)
  refine lv_land hx hb dX2_append_29 ?_
  refine lv_topl (fun v13 e13 => ?_)
  obtain ⟨f14, ef14⟩ : ∃ z9, z9 = vp_updL fw v5.toNatClampNeg v13 := ⟨_, rfl⟩
  refine va_last hx hb hK hP hD hS 0 1 rfl rfl (zi_in (by omega)) dX2_append_30 (fun H locs hP1 hD1 hS1 => ?_)
  rw [← ef14] at hP1 hD1
  clear hP hD hS
  have hP : va_P D classes [(aW, .inl (cJ, 142, .inr (.inl f14))), (aL, .inr (1, [.ref aW, .int fi, .int cn]))] H := hP1
  have hD : va_D A [(aW, .inl (cJ, 142, .inr (.inl f14))), (aL, .inr (1, [.ref aW, .int fi, .int cn]))] := hD1
  have hS := hS1
  clear hP1 hD1 hS1
  refine lv_aload_n hx hb dX2_append_31 rfl (lv_at hl 1 rfl) ?_
  refine va_get (D := D) (ci := 1) (v := .ref aW) (C := RX2) (T := TX2) (N := 3) hx hb hts in_X2 hown hK hP 1 rfl rfl 0 (by decide) (hts _ wk29) (fun _ h9 => h9) rfl dX2_append_32 ?_
  refine lv_iload_n hx hb dX2_append_35 rfl (lv_at hl 0 rfl) ?_
  refine lv_bipush (v := 64) hx hb dX2_append_36 (by decide) ?_
  refine lv_topi (fun v15 e15 => ?_)
  have z15 : v15.toInt = 64 := zi_c e15 (by decide)
  refine lv_idiv hx hb dX2_append_38 (zi_ne0' (z := 64) (by omega) (by decide)) ?_
  refine lv_topi (fun v16 e16 => ?_)
  first | have z16 := zi_div (k := 64) e16 (by omega) (by omega) | skip
  refine lv_dup2_11 hx hb dX2_append_39 rfl rfl ?_
  refine va_lald hx hb hK hP 0 1 rfl rfl (zi_in (by omega)) dX2_append_40 ?_
  refine lv_topl (fun v17 e17 => ?_)
  refine lv_iload_n hx hb dX2_append_41 rfl (lv_at hl 2 rfl) ?_
  refine lv_i2l hx hb dX2_append_42 rfl ?_
  refine lv_topl (fun v18 e18 => ?_)
  refine lv_iload_n hx hb dX2_append_43 rfl (lv_at hl 0 rfl) ?_
  refine lv_bipush (v := 64) hx hb dX2_append_44 (by decide) ?_
  refine lv_topi (fun v19 e19 => ?_)
  have z19 : v19.toInt = 64 := zi_c e19 (by decide)
  refine lv_irem hx hb dX2_append_46 (zi_ne0' (z := 64) (by omega) (by decide)) ?_
  refine lv_topi (fun v20 e20 => ?_)
  first | have z20 := zi_rem (k := 64) e20 (by omega) (by omega) | skip
  refine lv_lshl hx hb dX2_append_47 rfl ?_
  refine lv_topl (fun v21 e21 => ?_)
  refine lv_lor hx hb dX2_append_48 ?_
  refine lv_topl (fun v22 e22 => ?_)
  obtain ⟨f23, ef23⟩ : ∃ z9, z9 = vp_updL f14 v16.toNatClampNeg v22 := ⟨_, rfl⟩
  refine va_last hx hb hK hP hD hS 0 1 rfl rfl (zi_in (by omega)) dX2_append_49 (fun H locs hP1 hD1 hS1 => ?_)
  rw [← ef23] at hP1 hD1
  clear hP hD hS
  have hP : va_P D classes [(aW, .inl (cJ, 142, .inr (.inl f23))), (aL, .inr (1, [.ref aW, .int fi, .int cn]))] H := hP1
  have hD : va_D A [(aW, .inl (cJ, 142, .inr (.inl f23))), (aL, .inr (1, [.ref aW, .int fi, .int cn]))] := hD1
  have hS := hS1
  clear hP1 hD1 hS1
  refine lv_aload_n hx hb dX2_append_50 rfl (lv_at hl 1 rfl) ?_
  refine lv_dup hx hb dX2_append_51 rfl ?_
  refine va_get (D := D) (ci := 1) (v := .int cn) (C := RX2) (T := TX2) (N := 3) hx hb hts in_X2 hown hK hP 1 rfl rfl 2 (by decide) (hts _ wk81) (fun _ h9 => h9) rfl dX2_append_52 ?_
  refine lv_iconst (v := 1) hx hb dX2_append_55 (by decide) ?_
  refine lv_topi (fun v24 e24 => ?_)
  have z24 : v24.toInt = 1 := zi_c e24 (by decide)
  refine lv_iadd hx hb dX2_append_56 ?_
  refine lv_topi (fun v25 e25 => ?_)
  first | have z25 := zi_add e25 (by omega) | skip
  refine va_put (D := D) (ci := 1) (v := .int v25) (ty := .int) (C := RX2) (T := TX2) (N := 3) hx hb hts in_X2 tyX2 tyX2_ok nmX2 hown hK hP hD hS 1 rfl rfl 2 (by decide) (hts _ wk81) (fun _ h9 => h9) rfl (by decide +kernel) rfl rfl (Nat.le_of_ble_eq_true rfl) dX2_append_57 (fun H locs hP1 hD1 hS1 => ?_)
  clear hP hD hS
  have hP : va_P D classes [(aW, .inl (cJ, 142, .inr (.inl f23))), (aL, .inr (1, [.ref aW, .int fi, .int v25]))] H := hP1
  have hD : va_D A [(aW, .inl (cJ, 142, .inr (.inl f23))), (aL, .inr (1, [.ref aW, .int fi, .int v25]))] := hD1
  have hS := hS1
  clear hP1 hD1 hS1
  have hq26 : v25.toInt = cn.toInt + 1 ∧ ∀ j : Int, lnB f23 fi.toInt j = if (fi.toInt + j) % 9088 = (fi.toInt + cn.toInt) % 9088 then bt b 0 else lnB fw fi.toInt j := (by have x1 : v5.toNatClampNeg = r3.toInt.toNat / 64 := (by show v5.toInt.toNat = _; omega); have x2 : v16.toNatClampNeg = r3.toInt.toNat / 64 := (by show v16.toInt.toNat = _; omega); refine ⟨by omega, fun j => ?_⟩; rw [lnB_up (fw := fw) (gw := f23) (f := fi.toInt) (p := r3.toInt) (c := bt b 0) hw3.1 (fun q hq => by rw [ef23, x2, pk_uLn hq, ef14, x1, pk_uLn hq]) (fun q hq => by rw [ef23, x2, pk_uLs, up_bit (k := r3.toInt.toNat % 64) (w := fw (r3.toInt.toNat / 64)) (s := v20) (by omega) (by omega) (m := v10) (n := v12) (a := v13) (z := v21) (b := b) (by rw [e10, e7, show v9 = v20 from Int32.toInt_inj.mp (by omega)]) (by rw [e12, e11]) (by rw [e13, e6, x1]) (by rw [e21, e18]) (by rw [e22, e17, x2, ef14, x1, pk_uLs]) (by omega) hq]) j, hw3.2])
  exact hret (v25, f23) _ _ _ _ dX2_append_60 hq26 (hP.sub [1, 0] rfl) (hD.sub [1, 0] (by decide) rfl) hS

set_option maxHeartbeats 4000000 in
set_option maxRecDepth 100000 in
theorem c_Ln_dropFirst (l : Launch) (D : va_G) (cI cJ cB : ClassId) (aL : Nat) (aW : Nat) (fi : Int32) (cn : Int32) (i : Int32) (h1 : 0 ≤ fi.toInt ∧ fi.toInt < 9088) (h2 : 0 ≤ cn.toInt ∧ cn.toInt ≤ 9066) (h3 : 0 ≤ i.toInt ∧ i.toInt ≤ cn.toInt) :
    ctv l yX2_dropFirst (wsOf yX2_dropFirst cX2_dropFirst 2 none) (rmL 2 43 0 0) D classes (tys3 cI cJ cB) [.ref aL, .int i] [(aL, .inr (1, [.ref aW, .int fi, .int cn]))] (fun u : Int32 × Int32 => (0 ≤ u.1.toInt ∧ u.1.toInt < 9088) ∧ u.2.toInt = cn.toInt - i.toInt ∧ u.1.toInt = (fi.toInt + i.toInt) % 9088) (fun u : Int32 × Int32 => ([(aL, .inr (1, [.ref aW, .int u.1, .int u.2]))] : va_W)) 0 0 := by
  refine ctv.of (by first | exact plainFor_of_name (by decide) | decide +kernel) (Nat.le_of_ble_eq_true rfl) (fun p e s m args below meth c A ls Q h hret => ?_)
  obtain ⟨hx, hb, hml, hown, hts, hnm, hP, hK, hD, hA, hS, hZ, hN, hl⟩ := h
  have hown : s.vm.findClass RX2 = some m.cls := hown
  have hl : lv_has ls 2 [(0, .ref aL), (1, .int i)] := hl
  have hP : va_P D classes [(aL, .inr (1, [.ref aW, .int fi, .int cn]))] s.heap := hP
  have hD : va_D A [(aL, .inr (1, [.ref aW, .int fi, .int cn]))] := hD
  have rg_fi := zi_rg fi
  have rg_cn := zi_rg cn
  have rg_i := zi_rg i
  refine lv_aload_n hx hb dX2_dropFirst_0 rfl (lv_at hl 0 rfl) ?_
  refine lv_aload_n hx hb dX2_dropFirst_1 rfl (lv_at hl 0 rfl) ?_
  refine lv_iload_n hx hb dX2_dropFirst_2 rfl (lv_at hl 1 rfl) ?_
  have hh1 : 0 ≤ fi.toInt ∧ fi.toInt < 9088 := (by omega)
  have hh2 : 0 ≤ i.toInt ∧ i.toInt ≤ 9087 := (by omega)
  refine call_i (wc := [(aL, .inr (1, [.ref aW, .int fi, .int cn]))]) (wr := []) (run_V (As := [.int i]) (rest := [.ref aL]) kv_RX2_19 ⟨by decide, by decide⟩ ⟨rfl, rfl⟩ ⟨hx, hb, hml, hown, hts⟩ (c_Ln_ringPlace l D cI cJ cB aL aW fi cn i hh1 hh2 _) ct_blind (ct_pre (wc := [(aL, .inr (1, [.ref aW, .int fi, .int cn]))]) hK hP hD hS hA hZ hN [0] (by decide) rfl rfl) (va_recv hK hP (ci := 1) (q0 := 0) rfl rfl) rfl hl.1 rfl (Nat.le_of_ble_eq_true rfl) dX2_dropFirst_3 ⟨Nat.le_of_ble_eq_true rfl, Nat.le_of_ble_eq_true rfl⟩) hP hD hS hA [0] [] rfl rfl (by decide) (by decide) (fun r3 u H locs hw3 hP1 hD1 hS1 => ?_)
  have hw3 : (0 ≤ r3.toInt ∧ r3.toInt < 9088) ∧ r3.toInt = (fi.toInt + i.toInt) % 9088 := hw3
  clear hP hD hS
  have hP : va_P D classes [(aL, .inr (1, [.ref aW, .int fi, .int cn]))] H := hP1
  have hD : va_D A [(aL, .inr (1, [.ref aW, .int fi, .int cn]))] := hD1
  have hS := hS1
  clear hP1 hD1 hS1
  have rg_r3 := zi_rg r3
  refine va_put (D := D) (ci := 1) (v := .int r3) (ty := .int) (C := RX2) (T := TX2) (N := 3) hx hb hts in_X2 tyX2 tyX2_ok nmX2 hown hK hP hD hS 0 rfl rfl 1 (by decide) (hts _ wk140) (fun _ h9 => h9) rfl (by decide +kernel) rfl rfl (Nat.le_of_ble_eq_true rfl) dX2_dropFirst_6 (fun H locs hP1 hD1 hS1 => ?_)
  clear hP hD hS
  have hP : va_P D classes [(aL, .inr (1, [.ref aW, .int r3, .int cn]))] H := hP1
  have hD : va_D A [(aL, .inr (1, [.ref aW, .int r3, .int cn]))] := hD1
  have hS := hS1
  clear hP1 hD1 hS1
  refine lv_aload_n hx hb dX2_dropFirst_9 rfl (lv_at hl 0 rfl) ?_
  refine lv_dup hx hb dX2_dropFirst_10 rfl ?_
  refine va_get (D := D) (ci := 1) (v := .int cn) (C := RX2) (T := TX2) (N := 3) hx hb hts in_X2 hown hK hP 0 rfl rfl 2 (by decide) (hts _ wk81) (fun _ h9 => h9) rfl dX2_dropFirst_11 ?_
  refine lv_iload_n hx hb dX2_dropFirst_14 rfl (lv_at hl 1 rfl) ?_
  refine lv_isub hx hb dX2_dropFirst_15 ?_
  refine lv_topi (fun v4 e4 => ?_)
  first | have z4 := zi_sub e4 (by omega) | skip
  refine va_put (D := D) (ci := 1) (v := .int v4) (ty := .int) (C := RX2) (T := TX2) (N := 3) hx hb hts in_X2 tyX2 tyX2_ok nmX2 hown hK hP hD hS 0 rfl rfl 2 (by decide) (hts _ wk81) (fun _ h9 => h9) rfl (by decide +kernel) rfl rfl (Nat.le_of_ble_eq_true rfl) dX2_dropFirst_16 (fun H locs hP1 hD1 hS1 => ?_)
  clear hP hD hS
  have hP : va_P D classes [(aL, .inr (1, [.ref aW, .int r3, .int v4]))] H := hP1
  have hD : va_D A [(aL, .inr (1, [.ref aW, .int r3, .int v4]))] := hD1
  have hS := hS1
  clear hP1 hD1 hS1
  have hq5 : (0 ≤ r3.toInt ∧ r3.toInt < 9088) ∧ v4.toInt = cn.toInt - i.toInt ∧ r3.toInt = (fi.toInt + i.toInt) % 9088 := (by omega)
  exact hret (r3, v4) _ _ _ _ dX2_dropFirst_19 hq5 (hP.sub [0] rfl) (hD.sub [0] (by decide) rfl) hS

set_option maxHeartbeats 4000000 in
set_option maxRecDepth 100000 in
theorem c_Sc_exchange (l : Launch) (D : va_G) (cI cJ cB : ClassId) (aC : Nat) (la : Int64) (x : Int64)  :
    ctl l yX4_exchange (wsOf yX4_exchange cX4_exchange 5 (some .long)) (rmL 0 0 0 0) D classes (tys3 cI cJ cB) [.ref aC, .long x] [(aC, .inr (3, [.long la]))] (fun (r : Int64) (u : Int64) => r = la ∧ ∀ j, j < 58 → bl u j = bl x j) (fun u : Int64 => ([(aC, .inr (3, [.long u]))] : va_W)) := by
  refine ctl.of (by first | exact plainFor_of_name (by decide) | decide +kernel) (Nat.le_of_ble_eq_true rfl) (fun p e s m args below meth c A ls Q h hret => ?_)
  obtain ⟨hx, hb, hml, hown, hts, hnm, hP, hK, hD, hA, hS, hZ, hN, hl⟩ := h
  have hown : s.vm.findClass RX4 = some m.cls := hown
  have hl : lv_has ls 5 [(0, .ref aC), (1, .long x)] := hl
  have hP : va_P D classes [(aC, .inr (3, [.long la]))] s.heap := hP
  have hD : va_D A [(aC, .inr (3, [.long la]))] := hD
  refine lv_aload_n hx hb dX4_exchange_0 rfl (lv_at hl 0 rfl) ?_
  refine va_get (D := D) (ci := 3) (v := .long la) (C := RX4) (T := TX4) (N := 1) hx hb hts in_X4 hown hK hP 0 rfl rfl 0 (by decide) (hts _ wk153) (fun _ h9 => h9) rfl dX4_exchange_1 ?_
  refine lv_lstore_n (lv' := [(3, .long la), (0, .ref aC), (1, .long x)]) hx hb dX4_exchange_4 rfl hl (by decide) rfl (fun ls hl => ?_)
  refine lv_aload_n hx hb dX4_exchange_5 rfl (lv_at hl 1 rfl) ?_
  refine lv_lload_n hx hb dX4_exchange_6 rfl (lv_at hl 2 rfl) ?_
  refine lv_ldc2 (v := 288230376151711743) hx hb hown (hts _ wk158) dX4_exchange_7 ?_
  refine lv_topl (fun v1 e1 => ?_)
  refine lv_land hx hb dX4_exchange_10 ?_
  refine lv_topl (fun v2 e2 => ?_)
  refine va_put (D := D) (ci := 3) (v := .long v2) (ty := .long) (C := RX4) (T := TX4) (N := 1) hx hb hts in_X4 tyX4 tyX4_ok nmX4 hown hK hP hD hS 0 rfl rfl 0 (by decide) (hts _ wk153) (fun _ h9 => h9) rfl (by decide +kernel) rfl rfl (Nat.le_of_ble_eq_true rfl) dX4_exchange_11 (fun H locs hP1 hD1 hS1 => ?_)
  clear hP hD hS
  have hP : va_P D classes [(aC, .inr (3, [.long v2]))] H := hP1
  have hD : va_D A [(aC, .inr (3, [.long v2]))] := hD1
  have hS := hS1
  clear hP1 hD1 hS1
  refine lv_lload_n hx hb dX4_exchange_14 rfl (lv_at hl 0 rfl) ?_
  have hq3 : la = la ∧ ∀ j, j < 58 → bl v2 j = bl x j := ⟨rfl, fun j hj => by rw [e2, bl_and, e1, bl_mask j (by omega)]; simp [hj]⟩
  exact hret la v2 _ _ _ _ dX4_exchange_15 hq3 (hP.sub [0] rfl) (hD.sub [0] (by decide) rfl) hS

set_option maxHeartbeats 4000000 in
set_option maxRecDepth 100000 in
theorem c_Sc_mixed (l : Launch) (D : va_G) (cI cJ cB : ClassId) (aC : Nat) (la : Int64) (b : Int32) (h1 : 0 ≤ b.toInt ∧ b.toInt ≤ 1) :
    cti l yX4_mixed (wsOf yX4_mixed cX4_mixed 4 (some .int)) (rmL 0 0 0 0) D classes (tys3 cI cJ cB) [.ref aC, .int b] [(aC, .inr (3, [.long la]))] (fun (r : Int32) (u : Unit) => (0 ≤ r.toInt ∧ r.toInt ≤ 1) ∧ r = bi (scO (bl la) (bt b 0))) (fun u : Unit => ([(aC, .inr (3, [.long la]))] : va_W)) := by
  refine cti.of (by first | exact plainFor_of_name (by decide) | decide +kernel) (Nat.le_of_ble_eq_true rfl) (fun p e s m args below meth c A ls Q h hret => ?_)
  obtain ⟨hx, hb, hml, hown, hts, hnm, hP, hK, hD, hA, hS, hZ, hN, hl⟩ := h
  have hown : s.vm.findClass RX4 = some m.cls := hown
  have hl : lv_has ls 4 [(0, .ref aC), (1, .int b)] := hl
  have hP : va_P D classes [(aC, .inr (3, [.long la]))] s.heap := hP
  have hD : va_D A [(aC, .inr (3, [.long la]))] := hD
  have rg_b := zi_rg b
  refine lv_aload_n hx hb dX4_mixed_0 rfl (lv_at hl 0 rfl) ?_
  refine va_get (D := D) (ci := 3) (v := .long la) (C := RX4) (T := TX4) (N := 1) hx hb hts in_X4 hown hK hP 0 rfl rfl 0 (by decide) (hts _ wk153) (fun _ h9 => h9) rfl dX4_mixed_1 ?_
  refine lv_bipush (v := 38) hx hb dX4_mixed_4 (by decide) ?_
  refine lv_topi (fun v1 e1 => ?_)
  have z1 : v1.toInt = 38 := zi_c e1 (by decide)
  refine lv_lushr hx hb dX4_mixed_6 rfl ?_
  refine lv_topl (fun v2 e2 => ?_)
  refine lv_l2i hx hb dX4_mixed_7 rfl ?_
  refine lv_topi (fun v3 e3 => ?_)
  refine lv_iconst (v := 1) hx hb dX4_mixed_8 (by decide) ?_
  refine lv_topi (fun v4 e4 => ?_)
  have z4 : v4.toInt = 1 := zi_c e4 (by decide)
  refine lv_iand hx hb dX4_mixed_9 ?_
  refine lv_topi (fun v5 e5 => ?_)
  have z5 := zi_and e5 e4 1 (z := 2) (by decide) (by decide) (by decide)
  refine lv_istore_n (lv' := [(2, .int v5), (0, .ref aC), (1, .int b)]) hx hb dX4_mixed_10 rfl hl (by decide) rfl (fun ls hl => ?_)
  refine lv_aload_n hx hb dX4_mixed_11 rfl (lv_at hl 1 rfl) ?_
  refine va_get (D := D) (ci := 3) (v := .long la) (C := RX4) (T := TX4) (N := 1) hx hb hts in_X4 hown hK hP 0 rfl rfl 0 (by decide) (hts _ wk153) (fun _ h9 => h9) rfl dX4_mixed_12 ?_
  refine lv_bipush (v := 57) hx hb dX4_mixed_15 (by decide) ?_
  refine lv_topi (fun v6 e6 => ?_)
  have z6 : v6.toInt = 57 := zi_c e6 (by decide)
  refine lv_lushr hx hb dX4_mixed_17 rfl ?_
  refine lv_topl (fun v7 e7 => ?_)
  refine lv_l2i hx hb dX4_mixed_18 rfl ?_
  refine lv_topi (fun v8 e8 => ?_)
  refine lv_iconst (v := 1) hx hb dX4_mixed_19 (by decide) ?_
  refine lv_topi (fun v9 e9 => ?_)
  have z9 : v9.toInt = 1 := zi_c e9 (by decide)
  refine lv_iand hx hb dX4_mixed_20 ?_
  refine lv_topi (fun v10 e10 => ?_)
  have z10 := zi_and e10 e9 1 (z := 2) (by decide) (by decide) (by decide)
  refine lv_istore_n (lv' := [(3, .int v10), (2, .int v5), (0, .ref aC), (1, .int b)]) hx hb dX4_mixed_21 rfl hl (by decide) rfl (fun ls hl => ?_)
  refine lv_iload_n hx hb dX4_mixed_22 rfl (lv_at hl 3 rfl) ?_
  refine lv_iload_n hx hb dX4_mixed_23 rfl (lv_at hl 1 rfl) ?_
  refine lv_ixor hx hb dX4_mixed_24 ?_
  refine lv_topi (fun v11 e11 => ?_)
  refine lv_iload_n hx hb dX4_mixed_25 rfl (lv_at hl 0 rfl) ?_
  refine lv_ixor hx hb dX4_mixed_26 ?_
  refine lv_topi (fun v12 e12 => ?_)
  have hq13 : (0 ≤ v12.toInt ∧ v12.toInt ≤ 1) ∧ v12 = bi (scO (bl la) (bt b 0)) := (by have q : v12 = bi (scO (bl la) (bt b 0)) := (by rw [e12, e11, mx_bit (o := b) z1 z6 e2 e3 e5 e4 e7 e8 e10 e9 (by omega)]); rw [q]; exact ⟨bi_01 _, rfl⟩)
  exact hret v12 () _ _ _ _ dX4_mixed_27 hq13 (hP.sub [0] rfl) (hD.sub [0] (by decide) rfl) hS

set_option maxHeartbeats 4000000 in
set_option maxRecDepth 100000 in
theorem c_Sc_keep (l : Launch) (D : va_G) (cI cJ cB : ClassId) (aC : Nat) (la : Int64) (b : Int32) (h1 : 0 ≤ b.toInt ∧ b.toInt ≤ 1) :
    ctv l yX4_keep (wsOf yX4_keep cX4_keep 2 none) (rmL 0 0 0 0) D classes (tys3 cI cJ cB) [.ref aC, .int b] [(aC, .inr (3, [.long la]))] (fun u : Int64 => ∀ j, j < 58 → bl u j = scN (bl la) (bt b 0) j) (fun u : Int64 => ([(aC, .inr (3, [.long u]))] : va_W)) 0 0 := by
  refine ctv.of (by first | exact plainFor_of_name (by decide) | decide +kernel) (Nat.le_of_ble_eq_true rfl) (fun p e s m args below meth c A ls Q h hret => ?_)
  obtain ⟨hx, hb, hml, hown, hts, hnm, hP, hK, hD, hA, hS, hZ, hN, hl⟩ := h
  have hown : s.vm.findClass RX4 = some m.cls := hown
  have hl : lv_has ls 2 [(0, .ref aC), (1, .int b)] := hl
  have hP : va_P D classes [(aC, .inr (3, [.long la]))] s.heap := hP
  have hD : va_D A [(aC, .inr (3, [.long la]))] := hD
  have rg_b := zi_rg b
  refine lv_aload_n hx hb dX4_keep_0 rfl (lv_at hl 0 rfl) ?_
  refine lv_aload_n hx hb dX4_keep_1 rfl (lv_at hl 0 rfl) ?_
  refine va_get (D := D) (ci := 3) (v := .long la) (C := RX4) (T := TX4) (N := 1) hx hb hts in_X4 hown hK hP 0 rfl rfl 0 (by decide) (hts _ wk153) (fun _ h9 => h9) rfl dX4_keep_2 ?_
  refine lv_iconst (v := 1) hx hb dX4_keep_5 (by decide) ?_
  refine lv_topi (fun v1 e1 => ?_)
  have z1 : v1.toInt = 1 := zi_c e1 (by decide)
  refine lv_lshl hx hb dX4_keep_6 rfl ?_
  refine lv_topl (fun v2 e2 => ?_)
  refine lv_iload_n hx hb dX4_keep_7 rfl (lv_at hl 1 rfl) ?_
  refine lv_i2l hx hb dX4_keep_8 rfl ?_
  refine lv_topl (fun v3 e3 => ?_)
  refine lv_lor hx hb dX4_keep_9 ?_
  refine lv_topl (fun v4 e4 => ?_)
  refine lv_ldc2 (v := 288230376151711743) hx hb hown (hts _ wk158) dX4_keep_10 ?_
  refine lv_topl (fun v5 e5 => ?_)
  refine lv_land hx hb dX4_keep_13 ?_
  refine lv_topl (fun v6 e6 => ?_)
  refine va_put (D := D) (ci := 3) (v := .long v6) (ty := .long) (C := RX4) (T := TX4) (N := 1) hx hb hts in_X4 tyX4 tyX4_ok nmX4 hown hK hP hD hS 0 rfl rfl 0 (by decide) (hts _ wk153) (fun _ h9 => h9) rfl (by decide +kernel) rfl rfl (Nat.le_of_ble_eq_true rfl) dX4_keep_14 (fun H locs hP1 hD1 hS1 => ?_)
  clear hP hD hS
  have hP : va_P D classes [(aC, .inr (3, [.long v6]))] H := hP1
  have hD : va_D A [(aC, .inr (3, [.long v6]))] := hD1
  have hS := hS1
  clear hP1 hD1 hS1
  have hq7 : ∀ j, j < 58 → bl v6 j = scN (bl la) (bt b 0) j := (fun j hj => kp_bit z1 e2 e3 e4 (by rw [e6, e5]) (by omega) hj)
  exact hret v6 _ _ _ _ dX4_keep_17 hq7 (hP.sub [0] rfl) (hD.sub [0] (by decide) rfl) hS

set_option maxHeartbeats 4000000 in
set_option maxRecDepth 100000 in
theorem c_Sc_scramble (l : Launch) (D : va_G) (cI cJ cB : ClassId) (aC : Nat) (la : Int64) (b : Int32) (h1 : 0 ≤ b.toInt ∧ b.toInt ≤ 1) :
    cti l yX4_scramble (wsOf yX4_scramble cX4_scramble 3 (some .int)) (rmL 1 23 0 0) D classes (tys3 cI cJ cB) [.ref aC, .int b] [(aC, .inr (3, [.long la]))] (fun (r : Int32) (u : Int64) => (0 ≤ r.toInt ∧ r.toInt ≤ 1) ∧ r = bi (scO (bl la) (bt b 0)) ∧ ∀ j, j < 58 → bl u j = scN (bl la) (scO (bl la) (bt b 0)) j) (fun u : Int64 => ([(aC, .inr (3, [.long u]))] : va_W)) := by
  refine cti.of (by first | exact plainFor_of_name (by decide) | decide +kernel) (Nat.le_of_ble_eq_true rfl) (fun p e s m args below meth c A ls Q h hret => ?_)
  obtain ⟨hx, hb, hml, hown, hts, hnm, hP, hK, hD, hA, hS, hZ, hN, hl⟩ := h
  have hown : s.vm.findClass RX4 = some m.cls := hown
  have hl : lv_has ls 3 [(0, .ref aC), (1, .int b)] := hl
  have hP : va_P D classes [(aC, .inr (3, [.long la]))] s.heap := hP
  have hD : va_D A [(aC, .inr (3, [.long la]))] := hD
  have rg_b := zi_rg b
  refine lv_aload_n hx hb dX4_scramble_0 rfl (lv_at hl 0 rfl) ?_
  refine lv_iload_n hx hb dX4_scramble_1 rfl (lv_at hl 1 rfl) ?_
  have hh1 : 0 ≤ b.toInt ∧ b.toInt ≤ 1 := (by omega)
  refine call_i (wc := [(aC, .inr (3, [.long la]))]) (wr := []) (run_V (As := [.int b]) (rest := []) kv_RX4_15 ⟨by decide, by decide⟩ ⟨rfl, rfl⟩ ⟨hx, hb, hml, hown, hts⟩ (c_Sc_mixed l D cI cJ cB aC la b hh1 _) ct_blind (ct_pre (wc := [(aC, .inr (3, [.long la]))]) hK hP hD hS hA hZ hN [0] (by decide) rfl rfl) (va_recv hK hP (ci := 3) (q0 := 0) rfl rfl) rfl hl.1 rfl (Nat.le_of_ble_eq_true rfl) dX4_scramble_2 ⟨Nat.le_of_ble_eq_true rfl, Nat.le_of_ble_eq_true rfl⟩) hP hD hS hA [0] [] rfl rfl (by decide) (by decide) (fun r2 u H locs hw2 hP1 hD1 hS1 => ?_)
  have hw2 : (0 ≤ r2.toInt ∧ r2.toInt ≤ 1) ∧ r2 = bi (scO (bl la) (bt b 0)) := hw2
  clear hP hD hS
  have hP : va_P D classes [(aC, .inr (3, [.long la]))] H := hP1
  have hD : va_D A [(aC, .inr (3, [.long la]))] := hD1
  have hS := hS1
  clear hP1 hD1 hS1
  have rg_r2 := zi_rg r2
  refine lv_istore_n (lv' := [(2, .int r2), (0, .ref aC), (1, .int b)]) hx hb dX4_scramble_5 rfl hl (by decide) rfl (fun ls hl => ?_)
  refine lv_aload_n hx hb dX4_scramble_6 rfl (lv_at hl 1 rfl) ?_
  refine lv_iload_n hx hb dX4_scramble_7 rfl (lv_at hl 0 rfl) ?_
  have hh3 : 0 ≤ r2.toInt ∧ r2.toInt ≤ 1 := (by omega)
  refine call_v (wc := [(aC, .inr (3, [.long la]))]) (wr := []) (run_V (As := [.int r2]) (rest := []) kv_RX4_19 ⟨by decide, by decide⟩ ⟨rfl, rfl⟩ ⟨hx, hb, hml, hown, hts⟩ (c_Sc_keep l D cI cJ cB aC la r2 hh3 _) ct_blind (ct_pre (wc := [(aC, .inr (3, [.long la]))]) hK hP hD hS hA hZ hN [0] (by decide) rfl rfl) (va_recv hK hP (ci := 3) (q0 := 0) rfl rfl) rfl hl.1 rfl (Nat.le_of_ble_eq_true rfl) dX4_scramble_8 ⟨Nat.le_of_ble_eq_true rfl, Nat.le_of_ble_eq_true rfl⟩) hP hD hS hA [0] [] rfl rfl (by decide) (by decide) (fun u H locs hw4 hP1 hD1 hS1 => ?_)
  obtain ⟨la2_4, hu9⟩ : ∃ z, z = u := ⟨_, rfl⟩
  subst hu9
  have hw4 : ∀ j, j < 58 → bl la2_4 j = scN (bl la) (bt r2 0) j := hw4
  clear hP hD hS
  have hP : va_P D classes [(aC, .inr (3, [.long la2_4]))] H := hP1
  have hD : va_D A [(aC, .inr (3, [.long la2_4]))] := hD1
  have hS := hS1
  clear hP1 hD1 hS1
  refine lv_iload_n hx hb dX4_scramble_11 rfl (lv_at hl 0 rfl) ?_
  have hq5 : (0 ≤ r2.toInt ∧ r2.toInt ≤ 1) ∧ r2 = bi (scO (bl la) (bt b 0)) ∧ ∀ j, j < 58 → bl la2_4 j = scN (bl la) (scO (bl la) (bt b 0)) j := ⟨hw2.1, hw2.2, fun j hj => by rw [hw4 j hj, hw2.2, bi_t0]⟩
  exact hret r2 la2_4 _ _ _ _ dX4_scramble_12 hq5 (hP.sub [0] rfl) (hD.sub [0] (by decide) rfl) hS

set_option maxHeartbeats 4000000 in
set_option maxRecDepth 100000 in
theorem c_Sc_unscramble (l : Launch) (D : va_G) (cI cJ cB : ClassId) (aC : Nat) (la : Int64) (b : Int32) (h1 : 0 ≤ b.toInt ∧ b.toInt ≤ 1) :
    cti l yX4_unscramble (wsOf yX4_unscramble cX4_unscramble 3 (some .int)) (rmL 1 23 0 0) D classes (tys3 cI cJ cB) [.ref aC, .int b] [(aC, .inr (3, [.long la]))] (fun (r : Int32) (u : Int64) => True) (fun u : Int64 => ([(aC, .inr (3, [.long u]))] : va_W)) := by
  refine cti.of (by first | exact plainFor_of_name (by decide) | decide +kernel) (Nat.le_of_ble_eq_true rfl) (fun p e s m args below meth c A ls Q h hret => ?_)
  obtain ⟨hx, hb, hml, hown, hts, hnm, hP, hK, hD, hA, hS, hZ, hN, hl⟩ := h
  have hown : s.vm.findClass RX4 = some m.cls := hown
  have hl : lv_has ls 3 [(0, .ref aC), (1, .int b)] := hl
  have hP : va_P D classes [(aC, .inr (3, [.long la]))] s.heap := hP
  have hD : va_D A [(aC, .inr (3, [.long la]))] := hD
  have rg_b := zi_rg b
  refine lv_aload_n hx hb dX4_unscramble_0 rfl (lv_at hl 0 rfl) ?_
  refine lv_iload_n hx hb dX4_unscramble_1 rfl (lv_at hl 1 rfl) ?_
  have hh1 : 0 ≤ b.toInt ∧ b.toInt ≤ 1 := (by omega)
  refine call_i (wc := [(aC, .inr (3, [.long la]))]) (wr := []) (run_V (As := [.int b]) (rest := []) kv_RX4_15 ⟨by decide, by decide⟩ ⟨rfl, rfl⟩ ⟨hx, hb, hml, hown, hts⟩ (c_Sc_mixed l D cI cJ cB aC la b hh1 _) ct_blind (ct_pre (wc := [(aC, .inr (3, [.long la]))]) hK hP hD hS hA hZ hN [0] (by decide) rfl rfl) (va_recv hK hP (ci := 3) (q0 := 0) rfl rfl) rfl hl.1 rfl (Nat.le_of_ble_eq_true rfl) dX4_unscramble_2 ⟨Nat.le_of_ble_eq_true rfl, Nat.le_of_ble_eq_true rfl⟩) hP hD hS hA [0] [] rfl rfl (by decide) (by decide) (fun r2 u H locs hw2 hP1 hD1 hS1 => ?_)
  have hw2 : (0 ≤ r2.toInt ∧ r2.toInt ≤ 1) ∧ r2 = bi (scO (bl la) (bt b 0)) := hw2
  clear hP hD hS
  have hP : va_P D classes [(aC, .inr (3, [.long la]))] H := hP1
  have hD : va_D A [(aC, .inr (3, [.long la]))] := hD1
  have hS := hS1
  clear hP1 hD1 hS1
  have rg_r2 := zi_rg r2
  refine lv_istore_n (lv' := [(2, .int r2), (0, .ref aC), (1, .int b)]) hx hb dX4_unscramble_5 rfl hl (by decide) rfl (fun ls hl => ?_)
  refine lv_aload_n hx hb dX4_unscramble_6 rfl (lv_at hl 1 rfl) ?_
  refine lv_iload_n hx hb dX4_unscramble_7 rfl (lv_at hl 2 rfl) ?_
  have hh3 : 0 ≤ b.toInt ∧ b.toInt ≤ 1 := (by omega)
  refine call_v (wc := [(aC, .inr (3, [.long la]))]) (wr := []) (run_V (As := [.int b]) (rest := []) kv_RX4_19 ⟨by decide, by decide⟩ ⟨rfl, rfl⟩ ⟨hx, hb, hml, hown, hts⟩ (c_Sc_keep l D cI cJ cB aC la b hh3 _) ct_blind (ct_pre (wc := [(aC, .inr (3, [.long la]))]) hK hP hD hS hA hZ hN [0] (by decide) rfl rfl) (va_recv hK hP (ci := 3) (q0 := 0) rfl rfl) rfl hl.1 rfl (Nat.le_of_ble_eq_true rfl) dX4_unscramble_8 ⟨Nat.le_of_ble_eq_true rfl, Nat.le_of_ble_eq_true rfl⟩) hP hD hS hA [0] [] rfl rfl (by decide) (by decide) (fun u H locs hw4 hP1 hD1 hS1 => ?_)
  obtain ⟨la2_4, hu9⟩ : ∃ z, z = u := ⟨_, rfl⟩
  subst hu9
  have hw4 : ∀ j, j < 58 → bl la2_4 j = scN (bl la) (bt b 0) j := hw4
  clear hP hD hS
  have hP : va_P D classes [(aC, .inr (3, [.long la2_4]))] H := hP1
  have hD : va_D A [(aC, .inr (3, [.long la2_4]))] := hD1
  have hS := hS1
  clear hP1 hD1 hS1
  refine lv_iload_n hx hb dX4_unscramble_11 rfl (lv_at hl 0 rfl) ?_
  exact hret r2 la2_4 _ _ _ _ dX4_unscramble_12 trivial (hP.sub [0] rfl) (hD.sub [0] (by decide) rfl) hS

set_option maxHeartbeats 4000000 in
set_option maxRecDepth 100000 in
theorem c_Sc_init (l : Launch) (D : va_G) (cI cJ cB : ClassId) (aC : Nat)  :
    ctv l yX4_init (wsOf yX4_init cX4_init 1 none) (rmL 1 24 0 0) D classes (tys3 cI cJ cB) [.ref aC] [(aC, .inr (3, [.long 0]))] (fun u : Unit => True) (fun u : Unit => ([(aC, .inr (3, [.long 0]))] : va_W)) 0 0 := by
  refine ctv.of (by first | exact plainFor_of_name (by decide) | decide +kernel) (Nat.le_of_ble_eq_true rfl) (fun p e s m args below meth c A ls Q h hret => ?_)
  obtain ⟨hx, hb, hml, hown, hts, hnm, hP, hK, hD, hA, hS, hZ, hN, hl⟩ := h
  have hown : s.vm.findClass RX4 = some m.cls := hown
  have hl : lv_has ls 1 [(0, .ref aC)] := hl
  have hP : va_P D classes [(aC, .inr (3, [.long 0]))] s.heap := hP
  have hD : va_D A [(aC, .inr (3, [.long 0]))] := hD
  refine lv_aload_n hx hb dX4_init_0 rfl (lv_at hl 0 rfl) ?_
  refine W.objInit hx hb hown (hts _ wk41) (hts _ wk11) (hts _ wk12) rfl (by rw [hml]; exact hl.1) rfl dX4_init_1 (Nat.le_of_ble_eq_true rfl) (Nat.le_of_ble_eq_true rfl) ?_
  refine W.eq (g2 := F0 m 4 ls []) rfl ?_
  exact hret () _ _ _ _ dX4_init_4 trivial (hP.sub [0] rfl) (hD.sub [0] (by decide) rfl) hS

set_option maxHeartbeats 4000000 in
set_option maxRecDepth 100000 in
theorem c_Ln_init (l : Launch) (D : va_G) (cI cJ cB : ClassId) (aL : Nat)  :
    ctv l yX2_init (wsOf yX2_init cX2_init 1 none) (rmL 1 24 1 142) D classes (tys3 cI cJ cB) [.ref aL] [(aL, .inr (1, [.null, .int 0, .int 0]))] (fun u : Nat => True) (fun u : Nat => ([(aL, .inr (1, [.ref u, .int 0, .int 0])), (u, .inl (cJ, 142, .inr (.inl (fun _ => 0))))] : va_W)) 1 142 := by
  refine ctv.of (by first | exact plainFor_of_name (by decide) | decide +kernel) (Nat.le_of_ble_eq_true rfl) (fun p e s m args below meth c A ls Q h hret => ?_)
  obtain ⟨hx, hb, hml, hown, hts, hnm, hP, hK, hD, hA, hS, hZ, hN, hl⟩ := h
  have hown : s.vm.findClass RX2 = some m.cls := hown
  have hl : lv_has ls 1 [(0, .ref aL)] := hl
  have hP : va_P D classes [(aL, .inr (1, [.null, .int 0, .int 0]))] s.heap := hP
  have hD : va_D A [(aL, .inr (1, [.null, .int 0, .int 0]))] := hD
  refine lv_aload_n hx hb dX2_init_0 rfl (lv_at hl 0 rfl) ?_
  refine W.objInit hx hb hown (hts _ wk27) (hts _ wk11) (hts _ wk12) rfl (by rw [hml]; exact hl.1) rfl dX2_init_1 (Nat.le_of_ble_eq_true rfl) (Nat.le_of_ble_eq_true rfl) ?_
  refine W.eq (g2 := F0 m 4 ls []) rfl ?_
  refine lv_aload_n hx hb dX2_init_4 rfl (lv_at hl 0 rfl) ?_
  refine lv_sipush (v := 142) hx hb dX2_init_5 (by decide) ?_
  refine lv_topi (fun v1 e1 => ?_)
  have z1 : v1.toInt = 142 := zi_c e1 (by decide)
  refine va_newa (a0 := (142, .inr (.inl (fun _ => 0)))) (atype := .long) (ty := .long) hx hb (hts _ wk28) rfl hK hP hD hS hA (fun _ => rfl) (by rw [e1]; decide) (by rw [e1]; decide) (by decide) (Nat.le_of_ble_eq_true rfl) (Nat.le_of_ble_eq_true rfl) dX2_init_8 (fun q2 cN H hK9 hP1 hD1 hS1 => ?_)
  have hcN : cN = cJ := ty3_eq 1 3 hK9 rfl rfl rfl rfl
  rw [hcN] at hP1 hD1
  clear hK9
  clear hP hD hS
  have hP : va_P D classes [(aL, .inr (1, [.null, .int 0, .int 0])), (q2, .inl (cJ, 142, .inr (.inl (fun _ => 0))))] H := hP1
  have hD : va_D A [(aL, .inr (1, [.null, .int 0, .int 0])), (q2, .inl (cJ, 142, .inr (.inl (fun _ => 0))))] := hD1
  have hS := hS1
  clear hP1 hD1 hS1
  refine W.widen (k := 1) (n := 142) (Nat.le_refl _) (Nat.le_refl _) ?_
  refine va_putF (D := D) (ci := 1) (v := .ref q2) (ty := (.array .long)) (C := RX2) (T := TX2) (N := 3) hx hb hts in_X2 tyX2 tyX2_ok nmX2 hown hK hP hD hS 0 rfl rfl 0 (by decide) (hts _ wk29) (fun _ h9 => h9) rfl hnm rfl (by decide +kernel) rfl rfl (Nat.le_of_ble_eq_true rfl) dX2_init_10 (fun H locs hP1 hD1 hS1 => ?_)
  clear hP hD hS
  have hP : va_P D classes [(aL, .inr (1, [.ref q2, .int 0, .int 0])), (q2, .inl (cJ, 142, .inr (.inl (fun _ => 0))))] H := hP1
  have hD : va_D A [(aL, .inr (1, [.ref q2, .int 0, .int 0])), (q2, .inl (cJ, 142, .inr (.inl (fun _ => 0))))] := hD1
  have hS := hS1
  clear hP1 hD1 hS1
  exact hret q2 _ _ _ _ dX2_init_13 trivial (hP.sub [0, 1] rfl) (hD.sub [0, 1] (by decide) rfl) hS
