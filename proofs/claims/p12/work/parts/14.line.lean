set_option maxHeartbeats 4000000 in
set_option maxRecDepth 100000 in
theorem c_LB_put (l : Launch) (D : va_G) (cI cJ cB : ClassId) (aX : Nat) (aL : Nat) (aW : Nat) (aS : Nat) (aC : Nat) (aG : Nat) (aR : Nat) (fi : Int32) (cn : Int32) (wa : Int32) (fw : Nat → Int64) (la : Int64) (fg : Nat → Int32) (ch : Int32) (h1 : 0 ≤ fi.toInt ∧ fi.toInt < 9088) (h2 : 0 ≤ cn.toInt ∧ cn.toInt ≤ 9066) (h3 : 0 ≤ wa.toInt ∧ wa.toInt < 8) (h4 : ∀ k : Nat, (k : Int) < wa.toInt → 0 ≤ (fg k).toInt ∧ (fg k).toInt ≤ 259) :
    cti l yX6_put (wsOf yX6_put cX6_put 2 (some .int)) (rmL 6 135 0 0) D classes (tys3 cI cJ cB) [.ref aX, .int ch] [(aX, .inr (5, [.ref aL, .ref aS, .ref aR])), (aL, .inr (1, [.ref aW, .int fi, .int cn])), (aW, .inl (cJ, 142, .inr (.inl fw))), (aS, .inr (4, [.ref aC, .ref aG, .int wa])), (aC, .inr (3, [.long la])), (aG, .inl (cI, 8, .inl fg))] (fun (r : Int32) (u : Int32 × Int32 × (Nat → Int64) × Int64 × (Nat → Int32)) => (((ch.toInt < 0 ∨ 259 < ch.toInt) → r.toInt = -12 ∧ u.2.1.toInt = wa.toInt ∧ u.1.toInt = cn.toInt) ∧ ((0 ≤ ch.toInt ∧ ch.toInt ≤ 259) → ((wa.toInt = 7 ∧ 9000 ≤ cn.toInt) → r.toInt = -14 ∧ u.2.1.toInt = wa.toInt ∧ u.1.toInt = cn.toInt) ∧ ((wa.toInt = 7 ∧ cn.toInt < 9000) → r.toInt = 0 ∧ u.2.1.toInt = 0 ∧ u.1.toInt = cn.toInt + 66) ∧ (wa.toInt < 7 → r.toInt = wa.toInt + 1 ∧ u.2.1.toInt = wa.toInt + 1 ∧ u.1.toInt = cn.toInt))) ∧ ((ch.toInt < 0 ∨ 259 < ch.toInt ∨ (wa.toInt = 7 ∧ 9000 ≤ cn.toInt)) → u.2.2.2.2 = fg ∧ u.2.2.2.1 = la ∧ u.2.2.1 = fw) ∧ (¬ (ch.toInt < 0 ∨ 259 < ch.toInt ∨ (wa.toInt = 7 ∧ 9000 ≤ cn.toInt)) → accR ch wa.toInt u.2.1.toInt cn.toInt u.1.toInt fg u.2.2.2.2 (bl la) (bl u.2.2.2.1) (lnB fw fi.toInt) (lnB u.2.2.1 fi.toInt))) (fun u : Int32 × Int32 × (Nat → Int64) × Int64 × (Nat → Int32) => ([(aX, .inr (5, [.ref aL, .ref aS, .ref aR])), (aL, .inr (1, [.ref aW, .int fi, .int u.1])), (aW, .inl (cJ, 142, .inr (.inl u.2.2.1))), (aS, .inr (4, [.ref aC, .ref aG, .int u.2.1])), (aC, .inr (3, [.long u.2.2.2.1])), (aG, .inl (cI, 8, .inl u.2.2.2.2))] : va_W)) := by
  refine cti.of (by first | exact plainFor_of_name (by decide) | decide +kernel) (Nat.le_of_ble_eq_true rfl) (fun p e s m args below meth c A ls Q h hret => ?_)
  obtain ⟨hx, hb, hml, hown, hts, hnm, hP, hK, hD, hA, hS, hZ, hN, hl⟩ := h
  have hown : s.vm.findClass RX6 = some m.cls := hown
  have hl : lv_has ls 2 [(0, .ref aX), (1, .int ch)] := hl
  have hP : va_P D classes [(aX, .inr (5, [.ref aL, .ref aS, .ref aR])), (aL, .inr (1, [.ref aW, .int fi, .int cn])), (aW, .inl (cJ, 142, .inr (.inl fw))), (aS, .inr (4, [.ref aC, .ref aG, .int wa])), (aC, .inr (3, [.long la])), (aG, .inl (cI, 8, .inl fg))] s.heap := hP
  have hD : va_D A [(aX, .inr (5, [.ref aL, .ref aS, .ref aR])), (aL, .inr (1, [.ref aW, .int fi, .int cn])), (aW, .inl (cJ, 142, .inr (.inl fw))), (aS, .inr (4, [.ref aC, .ref aG, .int wa])), (aC, .inr (3, [.long la])), (aG, .inl (cI, 8, .inl fg))] := hD
  have rg_fi := zi_rg fi
  have rg_cn := zi_rg cn
  have rg_wa := zi_rg wa
  have rg_ch := zi_rg ch
  refine lv_iload_n hx hb dX6_put_0 rfl (lv_at hl 1 rfl) ?_
  refine lv_if_lt (tgt := 11) hx hb dX6_put_1 (by decide) (fun c1 => ?_) (fun c1 => ?_)
  ·
    have z1 := zi_lt0 c1
    refine lv_bipush (v := -12) hx hb dX6_put_11 (by decide) ?_
    refine lv_topi (fun v2 e2 => ?_)
    have z2 : v2.toInt = (-12) := zi_c e2 (by decide)
    have hq3 : (((ch.toInt < 0 ∨ 259 < ch.toInt) → v2.toInt = -12 ∧ wa.toInt = wa.toInt ∧ cn.toInt = cn.toInt) ∧ ((0 ≤ ch.toInt ∧ ch.toInt ≤ 259) → ((wa.toInt = 7 ∧ 9000 ≤ cn.toInt) → v2.toInt = -14 ∧ wa.toInt = wa.toInt ∧ cn.toInt = cn.toInt) ∧ ((wa.toInt = 7 ∧ cn.toInt < 9000) → v2.toInt = 0 ∧ wa.toInt = 0 ∧ cn.toInt = cn.toInt + 66) ∧ (wa.toInt < 7 → v2.toInt = wa.toInt + 1 ∧ wa.toInt = wa.toInt + 1 ∧ cn.toInt = cn.toInt))) ∧ ((ch.toInt < 0 ∨ 259 < ch.toInt ∨ (wa.toInt = 7 ∧ 9000 ≤ cn.toInt)) → fg = fg ∧ la = la ∧ fw = fw) ∧ (¬ (ch.toInt < 0 ∨ 259 < ch.toInt ∨ (wa.toInt = 7 ∧ 9000 ≤ cn.toInt)) → accR ch wa.toInt wa.toInt cn.toInt cn.toInt fg fg (bl la) (bl la) (lnB fw fi.toInt) (lnB fw fi.toInt)) := (by refine ⟨by omega, fun q => ?_, fun q => ?_⟩ <;> first | exact ⟨rfl, rfl, rfl⟩ | (exfalso; omega) | exact hw15.2.2 | exact hw27.2.2)
    exact hret v2 (cn, wa, fw, la, fg) _ _ _ _ dX6_put_13 hq3 (hP.sub [0, 1, 2, 3, 4, 5] rfl) (hD.sub [0, 1, 2, 3, 4, 5] (by decide) rfl) hS
  ·
    have z1 := zi_nlt0 c1
    refine lv_iload_n hx hb dX6_put_4 rfl (lv_at hl 1 rfl) ?_
    refine lv_sipush (v := 259) hx hb dX6_put_5 (by decide) ?_
    refine lv_topi (fun v4 e4 => ?_)
    have z4 : v4.toInt = 259 := zi_c e4 (by decide)
    refine lv_icmp_le (tgt := 14) hx hb dX6_put_8 (by decide) (fun c5 => ?_) (fun c5 => ?_)
    ·
      have z5 := zi_le c5
      refine lv_aload_n hx hb dX6_put_14 rfl (lv_at hl 0 rfl) ?_
      refine va_get (D := D) (ci := 5) (v := .ref aS) (C := RX6) (T := TX6) (N := 3) hx hb hts in_X6 hown hK hP 0 rfl rfl 1 (by decide) (hts _ wk20) (fun _ h9 => h9) rfl dX6_put_15 ?_
      refine call_i (wc := [(aS, .inr (4, [.ref aC, .ref aG, .int wa]))]) (wr := [(aX, .inr (5, [.ref aL, .ref aS, .ref aR])), (aL, .inr (1, [.ref aW, .int fi, .int cn])), (aW, .inl (cJ, 142, .inr (.inl fw))), (aC, .inr (3, [.long la])), (aG, .inl (cI, 8, .inl fg))]) (run_V (As := []) (rest := []) kv_RX6_30 ⟨by decide, by decide⟩ ⟨rfl, rfl⟩ ⟨hx, hb, hml, hown, hts⟩ (c_Se_waitingCount l D cI cJ cB aS aC aG wa  _) ct_blind (ct_pre (wc := [(aS, .inr (4, [.ref aC, .ref aG, .int wa]))]) hK hP hD hS hA hZ hN [3] (by decide) rfl rfl) (va_recv hK hP (ci := 4) (q0 := 3) rfl rfl) rfl hl.1 rfl (Nat.le_of_ble_eq_true rfl) dX6_put_18 ⟨Nat.le_of_ble_eq_true rfl, Nat.le_of_ble_eq_true rfl⟩) hP hD hS hA [3] [0, 1, 2, 4, 5] rfl rfl (by decide) (by decide) (fun r6 u H locs hw6 hP1 hD1 hS1 => ?_)
      have hw6 : r6.toInt = wa.toInt := hw6
      clear hP hD hS
      have hP : va_P D classes [(aX, .inr (5, [.ref aL, .ref aS, .ref aR])), (aL, .inr (1, [.ref aW, .int fi, .int cn])), (aW, .inl (cJ, 142, .inr (.inl fw))), (aC, .inr (3, [.long la])), (aG, .inl (cI, 8, .inl fg)), (aS, .inr (4, [.ref aC, .ref aG, .int wa]))] H := hP1
      have hD : va_D A [(aX, .inr (5, [.ref aL, .ref aS, .ref aR])), (aL, .inr (1, [.ref aW, .int fi, .int cn])), (aW, .inl (cJ, 142, .inr (.inl fw))), (aC, .inr (3, [.long la])), (aG, .inl (cI, 8, .inl fg)), (aS, .inr (4, [.ref aC, .ref aG, .int wa]))] := hD1
      have hS := hS1
      clear hP1 hD1 hS1
      have rg_r6 := zi_rg r6
      refine lv_bipush (v := 7) hx hb dX6_put_21 (by decide) ?_
      refine lv_topi (fun v7 e7 => ?_)
      have z7 : v7.toInt = 7 := zi_c e7 (by decide)
      refine lv_icmp_ne (tgt := 42) hx hb dX6_put_23 (by decide) (fun c8 => ?_) (fun c8 => ?_)
      ·
        have z8 := zi_ne c8
        refine lv_aload_n hx hb dX6_put_42 rfl (lv_at hl 0 rfl) ?_
        refine va_get (D := D) (ci := 5) (v := .ref aS) (C := RX6) (T := TX6) (N := 3) hx hb hts in_X6 hown hK hP 0 rfl rfl 1 (by decide) (hts _ wk20) (fun _ h9 => h9) rfl dX6_put_43 ?_
        refine lv_iload_n hx hb dX6_put_46 rfl (lv_at hl 1 rfl) ?_
        refine lv_aload_n hx hb dX6_put_47 rfl (lv_at hl 0 rfl) ?_
        refine va_get (D := D) (ci := 5) (v := .ref aL) (C := RX6) (T := TX6) (N := 3) hx hb hts in_X6 hown hK hP 0 rfl rfl 0 (by decide) (hts _ wk16) (fun _ h9 => h9) rfl dX6_put_48 ?_
        have hh9 : 0 ≤ fi.toInt ∧ fi.toInt < 9088 := (by omega)
        have hh10 : 0 ≤ cn.toInt ∧ cn.toInt ≤ 9066 := (by omega)
        have hh11 : 0 ≤ wa.toInt ∧ wa.toInt < 8 := (by omega)
        have hh12 : wa.toInt = 7 → cn.toInt < 9000 := (by omega)
        have hh13 : ∀ k : Nat, (k : Int) < wa.toInt → 0 ≤ (fg k).toInt ∧ (fg k).toInt ≤ 259 := h4
        have hh14 : 0 ≤ ch.toInt ∧ ch.toInt ≤ 259 := (by omega)
        refine call_v (wc := [(aS, .inr (4, [.ref aC, .ref aG, .int wa])), (aC, .inr (3, [.long la])), (aG, .inl (cI, 8, .inl fg)), (aL, .inr (1, [.ref aW, .int fi, .int cn])), (aW, .inl (cJ, 142, .inr (.inl fw)))]) (wr := [(aX, .inr (5, [.ref aL, .ref aS, .ref aR]))]) (run_V (As := [.int ch, .ref aL]) (rest := []) kv_RX6_37 ⟨by decide, by decide⟩ ⟨rfl, rfl⟩ ⟨hx, hb, hml, hown, hts⟩ (c_Se_accept l D cI cJ cB aS aC aG aL aW la fg wa fi cn fw ch hh9 hh10 hh11 hh12 hh13 hh14 _) ct_blind (ct_pre (wc := [(aS, .inr (4, [.ref aC, .ref aG, .int wa])), (aC, .inr (3, [.long la])), (aG, .inl (cI, 8, .inl fg)), (aL, .inr (1, [.ref aW, .int fi, .int cn])), (aW, .inl (cJ, 142, .inr (.inl fw)))]) hK hP hD hS hA hZ hN [5, 3, 4, 1, 2] (by decide) rfl rfl) (va_recv hK hP (ci := 4) (q0 := 5) rfl rfl) rfl hl.1 rfl (Nat.le_of_ble_eq_true rfl) dX6_put_51 ⟨Nat.le_of_ble_eq_true rfl, Nat.le_of_ble_eq_true rfl⟩) hP hD hS hA [5, 3, 4, 1, 2] [0] rfl rfl (by decide) (by decide) (fun u H locs hw15 hP1 hD1 hS1 => ?_)
        obtain ⟨la2_15, fg2_15, wa2_15, cn2_15, fw2_15⟩ := u
        have hw15 : (wa.toInt < 7 → wa2_15.toInt = wa.toInt + 1 ∧ cn2_15.toInt = cn.toInt) ∧ (wa.toInt = 7 → wa2_15.toInt = 0 ∧ cn2_15.toInt = cn.toInt + 66) ∧ accR ch wa.toInt wa2_15.toInt cn.toInt cn2_15.toInt fg fg2_15 (bl la) (bl la2_15) (lnB fw fi.toInt) (lnB fw2_15 fi.toInt) := hw15
        clear hP hD hS
        have hP : va_P D classes [(aX, .inr (5, [.ref aL, .ref aS, .ref aR])), (aS, .inr (4, [.ref aC, .ref aG, .int wa2_15])), (aC, .inr (3, [.long la2_15])), (aG, .inl (cI, 8, .inl fg2_15)), (aL, .inr (1, [.ref aW, .int fi, .int cn2_15])), (aW, .inl (cJ, 142, .inr (.inl fw2_15)))] H := hP1
        have hD : va_D A [(aX, .inr (5, [.ref aL, .ref aS, .ref aR])), (aS, .inr (4, [.ref aC, .ref aG, .int wa2_15])), (aC, .inr (3, [.long la2_15])), (aG, .inl (cI, 8, .inl fg2_15)), (aL, .inr (1, [.ref aW, .int fi, .int cn2_15])), (aW, .inl (cJ, 142, .inr (.inl fw2_15)))] := hD1
        have hS := hS1
        clear hP1 hD1 hS1
        have rg_wa2_15 := zi_rg wa2_15
        have rg_cn2_15 := zi_rg cn2_15
        refine lv_aload_n hx hb dX6_put_54 rfl (lv_at hl 0 rfl) ?_
        refine va_get (D := D) (ci := 5) (v := .ref aS) (C := RX6) (T := TX6) (N := 3) hx hb hts in_X6 hown hK hP 0 rfl rfl 1 (by decide) (hts _ wk20) (fun _ h9 => h9) rfl dX6_put_55 ?_
        refine call_i (wc := [(aS, .inr (4, [.ref aC, .ref aG, .int wa2_15]))]) (wr := [(aX, .inr (5, [.ref aL, .ref aS, .ref aR])), (aC, .inr (3, [.long la2_15])), (aG, .inl (cI, 8, .inl fg2_15)), (aL, .inr (1, [.ref aW, .int fi, .int cn2_15])), (aW, .inl (cJ, 142, .inr (.inl fw2_15)))]) (run_V (As := []) (rest := []) kv_RX6_30 ⟨by decide, by decide⟩ ⟨rfl, rfl⟩ ⟨hx, hb, hml, hown, hts⟩ (c_Se_waitingCount l D cI cJ cB aS aC aG wa2_15  _) ct_blind (ct_pre (wc := [(aS, .inr (4, [.ref aC, .ref aG, .int wa2_15]))]) hK hP hD hS hA hZ hN [1] (by decide) rfl rfl) (va_recv hK hP (ci := 4) (q0 := 1) rfl rfl) rfl hl.1 rfl (Nat.le_of_ble_eq_true rfl) dX6_put_58 ⟨Nat.le_of_ble_eq_true rfl, Nat.le_of_ble_eq_true rfl⟩) hP hD hS hA [1] [0, 2, 3, 4, 5] rfl rfl (by decide) (by decide) (fun r16 u H locs hw16 hP1 hD1 hS1 => ?_)
        have hw16 : r16.toInt = wa2_15.toInt := hw16
        clear hP hD hS
        have hP : va_P D classes [(aX, .inr (5, [.ref aL, .ref aS, .ref aR])), (aC, .inr (3, [.long la2_15])), (aG, .inl (cI, 8, .inl fg2_15)), (aL, .inr (1, [.ref aW, .int fi, .int cn2_15])), (aW, .inl (cJ, 142, .inr (.inl fw2_15))), (aS, .inr (4, [.ref aC, .ref aG, .int wa2_15]))] H := hP1
        have hD : va_D A [(aX, .inr (5, [.ref aL, .ref aS, .ref aR])), (aC, .inr (3, [.long la2_15])), (aG, .inl (cI, 8, .inl fg2_15)), (aL, .inr (1, [.ref aW, .int fi, .int cn2_15])), (aW, .inl (cJ, 142, .inr (.inl fw2_15))), (aS, .inr (4, [.ref aC, .ref aG, .int wa2_15]))] := hD1
        have hS := hS1
        clear hP1 hD1 hS1
        have rg_r16 := zi_rg r16
        have hq17 : (((ch.toInt < 0 ∨ 259 < ch.toInt) → r16.toInt = -12 ∧ wa2_15.toInt = wa.toInt ∧ cn2_15.toInt = cn.toInt) ∧ ((0 ≤ ch.toInt ∧ ch.toInt ≤ 259) → ((wa.toInt = 7 ∧ 9000 ≤ cn.toInt) → r16.toInt = -14 ∧ wa2_15.toInt = wa.toInt ∧ cn2_15.toInt = cn.toInt) ∧ ((wa.toInt = 7 ∧ cn.toInt < 9000) → r16.toInt = 0 ∧ wa2_15.toInt = 0 ∧ cn2_15.toInt = cn.toInt + 66) ∧ (wa.toInt < 7 → r16.toInt = wa.toInt + 1 ∧ wa2_15.toInt = wa.toInt + 1 ∧ cn2_15.toInt = cn.toInt))) ∧ ((ch.toInt < 0 ∨ 259 < ch.toInt ∨ (wa.toInt = 7 ∧ 9000 ≤ cn.toInt)) → fg2_15 = fg ∧ la2_15 = la ∧ fw2_15 = fw) ∧ (¬ (ch.toInt < 0 ∨ 259 < ch.toInt ∨ (wa.toInt = 7 ∧ 9000 ≤ cn.toInt)) → accR ch wa.toInt wa2_15.toInt cn.toInt cn2_15.toInt fg fg2_15 (bl la) (bl la2_15) (lnB fw fi.toInt) (lnB fw2_15 fi.toInt)) := (by refine ⟨by omega, fun q => ?_, fun q => ?_⟩ <;> first | exact ⟨rfl, rfl, rfl⟩ | (exfalso; omega) | exact hw15.2.2 | exact hw27.2.2)
        exact hret r16 (cn2_15, wa2_15, fw2_15, la2_15, fg2_15) _ _ _ _ dX6_put_61 hq17 (hP.sub [0, 3, 4, 5, 1, 2] rfl) (hD.sub [0, 3, 4, 5, 1, 2] (by decide) rfl) hS
      ·
        have z8 := zi_eq c8
        refine lv_aload_n hx hb dX6_put_26 rfl (lv_at hl 0 rfl) ?_
        refine va_get (D := D) (ci := 5) (v := .ref aL) (C := RX6) (T := TX6) (N := 3) hx hb hts in_X6 hown hK hP 0 rfl rfl 0 (by decide) (hts _ wk16) (fun _ h9 => h9) rfl dX6_put_27 ?_
        refine call_i (wc := [(aL, .inr (1, [.ref aW, .int fi, .int cn]))]) (wr := [(aX, .inr (5, [.ref aL, .ref aS, .ref aR])), (aW, .inl (cJ, 142, .inr (.inl fw))), (aC, .inr (3, [.long la])), (aG, .inl (cI, 8, .inl fg)), (aS, .inr (4, [.ref aC, .ref aG, .int wa]))]) (run_V (As := []) (rest := []) kv_RX6_34 ⟨by decide, by decide⟩ ⟨rfl, rfl⟩ ⟨hx, hb, hml, hown, hts⟩ (c_Ln_size l D cI cJ cB aL aW fi cn  _) ct_blind (ct_pre (wc := [(aL, .inr (1, [.ref aW, .int fi, .int cn]))]) hK hP hD hS hA hZ hN [1] (by decide) rfl rfl) (va_recv hK hP (ci := 1) (q0 := 1) rfl rfl) rfl hl.1 rfl (Nat.le_of_ble_eq_true rfl) dX6_put_30 ⟨Nat.le_of_ble_eq_true rfl, Nat.le_of_ble_eq_true rfl⟩) hP hD hS hA [1] [0, 2, 3, 4, 5] rfl rfl (by decide) (by decide) (fun r18 u H locs hw18 hP1 hD1 hS1 => ?_)
        have hw18 : r18.toInt = cn.toInt := hw18
        clear hP hD hS
        have hP : va_P D classes [(aX, .inr (5, [.ref aL, .ref aS, .ref aR])), (aW, .inl (cJ, 142, .inr (.inl fw))), (aC, .inr (3, [.long la])), (aG, .inl (cI, 8, .inl fg)), (aS, .inr (4, [.ref aC, .ref aG, .int wa])), (aL, .inr (1, [.ref aW, .int fi, .int cn]))] H := hP1
        have hD : va_D A [(aX, .inr (5, [.ref aL, .ref aS, .ref aR])), (aW, .inl (cJ, 142, .inr (.inl fw))), (aC, .inr (3, [.long la])), (aG, .inl (cI, 8, .inl fg)), (aS, .inr (4, [.ref aC, .ref aG, .int wa])), (aL, .inr (1, [.ref aW, .int fi, .int cn]))] := hD1
        have hS := hS1
        clear hP1 hD1 hS1
        have rg_r18 := zi_rg r18
        refine lv_sipush (v := 9000) hx hb dX6_put_33 (by decide) ?_
        refine lv_topi (fun v19 e19 => ?_)
        have z19 : v19.toInt = 9000 := zi_c e19 (by decide)
        refine lv_icmp_lt (tgt := 42) hx hb dX6_put_36 (by decide) (fun c20 => ?_) (fun c20 => ?_)
        ·
          have z20 := zi_lt c20
          refine lv_aload_n hx hb dX6_put_42 rfl (lv_at hl 0 rfl) ?_
          refine va_get (D := D) (ci := 5) (v := .ref aS) (C := RX6) (T := TX6) (N := 3) hx hb hts in_X6 hown hK hP 0 rfl rfl 1 (by decide) (hts _ wk20) (fun _ h9 => h9) rfl dX6_put_43 ?_
          refine lv_iload_n hx hb dX6_put_46 rfl (lv_at hl 1 rfl) ?_
          refine lv_aload_n hx hb dX6_put_47 rfl (lv_at hl 0 rfl) ?_
          refine va_get (D := D) (ci := 5) (v := .ref aL) (C := RX6) (T := TX6) (N := 3) hx hb hts in_X6 hown hK hP 0 rfl rfl 0 (by decide) (hts _ wk16) (fun _ h9 => h9) rfl dX6_put_48 ?_
          have hh21 : 0 ≤ fi.toInt ∧ fi.toInt < 9088 := (by omega)
          have hh22 : 0 ≤ cn.toInt ∧ cn.toInt ≤ 9066 := (by omega)
          have hh23 : 0 ≤ wa.toInt ∧ wa.toInt < 8 := (by omega)
          have hh24 : wa.toInt = 7 → cn.toInt < 9000 := (by omega)
          have hh25 : ∀ k : Nat, (k : Int) < wa.toInt → 0 ≤ (fg k).toInt ∧ (fg k).toInt ≤ 259 := h4
          have hh26 : 0 ≤ ch.toInt ∧ ch.toInt ≤ 259 := (by omega)
          refine call_v (wc := [(aS, .inr (4, [.ref aC, .ref aG, .int wa])), (aC, .inr (3, [.long la])), (aG, .inl (cI, 8, .inl fg)), (aL, .inr (1, [.ref aW, .int fi, .int cn])), (aW, .inl (cJ, 142, .inr (.inl fw)))]) (wr := [(aX, .inr (5, [.ref aL, .ref aS, .ref aR]))]) (run_V (As := [.int ch, .ref aL]) (rest := []) kv_RX6_37 ⟨by decide, by decide⟩ ⟨rfl, rfl⟩ ⟨hx, hb, hml, hown, hts⟩ (c_Se_accept l D cI cJ cB aS aC aG aL aW la fg wa fi cn fw ch hh21 hh22 hh23 hh24 hh25 hh26 _) ct_blind (ct_pre (wc := [(aS, .inr (4, [.ref aC, .ref aG, .int wa])), (aC, .inr (3, [.long la])), (aG, .inl (cI, 8, .inl fg)), (aL, .inr (1, [.ref aW, .int fi, .int cn])), (aW, .inl (cJ, 142, .inr (.inl fw)))]) hK hP hD hS hA hZ hN [4, 2, 3, 5, 1] (by decide) rfl rfl) (va_recv hK hP (ci := 4) (q0 := 4) rfl rfl) rfl hl.1 rfl (Nat.le_of_ble_eq_true rfl) dX6_put_51 ⟨Nat.le_of_ble_eq_true rfl, Nat.le_of_ble_eq_true rfl⟩) hP hD hS hA [4, 2, 3, 5, 1] [0] rfl rfl (by decide) (by decide) (fun u H locs hw27 hP1 hD1 hS1 => ?_)
          obtain ⟨la2_27, fg2_27, wa2_27, cn2_27, fw2_27⟩ := u
          have hw27 : (wa.toInt < 7 → wa2_27.toInt = wa.toInt + 1 ∧ cn2_27.toInt = cn.toInt) ∧ (wa.toInt = 7 → wa2_27.toInt = 0 ∧ cn2_27.toInt = cn.toInt + 66) ∧ accR ch wa.toInt wa2_27.toInt cn.toInt cn2_27.toInt fg fg2_27 (bl la) (bl la2_27) (lnB fw fi.toInt) (lnB fw2_27 fi.toInt) := hw27
          clear hP hD hS
          have hP : va_P D classes [(aX, .inr (5, [.ref aL, .ref aS, .ref aR])), (aS, .inr (4, [.ref aC, .ref aG, .int wa2_27])), (aC, .inr (3, [.long la2_27])), (aG, .inl (cI, 8, .inl fg2_27)), (aL, .inr (1, [.ref aW, .int fi, .int cn2_27])), (aW, .inl (cJ, 142, .inr (.inl fw2_27)))] H := hP1
          have hD : va_D A [(aX, .inr (5, [.ref aL, .ref aS, .ref aR])), (aS, .inr (4, [.ref aC, .ref aG, .int wa2_27])), (aC, .inr (3, [.long la2_27])), (aG, .inl (cI, 8, .inl fg2_27)), (aL, .inr (1, [.ref aW, .int fi, .int cn2_27])), (aW, .inl (cJ, 142, .inr (.inl fw2_27)))] := hD1
          have hS := hS1
          clear hP1 hD1 hS1
          have rg_wa2_27 := zi_rg wa2_27
          have rg_cn2_27 := zi_rg cn2_27
          refine lv_aload_n hx hb dX6_put_54 rfl (lv_at hl 0 rfl) ?_
          refine va_get (D := D) (ci := 5) (v := .ref aS) (C := RX6) (T := TX6) (N := 3) hx hb hts in_X6 hown hK hP 0 rfl rfl 1 (by decide) (hts _ wk20) (fun _ h9 => h9) rfl dX6_put_55 ?_
          refine call_i (wc := [(aS, .inr (4, [.ref aC, .ref aG, .int wa2_27]))]) (wr := [(aX, .inr (5, [.ref aL, .ref aS, .ref aR])), (aC, .inr (3, [.long la2_27])), (aG, .inl (cI, 8, .inl fg2_27)), (aL, .inr (1, [.ref aW, .int fi, .int cn2_27])), (aW, .inl (cJ, 142, .inr (.inl fw2_27)))]) (run_V (As := []) (rest := []) kv_RX6_30 ⟨by decide, by decide⟩ ⟨rfl, rfl⟩ ⟨hx, hb, hml, hown, hts⟩ (c_Se_waitingCount l D cI cJ cB aS aC aG wa2_27  _) ct_blind (ct_pre (wc := [(aS, .inr (4, [.ref aC, .ref aG, .int wa2_27]))]) hK hP hD hS hA hZ hN [1] (by decide) rfl rfl) (va_recv hK hP (ci := 4) (q0 := 1) rfl rfl) rfl hl.1 rfl (Nat.le_of_ble_eq_true rfl) dX6_put_58 ⟨Nat.le_of_ble_eq_true rfl, Nat.le_of_ble_eq_true rfl⟩) hP hD hS hA [1] [0, 2, 3, 4, 5] rfl rfl (by decide) (by decide) (fun r28 u H locs hw28 hP1 hD1 hS1 => ?_)
          have hw28 : r28.toInt = wa2_27.toInt := hw28
          clear hP hD hS
          have hP : va_P D classes [(aX, .inr (5, [.ref aL, .ref aS, .ref aR])), (aC, .inr (3, [.long la2_27])), (aG, .inl (cI, 8, .inl fg2_27)), (aL, .inr (1, [.ref aW, .int fi, .int cn2_27])), (aW, .inl (cJ, 142, .inr (.inl fw2_27))), (aS, .inr (4, [.ref aC, .ref aG, .int wa2_27]))] H := hP1
          have hD : va_D A [(aX, .inr (5, [.ref aL, .ref aS, .ref aR])), (aC, .inr (3, [.long la2_27])), (aG, .inl (cI, 8, .inl fg2_27)), (aL, .inr (1, [.ref aW, .int fi, .int cn2_27])), (aW, .inl (cJ, 142, .inr (.inl fw2_27))), (aS, .inr (4, [.ref aC, .ref aG, .int wa2_27]))] := hD1
          have hS := hS1
          clear hP1 hD1 hS1
          have rg_r28 := zi_rg r28
          have hq29 : (((ch.toInt < 0 ∨ 259 < ch.toInt) → r28.toInt = -12 ∧ wa2_27.toInt = wa.toInt ∧ cn2_27.toInt = cn.toInt) ∧ ((0 ≤ ch.toInt ∧ ch.toInt ≤ 259) → ((wa.toInt = 7 ∧ 9000 ≤ cn.toInt) → r28.toInt = -14 ∧ wa2_27.toInt = wa.toInt ∧ cn2_27.toInt = cn.toInt) ∧ ((wa.toInt = 7 ∧ cn.toInt < 9000) → r28.toInt = 0 ∧ wa2_27.toInt = 0 ∧ cn2_27.toInt = cn.toInt + 66) ∧ (wa.toInt < 7 → r28.toInt = wa.toInt + 1 ∧ wa2_27.toInt = wa.toInt + 1 ∧ cn2_27.toInt = cn.toInt))) ∧ ((ch.toInt < 0 ∨ 259 < ch.toInt ∨ (wa.toInt = 7 ∧ 9000 ≤ cn.toInt)) → fg2_27 = fg ∧ la2_27 = la ∧ fw2_27 = fw) ∧ (¬ (ch.toInt < 0 ∨ 259 < ch.toInt ∨ (wa.toInt = 7 ∧ 9000 ≤ cn.toInt)) → accR ch wa.toInt wa2_27.toInt cn.toInt cn2_27.toInt fg fg2_27 (bl la) (bl la2_27) (lnB fw fi.toInt) (lnB fw2_27 fi.toInt)) := (by refine ⟨by omega, fun q => ?_, fun q => ?_⟩ <;> first | exact ⟨rfl, rfl, rfl⟩ | (exfalso; omega) | exact hw15.2.2 | exact hw27.2.2)
          exact hret r28 (cn2_27, wa2_27, fw2_27, la2_27, fg2_27) _ _ _ _ dX6_put_61 hq29 (hP.sub [0, 3, 4, 5, 1, 2] rfl) (hD.sub [0, 3, 4, 5, 1, 2] (by decide) rfl) hS
        ·
          have z20 := zi_nlt c20
          refine lv_bipush (v := -14) hx hb dX6_put_39 (by decide) ?_
          refine lv_topi (fun v30 e30 => ?_)
          have z30 : v30.toInt = (-14) := zi_c e30 (by decide)
          have hq31 : (((ch.toInt < 0 ∨ 259 < ch.toInt) → v30.toInt = -12 ∧ wa.toInt = wa.toInt ∧ cn.toInt = cn.toInt) ∧ ((0 ≤ ch.toInt ∧ ch.toInt ≤ 259) → ((wa.toInt = 7 ∧ 9000 ≤ cn.toInt) → v30.toInt = -14 ∧ wa.toInt = wa.toInt ∧ cn.toInt = cn.toInt) ∧ ((wa.toInt = 7 ∧ cn.toInt < 9000) → v30.toInt = 0 ∧ wa.toInt = 0 ∧ cn.toInt = cn.toInt + 66) ∧ (wa.toInt < 7 → v30.toInt = wa.toInt + 1 ∧ wa.toInt = wa.toInt + 1 ∧ cn.toInt = cn.toInt))) ∧ ((ch.toInt < 0 ∨ 259 < ch.toInt ∨ (wa.toInt = 7 ∧ 9000 ≤ cn.toInt)) → fg = fg ∧ la = la ∧ fw = fw) ∧ (¬ (ch.toInt < 0 ∨ 259 < ch.toInt ∨ (wa.toInt = 7 ∧ 9000 ≤ cn.toInt)) → accR ch wa.toInt wa.toInt cn.toInt cn.toInt fg fg (bl la) (bl la) (lnB fw fi.toInt) (lnB fw fi.toInt)) := (by refine ⟨by omega, fun q => ?_, fun q => ?_⟩ <;> first | exact ⟨rfl, rfl, rfl⟩ | (exfalso; omega) | exact hw15.2.2 | exact hw27.2.2)
          exact hret v30 (cn, wa, fw, la, fg) _ _ _ _ dX6_put_41 hq31 (hP.sub [0, 5, 1, 4, 2, 3] rfl) (hD.sub [0, 5, 1, 4, 2, 3] (by decide) rfl) hS
    ·
      have z5 := zi_nle c5
      refine lv_bipush (v := -12) hx hb dX6_put_11 (by decide) ?_
      refine lv_topi (fun v32 e32 => ?_)
      have z32 : v32.toInt = (-12) := zi_c e32 (by decide)
      have hq33 : (((ch.toInt < 0 ∨ 259 < ch.toInt) → v32.toInt = -12 ∧ wa.toInt = wa.toInt ∧ cn.toInt = cn.toInt) ∧ ((0 ≤ ch.toInt ∧ ch.toInt ≤ 259) → ((wa.toInt = 7 ∧ 9000 ≤ cn.toInt) → v32.toInt = -14 ∧ wa.toInt = wa.toInt ∧ cn.toInt = cn.toInt) ∧ ((wa.toInt = 7 ∧ cn.toInt < 9000) → v32.toInt = 0 ∧ wa.toInt = 0 ∧ cn.toInt = cn.toInt + 66) ∧ (wa.toInt < 7 → v32.toInt = wa.toInt + 1 ∧ wa.toInt = wa.toInt + 1 ∧ cn.toInt = cn.toInt))) ∧ ((ch.toInt < 0 ∨ 259 < ch.toInt ∨ (wa.toInt = 7 ∧ 9000 ≤ cn.toInt)) → fg = fg ∧ la = la ∧ fw = fw) ∧ (¬ (ch.toInt < 0 ∨ 259 < ch.toInt ∨ (wa.toInt = 7 ∧ 9000 ≤ cn.toInt)) → accR ch wa.toInt wa.toInt cn.toInt cn.toInt fg fg (bl la) (bl la) (lnB fw fi.toInt) (lnB fw fi.toInt)) := (by refine ⟨by omega, fun q => ?_, fun q => ?_⟩ <;> first | exact ⟨rfl, rfl, rfl⟩ | (exfalso; omega) | exact hw15.2.2 | exact hw27.2.2)
      exact hret v32 (cn, wa, fw, la, fg) _ _ _ _ dX6_put_13 hq33 (hP.sub [0, 1, 2, 3, 4, 5] rfl) (hD.sub [0, 1, 2, 3, 4, 5] (by decide) rfl) hS

set_option maxHeartbeats 4000000 in
set_option maxRecDepth 100000 in
theorem c_LB_word (l : Launch) (D : va_G) (cI cJ cB : ClassId) (aX : Nat) (aL : Nat) (aW : Nat) (aS : Nat) (aC : Nat) (aG : Nat) (aR : Nat) (fi : Int32) (cn : Int32) (wa : Int32) (fw : Nat → Int64) (la : Int64) (fg : Nat → Int32) (x : Int32) (y : Int32) (h1 : 0 ≤ fi.toInt ∧ fi.toInt < 9088) (h2 : 0 ≤ cn.toInt ∧ cn.toInt ≤ 9066) (h3 : 0 ≤ wa.toInt ∧ wa.toInt < 8) (h4 : ∀ k : Nat, (k : Int) < wa.toInt → 0 ≤ (fg k).toInt ∧ (fg k).toInt ≤ 259) :
    cti l yX6_word (wsOf yX6_word cX6_word 3 (some .int)) (rmL 7 158 0 0) D classes (tys3 cI cJ cB) [.ref aX, .int x, .int y] [(aX, .inr (5, [.ref aL, .ref aS, .ref aR])), (aL, .inr (1, [.ref aW, .int fi, .int cn])), (aW, .inl (cJ, 142, .inr (.inl fw))), (aS, .inr (4, [.ref aC, .ref aG, .int wa])), (aC, .inr (3, [.long la])), (aG, .inl (cI, 8, .inl fg))] (fun (r : Int32) (u : Int32 × Int32 × (Nat → Int64) × Int64 × (Nat → Int32)) => ((9000 ≤ cn.toInt → r.toInt = -14 ∧ u.2.1.toInt = wa.toInt ∧ u.1.toInt = cn.toInt) ∧ (cn.toInt < 9000 → r.toInt = wa.toInt ∧ u.2.1.toInt = wa.toInt ∧ u.1.toInt = cn.toInt + 66)) ∧ (∀ k : Nat, (k : Int) < u.2.1.toInt → 0 ≤ (u.2.2.2.2 k).toInt ∧ (u.2.2.2.2 k).toInt ≤ 259) ∧ (9000 ≤ cn.toInt → u.2.2.2.2 = fg ∧ u.2.2.2.1 = la ∧ u.2.2.1 = fw) ∧ (cn.toInt < 9000 → accL (wl x 4 ++ wl y 4) (wa.toInt, cn.toInt, fg, bl la, lnB fw fi.toInt) (u.2.1.toInt, u.1.toInt, u.2.2.2.2, bl u.2.2.2.1, lnB u.2.2.1 fi.toInt))) (fun u : Int32 × Int32 × (Nat → Int64) × Int64 × (Nat → Int32) => ([(aX, .inr (5, [.ref aL, .ref aS, .ref aR])), (aL, .inr (1, [.ref aW, .int fi, .int u.1])), (aW, .inl (cJ, 142, .inr (.inl u.2.2.1))), (aS, .inr (4, [.ref aC, .ref aG, .int u.2.1])), (aC, .inr (3, [.long u.2.2.2.1])), (aG, .inl (cI, 8, .inl u.2.2.2.2))] : va_W)) := by
  refine cti.of (by first | exact plainFor_of_name (by decide) | decide +kernel) (Nat.le_of_ble_eq_true rfl) (fun p e s m args below meth c A ls Q h hret => ?_)
  obtain ⟨hx, hb, hml, hown, hts, hnm, hP, hK, hD, hA, hS, hZ, hN, hl⟩ := h
  have hown : s.vm.findClass RX6 = some m.cls := hown
  have hl : lv_has ls 3 [(0, .ref aX), (1, .int x), (2, .int y)] := hl
  have hP : va_P D classes [(aX, .inr (5, [.ref aL, .ref aS, .ref aR])), (aL, .inr (1, [.ref aW, .int fi, .int cn])), (aW, .inl (cJ, 142, .inr (.inl fw))), (aS, .inr (4, [.ref aC, .ref aG, .int wa])), (aC, .inr (3, [.long la])), (aG, .inl (cI, 8, .inl fg))] s.heap := hP
  have hD : va_D A [(aX, .inr (5, [.ref aL, .ref aS, .ref aR])), (aL, .inr (1, [.ref aW, .int fi, .int cn])), (aW, .inl (cJ, 142, .inr (.inl fw))), (aS, .inr (4, [.ref aC, .ref aG, .int wa])), (aC, .inr (3, [.long la])), (aG, .inl (cI, 8, .inl fg))] := hD
  have rg_fi := zi_rg fi
  have rg_cn := zi_rg cn
  have rg_wa := zi_rg wa
  have rg_x := zi_rg x
  have rg_y := zi_rg y
  refine lv_aload_n hx hb dX6_word_0 rfl (lv_at hl 0 rfl) ?_
  refine va_get (D := D) (ci := 5) (v := .ref aL) (C := RX6) (T := TX6) (N := 3) hx hb hts in_X6 hown hK hP 0 rfl rfl 0 (by decide) (hts _ wk16) (fun _ h9 => h9) rfl dX6_word_1 ?_
  refine call_i (wc := [(aL, .inr (1, [.ref aW, .int fi, .int cn]))]) (wr := [(aX, .inr (5, [.ref aL, .ref aS, .ref aR])), (aW, .inl (cJ, 142, .inr (.inl fw))), (aS, .inr (4, [.ref aC, .ref aG, .int wa])), (aC, .inr (3, [.long la])), (aG, .inl (cI, 8, .inl fg))]) (run_V (As := []) (rest := []) kv_RX6_34 ⟨by decide, by decide⟩ ⟨rfl, rfl⟩ ⟨hx, hb, hml, hown, hts⟩ (c_Ln_size l D cI cJ cB aL aW fi cn  _) ct_blind (ct_pre (wc := [(aL, .inr (1, [.ref aW, .int fi, .int cn]))]) hK hP hD hS hA hZ hN [1] (by decide) rfl rfl) (va_recv hK hP (ci := 1) (q0 := 1) rfl rfl) rfl hl.1 rfl (Nat.le_of_ble_eq_true rfl) dX6_word_4 ⟨Nat.le_of_ble_eq_true rfl, Nat.le_of_ble_eq_true rfl⟩) hP hD hS hA [1] [0, 2, 3, 4, 5] rfl rfl (by decide) (by decide) (fun r1 u H locs hw1 hP1 hD1 hS1 => ?_)
  have hw1 : r1.toInt = cn.toInt := hw1
  clear hP hD hS
  have hP : va_P D classes [(aX, .inr (5, [.ref aL, .ref aS, .ref aR])), (aW, .inl (cJ, 142, .inr (.inl fw))), (aS, .inr (4, [.ref aC, .ref aG, .int wa])), (aC, .inr (3, [.long la])), (aG, .inl (cI, 8, .inl fg)), (aL, .inr (1, [.ref aW, .int fi, .int cn]))] H := hP1
  have hD : va_D A [(aX, .inr (5, [.ref aL, .ref aS, .ref aR])), (aW, .inl (cJ, 142, .inr (.inl fw))), (aS, .inr (4, [.ref aC, .ref aG, .int wa])), (aC, .inr (3, [.long la])), (aG, .inl (cI, 8, .inl fg)), (aL, .inr (1, [.ref aW, .int fi, .int cn]))] := hD1
  have hS := hS1
  clear hP1 hD1 hS1
  have rg_r1 := zi_rg r1
  refine lv_sipush (v := 9000) hx hb dX6_word_7 (by decide) ?_
  refine lv_topi (fun v2 e2 => ?_)
  have z2 : v2.toInt = 9000 := zi_c e2 (by decide)
  refine lv_icmp_lt (tgt := 16) hx hb dX6_word_10 (by decide) (fun c3 => ?_) (fun c3 => ?_)
  ·
    have z3 := zi_lt c3
    refine lv_aload_n hx hb dX6_word_16 rfl (lv_at hl 0 rfl) ?_
    refine va_get (D := D) (ci := 5) (v := .ref aS) (C := RX6) (T := TX6) (N := 3) hx hb hts in_X6 hown hK hP 0 rfl rfl 1 (by decide) (hts _ wk20) (fun _ h9 => h9) rfl dX6_word_17 ?_
    refine lv_iload_n hx hb dX6_word_20 rfl (lv_at hl 1 rfl) ?_
    refine lv_aload_n hx hb dX6_word_21 rfl (lv_at hl 0 rfl) ?_
    refine va_get (D := D) (ci := 5) (v := .ref aL) (C := RX6) (T := TX6) (N := 3) hx hb hts in_X6 hown hK hP 0 rfl rfl 0 (by decide) (hts _ wk16) (fun _ h9 => h9) rfl dX6_word_22 ?_
    have hh4 : 0 ≤ fi.toInt ∧ fi.toInt < 9088 := (by omega)
    have hh5 : 0 ≤ cn.toInt ∧ cn.toInt ≤ 9066 := (by omega)
    have hh6 : 0 ≤ wa.toInt ∧ wa.toInt < 8 := (by omega)
    have hh7 : 4 ≤ wa.toInt → cn.toInt < 9000 := (by omega)
    have hh8 : ∀ k : Nat, (k : Int) < wa.toInt → 0 ≤ (fg k).toInt ∧ (fg k).toInt ≤ 259 := (by first | exact h4 | exact hw9.2.2.1)
    refine call_v (wc := [(aS, .inr (4, [.ref aC, .ref aG, .int wa])), (aC, .inr (3, [.long la])), (aG, .inl (cI, 8, .inl fg)), (aL, .inr (1, [.ref aW, .int fi, .int cn])), (aW, .inl (cJ, 142, .inr (.inl fw)))]) (wr := [(aX, .inr (5, [.ref aL, .ref aS, .ref aR]))]) (run_V (As := [.int x, .ref aL]) (rest := []) kv_RX6_41 ⟨by decide, by decide⟩ ⟨rfl, rfl⟩ ⟨hx, hb, hml, hown, hts⟩ (c_Se_acceptBytes l D cI cJ cB aS aC aG aL aW la fg wa fi cn fw x hh4 hh5 hh6 hh7 hh8 _) ct_blind (ct_pre (wc := [(aS, .inr (4, [.ref aC, .ref aG, .int wa])), (aC, .inr (3, [.long la])), (aG, .inl (cI, 8, .inl fg)), (aL, .inr (1, [.ref aW, .int fi, .int cn])), (aW, .inl (cJ, 142, .inr (.inl fw)))]) hK hP hD hS hA hZ hN [2, 3, 4, 5, 1] (by decide) rfl rfl) (va_recv hK hP (ci := 4) (q0 := 2) rfl rfl) rfl hl.1 rfl (Nat.le_of_ble_eq_true rfl) dX6_word_25 ⟨Nat.le_of_ble_eq_true rfl, Nat.le_of_ble_eq_true rfl⟩) hP hD hS hA [2, 3, 4, 5, 1] [0] rfl rfl (by decide) (by decide) (fun u H locs hw9 hP1 hD1 hS1 => ?_)
    obtain ⟨la2_9, fg2_9, wa2_9, cn2_9, fw2_9⟩ := u
    have hw9 : (wa.toInt < 4 → wa2_9.toInt = wa.toInt + 4 ∧ cn2_9.toInt = cn.toInt) ∧ (4 ≤ wa.toInt → wa2_9.toInt = wa.toInt - 4 ∧ cn2_9.toInt = cn.toInt + 66) ∧ (∀ k : Nat, (k : Int) < wa2_9.toInt → 0 ≤ (fg2_9 k).toInt ∧ (fg2_9 k).toInt ≤ 259) ∧ accL (wl x 4) (wa.toInt, cn.toInt, fg, bl la, lnB fw fi.toInt) (wa2_9.toInt, cn2_9.toInt, fg2_9, bl la2_9, lnB fw2_9 fi.toInt) := hw9
    clear hP hD hS
    have hP : va_P D classes [(aX, .inr (5, [.ref aL, .ref aS, .ref aR])), (aS, .inr (4, [.ref aC, .ref aG, .int wa2_9])), (aC, .inr (3, [.long la2_9])), (aG, .inl (cI, 8, .inl fg2_9)), (aL, .inr (1, [.ref aW, .int fi, .int cn2_9])), (aW, .inl (cJ, 142, .inr (.inl fw2_9)))] H := hP1
    have hD : va_D A [(aX, .inr (5, [.ref aL, .ref aS, .ref aR])), (aS, .inr (4, [.ref aC, .ref aG, .int wa2_9])), (aC, .inr (3, [.long la2_9])), (aG, .inl (cI, 8, .inl fg2_9)), (aL, .inr (1, [.ref aW, .int fi, .int cn2_9])), (aW, .inl (cJ, 142, .inr (.inl fw2_9)))] := hD1
    have hS := hS1
    clear hP1 hD1 hS1
    have rg_wa2_9 := zi_rg wa2_9
    have rg_cn2_9 := zi_rg cn2_9
    refine lv_aload_n hx hb dX6_word_28 rfl (lv_at hl 0 rfl) ?_
    refine va_get (D := D) (ci := 5) (v := .ref aS) (C := RX6) (T := TX6) (N := 3) hx hb hts in_X6 hown hK hP 0 rfl rfl 1 (by decide) (hts _ wk20) (fun _ h9 => h9) rfl dX6_word_29 ?_
    refine lv_iload_n hx hb dX6_word_32 rfl (lv_at hl 2 rfl) ?_
    refine lv_aload_n hx hb dX6_word_33 rfl (lv_at hl 0 rfl) ?_
    refine va_get (D := D) (ci := 5) (v := .ref aL) (C := RX6) (T := TX6) (N := 3) hx hb hts in_X6 hown hK hP 0 rfl rfl 0 (by decide) (hts _ wk16) (fun _ h9 => h9) rfl dX6_word_34 ?_
    have hh10 : 0 ≤ fi.toInt ∧ fi.toInt < 9088 := (by omega)
    have hh11 : 0 ≤ cn2_9.toInt ∧ cn2_9.toInt ≤ 9066 := (by omega)
    have hh12 : 0 ≤ wa2_9.toInt ∧ wa2_9.toInt < 8 := (by omega)
    have hh13 : 4 ≤ wa2_9.toInt → cn2_9.toInt < 9000 := (by omega)
    have hh14 : ∀ k : Nat, (k : Int) < wa2_9.toInt → 0 ≤ (fg2_9 k).toInt ∧ (fg2_9 k).toInt ≤ 259 := (by first | exact h4 | exact hw9.2.2.1)
    refine call_v (wc := [(aS, .inr (4, [.ref aC, .ref aG, .int wa2_9])), (aC, .inr (3, [.long la2_9])), (aG, .inl (cI, 8, .inl fg2_9)), (aL, .inr (1, [.ref aW, .int fi, .int cn2_9])), (aW, .inl (cJ, 142, .inr (.inl fw2_9)))]) (wr := [(aX, .inr (5, [.ref aL, .ref aS, .ref aR]))]) (run_V (As := [.int y, .ref aL]) (rest := []) kv_RX6_41 ⟨by decide, by decide⟩ ⟨rfl, rfl⟩ ⟨hx, hb, hml, hown, hts⟩ (c_Se_acceptBytes l D cI cJ cB aS aC aG aL aW la2_9 fg2_9 wa2_9 fi cn2_9 fw2_9 y hh10 hh11 hh12 hh13 hh14 _) ct_blind (ct_pre (wc := [(aS, .inr (4, [.ref aC, .ref aG, .int wa2_9])), (aC, .inr (3, [.long la2_9])), (aG, .inl (cI, 8, .inl fg2_9)), (aL, .inr (1, [.ref aW, .int fi, .int cn2_9])), (aW, .inl (cJ, 142, .inr (.inl fw2_9)))]) hK hP hD hS hA hZ hN [1, 2, 3, 4, 5] (by decide) rfl rfl) (va_recv hK hP (ci := 4) (q0 := 1) rfl rfl) rfl hl.1 rfl (Nat.le_of_ble_eq_true rfl) dX6_word_37 ⟨Nat.le_of_ble_eq_true rfl, Nat.le_of_ble_eq_true rfl⟩) hP hD hS hA [1, 2, 3, 4, 5] [0] rfl rfl (by decide) (by decide) (fun u H locs hw15 hP1 hD1 hS1 => ?_)
    obtain ⟨la2_15, fg2_15, wa2_15, cn2_15, fw2_15⟩ := u
    have hw15 : (wa2_9.toInt < 4 → wa2_15.toInt = wa2_9.toInt + 4 ∧ cn2_15.toInt = cn2_9.toInt) ∧ (4 ≤ wa2_9.toInt → wa2_15.toInt = wa2_9.toInt - 4 ∧ cn2_15.toInt = cn2_9.toInt + 66) ∧ (∀ k : Nat, (k : Int) < wa2_15.toInt → 0 ≤ (fg2_15 k).toInt ∧ (fg2_15 k).toInt ≤ 259) ∧ accL (wl y 4) (wa2_9.toInt, cn2_9.toInt, fg2_9, bl la2_9, lnB fw2_9 fi.toInt) (wa2_15.toInt, cn2_15.toInt, fg2_15, bl la2_15, lnB fw2_15 fi.toInt) := hw15
    clear hP hD hS
    have hP : va_P D classes [(aX, .inr (5, [.ref aL, .ref aS, .ref aR])), (aS, .inr (4, [.ref aC, .ref aG, .int wa2_15])), (aC, .inr (3, [.long la2_15])), (aG, .inl (cI, 8, .inl fg2_15)), (aL, .inr (1, [.ref aW, .int fi, .int cn2_15])), (aW, .inl (cJ, 142, .inr (.inl fw2_15)))] H := hP1
    have hD : va_D A [(aX, .inr (5, [.ref aL, .ref aS, .ref aR])), (aS, .inr (4, [.ref aC, .ref aG, .int wa2_15])), (aC, .inr (3, [.long la2_15])), (aG, .inl (cI, 8, .inl fg2_15)), (aL, .inr (1, [.ref aW, .int fi, .int cn2_15])), (aW, .inl (cJ, 142, .inr (.inl fw2_15)))] := hD1
    have hS := hS1
    clear hP1 hD1 hS1
    have rg_wa2_15 := zi_rg wa2_15
    have rg_cn2_15 := zi_rg cn2_15
    refine lv_aload_n hx hb dX6_word_40 rfl (lv_at hl 0 rfl) ?_
    refine va_get (D := D) (ci := 5) (v := .ref aS) (C := RX6) (T := TX6) (N := 3) hx hb hts in_X6 hown hK hP 0 rfl rfl 1 (by decide) (hts _ wk20) (fun _ h9 => h9) rfl dX6_word_41 ?_
    refine call_i (wc := [(aS, .inr (4, [.ref aC, .ref aG, .int wa2_15]))]) (wr := [(aX, .inr (5, [.ref aL, .ref aS, .ref aR])), (aC, .inr (3, [.long la2_15])), (aG, .inl (cI, 8, .inl fg2_15)), (aL, .inr (1, [.ref aW, .int fi, .int cn2_15])), (aW, .inl (cJ, 142, .inr (.inl fw2_15)))]) (run_V (As := []) (rest := []) kv_RX6_30 ⟨by decide, by decide⟩ ⟨rfl, rfl⟩ ⟨hx, hb, hml, hown, hts⟩ (c_Se_waitingCount l D cI cJ cB aS aC aG wa2_15  _) ct_blind (ct_pre (wc := [(aS, .inr (4, [.ref aC, .ref aG, .int wa2_15]))]) hK hP hD hS hA hZ hN [1] (by decide) rfl rfl) (va_recv hK hP (ci := 4) (q0 := 1) rfl rfl) rfl hl.1 rfl (Nat.le_of_ble_eq_true rfl) dX6_word_44 ⟨Nat.le_of_ble_eq_true rfl, Nat.le_of_ble_eq_true rfl⟩) hP hD hS hA [1] [0, 2, 3, 4, 5] rfl rfl (by decide) (by decide) (fun r16 u H locs hw16 hP1 hD1 hS1 => ?_)
    have hw16 : r16.toInt = wa2_15.toInt := hw16
    clear hP hD hS
    have hP : va_P D classes [(aX, .inr (5, [.ref aL, .ref aS, .ref aR])), (aC, .inr (3, [.long la2_15])), (aG, .inl (cI, 8, .inl fg2_15)), (aL, .inr (1, [.ref aW, .int fi, .int cn2_15])), (aW, .inl (cJ, 142, .inr (.inl fw2_15))), (aS, .inr (4, [.ref aC, .ref aG, .int wa2_15]))] H := hP1
    have hD : va_D A [(aX, .inr (5, [.ref aL, .ref aS, .ref aR])), (aC, .inr (3, [.long la2_15])), (aG, .inl (cI, 8, .inl fg2_15)), (aL, .inr (1, [.ref aW, .int fi, .int cn2_15])), (aW, .inl (cJ, 142, .inr (.inl fw2_15))), (aS, .inr (4, [.ref aC, .ref aG, .int wa2_15]))] := hD1
    have hS := hS1
    clear hP1 hD1 hS1
    have rg_r16 := zi_rg r16
    have hq17 : ((9000 ≤ cn.toInt → r16.toInt = -14 ∧ wa2_15.toInt = wa.toInt ∧ cn2_15.toInt = cn.toInt) ∧ (cn.toInt < 9000 → r16.toInt = wa.toInt ∧ wa2_15.toInt = wa.toInt ∧ cn2_15.toInt = cn.toInt + 66)) ∧ (∀ k : Nat, (k : Int) < wa2_15.toInt → 0 ≤ (fg2_15 k).toInt ∧ (fg2_15 k).toInt ≤ 259) ∧ (9000 ≤ cn.toInt → fg2_15 = fg ∧ la2_15 = la ∧ fw2_15 = fw) ∧ (cn.toInt < 9000 → accL (wl x 4 ++ wl y 4) (wa.toInt, cn.toInt, fg, bl la, lnB fw fi.toInt) (wa2_15.toInt, cn2_15.toInt, fg2_15, bl la2_15, lnB fw2_15 fi.toInt)) := (by refine ⟨by omega, ?_, fun q => ?_, fun q => ?_⟩ <;> first | exact ⟨rfl, rfl, rfl⟩ | exact h4 | exact hw15.2.2.1 | (exfalso; omega) | exact accL_app hw9.2.2.2 hw15.2.2.2)
    exact hret r16 (cn2_15, wa2_15, fw2_15, la2_15, fg2_15) _ _ _ _ dX6_word_47 hq17 (hP.sub [0, 3, 4, 5, 1, 2] rfl) (hD.sub [0, 3, 4, 5, 1, 2] (by decide) rfl) hS
  ·
    have z3 := zi_nlt c3
    refine lv_bipush (v := -14) hx hb dX6_word_13 (by decide) ?_
    refine lv_topi (fun v18 e18 => ?_)
    have z18 : v18.toInt = (-14) := zi_c e18 (by decide)
    have hq19 : ((9000 ≤ cn.toInt → v18.toInt = -14 ∧ wa.toInt = wa.toInt ∧ cn.toInt = cn.toInt) ∧ (cn.toInt < 9000 → v18.toInt = wa.toInt ∧ wa.toInt = wa.toInt ∧ cn.toInt = cn.toInt + 66)) ∧ (∀ k : Nat, (k : Int) < wa.toInt → 0 ≤ (fg k).toInt ∧ (fg k).toInt ≤ 259) ∧ (9000 ≤ cn.toInt → fg = fg ∧ la = la ∧ fw = fw) ∧ (cn.toInt < 9000 → accL (wl x 4 ++ wl y 4) (wa.toInt, cn.toInt, fg, bl la, lnB fw fi.toInt) (wa.toInt, cn.toInt, fg, bl la, lnB fw fi.toInt)) := (by refine ⟨by omega, ?_, fun q => ?_, fun q => ?_⟩ <;> first | exact ⟨rfl, rfl, rfl⟩ | exact h4 | exact hw15.2.2.1 | (exfalso; omega) | exact accL_app hw9.2.2.2 hw15.2.2.2)
    exact hret v18 (cn, wa, fw, la, fg) _ _ _ _ dX6_word_15 hq19 (hP.sub [0, 5, 1, 2, 3, 4] rfl) (hD.sub [0, 5, 1, 2, 3, 4] (by decide) rfl) hS

set_option maxHeartbeats 4000000 in
set_option maxRecDepth 100000 in
theorem c_LB_idle (l : Launch) (D : va_G) (cI cJ cB : ClassId) (aX : Nat) (aL : Nat) (aW : Nat) (aS : Nat) (aC : Nat) (aG : Nat) (aR : Nat) (fi : Int32) (cn : Int32) (wa : Int32) (fw : Nat → Int64) (la : Int64) (fg : Nat → Int32) (nn : Int32) (h1 : 0 ≤ fi.toInt ∧ fi.toInt < 9088) (h2 : 0 ≤ cn.toInt ∧ cn.toInt ≤ 9066) (h3 : 0 ≤ wa.toInt ∧ wa.toInt < 8) :
    cti l yX6_idle (wsOf yX6_idle cX6_idle 2 (some .int)) (rmL 5 113 0 0) D classes (tys3 cI cJ cB) [.ref aX, .int nn] [(aX, .inr (5, [.ref aL, .ref aS, .ref aR])), (aL, .inr (1, [.ref aW, .int fi, .int cn])), (aW, .inl (cJ, 142, .inr (.inl fw))), (aS, .inr (4, [.ref aC, .ref aG, .int wa])), (aC, .inr (3, [.long la])), (aG, .inl (cI, 8, .inl fg))] (fun (r : Int32) (u : Int32 × Int32 × (Nat → Int64) × Int64 × (Nat → Int32)) => ((u.2.1.toInt = wa.toInt) ∧ ((nn.toInt < 1 ∨ 100 < nn.toInt ∨ 0 < wa.toInt) → r.toInt = -12 ∧ u.1.toInt = cn.toInt) ∧ ((1 ≤ nn.toInt ∧ nn.toInt ≤ 100 ∧ wa.toInt = 0) → (9000 ≤ cn.toInt + 66 * (nn.toInt - 1) → r.toInt = -14 ∧ u.1.toInt = cn.toInt) ∧ (cn.toInt + 66 * (nn.toInt - 1) < 9000 → r.toInt = cn.toInt + 66 * nn.toInt ∧ u.1.toInt = cn.toInt + 66 * nn.toInt))) ∧ ((nn.toInt < 1 ∨ 100 < nn.toInt ∨ 0 < wa.toInt ∨ 9000 ≤ cn.toInt + 66 * (nn.toInt - 1)) → u.2.2.2.2 = fg ∧ u.2.2.2.1 = la ∧ u.2.2.1 = fw) ∧ (¬ (nn.toInt < 1 ∨ 100 < nn.toInt ∨ 0 < wa.toInt ∨ 9000 ≤ cn.toInt + 66 * (nn.toInt - 1)) → idlR nn.toInt.toNat cn.toInt u.1.toInt (bl la) (bl u.2.2.2.1) (lnB fw fi.toInt) (lnB u.2.2.1 fi.toInt))) (fun u : Int32 × Int32 × (Nat → Int64) × Int64 × (Nat → Int32) => ([(aX, .inr (5, [.ref aL, .ref aS, .ref aR])), (aL, .inr (1, [.ref aW, .int fi, .int u.1])), (aW, .inl (cJ, 142, .inr (.inl u.2.2.1))), (aS, .inr (4, [.ref aC, .ref aG, .int u.2.1])), (aC, .inr (3, [.long u.2.2.2.1])), (aG, .inl (cI, 8, .inl u.2.2.2.2))] : va_W)) := by
  refine cti.of (by first | exact plainFor_of_name (by decide) | decide +kernel) (Nat.le_of_ble_eq_true rfl) (fun p e s m args below meth c A ls Q h hret => ?_)
  obtain ⟨hx, hb, hml, hown, hts, hnm, hP, hK, hD, hA, hS, hZ, hN, hl⟩ := h
  have hown : s.vm.findClass RX6 = some m.cls := hown
  have hl : lv_has ls 2 [(0, .ref aX), (1, .int nn)] := hl
  have hP : va_P D classes [(aX, .inr (5, [.ref aL, .ref aS, .ref aR])), (aL, .inr (1, [.ref aW, .int fi, .int cn])), (aW, .inl (cJ, 142, .inr (.inl fw))), (aS, .inr (4, [.ref aC, .ref aG, .int wa])), (aC, .inr (3, [.long la])), (aG, .inl (cI, 8, .inl fg))] s.heap := hP
  have hD : va_D A [(aX, .inr (5, [.ref aL, .ref aS, .ref aR])), (aL, .inr (1, [.ref aW, .int fi, .int cn])), (aW, .inl (cJ, 142, .inr (.inl fw))), (aS, .inr (4, [.ref aC, .ref aG, .int wa])), (aC, .inr (3, [.long la])), (aG, .inl (cI, 8, .inl fg))] := hD
  have rg_fi := zi_rg fi
  have rg_cn := zi_rg cn
  have rg_wa := zi_rg wa
  have rg_nn := zi_rg nn
  refine lv_iload_n hx hb dX6_idle_0 rfl (lv_at hl 1 rfl) ?_
  refine lv_iconst (v := 1) hx hb dX6_idle_1 (by decide) ?_
  refine lv_topi (fun v1 e1 => ?_)
  have z1 : v1.toInt = 1 := zi_c e1 (by decide)
  refine lv_icmp_lt (tgt := 21) hx hb dX6_idle_2 (by decide) (fun c2 => ?_) (fun c2 => ?_)
  ·
    have z2 := zi_lt c2
    refine lv_bipush (v := -12) hx hb dX6_idle_21 (by decide) ?_
    refine lv_topi (fun v3 e3 => ?_)
    have z3 : v3.toInt = (-12) := zi_c e3 (by decide)
    have hq4 : ((wa.toInt = wa.toInt) ∧ ((nn.toInt < 1 ∨ 100 < nn.toInt ∨ 0 < wa.toInt) → v3.toInt = -12 ∧ cn.toInt = cn.toInt) ∧ ((1 ≤ nn.toInt ∧ nn.toInt ≤ 100 ∧ wa.toInt = 0) → (9000 ≤ cn.toInt + 66 * (nn.toInt - 1) → v3.toInt = -14 ∧ cn.toInt = cn.toInt) ∧ (cn.toInt + 66 * (nn.toInt - 1) < 9000 → v3.toInt = cn.toInt + 66 * nn.toInt ∧ cn.toInt = cn.toInt + 66 * nn.toInt))) ∧ ((nn.toInt < 1 ∨ 100 < nn.toInt ∨ 0 < wa.toInt ∨ 9000 ≤ cn.toInt + 66 * (nn.toInt - 1)) → fg = fg ∧ la = la ∧ fw = fw) ∧ (¬ (nn.toInt < 1 ∨ 100 < nn.toInt ∨ 0 < wa.toInt ∨ 9000 ≤ cn.toInt + 66 * (nn.toInt - 1)) → idlR nn.toInt.toNat cn.toInt cn.toInt (bl la) (bl la) (lnB fw fi.toInt) (lnB fw fi.toInt)) := (by refine ⟨by omega, fun q => ?_, fun q => ?_⟩ <;> first | exact ⟨rfl, rfl, rfl⟩ | (exfalso; omega) | exact hw22.2)
    exact hret v3 (cn, wa, fw, la, fg) _ _ _ _ dX6_idle_23 hq4 (hP.sub [0, 1, 2, 3, 4, 5] rfl) (hD.sub [0, 1, 2, 3, 4, 5] (by decide) rfl) hS
  ·
    have z2 := zi_nlt c2
    refine lv_iload_n hx hb dX6_idle_5 rfl (lv_at hl 1 rfl) ?_
    refine lv_bipush (v := 100) hx hb dX6_idle_6 (by decide) ?_
    refine lv_topi (fun v5 e5 => ?_)
    have z5 : v5.toInt = 100 := zi_c e5 (by decide)
    refine lv_icmp_gt (tgt := 21) hx hb dX6_idle_8 (by decide) (fun c6 => ?_) (fun c6 => ?_)
    ·
      have z6 := zi_lt c6
      refine lv_bipush (v := -12) hx hb dX6_idle_21 (by decide) ?_
      refine lv_topi (fun v7 e7 => ?_)
      have z7 : v7.toInt = (-12) := zi_c e7 (by decide)
      have hq8 : ((wa.toInt = wa.toInt) ∧ ((nn.toInt < 1 ∨ 100 < nn.toInt ∨ 0 < wa.toInt) → v7.toInt = -12 ∧ cn.toInt = cn.toInt) ∧ ((1 ≤ nn.toInt ∧ nn.toInt ≤ 100 ∧ wa.toInt = 0) → (9000 ≤ cn.toInt + 66 * (nn.toInt - 1) → v7.toInt = -14 ∧ cn.toInt = cn.toInt) ∧ (cn.toInt + 66 * (nn.toInt - 1) < 9000 → v7.toInt = cn.toInt + 66 * nn.toInt ∧ cn.toInt = cn.toInt + 66 * nn.toInt))) ∧ ((nn.toInt < 1 ∨ 100 < nn.toInt ∨ 0 < wa.toInt ∨ 9000 ≤ cn.toInt + 66 * (nn.toInt - 1)) → fg = fg ∧ la = la ∧ fw = fw) ∧ (¬ (nn.toInt < 1 ∨ 100 < nn.toInt ∨ 0 < wa.toInt ∨ 9000 ≤ cn.toInt + 66 * (nn.toInt - 1)) → idlR nn.toInt.toNat cn.toInt cn.toInt (bl la) (bl la) (lnB fw fi.toInt) (lnB fw fi.toInt)) := (by refine ⟨by omega, fun q => ?_, fun q => ?_⟩ <;> first | exact ⟨rfl, rfl, rfl⟩ | (exfalso; omega) | exact hw22.2)
      exact hret v7 (cn, wa, fw, la, fg) _ _ _ _ dX6_idle_23 hq8 (hP.sub [0, 1, 2, 3, 4, 5] rfl) (hD.sub [0, 1, 2, 3, 4, 5] (by decide) rfl) hS
    ·
      have z6 := zi_nlt c6
      refine lv_aload_n hx hb dX6_idle_11 rfl (lv_at hl 0 rfl) ?_
      refine va_get (D := D) (ci := 5) (v := .ref aS) (C := RX6) (T := TX6) (N := 3) hx hb hts in_X6 hown hK hP 0 rfl rfl 1 (by decide) (hts _ wk20) (fun _ h9 => h9) rfl dX6_idle_12 ?_
      refine call_i (wc := [(aS, .inr (4, [.ref aC, .ref aG, .int wa]))]) (wr := [(aX, .inr (5, [.ref aL, .ref aS, .ref aR])), (aL, .inr (1, [.ref aW, .int fi, .int cn])), (aW, .inl (cJ, 142, .inr (.inl fw))), (aC, .inr (3, [.long la])), (aG, .inl (cI, 8, .inl fg))]) (run_V (As := []) (rest := []) kv_RX6_30 ⟨by decide, by decide⟩ ⟨rfl, rfl⟩ ⟨hx, hb, hml, hown, hts⟩ (c_Se_waitingCount l D cI cJ cB aS aC aG wa  _) ct_blind (ct_pre (wc := [(aS, .inr (4, [.ref aC, .ref aG, .int wa]))]) hK hP hD hS hA hZ hN [3] (by decide) rfl rfl) (va_recv hK hP (ci := 4) (q0 := 3) rfl rfl) rfl hl.1 rfl (Nat.le_of_ble_eq_true rfl) dX6_idle_15 ⟨Nat.le_of_ble_eq_true rfl, Nat.le_of_ble_eq_true rfl⟩) hP hD hS hA [3] [0, 1, 2, 4, 5] rfl rfl (by decide) (by decide) (fun r9 u H locs hw9 hP1 hD1 hS1 => ?_)
      have hw9 : r9.toInt = wa.toInt := hw9
      clear hP hD hS
      have hP : va_P D classes [(aX, .inr (5, [.ref aL, .ref aS, .ref aR])), (aL, .inr (1, [.ref aW, .int fi, .int cn])), (aW, .inl (cJ, 142, .inr (.inl fw))), (aC, .inr (3, [.long la])), (aG, .inl (cI, 8, .inl fg)), (aS, .inr (4, [.ref aC, .ref aG, .int wa]))] H := hP1
      have hD : va_D A [(aX, .inr (5, [.ref aL, .ref aS, .ref aR])), (aL, .inr (1, [.ref aW, .int fi, .int cn])), (aW, .inl (cJ, 142, .inr (.inl fw))), (aC, .inr (3, [.long la])), (aG, .inl (cI, 8, .inl fg)), (aS, .inr (4, [.ref aC, .ref aG, .int wa]))] := hD1
      have hS := hS1
      clear hP1 hD1 hS1
      have rg_r9 := zi_rg r9
      refine lv_if_eq (tgt := 24) hx hb dX6_idle_18 (by decide) (fun c10 => ?_) (fun c10 => ?_)
      ·
        have z10 := zi_eq0 c10
        refine lv_aload_n hx hb dX6_idle_24 rfl (lv_at hl 0 rfl) ?_
        refine va_get (D := D) (ci := 5) (v := .ref aL) (C := RX6) (T := TX6) (N := 3) hx hb hts in_X6 hown hK hP 0 rfl rfl 0 (by decide) (hts _ wk16) (fun _ h9 => h9) rfl dX6_idle_25 ?_
        refine call_i (wc := [(aL, .inr (1, [.ref aW, .int fi, .int cn]))]) (wr := [(aX, .inr (5, [.ref aL, .ref aS, .ref aR])), (aW, .inl (cJ, 142, .inr (.inl fw))), (aC, .inr (3, [.long la])), (aG, .inl (cI, 8, .inl fg)), (aS, .inr (4, [.ref aC, .ref aG, .int wa]))]) (run_V (As := []) (rest := []) kv_RX6_34 ⟨by decide, by decide⟩ ⟨rfl, rfl⟩ ⟨hx, hb, hml, hown, hts⟩ (c_Ln_size l D cI cJ cB aL aW fi cn  _) ct_blind (ct_pre (wc := [(aL, .inr (1, [.ref aW, .int fi, .int cn]))]) hK hP hD hS hA hZ hN [1] (by decide) rfl rfl) (va_recv hK hP (ci := 1) (q0 := 1) rfl rfl) rfl hl.1 rfl (Nat.le_of_ble_eq_true rfl) dX6_idle_28 ⟨Nat.le_of_ble_eq_true rfl, Nat.le_of_ble_eq_true rfl⟩) hP hD hS hA [1] [0, 2, 3, 4, 5] rfl rfl (by decide) (by decide) (fun r11 u H locs hw11 hP1 hD1 hS1 => ?_)
        have hw11 : r11.toInt = cn.toInt := hw11
        clear hP hD hS
        have hP : va_P D classes [(aX, .inr (5, [.ref aL, .ref aS, .ref aR])), (aW, .inl (cJ, 142, .inr (.inl fw))), (aC, .inr (3, [.long la])), (aG, .inl (cI, 8, .inl fg)), (aS, .inr (4, [.ref aC, .ref aG, .int wa])), (aL, .inr (1, [.ref aW, .int fi, .int cn]))] H := hP1
        have hD : va_D A [(aX, .inr (5, [.ref aL, .ref aS, .ref aR])), (aW, .inl (cJ, 142, .inr (.inl fw))), (aC, .inr (3, [.long la])), (aG, .inl (cI, 8, .inl fg)), (aS, .inr (4, [.ref aC, .ref aG, .int wa])), (aL, .inr (1, [.ref aW, .int fi, .int cn]))] := hD1
        have hS := hS1
        clear hP1 hD1 hS1
        have rg_r11 := zi_rg r11
        refine lv_iload_n hx hb dX6_idle_31 rfl (lv_at hl 1 rfl) ?_
        refine lv_iconst (v := 1) hx hb dX6_idle_32 (by decide) ?_
        refine lv_topi (fun v12 e12 => ?_)
        have z12 : v12.toInt = 1 := zi_c e12 (by decide)
        refine lv_isub hx hb dX6_idle_33 ?_
        refine lv_topi (fun v13 e13 => ?_)
        first | have z13 := zi_sub e13 (by omega) | skip
        refine lv_bipush (v := 66) hx hb dX6_idle_34 (by decide) ?_
        refine lv_topi (fun v14 e14 => ?_)
        have z14 : v14.toInt = 66 := zi_c e14 (by decide)
        refine lv_imul hx hb dX6_idle_36 ?_
        refine lv_topi (fun v15 e15 => ?_)
        first | have z15 := zi_mul (k := 66) e15 (by omega) (by omega) | skip
        refine lv_iadd hx hb dX6_idle_37 ?_
        refine lv_topi (fun v16 e16 => ?_)
        first | have z16 := zi_add e16 (by omega) | skip
        refine lv_sipush (v := 9000) hx hb dX6_idle_38 (by decide) ?_
        refine lv_topi (fun v17 e17 => ?_)
        have z17 : v17.toInt = 9000 := zi_c e17 (by decide)
        refine lv_icmp_lt (tgt := 47) hx hb dX6_idle_41 (by decide) (fun c18 => ?_) (fun c18 => ?_)
        ·
          have z18 := zi_lt c18
          refine lv_aload_n hx hb dX6_idle_47 rfl (lv_at hl 0 rfl) ?_
          refine va_get (D := D) (ci := 5) (v := .ref aS) (C := RX6) (T := TX6) (N := 3) hx hb hts in_X6 hown hK hP 0 rfl rfl 1 (by decide) (hts _ wk20) (fun _ h9 => h9) rfl dX6_idle_48 ?_
          refine lv_iload_n hx hb dX6_idle_51 rfl (lv_at hl 1 rfl) ?_
          refine lv_aload_n hx hb dX6_idle_52 rfl (lv_at hl 0 rfl) ?_
          refine va_get (D := D) (ci := 5) (v := .ref aL) (C := RX6) (T := TX6) (N := 3) hx hb hts in_X6 hown hK hP 0 rfl rfl 0 (by decide) (hts _ wk16) (fun _ h9 => h9) rfl dX6_idle_53 ?_
          have hh19 : 0 ≤ fi.toInt ∧ fi.toInt < 9088 := (by omega)
          have hh20 : 1 ≤ nn.toInt ∧ nn.toInt ≤ 100 := (by omega)
          have hh21 : 0 ≤ cn.toInt ∧ cn.toInt + 66 * nn.toInt ≤ 9087 := (by omega)
          refine call_v (wc := [(aS, .inr (4, [.ref aC, .ref aG, .int wa])), (aC, .inr (3, [.long la])), (aL, .inr (1, [.ref aW, .int fi, .int cn])), (aW, .inl (cJ, 142, .inr (.inl fw)))]) (wr := [(aX, .inr (5, [.ref aL, .ref aS, .ref aR])), (aG, .inl (cI, 8, .inl fg))]) (run_V (As := [.int nn, .ref aL]) (rest := []) kv_RX6_44 ⟨by decide, by decide⟩ ⟨rfl, rfl⟩ ⟨hx, hb, hml, hown, hts⟩ (c_Se_sendIdleGroups l D cI cJ cB aS aC aG aL aW la wa fi cn nn fw hh19 hh20 hh21 _) ct_blind (ct_pre (wc := [(aS, .inr (4, [.ref aC, .ref aG, .int wa])), (aC, .inr (3, [.long la])), (aL, .inr (1, [.ref aW, .int fi, .int cn])), (aW, .inl (cJ, 142, .inr (.inl fw)))]) hK hP hD hS hA hZ hN [4, 2, 5, 1] (by decide) rfl rfl) (va_recv hK hP (ci := 4) (q0 := 4) rfl rfl) rfl hl.1 rfl (Nat.le_of_ble_eq_true rfl) dX6_idle_56 ⟨Nat.le_of_ble_eq_true rfl, Nat.le_of_ble_eq_true rfl⟩) hP hD hS hA [4, 2, 5, 1] [0, 3] rfl rfl (by decide) (by decide) (fun u H locs hw22 hP1 hD1 hS1 => ?_)
          obtain ⟨la2_22, cn2_22, fw2_22⟩ := u
          have hw22 : cn2_22.toInt = cn.toInt + 66 * nn.toInt ∧ idlR nn.toInt.toNat cn.toInt cn2_22.toInt (bl la) (bl la2_22) (lnB fw fi.toInt) (lnB fw2_22 fi.toInt) := hw22
          clear hP hD hS
          have hP : va_P D classes [(aX, .inr (5, [.ref aL, .ref aS, .ref aR])), (aG, .inl (cI, 8, .inl fg)), (aS, .inr (4, [.ref aC, .ref aG, .int wa])), (aC, .inr (3, [.long la2_22])), (aL, .inr (1, [.ref aW, .int fi, .int cn2_22])), (aW, .inl (cJ, 142, .inr (.inl fw2_22)))] H := hP1
          have hD : va_D A [(aX, .inr (5, [.ref aL, .ref aS, .ref aR])), (aG, .inl (cI, 8, .inl fg)), (aS, .inr (4, [.ref aC, .ref aG, .int wa])), (aC, .inr (3, [.long la2_22])), (aL, .inr (1, [.ref aW, .int fi, .int cn2_22])), (aW, .inl (cJ, 142, .inr (.inl fw2_22)))] := hD1
          have hS := hS1
          clear hP1 hD1 hS1
          have rg_cn2_22 := zi_rg cn2_22
          refine lv_aload_n hx hb dX6_idle_59 rfl (lv_at hl 0 rfl) ?_
          refine va_get (D := D) (ci := 5) (v := .ref aL) (C := RX6) (T := TX6) (N := 3) hx hb hts in_X6 hown hK hP 0 rfl rfl 0 (by decide) (hts _ wk16) (fun _ h9 => h9) rfl dX6_idle_60 ?_
          refine call_i (wc := [(aL, .inr (1, [.ref aW, .int fi, .int cn2_22]))]) (wr := [(aX, .inr (5, [.ref aL, .ref aS, .ref aR])), (aG, .inl (cI, 8, .inl fg)), (aS, .inr (4, [.ref aC, .ref aG, .int wa])), (aC, .inr (3, [.long la2_22])), (aW, .inl (cJ, 142, .inr (.inl fw2_22)))]) (run_V (As := []) (rest := []) kv_RX6_34 ⟨by decide, by decide⟩ ⟨rfl, rfl⟩ ⟨hx, hb, hml, hown, hts⟩ (c_Ln_size l D cI cJ cB aL aW fi cn2_22  _) ct_blind (ct_pre (wc := [(aL, .inr (1, [.ref aW, .int fi, .int cn2_22]))]) hK hP hD hS hA hZ hN [4] (by decide) rfl rfl) (va_recv hK hP (ci := 1) (q0 := 4) rfl rfl) rfl hl.1 rfl (Nat.le_of_ble_eq_true rfl) dX6_idle_63 ⟨Nat.le_of_ble_eq_true rfl, Nat.le_of_ble_eq_true rfl⟩) hP hD hS hA [4] [0, 1, 2, 3, 5] rfl rfl (by decide) (by decide) (fun r23 u H locs hw23 hP1 hD1 hS1 => ?_)
          have hw23 : r23.toInt = cn2_22.toInt := hw23
          clear hP hD hS
          have hP : va_P D classes [(aX, .inr (5, [.ref aL, .ref aS, .ref aR])), (aG, .inl (cI, 8, .inl fg)), (aS, .inr (4, [.ref aC, .ref aG, .int wa])), (aC, .inr (3, [.long la2_22])), (aW, .inl (cJ, 142, .inr (.inl fw2_22))), (aL, .inr (1, [.ref aW, .int fi, .int cn2_22]))] H := hP1
          have hD : va_D A [(aX, .inr (5, [.ref aL, .ref aS, .ref aR])), (aG, .inl (cI, 8, .inl fg)), (aS, .inr (4, [.ref aC, .ref aG, .int wa])), (aC, .inr (3, [.long la2_22])), (aW, .inl (cJ, 142, .inr (.inl fw2_22))), (aL, .inr (1, [.ref aW, .int fi, .int cn2_22]))] := hD1
          have hS := hS1
          clear hP1 hD1 hS1
          have rg_r23 := zi_rg r23
          have hq24 : ((wa.toInt = wa.toInt) ∧ ((nn.toInt < 1 ∨ 100 < nn.toInt ∨ 0 < wa.toInt) → r23.toInt = -12 ∧ cn2_22.toInt = cn.toInt) ∧ ((1 ≤ nn.toInt ∧ nn.toInt ≤ 100 ∧ wa.toInt = 0) → (9000 ≤ cn.toInt + 66 * (nn.toInt - 1) → r23.toInt = -14 ∧ cn2_22.toInt = cn.toInt) ∧ (cn.toInt + 66 * (nn.toInt - 1) < 9000 → r23.toInt = cn.toInt + 66 * nn.toInt ∧ cn2_22.toInt = cn.toInt + 66 * nn.toInt))) ∧ ((nn.toInt < 1 ∨ 100 < nn.toInt ∨ 0 < wa.toInt ∨ 9000 ≤ cn.toInt + 66 * (nn.toInt - 1)) → fg = fg ∧ la2_22 = la ∧ fw2_22 = fw) ∧ (¬ (nn.toInt < 1 ∨ 100 < nn.toInt ∨ 0 < wa.toInt ∨ 9000 ≤ cn.toInt + 66 * (nn.toInt - 1)) → idlR nn.toInt.toNat cn.toInt cn2_22.toInt (bl la) (bl la2_22) (lnB fw fi.toInt) (lnB fw2_22 fi.toInt)) := (by refine ⟨by omega, fun q => ?_, fun q => ?_⟩ <;> first | exact ⟨rfl, rfl, rfl⟩ | (exfalso; omega) | exact hw22.2)
          exact hret r23 (cn2_22, wa, fw2_22, la2_22, fg) _ _ _ _ dX6_idle_66 hq24 (hP.sub [0, 5, 4, 2, 3, 1] rfl) (hD.sub [0, 5, 4, 2, 3, 1] (by decide) rfl) hS
        ·
          have z18 := zi_nlt c18
          refine lv_bipush (v := -14) hx hb dX6_idle_44 (by decide) ?_
          refine lv_topi (fun v25 e25 => ?_)
          have z25 : v25.toInt = (-14) := zi_c e25 (by decide)
          have hq26 : ((wa.toInt = wa.toInt) ∧ ((nn.toInt < 1 ∨ 100 < nn.toInt ∨ 0 < wa.toInt) → v25.toInt = -12 ∧ cn.toInt = cn.toInt) ∧ ((1 ≤ nn.toInt ∧ nn.toInt ≤ 100 ∧ wa.toInt = 0) → (9000 ≤ cn.toInt + 66 * (nn.toInt - 1) → v25.toInt = -14 ∧ cn.toInt = cn.toInt) ∧ (cn.toInt + 66 * (nn.toInt - 1) < 9000 → v25.toInt = cn.toInt + 66 * nn.toInt ∧ cn.toInt = cn.toInt + 66 * nn.toInt))) ∧ ((nn.toInt < 1 ∨ 100 < nn.toInt ∨ 0 < wa.toInt ∨ 9000 ≤ cn.toInt + 66 * (nn.toInt - 1)) → fg = fg ∧ la = la ∧ fw = fw) ∧ (¬ (nn.toInt < 1 ∨ 100 < nn.toInt ∨ 0 < wa.toInt ∨ 9000 ≤ cn.toInt + 66 * (nn.toInt - 1)) → idlR nn.toInt.toNat cn.toInt cn.toInt (bl la) (bl la) (lnB fw fi.toInt) (lnB fw fi.toInt)) := (by refine ⟨by omega, fun q => ?_, fun q => ?_⟩ <;> first | exact ⟨rfl, rfl, rfl⟩ | (exfalso; omega) | exact hw22.2)
          exact hret v25 (cn, wa, fw, la, fg) _ _ _ _ dX6_idle_46 hq26 (hP.sub [0, 5, 1, 4, 2, 3] rfl) (hD.sub [0, 5, 1, 4, 2, 3] (by decide) rfl) hS
      ·
        have z10 := zi_ne0 c10
        refine lv_bipush (v := -12) hx hb dX6_idle_21 (by decide) ?_
        refine lv_topi (fun v27 e27 => ?_)
        have z27 : v27.toInt = (-12) := zi_c e27 (by decide)
        have hq28 : ((wa.toInt = wa.toInt) ∧ ((nn.toInt < 1 ∨ 100 < nn.toInt ∨ 0 < wa.toInt) → v27.toInt = -12 ∧ cn.toInt = cn.toInt) ∧ ((1 ≤ nn.toInt ∧ nn.toInt ≤ 100 ∧ wa.toInt = 0) → (9000 ≤ cn.toInt + 66 * (nn.toInt - 1) → v27.toInt = -14 ∧ cn.toInt = cn.toInt) ∧ (cn.toInt + 66 * (nn.toInt - 1) < 9000 → v27.toInt = cn.toInt + 66 * nn.toInt ∧ cn.toInt = cn.toInt + 66 * nn.toInt))) ∧ ((nn.toInt < 1 ∨ 100 < nn.toInt ∨ 0 < wa.toInt ∨ 9000 ≤ cn.toInt + 66 * (nn.toInt - 1)) → fg = fg ∧ la = la ∧ fw = fw) ∧ (¬ (nn.toInt < 1 ∨ 100 < nn.toInt ∨ 0 < wa.toInt ∨ 9000 ≤ cn.toInt + 66 * (nn.toInt - 1)) → idlR nn.toInt.toNat cn.toInt cn.toInt (bl la) (bl la) (lnB fw fi.toInt) (lnB fw fi.toInt)) := (by refine ⟨by omega, fun q => ?_, fun q => ?_⟩ <;> first | exact ⟨rfl, rfl, rfl⟩ | (exfalso; omega) | exact hw22.2)
        exact hret v27 (cn, wa, fw, la, fg) _ _ _ _ dX6_idle_23 hq28 (hP.sub [0, 1, 2, 5, 3, 4] rfl) (hD.sub [0, 1, 2, 5, 3, 4] (by decide) rfl) hS

set_option maxHeartbeats 4000000 in
set_option maxRecDepth 100000 in
theorem c_LB_state (l : Launch) (D : va_G) (cI cJ cB : ClassId) (aX : Nat) (aL : Nat) (aS : Nat) (aC : Nat) (aG : Nat) (aR : Nat) (aB : Nat) (aQ : Nat) (hd : Int32) (pl : Int64) (hv : Int32) (lk : Int32) (dn : Int32) (ht : Int32) (sl : Int32) (br : Int32) (wh : Int32) (sd : Int32) (wa : Int32) (x : Int64) (la : Int64) (lb : Int64)  :
    ctl l yX6_state (wsOf yX6_state cX6_state 4 (some .long)) (rmL 2 46 0 0) D classes (tys3 cI cJ cB) [.ref aX, .int sd, .long x] [(aX, .inr (5, [.ref aL, .ref aS, .ref aR])), (aS, .inr (4, [.ref aC, .ref aG, .int wa])), (aC, .inr (3, [.long la])), (aR, .inr (2, [.ref aB, .ref aQ, .int hd, .long pl, .int hv, .int lk, .int dn, .int ht, .int sl, .int br, .int wh])), (aB, .inr (3, [.long lb]))] (fun (r : Int64) (u : Int64 × Int64) => (sd.toInt = 0 → r = la) ∧ (sd.toInt = 1 → r = lb) ∧ ((¬ sd.toInt = 0 ∧ ¬ sd.toInt = 1) → r = -12) ∧ (sd.toInt = 0 → ∀ j, j < 58 → bl u.1 j = bl x j) ∧ (¬ sd.toInt = 0 → u.1 = la)) (fun u : Int64 × Int64 => ([(aX, .inr (5, [.ref aL, .ref aS, .ref aR])), (aS, .inr (4, [.ref aC, .ref aG, .int wa])), (aC, .inr (3, [.long u.1])), (aR, .inr (2, [.ref aB, .ref aQ, .int hd, .long pl, .int hv, .int lk, .int dn, .int ht, .int sl, .int br, .int wh])), (aB, .inr (3, [.long u.2]))] : va_W)) := by
  refine ctl.of (by first | exact plainFor_of_name (by decide) | decide +kernel) (Nat.le_of_ble_eq_true rfl) (fun p e s m args below meth c A ls Q h hret => ?_)
  obtain ⟨hx, hb, hml, hown, hts, hnm, hP, hK, hD, hA, hS, hZ, hN, hl⟩ := h
  have hown : s.vm.findClass RX6 = some m.cls := hown
  have hl : lv_has ls 4 [(0, .ref aX), (1, .int sd), (2, .long x)] := hl
  have hP : va_P D classes [(aX, .inr (5, [.ref aL, .ref aS, .ref aR])), (aS, .inr (4, [.ref aC, .ref aG, .int wa])), (aC, .inr (3, [.long la])), (aR, .inr (2, [.ref aB, .ref aQ, .int hd, .long pl, .int hv, .int lk, .int dn, .int ht, .int sl, .int br, .int wh])), (aB, .inr (3, [.long lb]))] s.heap := hP
  have hD : va_D A [(aX, .inr (5, [.ref aL, .ref aS, .ref aR])), (aS, .inr (4, [.ref aC, .ref aG, .int wa])), (aC, .inr (3, [.long la])), (aR, .inr (2, [.ref aB, .ref aQ, .int hd, .long pl, .int hv, .int lk, .int dn, .int ht, .int sl, .int br, .int wh])), (aB, .inr (3, [.long lb]))] := hD
  have rg_hd := zi_rg hd
  have rg_hv := zi_rg hv
  have rg_lk := zi_rg lk
  have rg_dn := zi_rg dn
  have rg_ht := zi_rg ht
  have rg_sl := zi_rg sl
  have rg_br := zi_rg br
  have rg_wh := zi_rg wh
  have rg_sd := zi_rg sd
  have rg_wa := zi_rg wa
  refine lv_iload_n hx hb dX6_state_0 rfl (lv_at hl 1 rfl) ?_
  refine lv_if_ne (tgt := 13) hx hb dX6_state_1 (by decide) (fun c1 => ?_) (fun c1 => ?_)
  ·
    have z1 := zi_ne0 c1
    refine lv_iload_n hx hb dX6_state_13 rfl (lv_at hl 1 rfl) ?_
    refine lv_iconst (v := 1) hx hb dX6_state_14 (by decide) ?_
    refine lv_topi (fun v2 e2 => ?_)
    have z2 : v2.toInt = 1 := zi_c e2 (by decide)
    refine lv_icmp_ne (tgt := 27) hx hb dX6_state_15 (by decide) (fun c3 => ?_) (fun c3 => ?_)
    ·
      have z3 := zi_ne c3
      refine lv_ldc2 (v := (-12)) hx hb hown (hts _ wk233) dX6_state_27 ?_
      refine lv_topl (fun v4 e4 => ?_)
      have hq5 : (sd.toInt = 0 → v4 = la) ∧ (sd.toInt = 1 → v4 = lb) ∧ ((¬ sd.toInt = 0 ∧ ¬ sd.toInt = 1) → v4 = -12) ∧ (sd.toInt = 0 → ∀ j, j < 58 → bl la j = bl x j) ∧ (¬ sd.toInt = 0 → la = la) := (by refine ⟨fun q => ?_, fun q => ?_, fun q => ?_, fun q => ?_, fun q => ?_⟩ <;> first | assumption | rfl | (exfalso; omega) | exact hw8.1 | exact hw8.2)
      exact hret v4 (la, lb) _ _ _ _ dX6_state_30 hq5 (hP.sub [0, 1, 2, 3, 4] rfl) (hD.sub [0, 1, 2, 3, 4] (by decide) rfl) hS
    ·
      have z3 := zi_eq c3
      refine lv_aload_n hx hb dX6_state_18 rfl (lv_at hl 0 rfl) ?_
      refine va_get (D := D) (ci := 5) (v := .ref aR) (C := RX6) (T := TX6) (N := 3) hx hb hts in_X6 hown hK hP 0 rfl rfl 2 (by decide) (hts _ wk24) (fun _ h9 => h9) rfl dX6_state_19 ?_
      refine lv_lload_n hx hb dX6_state_22 rfl (lv_at hl 2 rfl) ?_
      refine call_l (wc := [(aR, .inr (2, [.ref aB, .ref aQ, .int hd, .long pl, .int hv, .int lk, .int dn, .int ht, .int sl, .int br, .int wh])), (aB, .inr (3, [.long lb]))]) (wr := [(aX, .inr (5, [.ref aL, .ref aS, .ref aR])), (aS, .inr (4, [.ref aC, .ref aG, .int wa])), (aC, .inr (3, [.long la]))]) (run_V (As := [.long x]) (rest := []) kv_RX6_51 ⟨by decide, by decide⟩ ⟨rfl, rfl⟩ ⟨hx, hb, hml, hown, hts⟩ (c_Re_exchangeState l D cI cJ cB aR aB aQ hd pl hv lk dn ht sl br wh lb x  _) ct_blind (ct_pre (wc := [(aR, .inr (2, [.ref aB, .ref aQ, .int hd, .long pl, .int hv, .int lk, .int dn, .int ht, .int sl, .int br, .int wh])), (aB, .inr (3, [.long lb]))]) hK hP hD hS hA hZ hN [3, 4] (by decide) rfl rfl) (va_recv hK hP (ci := 2) (q0 := 3) rfl rfl) rfl hl.1 rfl (Nat.le_of_ble_eq_true rfl) dX6_state_23 ⟨Nat.le_of_ble_eq_true rfl, Nat.le_of_ble_eq_true rfl⟩) hP hD hS hA [3, 4] [0, 1, 2] rfl rfl (by decide) (by decide) (fun r6 u H locs hw6 hP1 hD1 hS1 => ?_)
      obtain ⟨la2_6, hu9⟩ : ∃ z, z = u := ⟨_, rfl⟩
      subst hu9
      have hw6 : r6 = lb := hw6
      clear hP hD hS
      have hP : va_P D classes [(aX, .inr (5, [.ref aL, .ref aS, .ref aR])), (aS, .inr (4, [.ref aC, .ref aG, .int wa])), (aC, .inr (3, [.long la])), (aR, .inr (2, [.ref aB, .ref aQ, .int hd, .long pl, .int hv, .int lk, .int dn, .int ht, .int sl, .int br, .int wh])), (aB, .inr (3, [.long la2_6]))] H := hP1
      have hD : va_D A [(aX, .inr (5, [.ref aL, .ref aS, .ref aR])), (aS, .inr (4, [.ref aC, .ref aG, .int wa])), (aC, .inr (3, [.long la])), (aR, .inr (2, [.ref aB, .ref aQ, .int hd, .long pl, .int hv, .int lk, .int dn, .int ht, .int sl, .int br, .int wh])), (aB, .inr (3, [.long la2_6]))] := hD1
      have hS := hS1
      clear hP1 hD1 hS1
      have hq7 : (sd.toInt = 0 → r6 = la) ∧ (sd.toInt = 1 → r6 = lb) ∧ ((¬ sd.toInt = 0 ∧ ¬ sd.toInt = 1) → r6 = -12) ∧ (sd.toInt = 0 → ∀ j, j < 58 → bl la j = bl x j) ∧ (¬ sd.toInt = 0 → la = la) := (by refine ⟨fun q => ?_, fun q => ?_, fun q => ?_, fun q => ?_, fun q => ?_⟩ <;> first | assumption | rfl | (exfalso; omega) | exact hw8.1 | exact hw8.2)
      exact hret r6 (la, la2_6) _ _ _ _ dX6_state_26 hq7 (hP.sub [0, 1, 2, 3, 4] rfl) (hD.sub [0, 1, 2, 3, 4] (by decide) rfl) hS
  ·
    have z1 := zi_eq0 c1
    refine lv_aload_n hx hb dX6_state_4 rfl (lv_at hl 0 rfl) ?_
    refine va_get (D := D) (ci := 5) (v := .ref aS) (C := RX6) (T := TX6) (N := 3) hx hb hts in_X6 hown hK hP 0 rfl rfl 1 (by decide) (hts _ wk20) (fun _ h9 => h9) rfl dX6_state_5 ?_
    refine lv_lload_n hx hb dX6_state_8 rfl (lv_at hl 2 rfl) ?_
    refine call_l (wc := [(aS, .inr (4, [.ref aC, .ref aG, .int wa])), (aC, .inr (3, [.long la]))]) (wr := [(aX, .inr (5, [.ref aL, .ref aS, .ref aR])), (aR, .inr (2, [.ref aB, .ref aQ, .int hd, .long pl, .int hv, .int lk, .int dn, .int ht, .int sl, .int br, .int wh])), (aB, .inr (3, [.long lb]))]) (run_V (As := [.long x]) (rest := []) kv_RX6_47 ⟨by decide, by decide⟩ ⟨rfl, rfl⟩ ⟨hx, hb, hml, hown, hts⟩ (c_Se_exchangeState l D cI cJ cB aS aC aG wa la x  _) ct_blind (ct_pre (wc := [(aS, .inr (4, [.ref aC, .ref aG, .int wa])), (aC, .inr (3, [.long la]))]) hK hP hD hS hA hZ hN [1, 2] (by decide) rfl rfl) (va_recv hK hP (ci := 4) (q0 := 1) rfl rfl) rfl hl.1 rfl (Nat.le_of_ble_eq_true rfl) dX6_state_9 ⟨Nat.le_of_ble_eq_true rfl, Nat.le_of_ble_eq_true rfl⟩) hP hD hS hA [1, 2] [0, 3, 4] rfl rfl (by decide) (by decide) (fun r8 u H locs hw8 hP1 hD1 hS1 => ?_)
    obtain ⟨la2_8, hu9⟩ : ∃ z, z = u := ⟨_, rfl⟩
    subst hu9
    have hw8 : r8 = la ∧ ∀ j, j < 58 → bl la2_8 j = bl x j := hw8
    clear hP hD hS
    have hP : va_P D classes [(aX, .inr (5, [.ref aL, .ref aS, .ref aR])), (aR, .inr (2, [.ref aB, .ref aQ, .int hd, .long pl, .int hv, .int lk, .int dn, .int ht, .int sl, .int br, .int wh])), (aB, .inr (3, [.long lb])), (aS, .inr (4, [.ref aC, .ref aG, .int wa])), (aC, .inr (3, [.long la2_8]))] H := hP1
    have hD : va_D A [(aX, .inr (5, [.ref aL, .ref aS, .ref aR])), (aR, .inr (2, [.ref aB, .ref aQ, .int hd, .long pl, .int hv, .int lk, .int dn, .int ht, .int sl, .int br, .int wh])), (aB, .inr (3, [.long lb])), (aS, .inr (4, [.ref aC, .ref aG, .int wa])), (aC, .inr (3, [.long la2_8]))] := hD1
    have hS := hS1
    clear hP1 hD1 hS1
    have hq9 : (sd.toInt = 0 → r8 = la) ∧ (sd.toInt = 1 → r8 = lb) ∧ ((¬ sd.toInt = 0 ∧ ¬ sd.toInt = 1) → r8 = -12) ∧ (sd.toInt = 0 → ∀ j, j < 58 → bl la2_8 j = bl x j) ∧ (¬ sd.toInt = 0 → la2_8 = la) := (by refine ⟨fun q => ?_, fun q => ?_, fun q => ?_, fun q => ?_, fun q => ?_⟩ <;> first | assumption | rfl | (exfalso; omega) | exact hw8.1 | exact hw8.2)
    exact hret r8 (la2_8, lb) _ _ _ _ dX6_state_12 hq9 (hP.sub [0, 3, 4, 1, 2] rfl) (hD.sub [0, 3, 4, 1, 2] (by decide) rfl) hS

set_option maxHeartbeats 4000000 in
set_option maxRecDepth 100000 in
theorem c_LB_bits (l : Launch) (D : va_G) (cI cJ cB : ClassId) (aX : Nat) (aL : Nat) (aW : Nat) (aS : Nat) (aR : Nat) (fi : Int32) (cn : Int32)  :
    cti l yX6_bits (wsOf yX6_bits cX6_bits 1 (some .int)) (rmL 1 20 0 0) D classes (tys3 cI cJ cB) [.ref aX] [(aX, .inr (5, [.ref aL, .ref aS, .ref aR])), (aL, .inr (1, [.ref aW, .int fi, .int cn]))] (fun (r : Int32) (u : Unit) => r.toInt = cn.toInt) (fun u : Unit => ([(aX, .inr (5, [.ref aL, .ref aS, .ref aR])), (aL, .inr (1, [.ref aW, .int fi, .int cn]))] : va_W)) := by
  refine cti.of (by first | exact plainFor_of_name (by decide) | decide +kernel) (Nat.le_of_ble_eq_true rfl) (fun p e s m args below meth c A ls Q h hret => ?_)
  obtain ⟨hx, hb, hml, hown, hts, hnm, hP, hK, hD, hA, hS, hZ, hN, hl⟩ := h
  have hown : s.vm.findClass RX6 = some m.cls := hown
  have hl : lv_has ls 1 [(0, .ref aX)] := hl
  have hP : va_P D classes [(aX, .inr (5, [.ref aL, .ref aS, .ref aR])), (aL, .inr (1, [.ref aW, .int fi, .int cn]))] s.heap := hP
  have hD : va_D A [(aX, .inr (5, [.ref aL, .ref aS, .ref aR])), (aL, .inr (1, [.ref aW, .int fi, .int cn]))] := hD
  have rg_fi := zi_rg fi
  have rg_cn := zi_rg cn
  refine lv_aload_n hx hb dX6_bits_0 rfl (lv_at hl 0 rfl) ?_
  refine va_get (D := D) (ci := 5) (v := .ref aL) (C := RX6) (T := TX6) (N := 3) hx hb hts in_X6 hown hK hP 0 rfl rfl 0 (by decide) (hts _ wk16) (fun _ h9 => h9) rfl dX6_bits_1 ?_
  refine call_i (wc := [(aL, .inr (1, [.ref aW, .int fi, .int cn]))]) (wr := [(aX, .inr (5, [.ref aL, .ref aS, .ref aR]))]) (run_V (As := []) (rest := []) kv_RX6_34 ⟨by decide, by decide⟩ ⟨rfl, rfl⟩ ⟨hx, hb, hml, hown, hts⟩ (c_Ln_size l D cI cJ cB aL aW fi cn  _) ct_blind (ct_pre (wc := [(aL, .inr (1, [.ref aW, .int fi, .int cn]))]) hK hP hD hS hA hZ hN [1] (by decide) rfl rfl) (va_recv hK hP (ci := 1) (q0 := 1) rfl rfl) rfl hl.1 rfl (Nat.le_of_ble_eq_true rfl) dX6_bits_4 ⟨Nat.le_of_ble_eq_true rfl, Nat.le_of_ble_eq_true rfl⟩) hP hD hS hA [1] [0] rfl rfl (by decide) (by decide) (fun r1 u H locs hw1 hP1 hD1 hS1 => ?_)
  have hw1 : r1.toInt = cn.toInt := hw1
  clear hP hD hS
  have hP : va_P D classes [(aX, .inr (5, [.ref aL, .ref aS, .ref aR])), (aL, .inr (1, [.ref aW, .int fi, .int cn]))] H := hP1
  have hD : va_D A [(aX, .inr (5, [.ref aL, .ref aS, .ref aR])), (aL, .inr (1, [.ref aW, .int fi, .int cn]))] := hD1
  have hS := hS1
  clear hP1 hD1 hS1
  have rg_r1 := zi_rg r1
  have hq2 : r1.toInt = cn.toInt := (by omega)
  exact hret r1 () _ _ _ _ dX6_bits_7 hq2 (hP.sub [0, 1] rfl) (hD.sub [0, 1] (by decide) rfl) hS

set_option maxHeartbeats 4000000 in
set_option maxRecDepth 100000 in
theorem c_LB_bit (l : Launch) (D : va_G) (cI cJ cB : ClassId) (aX : Nat) (aL : Nat) (aW : Nat) (aS : Nat) (aR : Nat) (fi : Int32) (cn : Int32) (i : Int32) (fw : Nat → Int64) (h1 : 0 ≤ fi.toInt ∧ fi.toInt < 9088) (h2 : 0 ≤ cn.toInt ∧ cn.toInt ≤ 9066) :
    cti l yX6_bit (wsOf yX6_bit cX6_bit 2 (some .int)) (rmL 3 65 0 0) D classes (tys3 cI cJ cB) [.ref aX, .int i] [(aX, .inr (5, [.ref aL, .ref aS, .ref aR])), (aL, .inr (1, [.ref aW, .int fi, .int cn])), (aW, .inl (cJ, 142, .inr (.inl fw)))] (fun (r : Int32) (u : Unit) => ((i.toInt < 0 ∨ cn.toInt ≤ i.toInt) → r.toInt = -1) ∧ ((0 ≤ i.toInt ∧ i.toInt < cn.toInt) → r = bi (lnB fw fi.toInt i.toInt))) (fun u : Unit => ([(aX, .inr (5, [.ref aL, .ref aS, .ref aR])), (aL, .inr (1, [.ref aW, .int fi, .int cn])), (aW, .inl (cJ, 142, .inr (.inl fw)))] : va_W)) := by
  refine cti.of (by first | exact plainFor_of_name (by decide) | decide +kernel) (Nat.le_of_ble_eq_true rfl) (fun p e s m args below meth c A ls Q h hret => ?_)
  obtain ⟨hx, hb, hml, hown, hts, hnm, hP, hK, hD, hA, hS, hZ, hN, hl⟩ := h
  have hown : s.vm.findClass RX6 = some m.cls := hown
  have hl : lv_has ls 2 [(0, .ref aX), (1, .int i)] := hl
  have hP : va_P D classes [(aX, .inr (5, [.ref aL, .ref aS, .ref aR])), (aL, .inr (1, [.ref aW, .int fi, .int cn])), (aW, .inl (cJ, 142, .inr (.inl fw)))] s.heap := hP
  have hD : va_D A [(aX, .inr (5, [.ref aL, .ref aS, .ref aR])), (aL, .inr (1, [.ref aW, .int fi, .int cn])), (aW, .inl (cJ, 142, .inr (.inl fw)))] := hD
  have rg_fi := zi_rg fi
  have rg_cn := zi_rg cn
  have rg_i := zi_rg i
  refine lv_aload_n hx hb dX6_bit_0 rfl (lv_at hl 0 rfl) ?_
  refine va_get (D := D) (ci := 5) (v := .ref aL) (C := RX6) (T := TX6) (N := 3) hx hb hts in_X6 hown hK hP 0 rfl rfl 0 (by decide) (hts _ wk16) (fun _ h9 => h9) rfl dX6_bit_1 ?_
  refine lv_iload_n hx hb dX6_bit_4 rfl (lv_at hl 1 rfl) ?_
  refine call_i (wc := [(aL, .inr (1, [.ref aW, .int fi, .int cn]))]) (wr := [(aX, .inr (5, [.ref aL, .ref aS, .ref aR])), (aW, .inl (cJ, 142, .inr (.inl fw)))]) (run_V (As := [.int i]) (rest := []) kv_RX6_54 ⟨by decide, by decide⟩ ⟨rfl, rfl⟩ ⟨hx, hb, hml, hown, hts⟩ (c_Ln_has l D cI cJ cB aL aW fi cn i  _) ct_blind (ct_pre (wc := [(aL, .inr (1, [.ref aW, .int fi, .int cn]))]) hK hP hD hS hA hZ hN [1] (by decide) rfl rfl) (va_recv hK hP (ci := 1) (q0 := 1) rfl rfl) rfl hl.1 rfl (Nat.le_of_ble_eq_true rfl) dX6_bit_5 ⟨Nat.le_of_ble_eq_true rfl, Nat.le_of_ble_eq_true rfl⟩) hP hD hS hA [1] [0, 2] rfl rfl (by decide) (by decide) (fun r1 u H locs hw1 hP1 hD1 hS1 => ?_)
  have hw1 : (r1.toInt = 1 ∧ 0 ≤ i.toInt ∧ i.toInt < cn.toInt) ∨ (r1.toInt = 0 ∧ (i.toInt < 0 ∨ cn.toInt ≤ i.toInt)) := hw1
  clear hP hD hS
  have hP : va_P D classes [(aX, .inr (5, [.ref aL, .ref aS, .ref aR])), (aW, .inl (cJ, 142, .inr (.inl fw))), (aL, .inr (1, [.ref aW, .int fi, .int cn]))] H := hP1
  have hD : va_D A [(aX, .inr (5, [.ref aL, .ref aS, .ref aR])), (aW, .inl (cJ, 142, .inr (.inl fw))), (aL, .inr (1, [.ref aW, .int fi, .int cn]))] := hD1
  have hS := hS1
  clear hP1 hD1 hS1
  have rg_r1 := zi_rg r1
  refine lv_if_eq (tgt := 22) hx hb dX6_bit_8 (by decide) (fun c2 => ?_) (fun c2 => ?_)
  ·
    have z2 := zi_eq0 c2
    refine lv_iconst (v := -1) hx hb dX6_bit_22 (by decide) ?_
    refine lv_topi (fun v3 e3 => ?_)
    have z3 : v3.toInt = (-1) := zi_c e3 (by decide)
    have hq4 : ((i.toInt < 0 ∨ cn.toInt ≤ i.toInt) → v3.toInt = -1) ∧ ((0 ≤ i.toInt ∧ i.toInt < cn.toInt) → v3 = bi (lnB fw fi.toInt i.toInt)) := (by refine ⟨fun q => ?_, fun q => ?_⟩ <;> first | omega | (exfalso; omega) | exact hw7.2)
    exact hret v3 () _ _ _ _ dX6_bit_23 hq4 (hP.sub [0, 2, 1] rfl) (hD.sub [0, 2, 1] (by decide) rfl) hS
  ·
    have z2 := zi_ne0 c2
    refine lv_aload_n hx hb dX6_bit_11 rfl (lv_at hl 0 rfl) ?_
    refine va_get (D := D) (ci := 5) (v := .ref aL) (C := RX6) (T := TX6) (N := 3) hx hb hts in_X6 hown hK hP 0 rfl rfl 0 (by decide) (hts _ wk16) (fun _ h9 => h9) rfl dX6_bit_12 ?_
    refine lv_iload_n hx hb dX6_bit_15 rfl (lv_at hl 1 rfl) ?_
    have hh5 : 0 ≤ fi.toInt ∧ fi.toInt < 9088 := (by omega)
    have hh6 : 0 ≤ i.toInt ∧ i.toInt ≤ 9087 := (by omega)
    refine call_i (wc := [(aL, .inr (1, [.ref aW, .int fi, .int cn])), (aW, .inl (cJ, 142, .inr (.inl fw)))]) (wr := [(aX, .inr (5, [.ref aL, .ref aS, .ref aR]))]) (run_V (As := [.int i]) (rest := []) kv_RX6_58 ⟨by decide, by decide⟩ ⟨rfl, rfl⟩ ⟨hx, hb, hml, hown, hts⟩ (c_Ln_at l D cI cJ cB aL aW fi cn i fw hh5 hh6 _) ct_blind (ct_pre (wc := [(aL, .inr (1, [.ref aW, .int fi, .int cn])), (aW, .inl (cJ, 142, .inr (.inl fw)))]) hK hP hD hS hA hZ hN [2, 1] (by decide) rfl rfl) (va_recv hK hP (ci := 1) (q0 := 2) rfl rfl) rfl hl.1 rfl (Nat.le_of_ble_eq_true rfl) dX6_bit_16 ⟨Nat.le_of_ble_eq_true rfl, Nat.le_of_ble_eq_true rfl⟩) hP hD hS hA [2, 1] [0] rfl rfl (by decide) (by decide) (fun r7 u H locs hw7 hP1 hD1 hS1 => ?_)
    have hw7 : (0 ≤ r7.toInt ∧ r7.toInt < 2) ∧ r7 = bi (lnB fw fi.toInt i.toInt) := hw7
    clear hP hD hS
    have hP : va_P D classes [(aX, .inr (5, [.ref aL, .ref aS, .ref aR])), (aL, .inr (1, [.ref aW, .int fi, .int cn])), (aW, .inl (cJ, 142, .inr (.inl fw)))] H := hP1
    have hD : va_D A [(aX, .inr (5, [.ref aL, .ref aS, .ref aR])), (aL, .inr (1, [.ref aW, .int fi, .int cn])), (aW, .inl (cJ, 142, .inr (.inl fw)))] := hD1
    have hS := hS1
    clear hP1 hD1 hS1
    have rg_r7 := zi_rg r7
    refine lv_goto (tgt := 23) hx hb dX6_bit_19 (by decide) ?_
    have hq8 : ((i.toInt < 0 ∨ cn.toInt ≤ i.toInt) → r7.toInt = -1) ∧ ((0 ≤ i.toInt ∧ i.toInt < cn.toInt) → r7 = bi (lnB fw fi.toInt i.toInt)) := (by refine ⟨fun q => ?_, fun q => ?_⟩ <;> first | omega | (exfalso; omega) | exact hw7.2)
    exact hret r7 () _ _ _ _ dX6_bit_23 hq8 (hP.sub [0, 1, 2] rfl) (hD.sub [0, 1, 2] (by decide) rfl) hS

set_option maxHeartbeats 4000000 in
set_option maxRecDepth 100000 in
theorem c_LB_turn (l : Launch) (D : va_G) (cI cJ cB : ClassId) (aX : Nat) (aL : Nat) (aW : Nat) (aS : Nat) (aR : Nat) (fi : Int32) (cn : Int32) (i : Int32) (fw : Nat → Int64) (h1 : 0 ≤ fi.toInt ∧ fi.toInt < 9088) (h2 : 0 ≤ cn.toInt ∧ cn.toInt ≤ 9066) :
    cti l yX6_turn (wsOf yX6_turn cX6_turn 2 (some .int)) (rmL 3 65 0 0) D classes (tys3 cI cJ cB) [.ref aX, .int i] [(aX, .inr (5, [.ref aL, .ref aS, .ref aR])), (aL, .inr (1, [.ref aW, .int fi, .int cn])), (aW, .inl (cJ, 142, .inr (.inl fw)))] (fun (r : Int32) (u : (Nat → Int64)) => ((i.toInt < 0 ∨ cn.toInt ≤ i.toInt) → r.toInt = -12 ∧ u = fw) ∧ ((0 ≤ i.toInt ∧ i.toInt < cn.toInt) → r = bi (!lnB fw fi.toInt i.toInt) ∧ ∀ j : Int, 0 ≤ j → j < cn.toInt → lnB u fi.toInt j = if j = i.toInt then !lnB fw fi.toInt j else lnB fw fi.toInt j)) (fun u : (Nat → Int64) => ([(aX, .inr (5, [.ref aL, .ref aS, .ref aR])), (aL, .inr (1, [.ref aW, .int fi, .int cn])), (aW, .inl (cJ, 142, .inr (.inl u)))] : va_W)) := by
  refine cti.of (by first | exact plainFor_of_name (by decide) | decide +kernel) (Nat.le_of_ble_eq_true rfl) (fun p e s m args below meth c A ls Q h hret => ?_)
  obtain ⟨hx, hb, hml, hown, hts, hnm, hP, hK, hD, hA, hS, hZ, hN, hl⟩ := h
  have hown : s.vm.findClass RX6 = some m.cls := hown
  have hl : lv_has ls 2 [(0, .ref aX), (1, .int i)] := hl
  have hP : va_P D classes [(aX, .inr (5, [.ref aL, .ref aS, .ref aR])), (aL, .inr (1, [.ref aW, .int fi, .int cn])), (aW, .inl (cJ, 142, .inr (.inl fw)))] s.heap := hP
  have hD : va_D A [(aX, .inr (5, [.ref aL, .ref aS, .ref aR])), (aL, .inr (1, [.ref aW, .int fi, .int cn])), (aW, .inl (cJ, 142, .inr (.inl fw)))] := hD
  have rg_fi := zi_rg fi
  have rg_cn := zi_rg cn
  have rg_i := zi_rg i
  refine lv_aload_n hx hb dX6_turn_0 rfl (lv_at hl 0 rfl) ?_
  refine va_get (D := D) (ci := 5) (v := .ref aL) (C := RX6) (T := TX6) (N := 3) hx hb hts in_X6 hown hK hP 0 rfl rfl 0 (by decide) (hts _ wk16) (fun _ h9 => h9) rfl dX6_turn_1 ?_
  refine lv_iload_n hx hb dX6_turn_4 rfl (lv_at hl 1 rfl) ?_
  refine call_i (wc := [(aL, .inr (1, [.ref aW, .int fi, .int cn]))]) (wr := [(aX, .inr (5, [.ref aL, .ref aS, .ref aR])), (aW, .inl (cJ, 142, .inr (.inl fw)))]) (run_V (As := [.int i]) (rest := []) kv_RX6_54 ⟨by decide, by decide⟩ ⟨rfl, rfl⟩ ⟨hx, hb, hml, hown, hts⟩ (c_Ln_has l D cI cJ cB aL aW fi cn i  _) ct_blind (ct_pre (wc := [(aL, .inr (1, [.ref aW, .int fi, .int cn]))]) hK hP hD hS hA hZ hN [1] (by decide) rfl rfl) (va_recv hK hP (ci := 1) (q0 := 1) rfl rfl) rfl hl.1 rfl (Nat.le_of_ble_eq_true rfl) dX6_turn_5 ⟨Nat.le_of_ble_eq_true rfl, Nat.le_of_ble_eq_true rfl⟩) hP hD hS hA [1] [0, 2] rfl rfl (by decide) (by decide) (fun r1 u H locs hw1 hP1 hD1 hS1 => ?_)
  have hw1 : (r1.toInt = 1 ∧ 0 ≤ i.toInt ∧ i.toInt < cn.toInt) ∨ (r1.toInt = 0 ∧ (i.toInt < 0 ∨ cn.toInt ≤ i.toInt)) := hw1
  clear hP hD hS
  have hP : va_P D classes [(aX, .inr (5, [.ref aL, .ref aS, .ref aR])), (aW, .inl (cJ, 142, .inr (.inl fw))), (aL, .inr (1, [.ref aW, .int fi, .int cn]))] H := hP1
  have hD : va_D A [(aX, .inr (5, [.ref aL, .ref aS, .ref aR])), (aW, .inl (cJ, 142, .inr (.inl fw))), (aL, .inr (1, [.ref aW, .int fi, .int cn]))] := hD1
  have hS := hS1
  clear hP1 hD1 hS1
  have rg_r1 := zi_rg r1
  refine lv_if_ne (tgt := 14) hx hb dX6_turn_8 (by decide) (fun c2 => ?_) (fun c2 => ?_)
  ·
    have z2 := zi_ne0 c2
    refine lv_aload_n hx hb dX6_turn_14 rfl (lv_at hl 0 rfl) ?_
    refine va_get (D := D) (ci := 5) (v := .ref aL) (C := RX6) (T := TX6) (N := 3) hx hb hts in_X6 hown hK hP 0 rfl rfl 0 (by decide) (hts _ wk16) (fun _ h9 => h9) rfl dX6_turn_15 ?_
    refine lv_iload_n hx hb dX6_turn_18 rfl (lv_at hl 1 rfl) ?_
    have hh3 : 0 ≤ fi.toInt ∧ fi.toInt < 9088 := (by omega)
    have hh4 : 0 ≤ i.toInt ∧ i.toInt ≤ 9087 := (by omega)
    refine call_v (wc := [(aL, .inr (1, [.ref aW, .int fi, .int cn])), (aW, .inl (cJ, 142, .inr (.inl fw)))]) (wr := [(aX, .inr (5, [.ref aL, .ref aS, .ref aR]))]) (run_V (As := [.int i]) (rest := []) kv_RX6_62 ⟨by decide, by decide⟩ ⟨rfl, rfl⟩ ⟨hx, hb, hml, hown, hts⟩ (c_Ln_flip l D cI cJ cB aL aW fi cn i fw hh3 hh4 _) ct_blind (ct_pre (wc := [(aL, .inr (1, [.ref aW, .int fi, .int cn])), (aW, .inl (cJ, 142, .inr (.inl fw)))]) hK hP hD hS hA hZ hN [2, 1] (by decide) rfl rfl) (va_recv hK hP (ci := 1) (q0 := 2) rfl rfl) rfl hl.1 rfl (Nat.le_of_ble_eq_true rfl) dX6_turn_19 ⟨Nat.le_of_ble_eq_true rfl, Nat.le_of_ble_eq_true rfl⟩) hP hD hS hA [2, 1] [0] rfl rfl (by decide) (by decide) (fun u H locs hw5 hP1 hD1 hS1 => ?_)
    obtain ⟨fw2_5, hu9⟩ : ∃ z, z = u := ⟨_, rfl⟩
    subst hu9
    have hw5 : ∀ j : Int, lnB fw2_5 fi.toInt j = if (fi.toInt + j) % 9088 = (fi.toInt + i.toInt) % 9088 then !lnB fw fi.toInt j else lnB fw fi.toInt j := hw5
    clear hP hD hS
    have hP : va_P D classes [(aX, .inr (5, [.ref aL, .ref aS, .ref aR])), (aL, .inr (1, [.ref aW, .int fi, .int cn])), (aW, .inl (cJ, 142, .inr (.inl fw2_5)))] H := hP1
    have hD : va_D A [(aX, .inr (5, [.ref aL, .ref aS, .ref aR])), (aL, .inr (1, [.ref aW, .int fi, .int cn])), (aW, .inl (cJ, 142, .inr (.inl fw2_5)))] := hD1
    have hS := hS1
    clear hP1 hD1 hS1
    refine lv_aload_n hx hb dX6_turn_22 rfl (lv_at hl 0 rfl) ?_
    refine va_get (D := D) (ci := 5) (v := .ref aL) (C := RX6) (T := TX6) (N := 3) hx hb hts in_X6 hown hK hP 0 rfl rfl 0 (by decide) (hts _ wk16) (fun _ h9 => h9) rfl dX6_turn_23 ?_
    refine lv_iload_n hx hb dX6_turn_26 rfl (lv_at hl 1 rfl) ?_
    have hh6 : 0 ≤ fi.toInt ∧ fi.toInt < 9088 := (by omega)
    have hh7 : 0 ≤ i.toInt ∧ i.toInt ≤ 9087 := (by omega)
    refine call_i (wc := [(aL, .inr (1, [.ref aW, .int fi, .int cn])), (aW, .inl (cJ, 142, .inr (.inl fw2_5)))]) (wr := [(aX, .inr (5, [.ref aL, .ref aS, .ref aR]))]) (run_V (As := [.int i]) (rest := []) kv_RX6_58 ⟨by decide, by decide⟩ ⟨rfl, rfl⟩ ⟨hx, hb, hml, hown, hts⟩ (c_Ln_at l D cI cJ cB aL aW fi cn i fw2_5 hh6 hh7 _) ct_blind (ct_pre (wc := [(aL, .inr (1, [.ref aW, .int fi, .int cn])), (aW, .inl (cJ, 142, .inr (.inl fw2_5)))]) hK hP hD hS hA hZ hN [1, 2] (by decide) rfl rfl) (va_recv hK hP (ci := 1) (q0 := 1) rfl rfl) rfl hl.1 rfl (Nat.le_of_ble_eq_true rfl) dX6_turn_27 ⟨Nat.le_of_ble_eq_true rfl, Nat.le_of_ble_eq_true rfl⟩) hP hD hS hA [1, 2] [0] rfl rfl (by decide) (by decide) (fun r8 u H locs hw8 hP1 hD1 hS1 => ?_)
    have hw8 : (0 ≤ r8.toInt ∧ r8.toInt < 2) ∧ r8 = bi (lnB fw2_5 fi.toInt i.toInt) := hw8
    clear hP hD hS
    have hP : va_P D classes [(aX, .inr (5, [.ref aL, .ref aS, .ref aR])), (aL, .inr (1, [.ref aW, .int fi, .int cn])), (aW, .inl (cJ, 142, .inr (.inl fw2_5)))] H := hP1
    have hD : va_D A [(aX, .inr (5, [.ref aL, .ref aS, .ref aR])), (aL, .inr (1, [.ref aW, .int fi, .int cn])), (aW, .inl (cJ, 142, .inr (.inl fw2_5)))] := hD1
    have hS := hS1
    clear hP1 hD1 hS1
    have rg_r8 := zi_rg r8
    have hq9 : ((i.toInt < 0 ∨ cn.toInt ≤ i.toInt) → r8.toInt = -12 ∧ fw2_5 = fw) ∧ ((0 ≤ i.toInt ∧ i.toInt < cn.toInt) → r8 = bi (!lnB fw fi.toInt i.toInt) ∧ ∀ j : Int, 0 ≤ j → j < cn.toInt → lnB fw2_5 fi.toInt j = if j = i.toInt then !lnB fw fi.toInt j else lnB fw fi.toInt j) := (by refine ⟨fun q => ?_, fun q => ?_⟩ <;> first | (exfalso; omega) | exact ⟨by omega, rfl⟩ | exact ⟨by rw [hw8.2, hw5, if_pos rfl], fun j a b => by rw [hw5 j]; by_cases g : j = i.toInt; (· rw [if_pos (by rw [g]), if_pos g]); (· rw [if_neg (by omega), if_neg g])⟩)
    exact hret r8 fw2_5 _ _ _ _ dX6_turn_30 hq9 (hP.sub [0, 1, 2] rfl) (hD.sub [0, 1, 2] (by decide) rfl) hS
  ·
    have z2 := zi_eq0 c2
    refine lv_bipush (v := -12) hx hb dX6_turn_11 (by decide) ?_
    refine lv_topi (fun v10 e10 => ?_)
    have z10 : v10.toInt = (-12) := zi_c e10 (by decide)
    have hq11 : ((i.toInt < 0 ∨ cn.toInt ≤ i.toInt) → v10.toInt = -12 ∧ fw = fw) ∧ ((0 ≤ i.toInt ∧ i.toInt < cn.toInt) → v10 = bi (!lnB fw fi.toInt i.toInt) ∧ ∀ j : Int, 0 ≤ j → j < cn.toInt → lnB fw fi.toInt j = if j = i.toInt then !lnB fw fi.toInt j else lnB fw fi.toInt j) := (by refine ⟨fun q => ?_, fun q => ?_⟩ <;> first | (exfalso; omega) | exact ⟨by omega, rfl⟩ | exact ⟨by rw [hw8.2, hw5, if_pos rfl], fun j a b => by rw [hw5 j]; by_cases g : j = i.toInt; (· rw [if_pos (by rw [g]), if_pos g]); (· rw [if_neg (by omega), if_neg g])⟩)
    exact hret v10 fw _ _ _ _ dX6_turn_13 hq11 (hP.sub [0, 2, 1] rfl) (hD.sub [0, 2, 1] (by decide) rfl) hS

set_option maxHeartbeats 4000000 in
set_option maxRecDepth 100000 in
theorem c_LB_add (l : Launch) (D : va_G) (cI cJ cB : ClassId) (aX : Nat) (aL : Nat) (aW : Nat) (aS : Nat) (aR : Nat) (fi : Int32) (cn : Int32) (b : Int32) (fw : Nat → Int64) (h1 : 0 ≤ fi.toInt ∧ fi.toInt < 9088) (h2 : 0 ≤ cn.toInt ∧ cn.toInt ≤ 9066) :
    cti l yX6_add (wsOf yX6_add cX6_add 2 (some .int)) (rmL 3 65 0 0) D classes (tys3 cI cJ cB) [.ref aX, .int b] [(aX, .inr (5, [.ref aL, .ref aS, .ref aR])), (aL, .inr (1, [.ref aW, .int fi, .int cn])), (aW, .inl (cJ, 142, .inr (.inl fw)))] (fun (r : Int32) (u : Int32 × (Nat → Int64)) => (((¬ b.toInt = 0 ∧ ¬ b.toInt = 1) → r.toInt = -12 ∧ u.1.toInt = cn.toInt) ∧ ((b.toInt = 0 ∨ b.toInt = 1) → (9066 ≤ cn.toInt → r.toInt = -14 ∧ u.1.toInt = cn.toInt) ∧ (cn.toInt < 9066 → r.toInt = cn.toInt + 1 ∧ u.1.toInt = cn.toInt + 1))) ∧ (¬ ((b.toInt = 0 ∨ b.toInt = 1) ∧ cn.toInt < 9066) → u.2 = fw) ∧ (((b.toInt = 0 ∨ b.toInt = 1) ∧ cn.toInt < 9066) → lnB u.2 fi.toInt cn.toInt = bt b 0 ∧ ∀ j : Int, 0 ≤ j → j < cn.toInt → lnB u.2 fi.toInt j = lnB fw fi.toInt j)) (fun u : Int32 × (Nat → Int64) => ([(aX, .inr (5, [.ref aL, .ref aS, .ref aR])), (aL, .inr (1, [.ref aW, .int fi, .int u.1])), (aW, .inl (cJ, 142, .inr (.inl u.2)))] : va_W)) := by
  refine cti.of (by first | exact plainFor_of_name (by decide) | decide +kernel) (Nat.le_of_ble_eq_true rfl) (fun p e s m args below meth c A ls Q h hret => ?_)
  obtain ⟨hx, hb, hml, hown, hts, hnm, hP, hK, hD, hA, hS, hZ, hN, hl⟩ := h
  have hown : s.vm.findClass RX6 = some m.cls := hown
  have hl : lv_has ls 2 [(0, .ref aX), (1, .int b)] := hl
  have hP : va_P D classes [(aX, .inr (5, [.ref aL, .ref aS, .ref aR])), (aL, .inr (1, [.ref aW, .int fi, .int cn])), (aW, .inl (cJ, 142, .inr (.inl fw)))] s.heap := hP
  have hD : va_D A [(aX, .inr (5, [.ref aL, .ref aS, .ref aR])), (aL, .inr (1, [.ref aW, .int fi, .int cn])), (aW, .inl (cJ, 142, .inr (.inl fw)))] := hD
  have rg_fi := zi_rg fi
  have rg_cn := zi_rg cn
  have rg_b := zi_rg b
  refine lv_iload_n hx hb dX6_add_0 rfl (lv_at hl 1 rfl) ?_
  refine lv_if_eq (tgt := 12) hx hb dX6_add_1 (by decide) (fun c1 => ?_) (fun c1 => ?_)
  ·
    have z1 := zi_eq0 c1
    refine lv_aload_n hx hb dX6_add_12 rfl (lv_at hl 0 rfl) ?_
    refine va_get (D := D) (ci := 5) (v := .ref aL) (C := RX6) (T := TX6) (N := 3) hx hb hts in_X6 hown hK hP 0 rfl rfl 0 (by decide) (hts _ wk16) (fun _ h9 => h9) rfl dX6_add_13 ?_
    refine call_i (wc := [(aL, .inr (1, [.ref aW, .int fi, .int cn]))]) (wr := [(aX, .inr (5, [.ref aL, .ref aS, .ref aR])), (aW, .inl (cJ, 142, .inr (.inl fw)))]) (run_V (As := []) (rest := []) kv_RX6_34 ⟨by decide, by decide⟩ ⟨rfl, rfl⟩ ⟨hx, hb, hml, hown, hts⟩ (c_Ln_size l D cI cJ cB aL aW fi cn  _) ct_blind (ct_pre (wc := [(aL, .inr (1, [.ref aW, .int fi, .int cn]))]) hK hP hD hS hA hZ hN [1] (by decide) rfl rfl) (va_recv hK hP (ci := 1) (q0 := 1) rfl rfl) rfl hl.1 rfl (Nat.le_of_ble_eq_true rfl) dX6_add_16 ⟨Nat.le_of_ble_eq_true rfl, Nat.le_of_ble_eq_true rfl⟩) hP hD hS hA [1] [0, 2] rfl rfl (by decide) (by decide) (fun r2 u H locs hw2 hP1 hD1 hS1 => ?_)
    have hw2 : r2.toInt = cn.toInt := hw2
    clear hP hD hS
    have hP : va_P D classes [(aX, .inr (5, [.ref aL, .ref aS, .ref aR])), (aW, .inl (cJ, 142, .inr (.inl fw))), (aL, .inr (1, [.ref aW, .int fi, .int cn]))] H := hP1
    have hD : va_D A [(aX, .inr (5, [.ref aL, .ref aS, .ref aR])), (aW, .inl (cJ, 142, .inr (.inl fw))), (aL, .inr (1, [.ref aW, .int fi, .int cn]))] := hD1
    have hS := hS1
    clear hP1 hD1 hS1
    have rg_r2 := zi_rg r2
    refine lv_sipush (v := 9066) hx hb dX6_add_19 (by decide) ?_
    refine lv_topi (fun v3 e3 => ?_)
    have z3 : v3.toInt = 9066 := zi_c e3 (by decide)
    refine lv_icmp_lt (tgt := 28) hx hb dX6_add_22 (by decide) (fun c4 => ?_) (fun c4 => ?_)
    ·
      have z4 := zi_lt c4
      refine lv_aload_n hx hb dX6_add_28 rfl (lv_at hl 0 rfl) ?_
      refine va_get (D := D) (ci := 5) (v := .ref aL) (C := RX6) (T := TX6) (N := 3) hx hb hts in_X6 hown hK hP 0 rfl rfl 0 (by decide) (hts _ wk16) (fun _ h9 => h9) rfl dX6_add_29 ?_
      refine lv_iload_n hx hb dX6_add_32 rfl (lv_at hl 1 rfl) ?_
      have hh5 : 0 ≤ fi.toInt ∧ fi.toInt < 9088 := (by omega)
      have hh6 : 0 ≤ cn.toInt ∧ cn.toInt ≤ 9087 := (by omega)
      have hh7 : 0 ≤ b.toInt ∧ b.toInt ≤ 1 := (by omega)
      refine call_v (wc := [(aL, .inr (1, [.ref aW, .int fi, .int cn])), (aW, .inl (cJ, 142, .inr (.inl fw)))]) (wr := [(aX, .inr (5, [.ref aL, .ref aS, .ref aR]))]) (run_V (As := [.int b]) (rest := []) kv_RX6_66 ⟨by decide, by decide⟩ ⟨rfl, rfl⟩ ⟨hx, hb, hml, hown, hts⟩ (c_Ln_append l D cI cJ cB aL aW fi cn b fw hh5 hh6 hh7 _) ct_blind (ct_pre (wc := [(aL, .inr (1, [.ref aW, .int fi, .int cn])), (aW, .inl (cJ, 142, .inr (.inl fw)))]) hK hP hD hS hA hZ hN [2, 1] (by decide) rfl rfl) (va_recv hK hP (ci := 1) (q0 := 2) rfl rfl) rfl hl.1 rfl (Nat.le_of_ble_eq_true rfl) dX6_add_33 ⟨Nat.le_of_ble_eq_true rfl, Nat.le_of_ble_eq_true rfl⟩) hP hD hS hA [2, 1] [0] rfl rfl (by decide) (by decide) (fun u H locs hw8 hP1 hD1 hS1 => ?_)
      obtain ⟨cn2_8, fw2_8⟩ := u
      have hw8 : cn2_8.toInt = cn.toInt + 1 ∧ ∀ j : Int, lnB fw2_8 fi.toInt j = if (fi.toInt + j) % 9088 = (fi.toInt + cn.toInt) % 9088 then bt b 0 else lnB fw fi.toInt j := hw8
      clear hP hD hS
      have hP : va_P D classes [(aX, .inr (5, [.ref aL, .ref aS, .ref aR])), (aL, .inr (1, [.ref aW, .int fi, .int cn2_8])), (aW, .inl (cJ, 142, .inr (.inl fw2_8)))] H := hP1
      have hD : va_D A [(aX, .inr (5, [.ref aL, .ref aS, .ref aR])), (aL, .inr (1, [.ref aW, .int fi, .int cn2_8])), (aW, .inl (cJ, 142, .inr (.inl fw2_8)))] := hD1
      have hS := hS1
      clear hP1 hD1 hS1
      have rg_cn2_8 := zi_rg cn2_8
      refine lv_aload_n hx hb dX6_add_36 rfl (lv_at hl 0 rfl) ?_
      refine va_get (D := D) (ci := 5) (v := .ref aL) (C := RX6) (T := TX6) (N := 3) hx hb hts in_X6 hown hK hP 0 rfl rfl 0 (by decide) (hts _ wk16) (fun _ h9 => h9) rfl dX6_add_37 ?_
      refine call_i (wc := [(aL, .inr (1, [.ref aW, .int fi, .int cn2_8]))]) (wr := [(aX, .inr (5, [.ref aL, .ref aS, .ref aR])), (aW, .inl (cJ, 142, .inr (.inl fw2_8)))]) (run_V (As := []) (rest := []) kv_RX6_34 ⟨by decide, by decide⟩ ⟨rfl, rfl⟩ ⟨hx, hb, hml, hown, hts⟩ (c_Ln_size l D cI cJ cB aL aW fi cn2_8  _) ct_blind (ct_pre (wc := [(aL, .inr (1, [.ref aW, .int fi, .int cn2_8]))]) hK hP hD hS hA hZ hN [1] (by decide) rfl rfl) (va_recv hK hP (ci := 1) (q0 := 1) rfl rfl) rfl hl.1 rfl (Nat.le_of_ble_eq_true rfl) dX6_add_40 ⟨Nat.le_of_ble_eq_true rfl, Nat.le_of_ble_eq_true rfl⟩) hP hD hS hA [1] [0, 2] rfl rfl (by decide) (by decide) (fun r9 u H locs hw9 hP1 hD1 hS1 => ?_)
      have hw9 : r9.toInt = cn2_8.toInt := hw9
      clear hP hD hS
      have hP : va_P D classes [(aX, .inr (5, [.ref aL, .ref aS, .ref aR])), (aW, .inl (cJ, 142, .inr (.inl fw2_8))), (aL, .inr (1, [.ref aW, .int fi, .int cn2_8]))] H := hP1
      have hD : va_D A [(aX, .inr (5, [.ref aL, .ref aS, .ref aR])), (aW, .inl (cJ, 142, .inr (.inl fw2_8))), (aL, .inr (1, [.ref aW, .int fi, .int cn2_8]))] := hD1
      have hS := hS1
      clear hP1 hD1 hS1
      have rg_r9 := zi_rg r9
      have hq10 : (((¬ b.toInt = 0 ∧ ¬ b.toInt = 1) → r9.toInt = -12 ∧ cn2_8.toInt = cn.toInt) ∧ ((b.toInt = 0 ∨ b.toInt = 1) → (9066 ≤ cn.toInt → r9.toInt = -14 ∧ cn2_8.toInt = cn.toInt) ∧ (cn.toInt < 9066 → r9.toInt = cn.toInt + 1 ∧ cn2_8.toInt = cn.toInt + 1))) ∧ (¬ ((b.toInt = 0 ∨ b.toInt = 1) ∧ cn.toInt < 9066) → fw2_8 = fw) ∧ (((b.toInt = 0 ∨ b.toInt = 1) ∧ cn.toInt < 9066) → lnB fw2_8 fi.toInt cn.toInt = bt b 0 ∧ ∀ j : Int, 0 ≤ j → j < cn.toInt → lnB fw2_8 fi.toInt j = lnB fw fi.toInt j) := (by refine ⟨by omega, fun q => ?_, fun q => ?_⟩ <;> first | rfl | (exfalso; omega) | exact ⟨by rw [hw8.2, if_pos rfl], fun j a b => by rw [hw8.2 j, if_neg (by omega)]⟩ | exact ⟨by rw [hw21.2, if_pos rfl], fun j a b => by rw [hw21.2 j, if_neg (by omega)]⟩)
      exact hret r9 (cn2_8, fw2_8) _ _ _ _ dX6_add_43 hq10 (hP.sub [0, 2, 1] rfl) (hD.sub [0, 2, 1] (by decide) rfl) hS
    ·
      have z4 := zi_nlt c4
      refine lv_bipush (v := -14) hx hb dX6_add_25 (by decide) ?_
      refine lv_topi (fun v11 e11 => ?_)
      have z11 : v11.toInt = (-14) := zi_c e11 (by decide)
      have hq12 : (((¬ b.toInt = 0 ∧ ¬ b.toInt = 1) → v11.toInt = -12 ∧ cn.toInt = cn.toInt) ∧ ((b.toInt = 0 ∨ b.toInt = 1) → (9066 ≤ cn.toInt → v11.toInt = -14 ∧ cn.toInt = cn.toInt) ∧ (cn.toInt < 9066 → v11.toInt = cn.toInt + 1 ∧ cn.toInt = cn.toInt + 1))) ∧ (¬ ((b.toInt = 0 ∨ b.toInt = 1) ∧ cn.toInt < 9066) → fw = fw) ∧ (((b.toInt = 0 ∨ b.toInt = 1) ∧ cn.toInt < 9066) → lnB fw fi.toInt cn.toInt = bt b 0 ∧ ∀ j : Int, 0 ≤ j → j < cn.toInt → lnB fw fi.toInt j = lnB fw fi.toInt j) := (by refine ⟨by omega, fun q => ?_, fun q => ?_⟩ <;> first | rfl | (exfalso; omega) | exact ⟨by rw [hw8.2, if_pos rfl], fun j a b => by rw [hw8.2 j, if_neg (by omega)]⟩ | exact ⟨by rw [hw21.2, if_pos rfl], fun j a b => by rw [hw21.2 j, if_neg (by omega)]⟩)
      exact hret v11 (cn, fw) _ _ _ _ dX6_add_27 hq12 (hP.sub [0, 2, 1] rfl) (hD.sub [0, 2, 1] (by decide) rfl) hS
  ·
    have z1 := zi_ne0 c1
    refine lv_iload_n hx hb dX6_add_4 rfl (lv_at hl 1 rfl) ?_
    refine lv_iconst (v := 1) hx hb dX6_add_5 (by decide) ?_
    refine lv_topi (fun v13 e13 => ?_)
    have z13 : v13.toInt = 1 := zi_c e13 (by decide)
    refine lv_icmp_eq (tgt := 12) hx hb dX6_add_6 (by decide) (fun c14 => ?_) (fun c14 => ?_)
    ·
      have z14 := zi_eq c14
      refine lv_aload_n hx hb dX6_add_12 rfl (lv_at hl 0 rfl) ?_
      refine va_get (D := D) (ci := 5) (v := .ref aL) (C := RX6) (T := TX6) (N := 3) hx hb hts in_X6 hown hK hP 0 rfl rfl 0 (by decide) (hts _ wk16) (fun _ h9 => h9) rfl dX6_add_13 ?_
      refine call_i (wc := [(aL, .inr (1, [.ref aW, .int fi, .int cn]))]) (wr := [(aX, .inr (5, [.ref aL, .ref aS, .ref aR])), (aW, .inl (cJ, 142, .inr (.inl fw)))]) (run_V (As := []) (rest := []) kv_RX6_34 ⟨by decide, by decide⟩ ⟨rfl, rfl⟩ ⟨hx, hb, hml, hown, hts⟩ (c_Ln_size l D cI cJ cB aL aW fi cn  _) ct_blind (ct_pre (wc := [(aL, .inr (1, [.ref aW, .int fi, .int cn]))]) hK hP hD hS hA hZ hN [1] (by decide) rfl rfl) (va_recv hK hP (ci := 1) (q0 := 1) rfl rfl) rfl hl.1 rfl (Nat.le_of_ble_eq_true rfl) dX6_add_16 ⟨Nat.le_of_ble_eq_true rfl, Nat.le_of_ble_eq_true rfl⟩) hP hD hS hA [1] [0, 2] rfl rfl (by decide) (by decide) (fun r15 u H locs hw15 hP1 hD1 hS1 => ?_)
      have hw15 : r15.toInt = cn.toInt := hw15
      clear hP hD hS
      have hP : va_P D classes [(aX, .inr (5, [.ref aL, .ref aS, .ref aR])), (aW, .inl (cJ, 142, .inr (.inl fw))), (aL, .inr (1, [.ref aW, .int fi, .int cn]))] H := hP1
      have hD : va_D A [(aX, .inr (5, [.ref aL, .ref aS, .ref aR])), (aW, .inl (cJ, 142, .inr (.inl fw))), (aL, .inr (1, [.ref aW, .int fi, .int cn]))] := hD1
      have hS := hS1
      clear hP1 hD1 hS1
      have rg_r15 := zi_rg r15
      refine lv_sipush (v := 9066) hx hb dX6_add_19 (by decide) ?_
      refine lv_topi (fun v16 e16 => ?_)
      have z16 : v16.toInt = 9066 := zi_c e16 (by decide)
      refine lv_icmp_lt (tgt := 28) hx hb dX6_add_22 (by decide) (fun c17 => ?_) (fun c17 => ?_)
      ·
        have z17 := zi_lt c17
        refine lv_aload_n hx hb dX6_add_28 rfl (lv_at hl 0 rfl) ?_
        refine va_get (D := D) (ci := 5) (v := .ref aL) (C := RX6) (T := TX6) (N := 3) hx hb hts in_X6 hown hK hP 0 rfl rfl 0 (by decide) (hts _ wk16) (fun _ h9 => h9) rfl dX6_add_29 ?_
        refine lv_iload_n hx hb dX6_add_32 rfl (lv_at hl 1 rfl) ?_
        have hh18 : 0 ≤ fi.toInt ∧ fi.toInt < 9088 := (by omega)
        have hh19 : 0 ≤ cn.toInt ∧ cn.toInt ≤ 9087 := (by omega)
        have hh20 : 0 ≤ b.toInt ∧ b.toInt ≤ 1 := (by omega)
        refine call_v (wc := [(aL, .inr (1, [.ref aW, .int fi, .int cn])), (aW, .inl (cJ, 142, .inr (.inl fw)))]) (wr := [(aX, .inr (5, [.ref aL, .ref aS, .ref aR]))]) (run_V (As := [.int b]) (rest := []) kv_RX6_66 ⟨by decide, by decide⟩ ⟨rfl, rfl⟩ ⟨hx, hb, hml, hown, hts⟩ (c_Ln_append l D cI cJ cB aL aW fi cn b fw hh18 hh19 hh20 _) ct_blind (ct_pre (wc := [(aL, .inr (1, [.ref aW, .int fi, .int cn])), (aW, .inl (cJ, 142, .inr (.inl fw)))]) hK hP hD hS hA hZ hN [2, 1] (by decide) rfl rfl) (va_recv hK hP (ci := 1) (q0 := 2) rfl rfl) rfl hl.1 rfl (Nat.le_of_ble_eq_true rfl) dX6_add_33 ⟨Nat.le_of_ble_eq_true rfl, Nat.le_of_ble_eq_true rfl⟩) hP hD hS hA [2, 1] [0] rfl rfl (by decide) (by decide) (fun u H locs hw21 hP1 hD1 hS1 => ?_)
        obtain ⟨cn2_21, fw2_21⟩ := u
        have hw21 : cn2_21.toInt = cn.toInt + 1 ∧ ∀ j : Int, lnB fw2_21 fi.toInt j = if (fi.toInt + j) % 9088 = (fi.toInt + cn.toInt) % 9088 then bt b 0 else lnB fw fi.toInt j := hw21
        clear hP hD hS
        have hP : va_P D classes [(aX, .inr (5, [.ref aL, .ref aS, .ref aR])), (aL, .inr (1, [.ref aW, .int fi, .int cn2_21])), (aW, .inl (cJ, 142, .inr (.inl fw2_21)))] H := hP1
        have hD : va_D A [(aX, .inr (5, [.ref aL, .ref aS, .ref aR])), (aL, .inr (1, [.ref aW, .int fi, .int cn2_21])), (aW, .inl (cJ, 142, .inr (.inl fw2_21)))] := hD1
        have hS := hS1
        clear hP1 hD1 hS1
        have rg_cn2_21 := zi_rg cn2_21
        refine lv_aload_n hx hb dX6_add_36 rfl (lv_at hl 0 rfl) ?_
        refine va_get (D := D) (ci := 5) (v := .ref aL) (C := RX6) (T := TX6) (N := 3) hx hb hts in_X6 hown hK hP 0 rfl rfl 0 (by decide) (hts _ wk16) (fun _ h9 => h9) rfl dX6_add_37 ?_
        refine call_i (wc := [(aL, .inr (1, [.ref aW, .int fi, .int cn2_21]))]) (wr := [(aX, .inr (5, [.ref aL, .ref aS, .ref aR])), (aW, .inl (cJ, 142, .inr (.inl fw2_21)))]) (run_V (As := []) (rest := []) kv_RX6_34 ⟨by decide, by decide⟩ ⟨rfl, rfl⟩ ⟨hx, hb, hml, hown, hts⟩ (c_Ln_size l D cI cJ cB aL aW fi cn2_21  _) ct_blind (ct_pre (wc := [(aL, .inr (1, [.ref aW, .int fi, .int cn2_21]))]) hK hP hD hS hA hZ hN [1] (by decide) rfl rfl) (va_recv hK hP (ci := 1) (q0 := 1) rfl rfl) rfl hl.1 rfl (Nat.le_of_ble_eq_true rfl) dX6_add_40 ⟨Nat.le_of_ble_eq_true rfl, Nat.le_of_ble_eq_true rfl⟩) hP hD hS hA [1] [0, 2] rfl rfl (by decide) (by decide) (fun r22 u H locs hw22 hP1 hD1 hS1 => ?_)
        have hw22 : r22.toInt = cn2_21.toInt := hw22
        clear hP hD hS
        have hP : va_P D classes [(aX, .inr (5, [.ref aL, .ref aS, .ref aR])), (aW, .inl (cJ, 142, .inr (.inl fw2_21))), (aL, .inr (1, [.ref aW, .int fi, .int cn2_21]))] H := hP1
        have hD : va_D A [(aX, .inr (5, [.ref aL, .ref aS, .ref aR])), (aW, .inl (cJ, 142, .inr (.inl fw2_21))), (aL, .inr (1, [.ref aW, .int fi, .int cn2_21]))] := hD1
        have hS := hS1
        clear hP1 hD1 hS1
        have rg_r22 := zi_rg r22
        have hq23 : (((¬ b.toInt = 0 ∧ ¬ b.toInt = 1) → r22.toInt = -12 ∧ cn2_21.toInt = cn.toInt) ∧ ((b.toInt = 0 ∨ b.toInt = 1) → (9066 ≤ cn.toInt → r22.toInt = -14 ∧ cn2_21.toInt = cn.toInt) ∧ (cn.toInt < 9066 → r22.toInt = cn.toInt + 1 ∧ cn2_21.toInt = cn.toInt + 1))) ∧ (¬ ((b.toInt = 0 ∨ b.toInt = 1) ∧ cn.toInt < 9066) → fw2_21 = fw) ∧ (((b.toInt = 0 ∨ b.toInt = 1) ∧ cn.toInt < 9066) → lnB fw2_21 fi.toInt cn.toInt = bt b 0 ∧ ∀ j : Int, 0 ≤ j → j < cn.toInt → lnB fw2_21 fi.toInt j = lnB fw fi.toInt j) := (by refine ⟨by omega, fun q => ?_, fun q => ?_⟩ <;> first | rfl | (exfalso; omega) | exact ⟨by rw [hw8.2, if_pos rfl], fun j a b => by rw [hw8.2 j, if_neg (by omega)]⟩ | exact ⟨by rw [hw21.2, if_pos rfl], fun j a b => by rw [hw21.2 j, if_neg (by omega)]⟩)
        exact hret r22 (cn2_21, fw2_21) _ _ _ _ dX6_add_43 hq23 (hP.sub [0, 2, 1] rfl) (hD.sub [0, 2, 1] (by decide) rfl) hS
      ·
        have z17 := zi_nlt c17
        refine lv_bipush (v := -14) hx hb dX6_add_25 (by decide) ?_
        refine lv_topi (fun v24 e24 => ?_)
        have z24 : v24.toInt = (-14) := zi_c e24 (by decide)
        have hq25 : (((¬ b.toInt = 0 ∧ ¬ b.toInt = 1) → v24.toInt = -12 ∧ cn.toInt = cn.toInt) ∧ ((b.toInt = 0 ∨ b.toInt = 1) → (9066 ≤ cn.toInt → v24.toInt = -14 ∧ cn.toInt = cn.toInt) ∧ (cn.toInt < 9066 → v24.toInt = cn.toInt + 1 ∧ cn.toInt = cn.toInt + 1))) ∧ (¬ ((b.toInt = 0 ∨ b.toInt = 1) ∧ cn.toInt < 9066) → fw = fw) ∧ (((b.toInt = 0 ∨ b.toInt = 1) ∧ cn.toInt < 9066) → lnB fw fi.toInt cn.toInt = bt b 0 ∧ ∀ j : Int, 0 ≤ j → j < cn.toInt → lnB fw fi.toInt j = lnB fw fi.toInt j) := (by refine ⟨by omega, fun q => ?_, fun q => ?_⟩ <;> first | rfl | (exfalso; omega) | exact ⟨by rw [hw8.2, if_pos rfl], fun j a b => by rw [hw8.2 j, if_neg (by omega)]⟩ | exact ⟨by rw [hw21.2, if_pos rfl], fun j a b => by rw [hw21.2 j, if_neg (by omega)]⟩)
        exact hret v24 (cn, fw) _ _ _ _ dX6_add_27 hq25 (hP.sub [0, 2, 1] rfl) (hD.sub [0, 2, 1] (by decide) rfl) hS
    ·
      have z14 := zi_ne c14
      refine lv_bipush (v := -12) hx hb dX6_add_9 (by decide) ?_
      refine lv_topi (fun v26 e26 => ?_)
      have z26 : v26.toInt = (-12) := zi_c e26 (by decide)
      have hq27 : (((¬ b.toInt = 0 ∧ ¬ b.toInt = 1) → v26.toInt = -12 ∧ cn.toInt = cn.toInt) ∧ ((b.toInt = 0 ∨ b.toInt = 1) → (9066 ≤ cn.toInt → v26.toInt = -14 ∧ cn.toInt = cn.toInt) ∧ (cn.toInt < 9066 → v26.toInt = cn.toInt + 1 ∧ cn.toInt = cn.toInt + 1))) ∧ (¬ ((b.toInt = 0 ∨ b.toInt = 1) ∧ cn.toInt < 9066) → fw = fw) ∧ (((b.toInt = 0 ∨ b.toInt = 1) ∧ cn.toInt < 9066) → lnB fw fi.toInt cn.toInt = bt b 0 ∧ ∀ j : Int, 0 ≤ j → j < cn.toInt → lnB fw fi.toInt j = lnB fw fi.toInt j) := (by refine ⟨by omega, fun q => ?_, fun q => ?_⟩ <;> first | rfl | (exfalso; omega) | exact ⟨by rw [hw8.2, if_pos rfl], fun j a b => by rw [hw8.2 j, if_neg (by omega)]⟩ | exact ⟨by rw [hw21.2, if_pos rfl], fun j a b => by rw [hw21.2 j, if_neg (by omega)]⟩)
      exact hret v26 (cn, fw) _ _ _ _ dX6_add_11 hq27 (hP.sub [0, 1, 2] rfl) (hD.sub [0, 1, 2] (by decide) rfl) hS

set_option maxHeartbeats 4000000 in
set_option maxRecDepth 100000 in
theorem c_LB_receive (l : Launch) (D : va_G) (cI cJ cB : ClassId) (aX : Nat) (aL : Nat) (aW : Nat) (aS : Nat) (fi : Int32) (cn : Int32) (nn : Int32) (fw : Nat → Int64) (aR : Nat) (aB : Nat) (aQ : Nat) (aT : Nat) (aP : Nat) (hd : Int32) (pl : Int64) (hv : Int32) (lk : Int32) (dn : Int32) (ht : Int32) (sl : Int32) (br : Int32) (wh : Int32) (lb : Int64) (gc : Int32) (ft : Nat → Int32) (fp : Nat → Int64) (h1 : 0 ≤ fi.toInt ∧ fi.toInt < 9088) (h2 : 0 ≤ cn.toInt ∧ cn.toInt ≤ 9066) (h3 : 0 ≤ gc.toInt ∧ gc.toInt ≤ 900000000) (h4 : (0 ≤ lk.toInt ∧ lk.toInt ≤ 1) ∧ (0 ≤ dn.toInt ∧ dn.toInt ≤ 1) ∧ (0 ≤ ht.toInt ∧ ht.toInt ≤ 63) ∧ (0 ≤ br.toInt ∧ br.toInt ≤ 63) ∧ (0 ≤ wh.toInt ∧ wh.toInt ≤ 15) ∧ (0 ≤ sl.toInt ∧ sl.toInt ≤ 900000000) ∧ (0 ≤ hv.toInt ∧ hv.toInt ≤ 65) ∧ (0 ≤ hd.toInt ∧ hd.toInt ≤ 3)) (h5 : hdK hv.toInt hd.toInt) :
    cti l yX6_receive (wsOf yX6_receive cX6_receive 5 (some .int)) (rmL 5 108 0 0) D classes (tys3 cI cJ cB) [.ref aX, .int nn] [(aX, .inr (5, [.ref aL, .ref aS, .ref aR])), (aL, .inr (1, [.ref aW, .int fi, .int cn])), (aW, .inl (cJ, 142, .inr (.inl fw))), (aR, .inr (2, [.ref aB, .ref aQ, .int hd, .long pl, .int hv, .int lk, .int dn, .int ht, .int sl, .int br, .int wh])), (aB, .inr (3, [.long lb])), (aQ, .inr (0, [.ref aT, .ref aP, .int gc])), (aT, .inl (cI, 300, .inl ft)), (aP, .inl (cJ, 300, .inr (.inl fp)))] (fun (r : Int32) (u : Int32 × Int32 × Int32 × Int64 × Int32 × Int32 × Int32 × Int32 × Int32 × Int32 × Int32 × Int64 × Int32 × (Nat → Int32) × (Nat → Int64)) => (((((0 ≤ u.2.2.2.2.2.1.toInt ∧ u.2.2.2.2.2.1.toInt ≤ 1) ∧ (0 ≤ u.2.2.2.2.2.2.1.toInt ∧ u.2.2.2.2.2.2.1.toInt ≤ 1) ∧ (0 ≤ u.2.2.2.2.2.2.2.1.toInt ∧ u.2.2.2.2.2.2.2.1.toInt ≤ 63) ∧ (0 ≤ u.2.2.2.2.2.2.2.2.2.1.toInt ∧ u.2.2.2.2.2.2.2.2.2.1.toInt ≤ 63) ∧ (0 ≤ u.2.2.2.2.2.2.2.2.2.2.1.toInt ∧ u.2.2.2.2.2.2.2.2.2.2.1.toInt ≤ 15)) ∧ (sl.toInt ≤ u.2.2.2.2.2.2.2.2.1.toInt ∧ u.2.2.2.2.2.2.2.2.1.toInt ≤ sl.toInt + 9066) ∧ (0 ≤ u.2.2.2.2.1.toInt ∧ u.2.2.2.2.1.toInt ≤ 65) ∧ (0 ≤ u.2.2.1.toInt ∧ u.2.2.1.toInt ≤ 3)) ∧ hdK u.2.2.2.2.1.toInt u.2.2.1.toInt) ∧ rcA nn.toInt cn.toInt (fun q : Nat => (bi (lnB fw fi.toInt (q : Int))).toInt) (hd.toInt, hv.toInt, lk.toInt, dn.toInt, ht.toInt, sl.toInt, br.toInt, wh.toInt, gc.toInt) (u.2.2.1.toInt, u.2.2.2.2.1.toInt, u.2.2.2.2.2.1.toInt, u.2.2.2.2.2.2.1.toInt, u.2.2.2.2.2.2.2.1.toInt, u.2.2.2.2.2.2.2.2.1.toInt, u.2.2.2.2.2.2.2.2.2.1.toInt, u.2.2.2.2.2.2.2.2.2.2.1.toInt, u.2.2.2.2.2.2.2.2.2.2.2.2.1.toInt) r.toInt) ∧ (0 ≤ u.1.toInt ∧ u.1.toInt < 9088) ∧ (gc.toInt ≤ u.2.2.2.2.2.2.2.2.2.2.2.2.1.toInt ∧ u.2.2.2.2.2.2.2.2.2.2.2.2.1.toInt ≤ gc.toInt + 9066) ∧ (0 ≤ u.2.2.2.2.2.1.toInt ∧ u.2.2.2.2.2.1.toInt ≤ 1) ∧ (nn.toInt < 0 → r.toInt = -12 ∧ u.2.1.toInt = cn.toInt) ∧ (0 ≤ nn.toInt → (0 ≤ r.toInt ∧ r.toInt ≤ cn.toInt) ∧ (cn.toInt ≤ nn.toInt → u.2.1.toInt = 0) ∧ (nn.toInt < cn.toInt → u.2.1.toInt = cn.toInt - nn.toInt)) ∧ ∀ j : Int, lnB fw u.1.toInt j = lnB fw fi.toInt (j + (cn.toInt - u.2.1.toInt))) (fun u : Int32 × Int32 × Int32 × Int64 × Int32 × Int32 × Int32 × Int32 × Int32 × Int32 × Int32 × Int64 × Int32 × (Nat → Int32) × (Nat → Int64) => ([(aX, .inr (5, [.ref aL, .ref aS, .ref aR])), (aL, .inr (1, [.ref aW, .int u.1, .int u.2.1])), (aW, .inl (cJ, 142, .inr (.inl fw))), (aR, .inr (2, [.ref aB, .ref aQ, .int u.2.2.1, .long u.2.2.2.1, .int u.2.2.2.2.1, .int u.2.2.2.2.2.1, .int u.2.2.2.2.2.2.1, .int u.2.2.2.2.2.2.2.1, .int u.2.2.2.2.2.2.2.2.1, .int u.2.2.2.2.2.2.2.2.2.1, .int u.2.2.2.2.2.2.2.2.2.2.1])), (aB, .inr (3, [.long u.2.2.2.2.2.2.2.2.2.2.2.1])), (aQ, .inr (0, [.ref aT, .ref aP, .int u.2.2.2.2.2.2.2.2.2.2.2.2.1])), (aT, .inl (cI, 300, .inl u.2.2.2.2.2.2.2.2.2.2.2.2.2.1)), (aP, .inl (cJ, 300, .inr (.inl u.2.2.2.2.2.2.2.2.2.2.2.2.2.2)))] : va_W)) := by
  refine cti.of (by first | exact plainFor_of_name (by decide) | decide +kernel) (Nat.le_of_ble_eq_true rfl) (fun p e s m args below meth c A ls Q h hret => ?_)
  obtain ⟨hx, hb, hml, hown, hts, hnm, hP, hK, hD, hA, hS, hZ, hN, hl⟩ := h
  have hown : s.vm.findClass RX6 = some m.cls := hown
  have hl : lv_has ls 5 [(0, .ref aX), (1, .int nn)] := hl
  have hP : va_P D classes [(aX, .inr (5, [.ref aL, .ref aS, .ref aR])), (aL, .inr (1, [.ref aW, .int fi, .int cn])), (aW, .inl (cJ, 142, .inr (.inl fw))), (aR, .inr (2, [.ref aB, .ref aQ, .int hd, .long pl, .int hv, .int lk, .int dn, .int ht, .int sl, .int br, .int wh])), (aB, .inr (3, [.long lb])), (aQ, .inr (0, [.ref aT, .ref aP, .int gc])), (aT, .inl (cI, 300, .inl ft)), (aP, .inl (cJ, 300, .inr (.inl fp)))] s.heap := hP
  have hD : va_D A [(aX, .inr (5, [.ref aL, .ref aS, .ref aR])), (aL, .inr (1, [.ref aW, .int fi, .int cn])), (aW, .inl (cJ, 142, .inr (.inl fw))), (aR, .inr (2, [.ref aB, .ref aQ, .int hd, .long pl, .int hv, .int lk, .int dn, .int ht, .int sl, .int br, .int wh])), (aB, .inr (3, [.long lb])), (aQ, .inr (0, [.ref aT, .ref aP, .int gc])), (aT, .inl (cI, 300, .inl ft)), (aP, .inl (cJ, 300, .inr (.inl fp)))] := hD
  have rg_fi := zi_rg fi
  have rg_cn := zi_rg cn
  have rg_nn := zi_rg nn
  have rg_hd := zi_rg hd
  have rg_hv := zi_rg hv
  have rg_lk := zi_rg lk
  have rg_dn := zi_rg dn
  have rg_ht := zi_rg ht
  have rg_sl := zi_rg sl
  have rg_br := zi_rg br
  have rg_wh := zi_rg wh
  have rg_gc := zi_rg gc
  refine lv_iload_n hx hb dX6_receive_0 rfl (lv_at hl 1 rfl) ?_
  refine lv_if_ge (tgt := 7) hx hb dX6_receive_1 (by decide) (fun c1 => ?_) (fun c1 => ?_)
  ·
    have z1 := zi_ge0 c1
    refine lv_aload_n hx hb dX6_receive_7 rfl (lv_at hl 0 rfl) ?_
    refine va_get (D := D) (ci := 5) (v := .ref aR) (C := RX6) (T := TX6) (N := 3) hx hb hts in_X6 hown hK hP 0 rfl rfl 2 (by decide) (hts _ wk24) (fun _ h9 => h9) rfl dX6_receive_8 ?_
    refine call_i (wc := [(aR, .inr (2, [.ref aB, .ref aQ, .int hd, .long pl, .int hv, .int lk, .int dn, .int ht, .int sl, .int br, .int wh])), (aQ, .inr (0, [.ref aT, .ref aP, .int gc]))]) (wr := [(aX, .inr (5, [.ref aL, .ref aS, .ref aR])), (aL, .inr (1, [.ref aW, .int fi, .int cn])), (aW, .inl (cJ, 142, .inr (.inl fw))), (aB, .inr (3, [.long lb])), (aT, .inl (cI, 300, .inl ft)), (aP, .inl (cJ, 300, .inr (.inl fp)))]) (run_V (As := []) (rest := []) kv_RX6_69 ⟨by decide, by decide⟩ ⟨rfl, rfl⟩ ⟨hx, hb, hml, hown, hts⟩ (c_Re_groupCount l D cI cJ cB aR aB aQ aT aP hd pl hv lk dn ht sl br wh gc  _) ct_blind (ct_pre (wc := [(aR, .inr (2, [.ref aB, .ref aQ, .int hd, .long pl, .int hv, .int lk, .int dn, .int ht, .int sl, .int br, .int wh])), (aQ, .inr (0, [.ref aT, .ref aP, .int gc]))]) hK hP hD hS hA hZ hN [3, 5] (by decide) rfl rfl) (va_recv hK hP (ci := 2) (q0 := 3) rfl rfl) rfl hl.1 rfl (Nat.le_of_ble_eq_true rfl) dX6_receive_11 ⟨Nat.le_of_ble_eq_true rfl, Nat.le_of_ble_eq_true rfl⟩) hP hD hS hA [3, 5] [0, 1, 2, 4, 6, 7] rfl rfl (by decide) (by decide) (fun r2 u H locs hw2 hP1 hD1 hS1 => ?_)
    have hw2 : r2.toInt = gc.toInt := hw2
    clear hP hD hS
    have hP : va_P D classes [(aX, .inr (5, [.ref aL, .ref aS, .ref aR])), (aL, .inr (1, [.ref aW, .int fi, .int cn])), (aW, .inl (cJ, 142, .inr (.inl fw))), (aB, .inr (3, [.long lb])), (aT, .inl (cI, 300, .inl ft)), (aP, .inl (cJ, 300, .inr (.inl fp))), (aR, .inr (2, [.ref aB, .ref aQ, .int hd, .long pl, .int hv, .int lk, .int dn, .int ht, .int sl, .int br, .int wh])), (aQ, .inr (0, [.ref aT, .ref aP, .int gc]))] H := hP1
    have hD : va_D A [(aX, .inr (5, [.ref aL, .ref aS, .ref aR])), (aL, .inr (1, [.ref aW, .int fi, .int cn])), (aW, .inl (cJ, 142, .inr (.inl fw))), (aB, .inr (3, [.long lb])), (aT, .inl (cI, 300, .inl ft)), (aP, .inl (cJ, 300, .inr (.inl fp))), (aR, .inr (2, [.ref aB, .ref aQ, .int hd, .long pl, .int hv, .int lk, .int dn, .int ht, .int sl, .int br, .int wh])), (aQ, .inr (0, [.ref aT, .ref aP, .int gc]))] := hD1
    have hS := hS1
    clear hP1 hD1 hS1
    have rg_r2 := zi_rg r2
    refine lv_istore_n (lv' := [(2, .int r2), (0, .ref aX), (1, .int nn)]) hx hb dX6_receive_14 rfl hl (by decide) rfl (fun ls hl => ?_)
    refine lv_iload_n hx hb dX6_receive_15 rfl (lv_at hl 2 rfl) ?_
    refine lv_aload_n hx hb dX6_receive_16 rfl (lv_at hl 1 rfl) ?_
    refine va_get (D := D) (ci := 5) (v := .ref aL) (C := RX6) (T := TX6) (N := 3) hx hb hts in_X6 hown hK hP 0 rfl rfl 0 (by decide) (hts _ wk16) (fun _ h9 => h9) rfl dX6_receive_17 ?_
    refine call_i (wc := [(aL, .inr (1, [.ref aW, .int fi, .int cn]))]) (wr := [(aX, .inr (5, [.ref aL, .ref aS, .ref aR])), (aW, .inl (cJ, 142, .inr (.inl fw))), (aB, .inr (3, [.long lb])), (aT, .inl (cI, 300, .inl ft)), (aP, .inl (cJ, 300, .inr (.inl fp))), (aR, .inr (2, [.ref aB, .ref aQ, .int hd, .long pl, .int hv, .int lk, .int dn, .int ht, .int sl, .int br, .int wh])), (aQ, .inr (0, [.ref aT, .ref aP, .int gc]))]) (run_V (As := []) (rest := [.int nn]) kv_RX6_34 ⟨by decide, by decide⟩ ⟨rfl, rfl⟩ ⟨hx, hb, hml, hown, hts⟩ (c_Ln_size l D cI cJ cB aL aW fi cn  _) ct_blind (ct_pre (wc := [(aL, .inr (1, [.ref aW, .int fi, .int cn]))]) hK hP hD hS hA hZ hN [1] (by decide) rfl rfl) (va_recv hK hP (ci := 1) (q0 := 1) rfl rfl) rfl hl.1 rfl (Nat.le_of_ble_eq_true rfl) dX6_receive_20 ⟨Nat.le_of_ble_eq_true rfl, Nat.le_of_ble_eq_true rfl⟩) hP hD hS hA [1] [0, 2, 3, 4, 5, 6, 7] rfl rfl (by decide) (by decide) (fun r3 u H locs hw3 hP1 hD1 hS1 => ?_)
    have hw3 : r3.toInt = cn.toInt := hw3
    clear hP hD hS
    have hP : va_P D classes [(aX, .inr (5, [.ref aL, .ref aS, .ref aR])), (aW, .inl (cJ, 142, .inr (.inl fw))), (aB, .inr (3, [.long lb])), (aT, .inl (cI, 300, .inl ft)), (aP, .inl (cJ, 300, .inr (.inl fp))), (aR, .inr (2, [.ref aB, .ref aQ, .int hd, .long pl, .int hv, .int lk, .int dn, .int ht, .int sl, .int br, .int wh])), (aQ, .inr (0, [.ref aT, .ref aP, .int gc])), (aL, .inr (1, [.ref aW, .int fi, .int cn]))] H := hP1
    have hD : va_D A [(aX, .inr (5, [.ref aL, .ref aS, .ref aR])), (aW, .inl (cJ, 142, .inr (.inl fw))), (aB, .inr (3, [.long lb])), (aT, .inl (cI, 300, .inl ft)), (aP, .inl (cJ, 300, .inr (.inl fp))), (aR, .inr (2, [.ref aB, .ref aQ, .int hd, .long pl, .int hv, .int lk, .int dn, .int ht, .int sl, .int br, .int wh])), (aQ, .inr (0, [.ref aT, .ref aP, .int gc])), (aL, .inr (1, [.ref aW, .int fi, .int cn]))] := hD1
    have hS := hS1
    clear hP1 hD1 hS1
    have rg_r3 := zi_rg r3
    refine va_mmin hx hb (by rw [hml]; exact hl.1.symm) hown (hts _ wk302) (hts _ wk303) (hts _ wk143) (hts _ wk305) (Nat.le_of_ble_eq_true rfl) (Nat.le_of_ble_eq_true rfl) (Nat.le_of_ble_eq_true rfl) (Nat.le_of_ble_eq_true rfl) dX6_receive_23 ?_
    refine lv_topi (fun v4 e4 => ?_)
    have z4 := zi_min e4
    refine lv_istore_n (lv' := [(3, .int v4), (2, .int r2), (0, .ref aX), (1, .int nn)]) hx hb dX6_receive_26 rfl hl (by decide) rfl (fun ls hl => ?_)
    refine lv_iconst (v := 0) hx hb dX6_receive_27 (by decide) ?_
    refine lv_topi (fun v5 e5 => ?_)
    have z5 : v5.toInt = 0 := zi_c e5 (by decide)
    refine lv_istore (lv' := [(4, .int v5), (3, .int v4), (2, .int r2), (0, .ref aX), (1, .int nn)]) hx hb dX6_receive_28 hl (by decide) rfl (fun ls hl => ?_)
    have J30 : ∀ (n : Nat) (k : Int32) (hd3 : Int32) (pl3 : Int64) (hv3 : Int32) (lk3 : Int32) (dn3 : Int32) (ht3 : Int32) (sl3 : Int32) (br3 : Int32) (wh3 : Int32) (lb3 : Int64) (gc3 : Int32) (ft3 : Nat → Int32) (fp3 : Nat → Int64) (H : Heap) (locs : List Loc) (ls : Array Slot), ((v4.toInt - k.toInt).toNat) < n → (0 ≤ k.toInt ∧ k.toInt ≤ v4.toInt) → (gc.toInt ≤ gc3.toInt ∧ gc3.toInt ≤ gc.toInt + k.toInt) → (((0 ≤ lk3.toInt ∧ lk3.toInt ≤ 1) ∧ (0 ≤ dn3.toInt ∧ dn3.toInt ≤ 1) ∧ (0 ≤ ht3.toInt ∧ ht3.toInt ≤ 63) ∧ (0 ≤ br3.toInt ∧ br3.toInt ≤ 63) ∧ (0 ≤ wh3.toInt ∧ wh3.toInt ≤ 15)) ∧ (sl.toInt ≤ sl3.toInt ∧ sl3.toInt ≤ sl.toInt + k.toInt) ∧ (0 ≤ hv3.toInt ∧ hv3.toInt ≤ 65) ∧ (0 ≤ hd3.toInt ∧ hd3.toInt ≤ 3)) → (hdK hv3.toInt hd3.toInt) → (itC (fun q : Nat => (bi (lnB fw fi.toInt (q : Int))).toInt) k.toInt.toNat (hd.toInt, hv.toInt, lk.toInt, dn.toInt, ht.toInt, sl.toInt, br.toInt, wh.toInt, gc.toInt) (hd3.toInt, hv3.toInt, lk3.toInt, dn3.toInt, ht3.toInt, sl3.toInt, br3.toInt, wh3.toInt, gc3.toInt)) → va_P D classes [(aX, .inr (5, [.ref aL, .ref aS, .ref aR])), (aW, .inl (cJ, 142, .inr (.inl fw))), (aB, .inr (3, [.long lb3])), (aT, .inl (cI, 300, .inl ft3)), (aP, .inl (cJ, 300, .inr (.inl fp3))), (aR, .inr (2, [.ref aB, .ref aQ, .int hd3, .long pl3, .int hv3, .int lk3, .int dn3, .int ht3, .int sl3, .int br3, .int wh3])), (aQ, .inr (0, [.ref aT, .ref aP, .int gc3])), (aL, .inr (1, [.ref aW, .int fi, .int cn]))] H → va_D A [(aX, .inr (5, [.ref aL, .ref aS, .ref aR])), (aW, .inl (cJ, 142, .inr (.inl fw))), (aB, .inr (3, [.long lb3])), (aT, .inl (cI, 300, .inl ft3)), (aP, .inl (cJ, 300, .inr (.inl fp3))), (aR, .inr (2, [.ref aB, .ref aQ, .int hd3, .long pl3, .int hv3, .int lk3, .int dn3, .int ht3, .int sl3, .int br3, .int wh3])), (aQ, .inr (0, [.ref aT, .ref aP, .int gc3])), (aL, .inr (1, [.ref aW, .int fi, .int cn]))] → va_S A s.heap H locs → lv_has ls 5 [(3, .int v4), (2, .int r2), (0, .ref aX), (1, .int nn), (4, .int k)] → W p l e (rmL 5 108 0 0) s m args below meth c H locs 0 0 Q (F0 m 30 ls []) := by
      intro n
      induction n with
      | zero => intro k hd3 pl3 hv3 lk3 dn3 ht3 sl3 br3 wh3 lb3 gc3 ft3 fp3 H locs ls hmu; exact absurd hmu (Nat.not_lt_zero _)
      | succ n ih30 =>
        intro k hd3 pl3 hv3 lk3 dn3 ht3 sl3 br3 wh3 lb3 gc3 ft3 fp3 H locs ls hmu30 i30_0 i30_1 i30_2 i30_3 i30_4 hP hD hS hl
        have rg_k := zi_rg k
        have rg_hd3 := zi_rg hd3
        have rg_hv3 := zi_rg hv3
        have rg_lk3 := zi_rg lk3
        have rg_dn3 := zi_rg dn3
        have rg_ht3 := zi_rg ht3
        have rg_sl3 := zi_rg sl3
        have rg_br3 := zi_rg br3
        have rg_wh3 := zi_rg wh3
        have rg_gc3 := zi_rg gc3
        refine lv_iload hx hb dX6_receive_30 (lv_at hl 4 rfl) ?_
        refine lv_iload_n hx hb dX6_receive_32 rfl (lv_at hl 0 rfl) ?_
        refine lv_icmp_ge (tgt := 58) hx hb dX6_receive_33 (by decide) (fun c6 => ?_) (fun c6 => ?_)
        ·
          have z6 := zi_le c6
          refine lv_aload_n hx hb dX6_receive_58 rfl (lv_at hl 2 rfl) ?_
          refine va_get (D := D) (ci := 5) (v := .ref aL) (C := RX6) (T := TX6) (N := 3) hx hb hts in_X6 hown hK hP 0 rfl rfl 0 (by decide) (hts _ wk16) (fun _ h9 => h9) rfl dX6_receive_59 ?_
          refine lv_iload_n hx hb dX6_receive_62 rfl (lv_at hl 0 rfl) ?_
          have hh7 : 0 ≤ fi.toInt ∧ fi.toInt < 9088 := (by omega)
          have hh8 : 0 ≤ cn.toInt ∧ cn.toInt ≤ 9066 := (by omega)
          have hh9 : 0 ≤ v4.toInt ∧ v4.toInt ≤ cn.toInt := (by omega)
          refine call_v (wc := [(aL, .inr (1, [.ref aW, .int fi, .int cn]))]) (wr := [(aX, .inr (5, [.ref aL, .ref aS, .ref aR])), (aW, .inl (cJ, 142, .inr (.inl fw))), (aB, .inr (3, [.long lb3])), (aT, .inl (cI, 300, .inl ft3)), (aP, .inl (cJ, 300, .inr (.inl fp3))), (aR, .inr (2, [.ref aB, .ref aQ, .int hd3, .long pl3, .int hv3, .int lk3, .int dn3, .int ht3, .int sl3, .int br3, .int wh3])), (aQ, .inr (0, [.ref aT, .ref aP, .int gc3]))]) (run_V (As := [.int v4]) (rest := []) kv_RX6_81 ⟨by decide, by decide⟩ ⟨rfl, rfl⟩ ⟨hx, hb, hml, hown, hts⟩ (c_Ln_dropFirst l D cI cJ cB aL aW fi cn v4 hh7 hh8 hh9 _) ct_blind (ct_pre (wc := [(aL, .inr (1, [.ref aW, .int fi, .int cn]))]) hK hP hD hS hA hZ hN [7] (by decide) rfl rfl) (va_recv hK hP (ci := 1) (q0 := 7) rfl rfl) rfl hl.1 rfl (Nat.le_of_ble_eq_true rfl) dX6_receive_63 ⟨Nat.le_of_ble_eq_true rfl, Nat.le_of_ble_eq_true rfl⟩) hP hD hS hA [7] [0, 1, 2, 3, 4, 5, 6] rfl rfl (by decide) (by decide) (fun u H locs hw10 hP1 hD1 hS1 => ?_)
          obtain ⟨fi2_10, cn2_10⟩ := u
          have hw10 : (0 ≤ fi2_10.toInt ∧ fi2_10.toInt < 9088) ∧ cn2_10.toInt = cn.toInt - v4.toInt ∧ fi2_10.toInt = (fi.toInt + v4.toInt) % 9088 := hw10
          clear hP hD hS
          have hP : va_P D classes [(aX, .inr (5, [.ref aL, .ref aS, .ref aR])), (aW, .inl (cJ, 142, .inr (.inl fw))), (aB, .inr (3, [.long lb3])), (aT, .inl (cI, 300, .inl ft3)), (aP, .inl (cJ, 300, .inr (.inl fp3))), (aR, .inr (2, [.ref aB, .ref aQ, .int hd3, .long pl3, .int hv3, .int lk3, .int dn3, .int ht3, .int sl3, .int br3, .int wh3])), (aQ, .inr (0, [.ref aT, .ref aP, .int gc3])), (aL, .inr (1, [.ref aW, .int fi2_10, .int cn2_10]))] H := hP1
          have hD : va_D A [(aX, .inr (5, [.ref aL, .ref aS, .ref aR])), (aW, .inl (cJ, 142, .inr (.inl fw))), (aB, .inr (3, [.long lb3])), (aT, .inl (cI, 300, .inl ft3)), (aP, .inl (cJ, 300, .inr (.inl fp3))), (aR, .inr (2, [.ref aB, .ref aQ, .int hd3, .long pl3, .int hv3, .int lk3, .int dn3, .int ht3, .int sl3, .int br3, .int wh3])), (aQ, .inr (0, [.ref aT, .ref aP, .int gc3])), (aL, .inr (1, [.ref aW, .int fi2_10, .int cn2_10]))] := hD1
          have hS := hS1
          clear hP1 hD1 hS1
          have rg_fi2_10 := zi_rg fi2_10
          have rg_cn2_10 := zi_rg cn2_10
          refine lv_aload_n hx hb dX6_receive_66 rfl (lv_at hl 2 rfl) ?_
          refine va_get (D := D) (ci := 5) (v := .ref aR) (C := RX6) (T := TX6) (N := 3) hx hb hts in_X6 hown hK hP 0 rfl rfl 2 (by decide) (hts _ wk24) (fun _ h9 => h9) rfl dX6_receive_67 ?_
          refine call_i (wc := [(aR, .inr (2, [.ref aB, .ref aQ, .int hd3, .long pl3, .int hv3, .int lk3, .int dn3, .int ht3, .int sl3, .int br3, .int wh3])), (aQ, .inr (0, [.ref aT, .ref aP, .int gc3]))]) (wr := [(aX, .inr (5, [.ref aL, .ref aS, .ref aR])), (aW, .inl (cJ, 142, .inr (.inl fw))), (aB, .inr (3, [.long lb3])), (aT, .inl (cI, 300, .inl ft3)), (aP, .inl (cJ, 300, .inr (.inl fp3))), (aL, .inr (1, [.ref aW, .int fi2_10, .int cn2_10]))]) (run_V (As := []) (rest := []) kv_RX6_69 ⟨by decide, by decide⟩ ⟨rfl, rfl⟩ ⟨hx, hb, hml, hown, hts⟩ (c_Re_groupCount l D cI cJ cB aR aB aQ aT aP hd3 pl3 hv3 lk3 dn3 ht3 sl3 br3 wh3 gc3  _) ct_blind (ct_pre (wc := [(aR, .inr (2, [.ref aB, .ref aQ, .int hd3, .long pl3, .int hv3, .int lk3, .int dn3, .int ht3, .int sl3, .int br3, .int wh3])), (aQ, .inr (0, [.ref aT, .ref aP, .int gc3]))]) hK hP hD hS hA hZ hN [5, 6] (by decide) rfl rfl) (va_recv hK hP (ci := 2) (q0 := 5) rfl rfl) rfl hl.1 rfl (Nat.le_of_ble_eq_true rfl) dX6_receive_70 ⟨Nat.le_of_ble_eq_true rfl, Nat.le_of_ble_eq_true rfl⟩) hP hD hS hA [5, 6] [0, 1, 2, 3, 4, 7] rfl rfl (by decide) (by decide) (fun r11 u H locs hw11 hP1 hD1 hS1 => ?_)
          have hw11 : r11.toInt = gc3.toInt := hw11
          clear hP hD hS
          have hP : va_P D classes [(aX, .inr (5, [.ref aL, .ref aS, .ref aR])), (aW, .inl (cJ, 142, .inr (.inl fw))), (aB, .inr (3, [.long lb3])), (aT, .inl (cI, 300, .inl ft3)), (aP, .inl (cJ, 300, .inr (.inl fp3))), (aL, .inr (1, [.ref aW, .int fi2_10, .int cn2_10])), (aR, .inr (2, [.ref aB, .ref aQ, .int hd3, .long pl3, .int hv3, .int lk3, .int dn3, .int ht3, .int sl3, .int br3, .int wh3])), (aQ, .inr (0, [.ref aT, .ref aP, .int gc3]))] H := hP1
          have hD : va_D A [(aX, .inr (5, [.ref aL, .ref aS, .ref aR])), (aW, .inl (cJ, 142, .inr (.inl fw))), (aB, .inr (3, [.long lb3])), (aT, .inl (cI, 300, .inl ft3)), (aP, .inl (cJ, 300, .inr (.inl fp3))), (aL, .inr (1, [.ref aW, .int fi2_10, .int cn2_10])), (aR, .inr (2, [.ref aB, .ref aQ, .int hd3, .long pl3, .int hv3, .int lk3, .int dn3, .int ht3, .int sl3, .int br3, .int wh3])), (aQ, .inr (0, [.ref aT, .ref aP, .int gc3]))] := hD1
          have hS := hS1
          clear hP1 hD1 hS1
          have rg_r11 := zi_rg r11
          refine lv_iload_n hx hb dX6_receive_73 rfl (lv_at hl 1 rfl) ?_
          refine lv_isub hx hb dX6_receive_74 ?_
          refine lv_topi (fun v12 e12 => ?_)
          first | have z12 := zi_sub e12 (by omega) | skip
          have hq13 : (((((0 ≤ lk3.toInt ∧ lk3.toInt ≤ 1) ∧ (0 ≤ dn3.toInt ∧ dn3.toInt ≤ 1) ∧ (0 ≤ ht3.toInt ∧ ht3.toInt ≤ 63) ∧ (0 ≤ br3.toInt ∧ br3.toInt ≤ 63) ∧ (0 ≤ wh3.toInt ∧ wh3.toInt ≤ 15)) ∧ (sl.toInt ≤ sl3.toInt ∧ sl3.toInt ≤ sl.toInt + 9066) ∧ (0 ≤ hv3.toInt ∧ hv3.toInt ≤ 65) ∧ (0 ≤ hd3.toInt ∧ hd3.toInt ≤ 3)) ∧ hdK hv3.toInt hd3.toInt) ∧ rcA nn.toInt cn.toInt (fun q : Nat => (bi (lnB fw fi.toInt (q : Int))).toInt) (hd.toInt, hv.toInt, lk.toInt, dn.toInt, ht.toInt, sl.toInt, br.toInt, wh.toInt, gc.toInt) (hd3.toInt, hv3.toInt, lk3.toInt, dn3.toInt, ht3.toInt, sl3.toInt, br3.toInt, wh3.toInt, gc3.toInt) v12.toInt) ∧ (0 ≤ fi2_10.toInt ∧ fi2_10.toInt < 9088) ∧ (gc.toInt ≤ gc3.toInt ∧ gc3.toInt ≤ gc.toInt + 9066) ∧ (0 ≤ lk3.toInt ∧ lk3.toInt ≤ 1) ∧ (nn.toInt < 0 → v12.toInt = -12 ∧ cn2_10.toInt = cn.toInt) ∧ (0 ≤ nn.toInt → (0 ≤ v12.toInt ∧ v12.toInt ≤ cn.toInt) ∧ (cn.toInt ≤ nn.toInt → cn2_10.toInt = 0) ∧ (nn.toInt < cn.toInt → cn2_10.toInt = cn.toInt - nn.toInt)) ∧ ∀ j : Int, lnB fw fi2_10.toInt j = lnB fw fi.toInt (j + (cn.toInt - cn2_10.toInt)) := (by refine ⟨?_, by omega, by omega, by omega, by omega, by omega, fun j => ?_⟩; (· first | exact ⟨⟨by omega, i30_3⟩, rcA_i i30_4 (by omega) (by omega) (show v12.toInt = gc3.toInt - gc.toInt by omega)⟩ | exact ⟨⟨by omega, h5⟩, rcA_n (by omega) (by omega) (by omega)⟩); (· first | (rw [lnB_drop hw10.2.2 j]; congr 1; omega) | (rw [show j + (cn.toInt - cn.toInt) = j by omega])))
          exact hret v12 (fi2_10, cn2_10, hd3, pl3, hv3, lk3, dn3, ht3, sl3, br3, wh3, lb3, gc3, ft3, fp3) _ _ _ _ dX6_receive_75 hq13 (hP.sub [0, 5, 1, 6, 2, 7, 3, 4] rfl) (hD.sub [0, 5, 1, 6, 2, 7, 3, 4] (by decide) rfl) hS
        ·
          have z6 := zi_nle c6
          refine lv_aload_n hx hb dX6_receive_36 rfl (lv_at hl 2 rfl) ?_
          refine va_get (D := D) (ci := 5) (v := .ref aR) (C := RX6) (T := TX6) (N := 3) hx hb hts in_X6 hown hK hP 0 rfl rfl 2 (by decide) (hts _ wk24) (fun _ h9 => h9) rfl dX6_receive_37 ?_
          refine lv_aload_n hx hb dX6_receive_40 rfl (lv_at hl 2 rfl) ?_
          refine va_get (D := D) (ci := 5) (v := .ref aL) (C := RX6) (T := TX6) (N := 3) hx hb hts in_X6 hown hK hP 0 rfl rfl 0 (by decide) (hts _ wk16) (fun _ h9 => h9) rfl dX6_receive_41 ?_
          refine lv_iload hx hb dX6_receive_44 (lv_at hl 4 rfl) ?_
          have hh14 : 0 ≤ fi.toInt ∧ fi.toInt < 9088 := (by omega)
          have hh15 : 0 ≤ k.toInt ∧ k.toInt ≤ 9087 := (by omega)
          refine call_i (wc := [(aL, .inr (1, [.ref aW, .int fi, .int cn])), (aW, .inl (cJ, 142, .inr (.inl fw)))]) (wr := [(aX, .inr (5, [.ref aL, .ref aS, .ref aR])), (aB, .inr (3, [.long lb3])), (aT, .inl (cI, 300, .inl ft3)), (aP, .inl (cJ, 300, .inr (.inl fp3))), (aR, .inr (2, [.ref aB, .ref aQ, .int hd3, .long pl3, .int hv3, .int lk3, .int dn3, .int ht3, .int sl3, .int br3, .int wh3])), (aQ, .inr (0, [.ref aT, .ref aP, .int gc3]))]) (run_V (As := [.int k]) (rest := [.ref aR]) kv_RX6_58 ⟨by decide, by decide⟩ ⟨rfl, rfl⟩ ⟨hx, hb, hml, hown, hts⟩ (c_Ln_at l D cI cJ cB aL aW fi cn k fw hh14 hh15 _) ct_blind (ct_pre (wc := [(aL, .inr (1, [.ref aW, .int fi, .int cn])), (aW, .inl (cJ, 142, .inr (.inl fw)))]) hK hP hD hS hA hZ hN [7, 1] (by decide) rfl rfl) (va_recv hK hP (ci := 1) (q0 := 7) rfl rfl) rfl hl.1 rfl (Nat.le_of_ble_eq_true rfl) dX6_receive_46 ⟨Nat.le_of_ble_eq_true rfl, Nat.le_of_ble_eq_true rfl⟩) hP hD hS hA [7, 1] [0, 2, 3, 4, 5, 6] rfl rfl (by decide) (by decide) (fun r16 u H locs hw16 hP1 hD1 hS1 => ?_)
          have hw16 : (0 ≤ r16.toInt ∧ r16.toInt < 2) ∧ r16 = bi (lnB fw fi.toInt k.toInt) := hw16
          clear hP hD hS
          have hP : va_P D classes [(aX, .inr (5, [.ref aL, .ref aS, .ref aR])), (aB, .inr (3, [.long lb3])), (aT, .inl (cI, 300, .inl ft3)), (aP, .inl (cJ, 300, .inr (.inl fp3))), (aR, .inr (2, [.ref aB, .ref aQ, .int hd3, .long pl3, .int hv3, .int lk3, .int dn3, .int ht3, .int sl3, .int br3, .int wh3])), (aQ, .inr (0, [.ref aT, .ref aP, .int gc3])), (aL, .inr (1, [.ref aW, .int fi, .int cn])), (aW, .inl (cJ, 142, .inr (.inl fw)))] H := hP1
          have hD : va_D A [(aX, .inr (5, [.ref aL, .ref aS, .ref aR])), (aB, .inr (3, [.long lb3])), (aT, .inl (cI, 300, .inl ft3)), (aP, .inl (cJ, 300, .inr (.inl fp3))), (aR, .inr (2, [.ref aB, .ref aQ, .int hd3, .long pl3, .int hv3, .int lk3, .int dn3, .int ht3, .int sl3, .int br3, .int wh3])), (aQ, .inr (0, [.ref aT, .ref aP, .int gc3])), (aL, .inr (1, [.ref aW, .int fi, .int cn])), (aW, .inl (cJ, 142, .inr (.inl fw)))] := hD1
          have hS := hS1
          clear hP1 hD1 hS1
          have rg_r16 := zi_rg r16
          have hh17 : 0 ≤ gc3.toInt ∧ gc3.toInt ≤ 1000000000 := (by omega)
          have hh18 : (0 ≤ lk3.toInt ∧ lk3.toInt ≤ 1) ∧ (0 ≤ dn3.toInt ∧ dn3.toInt ≤ 1) ∧ (0 ≤ ht3.toInt ∧ ht3.toInt ≤ 63) ∧ (0 ≤ br3.toInt ∧ br3.toInt ≤ 63) ∧ (0 ≤ wh3.toInt ∧ wh3.toInt ≤ 15) ∧ (0 ≤ sl3.toInt ∧ sl3.toInt ≤ 1000000000) ∧ (0 ≤ hv3.toInt ∧ hv3.toInt ≤ 65) ∧ (0 ≤ hd3.toInt ∧ hd3.toInt ≤ 3) := (by omega)
          have hh19 : 0 ≤ r16.toInt ∧ r16.toInt ≤ 1 := (by omega)
          have hh20 : hdK hv3.toInt hd3.toInt := i30_3
          refine call_v (wc := [(aR, .inr (2, [.ref aB, .ref aQ, .int hd3, .long pl3, .int hv3, .int lk3, .int dn3, .int ht3, .int sl3, .int br3, .int wh3])), (aB, .inr (3, [.long lb3])), (aQ, .inr (0, [.ref aT, .ref aP, .int gc3])), (aT, .inl (cI, 300, .inl ft3)), (aP, .inl (cJ, 300, .inr (.inl fp3)))]) (wr := [(aX, .inr (5, [.ref aL, .ref aS, .ref aR])), (aL, .inr (1, [.ref aW, .int fi, .int cn])), (aW, .inl (cJ, 142, .inr (.inl fw)))]) (run_V (As := [.int r16]) (rest := []) kv_RX6_78 ⟨by decide, by decide⟩ ⟨rfl, rfl⟩ ⟨hx, hb, hml, hown, hts⟩ (c_Re_take l D cI cJ cB aR aB aQ aT aP hd3 pl3 hv3 lk3 dn3 ht3 sl3 br3 wh3 lb3 gc3 ft3 fp3 r16 hh17 hh18 hh19 hh20 _) ct_blind (ct_pre (wc := [(aR, .inr (2, [.ref aB, .ref aQ, .int hd3, .long pl3, .int hv3, .int lk3, .int dn3, .int ht3, .int sl3, .int br3, .int wh3])), (aB, .inr (3, [.long lb3])), (aQ, .inr (0, [.ref aT, .ref aP, .int gc3])), (aT, .inl (cI, 300, .inl ft3)), (aP, .inl (cJ, 300, .inr (.inl fp3)))]) hK hP hD hS hA hZ hN [4, 1, 5, 2, 3] (by decide) rfl rfl) (va_recv hK hP (ci := 2) (q0 := 4) rfl rfl) rfl hl.1 rfl (Nat.le_of_ble_eq_true rfl) dX6_receive_49 ⟨Nat.le_of_ble_eq_true rfl, Nat.le_of_ble_eq_true rfl⟩) hP hD hS hA [4, 1, 5, 2, 3] [0, 6, 7] rfl rfl (by decide) (by decide) (fun u H locs hw21 hP1 hD1 hS1 => ?_)
          obtain ⟨hd2_21, pl2_21, hv2_21, lk2_21, dn2_21, ht2_21, sl2_21, br2_21, wh2_21, la2_21, gc2_21, ft2_21, fp2_21⟩ := u
          have hw21 : (gc3.toInt ≤ gc2_21.toInt ∧ gc2_21.toInt ≤ gc3.toInt + 1) ∧ (((0 ≤ lk2_21.toInt ∧ lk2_21.toInt ≤ 1) ∧ (0 ≤ dn2_21.toInt ∧ dn2_21.toInt ≤ 1) ∧ (0 ≤ ht2_21.toInt ∧ ht2_21.toInt ≤ 63) ∧ (0 ≤ br2_21.toInt ∧ br2_21.toInt ≤ 63) ∧ (0 ≤ wh2_21.toInt ∧ wh2_21.toInt ≤ 15) ∧ (sl3.toInt ≤ sl2_21.toInt ∧ sl2_21.toInt ≤ sl3.toInt + 1)) ∧ ((0 ≤ hv2_21.toInt ∧ hv2_21.toInt ≤ 65) ∧ (0 ≤ hd2_21.toInt ∧ hd2_21.toInt ≤ 3)) ∧ hdK hv2_21.toInt hd2_21.toInt) ∧ tkR r16.toInt hd3.toInt hv3.toInt lk3.toInt dn3.toInt ht3.toInt sl3.toInt br3.toInt wh3.toInt gc3.toInt hd2_21.toInt hv2_21.toInt lk2_21.toInt dn2_21.toInt ht2_21.toInt sl2_21.toInt br2_21.toInt wh2_21.toInt gc2_21.toInt := hw21
          clear hP hD hS
          have hP : va_P D classes [(aX, .inr (5, [.ref aL, .ref aS, .ref aR])), (aL, .inr (1, [.ref aW, .int fi, .int cn])), (aW, .inl (cJ, 142, .inr (.inl fw))), (aR, .inr (2, [.ref aB, .ref aQ, .int hd2_21, .long pl2_21, .int hv2_21, .int lk2_21, .int dn2_21, .int ht2_21, .int sl2_21, .int br2_21, .int wh2_21])), (aB, .inr (3, [.long la2_21])), (aQ, .inr (0, [.ref aT, .ref aP, .int gc2_21])), (aT, .inl (cI, 300, .inl ft2_21)), (aP, .inl (cJ, 300, .inr (.inl fp2_21)))] H := hP1
          have hD : va_D A [(aX, .inr (5, [.ref aL, .ref aS, .ref aR])), (aL, .inr (1, [.ref aW, .int fi, .int cn])), (aW, .inl (cJ, 142, .inr (.inl fw))), (aR, .inr (2, [.ref aB, .ref aQ, .int hd2_21, .long pl2_21, .int hv2_21, .int lk2_21, .int dn2_21, .int ht2_21, .int sl2_21, .int br2_21, .int wh2_21])), (aB, .inr (3, [.long la2_21])), (aQ, .inr (0, [.ref aT, .ref aP, .int gc2_21])), (aT, .inl (cI, 300, .inl ft2_21)), (aP, .inl (cJ, 300, .inr (.inl fp2_21)))] := hD1
          have hS := hS1
          clear hP1 hD1 hS1
          have rg_hd2_21 := zi_rg hd2_21
          have rg_hv2_21 := zi_rg hv2_21
          have rg_lk2_21 := zi_rg lk2_21
          have rg_dn2_21 := zi_rg dn2_21
          have rg_ht2_21 := zi_rg ht2_21
          have rg_sl2_21 := zi_rg sl2_21
          have rg_br2_21 := zi_rg br2_21
          have rg_wh2_21 := zi_rg wh2_21
          have rg_gc2_21 := zi_rg gc2_21
          obtain ⟨v22, e22⟩ : ∃ y : Int32, y = k + 1 := ⟨_, rfl⟩
          first | have z22 := zi_inc (z := 1) 1 (by decide) e22 (by omega) | skip
          refine lv_iinc (v := v22) (lv' := [(4, .int v22), (3, .int v4), (2, .int r2), (0, .ref aX), (1, .int nn)]) hx hb dX6_receive_52 hl (k := 4) rfl (by rw [e22]; rfl) (by decide) rfl (fun ls hl => ?_)
          refine lv_goto (tgt := 30) hx hb dX6_receive_55 (by decide) ?_
          exact ih30 v22 hd2_21 pl2_21 hv2_21 lk2_21 dn2_21 ht2_21 sl2_21 br2_21 wh2_21 la2_21 gc2_21 ft2_21 fp2_21 _ _ _ (by omega) (by omega) (by omega) (by omega) hw21.2.1.2.2 (itC_s (b := r16.toInt) i30_4 (by show r16.toInt = (bi (lnB fw fi.toInt ((k.toInt.toNat : Nat) : Int))).toInt; rw [show ((k.toInt.toNat : Nat) : Int) = k.toInt by omega, hw16.2]) (show v22.toInt.toNat = k.toInt.toNat + 1 by omega) hw21.2.2) (hP.sub [0, 2, 4, 6, 7, 3, 5, 1] rfl) (hD.sub [0, 2, 4, 6, 7, 3, 5, 1] (by decide) rfl) hS (lv_sub hl [1, 2, 3, 4, 0] rfl)
    exact J30 _ v5 hd pl hv lk dn ht sl br wh lb gc ft fp _ _ _ (Nat.lt_succ_self _) (by omega) (by omega) (by omega) h5 (by rw [show v5.toInt.toNat = 0 by omega]; exact rfl) (hP.sub [0, 1, 2, 3, 4, 5, 6, 7] rfl) (hD.sub [0, 1, 2, 3, 4, 5, 6, 7] (by decide) rfl) hS (lv_sub hl [1, 2, 3, 4, 0] rfl)
  ·
    have z1 := zi_nge0 c1
    refine lv_bipush (v := -12) hx hb dX6_receive_4 (by decide) ?_
    refine lv_topi (fun v23 e23 => ?_)
    have z23 : v23.toInt = (-12) := zi_c e23 (by decide)
    have hq24 : (((((0 ≤ lk.toInt ∧ lk.toInt ≤ 1) ∧ (0 ≤ dn.toInt ∧ dn.toInt ≤ 1) ∧ (0 ≤ ht.toInt ∧ ht.toInt ≤ 63) ∧ (0 ≤ br.toInt ∧ br.toInt ≤ 63) ∧ (0 ≤ wh.toInt ∧ wh.toInt ≤ 15)) ∧ (sl.toInt ≤ sl.toInt ∧ sl.toInt ≤ sl.toInt + 9066) ∧ (0 ≤ hv.toInt ∧ hv.toInt ≤ 65) ∧ (0 ≤ hd.toInt ∧ hd.toInt ≤ 3)) ∧ hdK hv.toInt hd.toInt) ∧ rcA nn.toInt cn.toInt (fun q : Nat => (bi (lnB fw fi.toInt (q : Int))).toInt) (hd.toInt, hv.toInt, lk.toInt, dn.toInt, ht.toInt, sl.toInt, br.toInt, wh.toInt, gc.toInt) (hd.toInt, hv.toInt, lk.toInt, dn.toInt, ht.toInt, sl.toInt, br.toInt, wh.toInt, gc.toInt) v23.toInt) ∧ (0 ≤ fi.toInt ∧ fi.toInt < 9088) ∧ (gc.toInt ≤ gc.toInt ∧ gc.toInt ≤ gc.toInt + 9066) ∧ (0 ≤ lk.toInt ∧ lk.toInt ≤ 1) ∧ (nn.toInt < 0 → v23.toInt = -12 ∧ cn.toInt = cn.toInt) ∧ (0 ≤ nn.toInt → (0 ≤ v23.toInt ∧ v23.toInt ≤ cn.toInt) ∧ (cn.toInt ≤ nn.toInt → cn.toInt = 0) ∧ (nn.toInt < cn.toInt → cn.toInt = cn.toInt - nn.toInt)) ∧ ∀ j : Int, lnB fw fi.toInt j = lnB fw fi.toInt (j + (cn.toInt - cn.toInt)) := (by refine ⟨?_, by omega, by omega, by omega, by omega, by omega, fun j => ?_⟩; (· first | exact ⟨⟨by omega, i30_3⟩, rcA_i i30_4 (by omega) (by omega) (show v12.toInt = gc3.toInt - gc.toInt by omega)⟩ | exact ⟨⟨by omega, h5⟩, rcA_n (by omega) (by omega) (by omega)⟩); (· first | (rw [lnB_drop hw10.2.2 j]; congr 1; omega) | (rw [show j + (cn.toInt - cn.toInt) = j by omega])))
    exact hret v23 (fi, cn, hd, pl, hv, lk, dn, ht, sl, br, wh, lb, gc, ft, fp) _ _ _ _ dX6_receive_6 hq24 (hP.sub [0, 1, 2, 3, 4, 5, 6, 7] rfl) (hD.sub [0, 1, 2, 3, 4, 5, 6, 7] (by decide) rfl) hS

set_option maxHeartbeats 4000000 in
set_option maxRecDepth 100000 in
theorem c_LB_told (l : Launch) (D : va_G) (cI cJ cB : ClassId) (aX : Nat) (aL : Nat) (aS : Nat) (aR : Nat) (aB : Nat) (aQ : Nat) (aT : Nat) (aP : Nat) (hd : Int32) (pl : Int64) (hv : Int32) (lk : Int32) (dn : Int32) (ht : Int32) (sl : Int32) (br : Int32) (wh : Int32) (gc : Int32) (i : Int32) (j : Int32) (ft : Nat → Int32) (fp : Nat → Int64)  :
    cti l yX6_told (wsOf yX6_told cX6_told 3 (some .int)) (rmL 7 158 0 0) D classes (tys3 cI cJ cB) [.ref aX, .int i, .int j] [(aX, .inr (5, [.ref aL, .ref aS, .ref aR])), (aR, .inr (2, [.ref aB, .ref aQ, .int hd, .long pl, .int hv, .int lk, .int dn, .int ht, .int sl, .int br, .int wh])), (aQ, .inr (0, [.ref aT, .ref aP, .int gc])), (aT, .inl (cI, 300, .inl ft)), (aP, .inl (cJ, 300, .inr (.inl fp)))] (fun (r : Int32) (u : Unit) => gc.toInt = 0 → r.toInt = -1) (fun u : Unit => ([(aX, .inr (5, [.ref aL, .ref aS, .ref aR])), (aR, .inr (2, [.ref aB, .ref aQ, .int hd, .long pl, .int hv, .int lk, .int dn, .int ht, .int sl, .int br, .int wh])), (aQ, .inr (0, [.ref aT, .ref aP, .int gc])), (aT, .inl (cI, 300, .inl ft)), (aP, .inl (cJ, 300, .inr (.inl fp)))] : va_W)) := by
  refine cti.of (by first | exact plainFor_of_name (by decide) | decide +kernel) (Nat.le_of_ble_eq_true rfl) (fun p e s m args below meth c A ls Q h hret => ?_)
  obtain ⟨hx, hb, hml, hown, hts, hnm, hP, hK, hD, hA, hS, hZ, hN, hl⟩ := h
  have hown : s.vm.findClass RX6 = some m.cls := hown
  have hl : lv_has ls 3 [(0, .ref aX), (1, .int i), (2, .int j)] := hl
  have hP : va_P D classes [(aX, .inr (5, [.ref aL, .ref aS, .ref aR])), (aR, .inr (2, [.ref aB, .ref aQ, .int hd, .long pl, .int hv, .int lk, .int dn, .int ht, .int sl, .int br, .int wh])), (aQ, .inr (0, [.ref aT, .ref aP, .int gc])), (aT, .inl (cI, 300, .inl ft)), (aP, .inl (cJ, 300, .inr (.inl fp)))] s.heap := hP
  have hD : va_D A [(aX, .inr (5, [.ref aL, .ref aS, .ref aR])), (aR, .inr (2, [.ref aB, .ref aQ, .int hd, .long pl, .int hv, .int lk, .int dn, .int ht, .int sl, .int br, .int wh])), (aQ, .inr (0, [.ref aT, .ref aP, .int gc])), (aT, .inl (cI, 300, .inl ft)), (aP, .inl (cJ, 300, .inr (.inl fp)))] := hD
  have rg_hd := zi_rg hd
  have rg_hv := zi_rg hv
  have rg_lk := zi_rg lk
  have rg_dn := zi_rg dn
  have rg_ht := zi_rg ht
  have rg_sl := zi_rg sl
  have rg_br := zi_rg br
  have rg_wh := zi_rg wh
  have rg_gc := zi_rg gc
  have rg_i := zi_rg i
  have rg_j := zi_rg j
  refine lv_aload_n hx hb dX6_told_0 rfl (lv_at hl 0 rfl) ?_
  refine va_get (D := D) (ci := 5) (v := .ref aR) (C := RX6) (T := TX6) (N := 3) hx hb hts in_X6 hown hK hP 0 rfl rfl 2 (by decide) (hts _ wk24) (fun _ h9 => h9) rfl dX6_told_1 ?_
  refine lv_iload_n hx hb dX6_told_4 rfl (lv_at hl 1 rfl) ?_
  refine lv_iload_n hx hb dX6_told_5 rfl (lv_at hl 2 rfl) ?_
  refine call_i (wc := [(aR, .inr (2, [.ref aB, .ref aQ, .int hd, .long pl, .int hv, .int lk, .int dn, .int ht, .int sl, .int br, .int wh])), (aQ, .inr (0, [.ref aT, .ref aP, .int gc])), (aT, .inl (cI, 300, .inl ft)), (aP, .inl (cJ, 300, .inr (.inl fp)))]) (wr := [(aX, .inr (5, [.ref aL, .ref aS, .ref aR]))]) (run_V (As := [.int i, .int j]) (rest := []) kv_RX6_84 ⟨by decide, by decide⟩ ⟨rfl, rfl⟩ ⟨hx, hb, hml, hown, hts⟩ (c_Re_character l D cI cJ cB aR aB aQ aT aP hd pl hv lk dn ht sl br wh gc i j ft fp  _) ct_blind (ct_pre (wc := [(aR, .inr (2, [.ref aB, .ref aQ, .int hd, .long pl, .int hv, .int lk, .int dn, .int ht, .int sl, .int br, .int wh])), (aQ, .inr (0, [.ref aT, .ref aP, .int gc])), (aT, .inl (cI, 300, .inl ft)), (aP, .inl (cJ, 300, .inr (.inl fp)))]) hK hP hD hS hA hZ hN [1, 2, 3, 4] (by decide) rfl rfl) (va_recv hK hP (ci := 2) (q0 := 1) rfl rfl) rfl hl.1 rfl (Nat.le_of_ble_eq_true rfl) dX6_told_6 ⟨Nat.le_of_ble_eq_true rfl, Nat.le_of_ble_eq_true rfl⟩) hP hD hS hA [1, 2, 3, 4] [0] rfl rfl (by decide) (by decide) (fun r1 u H locs hw1 hP1 hD1 hS1 => ?_)
  have hw1 : gc.toInt = 0 → r1.toInt = -1 := hw1
  clear hP hD hS
  have hP : va_P D classes [(aX, .inr (5, [.ref aL, .ref aS, .ref aR])), (aR, .inr (2, [.ref aB, .ref aQ, .int hd, .long pl, .int hv, .int lk, .int dn, .int ht, .int sl, .int br, .int wh])), (aQ, .inr (0, [.ref aT, .ref aP, .int gc])), (aT, .inl (cI, 300, .inl ft)), (aP, .inl (cJ, 300, .inr (.inl fp)))] H := hP1
  have hD : va_D A [(aX, .inr (5, [.ref aL, .ref aS, .ref aR])), (aR, .inr (2, [.ref aB, .ref aQ, .int hd, .long pl, .int hv, .int lk, .int dn, .int ht, .int sl, .int br, .int wh])), (aQ, .inr (0, [.ref aT, .ref aP, .int gc])), (aT, .inl (cI, 300, .inl ft)), (aP, .inl (cJ, 300, .inr (.inl fp)))] := hD1
  have hS := hS1
  clear hP1 hD1 hS1
  have rg_r1 := zi_rg r1
  have hq2 : gc.toInt = 0 → r1.toInt = -1 := (by omega)
  exact hret r1 () _ _ _ _ dX6_told_9 hq2 (hP.sub [0, 1, 2, 3, 4] rfl) (hD.sub [0, 1, 2, 3, 4] (by decide) rfl) hS

set_option maxHeartbeats 4000000 in
set_option maxRecDepth 100000 in
theorem c_LB_receiver (l : Launch) (D : va_G) (cI cJ cB : ClassId) (aX : Nat) (aL : Nat) (aS : Nat) (aR : Nat) (aB : Nat) (aQ : Nat) (aT : Nat) (aP : Nat) (hd : Int32) (pl : Int64) (hv : Int32) (lk : Int32) (dn : Int32) (ht : Int32) (sl : Int32) (br : Int32) (wh : Int32) (gc : Int32) (x : Int32) (h1 : 0 ≤ lk.toInt ∧ lk.toInt ≤ 1) :
    cti l yX6_receiver (wsOf yX6_receiver cX6_receiver 2 (some .int)) (rmL 2 40 0 0) D classes (tys3 cI cJ cB) [.ref aX, .int x] [(aX, .inr (5, [.ref aL, .ref aS, .ref aR])), (aR, .inr (2, [.ref aB, .ref aQ, .int hd, .long pl, .int hv, .int lk, .int dn, .int ht, .int sl, .int br, .int wh])), (aQ, .inr (0, [.ref aT, .ref aP, .int gc]))] (fun (r : Int32) (u : Unit) => (x.toInt = 0 → r.toInt = lk.toInt) ∧ (x.toInt = 1 → r.toInt = ht.toInt) ∧ (x.toInt = 2 → r.toInt = sl.toInt) ∧ (x.toInt = 3 → r.toInt = hv.toInt) ∧ (x.toInt = 4 → r.toInt = gc.toInt) ∧ (x.toInt = 5 → r.toInt = wh.toInt) ∧ ((x.toInt < 0 ∨ 5 < x.toInt) → r.toInt = -12)) (fun u : Unit => ([(aX, .inr (5, [.ref aL, .ref aS, .ref aR])), (aR, .inr (2, [.ref aB, .ref aQ, .int hd, .long pl, .int hv, .int lk, .int dn, .int ht, .int sl, .int br, .int wh])), (aQ, .inr (0, [.ref aT, .ref aP, .int gc]))] : va_W)) := by
  refine cti.of (by first | exact plainFor_of_name (by decide) | decide +kernel) (Nat.le_of_ble_eq_true rfl) (fun p e s m args below meth c A ls Q h hret => ?_)
  obtain ⟨hx, hb, hml, hown, hts, hnm, hP, hK, hD, hA, hS, hZ, hN, hl⟩ := h
  have hown : s.vm.findClass RX6 = some m.cls := hown
  have hl : lv_has ls 2 [(0, .ref aX), (1, .int x)] := hl
  have hP : va_P D classes [(aX, .inr (5, [.ref aL, .ref aS, .ref aR])), (aR, .inr (2, [.ref aB, .ref aQ, .int hd, .long pl, .int hv, .int lk, .int dn, .int ht, .int sl, .int br, .int wh])), (aQ, .inr (0, [.ref aT, .ref aP, .int gc]))] s.heap := hP
  have hD : va_D A [(aX, .inr (5, [.ref aL, .ref aS, .ref aR])), (aR, .inr (2, [.ref aB, .ref aQ, .int hd, .long pl, .int hv, .int lk, .int dn, .int ht, .int sl, .int br, .int wh])), (aQ, .inr (0, [.ref aT, .ref aP, .int gc]))] := hD
  have rg_hd := zi_rg hd
  have rg_hv := zi_rg hv
  have rg_lk := zi_rg lk
  have rg_dn := zi_rg dn
  have rg_ht := zi_rg ht
  have rg_sl := zi_rg sl
  have rg_br := zi_rg br
  have rg_wh := zi_rg wh
  have rg_gc := zi_rg gc
  have rg_x := zi_rg x
  refine lv_iload_n hx hb dX6_receiver_0 rfl (lv_at hl 1 rfl) ?_
  have hs1 : (x.toInt < 0 ∨ 5 < x.toInt) ∨ x.toInt = 0 ∨ x.toInt = 1 ∨ x.toInt = 2 ∨ x.toInt = 3 ∨ x.toInt = 4 ∨ x.toInt = 5 := by omega
  rcases hs1 with z1 | z1 | z1 | z1 | z1 | z1 | z1
  ·
    refine lv_tableOut (tgt := 96) hx hb dX6_receiver_1 z1 (by decide) ?_
    refine lv_bipush (v := -12) hx hb dX6_receiver_96 (by decide) ?_
    refine lv_topi (fun v2 e2 => ?_)
    have z2 : v2.toInt = (-12) := zi_c e2 (by decide)
    have hq3 : (x.toInt = 0 → v2.toInt = lk.toInt) ∧ (x.toInt = 1 → v2.toInt = ht.toInt) ∧ (x.toInt = 2 → v2.toInt = sl.toInt) ∧ (x.toInt = 3 → v2.toInt = hv.toInt) ∧ (x.toInt = 4 → v2.toInt = gc.toInt) ∧ (x.toInt = 5 → v2.toInt = wh.toInt) ∧ ((x.toInt < 0 ∨ 5 < x.toInt) → v2.toInt = -12) := (by omega)
    exact hret v2 () _ _ _ _ dX6_receiver_98 hq3 (hP.sub [0, 1, 2] rfl) (hD.sub [0, 1, 2] (by decide) rfl) hS
  ·
    refine lv_tableIn (tgt := 40) hx hb dX6_receiver_1 (by omega) (by omega) (by rw [z1]; rfl) (by decide) ?_
    refine lv_aload_n hx hb dX6_receiver_40 rfl (lv_at hl 0 rfl) ?_
    refine va_get (D := D) (ci := 5) (v := .ref aR) (C := RX6) (T := TX6) (N := 3) hx hb hts in_X6 hown hK hP 0 rfl rfl 2 (by decide) (hts _ wk24) (fun _ h9 => h9) rfl dX6_receiver_41 ?_
    have hh4 : 0 ≤ lk.toInt ∧ lk.toInt ≤ 1 := (by omega)
    refine call_i (wc := [(aR, .inr (2, [.ref aB, .ref aQ, .int hd, .long pl, .int hv, .int lk, .int dn, .int ht, .int sl, .int br, .int wh]))]) (wr := [(aX, .inr (5, [.ref aL, .ref aS, .ref aR])), (aQ, .inr (0, [.ref aT, .ref aP, .int gc]))]) (run_V (As := []) (rest := []) kv_RX6_87 ⟨by decide, by decide⟩ ⟨rfl, rfl⟩ ⟨hx, hb, hml, hown, hts⟩ (c_Re_isLocked l D cI cJ cB aR aB aQ hd pl hv lk dn ht sl br wh hh4 _) ct_blind (ct_pre (wc := [(aR, .inr (2, [.ref aB, .ref aQ, .int hd, .long pl, .int hv, .int lk, .int dn, .int ht, .int sl, .int br, .int wh]))]) hK hP hD hS hA hZ hN [1] (by decide) rfl rfl) (va_recv hK hP (ci := 2) (q0 := 1) rfl rfl) rfl hl.1 rfl (Nat.le_of_ble_eq_true rfl) dX6_receiver_44 ⟨Nat.le_of_ble_eq_true rfl, Nat.le_of_ble_eq_true rfl⟩) hP hD hS hA [1] [0, 2] rfl rfl (by decide) (by decide) (fun r5 u H locs hw5 hP1 hD1 hS1 => ?_)
    have hw5 : r5.toInt = lk.toInt := hw5
    clear hP hD hS
    have hP : va_P D classes [(aX, .inr (5, [.ref aL, .ref aS, .ref aR])), (aQ, .inr (0, [.ref aT, .ref aP, .int gc])), (aR, .inr (2, [.ref aB, .ref aQ, .int hd, .long pl, .int hv, .int lk, .int dn, .int ht, .int sl, .int br, .int wh]))] H := hP1
    have hD : va_D A [(aX, .inr (5, [.ref aL, .ref aS, .ref aR])), (aQ, .inr (0, [.ref aT, .ref aP, .int gc])), (aR, .inr (2, [.ref aB, .ref aQ, .int hd, .long pl, .int hv, .int lk, .int dn, .int ht, .int sl, .int br, .int wh]))] := hD1
    have hS := hS1
    clear hP1 hD1 hS1
    have rg_r5 := zi_rg r5
    refine lv_if_eq (tgt := 54) hx hb dX6_receiver_47 (by decide) (fun c6 => ?_) (fun c6 => ?_)
    ·
      have z6 := zi_eq0 c6
      refine lv_iconst (v := 0) hx hb dX6_receiver_54 (by decide) ?_
      refine lv_topi (fun v7 e7 => ?_)
      have z7 : v7.toInt = 0 := zi_c e7 (by decide)
      have hq8 : (x.toInt = 0 → v7.toInt = lk.toInt) ∧ (x.toInt = 1 → v7.toInt = ht.toInt) ∧ (x.toInt = 2 → v7.toInt = sl.toInt) ∧ (x.toInt = 3 → v7.toInt = hv.toInt) ∧ (x.toInt = 4 → v7.toInt = gc.toInt) ∧ (x.toInt = 5 → v7.toInt = wh.toInt) ∧ ((x.toInt < 0 ∨ 5 < x.toInt) → v7.toInt = -12) := (by omega)
      exact hret v7 () _ _ _ _ dX6_receiver_55 hq8 (hP.sub [0, 2, 1] rfl) (hD.sub [0, 2, 1] (by decide) rfl) hS
    ·
      have z6 := zi_ne0 c6
      refine lv_iconst (v := 1) hx hb dX6_receiver_50 (by decide) ?_
      refine lv_topi (fun v9 e9 => ?_)
      have z9 : v9.toInt = 1 := zi_c e9 (by decide)
      refine lv_goto (tgt := 55) hx hb dX6_receiver_51 (by decide) ?_
      have hq10 : (x.toInt = 0 → v9.toInt = lk.toInt) ∧ (x.toInt = 1 → v9.toInt = ht.toInt) ∧ (x.toInt = 2 → v9.toInt = sl.toInt) ∧ (x.toInt = 3 → v9.toInt = hv.toInt) ∧ (x.toInt = 4 → v9.toInt = gc.toInt) ∧ (x.toInt = 5 → v9.toInt = wh.toInt) ∧ ((x.toInt < 0 ∨ 5 < x.toInt) → v9.toInt = -12) := (by omega)
      exact hret v9 () _ _ _ _ dX6_receiver_55 hq10 (hP.sub [0, 2, 1] rfl) (hD.sub [0, 2, 1] (by decide) rfl) hS
  ·
    refine lv_tableIn (tgt := 56) hx hb dX6_receiver_1 (by omega) (by omega) (by rw [z1]; rfl) (by decide) ?_
    refine lv_aload_n hx hb dX6_receiver_56 rfl (lv_at hl 0 rfl) ?_
    refine va_get (D := D) (ci := 5) (v := .ref aR) (C := RX6) (T := TX6) (N := 3) hx hb hts in_X6 hown hK hP 0 rfl rfl 2 (by decide) (hts _ wk24) (fun _ h9 => h9) rfl dX6_receiver_57 ?_
    refine call_i (wc := [(aR, .inr (2, [.ref aB, .ref aQ, .int hd, .long pl, .int hv, .int lk, .int dn, .int ht, .int sl, .int br, .int wh]))]) (wr := [(aX, .inr (5, [.ref aL, .ref aS, .ref aR])), (aQ, .inr (0, [.ref aT, .ref aP, .int gc]))]) (run_V (As := []) (rest := []) kv_RX6_91 ⟨by decide, by decide⟩ ⟨rfl, rfl⟩ ⟨hx, hb, hml, hown, hts⟩ (c_Re_hitCount l D cI cJ cB aR aB aQ hd pl hv lk dn ht sl br wh  _) ct_blind (ct_pre (wc := [(aR, .inr (2, [.ref aB, .ref aQ, .int hd, .long pl, .int hv, .int lk, .int dn, .int ht, .int sl, .int br, .int wh]))]) hK hP hD hS hA hZ hN [1] (by decide) rfl rfl) (va_recv hK hP (ci := 2) (q0 := 1) rfl rfl) rfl hl.1 rfl (Nat.le_of_ble_eq_true rfl) dX6_receiver_60 ⟨Nat.le_of_ble_eq_true rfl, Nat.le_of_ble_eq_true rfl⟩) hP hD hS hA [1] [0, 2] rfl rfl (by decide) (by decide) (fun r11 u H locs hw11 hP1 hD1 hS1 => ?_)
    have hw11 : r11.toInt = ht.toInt := hw11
    clear hP hD hS
    have hP : va_P D classes [(aX, .inr (5, [.ref aL, .ref aS, .ref aR])), (aQ, .inr (0, [.ref aT, .ref aP, .int gc])), (aR, .inr (2, [.ref aB, .ref aQ, .int hd, .long pl, .int hv, .int lk, .int dn, .int ht, .int sl, .int br, .int wh]))] H := hP1
    have hD : va_D A [(aX, .inr (5, [.ref aL, .ref aS, .ref aR])), (aQ, .inr (0, [.ref aT, .ref aP, .int gc])), (aR, .inr (2, [.ref aB, .ref aQ, .int hd, .long pl, .int hv, .int lk, .int dn, .int ht, .int sl, .int br, .int wh]))] := hD1
    have hS := hS1
    clear hP1 hD1 hS1
    have rg_r11 := zi_rg r11
    have hq12 : (x.toInt = 0 → r11.toInt = lk.toInt) ∧ (x.toInt = 1 → r11.toInt = ht.toInt) ∧ (x.toInt = 2 → r11.toInt = sl.toInt) ∧ (x.toInt = 3 → r11.toInt = hv.toInt) ∧ (x.toInt = 4 → r11.toInt = gc.toInt) ∧ (x.toInt = 5 → r11.toInt = wh.toInt) ∧ ((x.toInt < 0 ∨ 5 < x.toInt) → r11.toInt = -12) := (by omega)
    exact hret r11 () _ _ _ _ dX6_receiver_63 hq12 (hP.sub [0, 2, 1] rfl) (hD.sub [0, 2, 1] (by decide) rfl) hS
  ·
    refine lv_tableIn (tgt := 64) hx hb dX6_receiver_1 (by omega) (by omega) (by rw [z1]; rfl) (by decide) ?_
    refine lv_aload_n hx hb dX6_receiver_64 rfl (lv_at hl 0 rfl) ?_
    refine va_get (D := D) (ci := 5) (v := .ref aR) (C := RX6) (T := TX6) (N := 3) hx hb hts in_X6 hown hK hP 0 rfl rfl 2 (by decide) (hts _ wk24) (fun _ h9 => h9) rfl dX6_receiver_65 ?_
    refine call_i (wc := [(aR, .inr (2, [.ref aB, .ref aQ, .int hd, .long pl, .int hv, .int lk, .int dn, .int ht, .int sl, .int br, .int wh]))]) (wr := [(aX, .inr (5, [.ref aL, .ref aS, .ref aR])), (aQ, .inr (0, [.ref aT, .ref aP, .int gc]))]) (run_V (As := []) (rest := []) kv_RX6_94 ⟨by decide, by decide⟩ ⟨rfl, rfl⟩ ⟨hx, hb, hml, hown, hts⟩ (c_Re_slipCount l D cI cJ cB aR aB aQ hd pl hv lk dn ht sl br wh  _) ct_blind (ct_pre (wc := [(aR, .inr (2, [.ref aB, .ref aQ, .int hd, .long pl, .int hv, .int lk, .int dn, .int ht, .int sl, .int br, .int wh]))]) hK hP hD hS hA hZ hN [1] (by decide) rfl rfl) (va_recv hK hP (ci := 2) (q0 := 1) rfl rfl) rfl hl.1 rfl (Nat.le_of_ble_eq_true rfl) dX6_receiver_68 ⟨Nat.le_of_ble_eq_true rfl, Nat.le_of_ble_eq_true rfl⟩) hP hD hS hA [1] [0, 2] rfl rfl (by decide) (by decide) (fun r13 u H locs hw13 hP1 hD1 hS1 => ?_)
    have hw13 : r13.toInt = sl.toInt := hw13
    clear hP hD hS
    have hP : va_P D classes [(aX, .inr (5, [.ref aL, .ref aS, .ref aR])), (aQ, .inr (0, [.ref aT, .ref aP, .int gc])), (aR, .inr (2, [.ref aB, .ref aQ, .int hd, .long pl, .int hv, .int lk, .int dn, .int ht, .int sl, .int br, .int wh]))] H := hP1
    have hD : va_D A [(aX, .inr (5, [.ref aL, .ref aS, .ref aR])), (aQ, .inr (0, [.ref aT, .ref aP, .int gc])), (aR, .inr (2, [.ref aB, .ref aQ, .int hd, .long pl, .int hv, .int lk, .int dn, .int ht, .int sl, .int br, .int wh]))] := hD1
    have hS := hS1
    clear hP1 hD1 hS1
    have rg_r13 := zi_rg r13
    have hq14 : (x.toInt = 0 → r13.toInt = lk.toInt) ∧ (x.toInt = 1 → r13.toInt = ht.toInt) ∧ (x.toInt = 2 → r13.toInt = sl.toInt) ∧ (x.toInt = 3 → r13.toInt = hv.toInt) ∧ (x.toInt = 4 → r13.toInt = gc.toInt) ∧ (x.toInt = 5 → r13.toInt = wh.toInt) ∧ ((x.toInt < 0 ∨ 5 < x.toInt) → r13.toInt = -12) := (by omega)
    exact hret r13 () _ _ _ _ dX6_receiver_71 hq14 (hP.sub [0, 2, 1] rfl) (hD.sub [0, 2, 1] (by decide) rfl) hS
  ·
    refine lv_tableIn (tgt := 72) hx hb dX6_receiver_1 (by omega) (by omega) (by rw [z1]; rfl) (by decide) ?_
    refine lv_aload_n hx hb dX6_receiver_72 rfl (lv_at hl 0 rfl) ?_
    refine va_get (D := D) (ci := 5) (v := .ref aR) (C := RX6) (T := TX6) (N := 3) hx hb hts in_X6 hown hK hP 0 rfl rfl 2 (by decide) (hts _ wk24) (fun _ h9 => h9) rfl dX6_receiver_73 ?_
    refine call_i (wc := [(aR, .inr (2, [.ref aB, .ref aQ, .int hd, .long pl, .int hv, .int lk, .int dn, .int ht, .int sl, .int br, .int wh]))]) (wr := [(aX, .inr (5, [.ref aL, .ref aS, .ref aR])), (aQ, .inr (0, [.ref aT, .ref aP, .int gc]))]) (run_V (As := []) (rest := []) kv_RX6_97 ⟨by decide, by decide⟩ ⟨rfl, rfl⟩ ⟨hx, hb, hml, hown, hts⟩ (c_Re_bitsOfBlock l D cI cJ cB aR aB aQ hd pl hv lk dn ht sl br wh  _) ct_blind (ct_pre (wc := [(aR, .inr (2, [.ref aB, .ref aQ, .int hd, .long pl, .int hv, .int lk, .int dn, .int ht, .int sl, .int br, .int wh]))]) hK hP hD hS hA hZ hN [1] (by decide) rfl rfl) (va_recv hK hP (ci := 2) (q0 := 1) rfl rfl) rfl hl.1 rfl (Nat.le_of_ble_eq_true rfl) dX6_receiver_76 ⟨Nat.le_of_ble_eq_true rfl, Nat.le_of_ble_eq_true rfl⟩) hP hD hS hA [1] [0, 2] rfl rfl (by decide) (by decide) (fun r15 u H locs hw15 hP1 hD1 hS1 => ?_)
    have hw15 : r15.toInt = hv.toInt := hw15
    clear hP hD hS
    have hP : va_P D classes [(aX, .inr (5, [.ref aL, .ref aS, .ref aR])), (aQ, .inr (0, [.ref aT, .ref aP, .int gc])), (aR, .inr (2, [.ref aB, .ref aQ, .int hd, .long pl, .int hv, .int lk, .int dn, .int ht, .int sl, .int br, .int wh]))] H := hP1
    have hD : va_D A [(aX, .inr (5, [.ref aL, .ref aS, .ref aR])), (aQ, .inr (0, [.ref aT, .ref aP, .int gc])), (aR, .inr (2, [.ref aB, .ref aQ, .int hd, .long pl, .int hv, .int lk, .int dn, .int ht, .int sl, .int br, .int wh]))] := hD1
    have hS := hS1
    clear hP1 hD1 hS1
    have rg_r15 := zi_rg r15
    have hq16 : (x.toInt = 0 → r15.toInt = lk.toInt) ∧ (x.toInt = 1 → r15.toInt = ht.toInt) ∧ (x.toInt = 2 → r15.toInt = sl.toInt) ∧ (x.toInt = 3 → r15.toInt = hv.toInt) ∧ (x.toInt = 4 → r15.toInt = gc.toInt) ∧ (x.toInt = 5 → r15.toInt = wh.toInt) ∧ ((x.toInt < 0 ∨ 5 < x.toInt) → r15.toInt = -12) := (by omega)
    exact hret r15 () _ _ _ _ dX6_receiver_79 hq16 (hP.sub [0, 2, 1] rfl) (hD.sub [0, 2, 1] (by decide) rfl) hS
  ·
    refine lv_tableIn (tgt := 80) hx hb dX6_receiver_1 (by omega) (by omega) (by rw [z1]; rfl) (by decide) ?_
    refine lv_aload_n hx hb dX6_receiver_80 rfl (lv_at hl 0 rfl) ?_
    refine va_get (D := D) (ci := 5) (v := .ref aR) (C := RX6) (T := TX6) (N := 3) hx hb hts in_X6 hown hK hP 0 rfl rfl 2 (by decide) (hts _ wk24) (fun _ h9 => h9) rfl dX6_receiver_81 ?_
    refine call_i (wc := [(aR, .inr (2, [.ref aB, .ref aQ, .int hd, .long pl, .int hv, .int lk, .int dn, .int ht, .int sl, .int br, .int wh])), (aQ, .inr (0, [.ref aT, .ref aP, .int gc]))]) (wr := [(aX, .inr (5, [.ref aL, .ref aS, .ref aR]))]) (run_V (As := []) (rest := []) kv_RX6_69 ⟨by decide, by decide⟩ ⟨rfl, rfl⟩ ⟨hx, hb, hml, hown, hts⟩ (c_Re_groupCount l D cI cJ cB aR aB aQ aT aP hd pl hv lk dn ht sl br wh gc  _) ct_blind (ct_pre (wc := [(aR, .inr (2, [.ref aB, .ref aQ, .int hd, .long pl, .int hv, .int lk, .int dn, .int ht, .int sl, .int br, .int wh])), (aQ, .inr (0, [.ref aT, .ref aP, .int gc]))]) hK hP hD hS hA hZ hN [1, 2] (by decide) rfl rfl) (va_recv hK hP (ci := 2) (q0 := 1) rfl rfl) rfl hl.1 rfl (Nat.le_of_ble_eq_true rfl) dX6_receiver_84 ⟨Nat.le_of_ble_eq_true rfl, Nat.le_of_ble_eq_true rfl⟩) hP hD hS hA [1, 2] [0] rfl rfl (by decide) (by decide) (fun r17 u H locs hw17 hP1 hD1 hS1 => ?_)
    have hw17 : r17.toInt = gc.toInt := hw17
    clear hP hD hS
    have hP : va_P D classes [(aX, .inr (5, [.ref aL, .ref aS, .ref aR])), (aR, .inr (2, [.ref aB, .ref aQ, .int hd, .long pl, .int hv, .int lk, .int dn, .int ht, .int sl, .int br, .int wh])), (aQ, .inr (0, [.ref aT, .ref aP, .int gc]))] H := hP1
    have hD : va_D A [(aX, .inr (5, [.ref aL, .ref aS, .ref aR])), (aR, .inr (2, [.ref aB, .ref aQ, .int hd, .long pl, .int hv, .int lk, .int dn, .int ht, .int sl, .int br, .int wh])), (aQ, .inr (0, [.ref aT, .ref aP, .int gc]))] := hD1
    have hS := hS1
    clear hP1 hD1 hS1
    have rg_r17 := zi_rg r17
    have hq18 : (x.toInt = 0 → r17.toInt = lk.toInt) ∧ (x.toInt = 1 → r17.toInt = ht.toInt) ∧ (x.toInt = 2 → r17.toInt = sl.toInt) ∧ (x.toInt = 3 → r17.toInt = hv.toInt) ∧ (x.toInt = 4 → r17.toInt = gc.toInt) ∧ (x.toInt = 5 → r17.toInt = wh.toInt) ∧ ((x.toInt < 0 ∨ 5 < x.toInt) → r17.toInt = -12) := (by omega)
    exact hret r17 () _ _ _ _ dX6_receiver_87 hq18 (hP.sub [0, 1, 2] rfl) (hD.sub [0, 1, 2] (by decide) rfl) hS
  ·
    refine lv_tableIn (tgt := 88) hx hb dX6_receiver_1 (by omega) (by omega) (by rw [z1]; rfl) (by decide) ?_
    refine lv_aload_n hx hb dX6_receiver_88 rfl (lv_at hl 0 rfl) ?_
    refine va_get (D := D) (ci := 5) (v := .ref aR) (C := RX6) (T := TX6) (N := 3) hx hb hts in_X6 hown hK hP 0 rfl rfl 2 (by decide) (hts _ wk24) (fun _ h9 => h9) rfl dX6_receiver_89 ?_
    refine call_i (wc := [(aR, .inr (2, [.ref aB, .ref aQ, .int hd, .long pl, .int hv, .int lk, .int dn, .int ht, .int sl, .int br, .int wh]))]) (wr := [(aX, .inr (5, [.ref aL, .ref aS, .ref aR])), (aQ, .inr (0, [.ref aT, .ref aP, .int gc]))]) (run_V (As := []) (rest := []) kv_RX6_100 ⟨by decide, by decide⟩ ⟨rfl, rfl⟩ ⟨hx, hb, hml, hown, hts⟩ (c_Re_wrongHeadCount l D cI cJ cB aR aB aQ hd pl hv lk dn ht sl br wh  _) ct_blind (ct_pre (wc := [(aR, .inr (2, [.ref aB, .ref aQ, .int hd, .long pl, .int hv, .int lk, .int dn, .int ht, .int sl, .int br, .int wh]))]) hK hP hD hS hA hZ hN [1] (by decide) rfl rfl) (va_recv hK hP (ci := 2) (q0 := 1) rfl rfl) rfl hl.1 rfl (Nat.le_of_ble_eq_true rfl) dX6_receiver_92 ⟨Nat.le_of_ble_eq_true rfl, Nat.le_of_ble_eq_true rfl⟩) hP hD hS hA [1] [0, 2] rfl rfl (by decide) (by decide) (fun r19 u H locs hw19 hP1 hD1 hS1 => ?_)
    have hw19 : r19.toInt = wh.toInt := hw19
    clear hP hD hS
    have hP : va_P D classes [(aX, .inr (5, [.ref aL, .ref aS, .ref aR])), (aQ, .inr (0, [.ref aT, .ref aP, .int gc])), (aR, .inr (2, [.ref aB, .ref aQ, .int hd, .long pl, .int hv, .int lk, .int dn, .int ht, .int sl, .int br, .int wh]))] H := hP1
    have hD : va_D A [(aX, .inr (5, [.ref aL, .ref aS, .ref aR])), (aQ, .inr (0, [.ref aT, .ref aP, .int gc])), (aR, .inr (2, [.ref aB, .ref aQ, .int hd, .long pl, .int hv, .int lk, .int dn, .int ht, .int sl, .int br, .int wh]))] := hD1
    have hS := hS1
    clear hP1 hD1 hS1
    have rg_r19 := zi_rg r19
    have hq20 : (x.toInt = 0 → r19.toInt = lk.toInt) ∧ (x.toInt = 1 → r19.toInt = ht.toInt) ∧ (x.toInt = 2 → r19.toInt = sl.toInt) ∧ (x.toInt = 3 → r19.toInt = hv.toInt) ∧ (x.toInt = 4 → r19.toInt = gc.toInt) ∧ (x.toInt = 5 → r19.toInt = wh.toInt) ∧ ((x.toInt < 0 ∨ 5 < x.toInt) → r19.toInt = -12) := (by omega)
    exact hret r19 () _ _ _ _ dX6_receiver_95 hq20 (hP.sub [0, 2, 1] rfl) (hD.sub [0, 2, 1] (by decide) rfl) hS

set_option maxHeartbeats 4000000 in
set_option maxRecDepth 100000 in
theorem c_LB_init (l : Launch) (D : va_G) (cI cJ cB : ClassId) (aX : Nat)  :
    ctv l yX6_init (wsOf yX6_init cX6_init 1 none) (rmL 3 64 10 772) D classes (tys3 cI cJ cB) [.ref aX] [(aX, .inr (5, [.null, .null, .null]))] (fun u : Nat × Nat × Nat × Nat × Nat × Nat × Nat × Nat × Nat × Nat => True) (fun u : Nat × Nat × Nat × Nat × Nat × Nat × Nat × Nat × Nat × Nat => ([(aX, .inr (5, [.ref u.1, .ref u.2.2.1, .ref u.2.2.2.2.2.1])), (u.1, .inr (1, [.ref u.2.1, .int 0, .int 0])), (u.2.1, .inl (cJ, 142, .inr (.inl (fun _ => 0)))), (u.2.2.1, .inr (4, [.ref u.2.2.2.1, .ref u.2.2.2.2.1, .int 0])), (u.2.2.2.1, .inr (3, [.long 0])), (u.2.2.2.2.1, .inl (cI, 8, .inl (fun _ => 0))), (u.2.2.2.2.2.1, .inr (2, [.ref u.2.2.2.2.2.2.1, .ref u.2.2.2.2.2.2.2.1, .int 0, .long 0, .int 0, .int 0, .int 0, .int 0, .int 0, .int 0, .int 0])), (u.2.2.2.2.2.2.1, .inr (3, [.long 0])), (u.2.2.2.2.2.2.2.1, .inr (0, [.ref u.2.2.2.2.2.2.2.2.1, .ref u.2.2.2.2.2.2.2.2.2, .int 0])), (u.2.2.2.2.2.2.2.2.1, .inl (cI, 300, .inl (fun _ => 0))), (u.2.2.2.2.2.2.2.2.2, .inl (cJ, 300, .inr (.inl (fun _ => 0))))] : va_W)) 10 772 := by
  refine ctv.of (by first | exact plainFor_of_name (by decide) | decide +kernel) (Nat.le_of_ble_eq_true rfl) (fun p e s m args below meth c A ls Q h hret => ?_)
  obtain ⟨hx, hb, hml, hown, hts, hnm, hP, hK, hD, hA, hS, hZ, hN, hl⟩ := h
  have hown : s.vm.findClass RX6 = some m.cls := hown
  have hl : lv_has ls 1 [(0, .ref aX)] := hl
  have hP : va_P D classes [(aX, .inr (5, [.null, .null, .null]))] s.heap := hP
  have hD : va_D A [(aX, .inr (5, [.null, .null, .null]))] := hD
  refine lv_aload_n hx hb dX6_init_0 rfl (lv_at hl 0 rfl) ?_
  refine W.objInit hx hb hown (hts _ wk10) (hts _ wk11) (hts _ wk12) rfl (by rw [hml]; exact hl.1) rfl dX6_init_1 (Nat.le_of_ble_eq_true rfl) (Nat.le_of_ble_eq_true rfl) ?_
  refine W.eq (g2 := F0 m 4 ls []) rfl ?_
  refine lv_aload_n hx hb dX6_init_4 rfl (lv_at hl 0 rfl) ?_
  refine va_new (ci := 1) (fs := [.null, .int 0, .int 0]) (C := RX2) (T := TX2) (N := 3) hx hb hts in_X2 tyX2 tyX2_ok hown (hts _ wk13) (hts _ wk14) (hts _ wk15) hK hP hD hS hA rfl (fun j hj => by rcases (show j = 0 ∨ j = 1 ∨ j = 2 by omega) with rfl | rfl | rfl <;> rfl) (Nat.le_of_ble_eq_true rfl) (Nat.le_of_ble_eq_true rfl) dX6_init_5 (fun q1 H hP1 hD1 hS1 => ?_)
  clear hP hD hS
  have hP : va_P D classes [(aX, .inr (5, [.null, .null, .null])), (q1, .inr (1, [.null, .int 0, .int 0]))] H := hP1
  have hD : va_D A [(aX, .inr (5, [.null, .null, .null])), (q1, .inr (1, [.null, .int 0, .int 0]))] := hD1
  have hS := hS1
  clear hP1 hD1 hS1
  refine W.widen (k := 1) (n := 3) (Nat.le_refl _) (Nat.le_refl _) ?_
  refine lv_dup hx hb dX6_init_8 rfl ?_
  refine call_v (wc := [(q1, .inr (1, [.null, .int 0, .int 0]))]) (wr := [(aX, .inr (5, [.null, .null, .null]))]) (run_N (As := []) (rest := [.ref q1, .ref aX]) kn_RX6_11 hN ⟨by decide, by decide⟩ ⟨rfl, rfl⟩ ⟨hx, hb, hml, hown, hts⟩ (c_Ln_init l D cI cJ cB q1  _) ct_blind (ct_pre (wc := [(q1, .inr (1, [.null, .int 0, .int 0]))]) hK hP hD hS hA hZ hN [1] (by decide) rfl rfl) rfl hl.1 rfl (Nat.le_of_ble_eq_true rfl) dX6_init_9 ⟨Nat.le_of_ble_eq_true rfl, Nat.le_of_ble_eq_true rfl⟩) hP hD hS hA [1] [0] rfl rfl (by decide) (by decide) (fun u H locs hw2 hP1 hD1 hS1 => ?_)
  obtain ⟨aW_2, hu9⟩ : ∃ z, z = u := ⟨_, rfl⟩
  subst hu9
  clear hw2
  clear hP hD hS
  have hP : va_P D classes [(aX, .inr (5, [.null, .null, .null])), (q1, .inr (1, [.ref aW_2, .int 0, .int 0])), (aW_2, .inl (cJ, 142, .inr (.inl (fun _ => 0))))] H := hP1
  have hD : va_D A [(aX, .inr (5, [.null, .null, .null])), (q1, .inr (1, [.ref aW_2, .int 0, .int 0])), (aW_2, .inl (cJ, 142, .inr (.inl (fun _ => 0))))] := hD1
  have hS := hS1
  clear hP1 hD1 hS1
  refine W.widen (k := 2) (n := 145) (Nat.le_refl _) (Nat.le_refl _) ?_
  refine va_putF (D := D) (ci := 5) (v := .ref q1) (ty := (.object "LineBlocks$Line")) (C := RX6) (T := TX6) (N := 3) hx hb hts in_X6 tyX6 tyX6_ok nmX6 hown hK hP hD hS 0 rfl rfl 0 (by decide) (hts _ wk16) (fun _ h9 => h9) rfl hnm rfl (by decide +kernel) rfl rfl (Nat.le_of_ble_eq_true rfl) dX6_init_12 (fun H locs hP1 hD1 hS1 => ?_)
  clear hP hD hS
  have hP : va_P D classes [(aX, .inr (5, [.ref q1, .null, .null])), (q1, .inr (1, [.ref aW_2, .int 0, .int 0])), (aW_2, .inl (cJ, 142, .inr (.inl (fun _ => 0))))] H := hP1
  have hD : va_D A [(aX, .inr (5, [.ref q1, .null, .null])), (q1, .inr (1, [.ref aW_2, .int 0, .int 0])), (aW_2, .inl (cJ, 142, .inr (.inl (fun _ => 0))))] := hD1
  have hS := hS1
  clear hP1 hD1 hS1
  refine lv_aload_n hx hb dX6_init_15 rfl (lv_at hl 0 rfl) ?_
  refine va_new (ci := 4) (fs := [.null, .null, .int 0]) (C := RX5) (T := TX5) (N := 3) hx hb hts in_X5 tyX5 tyX5_ok hown (hts _ wk17) (hts _ wk18) (hts _ wk19) hK hP hD hS hA rfl (fun j hj => by rcases (show j = 0 ∨ j = 1 ∨ j = 2 by omega) with rfl | rfl | rfl <;> rfl) (Nat.le_of_ble_eq_true rfl) (Nat.le_of_ble_eq_true rfl) dX6_init_16 (fun q3 H hP1 hD1 hS1 => ?_)
  clear hP hD hS
  have hP : va_P D classes [(aX, .inr (5, [.ref q1, .null, .null])), (q1, .inr (1, [.ref aW_2, .int 0, .int 0])), (aW_2, .inl (cJ, 142, .inr (.inl (fun _ => 0)))), (q3, .inr (4, [.null, .null, .int 0]))] H := hP1
  have hD : va_D A [(aX, .inr (5, [.ref q1, .null, .null])), (q1, .inr (1, [.ref aW_2, .int 0, .int 0])), (aW_2, .inl (cJ, 142, .inr (.inl (fun _ => 0)))), (q3, .inr (4, [.null, .null, .int 0]))] := hD1
  have hS := hS1
  clear hP1 hD1 hS1
  refine W.widen (k := 3) (n := 148) (Nat.le_refl _) (Nat.le_refl _) ?_
  refine lv_dup hx hb dX6_init_19 rfl ?_
  refine call_v (wc := [(q3, .inr (4, [.null, .null, .int 0]))]) (wr := [(aX, .inr (5, [.ref q1, .null, .null])), (q1, .inr (1, [.ref aW_2, .int 0, .int 0])), (aW_2, .inl (cJ, 142, .inr (.inl (fun _ => 0))))]) (run_N (As := []) (rest := [.ref q3, .ref aX]) kn_RX6_18 hN ⟨by decide, by decide⟩ ⟨rfl, rfl⟩ ⟨hx, hb, hml, hown, hts⟩ (c_Se_init l D cI cJ cB q3  _) ct_blind (ct_pre (wc := [(q3, .inr (4, [.null, .null, .int 0]))]) hK hP hD hS hA hZ hN [3] (by decide) rfl rfl) rfl hl.1 rfl (Nat.le_of_ble_eq_true rfl) dX6_init_20 ⟨Nat.le_of_ble_eq_true rfl, Nat.le_of_ble_eq_true rfl⟩) hP hD hS hA [3] [0, 1, 2] rfl rfl (by decide) (by decide) (fun u H locs hw4 hP1 hD1 hS1 => ?_)
  obtain ⟨aC_4, aG_4⟩ := u
  clear hw4
  clear hP hD hS
  have hP : va_P D classes [(aX, .inr (5, [.ref q1, .null, .null])), (q1, .inr (1, [.ref aW_2, .int 0, .int 0])), (aW_2, .inl (cJ, 142, .inr (.inl (fun _ => 0)))), (q3, .inr (4, [.ref aC_4, .ref aG_4, .int 0])), (aC_4, .inr (3, [.long 0])), (aG_4, .inl (cI, 8, .inl (fun _ => 0)))] H := hP1
  have hD : va_D A [(aX, .inr (5, [.ref q1, .null, .null])), (q1, .inr (1, [.ref aW_2, .int 0, .int 0])), (aW_2, .inl (cJ, 142, .inr (.inl (fun _ => 0)))), (q3, .inr (4, [.ref aC_4, .ref aG_4, .int 0])), (aC_4, .inr (3, [.long 0])), (aG_4, .inl (cI, 8, .inl (fun _ => 0)))] := hD1
  have hS := hS1
  clear hP1 hD1 hS1
  refine W.widen (k := 5) (n := 157) (Nat.le_refl _) (Nat.le_refl _) ?_
  refine va_putF (D := D) (ci := 5) (v := .ref q3) (ty := (.object "LineBlocks$Sender")) (C := RX6) (T := TX6) (N := 3) hx hb hts in_X6 tyX6 tyX6_ok nmX6 hown hK hP hD hS 0 rfl rfl 1 (by decide) (hts _ wk20) (fun _ h9 => h9) rfl hnm rfl (by decide +kernel) rfl rfl (Nat.le_of_ble_eq_true rfl) dX6_init_23 (fun H locs hP1 hD1 hS1 => ?_)
  clear hP hD hS
  have hP : va_P D classes [(aX, .inr (5, [.ref q1, .ref q3, .null])), (q1, .inr (1, [.ref aW_2, .int 0, .int 0])), (aW_2, .inl (cJ, 142, .inr (.inl (fun _ => 0)))), (q3, .inr (4, [.ref aC_4, .ref aG_4, .int 0])), (aC_4, .inr (3, [.long 0])), (aG_4, .inl (cI, 8, .inl (fun _ => 0)))] H := hP1
  have hD : va_D A [(aX, .inr (5, [.ref q1, .ref q3, .null])), (q1, .inr (1, [.ref aW_2, .int 0, .int 0])), (aW_2, .inl (cJ, 142, .inr (.inl (fun _ => 0)))), (q3, .inr (4, [.ref aC_4, .ref aG_4, .int 0])), (aC_4, .inr (3, [.long 0])), (aG_4, .inl (cI, 8, .inl (fun _ => 0)))] := hD1
  have hS := hS1
  clear hP1 hD1 hS1
  refine lv_aload_n hx hb dX6_init_26 rfl (lv_at hl 0 rfl) ?_
  refine va_new (ci := 2) (fs := [.null, .null, .int 0, .long 0, .int 0, .int 0, .int 0, .int 0, .int 0, .int 0, .int 0]) (C := RX3) (T := TX3) (N := 11) hx hb hts in_X3 tyX3 tyX3_ok hown (hts _ wk21) (hts _ wk22) (hts _ wk23) hK hP hD hS hA rfl (fun j hj => by rcases (show j = 0 ∨ j = 1 ∨ j = 2 ∨ j = 3 ∨ j = 4 ∨ j = 5 ∨ j = 6 ∨ j = 7 ∨ j = 8 ∨ j = 9 ∨ j = 10 by omega) with rfl | rfl | rfl | rfl | rfl | rfl | rfl | rfl | rfl | rfl | rfl <;> rfl) (Nat.le_of_ble_eq_true rfl) (Nat.le_of_ble_eq_true rfl) dX6_init_27 (fun q5 H hP1 hD1 hS1 => ?_)
  clear hP hD hS
  have hP : va_P D classes [(aX, .inr (5, [.ref q1, .ref q3, .null])), (q1, .inr (1, [.ref aW_2, .int 0, .int 0])), (aW_2, .inl (cJ, 142, .inr (.inl (fun _ => 0)))), (q3, .inr (4, [.ref aC_4, .ref aG_4, .int 0])), (aC_4, .inr (3, [.long 0])), (aG_4, .inl (cI, 8, .inl (fun _ => 0))), (q5, .inr (2, [.null, .null, .int 0, .long 0, .int 0, .int 0, .int 0, .int 0, .int 0, .int 0, .int 0]))] H := hP1
  have hD : va_D A [(aX, .inr (5, [.ref q1, .ref q3, .null])), (q1, .inr (1, [.ref aW_2, .int 0, .int 0])), (aW_2, .inl (cJ, 142, .inr (.inl (fun _ => 0)))), (q3, .inr (4, [.ref aC_4, .ref aG_4, .int 0])), (aC_4, .inr (3, [.long 0])), (aG_4, .inl (cI, 8, .inl (fun _ => 0))), (q5, .inr (2, [.null, .null, .int 0, .long 0, .int 0, .int 0, .int 0, .int 0, .int 0, .int 0, .int 0]))] := hD1
  have hS := hS1
  clear hP1 hD1 hS1
  refine W.widen (k := 6) (n := 168) (Nat.le_refl _) (Nat.le_refl _) ?_
  refine lv_dup hx hb dX6_init_30 rfl ?_
  refine call_v (wc := [(q5, .inr (2, [.null, .null, .int 0, .long 0, .int 0, .int 0, .int 0, .int 0, .int 0, .int 0, .int 0]))]) (wr := [(aX, .inr (5, [.ref q1, .ref q3, .null])), (q1, .inr (1, [.ref aW_2, .int 0, .int 0])), (aW_2, .inl (cJ, 142, .inr (.inl (fun _ => 0)))), (q3, .inr (4, [.ref aC_4, .ref aG_4, .int 0])), (aC_4, .inr (3, [.long 0])), (aG_4, .inl (cI, 8, .inl (fun _ => 0)))]) (run_N (As := []) (rest := [.ref q5, .ref aX]) kn_RX6_25 hN ⟨by decide, by decide⟩ ⟨rfl, rfl⟩ ⟨hx, hb, hml, hown, hts⟩ (c_Re_init l D cI cJ cB q5  _) ct_blind (ct_pre (wc := [(q5, .inr (2, [.null, .null, .int 0, .long 0, .int 0, .int 0, .int 0, .int 0, .int 0, .int 0, .int 0]))]) hK hP hD hS hA hZ hN [6] (by decide) rfl rfl) rfl hl.1 rfl (Nat.le_of_ble_eq_true rfl) dX6_init_31 ⟨Nat.le_of_ble_eq_true rfl, Nat.le_of_ble_eq_true rfl⟩) hP hD hS hA [6] [0, 1, 2, 3, 4, 5] rfl rfl (by decide) (by decide) (fun u H locs hw6 hP1 hD1 hS1 => ?_)
  obtain ⟨aB_6, aQ_6, aT_6, aP_6⟩ := u
  clear hw6
  clear hP hD hS
  have hP : va_P D classes [(aX, .inr (5, [.ref q1, .ref q3, .null])), (q1, .inr (1, [.ref aW_2, .int 0, .int 0])), (aW_2, .inl (cJ, 142, .inr (.inl (fun _ => 0)))), (q3, .inr (4, [.ref aC_4, .ref aG_4, .int 0])), (aC_4, .inr (3, [.long 0])), (aG_4, .inl (cI, 8, .inl (fun _ => 0))), (q5, .inr (2, [.ref aB_6, .ref aQ_6, .int 0, .long 0, .int 0, .int 0, .int 0, .int 0, .int 0, .int 0, .int 0])), (aB_6, .inr (3, [.long 0])), (aQ_6, .inr (0, [.ref aT_6, .ref aP_6, .int 0])), (aT_6, .inl (cI, 300, .inl (fun _ => 0))), (aP_6, .inl (cJ, 300, .inr (.inl (fun _ => 0))))] H := hP1
  have hD : va_D A [(aX, .inr (5, [.ref q1, .ref q3, .null])), (q1, .inr (1, [.ref aW_2, .int 0, .int 0])), (aW_2, .inl (cJ, 142, .inr (.inl (fun _ => 0)))), (q3, .inr (4, [.ref aC_4, .ref aG_4, .int 0])), (aC_4, .inr (3, [.long 0])), (aG_4, .inl (cI, 8, .inl (fun _ => 0))), (q5, .inr (2, [.ref aB_6, .ref aQ_6, .int 0, .long 0, .int 0, .int 0, .int 0, .int 0, .int 0, .int 0, .int 0])), (aB_6, .inr (3, [.long 0])), (aQ_6, .inr (0, [.ref aT_6, .ref aP_6, .int 0])), (aT_6, .inl (cI, 300, .inl (fun _ => 0))), (aP_6, .inl (cJ, 300, .inr (.inl (fun _ => 0))))] := hD1
  have hS := hS1
  clear hP1 hD1 hS1
  refine W.widen (k := 10) (n := 772) (Nat.le_refl _) (Nat.le_refl _) ?_
  refine va_putF (D := D) (ci := 5) (v := .ref q5) (ty := (.object "LineBlocks$Receiver")) (C := RX6) (T := TX6) (N := 3) hx hb hts in_X6 tyX6 tyX6_ok nmX6 hown hK hP hD hS 0 rfl rfl 2 (by decide) (hts _ wk24) (fun _ h9 => h9) rfl hnm rfl (by decide +kernel) rfl rfl (Nat.le_of_ble_eq_true rfl) dX6_init_34 (fun H locs hP1 hD1 hS1 => ?_)
  clear hP hD hS
  have hP : va_P D classes [(aX, .inr (5, [.ref q1, .ref q3, .ref q5])), (q1, .inr (1, [.ref aW_2, .int 0, .int 0])), (aW_2, .inl (cJ, 142, .inr (.inl (fun _ => 0)))), (q3, .inr (4, [.ref aC_4, .ref aG_4, .int 0])), (aC_4, .inr (3, [.long 0])), (aG_4, .inl (cI, 8, .inl (fun _ => 0))), (q5, .inr (2, [.ref aB_6, .ref aQ_6, .int 0, .long 0, .int 0, .int 0, .int 0, .int 0, .int 0, .int 0, .int 0])), (aB_6, .inr (3, [.long 0])), (aQ_6, .inr (0, [.ref aT_6, .ref aP_6, .int 0])), (aT_6, .inl (cI, 300, .inl (fun _ => 0))), (aP_6, .inl (cJ, 300, .inr (.inl (fun _ => 0))))] H := hP1
  have hD : va_D A [(aX, .inr (5, [.ref q1, .ref q3, .ref q5])), (q1, .inr (1, [.ref aW_2, .int 0, .int 0])), (aW_2, .inl (cJ, 142, .inr (.inl (fun _ => 0)))), (q3, .inr (4, [.ref aC_4, .ref aG_4, .int 0])), (aC_4, .inr (3, [.long 0])), (aG_4, .inl (cI, 8, .inl (fun _ => 0))), (q5, .inr (2, [.ref aB_6, .ref aQ_6, .int 0, .long 0, .int 0, .int 0, .int 0, .int 0, .int 0, .int 0, .int 0])), (aB_6, .inr (3, [.long 0])), (aQ_6, .inr (0, [.ref aT_6, .ref aP_6, .int 0])), (aT_6, .inl (cI, 300, .inl (fun _ => 0))), (aP_6, .inl (cJ, 300, .inr (.inl (fun _ => 0))))] := hD1
  have hS := hS1
  clear hP1 hD1 hS1
  exact hret (q1, aW_2, q3, aC_4, aG_4, q5, aB_6, aQ_6, aT_6, aP_6) _ _ _ _ dX6_init_37 trivial (hP.sub [0, 1, 2, 3, 4, 5, 6, 7, 8, 9, 10] rfl) (hD.sub [0, 1, 2, 3, 4, 5, 6, 7, 8, 9, 10] (by decide) rfl) hS
