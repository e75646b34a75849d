set_option maxHeartbeats 4000000 in
set_option maxRecDepth 100000 in
theorem c_Se_waitingCount (l : Launch) (D : va_G) (cI cJ cB : ClassId) (aS : Nat) (aC : Nat) (aG : Nat) (wa : Int32)  :
    cti l yX5_waitingCount (wsOf yX5_waitingCount cX5_waitingCount 1 (some .int)) (rmL 0 0 0 0) D classes (tys3 cI cJ cB) [.ref aS] [(aS, .inr (4, [.ref aC, .ref aG, .int wa]))] (fun (r : Int32) (u : Unit) => r.toInt = wa.toInt) (fun u : Unit => ([(aS, .inr (4, [.ref aC, .ref aG, .int wa]))] : va_W)) := by
  refine cti.of (by first | exact plainFor_of_name (by decide) | decide +kernel) (Nat.le_of_ble_eq_true rfl) (fun p e s m args below meth c A ls Q h hret => ?_)
  obtain ⟨hx, hb, hml, hown, hts, hnm, hP, hK, hD, hA, hS, hZ, hN, hl⟩ := h
  have hown : s.vm.findClass RX5 = some m.cls := hown
  have hl : lv_has ls 1 [(0, .ref aS)] := hl
  have hP : va_P D classes [(aS, .inr (4, [.ref aC, .ref aG, .int wa]))] s.heap := hP
  have hD : va_D A [(aS, .inr (4, [.ref aC, .ref aG, .int wa]))] := hD
  have rg_wa := zi_rg wa
  refine lv_aload_n hx hb dX5_waitingCount_0 rfl (lv_at hl 0 rfl) ?_
  refine va_get (D := D) (ci := 4) (v := .int wa) (C := RX5) (T := TX5) (N := 3) hx hb hts in_X5 hown hK hP 0 rfl rfl 2 (by decide) (hts _ wk76) (fun _ h9 => h9) rfl dX5_waitingCount_1 ?_
  have hq1 : wa.toInt = wa.toInt := (by omega)
  exact hret wa () _ _ _ _ dX5_waitingCount_4 hq1 (hP.sub [0] rfl) (hD.sub [0] (by decide) rfl) hS

set_option maxHeartbeats 4000000 in
set_option maxRecDepth 100000 in
theorem c_Se_exchangeState (l : Launch) (D : va_G) (cI cJ cB : ClassId) (aS : Nat) (aC : Nat) (aG : Nat) (wa : Int32) (la : Int64) (x : Int64)  :
    ctl l yX5_exchangeState (wsOf yX5_exchangeState cX5_exchangeState 3 (some .long)) (rmL 1 24 0 0) D classes (tys3 cI cJ cB) [.ref aS, .long x] [(aS, .inr (4, [.ref aC, .ref aG, .int wa])), (aC, .inr (3, [.long la]))] (fun (r : Int64) (u : Int64) => r = la ∧ ∀ j, j < 58 → bl u j = bl x j) (fun u : Int64 => ([(aS, .inr (4, [.ref aC, .ref aG, .int wa])), (aC, .inr (3, [.long u]))] : va_W)) := by
  refine ctl.of (by first | exact plainFor_of_name (by decide) | decide +kernel) (Nat.le_of_ble_eq_true rfl) (fun p e s m args below meth c A ls Q h hret => ?_)
  obtain ⟨hx, hb, hml, hown, hts, hnm, hP, hK, hD, hA, hS, hZ, hN, hl⟩ := h
  have hown : s.vm.findClass RX5 = some m.cls := hown
  have hl : lv_has ls 3 [(0, .ref aS), (1, .long x)] := hl
  have hP : va_P D classes [(aS, .inr (4, [.ref aC, .ref aG, .int wa])), (aC, .inr (3, [.long la]))] s.heap := hP
  have hD : va_D A [(aS, .inr (4, [.ref aC, .ref aG, .int wa])), (aC, .inr (3, [.long la]))] := hD
  have rg_wa := zi_rg wa
  refine lv_aload_n hx hb dX5_exchangeState_0 rfl (lv_at hl 0 rfl) ?_
  refine va_get (D := D) (ci := 4) (v := .ref aC) (C := RX5) (T := TX5) (N := 3) hx hb hts in_X5 hown hK hP 0 rfl rfl 0 (by decide) (hts _ wk36) (fun _ h9 => h9) rfl dX5_exchangeState_1 ?_
  refine lv_lload_n hx hb dX5_exchangeState_4 rfl (lv_at hl 1 rfl) ?_
  refine call_l (wc := [(aC, .inr (3, [.long la]))]) (wr := [(aS, .inr (4, [.ref aC, .ref aG, .int wa]))]) (run_V (As := [.long x]) (rest := []) kv_RX5_28 ⟨by decide, by decide⟩ ⟨rfl, rfl⟩ ⟨hx, hb, hml, hown, hts⟩ (c_Sc_exchange l D cI cJ cB aC la x  _) ct_blind (ct_pre (wc := [(aC, .inr (3, [.long la]))]) hK hP hD hS hA hZ hN [1] (by decide) rfl rfl) (va_recv hK hP (ci := 3) (q0 := 1) rfl rfl) rfl hl.1 rfl (Nat.le_of_ble_eq_true rfl) dX5_exchangeState_5 ⟨Nat.le_of_ble_eq_true rfl, Nat.le_of_ble_eq_true rfl⟩) hP hD hS hA [1] [0] rfl rfl (by decide) (by decide) (fun r1 u H locs hw1 hP1 hD1 hS1 => ?_)
  obtain ⟨la2_1, hu9⟩ : ∃ z, z = u := ⟨_, rfl⟩
  subst hu9
  have hw1 : r1 = la ∧ ∀ j, j < 58 → bl la2_1 j = bl x j := hw1
  clear hP hD hS
  have hP : va_P D classes [(aS, .inr (4, [.ref aC, .ref aG, .int wa])), (aC, .inr (3, [.long la2_1]))] H := hP1
  have hD : va_D A [(aS, .inr (4, [.ref aC, .ref aG, .int wa])), (aC, .inr (3, [.long la2_1]))] := hD1
  have hS := hS1
  clear hP1 hD1 hS1
  have hq2 : r1 = la ∧ ∀ j, j < 58 → bl la2_1 j = bl x j := (by assumption)
  exact hret r1 la2_1 _ _ _ _ dX5_exchangeState_8 hq2 (hP.sub [0, 1] rfl) (hD.sub [0, 1] (by decide) rfl) hS

set_option maxHeartbeats 4000000 in
set_option maxRecDepth 100000 in
theorem c_Se_sendBlock (l : Launch) (D : va_G) (cI cJ cB : ClassId) (aS : Nat) (aC : Nat) (aG : Nat) (aL : Nat) (aW : Nat) (la : Int64) (pl : Int64) (wa : Int32) (fi : Int32) (cn : Int32) (hd : Int32) (fw : Nat → Int64) (h1 : 0 ≤ fi.toInt ∧ fi.toInt < 9088) (h2 : 0 ≤ cn.toInt ∧ cn.toInt + 66 ≤ 9087) (h3 : hd.toInt = 1 ∨ hd.toInt = 2) :
    ctv l yX5_sendBlock (wsOf yX5_sendBlock cX5_sendBlock 6 none) (rmL 3 65 0 0) D classes (tys3 cI cJ cB) [.ref aS, .int hd, .long pl, .ref aL] [(aS, .inr (4, [.ref aC, .ref aG, .int wa])), (aC, .inr (3, [.long la])), (aL, .inr (1, [.ref aW, .int fi, .int cn])), (aW, .inl (cJ, 142, .inr (.inl fw)))] (fun u : Int64 × Int32 × (Nat → Int64) => u.2.1.toInt = cn.toInt + 66 ∧ sndR (hpB hd pl) cn.toInt u.2.1.toInt (bl la) (bl u.1) (lnB fw fi.toInt) (lnB u.2.2 fi.toInt)) (fun u : Int64 × Int32 × (Nat → Int64) => ([(aS, .inr (4, [.ref aC, .ref aG, .int wa])), (aC, .inr (3, [.long u.1])), (aL, .inr (1, [.ref aW, .int fi, .int u.2.1])), (aW, .inl (cJ, 142, .inr (.inl u.2.2)))] : va_W)) 0 0 := by
  refine ctv.of (by first | exact plainFor_of_name (by decide) | decide +kernel) (Nat.le_of_ble_eq_true rfl) (fun p e s m args below meth c A ls Q h hret => ?_)
  obtain ⟨hx, hb, hml, hown, hts, hnm, hP, hK, hD, hA, hS, hZ, hN, hl⟩ := h
  have hown : s.vm.findClass RX5 = some m.cls := hown
  have hl : lv_has ls 6 [(0, .ref aS), (1, .int hd), (2, .long pl), (4, .ref aL)] := hl
  have hP : va_P D classes [(aS, .inr (4, [.ref aC, .ref aG, .int wa])), (aC, .inr (3, [.long la])), (aL, .inr (1, [.ref aW, .int fi, .int cn])), (aW, .inl (cJ, 142, .inr (.inl fw)))] s.heap := hP
  have hD : va_D A [(aS, .inr (4, [.ref aC, .ref aG, .int wa])), (aC, .inr (3, [.long la])), (aL, .inr (1, [.ref aW, .int fi, .int cn])), (aW, .inl (cJ, 142, .inr (.inl fw)))] := hD
  have rg_wa := zi_rg wa
  have rg_fi := zi_rg fi
  have rg_cn := zi_rg cn
  have rg_hd := zi_rg hd
  refine lv_aload hx hb dX5_sendBlock_0 (lv_at hl 3 rfl) ?_
  refine lv_iload_n hx hb dX5_sendBlock_2 rfl (lv_at hl 1 rfl) ?_
  refine lv_iconst (v := 1) hx hb dX5_sendBlock_3 (by decide) ?_
  refine lv_topi (fun v1 e1 => ?_)
  have z1 : v1.toInt = 1 := zi_c e1 (by decide)
  refine lv_iushr hx hb dX5_sendBlock_4 rfl ?_
  refine lv_topi (fun v2 e2 => ?_)
  have hh3 : 0 ≤ fi.toInt ∧ fi.toInt < 9088 := (by omega)
  have hh4 : 0 ≤ cn.toInt ∧ cn.toInt ≤ 9087 := (by omega)
  have hh5 : 0 ≤ v2.toInt ∧ v2.toInt ≤ 1 := (by rw [iu_1 e1 e2 (by omega)]; exact bi_01 _)
  refine call_v (wc := [(aL, .inr (1, [.ref aW, .int fi, .int cn])), (aW, .inl (cJ, 142, .inr (.inl fw)))]) (wr := [(aS, .inr (4, [.ref aC, .ref aG, .int wa])), (aC, .inr (3, [.long la]))]) (run_V (As := [.int v2]) (rest := []) kv_RX5_60 ⟨by decide, by decide⟩ ⟨rfl, rfl⟩ ⟨hx, hb, hml, hown, hts⟩ (c_Ln_append l D cI cJ cB aL aW fi cn v2 fw hh3 hh4 hh5 _) ct_blind (ct_pre (wc := [(aL, .inr (1, [.ref aW, .int fi, .int cn])), (aW, .inl (cJ, 142, .inr (.inl fw)))]) hK hP hD hS hA hZ hN [2, 3] (by decide) rfl rfl) (va_recv hK hP (ci := 1) (q0 := 2) rfl rfl) rfl hl.1 rfl (Nat.le_of_ble_eq_true rfl) dX5_sendBlock_5 ⟨Nat.le_of_ble_eq_true rfl, Nat.le_of_ble_eq_true rfl⟩) hP hD hS hA [2, 3] [0, 1] rfl rfl (by decide) (by decide) (fun u H locs hw6 hP1 hD1 hS1 => ?_)
  obtain ⟨cn2_6, fw2_6⟩ := u
  have hw6 : cn2_6.toInt = cn.toInt + 1 ∧ ∀ j : Int, lnB fw2_6 fi.toInt j = if (fi.toInt + j) % 9088 = (fi.toInt + cn.toInt) % 9088 then bt v2 0 else lnB fw fi.toInt j := hw6
  clear hP hD hS
  have hP : va_P D classes [(aS, .inr (4, [.ref aC, .ref aG, .int wa])), (aC, .inr (3, [.long la])), (aL, .inr (1, [.ref aW, .int fi, .int cn2_6])), (aW, .inl (cJ, 142, .inr (.inl fw2_6)))] H := hP1
  have hD : va_D A [(aS, .inr (4, [.ref aC, .ref aG, .int wa])), (aC, .inr (3, [.long la])), (aL, .inr (1, [.ref aW, .int fi, .int cn2_6])), (aW, .inl (cJ, 142, .inr (.inl fw2_6)))] := hD1
  have hS := hS1
  clear hP1 hD1 hS1
  have rg_cn2_6 := zi_rg cn2_6
  refine lv_aload hx hb dX5_sendBlock_8 (lv_at hl 3 rfl) ?_
  refine lv_iload_n hx hb dX5_sendBlock_10 rfl (lv_at hl 1 rfl) ?_
  refine lv_iconst (v := 1) hx hb dX5_sendBlock_11 (by decide) ?_
  refine lv_topi (fun v7 e7 => ?_)
  have z7 : v7.toInt = 1 := zi_c e7 (by decide)
  refine lv_iand hx hb dX5_sendBlock_12 ?_
  refine lv_topi (fun v8 e8 => ?_)
  have z8 := zi_and e8 e7 1 (z := 2) (by decide) (by decide) (by decide)
  have hh9 : 0 ≤ fi.toInt ∧ fi.toInt < 9088 := (by omega)
  have hh10 : 0 ≤ cn2_6.toInt ∧ cn2_6.toInt ≤ 9087 := (by omega)
  have hh11 : 0 ≤ v8.toInt ∧ v8.toInt ≤ 1 := (by omega)
  refine call_v (wc := [(aL, .inr (1, [.ref aW, .int fi, .int cn2_6])), (aW, .inl (cJ, 142, .inr (.inl fw2_6)))]) (wr := [(aS, .inr (4, [.ref aC, .ref aG, .int wa])), (aC, .inr (3, [.long la]))]) (run_V (As := [.int v8]) (rest := []) kv_RX5_60 ⟨by decide, by decide⟩ ⟨rfl, rfl⟩ ⟨hx, hb, hml, hown, hts⟩ (c_Ln_append l D cI cJ cB aL aW fi cn2_6 v8 fw2_6 hh9 hh10 hh11 _) ct_blind (ct_pre (wc := [(aL, .inr (1, [.ref aW, .int fi, .int cn2_6])), (aW, .inl (cJ, 142, .inr (.inl fw2_6)))]) hK hP hD hS hA hZ hN [2, 3] (by decide) rfl rfl) (va_recv hK hP (ci := 1) (q0 := 2) rfl rfl) rfl hl.1 rfl (Nat.le_of_ble_eq_true rfl) dX5_sendBlock_13 ⟨Nat.le_of_ble_eq_true rfl, Nat.le_of_ble_eq_true rfl⟩) hP hD hS hA [2, 3] [0, 1] rfl rfl (by decide) (by decide) (fun u H locs hw12 hP1 hD1 hS1 => ?_)
  obtain ⟨cn2_12, fw2_12⟩ := u
  have hw12 : cn2_12.toInt = cn2_6.toInt + 1 ∧ ∀ j : Int, lnB fw2_12 fi.toInt j = if (fi.toInt + j) % 9088 = (fi.toInt + cn2_6.toInt) % 9088 then bt v8 0 else lnB fw2_6 fi.toInt j := hw12
  clear hP hD hS
  have hP : va_P D classes [(aS, .inr (4, [.ref aC, .ref aG, .int wa])), (aC, .inr (3, [.long la])), (aL, .inr (1, [.ref aW, .int fi, .int cn2_12])), (aW, .inl (cJ, 142, .inr (.inl fw2_12)))] H := hP1
  have hD : va_D A [(aS, .inr (4, [.ref aC, .ref aG, .int wa])), (aC, .inr (3, [.long la])), (aL, .inr (1, [.ref aW, .int fi, .int cn2_12])), (aW, .inl (cJ, 142, .inr (.inl fw2_12)))] := hD1
  have hS := hS1
  clear hP1 hD1 hS1
  have rg_cn2_12 := zi_rg cn2_12
  refine lv_iconst (v := 0) hx hb dX5_sendBlock_16 (by decide) ?_
  refine lv_topi (fun v13 e13 => ?_)
  have z13 : v13.toInt = 0 := zi_c e13 (by decide)
  refine lv_istore (lv' := [(5, .int v13), (0, .ref aS), (1, .int hd), (2, .long pl), (4, .ref aL)]) hx hb dX5_sendBlock_17 hl (by decide) rfl (fun ls hl => ?_)
  have J19 : ∀ (n : Nat) (k : Int32) (la3 : Int64) (cn3 : Int32) (fw3 : Nat → Int64) (H : Heap) (locs : List Loc) (ls : Array Slot), ((64 - k.toInt).toNat) < n → (0 ≤ k.toInt ∧ k.toInt ≤ 64) → (cn3.toInt = cn.toInt + 2 + k.toInt) → (sndI hd pl fi.toInt cn.toInt fw fw3 la la3 k.toInt.toNat) → va_P D classes [(aS, .inr (4, [.ref aC, .ref aG, .int wa])), (aC, .inr (3, [.long la3])), (aL, .inr (1, [.ref aW, .int fi, .int cn3])), (aW, .inl (cJ, 142, .inr (.inl fw3)))] H → va_D A [(aS, .inr (4, [.ref aC, .ref aG, .int wa])), (aC, .inr (3, [.long la3])), (aL, .inr (1, [.ref aW, .int fi, .int cn3])), (aW, .inl (cJ, 142, .inr (.inl fw3)))] → va_S A s.heap H locs → lv_has ls 6 [(0, .ref aS), (1, .int hd), (2, .long pl), (4, .ref aL), (5, .int k)] → W p l e (rmL 3 65 0 0) s m args below meth c H locs 0 0 Q (F0 m 19 ls []) := by
    intro n
    induction n with
    | zero => intro k la3 cn3 fw3 H locs ls hmu; exact absurd hmu (Nat.not_lt_zero _)
    | succ n ih19 =>
      intro k la3 cn3 fw3 H locs ls hmu19 i19_0 i19_1 i19_2 hP hD hS hl
      have rg_k := zi_rg k
      have rg_cn3 := zi_rg cn3
      refine lv_iload hx hb dX5_sendBlock_19 (lv_at hl 4 rfl) ?_
      refine lv_bipush (v := 64) hx hb dX5_sendBlock_21 (by decide) ?_
      refine lv_topi (fun v14 e14 => ?_)
      have z14 : v14.toInt = 64 := zi_c e14 (by decide)
      refine lv_icmp_ge (tgt := 51) hx hb dX5_sendBlock_23 (by decide) (fun c15 => ?_) (fun c15 => ?_)
      ·
        have z15 := zi_le c15
        have hq16 : cn3.toInt = cn.toInt + 66 ∧ sndR (hpB hd pl) cn.toInt cn3.toInt (bl la) (bl la3) (lnB fw fi.toInt) (lnB fw3 fi.toInt) := ⟨by omega, sndI_e (by omega) (by have q := i19_2; rw [show k.toInt.toNat = 64 by omega] at q; exact q)⟩
        exact hret (la3, cn3, fw3) _ _ _ _ dX5_sendBlock_51 hq16 (hP.sub [0, 1, 2, 3] rfl) (hD.sub [0, 1, 2, 3] (by decide) rfl) hS
      ·
        have z15 := zi_nle c15
        refine lv_aload hx hb dX5_sendBlock_26 (lv_at hl 3 rfl) ?_
        refine lv_aload_n hx hb dX5_sendBlock_28 rfl (lv_at hl 0 rfl) ?_
        refine va_get (D := D) (ci := 4) (v := .ref aC) (C := RX5) (T := TX5) (N := 3) hx hb hts in_X5 hown hK hP 0 rfl rfl 0 (by decide) (hts _ wk36) (fun _ h9 => h9) rfl dX5_sendBlock_29 ?_
        refine lv_lload_n hx hb dX5_sendBlock_32 rfl (lv_at hl 2 rfl) ?_
        refine lv_iload hx hb dX5_sendBlock_33 (lv_at hl 4 rfl) ?_
        refine lv_lushr hx hb dX5_sendBlock_35 rfl ?_
        refine lv_topl (fun v17 e17 => ?_)
        refine lv_l2i hx hb dX5_sendBlock_36 rfl ?_
        refine lv_topi (fun v18 e18 => ?_)
        refine lv_iconst (v := 1) hx hb dX5_sendBlock_37 (by decide) ?_
        refine lv_topi (fun v19 e19 => ?_)
        have z19 : v19.toInt = 1 := zi_c e19 (by decide)
        refine lv_iand hx hb dX5_sendBlock_38 ?_
        refine lv_topi (fun v20 e20 => ?_)
        have z20 := zi_and e20 e19 1 (z := 2) (by decide) (by decide) (by decide)
        have hh21 : 0 ≤ v20.toInt ∧ v20.toInt ≤ 1 := (by omega)
        refine call_i (wc := [(aC, .inr (3, [.long la3]))]) (wr := [(aS, .inr (4, [.ref aC, .ref aG, .int wa])), (aL, .inr (1, [.ref aW, .int fi, .int cn3])), (aW, .inl (cJ, 142, .inr (.inl fw3)))]) (run_V (As := [.int v20]) (rest := [.ref aL]) kv_RX5_66 ⟨by decide, by decide⟩ ⟨rfl, rfl⟩ ⟨hx, hb, hml, hown, hts⟩ (c_Sc_scramble l D cI cJ cB aC la3 v20 hh21 _) ct_blind (ct_pre (wc := [(aC, .inr (3, [.long la3]))]) hK hP hD hS hA hZ hN [1] (by decide) rfl rfl) (va_recv hK hP (ci := 3) (q0 := 1) rfl rfl) rfl hl.1 rfl (Nat.le_of_ble_eq_true rfl) dX5_sendBlock_39 ⟨Nat.le_of_ble_eq_true rfl, Nat.le_of_ble_eq_true rfl⟩) hP hD hS hA [1] [0, 2, 3] rfl rfl (by decide) (by decide) (fun r22 u H locs hw22 hP1 hD1 hS1 => ?_)
        obtain ⟨la2_22, hu9⟩ : ∃ z, z = u := ⟨_, rfl⟩
        subst hu9
        have hw22 : (0 ≤ r22.toInt ∧ r22.toInt ≤ 1) ∧ r22 = bi (scO (bl la3) (bt v20 0)) ∧ ∀ j, j < 58 → bl la2_22 j = scN (bl la3) (scO (bl la3) (bt v20 0)) j := hw22
        clear hP hD hS
        have hP : va_P D classes [(aS, .inr (4, [.ref aC, .ref aG, .int wa])), (aL, .inr (1, [.ref aW, .int fi, .int cn3])), (aW, .inl (cJ, 142, .inr (.inl fw3))), (aC, .inr (3, [.long la2_22]))] H := hP1
        have hD : va_D A [(aS, .inr (4, [.ref aC, .ref aG, .int wa])), (aL, .inr (1, [.ref aW, .int fi, .int cn3])), (aW, .inl (cJ, 142, .inr (.inl fw3))), (aC, .inr (3, [.long la2_22]))] := hD1
        have hS := hS1
        clear hP1 hD1 hS1
        have rg_r22 := zi_rg r22
        have hh23 : 0 ≤ fi.toInt ∧ fi.toInt < 9088 := (by omega)
        have hh24 : 0 ≤ cn3.toInt ∧ cn3.toInt ≤ 9087 := (by omega)
        have hh25 : 0 ≤ r22.toInt ∧ r22.toInt ≤ 1 := (by omega)
        refine call_v (wc := [(aL, .inr (1, [.ref aW, .int fi, .int cn3])), (aW, .inl (cJ, 142, .inr (.inl fw3)))]) (wr := [(aS, .inr (4, [.ref aC, .ref aG, .int wa])), (aC, .inr (3, [.long la2_22]))]) (run_V (As := [.int r22]) (rest := []) kv_RX5_60 ⟨by decide, by decide⟩ ⟨rfl, rfl⟩ ⟨hx, hb, hml, hown, hts⟩ (c_Ln_append l D cI cJ cB aL aW fi cn3 r22 fw3 hh23 hh24 hh25 _) ct_blind (ct_pre (wc := [(aL, .inr (1, [.ref aW, .int fi, .int cn3])), (aW, .inl (cJ, 142, .inr (.inl fw3)))]) hK hP hD hS hA hZ hN [1, 2] (by decide) rfl rfl) (va_recv hK hP (ci := 1) (q0 := 1) rfl rfl) rfl hl.1 rfl (Nat.le_of_ble_eq_true rfl) dX5_sendBlock_42 ⟨Nat.le_of_ble_eq_true rfl, Nat.le_of_ble_eq_true rfl⟩) hP hD hS hA [1, 2] [0, 3] rfl rfl (by decide) (by decide) (fun u H locs hw26 hP1 hD1 hS1 => ?_)
        obtain ⟨cn2_26, fw2_26⟩ := u
        have hw26 : cn2_26.toInt = cn3.toInt + 1 ∧ ∀ j : Int, lnB fw2_26 fi.toInt j = if (fi.toInt + j) % 9088 = (fi.toInt + cn3.toInt) % 9088 then bt r22 0 else lnB fw3 fi.toInt j := hw26
        clear hP hD hS
        have hP : va_P D classes [(aS, .inr (4, [.ref aC, .ref aG, .int wa])), (aC, .inr (3, [.long la2_22])), (aL, .inr (1, [.ref aW, .int fi, .int cn2_26])), (aW, .inl (cJ, 142, .inr (.inl fw2_26)))] H := hP1
        have hD : va_D A [(aS, .inr (4, [.ref aC, .ref aG, .int wa])), (aC, .inr (3, [.long la2_22])), (aL, .inr (1, [.ref aW, .int fi, .int cn2_26])), (aW, .inl (cJ, 142, .inr (.inl fw2_26)))] := hD1
        have hS := hS1
        clear hP1 hD1 hS1
        have rg_cn2_26 := zi_rg cn2_26
        obtain ⟨v27, e27⟩ : ∃ y : Int32, y = k + 1 := ⟨_, rfl⟩
        first | have z27 := zi_inc (z := 1) 1 (by decide) e27 (by omega) | skip
        refine lv_iinc (v := v27) (lv' := [(5, .int v27), (0, .ref aS), (1, .int hd), (2, .long pl), (4, .ref aL)]) hx hb dX5_sendBlock_45 hl (k := 4) rfl (by rw [e27]; rfl) (by decide) rfl (fun ls hl => ?_)
        refine lv_goto (tgt := 19) hx hb dX5_sendBlock_48 (by decide) ?_
        exact ih19 v27 la2_22 cn2_26 fw2_26 _ _ _ (by omega) (by omega) (by omega) (by rw [show v27.toInt.toNat = k.toInt.toNat + 1 by omega]; exact sndI_s (by omega) (by omega) (by omega) i19_2 (by rw [rd_bit (k := k.toInt.toNat) (by omega) (by omega) e17 e18 e19 e20, bi_t0]) hw22.2.1 hw22.2.2 hw26.2) (hP.sub [0, 1, 2, 3] rfl) (hD.sub [0, 1, 2, 3] (by decide) rfl) hS (lv_sub hl [1, 2, 3, 4, 0] rfl)
  exact J19 _ v13 la cn2_12 fw2_12 _ _ _ (Nat.lt_succ_self _) (by omega) (by omega) (by rw [show v13.toInt.toNat = 0 by omega]; exact sndI_0 (by omega) (by omega) hw6.2 hw12.2 (by rw [iu_1 e1 e2 (by omega), bi_t0]) (by rw [e8, e7, and1, bi_t0])) (hP.sub [0, 1, 2, 3] rfl) (hD.sub [0, 1, 2, 3] (by decide) rfl) hS (lv_sub hl [1, 2, 3, 4, 0] rfl)

set_option maxHeartbeats 4000000 in
set_option maxRecDepth 100000 in
theorem c_Se_sendGroup (l : Launch) (D : va_G) (cI cJ cB : ClassId) (aS : Nat) (aC : Nat) (aG : Nat) (aL : Nat) (aW : Nat) (la : Int64) (fg : Nat → Int32) (wa : Int32) (fi : Int32) (cn : Int32) (fw : Nat → Int64) (h1 : 0 ≤ fi.toInt ∧ fi.toInt < 9088) (h2 : 0 ≤ cn.toInt ∧ cn.toInt + 66 ≤ 9087) (h3 : ∀ j, j < 8 → 0 ≤ (fg j).toInt ∧ (fg j).toInt ≤ 259) :
    ctv l yX5_sendGroup (wsOf yX5_sendGroup cX5_sendGroup 4 none) (rmL 4 90 0 0) D classes (tys3 cI cJ cB) [.ref aS, .ref aL] [(aS, .inr (4, [.ref aC, .ref aG, .int wa])), (aC, .inr (3, [.long la])), (aG, .inl (cI, 8, .inl fg)), (aL, .inr (1, [.ref aW, .int fi, .int cn])), (aW, .inl (cJ, 142, .inr (.inl fw)))] (fun u : Int64 × (Nat → Int32) × Int32 × (Nat → Int64) => u.2.2.1.toInt = cn.toInt + 66 ∧ ∃ B, blkR fg B ∧ sndR B cn.toInt u.2.2.1.toInt (bl la) (bl u.1) (lnB fw fi.toInt) (lnB u.2.2.2 fi.toInt)) (fun u : Int64 × (Nat → Int32) × Int32 × (Nat → Int64) => ([(aS, .inr (4, [.ref aC, .ref aG, .int wa])), (aC, .inr (3, [.long u.1])), (aG, .inl (cI, 8, .inl u.2.1)), (aL, .inr (1, [.ref aW, .int fi, .int u.2.2.1])), (aW, .inl (cJ, 142, .inr (.inl u.2.2.2)))] : va_W)) 0 0 := by
  refine ctv.of (by first | exact plainFor_of_name (by decide) | decide +kernel) (Nat.le_of_ble_eq_true rfl) (fun p e s m args below meth c A ls Q h hret => ?_)
  obtain ⟨hx, hb, hml, hown, hts, hnm, hP, hK, hD, hA, hS, hZ, hN, hl⟩ := h
  have hown : s.vm.findClass RX5 = some m.cls := hown
  have hl : lv_has ls 4 [(0, .ref aS), (1, .ref aL)] := hl
  have hP : va_P D classes [(aS, .inr (4, [.ref aC, .ref aG, .int wa])), (aC, .inr (3, [.long la])), (aG, .inl (cI, 8, .inl fg)), (aL, .inr (1, [.ref aW, .int fi, .int cn])), (aW, .inl (cJ, 142, .inr (.inl fw)))] s.heap := hP
  have hD : va_D A [(aS, .inr (4, [.ref aC, .ref aG, .int wa])), (aC, .inr (3, [.long la])), (aG, .inl (cI, 8, .inl fg)), (aL, .inr (1, [.ref aW, .int fi, .int cn])), (aW, .inl (cJ, 142, .inr (.inl fw)))] := hD
  have rg_wa := zi_rg wa
  have rg_fi := zi_rg fi
  have rg_cn := zi_rg cn
  refine lv_aload_n hx hb dX5_sendGroup_0 rfl (lv_at hl 0 rfl) ?_
  refine va_get (D := D) (ci := 4) (v := .ref aG) (C := RX5) (T := TX5) (N := 3) hx hb hts in_X5 hown hK hP 0 rfl rfl 1 (by decide) (hts _ wk38) (fun _ h9 => h9) rfl dX5_sendGroup_1 ?_
  refine call_i (wc := [(aG, .inl (cI, 8, .inl fg))]) (wr := [(aS, .inr (4, [.ref aC, .ref aG, .int wa])), (aC, .inr (3, [.long la])), (aL, .inr (1, [.ref aW, .int fi, .int cn])), (aW, .inl (cJ, 142, .inr (.inl fw)))]) (run_S (As := [.ref aG]) (rest := []) ks_RX5_46 ⟨by decide, by decide⟩ ⟨rfl, rfl⟩ ⟨hx, hb, hml, hown, hts⟩ (c_Co_typeOfGroup l D cI cJ cB aG fg  _) ct_blind (ct_pre (wc := [(aG, .inl (cI, 8, .inl fg))]) hK hP hD hS hA hZ hN [2] (by decide) rfl rfl) rfl hl.1 rfl (Nat.le_of_ble_eq_true rfl) dX5_sendGroup_4 ⟨Nat.le_of_ble_eq_true rfl, Nat.le_of_ble_eq_true rfl⟩) hP hD hS hA [2] [0, 1, 3, 4] rfl rfl (by decide) (by decide) (fun r1 u H locs hw1 hP1 hD1 hS1 => ?_)
  have hw1 : tyR fg r1 := hw1
  clear hP hD hS
  have hP : va_P D classes [(aS, .inr (4, [.ref aC, .ref aG, .int wa])), (aC, .inr (3, [.long la])), (aL, .inr (1, [.ref aW, .int fi, .int cn])), (aW, .inl (cJ, 142, .inr (.inl fw))), (aG, .inl (cI, 8, .inl fg))] H := hP1
  have hD : va_D A [(aS, .inr (4, [.ref aC, .ref aG, .int wa])), (aC, .inr (3, [.long la])), (aL, .inr (1, [.ref aW, .int fi, .int cn])), (aW, .inl (cJ, 142, .inr (.inl fw))), (aG, .inl (cI, 8, .inl fg))] := hD1
  have hS := hS1
  clear hP1 hD1 hS1
  have rg_r1 := zi_rg r1
  refine lv_istore_n (lv' := [(2, .int r1), (0, .ref aS), (1, .ref aL)]) hx hb dX5_sendGroup_7 rfl hl (by decide) rfl (fun ls hl => ?_)
  refine lv_iload_n hx hb dX5_sendGroup_8 rfl (lv_at hl 0 rfl) ?_
  refine lv_bipush (v := -2) hx hb dX5_sendGroup_9 (by decide) ?_
  refine lv_topi (fun v2 e2 => ?_)
  have z2 : v2.toInt = (-2) := zi_c e2 (by decide)
  refine lv_icmp_ne (tgt := 27) hx hb dX5_sendGroup_11 (by decide) (fun c3 => ?_) (fun c3 => ?_)
  ·
    have z3 := zi_ne c3
    refine lv_iload_n hx hb dX5_sendGroup_27 rfl (lv_at hl 0 rfl) ?_
    refine lv_iconst (v := -1) hx hb dX5_sendGroup_28 (by decide) ?_
    refine lv_topi (fun v4 e4 => ?_)
    have z4 : v4.toInt = (-1) := zi_c e4 (by decide)
    refine lv_icmp_ne (tgt := 36) hx hb dX5_sendGroup_29 (by decide) (fun c5 => ?_) (fun c5 => ?_)
    ·
      have z5 := zi_ne c5
      refine lv_iconst (v := 2) hx hb dX5_sendGroup_36 (by decide) ?_
      refine lv_topi (fun v6 e6 => ?_)
      have z6 : v6.toInt = 2 := zi_c e6 (by decide)
      refine lv_istore_n (lv' := [(3, .int v6), (2, .int r1), (0, .ref aS), (1, .ref aL)]) hx hb dX5_sendGroup_37 rfl hl (by decide) rfl (fun ls hl => ?_)
      refine lv_aload_n hx hb dX5_sendGroup_38 rfl (lv_at hl 2 rfl) ?_
      refine lv_iload_n hx hb dX5_sendGroup_39 rfl (lv_at hl 0 rfl) ?_
      refine lv_iload_n hx hb dX5_sendGroup_40 rfl (lv_at hl 1 rfl) ?_
      refine lv_aload_n hx hb dX5_sendGroup_41 rfl (lv_at hl 2 rfl) ?_
      refine va_get (D := D) (ci := 4) (v := .ref aG) (C := RX5) (T := TX5) (N := 3) hx hb hts in_X5 hown hK hP 0 rfl rfl 1 (by decide) (hts _ wk38) (fun _ h9 => h9) rfl dX5_sendGroup_42 ?_
      have hh7 : ∀ j, j < 8 → 0 ≤ (fg j).toInt ∧ (fg j).toInt ≤ 259 := (by first | exact h3 | (intro j hj; rw [hw27 j hj]; omega))
      have hh8 : eT r1 → 256 ≤ (fg 7).toInt := (by first | exact ty_7 hw1 | (intro _; rw [hw27 7 (by omega)]; omega))
      have hh9 : r1.toInt = -1 ∨ (0 ≤ r1.toInt ∧ r1.toInt ≤ 255) := (by first | omega | exact ty_rg hw1 (by omega))
      refine call_l (wc := [(aG, .inl (cI, 8, .inl fg))]) (wr := [(aS, .inr (4, [.ref aC, .ref aG, .int wa])), (aC, .inr (3, [.long la])), (aL, .inr (1, [.ref aW, .int fi, .int cn])), (aW, .inl (cJ, 142, .inr (.inl fw)))]) (run_S (As := [.int r1, .ref aG]) (rest := [.int v6, .ref aS]) ks_RX5_56 ⟨by decide, by decide⟩ ⟨rfl, rfl⟩ ⟨hx, hb, hml, hown, hts⟩ (c_Co_payloadOf l D cI cJ cB aG fg r1 hh7 hh8 hh9 _) ct_blind (ct_pre (wc := [(aG, .inl (cI, 8, .inl fg))]) hK hP hD hS hA hZ hN [4] (by decide) rfl rfl) rfl hl.1 rfl (Nat.le_of_ble_eq_true rfl) dX5_sendGroup_45 ⟨Nat.le_of_ble_eq_true rfl, Nat.le_of_ble_eq_true rfl⟩) hP hD hS hA [4] [0, 1, 2, 3] rfl rfl (by decide) (by decide) (fun r10 u H locs hw10 hP1 hD1 hS1 => ?_)
      have hw10 : pbits fg r1 r10 := hw10
      clear hP hD hS
      have hP : va_P D classes [(aS, .inr (4, [.ref aC, .ref aG, .int wa])), (aC, .inr (3, [.long la])), (aL, .inr (1, [.ref aW, .int fi, .int cn])), (aW, .inl (cJ, 142, .inr (.inl fw))), (aG, .inl (cI, 8, .inl fg))] H := hP1
      have hD : va_D A [(aS, .inr (4, [.ref aC, .ref aG, .int wa])), (aC, .inr (3, [.long la])), (aL, .inr (1, [.ref aW, .int fi, .int cn])), (aW, .inl (cJ, 142, .inr (.inl fw))), (aG, .inl (cI, 8, .inl fg))] := hD1
      have hS := hS1
      clear hP1 hD1 hS1
      refine lv_aload_n hx hb dX5_sendGroup_48 rfl (lv_at hl 3 rfl) ?_
      have hh11 : 0 ≤ fi.toInt ∧ fi.toInt < 9088 := (by omega)
      have hh12 : 0 ≤ cn.toInt ∧ cn.toInt + 66 ≤ 9087 := (by omega)
      have hh13 : v6.toInt = 1 ∨ v6.toInt = 2 := (by omega)
      refine call_v (wc := [(aS, .inr (4, [.ref aC, .ref aG, .int wa])), (aC, .inr (3, [.long la])), (aL, .inr (1, [.ref aW, .int fi, .int cn])), (aW, .inl (cJ, 142, .inr (.inl fw)))]) (wr := [(aG, .inl (cI, 8, .inl fg))]) (run_V (As := [.int v6, .long r10, .ref aL]) (rest := []) kv_RX5_42 ⟨by decide, by decide⟩ ⟨rfl, rfl⟩ ⟨hx, hb, hml, hown, hts⟩ (c_Se_sendBlock l D cI cJ cB aS aC aG aL aW la r10 wa fi cn v6 fw hh11 hh12 hh13 _) ct_blind (ct_pre (wc := [(aS, .inr (4, [.ref aC, .ref aG, .int wa])), (aC, .inr (3, [.long la])), (aL, .inr (1, [.ref aW, .int fi, .int cn])), (aW, .inl (cJ, 142, .inr (.inl fw)))]) hK hP hD hS hA hZ hN [0, 1, 2, 3] (by decide) rfl rfl) (va_recv hK hP (ci := 4) (q0 := 0) rfl rfl) rfl hl.1 rfl (Nat.le_of_ble_eq_true rfl) dX5_sendGroup_49 ⟨Nat.le_of_ble_eq_true rfl, Nat.le_of_ble_eq_true rfl⟩) hP hD hS hA [0, 1, 2, 3] [4] rfl rfl (by decide) (by decide) (fun u H locs hw14 hP1 hD1 hS1 => ?_)
      obtain ⟨la2_14, cn2_14, fw2_14⟩ := u
      have hw14 : cn2_14.toInt = cn.toInt + 66 ∧ sndR (hpB v6 r10) cn.toInt cn2_14.toInt (bl la) (bl la2_14) (lnB fw fi.toInt) (lnB fw2_14 fi.toInt) := hw14
      clear hP hD hS
      have hP : va_P D classes [(aG, .inl (cI, 8, .inl fg)), (aS, .inr (4, [.ref aC, .ref aG, .int wa])), (aC, .inr (3, [.long la2_14])), (aL, .inr (1, [.ref aW, .int fi, .int cn2_14])), (aW, .inl (cJ, 142, .inr (.inl fw2_14)))] H := hP1
      have hD : va_D A [(aG, .inl (cI, 8, .inl fg)), (aS, .inr (4, [.ref aC, .ref aG, .int wa])), (aC, .inr (3, [.long la2_14])), (aL, .inr (1, [.ref aW, .int fi, .int cn2_14])), (aW, .inl (cJ, 142, .inr (.inl fw2_14)))] := hD1
      have hS := hS1
      clear hP1 hD1 hS1
      have rg_cn2_14 := zi_rg cn2_14
      have hq15 : cn2_14.toInt = cn.toInt + 66 ∧ ∃ B, blkR fg B ∧ sndR B cn.toInt cn2_14.toInt (bl la) (bl la2_14) (lnB fw fi.toInt) (lnB fw2_14 fi.toInt) := (by first | exact ⟨hw14.1, _, cls_blk h3 hw1 (by omega) (fun q => by omega) (fun q => by omega) hw10, hw14.2⟩ | exact ⟨hw24.1, _, cls_blk h3 hw1 (by omega) (fun q => by omega) (fun q => by omega) hw20, hw24.2⟩ | exact ⟨hw39.1, _, cls_err hw1 (by omega) (fun j hj => by rw [hw27 j hj]; omega) z28 z31 hw35, hw39.2⟩)
      exact hret (la2_14, fg, cn2_14, fw2_14) _ _ _ _ dX5_sendGroup_52 hq15 (hP.sub [1, 2, 0, 3, 4] rfl) (hD.sub [1, 2, 0, 3, 4] (by decide) rfl) hS
    ·
      have z5 := zi_eq c5
      refine lv_iconst (v := 1) hx hb dX5_sendGroup_32 (by decide) ?_
      refine lv_topi (fun v16 e16 => ?_)
      have z16 : v16.toInt = 1 := zi_c e16 (by decide)
      refine lv_goto (tgt := 37) hx hb dX5_sendGroup_33 (by decide) ?_
      refine lv_istore_n (lv' := [(3, .int v16), (2, .int r1), (0, .ref aS), (1, .ref aL)]) hx hb dX5_sendGroup_37 rfl hl (by decide) rfl (fun ls hl => ?_)
      refine lv_aload_n hx hb dX5_sendGroup_38 rfl (lv_at hl 2 rfl) ?_
      refine lv_iload_n hx hb dX5_sendGroup_39 rfl (lv_at hl 0 rfl) ?_
      refine lv_iload_n hx hb dX5_sendGroup_40 rfl (lv_at hl 1 rfl) ?_
      refine lv_aload_n hx hb dX5_sendGroup_41 rfl (lv_at hl 2 rfl) ?_
      refine va_get (D := D) (ci := 4) (v := .ref aG) (C := RX5) (T := TX5) (N := 3) hx hb hts in_X5 hown hK hP 0 rfl rfl 1 (by decide) (hts _ wk38) (fun _ h9 => h9) rfl dX5_sendGroup_42 ?_
      have hh17 : ∀ j, j < 8 → 0 ≤ (fg j).toInt ∧ (fg j).toInt ≤ 259 := (by first | exact h3 | (intro j hj; rw [hw27 j hj]; omega))
      have hh18 : eT r1 → 256 ≤ (fg 7).toInt := (by first | exact ty_7 hw1 | (intro _; rw [hw27 7 (by omega)]; omega))
      have hh19 : r1.toInt = -1 ∨ (0 ≤ r1.toInt ∧ r1.toInt ≤ 255) := (by first | omega | exact ty_rg hw1 (by omega))
      refine call_l (wc := [(aG, .inl (cI, 8, .inl fg))]) (wr := [(aS, .inr (4, [.ref aC, .ref aG, .int wa])), (aC, .inr (3, [.long la])), (aL, .inr (1, [.ref aW, .int fi, .int cn])), (aW, .inl (cJ, 142, .inr (.inl fw)))]) (run_S (As := [.int r1, .ref aG]) (rest := [.int v16, .ref aS]) ks_RX5_56 ⟨by decide, by decide⟩ ⟨rfl, rfl⟩ ⟨hx, hb, hml, hown, hts⟩ (c_Co_payloadOf l D cI cJ cB aG fg r1 hh17 hh18 hh19 _) ct_blind (ct_pre (wc := [(aG, .inl (cI, 8, .inl fg))]) hK hP hD hS hA hZ hN [4] (by decide) rfl rfl) rfl hl.1 rfl (Nat.le_of_ble_eq_true rfl) dX5_sendGroup_45 ⟨Nat.le_of_ble_eq_true rfl, Nat.le_of_ble_eq_true rfl⟩) hP hD hS hA [4] [0, 1, 2, 3] rfl rfl (by decide) (by decide) (fun r20 u H locs hw20 hP1 hD1 hS1 => ?_)
      have hw20 : pbits fg r1 r20 := hw20
      clear hP hD hS
      have hP : va_P D classes [(aS, .inr (4, [.ref aC, .ref aG, .int wa])), (aC, .inr (3, [.long la])), (aL, .inr (1, [.ref aW, .int fi, .int cn])), (aW, .inl (cJ, 142, .inr (.inl fw))), (aG, .inl (cI, 8, .inl fg))] H := hP1
      have hD : va_D A [(aS, .inr (4, [.ref aC, .ref aG, .int wa])), (aC, .inr (3, [.long la])), (aL, .inr (1, [.ref aW, .int fi, .int cn])), (aW, .inl (cJ, 142, .inr (.inl fw))), (aG, .inl (cI, 8, .inl fg))] := hD1
      have hS := hS1
      clear hP1 hD1 hS1
      refine lv_aload_n hx hb dX5_sendGroup_48 rfl (lv_at hl 3 rfl) ?_
      have hh21 : 0 ≤ fi.toInt ∧ fi.toInt < 9088 := (by omega)
      have hh22 : 0 ≤ cn.toInt ∧ cn.toInt + 66 ≤ 9087 := (by omega)
      have hh23 : v16.toInt = 1 ∨ v16.toInt = 2 := (by omega)
      refine call_v (wc := [(aS, .inr (4, [.ref aC, .ref aG, .int wa])), (aC, .inr (3, [.long la])), (aL, .inr (1, [.ref aW, .int fi, .int cn])), (aW, .inl (cJ, 142, .inr (.inl fw)))]) (wr := [(aG, .inl (cI, 8, .inl fg))]) (run_V (As := [.int v16, .long r20, .ref aL]) (rest := []) kv_RX5_42 ⟨by decide, by decide⟩ ⟨rfl, rfl⟩ ⟨hx, hb, hml, hown, hts⟩ (c_Se_sendBlock l D cI cJ cB aS aC aG aL aW la r20 wa fi cn v16 fw hh21 hh22 hh23 _) ct_blind (ct_pre (wc := [(aS, .inr (4, [.ref aC, .ref aG, .int wa])), (aC, .inr (3, [.long la])), (aL, .inr (1, [.ref aW, .int fi, .int cn])), (aW, .inl (cJ, 142, .inr (.inl fw)))]) hK hP hD hS hA hZ hN [0, 1, 2, 3] (by decide) rfl rfl) (va_recv hK hP (ci := 4) (q0 := 0) rfl rfl) rfl hl.1 rfl (Nat.le_of_ble_eq_true rfl) dX5_sendGroup_49 ⟨Nat.le_of_ble_eq_true rfl, Nat.le_of_ble_eq_true rfl⟩) hP hD hS hA [0, 1, 2, 3] [4] rfl rfl (by decide) (by decide) (fun u H locs hw24 hP1 hD1 hS1 => ?_)
      obtain ⟨la2_24, cn2_24, fw2_24⟩ := u
      have hw24 : cn2_24.toInt = cn.toInt + 66 ∧ sndR (hpB v16 r20) cn.toInt cn2_24.toInt (bl la) (bl la2_24) (lnB fw fi.toInt) (lnB fw2_24 fi.toInt) := hw24
      clear hP hD hS
      have hP : va_P D classes [(aG, .inl (cI, 8, .inl fg)), (aS, .inr (4, [.ref aC, .ref aG, .int wa])), (aC, .inr (3, [.long la2_24])), (aL, .inr (1, [.ref aW, .int fi, .int cn2_24])), (aW, .inl (cJ, 142, .inr (.inl fw2_24)))] H := hP1
      have hD : va_D A [(aG, .inl (cI, 8, .inl fg)), (aS, .inr (4, [.ref aC, .ref aG, .int wa])), (aC, .inr (3, [.long la2_24])), (aL, .inr (1, [.ref aW, .int fi, .int cn2_24])), (aW, .inl (cJ, 142, .inr (.inl fw2_24)))] := hD1
      have hS := hS1
      clear hP1 hD1 hS1
      have rg_cn2_24 := zi_rg cn2_24
      have hq25 : cn2_24.toInt = cn.toInt + 66 ∧ ∃ B, blkR fg B ∧ sndR B cn.toInt cn2_24.toInt (bl la) (bl la2_24) (lnB fw fi.toInt) (lnB fw2_24 fi.toInt) := (by first | exact ⟨hw14.1, _, cls_blk h3 hw1 (by omega) (fun q => by omega) (fun q => by omega) hw10, hw14.2⟩ | exact ⟨hw24.1, _, cls_blk h3 hw1 (by omega) (fun q => by omega) (fun q => by omega) hw20, hw24.2⟩ | exact ⟨hw39.1, _, cls_err hw1 (by omega) (fun j hj => by rw [hw27 j hj]; omega) z28 z31 hw35, hw39.2⟩)
      exact hret (la2_24, fg, cn2_24, fw2_24) _ _ _ _ dX5_sendGroup_52 hq25 (hP.sub [1, 2, 0, 3, 4] rfl) (hD.sub [1, 2, 0, 3, 4] (by decide) rfl) hS
  ·
    have z3 := zi_eq c3
    refine lv_aload_n hx hb dX5_sendGroup_14 rfl (lv_at hl 1 rfl) ?_
    refine va_get (D := D) (ci := 4) (v := .ref aG) (C := RX5) (T := TX5) (N := 3) hx hb hts in_X5 hown hK hP 0 rfl rfl 1 (by decide) (hts _ wk38) (fun _ h9 => h9) rfl dX5_sendGroup_15 ?_
    refine lv_sipush (v := 259) hx hb dX5_sendGroup_18 (by decide) ?_
    refine lv_topi (fun v26 e26 => ?_)
    have z26 : v26.toInt = 259 := zi_c e26 (by decide)
    refine call_v (wc := [(aG, .inl (cI, 8, .inl fg))]) (wr := [(aS, .inr (4, [.ref aC, .ref aG, .int wa])), (aC, .inr (3, [.long la])), (aL, .inr (1, [.ref aW, .int fi, .int cn])), (aW, .inl (cJ, 142, .inr (.inl fw)))]) (run_S (As := [.ref aG, .int v26]) (rest := []) ks_RX5_50 ⟨by decide, by decide⟩ ⟨rfl, rfl⟩ ⟨hx, hb, hml, hown, hts⟩ (c_JA_fill l D cI cJ cB aG v26 fg  _) ct_blind (ct_pre (wc := [(aG, .inl (cI, 8, .inl fg))]) hK hP hD hS hA hZ hN [4] (by decide) rfl rfl) rfl hl.1 rfl (Nat.le_of_ble_eq_true rfl) dX5_sendGroup_21 ⟨Nat.le_of_ble_eq_true rfl, Nat.le_of_ble_eq_true rfl⟩) hP hD hS hA [4] [0, 1, 2, 3] rfl rfl (by decide) (by decide) (fun u H locs hw27 hP1 hD1 hS1 => ?_)
    obtain ⟨fg2_27, hu9⟩ : ∃ z, z = u := ⟨_, rfl⟩
    subst hu9
    have hw27 : ∀ j, j < 8 → fg2_27 j = v26 := hw27
    clear hP hD hS
    have hP : va_P D classes [(aS, .inr (4, [.ref aC, .ref aG, .int wa])), (aC, .inr (3, [.long la])), (aL, .inr (1, [.ref aW, .int fi, .int cn])), (aW, .inl (cJ, 142, .inr (.inl fw))), (aG, .inl (cI, 8, .inl fg2_27))] H := hP1
    have hD : va_D A [(aS, .inr (4, [.ref aC, .ref aG, .int wa])), (aC, .inr (3, [.long la])), (aL, .inr (1, [.ref aW, .int fi, .int cn])), (aW, .inl (cJ, 142, .inr (.inl fw))), (aG, .inl (cI, 8, .inl fg2_27))] := hD1
    have hS := hS1
    clear hP1 hD1 hS1
    refine lv_bipush (v := 30) hx hb dX5_sendGroup_24 (by decide) ?_
    refine lv_topi (fun v28 e28 => ?_)
    have z28 : v28.toInt = 30 := zi_c e28 (by decide)
    refine lv_istore_n (lv' := [(2, .int v28), (0, .ref aS), (1, .ref aL)]) hx hb dX5_sendGroup_26 rfl hl (by decide) rfl (fun ls hl => ?_)
    refine lv_iload_n hx hb dX5_sendGroup_27 rfl (lv_at hl 0 rfl) ?_
    refine lv_iconst (v := -1) hx hb dX5_sendGroup_28 (by decide) ?_
    refine lv_topi (fun v29 e29 => ?_)
    have z29 : v29.toInt = (-1) := zi_c e29 (by decide)
    refine lv_icmp_ne (tgt := 36) hx hb dX5_sendGroup_29 (by decide) (fun c30 => ?_) (fun c30 => by have z30 := zi_eq c30; exfalso; omega)
    have z30 := zi_ne c30
    refine lv_iconst (v := 2) hx hb dX5_sendGroup_36 (by decide) ?_
    refine lv_topi (fun v31 e31 => ?_)
    have z31 : v31.toInt = 2 := zi_c e31 (by decide)
    refine lv_istore_n (lv' := [(3, .int v31), (2, .int v28), (0, .ref aS), (1, .ref aL)]) hx hb dX5_sendGroup_37 rfl hl (by decide) rfl (fun ls hl => ?_)
    refine lv_aload_n hx hb dX5_sendGroup_38 rfl (lv_at hl 2 rfl) ?_
    refine lv_iload_n hx hb dX5_sendGroup_39 rfl (lv_at hl 0 rfl) ?_
    refine lv_iload_n hx hb dX5_sendGroup_40 rfl (lv_at hl 1 rfl) ?_
    refine lv_aload_n hx hb dX5_sendGroup_41 rfl (lv_at hl 2 rfl) ?_
    refine va_get (D := D) (ci := 4) (v := .ref aG) (C := RX5) (T := TX5) (N := 3) hx hb hts in_X5 hown hK hP 0 rfl rfl 1 (by decide) (hts _ wk38) (fun _ h9 => h9) rfl dX5_sendGroup_42 ?_
    have hh32 : ∀ j, j < 8 → 0 ≤ (fg2_27 j).toInt ∧ (fg2_27 j).toInt ≤ 259 := (by first | exact h3 | (intro j hj; rw [hw27 j hj]; omega))
    have hh33 : eT v28 → 256 ≤ (fg2_27 7).toInt := (by first | exact ty_7 hw1 | (intro _; rw [hw27 7 (by omega)]; omega))
    have hh34 : v28.toInt = -1 ∨ (0 ≤ v28.toInt ∧ v28.toInt ≤ 255) := (by first | omega | exact ty_rg hw1 (by omega))
    refine call_l (wc := [(aG, .inl (cI, 8, .inl fg2_27))]) (wr := [(aS, .inr (4, [.ref aC, .ref aG, .int wa])), (aC, .inr (3, [.long la])), (aL, .inr (1, [.ref aW, .int fi, .int cn])), (aW, .inl (cJ, 142, .inr (.inl fw)))]) (run_S (As := [.int v28, .ref aG]) (rest := [.int v31, .ref aS]) ks_RX5_56 ⟨by decide, by decide⟩ ⟨rfl, rfl⟩ ⟨hx, hb, hml, hown, hts⟩ (c_Co_payloadOf l D cI cJ cB aG fg2_27 v28 hh32 hh33 hh34 _) ct_blind (ct_pre (wc := [(aG, .inl (cI, 8, .inl fg2_27))]) hK hP hD hS hA hZ hN [4] (by decide) rfl rfl) rfl hl.1 rfl (Nat.le_of_ble_eq_true rfl) dX5_sendGroup_45 ⟨Nat.le_of_ble_eq_true rfl, Nat.le_of_ble_eq_true rfl⟩) hP hD hS hA [4] [0, 1, 2, 3] rfl rfl (by decide) (by decide) (fun r35 u H locs hw35 hP1 hD1 hS1 => ?_)
    have hw35 : pbits fg2_27 v28 r35 := hw35
    clear hP hD hS
    have hP : va_P D classes [(aS, .inr (4, [.ref aC, .ref aG, .int wa])), (aC, .inr (3, [.long la])), (aL, .inr (1, [.ref aW, .int fi, .int cn])), (aW, .inl (cJ, 142, .inr (.inl fw))), (aG, .inl (cI, 8, .inl fg2_27))] H := hP1
    have hD : va_D A [(aS, .inr (4, [.ref aC, .ref aG, .int wa])), (aC, .inr (3, [.long la])), (aL, .inr (1, [.ref aW, .int fi, .int cn])), (aW, .inl (cJ, 142, .inr (.inl fw))), (aG, .inl (cI, 8, .inl fg2_27))] := hD1
    have hS := hS1
    clear hP1 hD1 hS1
    refine lv_aload_n hx hb dX5_sendGroup_48 rfl (lv_at hl 3 rfl) ?_
    have hh36 : 0 ≤ fi.toInt ∧ fi.toInt < 9088 := (by omega)
    have hh37 : 0 ≤ cn.toInt ∧ cn.toInt + 66 ≤ 9087 := (by omega)
    have hh38 : v31.toInt = 1 ∨ v31.toInt = 2 := (by omega)
    refine call_v (wc := [(aS, .inr (4, [.ref aC, .ref aG, .int wa])), (aC, .inr (3, [.long la])), (aL, .inr (1, [.ref aW, .int fi, .int cn])), (aW, .inl (cJ, 142, .inr (.inl fw)))]) (wr := [(aG, .inl (cI, 8, .inl fg2_27))]) (run_V (As := [.int v31, .long r35, .ref aL]) (rest := []) kv_RX5_42 ⟨by decide, by decide⟩ ⟨rfl, rfl⟩ ⟨hx, hb, hml, hown, hts⟩ (c_Se_sendBlock l D cI cJ cB aS aC aG aL aW la r35 wa fi cn v31 fw hh36 hh37 hh38 _) ct_blind (ct_pre (wc := [(aS, .inr (4, [.ref aC, .ref aG, .int wa])), (aC, .inr (3, [.long la])), (aL, .inr (1, [.ref aW, .int fi, .int cn])), (aW, .inl (cJ, 142, .inr (.inl fw)))]) hK hP hD hS hA hZ hN [0, 1, 2, 3] (by decide) rfl rfl) (va_recv hK hP (ci := 4) (q0 := 0) rfl rfl) rfl hl.1 rfl (Nat.le_of_ble_eq_true rfl) dX5_sendGroup_49 ⟨Nat.le_of_ble_eq_true rfl, Nat.le_of_ble_eq_true rfl⟩) hP hD hS hA [0, 1, 2, 3] [4] rfl rfl (by decide) (by decide) (fun u H locs hw39 hP1 hD1 hS1 => ?_)
    obtain ⟨la2_39, cn2_39, fw2_39⟩ := u
    have hw39 : cn2_39.toInt = cn.toInt + 66 ∧ sndR (hpB v31 r35) cn.toInt cn2_39.toInt (bl la) (bl la2_39) (lnB fw fi.toInt) (lnB fw2_39 fi.toInt) := hw39
    clear hP hD hS
    have hP : va_P D classes [(aG, .inl (cI, 8, .inl fg2_27)), (aS, .inr (4, [.ref aC, .ref aG, .int wa])), (aC, .inr (3, [.long la2_39])), (aL, .inr (1, [.ref aW, .int fi, .int cn2_39])), (aW, .inl (cJ, 142, .inr (.inl fw2_39)))] H := hP1
    have hD : va_D A [(aG, .inl (cI, 8, .inl fg2_27)), (aS, .inr (4, [.ref aC, .ref aG, .int wa])), (aC, .inr (3, [.long la2_39])), (aL, .inr (1, [.ref aW, .int fi, .int cn2_39])), (aW, .inl (cJ, 142, .inr (.inl fw2_39)))] := hD1
    have hS := hS1
    clear hP1 hD1 hS1
    have rg_cn2_39 := zi_rg cn2_39
    have hq40 : cn2_39.toInt = cn.toInt + 66 ∧ ∃ B, blkR fg B ∧ sndR B cn.toInt cn2_39.toInt (bl la) (bl la2_39) (lnB fw fi.toInt) (lnB fw2_39 fi.toInt) := (by first | exact ⟨hw14.1, _, cls_blk h3 hw1 (by omega) (fun q => by omega) (fun q => by omega) hw10, hw14.2⟩ | exact ⟨hw24.1, _, cls_blk h3 hw1 (by omega) (fun q => by omega) (fun q => by omega) hw20, hw24.2⟩ | exact ⟨hw39.1, _, cls_err hw1 (by omega) (fun j hj => by rw [hw27 j hj]; omega) z28 z31 hw35, hw39.2⟩)
    exact hret (la2_39, fg2_27, cn2_39, fw2_39) _ _ _ _ dX5_sendGroup_52 hq40 (hP.sub [1, 2, 0, 3, 4] rfl) (hD.sub [1, 2, 0, 3, 4] (by decide) rfl) hS

set_option maxHeartbeats 4000000 in
set_option maxRecDepth 100000 in
theorem c_Se_accept (l : Launch) (D : va_G) (cI cJ cB : ClassId) (aS : Nat) (aC : Nat) (aG : Nat) (aL : Nat) (aW : Nat) (la : Int64) (fg : Nat → Int32) (wa : Int32) (fi : Int32) (cn : Int32) (fw : Nat → Int64) (ch : Int32) (h1 : 0 ≤ fi.toInt ∧ fi.toInt < 9088) (h2 : 0 ≤ cn.toInt ∧ cn.toInt ≤ 9066) (h3 : 0 ≤ wa.toInt ∧ wa.toInt < 8) (h4 : wa.toInt = 7 → cn.toInt < 9000) (h5 : ∀ k : Nat, (k : Int) < wa.toInt → 0 ≤ (fg k).toInt ∧ (fg k).toInt ≤ 259) (h6 : 0 ≤ ch.toInt ∧ ch.toInt ≤ 259) :
    ctv l yX5_accept (wsOf yX5_accept cX5_accept 3 none) (rmL 5 113 0 0) D classes (tys3 cI cJ cB) [.ref aS, .int ch, .ref aL] [(aS, .inr (4, [.ref aC, .ref aG, .int wa])), (aC, .inr (3, [.long la])), (aG, .inl (cI, 8, .inl fg)), (aL, .inr (1, [.ref aW, .int fi, .int cn])), (aW, .inl (cJ, 142, .inr (.inl fw)))] (fun u : Int64 × (Nat → Int32) × Int32 × Int32 × (Nat → Int64) => (wa.toInt < 7 → u.2.2.1.toInt = wa.toInt + 1 ∧ u.2.2.2.1.toInt = cn.toInt) ∧ (wa.toInt = 7 → u.2.2.1.toInt = 0 ∧ u.2.2.2.1.toInt = cn.toInt + 66) ∧ accR ch wa.toInt u.2.2.1.toInt cn.toInt u.2.2.2.1.toInt fg u.2.1 (bl la) (bl u.1) (lnB fw fi.toInt) (lnB u.2.2.2.2 fi.toInt)) (fun u : Int64 × (Nat → Int32) × Int32 × Int32 × (Nat → Int64) => ([(aS, .inr (4, [.ref aC, .ref aG, .int u.2.2.1])), (aC, .inr (3, [.long u.1])), (aG, .inl (cI, 8, .inl u.2.1)), (aL, .inr (1, [.ref aW, .int fi, .int u.2.2.2.1])), (aW, .inl (cJ, 142, .inr (.inl u.2.2.2.2)))] : va_W)) 0 0 := by
  refine ctv.of (by first | exact plainFor_of_name (by decide) | decide +kernel) (Nat.le_of_ble_eq_true rfl) (fun p e s m args below meth c A ls Q h hret => ?_)
  obtain ⟨hx, hb, hml, hown, hts, hnm, hP, hK, hD, hA, hS, hZ, hN, hl⟩ := h
  have hown : s.vm.findClass RX5 = some m.cls := hown
  have hl : lv_has ls 3 [(0, .ref aS), (1, .int ch), (2, .ref aL)] := hl
  have hP : va_P D classes [(aS, .inr (4, [.ref aC, .ref aG, .int wa])), (aC, .inr (3, [.long la])), (aG, .inl (cI, 8, .inl fg)), (aL, .inr (1, [.ref aW, .int fi, .int cn])), (aW, .inl (cJ, 142, .inr (.inl fw)))] s.heap := hP
  have hD : va_D A [(aS, .inr (4, [.ref aC, .ref aG, .int wa])), (aC, .inr (3, [.long la])), (aG, .inl (cI, 8, .inl fg)), (aL, .inr (1, [.ref aW, .int fi, .int cn])), (aW, .inl (cJ, 142, .inr (.inl fw)))] := hD
  have rg_wa := zi_rg wa
  have rg_fi := zi_rg fi
  have rg_cn := zi_rg cn
  have rg_ch := zi_rg ch
  refine lv_aload_n hx hb dX5_accept_0 rfl (lv_at hl 0 rfl) ?_
  refine va_get (D := D) (ci := 4) (v := .ref aG) (C := RX5) (T := TX5) (N := 3) hx hb hts in_X5 hown hK hP 0 rfl rfl 1 (by decide) (hts _ wk38) (fun _ h9 => h9) rfl dX5_accept_1 ?_
  refine lv_aload_n hx hb dX5_accept_4 rfl (lv_at hl 0 rfl) ?_
  refine va_get (D := D) (ci := 4) (v := .int wa) (C := RX5) (T := TX5) (N := 3) hx hb hts in_X5 hown hK hP 0 rfl rfl 2 (by decide) (hts _ wk76) (fun _ h9 => h9) rfl dX5_accept_5 ?_
  refine lv_iload_n hx hb dX5_accept_8 rfl (lv_at hl 1 rfl) ?_
  obtain ⟨f1, ef1⟩ : ∃ z9, z9 = upd fg wa.toNatClampNeg ch := ⟨_, rfl⟩
  refine va_iast hx hb hK hP hD hS 2 0 rfl rfl (zi_in (by omega)) dX5_accept_9 (fun H locs hP1 hD1 hS1 => ?_)
  rw [← ef1] at hP1 hD1
  clear hP hD hS
  have hP : va_P D classes [(aS, .inr (4, [.ref aC, .ref aG, .int wa])), (aC, .inr (3, [.long la])), (aG, .inl (cI, 8, .inl f1)), (aL, .inr (1, [.ref aW, .int fi, .int cn])), (aW, .inl (cJ, 142, .inr (.inl fw)))] H := hP1
  have hD : va_D A [(aS, .inr (4, [.ref aC, .ref aG, .int wa])), (aC, .inr (3, [.long la])), (aG, .inl (cI, 8, .inl f1)), (aL, .inr (1, [.ref aW, .int fi, .int cn])), (aW, .inl (cJ, 142, .inr (.inl fw)))] := hD1
  have hS := hS1
  clear hP1 hD1 hS1
  refine lv_aload_n hx hb dX5_accept_10 rfl (lv_at hl 0 rfl) ?_
  refine lv_dup hx hb dX5_accept_11 rfl ?_
  refine va_get (D := D) (ci := 4) (v := .int wa) (C := RX5) (T := TX5) (N := 3) hx hb hts in_X5 hown hK hP 0 rfl rfl 2 (by decide) (hts _ wk76) (fun _ h9 => h9) rfl dX5_accept_12 ?_
  refine lv_iconst (v := 1) hx hb dX5_accept_15 (by decide) ?_
  refine lv_topi (fun v2 e2 => ?_)
  have z2 : v2.toInt = 1 := zi_c e2 (by decide)
  refine lv_iadd hx hb dX5_accept_16 ?_
  refine lv_topi (fun v3 e3 => ?_)
  first | have z3 := zi_add e3 (by omega) | skip
  refine va_put (D := D) (ci := 4) (v := .int v3) (ty := .int) (C := RX5) (T := TX5) (N := 3) hx hb hts in_X5 tyX5 tyX5_ok nmX5 hown hK hP hD hS 0 rfl rfl 2 (by decide) (hts _ wk76) (fun _ h9 => h9) rfl (by decide +kernel) rfl rfl (Nat.le_of_ble_eq_true rfl) dX5_accept_17 (fun H locs hP1 hD1 hS1 => ?_)
  clear hP hD hS
  have hP : va_P D classes [(aS, .inr (4, [.ref aC, .ref aG, .int v3])), (aC, .inr (3, [.long la])), (aG, .inl (cI, 8, .inl f1)), (aL, .inr (1, [.ref aW, .int fi, .int cn])), (aW, .inl (cJ, 142, .inr (.inl fw)))] H := hP1
  have hD : va_D A [(aS, .inr (4, [.ref aC, .ref aG, .int v3])), (aC, .inr (3, [.long la])), (aG, .inl (cI, 8, .inl f1)), (aL, .inr (1, [.ref aW, .int fi, .int cn])), (aW, .inl (cJ, 142, .inr (.inl fw)))] := hD1
  have hS := hS1
  clear hP1 hD1 hS1
  refine lv_aload_n hx hb dX5_accept_20 rfl (lv_at hl 0 rfl) ?_
  refine va_get (D := D) (ci := 4) (v := .int v3) (C := RX5) (T := TX5) (N := 3) hx hb hts in_X5 hown hK hP 0 rfl rfl 2 (by decide) (hts _ wk76) (fun _ h9 => h9) rfl dX5_accept_21 ?_
  refine lv_bipush (v := 8) hx hb dX5_accept_24 (by decide) ?_
  refine lv_topi (fun v4 e4 => ?_)
  have z4 : v4.toInt = 8 := zi_c e4 (by decide)
  refine lv_icmp_ne (tgt := 39) hx hb dX5_accept_26 (by decide) (fun c5 => ?_) (fun c5 => ?_)
  ·
    have z5 := zi_ne c5
    have hq6 : (wa.toInt < 7 → v3.toInt = wa.toInt + 1 ∧ cn.toInt = cn.toInt) ∧ (wa.toInt = 7 → v3.toInt = 0 ∧ cn.toInt = cn.toInt + 66) ∧ accR ch wa.toInt v3.toInt cn.toInt cn.toInt fg f1 (bl la) (bl la) (lnB fw fi.toInt) (lnB fw fi.toInt) := (by first | exact ⟨by omega, by omega, fun q => ⟨by omega, rfl, fun k hk => by rw [ef1]; exact pk_un (by show k ≠ wa.toInt.toNat; omega), by rw [ef1]; exact pk_us, fun _ _ => rfl, fun _ _ _ => rfl⟩, fun q => by exfalso; omega⟩ | (obtain ⟨w1, B, w2, w3⟩ := hw11; exact ⟨by omega, by omega, fun q => by exfalso; omega, fun q => ⟨by omega, f1, B, fun k hk => by rw [ef1]; exact pk_un (by show k ≠ wa.toInt.toNat; omega), by rw [ef1, show (7 : Nat) = wa.toNatClampNeg from by show 7 = wa.toInt.toNat; omega]; exact pk_us, w2, w3⟩⟩))
    exact hret (la, f1, v3, cn, fw) _ _ _ _ dX5_accept_39 hq6 (hP.sub [0, 1, 2, 3, 4] rfl) (hD.sub [0, 1, 2, 3, 4] (by decide) rfl) hS
  ·
    have z5 := zi_eq c5
    refine lv_aload_n hx hb dX5_accept_29 rfl (lv_at hl 0 rfl) ?_
    refine lv_iconst (v := 0) hx hb dX5_accept_30 (by decide) ?_
    refine lv_topi (fun v7 e7 => ?_)
    have z7 : v7.toInt = 0 := zi_c e7 (by decide)
    refine va_put (D := D) (ci := 4) (v := .int v7) (ty := .int) (C := RX5) (T := TX5) (N := 3) hx hb hts in_X5 tyX5 tyX5_ok nmX5 hown hK hP hD hS 0 rfl rfl 2 (by decide) (hts _ wk76) (fun _ h9 => h9) rfl (by decide +kernel) rfl rfl (Nat.le_of_ble_eq_true rfl) dX5_accept_31 (fun H locs hP1 hD1 hS1 => ?_)
    clear hP hD hS
    have hP : va_P D classes [(aS, .inr (4, [.ref aC, .ref aG, .int v7])), (aC, .inr (3, [.long la])), (aG, .inl (cI, 8, .inl f1)), (aL, .inr (1, [.ref aW, .int fi, .int cn])), (aW, .inl (cJ, 142, .inr (.inl fw)))] H := hP1
    have hD : va_D A [(aS, .inr (4, [.ref aC, .ref aG, .int v7])), (aC, .inr (3, [.long la])), (aG, .inl (cI, 8, .inl f1)), (aL, .inr (1, [.ref aW, .int fi, .int cn])), (aW, .inl (cJ, 142, .inr (.inl fw)))] := hD1
    have hS := hS1
    clear hP1 hD1 hS1
    refine lv_aload_n hx hb dX5_accept_34 rfl (lv_at hl 0 rfl) ?_
    refine lv_aload_n hx hb dX5_accept_35 rfl (lv_at hl 2 rfl) ?_
    have hh8 : 0 ≤ fi.toInt ∧ fi.toInt < 9088 := (by omega)
    have hh9 : 0 ≤ cn.toInt ∧ cn.toInt + 66 ≤ 9087 := (by omega)
    have hh10 : ∀ j, j < 8 → 0 ≤ (f1 j).toInt ∧ (f1 j).toInt ≤ 259 := (fun j hj => by rw [ef1]; by_cases g9 : j = wa.toInt.toNat; (· rw [g9, show upd fg wa.toNatClampNeg ch wa.toInt.toNat = ch from pk_us]; omega); (· rw [pk_un (show j ≠ wa.toNatClampNeg from g9)]; exact h5 j (by omega)))
    refine call_v (wc := [(aS, .inr (4, [.ref aC, .ref aG, .int v7])), (aC, .inr (3, [.long la])), (aG, .inl (cI, 8, .inl f1)), (aL, .inr (1, [.ref aW, .int fi, .int cn])), (aW, .inl (cJ, 142, .inr (.inl fw)))]) (wr := []) (run_V (As := [.ref aL]) (rest := []) kv_RX5_32 ⟨by decide, by decide⟩ ⟨rfl, rfl⟩ ⟨hx, hb, hml, hown, hts⟩ (c_Se_sendGroup l D cI cJ cB aS aC aG aL aW la f1 v7 fi cn fw hh8 hh9 hh10 _) ct_blind (ct_pre (wc := [(aS, .inr (4, [.ref aC, .ref aG, .int v7])), (aC, .inr (3, [.long la])), (aG, .inl (cI, 8, .inl f1)), (aL, .inr (1, [.ref aW, .int fi, .int cn])), (aW, .inl (cJ, 142, .inr (.inl fw)))]) hK hP hD hS hA hZ hN [0, 1, 2, 3, 4] (by decide) rfl rfl) (va_recv hK hP (ci := 4) (q0 := 0) rfl rfl) rfl hl.1 rfl (Nat.le_of_ble_eq_true rfl) dX5_accept_36 ⟨Nat.le_of_ble_eq_true rfl, Nat.le_of_ble_eq_true rfl⟩) hP hD hS hA [0, 1, 2, 3, 4] [] rfl rfl (by decide) (by decide) (fun u H locs hw11 hP1 hD1 hS1 => ?_)
    obtain ⟨la2_11, fg2_11, cn2_11, fw2_11⟩ := u
    have hw11 : cn2_11.toInt = cn.toInt + 66 ∧ ∃ B, blkR f1 B ∧ sndR B cn.toInt cn2_11.toInt (bl la) (bl la2_11) (lnB fw fi.toInt) (lnB fw2_11 fi.toInt) := hw11
    clear hP hD hS
    have hP : va_P D classes [(aS, .inr (4, [.ref aC, .ref aG, .int v7])), (aC, .inr (3, [.long la2_11])), (aG, .inl (cI, 8, .inl fg2_11)), (aL, .inr (1, [.ref aW, .int fi, .int cn2_11])), (aW, .inl (cJ, 142, .inr (.inl fw2_11)))] H := hP1
    have hD : va_D A [(aS, .inr (4, [.ref aC, .ref aG, .int v7])), (aC, .inr (3, [.long la2_11])), (aG, .inl (cI, 8, .inl fg2_11)), (aL, .inr (1, [.ref aW, .int fi, .int cn2_11])), (aW, .inl (cJ, 142, .inr (.inl fw2_11)))] := hD1
    have hS := hS1
    clear hP1 hD1 hS1
    have rg_cn2_11 := zi_rg cn2_11
    have hq12 : (wa.toInt < 7 → v7.toInt = wa.toInt + 1 ∧ cn2_11.toInt = cn.toInt) ∧ (wa.toInt = 7 → v7.toInt = 0 ∧ cn2_11.toInt = cn.toInt + 66) ∧ accR ch wa.toInt v7.toInt cn.toInt cn2_11.toInt fg fg2_11 (bl la) (bl la2_11) (lnB fw fi.toInt) (lnB fw2_11 fi.toInt) := (by first | exact ⟨by omega, by omega, fun q => ⟨by omega, rfl, fun k hk => by rw [ef1]; exact pk_un (by show k ≠ wa.toInt.toNat; omega), by rw [ef1]; exact pk_us, fun _ _ => rfl, fun _ _ _ => rfl⟩, fun q => by exfalso; omega⟩ | (obtain ⟨w1, B, w2, w3⟩ := hw11; exact ⟨by omega, by omega, fun q => by exfalso; omega, fun q => ⟨by omega, f1, B, fun k hk => by rw [ef1]; exact pk_un (by show k ≠ wa.toInt.toNat; omega), by rw [ef1, show (7 : Nat) = wa.toNatClampNeg from by show 7 = wa.toInt.toNat; omega]; exact pk_us, w2, w3⟩⟩))
    exact hret (la2_11, fg2_11, v7, cn2_11, fw2_11) _ _ _ _ dX5_accept_39 hq12 (hP.sub [0, 1, 2, 3, 4] rfl) (hD.sub [0, 1, 2, 3, 4] (by decide) rfl) hS

set_option maxHeartbeats 4000000 in
set_option maxRecDepth 100000 in
theorem c_Se_acceptBytes (l : Launch) (D : va_G) (cI cJ cB : ClassId) (aS : Nat) (aC : Nat) (aG : Nat) (aL : Nat) (aW : Nat) (la : Int64) (fg : Nat → Int32) (wa : Int32) (fi : Int32) (cn : Int32) (fw : Nat → Int64) (x : Int32) (h1 : 0 ≤ fi.toInt ∧ fi.toInt < 9088) (h2 : 0 ≤ cn.toInt ∧ cn.toInt ≤ 9066) (h3 : 0 ≤ wa.toInt ∧ wa.toInt < 8) (h4 : 4 ≤ wa.toInt → cn.toInt < 9000) (h5 : ∀ k : Nat, (k : Int) < wa.toInt → 0 ≤ (fg k).toInt ∧ (fg k).toInt ≤ 259) :
    ctv l yX5_acceptBytes (wsOf yX5_acceptBytes cX5_acceptBytes 4 none) (rmL 6 135 0 0) D classes (tys3 cI cJ cB) [.ref aS, .int x, .ref aL] [(aS, .inr (4, [.ref aC, .ref aG, .int wa])), (aC, .inr (3, [.long la])), (aG, .inl (cI, 8, .inl fg)), (aL, .inr (1, [.ref aW, .int fi, .int cn])), (aW, .inl (cJ, 142, .inr (.inl fw)))] (fun u : Int64 × (Nat → Int32) × Int32 × Int32 × (Nat → Int64) => (wa.toInt < 4 → u.2.2.1.toInt = wa.toInt + 4 ∧ u.2.2.2.1.toInt = cn.toInt) ∧ (4 ≤ wa.toInt → u.2.2.1.toInt = wa.toInt - 4 ∧ u.2.2.2.1.toInt = cn.toInt + 66) ∧ (∀ k : Nat, (k : Int) < u.2.2.1.toInt → 0 ≤ (u.2.1 k).toInt ∧ (u.2.1 k).toInt ≤ 259) ∧ accL (wl x 4) (wa.toInt, cn.toInt, fg, bl la, lnB fw fi.toInt) (u.2.2.1.toInt, u.2.2.2.1.toInt, u.2.1, bl u.1, lnB u.2.2.2.2 fi.toInt)) (fun u : Int64 × (Nat → Int32) × Int32 × Int32 × (Nat → Int64) => ([(aS, .inr (4, [.ref aC, .ref aG, .int u.2.2.1])), (aC, .inr (3, [.long u.1])), (aG, .inl (cI, 8, .inl u.2.1)), (aL, .inr (1, [.ref aW, .int fi, .int u.2.2.2.1])), (aW, .inl (cJ, 142, .inr (.inl u.2.2.2.2)))] : va_W)) 0 0 := by
  refine ctv.of (by first | exact plainFor_of_name (by decide) | decide +kernel) (Nat.le_of_ble_eq_true rfl) (fun p e s m args below meth c A ls Q h hret => ?_)
  obtain ⟨hx, hb, hml, hown, hts, hnm, hP, hK, hD, hA, hS, hZ, hN, hl⟩ := h
  have hown : s.vm.findClass RX5 = some m.cls := hown
  have hl : lv_has ls 4 [(0, .ref aS), (1, .int x), (2, .ref aL)] := hl
  have hP : va_P D classes [(aS, .inr (4, [.ref aC, .ref aG, .int wa])), (aC, .inr (3, [.long la])), (aG, .inl (cI, 8, .inl fg)), (aL, .inr (1, [.ref aW, .int fi, .int cn])), (aW, .inl (cJ, 142, .inr (.inl fw)))] s.heap := hP
  have hD : va_D A [(aS, .inr (4, [.ref aC, .ref aG, .int wa])), (aC, .inr (3, [.long la])), (aG, .inl (cI, 8, .inl fg)), (aL, .inr (1, [.ref aW, .int fi, .int cn])), (aW, .inl (cJ, 142, .inr (.inl fw)))] := hD
  have rg_wa := zi_rg wa
  have rg_fi := zi_rg fi
  have rg_cn := zi_rg cn
  have rg_x := zi_rg x
  refine lv_iconst (v := 3) hx hb dX5_acceptBytes_0 (by decide) ?_
  refine lv_topi (fun v1 e1 => ?_)
  have z1 : v1.toInt = 3 := zi_c e1 (by decide)
  refine lv_istore_n (lv' := [(3, .int v1), (0, .ref aS), (1, .int x), (2, .ref aL)]) hx hb dX5_acceptBytes_1 rfl hl (by decide) rfl (fun ls hl => ?_)
  have J2 : ∀ (n : Nat) (k : Int32) (la3 : Int64) (fg3 : Nat → Int32) (wa3 : Int32) (cn3 : Int32) (fw3 : Nat → Int64) (H : Heap) (locs : List Loc) (ls : Array Slot), ((k.toInt + 1).toNat) < n → (-1 ≤ k.toInt ∧ k.toInt ≤ 3) → ((wa.toInt + (3 - k.toInt) < 8 ∧ wa3.toInt = wa.toInt + (3 - k.toInt) ∧ cn3.toInt = cn.toInt) ∨ (8 ≤ wa.toInt + (3 - k.toInt) ∧ wa3.toInt = wa.toInt + (3 - k.toInt) - 8 ∧ cn3.toInt = cn.toInt + 66)) → (∀ q : Nat, (q : Int) < wa3.toInt → 0 ≤ (fg3 q).toInt ∧ (fg3 q).toInt ≤ 259) → (accL (wl x (3 - k.toInt).toNat) (wa.toInt, cn.toInt, fg, bl la, lnB fw fi.toInt) (wa3.toInt, cn3.toInt, fg3, bl la3, lnB fw3 fi.toInt)) → va_P D classes [(aS, .inr (4, [.ref aC, .ref aG, .int wa3])), (aC, .inr (3, [.long la3])), (aG, .inl (cI, 8, .inl fg3)), (aL, .inr (1, [.ref aW, .int fi, .int cn3])), (aW, .inl (cJ, 142, .inr (.inl fw3)))] H → va_D A [(aS, .inr (4, [.ref aC, .ref aG, .int wa3])), (aC, .inr (3, [.long la3])), (aG, .inl (cI, 8, .inl fg3)), (aL, .inr (1, [.ref aW, .int fi, .int cn3])), (aW, .inl (cJ, 142, .inr (.inl fw3)))] → va_S A s.heap H locs → lv_has ls 4 [(0, .ref aS), (1, .int x), (2, .ref aL), (3, .int k)] → W p l e (rmL 6 135 0 0) s m args below meth c H locs 0 0 Q (F0 m 2 ls []) := by
    intro n
    induction n with
    | zero => intro k la3 fg3 wa3 cn3 fw3 H locs ls hmu; exact absurd hmu (Nat.not_lt_zero _)
    | succ n ih2 =>
      intro k la3 fg3 wa3 cn3 fw3 H locs ls hmu2 i2_0 i2_1 i2_2 i2_3 hP hD hS hl
      have rg_k := zi_rg k
      have rg_wa3 := zi_rg wa3
      have rg_cn3 := zi_rg cn3
      refine lv_iload_n hx hb dX5_acceptBytes_2 rfl (lv_at hl 3 rfl) ?_
      refine lv_if_lt (tgt := 27) hx hb dX5_acceptBytes_3 (by decide) (fun c2 => ?_) (fun c2 => ?_)
      ·
        have z2 := zi_lt0 c2
        have hq3 : (wa.toInt < 4 → wa3.toInt = wa.toInt + 4 ∧ cn3.toInt = cn.toInt) ∧ (4 ≤ wa.toInt → wa3.toInt = wa.toInt - 4 ∧ cn3.toInt = cn.toInt + 66) ∧ (∀ k : Nat, (k : Int) < wa3.toInt → 0 ≤ (fg3 k).toInt ∧ (fg3 k).toInt ≤ 259) ∧ accL (wl x 4) (wa.toInt, cn.toInt, fg, bl la, lnB fw fi.toInt) (wa3.toInt, cn3.toInt, fg3, bl la3, lnB fw3 fi.toInt) := ⟨by omega, by omega, i2_2, by have q := i2_3; rw [show (3 - k.toInt).toNat = 4 by omega] at q; exact q⟩
        exact hret (la3, fg3, wa3, cn3, fw3) _ _ _ _ dX5_acceptBytes_27 hq3 (hP.sub [0, 1, 2, 3, 4] rfl) (hD.sub [0, 1, 2, 3, 4] (by decide) rfl) hS
      ·
        have z2 := zi_nlt0 c2
        refine lv_aload_n hx hb dX5_acceptBytes_6 rfl (lv_at hl 0 rfl) ?_
        refine lv_iload_n hx hb dX5_acceptBytes_7 rfl (lv_at hl 1 rfl) ?_
        refine lv_iload_n hx hb dX5_acceptBytes_8 rfl (lv_at hl 3 rfl) ?_
        refine lv_bipush (v := 8) hx hb dX5_acceptBytes_9 (by decide) ?_
        refine lv_topi (fun v4 e4 => ?_)
        have z4 : v4.toInt = 8 := zi_c e4 (by decide)
        refine lv_imul hx hb dX5_acceptBytes_11 ?_
        refine lv_topi (fun v5 e5 => ?_)
        first | have z5 := zi_mul (k := 8) e5 (by omega) (by omega) | skip
        refine lv_iushr hx hb dX5_acceptBytes_12 rfl ?_
        refine lv_topi (fun v6 e6 => ?_)
        refine lv_sipush (v := 255) hx hb dX5_acceptBytes_13 (by decide) ?_
        refine lv_topi (fun v7 e7 => ?_)
        have z7 : v7.toInt = 255 := zi_c e7 (by decide)
        refine lv_iand hx hb dX5_acceptBytes_16 ?_
        refine lv_topi (fun v8 e8 => ?_)
        have z8 := zi_and e8 e7 8 (z := 256) (by decide) (by decide) (by decide)
        refine lv_aload_n hx hb dX5_acceptBytes_17 rfl (lv_at hl 2 rfl) ?_
        have hh9 : 0 ≤ fi.toInt ∧ fi.toInt < 9088 := (by omega)
        have hh10 : 0 ≤ cn3.toInt ∧ cn3.toInt ≤ 9066 := (by omega)
        have hh11 : 0 ≤ wa3.toInt ∧ wa3.toInt < 8 := (by omega)
        have hh12 : wa3.toInt = 7 → cn3.toInt < 9000 := (by omega)
        have hh13 : ∀ k : Nat, (k : Int) < wa3.toInt → 0 ≤ (fg3 k).toInt ∧ (fg3 k).toInt ≤ 259 := (fun q hq => i2_2 q hq)
        have hh14 : 0 ≤ v8.toInt ∧ v8.toInt ≤ 259 := (by omega)
        refine call_v (wc := [(aS, .inr (4, [.ref aC, .ref aG, .int wa3])), (aC, .inr (3, [.long la3])), (aG, .inl (cI, 8, .inl fg3)), (aL, .inr (1, [.ref aW, .int fi, .int cn3])), (aW, .inl (cJ, 142, .inr (.inl fw3)))]) (wr := []) (run_V (As := [.int v8, .ref aL]) (rest := []) kv_RX5_36 ⟨by decide, by decide⟩ ⟨rfl, rfl⟩ ⟨hx, hb, hml, hown, hts⟩ (c_Se_accept l D cI cJ cB aS aC aG aL aW la3 fg3 wa3 fi cn3 fw3 v8 hh9 hh10 hh11 hh12 hh13 hh14 _) ct_blind (ct_pre (wc := [(aS, .inr (4, [.ref aC, .ref aG, .int wa3])), (aC, .inr (3, [.long la3])), (aG, .inl (cI, 8, .inl fg3)), (aL, .inr (1, [.ref aW, .int fi, .int cn3])), (aW, .inl (cJ, 142, .inr (.inl fw3)))]) hK hP hD hS hA hZ hN [0, 1, 2, 3, 4] (by decide) rfl rfl) (va_recv hK hP (ci := 4) (q0 := 0) rfl rfl) rfl hl.1 rfl (Nat.le_of_ble_eq_true rfl) dX5_acceptBytes_18 ⟨Nat.le_of_ble_eq_true rfl, Nat.le_of_ble_eq_true rfl⟩) hP hD hS hA [0, 1, 2, 3, 4] [] rfl rfl (by decide) (by decide) (fun u H locs hw15 hP1 hD1 hS1 => ?_)
        obtain ⟨la2_15, fg2_15, wa2_15, cn2_15, fw2_15⟩ := u
        have hw15 : (wa3.toInt < 7 → wa2_15.toInt = wa3.toInt + 1 ∧ cn2_15.toInt = cn3.toInt) ∧ (wa3.toInt = 7 → wa2_15.toInt = 0 ∧ cn2_15.toInt = cn3.toInt + 66) ∧ accR v8 wa3.toInt wa2_15.toInt cn3.toInt cn2_15.toInt fg3 fg2_15 (bl la3) (bl la2_15) (lnB fw3 fi.toInt) (lnB fw2_15 fi.toInt) := hw15
        clear hP hD hS
        have hP : va_P D classes [(aS, .inr (4, [.ref aC, .ref aG, .int wa2_15])), (aC, .inr (3, [.long la2_15])), (aG, .inl (cI, 8, .inl fg2_15)), (aL, .inr (1, [.ref aW, .int fi, .int cn2_15])), (aW, .inl (cJ, 142, .inr (.inl fw2_15)))] H := hP1
        have hD : va_D A [(aS, .inr (4, [.ref aC, .ref aG, .int wa2_15])), (aC, .inr (3, [.long la2_15])), (aG, .inl (cI, 8, .inl fg2_15)), (aL, .inr (1, [.ref aW, .int fi, .int cn2_15])), (aW, .inl (cJ, 142, .inr (.inl fw2_15)))] := hD1
        have hS := hS1
        clear hP1 hD1 hS1
        have rg_wa2_15 := zi_rg wa2_15
        have rg_cn2_15 := zi_rg cn2_15
        obtain ⟨v16, e16⟩ : ∃ y : Int32, y = k + (-1) := ⟨_, rfl⟩
        first | have z16 := zi_inc (z := (-1)) (-1) (by decide) e16 (by omega) | skip
        refine lv_iinc (v := v16) (lv' := [(3, .int v16), (0, .ref aS), (1, .int x), (2, .ref aL)]) hx hb dX5_acceptBytes_21 hl (k := 3) rfl (by rw [e16]; rfl) (by decide) rfl (fun ls hl => ?_)
        refine lv_goto (tgt := 2) hx hb dX5_acceptBytes_24 (by decide) ?_
        exact ih2 v16 la2_15 fg2_15 wa2_15 cn2_15 fw2_15 _ _ _ (by omega) (by omega) (by omega) (accR_v i2_2 (by omega) (by omega) hw15.2.2) (by rw [show (3 - v16.toInt).toNat = (3 - k.toInt).toNat + 1 by omega]; exact accL_snoc i2_3 (by rw [show 24 - 8 * (3 - k.toInt).toNat = (8 * k.toInt).toNat by omega, ← wch_u (w := x) (s := v5) (k := (8 * k.toInt).toNat) (by omega) (by omega) e6 e7 e8]; exact hw15.2.2)) (hP.sub [0, 1, 2, 3, 4] rfl) (hD.sub [0, 1, 2, 3, 4] (by decide) rfl) hS (lv_sub hl [1, 2, 3, 0] rfl)
  exact J2 _ v1 la fg wa cn fw _ _ _ (Nat.lt_succ_self _) (by omega) (by omega) h5 (by rw [show (3 - v1.toInt).toNat = 0 by omega]; exact rfl) (hP.sub [0, 1, 2, 3, 4] rfl) (hD.sub [0, 1, 2, 3, 4] (by decide) rfl) hS (lv_sub hl [1, 2, 3, 0] rfl)

set_option maxHeartbeats 4000000 in
set_option maxRecDepth 100000 in
theorem c_Se_sendIdleGroups (l : Launch) (D : va_G) (cI cJ cB : ClassId) (aS : Nat) (aC : Nat) (aG : Nat) (aL : Nat) (aW : Nat) (la : Int64) (wa : Int32) (fi : Int32) (cn : Int32) (nn : Int32) (fw : Nat → Int64) (h1 : 0 ≤ fi.toInt ∧ fi.toInt < 9088) (h2 : 1 ≤ nn.toInt ∧ nn.toInt ≤ 100) (h3 : 0 ≤ cn.toInt ∧ cn.toInt + 66 * nn.toInt ≤ 9087) :
    ctv l yX5_sendIdleGroups (wsOf yX5_sendIdleGroups cX5_sendIdleGroups 4 none) (rmL 4 90 0 0) D classes (tys3 cI cJ cB) [.ref aS, .int nn, .ref aL] [(aS, .inr (4, [.ref aC, .ref aG, .int wa])), (aC, .inr (3, [.long la])), (aL, .inr (1, [.ref aW, .int fi, .int cn])), (aW, .inl (cJ, 142, .inr (.inl fw)))] (fun u : Int64 × Int32 × (Nat → Int64) => u.2.1.toInt = cn.toInt + 66 * nn.toInt ∧ idlR nn.toInt.toNat cn.toInt u.2.1.toInt (bl la) (bl u.1) (lnB fw fi.toInt) (lnB u.2.2 fi.toInt)) (fun u : Int64 × Int32 × (Nat → Int64) => ([(aS, .inr (4, [.ref aC, .ref aG, .int wa])), (aC, .inr (3, [.long u.1])), (aL, .inr (1, [.ref aW, .int fi, .int u.2.1])), (aW, .inl (cJ, 142, .inr (.inl u.2.2)))] : va_W)) 0 0 := by
  refine ctv.of (by first | exact plainFor_of_name (by decide) | decide +kernel) (Nat.le_of_ble_eq_true rfl) (fun p e s m args below meth c A ls Q h hret => ?_)
  obtain ⟨hx, hb, hml, hown, hts, hnm, hP, hK, hD, hA, hS, hZ, hN, hl⟩ := h
  have hown : s.vm.findClass RX5 = some m.cls := hown
  have hl : lv_has ls 4 [(0, .ref aS), (1, .int nn), (2, .ref aL)] := hl
  have hP : va_P D classes [(aS, .inr (4, [.ref aC, .ref aG, .int wa])), (aC, .inr (3, [.long la])), (aL, .inr (1, [.ref aW, .int fi, .int cn])), (aW, .inl (cJ, 142, .inr (.inl fw)))] s.heap := hP
  have hD : va_D A [(aS, .inr (4, [.ref aC, .ref aG, .int wa])), (aC, .inr (3, [.long la])), (aL, .inr (1, [.ref aW, .int fi, .int cn])), (aW, .inl (cJ, 142, .inr (.inl fw)))] := hD
  have rg_wa := zi_rg wa
  have rg_fi := zi_rg fi
  have rg_cn := zi_rg cn
  have rg_nn := zi_rg nn
  refine lv_iconst (v := 0) hx hb dX5_sendIdleGroups_0 (by decide) ?_
  refine lv_topi (fun v1 e1 => ?_)
  have z1 : v1.toInt = 0 := zi_c e1 (by decide)
  refine lv_istore_n (lv' := [(3, .int v1), (0, .ref aS), (1, .int nn), (2, .ref aL)]) hx hb dX5_sendIdleGroups_1 rfl hl (by decide) rfl (fun ls hl => ?_)
  have J2 : ∀ (n : Nat) (k : Int32) (la3 : Int64) (cn3 : Int32) (fw3 : Nat → Int64) (H : Heap) (locs : List Loc) (ls : Array Slot), ((nn.toInt - k.toInt).toNat) < n → (0 ≤ k.toInt ∧ k.toInt ≤ nn.toInt) → (cn3.toInt = cn.toInt + 66 * k.toInt) → (idlR k.toInt.toNat cn.toInt cn3.toInt (bl la) (bl la3) (lnB fw fi.toInt) (lnB fw3 fi.toInt)) → va_P D classes [(aS, .inr (4, [.ref aC, .ref aG, .int wa])), (aC, .inr (3, [.long la3])), (aL, .inr (1, [.ref aW, .int fi, .int cn3])), (aW, .inl (cJ, 142, .inr (.inl fw3)))] H → va_D A [(aS, .inr (4, [.ref aC, .ref aG, .int wa])), (aC, .inr (3, [.long la3])), (aL, .inr (1, [.ref aW, .int fi, .int cn3])), (aW, .inl (cJ, 142, .inr (.inl fw3)))] → va_S A s.heap H locs → lv_has ls 4 [(0, .ref aS), (1, .int nn), (2, .ref aL), (3, .int k)] → W p l e (rmL 4 90 0 0) s m args below meth c H locs 0 0 Q (F0 m 2 ls []) := by
    intro n
    induction n with
    | zero => intro k la3 cn3 fw3 H locs ls hmu; exact absurd hmu (Nat.not_lt_zero _)
    | succ n ih2 =>
      intro k la3 cn3 fw3 H locs ls hmu2 i2_0 i2_1 i2_2 hP hD hS hl
      have rg_k := zi_rg k
      have rg_cn3 := zi_rg cn3
      refine lv_iload_n hx hb dX5_sendIdleGroups_2 rfl (lv_at hl 3 rfl) ?_
      refine lv_iload_n hx hb dX5_sendIdleGroups_3 rfl (lv_at hl 1 rfl) ?_
      refine lv_icmp_ge (tgt := 22) hx hb dX5_sendIdleGroups_4 (by decide) (fun c2 => ?_) (fun c2 => ?_)
      ·
        have z2 := zi_le c2
        have hq3 : cn3.toInt = cn.toInt + 66 * nn.toInt ∧ idlR nn.toInt.toNat cn.toInt cn3.toInt (bl la) (bl la3) (lnB fw fi.toInt) (lnB fw3 fi.toInt) := ⟨by omega, by rw [show nn.toInt.toNat = k.toInt.toNat by omega]; exact i2_2⟩
        exact hret (la3, cn3, fw3) _ _ _ _ dX5_sendIdleGroups_22 hq3 (hP.sub [0, 1, 2, 3] rfl) (hD.sub [0, 1, 2, 3] (by decide) rfl) hS
      ·
        have z2 := zi_nle c2
        refine lv_aload_n hx hb dX5_sendIdleGroups_7 rfl (lv_at hl 0 rfl) ?_
        refine lv_iconst (v := 2) hx hb dX5_sendIdleGroups_8 (by decide) ?_
        refine lv_topi (fun v4 e4 => ?_)
        have z4 : v4.toInt = 2 := zi_c e4 (by decide)
        refine lv_ldc2 (v := 30) hx hb hown (hts _ wk224) dX5_sendIdleGroups_9 ?_
        refine lv_topl (fun v5 e5 => ?_)
        refine lv_aload_n hx hb dX5_sendIdleGroups_12 rfl (lv_at hl 2 rfl) ?_
        have hh6 : 0 ≤ fi.toInt ∧ fi.toInt < 9088 := (by omega)
        have hh7 : 0 ≤ cn3.toInt ∧ cn3.toInt + 66 ≤ 9087 := (by omega)
        have hh8 : v4.toInt = 1 ∨ v4.toInt = 2 := (by omega)
        refine call_v (wc := [(aS, .inr (4, [.ref aC, .ref aG, .int wa])), (aC, .inr (3, [.long la3])), (aL, .inr (1, [.ref aW, .int fi, .int cn3])), (aW, .inl (cJ, 142, .inr (.inl fw3)))]) (wr := []) (run_V (As := [.int v4, .long v5, .ref aL]) (rest := []) kv_RX5_42 ⟨by decide, by decide⟩ ⟨rfl, rfl⟩ ⟨hx, hb, hml, hown, hts⟩ (c_Se_sendBlock l D cI cJ cB aS aC aG aL aW la3 v5 wa fi cn3 v4 fw3 hh6 hh7 hh8 _) ct_blind (ct_pre (wc := [(aS, .inr (4, [.ref aC, .ref aG, .int wa])), (aC, .inr (3, [.long la3])), (aL, .inr (1, [.ref aW, .int fi, .int cn3])), (aW, .inl (cJ, 142, .inr (.inl fw3)))]) hK hP hD hS hA hZ hN [0, 1, 2, 3] (by decide) rfl rfl) (va_recv hK hP (ci := 4) (q0 := 0) rfl rfl) rfl hl.1 rfl (Nat.le_of_ble_eq_true rfl) dX5_sendIdleGroups_13 ⟨Nat.le_of_ble_eq_true rfl, Nat.le_of_ble_eq_true rfl⟩) hP hD hS hA [0, 1, 2, 3] [] rfl rfl (by decide) (by decide) (fun u H locs hw9 hP1 hD1 hS1 => ?_)
        obtain ⟨la2_9, cn2_9, fw2_9⟩ := u
        have hw9 : cn2_9.toInt = cn3.toInt + 66 ∧ sndR (hpB v4 v5) cn3.toInt cn2_9.toInt (bl la3) (bl la2_9) (lnB fw3 fi.toInt) (lnB fw2_9 fi.toInt) := hw9
        clear hP hD hS
        have hP : va_P D classes [(aS, .inr (4, [.ref aC, .ref aG, .int wa])), (aC, .inr (3, [.long la2_9])), (aL, .inr (1, [.ref aW, .int fi, .int cn2_9])), (aW, .inl (cJ, 142, .inr (.inl fw2_9)))] H := hP1
        have hD : va_D A [(aS, .inr (4, [.ref aC, .ref aG, .int wa])), (aC, .inr (3, [.long la2_9])), (aL, .inr (1, [.ref aW, .int fi, .int cn2_9])), (aW, .inl (cJ, 142, .inr (.inl fw2_9)))] := hD1
        have hS := hS1
        clear hP1 hD1 hS1
        have rg_cn2_9 := zi_rg cn2_9
        obtain ⟨v10, e10⟩ : ∃ y : Int32, y = k + 1 := ⟨_, rfl⟩
        first | have z10 := zi_inc (z := 1) 1 (by decide) e10 (by omega) | skip
        refine lv_iinc (v := v10) (lv' := [(3, .int v10), (0, .ref aS), (1, .int nn), (2, .ref aL)]) hx hb dX5_sendIdleGroups_16 hl (k := 3) rfl (by rw [e10]; rfl) (by decide) rfl (fun ls hl => ?_)
        refine lv_goto (tgt := 2) hx hb dX5_sendIdleGroups_19 (by decide) ?_
        exact ih2 v10 la2_9 cn2_9 fw2_9 _ _ _ (by omega) (by omega) (by omega) (by rw [show v10.toInt.toNat = k.toInt.toNat + 1 by omega]; exact ⟨cn3.toInt, bl la3, lnB fw3 fi.toInt, hpB v4 v5, i2_2, blk_idle z4 e5, hw9.2⟩) (hP.sub [0, 1, 2, 3] rfl) (hD.sub [0, 1, 2, 3] (by decide) rfl) hS (lv_sub hl [1, 2, 3, 0] rfl)
  exact J2 _ v1 la cn fw _ _ _ (Nat.lt_succ_self _) (by omega) (by omega) (by rw [show v1.toInt.toNat = 0 by omega]; exact ⟨rfl, fun _ _ => rfl, fun _ _ _ => rfl⟩) (hP.sub [0, 1, 2, 3] rfl) (hD.sub [0, 1, 2, 3] (by decide) rfl) hS (lv_sub hl [1, 2, 3, 0] rfl)

set_option maxHeartbeats 4000000 in
set_option maxRecDepth 100000 in
theorem c_Se_init (l : Launch) (D : va_G) (cI cJ cB : ClassId) (aS : Nat)  :
    ctv l yX5_init (wsOf yX5_init cX5_init 1 none) (rmL 2 44 2 9) D classes (tys3 cI cJ cB) [.ref aS] [(aS, .inr (4, [.null, .null, .int 0]))] (fun u : Nat × Nat => True) (fun u : Nat × Nat => ([(aS, .inr (4, [.ref u.1, .ref u.2, .int 0])), (u.1, .inr (3, [.long 0])), (u.2, .inl (cI, 8, .inl (fun _ => 0)))] : va_W)) 2 9 := by
  refine ctv.of (by first | exact plainFor_of_name (by decide) | decide +kernel) (Nat.le_of_ble_eq_true rfl) (fun p e s m args below meth c A ls Q h hret => ?_)
  obtain ⟨hx, hb, hml, hown, hts, hnm, hP, hK, hD, hA, hS, hZ, hN, hl⟩ := h
  have hown : s.vm.findClass RX5 = some m.cls := hown
  have hl : lv_has ls 1 [(0, .ref aS)] := hl
  have hP : va_P D classes [(aS, .inr (4, [.null, .null, .int 0]))] s.heap := hP
  have hD : va_D A [(aS, .inr (4, [.null, .null, .int 0]))] := hD
  refine lv_aload_n hx hb dX5_init_0 rfl (lv_at hl 0 rfl) ?_
  refine W.objInit hx hb hown (hts _ wk32) (hts _ wk11) (hts _ wk12) rfl (by rw [hml]; exact hl.1) rfl dX5_init_1 (Nat.le_of_ble_eq_true rfl) (Nat.le_of_ble_eq_true rfl) ?_
  refine W.eq (g2 := F0 m 4 ls []) rfl ?_
  refine lv_aload_n hx hb dX5_init_4 rfl (lv_at hl 0 rfl) ?_
  refine va_new (ci := 3) (fs := [.long 0]) (C := RX4) (T := TX4) (N := 1) hx hb hts in_X4 tyX4 tyX4_ok hown (hts _ wk33) (hts _ wk34) (hts _ wk35) hK hP hD hS hA rfl (fun j hj => by rcases (show j = 0 by omega) with rfl <;> rfl) (Nat.le_of_ble_eq_true rfl) (Nat.le_of_ble_eq_true rfl) dX5_init_5 (fun q1 H hP1 hD1 hS1 => ?_)
  clear hP hD hS
  have hP : va_P D classes [(aS, .inr (4, [.null, .null, .int 0])), (q1, .inr (3, [.long 0]))] H := hP1
  have hD : va_D A [(aS, .inr (4, [.null, .null, .int 0])), (q1, .inr (3, [.long 0]))] := hD1
  have hS := hS1
  clear hP1 hD1 hS1
  refine W.widen (k := 1) (n := 1) (Nat.le_refl _) (Nat.le_refl _) ?_
  refine lv_dup hx hb dX5_init_8 rfl ?_
  refine call_v (wc := [(q1, .inr (3, [.long 0]))]) (wr := [(aS, .inr (4, [.null, .null, .int 0]))]) (run_N (As := []) (rest := [.ref q1, .ref aS]) kn_RX5_13 hN ⟨by decide, by decide⟩ ⟨rfl, rfl⟩ ⟨hx, hb, hml, hown, hts⟩ (c_Sc_init l D cI cJ cB q1  _) ct_blind (ct_pre (wc := [(q1, .inr (3, [.long 0]))]) hK hP hD hS hA hZ hN [1] (by decide) rfl rfl) rfl hl.1 rfl (Nat.le_of_ble_eq_true rfl) dX5_init_9 ⟨Nat.le_of_ble_eq_true rfl, Nat.le_of_ble_eq_true rfl⟩) hP hD hS hA [1] [0] rfl rfl (by decide) (by decide) (fun u H locs hw2 hP1 hD1 hS1 => ?_)
  clear hw2
  clear hP hD hS
  have hP : va_P D classes [(aS, .inr (4, [.null, .null, .int 0])), (q1, .inr (3, [.long 0]))] H := hP1
  have hD : va_D A [(aS, .inr (4, [.null, .null, .int 0])), (q1, .inr (3, [.long 0]))] := hD1
  have hS := hS1
  clear hP1 hD1 hS1
  refine va_putF (D := D) (ci := 4) (v := .ref q1) (ty := (.object "LineBlocks$Scrambler")) (C := RX5) (T := TX5) (N := 3) hx hb hts in_X5 tyX5 tyX5_ok nmX5 hown hK hP hD hS 0 rfl rfl 0 (by decide) (hts _ wk36) (fun _ h9 => h9) rfl hnm rfl (by decide +kernel) rfl rfl (Nat.le_of_ble_eq_true rfl) dX5_init_12 (fun H locs hP1 hD1 hS1 => ?_)
  clear hP hD hS
  have hP : va_P D classes [(aS, .inr (4, [.ref q1, .null, .int 0])), (q1, .inr (3, [.long 0]))] H := hP1
  have hD : va_D A [(aS, .inr (4, [.ref q1, .null, .int 0])), (q1, .inr (3, [.long 0]))] := hD1
  have hS := hS1
  clear hP1 hD1 hS1
  refine lv_aload_n hx hb dX5_init_15 rfl (lv_at hl 0 rfl) ?_
  refine lv_bipush (v := 8) hx hb dX5_init_16 (by decide) ?_
  refine lv_topi (fun v3 e3 => ?_)
  have z3 : v3.toInt = 8 := zi_c e3 (by decide)
  refine va_newa (a0 := (8, .inl (fun _ => 0))) (atype := .int) (ty := .int) hx hb (hts _ wk37) rfl hK hP hD hS hA (fun _ => rfl) (by rw [e3]; decide) (by rw [e3]; decide) (by decide) (Nat.le_of_ble_eq_true rfl) (Nat.le_of_ble_eq_true rfl) dX5_init_18 (fun q4 cN H hK9 hP1 hD1 hS1 => ?_)
  have hcN : cN = cI := ty3_eq 0 3 hK9 rfl rfl rfl rfl
  rw [hcN] at hP1 hD1
  clear hK9
  clear hP hD hS
  have hP : va_P D classes [(aS, .inr (4, [.ref q1, .null, .int 0])), (q1, .inr (3, [.long 0])), (q4, .inl (cI, 8, .inl (fun _ => 0)))] H := hP1
  have hD : va_D A [(aS, .inr (4, [.ref q1, .null, .int 0])), (q1, .inr (3, [.long 0])), (q4, .inl (cI, 8, .inl (fun _ => 0)))] := hD1
  have hS := hS1
  clear hP1 hD1 hS1
  refine W.widen (k := 2) (n := 9) (Nat.le_refl _) (Nat.le_refl _) ?_
  refine va_putF (D := D) (ci := 4) (v := .ref q4) (ty := (.array .int)) (C := RX5) (T := TX5) (N := 3) hx hb hts in_X5 tyX5 tyX5_ok nmX5 hown hK hP hD hS 0 rfl rfl 1 (by decide) (hts _ wk38) (fun _ h9 => h9) rfl hnm rfl (by decide +kernel) rfl rfl (Nat.le_of_ble_eq_true rfl) dX5_init_20 (fun H locs hP1 hD1 hS1 => ?_)
  clear hP hD hS
  have hP : va_P D classes [(aS, .inr (4, [.ref q1, .ref q4, .int 0])), (q1, .inr (3, [.long 0])), (q4, .inl (cI, 8, .inl (fun _ => 0)))] H := hP1
  have hD : va_D A [(aS, .inr (4, [.ref q1, .ref q4, .int 0])), (q1, .inr (3, [.long 0])), (q4, .inl (cI, 8, .inl (fun _ => 0)))] := hD1
  have hS := hS1
  clear hP1 hD1 hS1
  exact hret (q1, q4) _ _ _ _ dX5_init_23 trivial (hP.sub [0, 1, 2] rfl) (hD.sub [0, 1, 2] (by decide) rfl) hS
