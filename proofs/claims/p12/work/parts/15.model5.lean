set_option maxHeartbeats 4000000 in
set_option maxRecDepth 100000 in
theorem c_Mo_init (l : Launch) (D : va_G) (cI cJ cB : ClassId) (aM : Nat)  :
    ctv l yX7_init (wsOf yX7_init cX7_init 1 none) (rmL 1 24 6 11856) D classes (tys3 cI cJ cB) [.ref aM] [(aM, .inr (6, [.int 0, .int 0, .null, .int 0, .null, .null, .null, .null, .int 0, .int 0, .int 0, .int 0, .int 0, .int 0, .int 0, .int 0, .null]))] (fun u : Int32 × Nat × Nat × Nat × Nat × Nat × Nat => u.1.toInt = 0) (fun u : Int32 × Nat × Nat × Nat × Nat × Nat × Nat => ([(aM, .inr (6, [.int 0, .int 0, .ref u.2.1, .int u.1, .ref u.2.2.1, .ref u.2.2.2.1, .ref u.2.2.2.2.1, .ref u.2.2.2.2.2.1, .int 0, .int 0, .int 0, .int 0, .int 0, .int 0, .int 0, .int 0, .ref u.2.2.2.2.2.2])), (u.2.1, .inl (cI, 8, .inl (fun _ => 0))), (u.2.2.1, .inl (cB, 9200, .inl (fun _ => 0))), (u.2.2.2.1, .inl (cI, 116, .inl (fun _ => 0))), (u.2.2.2.2.1, .inl (cI, 66, .inl (fun _ => 0))), (u.2.2.2.2.2.1, .inl (cI, 66, .inl (fun _ => 0))), (u.2.2.2.2.2.2, .inl (cI, 2400, .inl (fun _ => 0)))] : va_W)) 6 11856 := by
  refine ctv.of (by first | exact plainFor_of_name (by decide) | decide +kernel) (Nat.le_of_ble_eq_true rfl) (fun p e s m args below meth c A ls Q h hret => ?_)
  obtain ⟨hx, hb, hml, hown, hts, hnm, hP, hK, hD, hA, hS, hZ, hN, hl⟩ := h
  have hown : s.vm.findClass RX7 = some m.cls := hown
  have hl : lv_has ls 1 [(0, .ref aM)] := hl
  have hP : va_P D classes [(aM, .inr (6, [.int 0, .int 0, .null, .int 0, .null, .null, .null, .null, .int 0, .int 0, .int 0, .int 0, .int 0, .int 0, .int 0, .int 0, .null]))] s.heap := hP
  have hD : va_D A [(aM, .inr (6, [.int 0, .int 0, .null, .int 0, .null, .null, .null, .null, .int 0, .int 0, .int 0, .int 0, .int 0, .int 0, .int 0, .int 0, .null]))] := hD
  refine lv_aload_n hx hb dX7_init_0 rfl (lv_at hl 0 rfl) ?_
  refine W.objInit hx hb hown (hts _ wk59) (hts _ wk11) (hts _ wk12) rfl (by rw [hml]; exact hl.1) rfl dX7_init_1 (Nat.le_of_ble_eq_true rfl) (Nat.le_of_ble_eq_true rfl) ?_
  refine W.eq (g2 := F0 m 4 ls []) rfl ?_
  refine lv_aload_n hx hb dX7_init_4 rfl (lv_at hl 0 rfl) ?_
  refine lv_bipush (v := 8) hx hb dX7_init_5 (by decide) ?_
  refine lv_topi (fun v1 e1 => ?_)
  have z1 : v1.toInt = 8 := zi_c e1 (by decide)
  refine va_newa (a0 := (8, .inl (fun _ => 0))) (atype := .int) (ty := .int) hx hb (hts _ wk37) rfl hK hP hD hS hA (fun _ => rfl) (by rw [e1]; decide) (by rw [e1]; decide) (by decide) (Nat.le_of_ble_eq_true rfl) (Nat.le_of_ble_eq_true rfl) dX7_init_7 (fun q2 cN H hK9 hP1 hD1 hS1 => ?_)
  have hcN : cN = cI := ty3_eq 0 3 hK9 rfl rfl rfl rfl
  rw [hcN] at hP1 hD1
  clear hK9
  clear hP hD hS
  have hP : va_P D classes [(aM, .inr (6, [.int 0, .int 0, .null, .int 0, .null, .null, .null, .null, .int 0, .int 0, .int 0, .int 0, .int 0, .int 0, .int 0, .int 0, .null])), (q2, .inl (cI, 8, .inl (fun _ => 0)))] H := hP1
  have hD : va_D A [(aM, .inr (6, [.int 0, .int 0, .null, .int 0, .null, .null, .null, .null, .int 0, .int 0, .int 0, .int 0, .int 0, .int 0, .int 0, .int 0, .null])), (q2, .inl (cI, 8, .inl (fun _ => 0)))] := hD1
  have hS := hS1
  clear hP1 hD1 hS1
  refine W.widen (k := 1) (n := 8) (Nat.le_refl _) (Nat.le_refl _) ?_
  refine va_putF (D := D) (ci := 6) (v := .ref q2) (ty := (.array .int)) (C := RX7) (T := TX7) (N := 17) hx hb hts in_X7 tyX7 tyX7_ok nmX7 hown hK hP hD hS 0 rfl rfl 2 (by decide) (hts _ wk60) (fun _ h9 => h9) rfl hnm rfl (by decide +kernel) rfl rfl (Nat.le_of_ble_eq_true rfl) dX7_init_9 (fun H locs hP1 hD1 hS1 => ?_)
  clear hP hD hS
  have hP : va_P D classes [(aM, .inr (6, [.int 0, .int 0, .ref q2, .int 0, .null, .null, .null, .null, .int 0, .int 0, .int 0, .int 0, .int 0, .int 0, .int 0, .int 0, .null])), (q2, .inl (cI, 8, .inl (fun _ => 0)))] H := hP1
  have hD : va_D A [(aM, .inr (6, [.int 0, .int 0, .ref q2, .int 0, .null, .null, .null, .null, .int 0, .int 0, .int 0, .int 0, .int 0, .int 0, .int 0, .int 0, .null])), (q2, .inl (cI, 8, .inl (fun _ => 0)))] := hD1
  have hS := hS1
  clear hP1 hD1 hS1
  refine lv_aload_n hx hb dX7_init_12 rfl (lv_at hl 0 rfl) ?_
  refine lv_sipush (v := 9200) hx hb dX7_init_13 (by decide) ?_
  refine lv_topi (fun v3 e3 => ?_)
  have z3 : v3.toInt = 9200 := zi_c e3 (by decide)
  refine va_newa (a0 := (9200, .inl (fun _ => 0))) (atype := .byte) (ty := .byte) hx hb (hts _ wk61) rfl hK hP hD hS hA (fun _ => rfl) (by rw [e3]; decide) (by rw [e3]; decide) (by decide) (Nat.le_of_ble_eq_true rfl) (Nat.le_of_ble_eq_true rfl) dX7_init_16 (fun q4 cN H hK9 hP1 hD1 hS1 => ?_)
  have hcN : cN = cB := ty3_eq 2 3 hK9 rfl rfl rfl rfl
  rw [hcN] at hP1 hD1
  clear hK9
  clear hP hD hS
  have hP : va_P D classes [(aM, .inr (6, [.int 0, .int 0, .ref q2, .int 0, .null, .null, .null, .null, .int 0, .int 0, .int 0, .int 0, .int 0, .int 0, .int 0, .int 0, .null])), (q2, .inl (cI, 8, .inl (fun _ => 0))), (q4, .inl (cB, 9200, .inl (fun _ => 0)))] H := hP1
  have hD : va_D A [(aM, .inr (6, [.int 0, .int 0, .ref q2, .int 0, .null, .null, .null, .null, .int 0, .int 0, .int 0, .int 0, .int 0, .int 0, .int 0, .int 0, .null])), (q2, .inl (cI, 8, .inl (fun _ => 0))), (q4, .inl (cB, 9200, .inl (fun _ => 0)))] := hD1
  have hS := hS1
  clear hP1 hD1 hS1
  refine W.widen (k := 2) (n := 9208) (Nat.le_refl _) (Nat.le_refl _) ?_
  refine va_putF (D := D) (ci := 6) (v := .ref q4) (ty := (.array .byte)) (C := RX7) (T := TX7) (N := 17) hx hb hts in_X7 tyX7 tyX7_ok nmX7 hown hK hP hD hS 0 rfl rfl 4 (by decide) (hts _ wk62) (fun _ h9 => h9) rfl hnm rfl (by decide +kernel) rfl rfl (Nat.le_of_ble_eq_true rfl) dX7_init_18 (fun H locs hP1 hD1 hS1 => ?_)
  clear hP hD hS
  have hP : va_P D classes [(aM, .inr (6, [.int 0, .int 0, .ref q2, .int 0, .ref q4, .null, .null, .null, .int 0, .int 0, .int 0, .int 0, .int 0, .int 0, .int 0, .int 0, .null])), (q2, .inl (cI, 8, .inl (fun _ => 0))), (q4, .inl (cB, 9200, .inl (fun _ => 0)))] H := hP1
  have hD : va_D A [(aM, .inr (6, [.int 0, .int 0, .ref q2, .int 0, .ref q4, .null, .null, .null, .int 0, .int 0, .int 0, .int 0, .int 0, .int 0, .int 0, .int 0, .null])), (q2, .inl (cI, 8, .inl (fun _ => 0))), (q4, .inl (cB, 9200, .inl (fun _ => 0)))] := hD1
  have hS := hS1
  clear hP1 hD1 hS1
  refine lv_aload_n hx hb dX7_init_21 rfl (lv_at hl 0 rfl) ?_
  refine lv_bipush (v := 116) hx hb dX7_init_22 (by decide) ?_
  refine lv_topi (fun v5 e5 => ?_)
  have z5 : v5.toInt = 116 := zi_c e5 (by decide)
  refine va_newa (a0 := (116, .inl (fun _ => 0))) (atype := .int) (ty := .int) hx hb (hts _ wk37) rfl hK hP hD hS hA (fun _ => rfl) (by rw [e5]; decide) (by rw [e5]; decide) (by decide) (Nat.le_of_ble_eq_true rfl) (Nat.le_of_ble_eq_true rfl) dX7_init_24 (fun q6 cN H hK9 hP1 hD1 hS1 => ?_)
  have hcN : cN = cI := ty3_eq 0 3 hK9 rfl rfl rfl rfl
  rw [hcN] at hP1 hD1
  clear hK9
  clear hP hD hS
  have hP : va_P D classes [(aM, .inr (6, [.int 0, .int 0, .ref q2, .int 0, .ref q4, .null, .null, .null, .int 0, .int 0, .int 0, .int 0, .int 0, .int 0, .int 0, .int 0, .null])), (q2, .inl (cI, 8, .inl (fun _ => 0))), (q4, .inl (cB, 9200, .inl (fun _ => 0))), (q6, .inl (cI, 116, .inl (fun _ => 0)))] H := hP1
  have hD : va_D A [(aM, .inr (6, [.int 0, .int 0, .ref q2, .int 0, .ref q4, .null, .null, .null, .int 0, .int 0, .int 0, .int 0, .int 0, .int 0, .int 0, .int 0, .null])), (q2, .inl (cI, 8, .inl (fun _ => 0))), (q4, .inl (cB, 9200, .inl (fun _ => 0))), (q6, .inl (cI, 116, .inl (fun _ => 0)))] := hD1
  have hS := hS1
  clear hP1 hD1 hS1
  refine W.widen (k := 3) (n := 9324) (Nat.le_refl _) (Nat.le_refl _) ?_
  refine va_putF (D := D) (ci := 6) (v := .ref q6) (ty := (.array .int)) (C := RX7) (T := TX7) (N := 17) hx hb hts in_X7 tyX7 tyX7_ok nmX7 hown hK hP hD hS 0 rfl rfl 5 (by decide) (hts _ wk63) (fun _ h9 => h9) rfl hnm rfl (by decide +kernel) rfl rfl (Nat.le_of_ble_eq_true rfl) dX7_init_26 (fun H locs hP1 hD1 hS1 => ?_)
  clear hP hD hS
  have hP : va_P D classes [(aM, .inr (6, [.int 0, .int 0, .ref q2, .int 0, .ref q4, .ref q6, .null, .null, .int 0, .int 0, .int 0, .int 0, .int 0, .int 0, .int 0, .int 0, .null])), (q2, .inl (cI, 8, .inl (fun _ => 0))), (q4, .inl (cB, 9200, .inl (fun _ => 0))), (q6, .inl (cI, 116, .inl (fun _ => 0)))] H := hP1
  have hD : va_D A [(aM, .inr (6, [.int 0, .int 0, .ref q2, .int 0, .ref q4, .ref q6, .null, .null, .int 0, .int 0, .int 0, .int 0, .int 0, .int 0, .int 0, .int 0, .null])), (q2, .inl (cI, 8, .inl (fun _ => 0))), (q4, .inl (cB, 9200, .inl (fun _ => 0))), (q6, .inl (cI, 116, .inl (fun _ => 0)))] := hD1
  have hS := hS1
  clear hP1 hD1 hS1
  refine lv_aload_n hx hb dX7_init_29 rfl (lv_at hl 0 rfl) ?_
  refine lv_bipush (v := 66) hx hb dX7_init_30 (by decide) ?_
  refine lv_topi (fun v7 e7 => ?_)
  have z7 : v7.toInt = 66 := zi_c e7 (by decide)
  refine va_newa (a0 := (66, .inl (fun _ => 0))) (atype := .int) (ty := .int) hx hb (hts _ wk37) rfl hK hP hD hS hA (fun _ => rfl) (by rw [e7]; decide) (by rw [e7]; decide) (by decide) (Nat.le_of_ble_eq_true rfl) (Nat.le_of_ble_eq_true rfl) dX7_init_32 (fun q8 cN H hK9 hP1 hD1 hS1 => ?_)
  have hcN : cN = cI := ty3_eq 0 3 hK9 rfl rfl rfl rfl
  rw [hcN] at hP1 hD1
  clear hK9
  clear hP hD hS
  have hP : va_P D classes [(aM, .inr (6, [.int 0, .int 0, .ref q2, .int 0, .ref q4, .ref q6, .null, .null, .int 0, .int 0, .int 0, .int 0, .int 0, .int 0, .int 0, .int 0, .null])), (q2, .inl (cI, 8, .inl (fun _ => 0))), (q4, .inl (cB, 9200, .inl (fun _ => 0))), (q6, .inl (cI, 116, .inl (fun _ => 0))), (q8, .inl (cI, 66, .inl (fun _ => 0)))] H := hP1
  have hD : va_D A [(aM, .inr (6, [.int 0, .int 0, .ref q2, .int 0, .ref q4, .ref q6, .null, .null, .int 0, .int 0, .int 0, .int 0, .int 0, .int 0, .int 0, .int 0, .null])), (q2, .inl (cI, 8, .inl (fun _ => 0))), (q4, .inl (cB, 9200, .inl (fun _ => 0))), (q6, .inl (cI, 116, .inl (fun _ => 0))), (q8, .inl (cI, 66, .inl (fun _ => 0)))] := hD1
  have hS := hS1
  clear hP1 hD1 hS1
  refine W.widen (k := 4) (n := 9390) (Nat.le_refl _) (Nat.le_refl _) ?_
  refine va_putF (D := D) (ci := 6) (v := .ref q8) (ty := (.array .int)) (C := RX7) (T := TX7) (N := 17) hx hb hts in_X7 tyX7 tyX7_ok nmX7 hown hK hP hD hS 0 rfl rfl 6 (by decide) (hts _ wk64) (fun _ h9 => h9) rfl hnm rfl (by decide +kernel) rfl rfl (Nat.le_of_ble_eq_true rfl) dX7_init_34 (fun H locs hP1 hD1 hS1 => ?_)
  clear hP hD hS
  have hP : va_P D classes [(aM, .inr (6, [.int 0, .int 0, .ref q2, .int 0, .ref q4, .ref q6, .ref q8, .null, .int 0, .int 0, .int 0, .int 0, .int 0, .int 0, .int 0, .int 0, .null])), (q2, .inl (cI, 8, .inl (fun _ => 0))), (q4, .inl (cB, 9200, .inl (fun _ => 0))), (q6, .inl (cI, 116, .inl (fun _ => 0))), (q8, .inl (cI, 66, .inl (fun _ => 0)))] H := hP1
  have hD : va_D A [(aM, .inr (6, [.int 0, .int 0, .ref q2, .int 0, .ref q4, .ref q6, .ref q8, .null, .int 0, .int 0, .int 0, .int 0, .int 0, .int 0, .int 0, .int 0, .null])), (q2, .inl (cI, 8, .inl (fun _ => 0))), (q4, .inl (cB, 9200, .inl (fun _ => 0))), (q6, .inl (cI, 116, .inl (fun _ => 0))), (q8, .inl (cI, 66, .inl (fun _ => 0)))] := hD1
  have hS := hS1
  clear hP1 hD1 hS1
  refine lv_aload_n hx hb dX7_init_37 rfl (lv_at hl 0 rfl) ?_
  refine lv_bipush (v := 66) hx hb dX7_init_38 (by decide) ?_
  refine lv_topi (fun v9 e9 => ?_)
  have z9 : v9.toInt = 66 := zi_c e9 (by decide)
  refine va_newa (a0 := (66, .inl (fun _ => 0))) (atype := .int) (ty := .int) hx hb (hts _ wk37) rfl hK hP hD hS hA (fun _ => rfl) (by rw [e9]; decide) (by rw [e9]; decide) (by decide) (Nat.le_of_ble_eq_true rfl) (Nat.le_of_ble_eq_true rfl) dX7_init_40 (fun q10 cN H hK9 hP1 hD1 hS1 => ?_)
  have hcN : cN = cI := ty3_eq 0 3 hK9 rfl rfl rfl rfl
  rw [hcN] at hP1 hD1
  clear hK9
  clear hP hD hS
  have hP : va_P D classes [(aM, .inr (6, [.int 0, .int 0, .ref q2, .int 0, .ref q4, .ref q6, .ref q8, .null, .int 0, .int 0, .int 0, .int 0, .int 0, .int 0, .int 0, .int 0, .null])), (q2, .inl (cI, 8, .inl (fun _ => 0))), (q4, .inl (cB, 9200, .inl (fun _ => 0))), (q6, .inl (cI, 116, .inl (fun _ => 0))), (q8, .inl (cI, 66, .inl (fun _ => 0))), (q10, .inl (cI, 66, .inl (fun _ => 0)))] H := hP1
  have hD : va_D A [(aM, .inr (6, [.int 0, .int 0, .ref q2, .int 0, .ref q4, .ref q6, .ref q8, .null, .int 0, .int 0, .int 0, .int 0, .int 0, .int 0, .int 0, .int 0, .null])), (q2, .inl (cI, 8, .inl (fun _ => 0))), (q4, .inl (cB, 9200, .inl (fun _ => 0))), (q6, .inl (cI, 116, .inl (fun _ => 0))), (q8, .inl (cI, 66, .inl (fun _ => 0))), (q10, .inl (cI, 66, .inl (fun _ => 0)))] := hD1
  have hS := hS1
  clear hP1 hD1 hS1
  refine W.widen (k := 5) (n := 9456) (Nat.le_refl _) (Nat.le_refl _) ?_
  refine va_putF (D := D) (ci := 6) (v := .ref q10) (ty := (.array .int)) (C := RX7) (T := TX7) (N := 17) hx hb hts in_X7 tyX7 tyX7_ok nmX7 hown hK hP hD hS 0 rfl rfl 7 (by decide) (hts _ wk65) (fun _ h9 => h9) rfl hnm rfl (by decide +kernel) rfl rfl (Nat.le_of_ble_eq_true rfl) dX7_init_42 (fun H locs hP1 hD1 hS1 => ?_)
  clear hP hD hS
  have hP : va_P D classes [(aM, .inr (6, [.int 0, .int 0, .ref q2, .int 0, .ref q4, .ref q6, .ref q8, .ref q10, .int 0, .int 0, .int 0, .int 0, .int 0, .int 0, .int 0, .int 0, .null])), (q2, .inl (cI, 8, .inl (fun _ => 0))), (q4, .inl (cB, 9200, .inl (fun _ => 0))), (q6, .inl (cI, 116, .inl (fun _ => 0))), (q8, .inl (cI, 66, .inl (fun _ => 0))), (q10, .inl (cI, 66, .inl (fun _ => 0)))] H := hP1
  have hD : va_D A [(aM, .inr (6, [.int 0, .int 0, .ref q2, .int 0, .ref q4, .ref q6, .ref q8, .ref q10, .int 0, .int 0, .int 0, .int 0, .int 0, .int 0, .int 0, .int 0, .null])), (q2, .inl (cI, 8, .inl (fun _ => 0))), (q4, .inl (cB, 9200, .inl (fun _ => 0))), (q6, .inl (cI, 116, .inl (fun _ => 0))), (q8, .inl (cI, 66, .inl (fun _ => 0))), (q10, .inl (cI, 66, .inl (fun _ => 0)))] := hD1
  have hS := hS1
  clear hP1 hD1 hS1
  refine lv_aload_n hx hb dX7_init_45 rfl (lv_at hl 0 rfl) ?_
  refine lv_sipush (v := 2400) hx hb dX7_init_46 (by decide) ?_
  refine lv_topi (fun v11 e11 => ?_)
  have z11 : v11.toInt = 2400 := zi_c e11 (by decide)
  refine va_newa (a0 := (2400, .inl (fun _ => 0))) (atype := .int) (ty := .int) hx hb (hts _ wk37) rfl hK hP hD hS hA (fun _ => rfl) (by rw [e11]; decide) (by rw [e11]; decide) (by decide) (Nat.le_of_ble_eq_true rfl) (Nat.le_of_ble_eq_true rfl) dX7_init_49 (fun q12 cN H hK9 hP1 hD1 hS1 => ?_)
  have hcN : cN = cI := ty3_eq 0 3 hK9 rfl rfl rfl rfl
  rw [hcN] at hP1 hD1
  clear hK9
  clear hP hD hS
  have hP : va_P D classes [(aM, .inr (6, [.int 0, .int 0, .ref q2, .int 0, .ref q4, .ref q6, .ref q8, .ref q10, .int 0, .int 0, .int 0, .int 0, .int 0, .int 0, .int 0, .int 0, .null])), (q2, .inl (cI, 8, .inl (fun _ => 0))), (q4, .inl (cB, 9200, .inl (fun _ => 0))), (q6, .inl (cI, 116, .inl (fun _ => 0))), (q8, .inl (cI, 66, .inl (fun _ => 0))), (q10, .inl (cI, 66, .inl (fun _ => 0))), (q12, .inl (cI, 2400, .inl (fun _ => 0)))] H := hP1
  have hD : va_D A [(aM, .inr (6, [.int 0, .int 0, .ref q2, .int 0, .ref q4, .ref q6, .ref q8, .ref q10, .int 0, .int 0, .int 0, .int 0, .int 0, .int 0, .int 0, .int 0, .null])), (q2, .inl (cI, 8, .inl (fun _ => 0))), (q4, .inl (cB, 9200, .inl (fun _ => 0))), (q6, .inl (cI, 116, .inl (fun _ => 0))), (q8, .inl (cI, 66, .inl (fun _ => 0))), (q10, .inl (cI, 66, .inl (fun _ => 0))), (q12, .inl (cI, 2400, .inl (fun _ => 0)))] := hD1
  have hS := hS1
  clear hP1 hD1 hS1
  refine W.widen (k := 6) (n := 11856) (Nat.le_refl _) (Nat.le_refl _) ?_
  refine va_putF (D := D) (ci := 6) (v := .ref q12) (ty := (.array .int)) (C := RX7) (T := TX7) (N := 17) hx hb hts in_X7 tyX7 tyX7_ok nmX7 hown hK hP hD hS 0 rfl rfl 16 (by decide) (hts _ wk66) (fun _ h9 => h9) rfl hnm rfl (by decide +kernel) rfl rfl (Nat.le_of_ble_eq_true rfl) dX7_init_51 (fun H locs hP1 hD1 hS1 => ?_)
  clear hP hD hS
  have hP : va_P D classes [(aM, .inr (6, [.int 0, .int 0, .ref q2, .int 0, .ref q4, .ref q6, .ref q8, .ref q10, .int 0, .int 0, .int 0, .int 0, .int 0, .int 0, .int 0, .int 0, .ref q12])), (q2, .inl (cI, 8, .inl (fun _ => 0))), (q4, .inl (cB, 9200, .inl (fun _ => 0))), (q6, .inl (cI, 116, .inl (fun _ => 0))), (q8, .inl (cI, 66, .inl (fun _ => 0))), (q10, .inl (cI, 66, .inl (fun _ => 0))), (q12, .inl (cI, 2400, .inl (fun _ => 0)))] H := hP1
  have hD : va_D A [(aM, .inr (6, [.int 0, .int 0, .ref q2, .int 0, .ref q4, .ref q6, .ref q8, .ref q10, .int 0, .int 0, .int 0, .int 0, .int 0, .int 0, .int 0, .int 0, .ref q12])), (q2, .inl (cI, 8, .inl (fun _ => 0))), (q4, .inl (cB, 9200, .inl (fun _ => 0))), (q6, .inl (cI, 116, .inl (fun _ => 0))), (q8, .inl (cI, 66, .inl (fun _ => 0))), (q10, .inl (cI, 66, .inl (fun _ => 0))), (q12, .inl (cI, 2400, .inl (fun _ => 0)))] := hD1
  have hS := hS1
  clear hP1 hD1 hS1
  refine lv_aload_n hx hb dX7_init_54 rfl (lv_at hl 0 rfl) ?_
  refine lv_iconst (v := 0) hx hb dX7_init_55 (by decide) ?_
  refine lv_topi (fun v13 e13 => ?_)
  have z13 : v13.toInt = 0 := zi_c e13 (by decide)
  refine va_put (D := D) (ci := 6) (v := .int v13) (ty := .int) (C := RX7) (T := TX7) (N := 17) hx hb hts in_X7 tyX7 tyX7_ok nmX7 hown hK hP hD hS 0 rfl rfl 3 (by decide) (hts _ wk67) (fun _ h9 => h9) rfl (by decide +kernel) rfl rfl (Nat.le_of_ble_eq_true rfl) dX7_init_56 (fun H locs hP1 hD1 hS1 => ?_)
  clear hP hD hS
  have hP : va_P D classes [(aM, .inr (6, [.int 0, .int 0, .ref q2, .int v13, .ref q4, .ref q6, .ref q8, .ref q10, .int 0, .int 0, .int 0, .int 0, .int 0, .int 0, .int 0, .int 0, .ref q12])), (q2, .inl (cI, 8, .inl (fun _ => 0))), (q4, .inl (cB, 9200, .inl (fun _ => 0))), (q6, .inl (cI, 116, .inl (fun _ => 0))), (q8, .inl (cI, 66, .inl (fun _ => 0))), (q10, .inl (cI, 66, .inl (fun _ => 0))), (q12, .inl (cI, 2400, .inl (fun _ => 0)))] H := hP1
  have hD : va_D A [(aM, .inr (6, [.int 0, .int 0, .ref q2, .int v13, .ref q4, .ref q6, .ref q8, .ref q10, .int 0, .int 0, .int 0, .int 0, .int 0, .int 0, .int 0, .int 0, .ref q12])), (q2, .inl (cI, 8, .inl (fun _ => 0))), (q4, .inl (cB, 9200, .inl (fun _ => 0))), (q6, .inl (cI, 116, .inl (fun _ => 0))), (q8, .inl (cI, 66, .inl (fun _ => 0))), (q10, .inl (cI, 66, .inl (fun _ => 0))), (q12, .inl (cI, 2400, .inl (fun _ => 0)))] := hD1
  have hS := hS1
  clear hP1 hD1 hS1
  have hq14 : v13.toInt = 0 := (by omega)
  exact hret (v13, q2, q4, q6, q8, q10, q12) _ _ _ _ dX7_init_59 hq14 (hP.sub [0, 1, 2, 3, 4, 5, 6] rfl) (hD.sub [0, 1, 2, 3, 4, 5, 6] (by decide) rfl) hS
