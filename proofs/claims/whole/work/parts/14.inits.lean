set_option maxHeartbeats 4000000 in
set_option maxRecDepth 100000 in
theorem kX1_init (l : Launch) (D : va_G) (cA : ClassId) (h : Nat)  : jM l YX1_init (rmk 1 1 48 12) D cA [.ref h] [(h, .inr (1, [.null, .int (jI 0)]))] (fun v w => v = none ∧ ∃ a : Nat, w = [(h, .inr (1, [.ref a, .int (jI 0)])), (a, .inl (cA, 48, .inl (jA (fun _ => 0))))]) 1 48 := by
  refine jM.intro (by decide +kernel) (Nat.le_of_ble_eq_true rfl) ?_
  intro p e s m args below meth c ls Q A F hQ hA hP hD hS hl
  have hx := F.1
  have hb := F.2.1
  have hl : lv_has ls 1 [(0, .ref h)] := hl
  refine lv_aload_n hx hb dX1_init_0 rfl (lv_at hl 0 rfl) ?_
  refine jv_obj F wmX1_3 hl (by decide) (Nat.le_of_ble_eq_true rfl) dX1_init_1 ?_
  refine lv_aload_n hx hb dX1_init_4 rfl (lv_at hl 0 rfl) ?_
  refine lv_bipush (v := jI 48) hx hb dX1_init_5 (by decide +kernel) ?_
  refine jv_newa (N' := 48) F hP hD hS hA (by decide +kernel) (by decide +kernel) (by decide) (by decide) dX1_init_7 (fun q7 H hP hD hS => ?_)
  have hP : va_P D cls [(h, .inr (1, [.null, .int (jI 0)])), (q7, .inl (cA, 48, .inl (jA (fun _ => 0))))] H := hP
  have hD : va_D A [(h, .inr (1, [.null, .int (jI 0)])), (q7, .inl (cA, 48, .inl (jA (fun _ => 0))))] := hD
  refine W.widen (k := 1) (n := 48) (by decide) (by decide) ?_
  refine jv_putF (v := .ref q7) F hP hD hS 0 rfl flX1_9 pfX1 (by decide +kernel) rfl rfl rfl rfl (Nat.le_of_ble_eq_true rfl) dX1_init_9 (fun H locs hP hD hS => ?_)
  have hP : va_P D cls [(h, .inr (1, [.ref q7, .int (jI 0)])), (q7, .inl (cA, 48, .inl (jA (fun _ => 0))))] H := hP
  have hD : va_D A [(h, .inr (1, [.ref q7, .int (jI 0)])), (q7, .inl (cA, 48, .inl (jA (fun _ => 0))))] := hD
  refine lv_aload_n hx hb dX1_init_12 rfl (lv_at hl 0 rfl) ?_
  refine lv_iconst (v := jI 0) hx hb dX1_init_13 rfl ?_
  refine jv_put (v := .int (jI 0)) F hP hD hS 0 rfl flX1_15 pfX1 (by decide +kernel) rfl rfl (Nat.le_of_ble_eq_true rfl) dX1_init_14 (fun H locs hP hD hS => ?_)
  have hP : va_P D cls [(h, .inr (1, [.ref q7, .int (jI 0)])), (q7, .inl (cA, 48, .inl (jA (fun _ => 0))))] H := hP
  have hD : va_D A [(h, .inr (1, [.ref q7, .int (jI 0)])), (q7, .inl (cA, 48, .inl (jA (fun _ => 0))))] := hD
  exact jM.rv F hQ rfl dX1_init_17 hS hP hD (by exact ⟨rfl, _, rfl⟩)
set_option maxHeartbeats 4000000 in
set_option maxRecDepth 100000 in
theorem kX3_init (l : Launch) (D : va_G) (cA : ClassId) (sp r0 r1 : Nat)  : jM l YX3_init (rmk 1 0 0 12) D cA [.ref sp, .ref r0, .ref r1] [(sp, .inr (3, [.null, .null, .int (jI 0)]))] (fun v w => v = none ∧ w = [(sp, .inr (3, [.ref r0, .ref r1, .int (jI 2)]))]) 0 0 := by
  refine jM.intro (by decide +kernel) (Nat.le_of_ble_eq_true rfl) ?_
  intro p e s m args below meth c ls Q A F hQ hA hP hD hS hl
  have hx := F.1
  have hb := F.2.1
  have hl : lv_has ls 3 [(0, .ref sp), (1, .ref r0), (2, .ref r1)] := hl
  refine lv_aload_n hx hb dX3_init_0 rfl (lv_at hl 0 rfl) ?_
  refine jv_obj F wmX3_3 hl (by decide) (Nat.le_of_ble_eq_true rfl) dX3_init_1 ?_
  refine lv_aload_n hx hb dX3_init_4 rfl (lv_at hl 0 rfl) ?_
  refine lv_iconst (v := jI 2) hx hb dX3_init_5 rfl ?_
  refine jv_put (v := .int (jI 2)) F hP hD hS 0 rfl flX3_9 pfX3 (by decide +kernel) rfl rfl (Nat.le_of_ble_eq_true rfl) dX3_init_6 (fun H locs hP hD hS => ?_)
  have hP : va_P D cls [(sp, .inr (3, [.null, .null, .int (jI 2)]))] H := hP
  have hD : va_D A [(sp, .inr (3, [.null, .null, .int (jI 2)]))] := hD
  refine lv_aload_n hx hb dX3_init_9 rfl (lv_at hl 0 rfl) ?_
  refine lv_aload_n hx hb dX3_init_10 rfl (lv_at hl 1 rfl) ?_
  refine jv_putF (v := .ref r0) F hP hD hS 0 rfl flX3_15 pfX3 (by decide +kernel) rfl rfl rfl rfl (Nat.le_of_ble_eq_true rfl) dX3_init_11 (fun H locs hP hD hS => ?_)
  have hP : va_P D cls [(sp, .inr (3, [.ref r0, .null, .int (jI 2)]))] H := hP
  have hD : va_D A [(sp, .inr (3, [.ref r0, .null, .int (jI 2)]))] := hD
  refine lv_aload_n hx hb dX3_init_14 rfl (lv_at hl 0 rfl) ?_
  refine lv_aload_n hx hb dX3_init_15 rfl (lv_at hl 2 rfl) ?_
  refine jv_putF (v := .ref r1) F hP hD hS 0 rfl flX3_19 pfX3 (by decide +kernel) rfl rfl rfl rfl (Nat.le_of_ble_eq_true rfl) dX3_init_16 (fun H locs hP hD hS => ?_)
  have hP : va_P D cls [(sp, .inr (3, [.ref r0, .ref r1, .int (jI 2)]))] H := hP
  have hD : va_D A [(sp, .inr (3, [.ref r0, .ref r1, .int (jI 2)]))] := hD
  exact jM.rv F hQ rfl dX3_init_19 hS hP hD (by exact ⟨rfl, rfl⟩)
set_option maxHeartbeats 4000000 in
set_option maxRecDepth 100000 in
theorem kX0_init (l : Launch) (D : va_G) (cA : ClassId) (be : Nat)  : jM l YX0_init (rmk 1 2 2449 12) D cA [.ref be] [(be, .inr (0, [.null, .null, .int (jI 0), .int (jI 0)]))] (fun v w => v = none ∧ ∃ ah pa : Nat, w = [(be, .inr (0, [.ref ah, .ref pa, .int (jI 0), .int (jI 0)])), (ah, .inl (cA, 2401, .inl (jA (fun _ => 0)))), (pa, .inl (cA, 48, .inl (jA (fun _ => 0))))]) 2 2449 := by
  refine jM.intro (by decide +kernel) (Nat.le_of_ble_eq_true rfl) ?_
  intro p e s m args below meth c ls Q A F hQ hA hP hD hS hl
  have hx := F.1
  have hb := F.2.1
  have hl : lv_has ls 1 [(0, .ref be)] := hl
  refine lv_aload_n hx hb dX0_init_0 rfl (lv_at hl 0 rfl) ?_
  refine jv_obj F wmX0_3 hl (by decide) (Nat.le_of_ble_eq_true rfl) dX0_init_1 ?_
  refine lv_aload_n hx hb dX0_init_4 rfl (lv_at hl 0 rfl) ?_
  refine lv_sipush (v := jI 2401) hx hb dX0_init_5 (by decide +kernel) ?_
  refine jv_newa (N' := 2401) F hP hD hS hA (by decide +kernel) (by decide +kernel) (by decide) (by decide) dX0_init_8 (fun q8 H hP hD hS => ?_)
  have hP : va_P D cls [(be, .inr (0, [.null, .null, .int (jI 0), .int (jI 0)])), (q8, .inl (cA, 2401, .inl (jA (fun _ => 0))))] H := hP
  have hD : va_D A [(be, .inr (0, [.null, .null, .int (jI 0), .int (jI 0)])), (q8, .inl (cA, 2401, .inl (jA (fun _ => 0))))] := hD
  refine W.widen (k := 1) (n := 2401) (by decide) (by decide) ?_
  refine jv_putF (v := .ref q8) F hP hD hS 0 rfl flX0_11 pfX0 (by decide +kernel) rfl rfl rfl rfl (Nat.le_of_ble_eq_true rfl) dX0_init_10 (fun H locs hP hD hS => ?_)
  have hP : va_P D cls [(be, .inr (0, [.ref q8, .null, .int (jI 0), .int (jI 0)])), (q8, .inl (cA, 2401, .inl (jA (fun _ => 0))))] H := hP
  have hD : va_D A [(be, .inr (0, [.ref q8, .null, .int (jI 0), .int (jI 0)])), (q8, .inl (cA, 2401, .inl (jA (fun _ => 0))))] := hD
  refine lv_aload_n hx hb dX0_init_13 rfl (lv_at hl 0 rfl) ?_
  refine lv_bipush (v := jI 48) hx hb dX0_init_14 (by decide +kernel) ?_
  refine jv_newa (N' := 48) F hP hD hS hA (by decide +kernel) (by decide +kernel) (by decide) (by decide) dX0_init_16 (fun q16 H hP hD hS => ?_)
  have hP : va_P D cls [(be, .inr (0, [.ref q8, .null, .int (jI 0), .int (jI 0)])), (q8, .inl (cA, 2401, .inl (jA (fun _ => 0)))), (q16, .inl (cA, 48, .inl (jA (fun _ => 0))))] H := hP
  have hD : va_D A [(be, .inr (0, [.ref q8, .null, .int (jI 0), .int (jI 0)])), (q8, .inl (cA, 2401, .inl (jA (fun _ => 0)))), (q16, .inl (cA, 48, .inl (jA (fun _ => 0))))] := hD
  refine W.widen (k := 2) (n := 2449) (by decide) (by decide) ?_
  refine jv_putF (v := .ref q16) F hP hD hS 0 rfl flX0_15 pfX0 (by decide +kernel) rfl rfl rfl rfl (Nat.le_of_ble_eq_true rfl) dX0_init_18 (fun H locs hP hD hS => ?_)
  have hP : va_P D cls [(be, .inr (0, [.ref q8, .ref q16, .int (jI 0), .int (jI 0)])), (q8, .inl (cA, 2401, .inl (jA (fun _ => 0)))), (q16, .inl (cA, 48, .inl (jA (fun _ => 0))))] H := hP
  have hD : va_D A [(be, .inr (0, [.ref q8, .ref q16, .int (jI 0), .int (jI 0)])), (q8, .inl (cA, 2401, .inl (jA (fun _ => 0)))), (q16, .inl (cA, 48, .inl (jA (fun _ => 0))))] := hD
  refine lv_aload_n hx hb dX0_init_21 rfl (lv_at hl 0 rfl) ?_
  refine lv_iconst (v := jI 0) hx hb dX0_init_22 rfl ?_
  refine jv_put (v := .int (jI 0)) F hP hD hS 0 rfl flX0_18 pfX0 (by decide +kernel) rfl rfl (Nat.le_of_ble_eq_true rfl) dX0_init_23 (fun H locs hP hD hS => ?_)
  have hP : va_P D cls [(be, .inr (0, [.ref q8, .ref q16, .int (jI 0), .int (jI 0)])), (q8, .inl (cA, 2401, .inl (jA (fun _ => 0)))), (q16, .inl (cA, 48, .inl (jA (fun _ => 0))))] H := hP
  have hD : va_D A [(be, .inr (0, [.ref q8, .ref q16, .int (jI 0), .int (jI 0)])), (q8, .inl (cA, 2401, .inl (jA (fun _ => 0)))), (q16, .inl (cA, 48, .inl (jA (fun _ => 0))))] := hD
  refine lv_aload_n hx hb dX0_init_26 rfl (lv_at hl 0 rfl) ?_
  refine lv_iconst (v := jI 0) hx hb dX0_init_27 rfl ?_
  refine jv_put (v := .int (jI 0)) F hP hD hS 0 rfl flX0_22 pfX0 (by decide +kernel) rfl rfl (Nat.le_of_ble_eq_true rfl) dX0_init_28 (fun H locs hP hD hS => ?_)
  have hP : va_P D cls [(be, .inr (0, [.ref q8, .ref q16, .int (jI 0), .int (jI 0)])), (q8, .inl (cA, 2401, .inl (jA (fun _ => 0)))), (q16, .inl (cA, 48, .inl (jA (fun _ => 0))))] H := hP
  have hD : va_D A [(be, .inr (0, [.ref q8, .ref q16, .int (jI 0), .int (jI 0)])), (q8, .inl (cA, 2401, .inl (jA (fun _ => 0)))), (q16, .inl (cA, 48, .inl (jA (fun _ => 0))))] := hD
  exact jM.rv F hQ rfl dX0_init_31 hS hP hD (by exact ⟨rfl, _, _, rfl⟩)
set_option maxHeartbeats 4000000 in
set_option maxRecDepth 100000 in
theorem kX2_init (l : Launch) (D : va_G) (cA : ClassId) (re : Nat)  : jM l YX2_init (rmk 1 3 147 12) D cA [.ref re] [(re, .inr (2, [.int (jI 0), .int (jI 0), .int (jI 0), .int (jI 0), .null, .null, .null, .int (jI 0), .int (jI 0), .int (jI 0), .int (jI 0), .int (jI 0)]))] (fun v w => v = none ∧ ∃ t2 t1 t0 : Nat, w = [(re, .inr (2, [.int (jI 2), .int (jI 1), .int (jI 2), .int (jI 6), .ref t2, .ref t1, .ref t0, .int (jI (-1)), .int (jI (-1)), .int (jI (-1)), .int (jI (-1)), .int (jI (-1))])), (t2, .inl (cA, 49, .inl (jA (fun _ => 0)))), (t1, .inl (cA, 49, .inl (jA (fun _ => 0)))), (t0, .inl (cA, 49, .inl (jA (fun _ => 0))))]) 3 147 := by
  refine jM.intro (by decide +kernel) (Nat.le_of_ble_eq_true rfl) ?_
  intro p e s m args below meth c ls Q A F hQ hA hP hD hS hl
  have hx := F.1
  have hb := F.2.1
  have hl : lv_has ls 1 [(0, .ref re)] := hl
  refine lv_aload_n hx hb dX2_init_0 rfl (lv_at hl 0 rfl) ?_
  refine jv_obj F wmX2_3 hl (by decide) (Nat.le_of_ble_eq_true rfl) dX2_init_1 ?_
  refine lv_aload_n hx hb dX2_init_4 rfl (lv_at hl 0 rfl) ?_
  refine lv_iconst (v := jI 2) hx hb dX2_init_5 rfl ?_
  refine jv_put (v := .int (jI 2)) F hP hD hS 0 rfl flX2_9 pfX2 (by decide +kernel) rfl rfl (Nat.le_of_ble_eq_true rfl) dX2_init_6 (fun H locs hP hD hS => ?_)
  have hP : va_P D cls [(re, .inr (2, [.int (jI 2), .int (jI 0), .int (jI 0), .int (jI 0), .null, .null, .null, .int (jI 0), .int (jI 0), .int (jI 0), .int (jI 0), .int (jI 0)]))] H := hP
  have hD : va_D A [(re, .inr (2, [.int (jI 2), .int (jI 0), .int (jI 0), .int (jI 0), .null, .null, .null, .int (jI 0), .int (jI 0), .int (jI 0), .int (jI 0), .int (jI 0)]))] := hD
  refine lv_aload_n hx hb dX2_init_9 rfl (lv_at hl 0 rfl) ?_
  refine lv_iconst (v := jI 1) hx hb dX2_init_10 rfl ?_
  refine jv_put (v := .int (jI 1)) F hP hD hS 0 rfl flX2_15 pfX2 (by decide +kernel) rfl rfl (Nat.le_of_ble_eq_true rfl) dX2_init_11 (fun H locs hP hD hS => ?_)
  have hP : va_P D cls [(re, .inr (2, [.int (jI 2), .int (jI 1), .int (jI 0), .int (jI 0), .null, .null, .null, .int (jI 0), .int (jI 0), .int (jI 0), .int (jI 0), .int (jI 0)]))] H := hP
  have hD : va_D A [(re, .inr (2, [.int (jI 2), .int (jI 1), .int (jI 0), .int (jI 0), .null, .null, .null, .int (jI 0), .int (jI 0), .int (jI 0), .int (jI 0), .int (jI 0)]))] := hD
  refine lv_aload_n hx hb dX2_init_14 rfl (lv_at hl 0 rfl) ?_
  refine lv_iconst (v := jI 2) hx hb dX2_init_15 rfl ?_
  refine jv_put (v := .int (jI 2)) F hP hD hS 0 rfl flX2_18 pfX2 (by decide +kernel) rfl rfl (Nat.le_of_ble_eq_true rfl) dX2_init_16 (fun H locs hP hD hS => ?_)
  have hP : va_P D cls [(re, .inr (2, [.int (jI 2), .int (jI 1), .int (jI 2), .int (jI 0), .null, .null, .null, .int (jI 0), .int (jI 0), .int (jI 0), .int (jI 0), .int (jI 0)]))] H := hP
  have hD : va_D A [(re, .inr (2, [.int (jI 2), .int (jI 1), .int (jI 2), .int (jI 0), .null, .null, .null, .int (jI 0), .int (jI 0), .int (jI 0), .int (jI 0), .int (jI 0)]))] := hD
  refine lv_aload_n hx hb dX2_init_19 rfl (lv_at hl 0 rfl) ?_
  refine lv_bipush (v := jI 6) hx hb dX2_init_20 (by decide +kernel) ?_
  refine jv_put (v := .int (jI 6)) F hP hD hS 0 rfl flX2_21 pfX2 (by decide +kernel) rfl rfl (Nat.le_of_ble_eq_true rfl) dX2_init_22 (fun H locs hP hD hS => ?_)
  have hP : va_P D cls [(re, .inr (2, [.int (jI 2), .int (jI 1), .int (jI 2), .int (jI 6), .null, .null, .null, .int (jI 0), .int (jI 0), .int (jI 0), .int (jI 0), .int (jI 0)]))] H := hP
  have hD : va_D A [(re, .inr (2, [.int (jI 2), .int (jI 1), .int (jI 2), .int (jI 6), .null, .null, .null, .int (jI 0), .int (jI 0), .int (jI 0), .int (jI 0), .int (jI 0)]))] := hD
  refine lv_aload_n hx hb dX2_init_25 rfl (lv_at hl 0 rfl) ?_
  refine lv_bipush (v := jI 49) hx hb dX2_init_26 (by decide +kernel) ?_
  refine jv_newa (N' := 49) F hP hD hS hA (by decide +kernel) (by decide +kernel) (by decide) (by decide) dX2_init_28 (fun q28 H hP hD hS => ?_)
  have hP : va_P D cls [(re, .inr (2, [.int (jI 2), .int (jI 1), .int (jI 2), .int (jI 6), .null, .null, .null, .int (jI 0), .int (jI 0), .int (jI 0), .int (jI 0), .int (jI 0)])), (q28, .inl (cA, 49, .inl (jA (fun _ => 0))))] H := hP
  have hD : va_D A [(re, .inr (2, [.int (jI 2), .int (jI 1), .int (jI 2), .int (jI 6), .null, .null, .null, .int (jI 0), .int (jI 0), .int (jI 0), .int (jI 0), .int (jI 0)])), (q28, .inl (cA, 49, .inl (jA (fun _ => 0))))] := hD
  refine W.widen (k := 1) (n := 49) (by decide) (by decide) ?_
  refine jv_put (v := .ref q28) F hP hD hS 0 rfl flX2_24 pfX2 (by decide +kernel) rfl rfl (Nat.le_of_ble_eq_true rfl) dX2_init_30 (fun H locs hP hD hS => ?_)
  have hP : va_P D cls [(re, .inr (2, [.int (jI 2), .int (jI 1), .int (jI 2), .int (jI 6), .ref q28, .null, .null, .int (jI 0), .int (jI 0), .int (jI 0), .int (jI 0), .int (jI 0)])), (q28, .inl (cA, 49, .inl (jA (fun _ => 0))))] H := hP
  have hD : va_D A [(re, .inr (2, [.int (jI 2), .int (jI 1), .int (jI 2), .int (jI 6), .ref q28, .null, .null, .int (jI 0), .int (jI 0), .int (jI 0), .int (jI 0), .int (jI 0)])), (q28, .inl (cA, 49, .inl (jA (fun _ => 0))))] := hD
  refine lv_aload_n hx hb dX2_init_33 rfl (lv_at hl 0 rfl) ?_
  refine lv_bipush (v := jI 49) hx hb dX2_init_34 (by decide +kernel) ?_
  refine jv_newa (N' := 49) F hP hD hS hA (by decide +kernel) (by decide +kernel) (by decide) (by decide) dX2_init_36 (fun q36 H hP hD hS => ?_)
  have hP : va_P D cls [(re, .inr (2, [.int (jI 2), .int (jI 1), .int (jI 2), .int (jI 6), .ref q28, .null, .null, .int (jI 0), .int (jI 0), .int (jI 0), .int (jI 0), .int (jI 0)])), (q28, .inl (cA, 49, .inl (jA (fun _ => 0)))), (q36, .inl (cA, 49, .inl (jA (fun _ => 0))))] H := hP
  have hD : va_D A [(re, .inr (2, [.int (jI 2), .int (jI 1), .int (jI 2), .int (jI 6), .ref q28, .null, .null, .int (jI 0), .int (jI 0), .int (jI 0), .int (jI 0), .int (jI 0)])), (q28, .inl (cA, 49, .inl (jA (fun _ => 0)))), (q36, .inl (cA, 49, .inl (jA (fun _ => 0))))] := hD
  refine W.widen (k := 2) (n := 98) (by decide) (by decide) ?_
  refine jv_put (v := .ref q36) F hP hD hS 0 rfl flX2_28 pfX2 (by decide +kernel) rfl rfl (Nat.le_of_ble_eq_true rfl) dX2_init_38 (fun H locs hP hD hS => ?_)
  have hP : va_P D cls [(re, .inr (2, [.int (jI 2), .int (jI 1), .int (jI 2), .int (jI 6), .ref q28, .ref q36, .null, .int (jI 0), .int (jI 0), .int (jI 0), .int (jI 0), .int (jI 0)])), (q28, .inl (cA, 49, .inl (jA (fun _ => 0)))), (q36, .inl (cA, 49, .inl (jA (fun _ => 0))))] H := hP
  have hD : va_D A [(re, .inr (2, [.int (jI 2), .int (jI 1), .int (jI 2), .int (jI 6), .ref q28, .ref q36, .null, .int (jI 0), .int (jI 0), .int (jI 0), .int (jI 0), .int (jI 0)])), (q28, .inl (cA, 49, .inl (jA (fun _ => 0)))), (q36, .inl (cA, 49, .inl (jA (fun _ => 0))))] := hD
  refine lv_aload_n hx hb dX2_init_41 rfl (lv_at hl 0 rfl) ?_
  refine lv_bipush (v := jI 49) hx hb dX2_init_42 (by decide +kernel) ?_
  refine jv_newa (N' := 49) F hP hD hS hA (by decide +kernel) (by decide +kernel) (by decide) (by decide) dX2_init_44 (fun q44 H hP hD hS => ?_)
  have hP : va_P D cls [(re, .inr (2, [.int (jI 2), .int (jI 1), .int (jI 2), .int (jI 6), .ref q28, .ref q36, .null, .int (jI 0), .int (jI 0), .int (jI 0), .int (jI 0), .int (jI 0)])), (q28, .inl (cA, 49, .inl (jA (fun _ => 0)))), (q36, .inl (cA, 49, .inl (jA (fun _ => 0)))), (q44, .inl (cA, 49, .inl (jA (fun _ => 0))))] H := hP
  have hD : va_D A [(re, .inr (2, [.int (jI 2), .int (jI 1), .int (jI 2), .int (jI 6), .ref q28, .ref q36, .null, .int (jI 0), .int (jI 0), .int (jI 0), .int (jI 0), .int (jI 0)])), (q28, .inl (cA, 49, .inl (jA (fun _ => 0)))), (q36, .inl (cA, 49, .inl (jA (fun _ => 0)))), (q44, .inl (cA, 49, .inl (jA (fun _ => 0))))] := hD
  refine W.widen (k := 3) (n := 147) (by decide) (by decide) ?_
  refine jv_put (v := .ref q44) F hP hD hS 0 rfl flX2_31 pfX2 (by decide +kernel) rfl rfl (Nat.le_of_ble_eq_true rfl) dX2_init_46 (fun H locs hP hD hS => ?_)
  have hP : va_P D cls [(re, .inr (2, [.int (jI 2), .int (jI 1), .int (jI 2), .int (jI 6), .ref q28, .ref q36, .ref q44, .int (jI 0), .int (jI 0), .int (jI 0), .int (jI 0), .int (jI 0)])), (q28, .inl (cA, 49, .inl (jA (fun _ => 0)))), (q36, .inl (cA, 49, .inl (jA (fun _ => 0)))), (q44, .inl (cA, 49, .inl (jA (fun _ => 0))))] H := hP
  have hD : va_D A [(re, .inr (2, [.int (jI 2), .int (jI 1), .int (jI 2), .int (jI 6), .ref q28, .ref q36, .ref q44, .int (jI 0), .int (jI 0), .int (jI 0), .int (jI 0), .int (jI 0)])), (q28, .inl (cA, 49, .inl (jA (fun _ => 0)))), (q36, .inl (cA, 49, .inl (jA (fun _ => 0)))), (q44, .inl (cA, 49, .inl (jA (fun _ => 0))))] := hD
  refine lv_aload_n hx hb dX2_init_49 rfl (lv_at hl 0 rfl) ?_
  refine lv_iconst (v := jI (-1)) hx hb dX2_init_50 rfl ?_
  refine jv_put (v := .int (jI (-1))) F hP hD hS 0 rfl flX2_34 pfX2 (by decide +kernel) rfl rfl (Nat.le_of_ble_eq_true rfl) dX2_init_51 (fun H locs hP hD hS => ?_)
  have hP : va_P D cls [(re, .inr (2, [.int (jI 2), .int (jI 1), .int (jI 2), .int (jI 6), .ref q28, .ref q36, .ref q44, .int (jI (-1)), .int (jI 0), .int (jI 0), .int (jI 0), .int (jI 0)])), (q28, .inl (cA, 49, .inl (jA (fun _ => 0)))), (q36, .inl (cA, 49, .inl (jA (fun _ => 0)))), (q44, .inl (cA, 49, .inl (jA (fun _ => 0))))] H := hP
  have hD : va_D A [(re, .inr (2, [.int (jI 2), .int (jI 1), .int (jI 2), .int (jI 6), .ref q28, .ref q36, .ref q44, .int (jI (-1)), .int (jI 0), .int (jI 0), .int (jI 0), .int (jI 0)])), (q28, .inl (cA, 49, .inl (jA (fun _ => 0)))), (q36, .inl (cA, 49, .inl (jA (fun _ => 0)))), (q44, .inl (cA, 49, .inl (jA (fun _ => 0))))] := hD
  refine lv_aload_n hx hb dX2_init_54 rfl (lv_at hl 0 rfl) ?_
  refine lv_iconst (v := jI (-1)) hx hb dX2_init_55 rfl ?_
  refine jv_put (v := .int (jI (-1))) F hP hD hS 0 rfl flX2_37 pfX2 (by decide +kernel) rfl rfl (Nat.le_of_ble_eq_true rfl) dX2_init_56 (fun H locs hP hD hS => ?_)
  have hP : va_P D cls [(re, .inr (2, [.int (jI 2), .int (jI 1), .int (jI 2), .int (jI 6), .ref q28, .ref q36, .ref q44, .int (jI (-1)), .int (jI (-1)), .int (jI 0), .int (jI 0), .int (jI 0)])), (q28, .inl (cA, 49, .inl (jA (fun _ => 0)))), (q36, .inl (cA, 49, .inl (jA (fun _ => 0)))), (q44, .inl (cA, 49, .inl (jA (fun _ => 0))))] H := hP
  have hD : va_D A [(re, .inr (2, [.int (jI 2), .int (jI 1), .int (jI 2), .int (jI 6), .ref q28, .ref q36, .ref q44, .int (jI (-1)), .int (jI (-1)), .int (jI 0), .int (jI 0), .int (jI 0)])), (q28, .inl (cA, 49, .inl (jA (fun _ => 0)))), (q36, .inl (cA, 49, .inl (jA (fun _ => 0)))), (q44, .inl (cA, 49, .inl (jA (fun _ => 0))))] := hD
  refine lv_aload_n hx hb dX2_init_59 rfl (lv_at hl 0 rfl) ?_
  refine lv_iconst (v := jI (-1)) hx hb dX2_init_60 rfl ?_
  refine jv_put (v := .int (jI (-1))) F hP hD hS 0 rfl flX2_40 pfX2 (by decide +kernel) rfl rfl (Nat.le_of_ble_eq_true rfl) dX2_init_61 (fun H locs hP hD hS => ?_)
  have hP : va_P D cls [(re, .inr (2, [.int (jI 2), .int (jI 1), .int (jI 2), .int (jI 6), .ref q28, .ref q36, .ref q44, .int (jI (-1)), .int (jI (-1)), .int (jI (-1)), .int (jI 0), .int (jI 0)])), (q28, .inl (cA, 49, .inl (jA (fun _ => 0)))), (q36, .inl (cA, 49, .inl (jA (fun _ => 0)))), (q44, .inl (cA, 49, .inl (jA (fun _ => 0))))] H := hP
  have hD : va_D A [(re, .inr (2, [.int (jI 2), .int (jI 1), .int (jI 2), .int (jI 6), .ref q28, .ref q36, .ref q44, .int (jI (-1)), .int (jI (-1)), .int (jI (-1)), .int (jI 0), .int (jI 0)])), (q28, .inl (cA, 49, .inl (jA (fun _ => 0)))), (q36, .inl (cA, 49, .inl (jA (fun _ => 0)))), (q44, .inl (cA, 49, .inl (jA (fun _ => 0))))] := hD
  refine lv_aload_n hx hb dX2_init_64 rfl (lv_at hl 0 rfl) ?_
  refine lv_iconst (v := jI (-1)) hx hb dX2_init_65 rfl ?_
  refine jv_put (v := .int (jI (-1))) F hP hD hS 0 rfl flX2_43 pfX2 (by decide +kernel) rfl rfl (Nat.le_of_ble_eq_true rfl) dX2_init_66 (fun H locs hP hD hS => ?_)
  have hP : va_P D cls [(re, .inr (2, [.int (jI 2), .int (jI 1), .int (jI 2), .int (jI 6), .ref q28, .ref q36, .ref q44, .int (jI (-1)), .int (jI (-1)), .int (jI (-1)), .int (jI (-1)), .int (jI 0)])), (q28, .inl (cA, 49, .inl (jA (fun _ => 0)))), (q36, .inl (cA, 49, .inl (jA (fun _ => 0)))), (q44, .inl (cA, 49, .inl (jA (fun _ => 0))))] H := hP
  have hD : va_D A [(re, .inr (2, [.int (jI 2), .int (jI 1), .int (jI 2), .int (jI 6), .ref q28, .ref q36, .ref q44, .int (jI (-1)), .int (jI (-1)), .int (jI (-1)), .int (jI (-1)), .int (jI 0)])), (q28, .inl (cA, 49, .inl (jA (fun _ => 0)))), (q36, .inl (cA, 49, .inl (jA (fun _ => 0)))), (q44, .inl (cA, 49, .inl (jA (fun _ => 0))))] := hD
  refine lv_aload_n hx hb dX2_init_69 rfl (lv_at hl 0 rfl) ?_
  refine lv_iconst (v := jI (-1)) hx hb dX2_init_70 rfl ?_
  refine jv_put (v := .int (jI (-1))) F hP hD hS 0 rfl flX2_46 pfX2 (by decide +kernel) rfl rfl (Nat.le_of_ble_eq_true rfl) dX2_init_71 (fun H locs hP hD hS => ?_)
  have hP : va_P D cls [(re, .inr (2, [.int (jI 2), .int (jI 1), .int (jI 2), .int (jI 6), .ref q28, .ref q36, .ref q44, .int (jI (-1)), .int (jI (-1)), .int (jI (-1)), .int (jI (-1)), .int (jI (-1))])), (q28, .inl (cA, 49, .inl (jA (fun _ => 0)))), (q36, .inl (cA, 49, .inl (jA (fun _ => 0)))), (q44, .inl (cA, 49, .inl (jA (fun _ => 0))))] H := hP
  have hD : va_D A [(re, .inr (2, [.int (jI 2), .int (jI 1), .int (jI 2), .int (jI 6), .ref q28, .ref q36, .ref q44, .int (jI (-1)), .int (jI (-1)), .int (jI (-1)), .int (jI (-1)), .int (jI (-1))])), (q28, .inl (cA, 49, .inl (jA (fun _ => 0)))), (q36, .inl (cA, 49, .inl (jA (fun _ => 0)))), (q44, .inl (cA, 49, .inl (jA (fun _ => 0))))] := hD
  exact jM.rv F hQ rfl dX2_init_74 hS hP hD (by exact ⟨rfl, _, _, _, rfl⟩)
set_option maxHeartbeats 4000000 in
set_option maxRecDepth 100000 in
theorem kX4_init (l : Launch) (D : va_G) (cA : ClassId) (h4 : Nat)  : jM l YX4_init (rmk 2 12 2715 34) D cA [.ref h4] [(h4, .inr (4, [.null, .null, .null, .null, .null, .int (jI 0), .int (jI 0)]))] (fun v w => v = none ∧ ∃ r0 a0 r1 a1 sp be ah pa re t2 t1 t0 : Nat, w = [(h4, .inr (4, [.ref r0, .ref r1, .ref sp, .ref be, .ref re, .int (jI 1), .int (jI 0)])), (r0, .inr (1, [.ref a0, .int (jI 0)])), (a0, .inl (cA, 48, .inl (jA (fun _ => 0)))), (r1, .inr (1, [.ref a1, .int (jI 0)])), (a1, .inl (cA, 48, .inl (jA (fun _ => 0)))), (sp, .inr (3, [.ref r0, .ref r1, .int (jI 2)])), (be, .inr (0, [.ref ah, .ref pa, .int (jI 0), .int (jI 0)])), (ah, .inl (cA, 2401, .inl (jA (fun _ => 0)))), (pa, .inl (cA, 48, .inl (jA (fun _ => 0)))), (re, .inr (2, [.int (jI 2), .int (jI 1), .int (jI 2), .int (jI 6), .ref t2, .ref t1, .ref t0, .int (jI (-1)), .int (jI (-1)), .int (jI (-1)), .int (jI (-1)), .int (jI (-1))])), (t2, .inl (cA, 49, .inl (jA (fun _ => 0)))), (t1, .inl (cA, 49, .inl (jA (fun _ => 0)))), (t0, .inl (cA, 49, .inl (jA (fun _ => 0))))]) 12 2715 := by
  refine jM.intro (by decide +kernel) (Nat.le_of_ble_eq_true rfl) ?_
  intro p e s m args below meth c ls Q A F hQ hA hP hD hS hl
  have hx := F.1
  have hb := F.2.1
  have hl : lv_has ls 1 [(0, .ref h4)] := hl
  refine lv_aload_n hx hb dX4_init_0 rfl (lv_at hl 0 rfl) ?_
  refine jv_obj F wmX4_1 hl (by decide) (Nat.le_of_ble_eq_true rfl) dX4_init_1 ?_
  refine lv_aload_n hx hb dX4_init_4 rfl (lv_at hl 0 rfl) ?_
  refine jv_new (ci := 1) (fs := [.null, .int (jI 0)]) F nwX4_7 pfX1 hP hD hS hA (fun j hj => by rcases (show j = 0 ∨ j = 1 by omega) with rfl | rfl <;> rfl) (by decide) (by decide) dX4_init_5 (fun q5 H hP hD hS => ?_)
  have hP : va_P D cls [(h4, .inr (4, [.null, .null, .null, .null, .null, .int (jI 0), .int (jI 0)])), (q5, .inr (1, [.null, .int (jI 0)]))] H := hP
  have hD : va_D A [(h4, .inr (4, [.null, .null, .null, .null, .null, .int (jI 0), .int (jI 0)])), (q5, .inr (1, [.null, .int (jI 0)]))] := hD
  refine W.widen (k := 1) (n := 2) (by decide) (by decide) ?_
  refine lv_dup hx hb dX4_init_8 rfl ?_
  refine jw_IN (wr := [(h4, .inr (4, [.null, .null, .null, .null, .null, .int (jI 0), .int (jI 0)]))]) F (kX1_init l D cA q5) cnX4_9 hP hD hS hA [1] [0] rfl rfl (by decide) (by decide) hl ⟨rfl, rfl, by decide, by decide⟩ rfl rfl (Nat.le_of_ble_eq_true rfl) dX4_init_9 ⟨by decide, by decide⟩ (by decide) (fun v w1 H locs hw hP hD hS => ?_)
  obtain ⟨rfl, a9, rfl⟩ := hw
  have hP : va_P D cls [(h4, .inr (4, [.null, .null, .null, .null, .null, .int (jI 0), .int (jI 0)])), (q5, .inr (1, [.ref a9, .int (jI 0)])), (a9, .inl (cA, 48, .inl (jA (fun _ => 0))))] H := hP
  have hD : va_D A [(h4, .inr (4, [.null, .null, .null, .null, .null, .int (jI 0), .int (jI 0)])), (q5, .inr (1, [.ref a9, .int (jI 0)])), (a9, .inl (cA, 48, .inl (jA (fun _ => 0))))] := hD
  refine W.widen (k := 2) (n := 50) (by decide) (by decide) ?_
  refine W.eq (g2 := F0 m 12 ls [.ref q5, .ref h4]) rfl ?_
  refine jv_putF (v := .ref q5) F hP hD hS 0 rfl flX4_10 pfX4 (by decide +kernel) rfl rfl rfl rfl (Nat.le_of_ble_eq_true rfl) dX4_init_12 (fun H locs hP hD hS => ?_)
  have hP : va_P D cls [(h4, .inr (4, [.ref q5, .null, .null, .null, .null, .int (jI 0), .int (jI 0)])), (q5, .inr (1, [.ref a9, .int (jI 0)])), (a9, .inl (cA, 48, .inl (jA (fun _ => 0))))] H := hP
  have hD : va_D A [(h4, .inr (4, [.ref q5, .null, .null, .null, .null, .int (jI 0), .int (jI 0)])), (q5, .inr (1, [.ref a9, .int (jI 0)])), (a9, .inl (cA, 48, .inl (jA (fun _ => 0))))] := hD
  refine lv_aload_n hx hb dX4_init_15 rfl (lv_at hl 0 rfl) ?_
  refine jv_new (ci := 1) (fs := [.null, .int (jI 0)]) F nwX4_7 pfX1 hP hD hS hA (fun j hj => by rcases (show j = 0 ∨ j = 1 by omega) with rfl | rfl <;> rfl) (by decide) (by decide) dX4_init_16 (fun q16 H hP hD hS => ?_)
  have hP : va_P D cls [(h4, .inr (4, [.ref q5, .null, .null, .null, .null, .int (jI 0), .int (jI 0)])), (q5, .inr (1, [.ref a9, .int (jI 0)])), (a9, .inl (cA, 48, .inl (jA (fun _ => 0)))), (q16, .inr (1, [.null, .int (jI 0)]))] H := hP
  have hD : va_D A [(h4, .inr (4, [.ref q5, .null, .null, .null, .null, .int (jI 0), .int (jI 0)])), (q5, .inr (1, [.ref a9, .int (jI 0)])), (a9, .inl (cA, 48, .inl (jA (fun _ => 0)))), (q16, .inr (1, [.null, .int (jI 0)]))] := hD
  refine W.widen (k := 3) (n := 52) (by decide) (by decide) ?_
  refine lv_dup hx hb dX4_init_19 rfl ?_
  refine jw_IN (wr := [(h4, .inr (4, [.ref q5, .null, .null, .null, .null, .int (jI 0), .int (jI 0)])), (q5, .inr (1, [.ref a9, .int (jI 0)])), (a9, .inl (cA, 48, .inl (jA (fun _ => 0))))]) F (kX1_init l D cA q16) cnX4_9 hP hD hS hA [3] [0, 1, 2] rfl rfl (by decide) (by decide) hl ⟨rfl, rfl, by decide, by decide⟩ rfl rfl (Nat.le_of_ble_eq_true rfl) dX4_init_20 ⟨by decide, by decide⟩ (by decide) (fun v w1 H locs hw hP hD hS => ?_)
  obtain ⟨rfl, a20, rfl⟩ := hw
  have hP : va_P D cls [(h4, .inr (4, [.ref q5, .null, .null, .null, .null, .int (jI 0), .int (jI 0)])), (q5, .inr (1, [.ref a9, .int (jI 0)])), (a9, .inl (cA, 48, .inl (jA (fun _ => 0)))), (q16, .inr (1, [.ref a20, .int (jI 0)])), (a20, .inl (cA, 48, .inl (jA (fun _ => 0))))] H := hP
  have hD : va_D A [(h4, .inr (4, [.ref q5, .null, .null, .null, .null, .int (jI 0), .int (jI 0)])), (q5, .inr (1, [.ref a9, .int (jI 0)])), (a9, .inl (cA, 48, .inl (jA (fun _ => 0)))), (q16, .inr (1, [.ref a20, .int (jI 0)])), (a20, .inl (cA, 48, .inl (jA (fun _ => 0))))] := hD
  refine W.widen (k := 4) (n := 100) (by decide) (by decide) ?_
  refine W.eq (g2 := F0 m 23 ls [.ref q16, .ref h4]) rfl ?_
  refine jv_putF (v := .ref q16) F hP hD hS 0 rfl flX4_16 pfX4 (by decide +kernel) rfl rfl rfl rfl (Nat.le_of_ble_eq_true rfl) dX4_init_23 (fun H locs hP hD hS => ?_)
  have hP : va_P D cls [(h4, .inr (4, [.ref q5, .ref q16, .null, .null, .null, .int (jI 0), .int (jI 0)])), (q5, .inr (1, [.ref a9, .int (jI 0)])), (a9, .inl (cA, 48, .inl (jA (fun _ => 0)))), (q16, .inr (1, [.ref a20, .int (jI 0)])), (a20, .inl (cA, 48, .inl (jA (fun _ => 0))))] H := hP
  have hD : va_D A [(h4, .inr (4, [.ref q5, .ref q16, .null, .null, .null, .int (jI 0), .int (jI 0)])), (q5, .inr (1, [.ref a9, .int (jI 0)])), (a9, .inl (cA, 48, .inl (jA (fun _ => 0)))), (q16, .inr (1, [.ref a20, .int (jI 0)])), (a20, .inl (cA, 48, .inl (jA (fun _ => 0))))] := hD
  refine lv_aload_n hx hb dX4_init_26 rfl (lv_at hl 0 rfl) ?_
  refine jv_new (ci := 3) (fs := [.null, .null, .int (jI 0)]) F nwX4_19 pfX3 hP hD hS hA (fun j hj => by rcases (show j = 0 ∨ j = 1 ∨ j = 2 by omega) with rfl | rfl | rfl <;> rfl) (by decide) (by decide) dX4_init_27 (fun q27 H hP hD hS => ?_)
  have hP : va_P D cls [(h4, .inr (4, [.ref q5, .ref q16, .null, .null, .null, .int (jI 0), .int (jI 0)])), (q5, .inr (1, [.ref a9, .int (jI 0)])), (a9, .inl (cA, 48, .inl (jA (fun _ => 0)))), (q16, .inr (1, [.ref a20, .int (jI 0)])), (a20, .inl (cA, 48, .inl (jA (fun _ => 0)))), (q27, .inr (3, [.null, .null, .int (jI 0)]))] H := hP
  have hD : va_D A [(h4, .inr (4, [.ref q5, .ref q16, .null, .null, .null, .int (jI 0), .int (jI 0)])), (q5, .inr (1, [.ref a9, .int (jI 0)])), (a9, .inl (cA, 48, .inl (jA (fun _ => 0)))), (q16, .inr (1, [.ref a20, .int (jI 0)])), (a20, .inl (cA, 48, .inl (jA (fun _ => 0)))), (q27, .inr (3, [.null, .null, .int (jI 0)]))] := hD
  refine W.widen (k := 5) (n := 103) (by decide) (by decide) ?_
  refine lv_dup hx hb dX4_init_30 rfl ?_
  refine lv_aload_n hx hb dX4_init_31 rfl (lv_at hl 0 rfl) ?_
  refine jv_get (v := .ref q5) F hP 0 rfl flX4_10 rfl dX4_init_32 ?_
  refine lv_aload_n hx hb dX4_init_35 rfl (lv_at hl 0 rfl) ?_
  refine jv_get (v := .ref q16) F hP 0 rfl flX4_16 rfl dX4_init_36 ?_
  refine jw_I (wr := [(h4, .inr (4, [.ref q5, .ref q16, .null, .null, .null, .int (jI 0), .int (jI 0)])), (q5, .inr (1, [.ref a9, .int (jI 0)])), (a9, .inl (cA, 48, .inl (jA (fun _ => 0)))), (q16, .inr (1, [.ref a20, .int (jI 0)])), (a20, .inl (cA, 48, .inl (jA (fun _ => 0))))]) F (kX3_init l D cA q27 q5 q16) ciX4_21 hP hD hS hA [5] [0, 1, 2, 3, 4] rfl rfl (by decide) (by decide) hl ⟨rfl, rfl, by decide, by decide⟩ rfl rfl (Nat.le_of_ble_eq_true rfl) dX4_init_39 ⟨by decide, by decide⟩ (by decide) (fun v w1 H locs hw hP hD hS => ?_)
  obtain ⟨rfl, rfl⟩ := hw
  have hP : va_P D cls [(h4, .inr (4, [.ref q5, .ref q16, .null, .null, .null, .int (jI 0), .int (jI 0)])), (q5, .inr (1, [.ref a9, .int (jI 0)])), (a9, .inl (cA, 48, .inl (jA (fun _ => 0)))), (q16, .inr (1, [.ref a20, .int (jI 0)])), (a20, .inl (cA, 48, .inl (jA (fun _ => 0)))), (q27, .inr (3, [.ref q5, .ref q16, .int (jI 2)]))] H := hP
  have hD : va_D A [(h4, .inr (4, [.ref q5, .ref q16, .null, .null, .null, .int (jI 0), .int (jI 0)])), (q5, .inr (1, [.ref a9, .int (jI 0)])), (a9, .inl (cA, 48, .inl (jA (fun _ => 0)))), (q16, .inr (1, [.ref a20, .int (jI 0)])), (a20, .inl (cA, 48, .inl (jA (fun _ => 0)))), (q27, .inr (3, [.ref q5, .ref q16, .int (jI 2)]))] := hD
  refine W.eq (g2 := F0 m 42 ls [.ref q27, .ref h4]) rfl ?_
  refine jv_putF (v := .ref q27) F hP hD hS 0 rfl flX4_24 pfX4 (by decide +kernel) rfl rfl rfl rfl (Nat.le_of_ble_eq_true rfl) dX4_init_42 (fun H locs hP hD hS => ?_)
  have hP : va_P D cls [(h4, .inr (4, [.ref q5, .ref q16, .ref q27, .null, .null, .int (jI 0), .int (jI 0)])), (q5, .inr (1, [.ref a9, .int (jI 0)])), (a9, .inl (cA, 48, .inl (jA (fun _ => 0)))), (q16, .inr (1, [.ref a20, .int (jI 0)])), (a20, .inl (cA, 48, .inl (jA (fun _ => 0)))), (q27, .inr (3, [.ref q5, .ref q16, .int (jI 2)]))] H := hP
  have hD : va_D A [(h4, .inr (4, [.ref q5, .ref q16, .ref q27, .null, .null, .int (jI 0), .int (jI 0)])), (q5, .inr (1, [.ref a9, .int (jI 0)])), (a9, .inl (cA, 48, .inl (jA (fun _ => 0)))), (q16, .inr (1, [.ref a20, .int (jI 0)])), (a20, .inl (cA, 48, .inl (jA (fun _ => 0)))), (q27, .inr (3, [.ref q5, .ref q16, .int (jI 2)]))] := hD
  refine lv_aload_n hx hb dX4_init_45 rfl (lv_at hl 0 rfl) ?_
  refine jv_new (ci := 0) (fs := [.null, .null, .int (jI 0), .int (jI 0)]) F nwX4_28 pfX0 hP hD hS hA (fun j hj => by rcases (show j = 0 ∨ j = 1 ∨ j = 2 ∨ j = 3 by omega) with rfl | rfl | rfl | rfl <;> rfl) (by decide) (by decide) dX4_init_46 (fun q46 H hP hD hS => ?_)
  have hP : va_P D cls [(h4, .inr (4, [.ref q5, .ref q16, .ref q27, .null, .null, .int (jI 0), .int (jI 0)])), (q5, .inr (1, [.ref a9, .int (jI 0)])), (a9, .inl (cA, 48, .inl (jA (fun _ => 0)))), (q16, .inr (1, [.ref a20, .int (jI 0)])), (a20, .inl (cA, 48, .inl (jA (fun _ => 0)))), (q27, .inr (3, [.ref q5, .ref q16, .int (jI 2)])), (q46, .inr (0, [.null, .null, .int (jI 0), .int (jI 0)]))] H := hP
  have hD : va_D A [(h4, .inr (4, [.ref q5, .ref q16, .ref q27, .null, .null, .int (jI 0), .int (jI 0)])), (q5, .inr (1, [.ref a9, .int (jI 0)])), (a9, .inl (cA, 48, .inl (jA (fun _ => 0)))), (q16, .inr (1, [.ref a20, .int (jI 0)])), (a20, .inl (cA, 48, .inl (jA (fun _ => 0)))), (q27, .inr (3, [.ref q5, .ref q16, .int (jI 2)])), (q46, .inr (0, [.null, .null, .int (jI 0), .int (jI 0)]))] := hD
  refine W.widen (k := 6) (n := 107) (by decide) (by decide) ?_
  refine lv_dup hx hb dX4_init_49 rfl ?_
  refine jw_IN (wr := [(h4, .inr (4, [.ref q5, .ref q16, .ref q27, .null, .null, .int (jI 0), .int (jI 0)])), (q5, .inr (1, [.ref a9, .int (jI 0)])), (a9, .inl (cA, 48, .inl (jA (fun _ => 0)))), (q16, .inr (1, [.ref a20, .int (jI 0)])), (a20, .inl (cA, 48, .inl (jA (fun _ => 0)))), (q27, .inr (3, [.ref q5, .ref q16, .int (jI 2)]))]) F (kX0_init l D cA q46) cnX4_30 hP hD hS hA [6] [0, 1, 2, 3, 4, 5] rfl rfl (by decide) (by decide) hl ⟨rfl, rfl, by decide, by decide⟩ rfl rfl (Nat.le_of_ble_eq_true rfl) dX4_init_50 ⟨by decide, by decide⟩ (by decide) (fun v w1 H locs hw hP hD hS => ?_)
  obtain ⟨rfl, ah50, pa50, rfl⟩ := hw
  have hP : va_P D cls [(h4, .inr (4, [.ref q5, .ref q16, .ref q27, .null, .null, .int (jI 0), .int (jI 0)])), (q5, .inr (1, [.ref a9, .int (jI 0)])), (a9, .inl (cA, 48, .inl (jA (fun _ => 0)))), (q16, .inr (1, [.ref a20, .int (jI 0)])), (a20, .inl (cA, 48, .inl (jA (fun _ => 0)))), (q27, .inr (3, [.ref q5, .ref q16, .int (jI 2)])), (q46, .inr (0, [.ref ah50, .ref pa50, .int (jI 0), .int (jI 0)])), (ah50, .inl (cA, 2401, .inl (jA (fun _ => 0)))), (pa50, .inl (cA, 48, .inl (jA (fun _ => 0))))] H := hP
  have hD : va_D A [(h4, .inr (4, [.ref q5, .ref q16, .ref q27, .null, .null, .int (jI 0), .int (jI 0)])), (q5, .inr (1, [.ref a9, .int (jI 0)])), (a9, .inl (cA, 48, .inl (jA (fun _ => 0)))), (q16, .inr (1, [.ref a20, .int (jI 0)])), (a20, .inl (cA, 48, .inl (jA (fun _ => 0)))), (q27, .inr (3, [.ref q5, .ref q16, .int (jI 2)])), (q46, .inr (0, [.ref ah50, .ref pa50, .int (jI 0), .int (jI 0)])), (ah50, .inl (cA, 2401, .inl (jA (fun _ => 0)))), (pa50, .inl (cA, 48, .inl (jA (fun _ => 0))))] := hD
  refine W.widen (k := 8) (n := 2556) (by decide) (by decide) ?_
  refine W.eq (g2 := F0 m 53 ls [.ref q46, .ref h4]) rfl ?_
  refine jv_putF (v := .ref q46) F hP hD hS 0 rfl flX4_31 pfX4 (by decide +kernel) rfl rfl rfl rfl (Nat.le_of_ble_eq_true rfl) dX4_init_53 (fun H locs hP hD hS => ?_)
  have hP : va_P D cls [(h4, .inr (4, [.ref q5, .ref q16, .ref q27, .ref q46, .null, .int (jI 0), .int (jI 0)])), (q5, .inr (1, [.ref a9, .int (jI 0)])), (a9, .inl (cA, 48, .inl (jA (fun _ => 0)))), (q16, .inr (1, [.ref a20, .int (jI 0)])), (a20, .inl (cA, 48, .inl (jA (fun _ => 0)))), (q27, .inr (3, [.ref q5, .ref q16, .int (jI 2)])), (q46, .inr (0, [.ref ah50, .ref pa50, .int (jI 0), .int (jI 0)])), (ah50, .inl (cA, 2401, .inl (jA (fun _ => 0)))), (pa50, .inl (cA, 48, .inl (jA (fun _ => 0))))] H := hP
  have hD : va_D A [(h4, .inr (4, [.ref q5, .ref q16, .ref q27, .ref q46, .null, .int (jI 0), .int (jI 0)])), (q5, .inr (1, [.ref a9, .int (jI 0)])), (a9, .inl (cA, 48, .inl (jA (fun _ => 0)))), (q16, .inr (1, [.ref a20, .int (jI 0)])), (a20, .inl (cA, 48, .inl (jA (fun _ => 0)))), (q27, .inr (3, [.ref q5, .ref q16, .int (jI 2)])), (q46, .inr (0, [.ref ah50, .ref pa50, .int (jI 0), .int (jI 0)])), (ah50, .inl (cA, 2401, .inl (jA (fun _ => 0)))), (pa50, .inl (cA, 48, .inl (jA (fun _ => 0))))] := hD
  refine lv_aload_n hx hb dX4_init_56 rfl (lv_at hl 0 rfl) ?_
  refine jv_new (ci := 2) (fs := [.int (jI 0), .int (jI 0), .int (jI 0), .int (jI 0), .null, .null, .null, .int (jI 0), .int (jI 0), .int (jI 0), .int (jI 0), .int (jI 0)]) F nwX4_35 pfX2 hP hD hS hA (fun j hj => by rcases (show j = 0 ∨ j = 1 ∨ j = 2 ∨ j = 3 ∨ j = 4 ∨ j = 5 ∨ j = 6 ∨ j = 7 ∨ j = 8 ∨ j = 9 ∨ j = 10 ∨ j = 11 by omega) with rfl | rfl | rfl | rfl | rfl | rfl | rfl | rfl | rfl | rfl | rfl | rfl <;> rfl) (by decide) (by decide) dX4_init_57 (fun q57 H hP hD hS => ?_)
  have hP : va_P D cls [(h4, .inr (4, [.ref q5, .ref q16, .ref q27, .ref q46, .null, .int (jI 0), .int (jI 0)])), (q5, .inr (1, [.ref a9, .int (jI 0)])), (a9, .inl (cA, 48, .inl (jA (fun _ => 0)))), (q16, .inr (1, [.ref a20, .int (jI 0)])), (a20, .inl (cA, 48, .inl (jA (fun _ => 0)))), (q27, .inr (3, [.ref q5, .ref q16, .int (jI 2)])), (q46, .inr (0, [.ref ah50, .ref pa50, .int (jI 0), .int (jI 0)])), (ah50, .inl (cA, 2401, .inl (jA (fun _ => 0)))), (pa50, .inl (cA, 48, .inl (jA (fun _ => 0)))), (q57, .inr (2, [.int (jI 0), .int (jI 0), .int (jI 0), .int (jI 0), .null, .null, .null, .int (jI 0), .int (jI 0), .int (jI 0), .int (jI 0), .int (jI 0)]))] H := hP
  have hD : va_D A [(h4, .inr (4, [.ref q5, .ref q16, .ref q27, .ref q46, .null, .int (jI 0), .int (jI 0)])), (q5, .inr (1, [.ref a9, .int (jI 0)])), (a9, .inl (cA, 48, .inl (jA (fun _ => 0)))), (q16, .inr (1, [.ref a20, .int (jI 0)])), (a20, .inl (cA, 48, .inl (jA (fun _ => 0)))), (q27, .inr (3, [.ref q5, .ref q16, .int (jI 2)])), (q46, .inr (0, [.ref ah50, .ref pa50, .int (jI 0), .int (jI 0)])), (ah50, .inl (cA, 2401, .inl (jA (fun _ => 0)))), (pa50, .inl (cA, 48, .inl (jA (fun _ => 0)))), (q57, .inr (2, [.int (jI 0), .int (jI 0), .int (jI 0), .int (jI 0), .null, .null, .null, .int (jI 0), .int (jI 0), .int (jI 0), .int (jI 0), .int (jI 0)]))] := hD
  refine W.widen (k := 9) (n := 2568) (by decide) (by decide) ?_
  refine lv_dup hx hb dX4_init_60 rfl ?_
  refine jw_IN (wr := [(h4, .inr (4, [.ref q5, .ref q16, .ref q27, .ref q46, .null, .int (jI 0), .int (jI 0)])), (q5, .inr (1, [.ref a9, .int (jI 0)])), (a9, .inl (cA, 48, .inl (jA (fun _ => 0)))), (q16, .inr (1, [.ref a20, .int (jI 0)])), (a20, .inl (cA, 48, .inl (jA (fun _ => 0)))), (q27, .inr (3, [.ref q5, .ref q16, .int (jI 2)])), (q46, .inr (0, [.ref ah50, .ref pa50, .int (jI 0), .int (jI 0)])), (ah50, .inl (cA, 2401, .inl (jA (fun _ => 0)))), (pa50, .inl (cA, 48, .inl (jA (fun _ => 0))))]) F (kX2_init l D cA q57) cnX4_37 hP hD hS hA [9] [0, 1, 2, 3, 4, 5, 6, 7, 8] rfl rfl (by decide) (by decide) hl ⟨rfl, rfl, by decide, by decide⟩ rfl rfl (Nat.le_of_ble_eq_true rfl) dX4_init_61 ⟨by decide, by decide⟩ (by decide) (fun v w1 H locs hw hP hD hS => ?_)
  obtain ⟨rfl, t2_61, t1_61, t0_61, rfl⟩ := hw
  have hP : va_P D cls [(h4, .inr (4, [.ref q5, .ref q16, .ref q27, .ref q46, .null, .int (jI 0), .int (jI 0)])), (q5, .inr (1, [.ref a9, .int (jI 0)])), (a9, .inl (cA, 48, .inl (jA (fun _ => 0)))), (q16, .inr (1, [.ref a20, .int (jI 0)])), (a20, .inl (cA, 48, .inl (jA (fun _ => 0)))), (q27, .inr (3, [.ref q5, .ref q16, .int (jI 2)])), (q46, .inr (0, [.ref ah50, .ref pa50, .int (jI 0), .int (jI 0)])), (ah50, .inl (cA, 2401, .inl (jA (fun _ => 0)))), (pa50, .inl (cA, 48, .inl (jA (fun _ => 0)))), (q57, .inr (2, [.int (jI 2), .int (jI 1), .int (jI 2), .int (jI 6), .ref t2_61, .ref t1_61, .ref t0_61, .int (jI (-1)), .int (jI (-1)), .int (jI (-1)), .int (jI (-1)), .int (jI (-1))])), (t2_61, .inl (cA, 49, .inl (jA (fun _ => 0)))), (t1_61, .inl (cA, 49, .inl (jA (fun _ => 0)))), (t0_61, .inl (cA, 49, .inl (jA (fun _ => 0))))] H := hP
  have hD : va_D A [(h4, .inr (4, [.ref q5, .ref q16, .ref q27, .ref q46, .null, .int (jI 0), .int (jI 0)])), (q5, .inr (1, [.ref a9, .int (jI 0)])), (a9, .inl (cA, 48, .inl (jA (fun _ => 0)))), (q16, .inr (1, [.ref a20, .int (jI 0)])), (a20, .inl (cA, 48, .inl (jA (fun _ => 0)))), (q27, .inr (3, [.ref q5, .ref q16, .int (jI 2)])), (q46, .inr (0, [.ref ah50, .ref pa50, .int (jI 0), .int (jI 0)])), (ah50, .inl (cA, 2401, .inl (jA (fun _ => 0)))), (pa50, .inl (cA, 48, .inl (jA (fun _ => 0)))), (q57, .inr (2, [.int (jI 2), .int (jI 1), .int (jI 2), .int (jI 6), .ref t2_61, .ref t1_61, .ref t0_61, .int (jI (-1)), .int (jI (-1)), .int (jI (-1)), .int (jI (-1)), .int (jI (-1))])), (t2_61, .inl (cA, 49, .inl (jA (fun _ => 0)))), (t1_61, .inl (cA, 49, .inl (jA (fun _ => 0)))), (t0_61, .inl (cA, 49, .inl (jA (fun _ => 0))))] := hD
  refine W.widen (k := 12) (n := 2715) (by decide) (by decide) ?_
  refine W.eq (g2 := F0 m 64 ls [.ref q57, .ref h4]) rfl ?_
  refine jv_putF (v := .ref q57) F hP hD hS 0 rfl flX4_38 pfX4 (by decide +kernel) rfl rfl rfl rfl (Nat.le_of_ble_eq_true rfl) dX4_init_64 (fun H locs hP hD hS => ?_)
  have hP : va_P D cls [(h4, .inr (4, [.ref q5, .ref q16, .ref q27, .ref q46, .ref q57, .int (jI 0), .int (jI 0)])), (q5, .inr (1, [.ref a9, .int (jI 0)])), (a9, .inl (cA, 48, .inl (jA (fun _ => 0)))), (q16, .inr (1, [.ref a20, .int (jI 0)])), (a20, .inl (cA, 48, .inl (jA (fun _ => 0)))), (q27, .inr (3, [.ref q5, .ref q16, .int (jI 2)])), (q46, .inr (0, [.ref ah50, .ref pa50, .int (jI 0), .int (jI 0)])), (ah50, .inl (cA, 2401, .inl (jA (fun _ => 0)))), (pa50, .inl (cA, 48, .inl (jA (fun _ => 0)))), (q57, .inr (2, [.int (jI 2), .int (jI 1), .int (jI 2), .int (jI 6), .ref t2_61, .ref t1_61, .ref t0_61, .int (jI (-1)), .int (jI (-1)), .int (jI (-1)), .int (jI (-1)), .int (jI (-1))])), (t2_61, .inl (cA, 49, .inl (jA (fun _ => 0)))), (t1_61, .inl (cA, 49, .inl (jA (fun _ => 0)))), (t0_61, .inl (cA, 49, .inl (jA (fun _ => 0))))] H := hP
  have hD : va_D A [(h4, .inr (4, [.ref q5, .ref q16, .ref q27, .ref q46, .ref q57, .int (jI 0), .int (jI 0)])), (q5, .inr (1, [.ref a9, .int (jI 0)])), (a9, .inl (cA, 48, .inl (jA (fun _ => 0)))), (q16, .inr (1, [.ref a20, .int (jI 0)])), (a20, .inl (cA, 48, .inl (jA (fun _ => 0)))), (q27, .inr (3, [.ref q5, .ref q16, .int (jI 2)])), (q46, .inr (0, [.ref ah50, .ref pa50, .int (jI 0), .int (jI 0)])), (ah50, .inl (cA, 2401, .inl (jA (fun _ => 0)))), (pa50, .inl (cA, 48, .inl (jA (fun _ => 0)))), (q57, .inr (2, [.int (jI 2), .int (jI 1), .int (jI 2), .int (jI 6), .ref t2_61, .ref t1_61, .ref t0_61, .int (jI (-1)), .int (jI (-1)), .int (jI (-1)), .int (jI (-1)), .int (jI (-1))])), (t2_61, .inl (cA, 49, .inl (jA (fun _ => 0)))), (t1_61, .inl (cA, 49, .inl (jA (fun _ => 0)))), (t0_61, .inl (cA, 49, .inl (jA (fun _ => 0))))] := hD
  refine lv_aload_n hx hb dX4_init_67 rfl (lv_at hl 0 rfl) ?_
  refine lv_iconst (v := jI 1) hx hb dX4_init_68 rfl ?_
  refine jv_put (v := .int (jI 1)) F hP hD hS 0 rfl flX4_42 pfX4 (by decide +kernel) rfl rfl (Nat.le_of_ble_eq_true rfl) dX4_init_69 (fun H locs hP hD hS => ?_)
  have hP : va_P D cls [(h4, .inr (4, [.ref q5, .ref q16, .ref q27, .ref q46, .ref q57, .int (jI 1), .int (jI 0)])), (q5, .inr (1, [.ref a9, .int (jI 0)])), (a9, .inl (cA, 48, .inl (jA (fun _ => 0)))), (q16, .inr (1, [.ref a20, .int (jI 0)])), (a20, .inl (cA, 48, .inl (jA (fun _ => 0)))), (q27, .inr (3, [.ref q5, .ref q16, .int (jI 2)])), (q46, .inr (0, [.ref ah50, .ref pa50, .int (jI 0), .int (jI 0)])), (ah50, .inl (cA, 2401, .inl (jA (fun _ => 0)))), (pa50, .inl (cA, 48, .inl (jA (fun _ => 0)))), (q57, .inr (2, [.int (jI 2), .int (jI 1), .int (jI 2), .int (jI 6), .ref t2_61, .ref t1_61, .ref t0_61, .int (jI (-1)), .int (jI (-1)), .int (jI (-1)), .int (jI (-1)), .int (jI (-1))])), (t2_61, .inl (cA, 49, .inl (jA (fun _ => 0)))), (t1_61, .inl (cA, 49, .inl (jA (fun _ => 0)))), (t0_61, .inl (cA, 49, .inl (jA (fun _ => 0))))] H := hP
  have hD : va_D A [(h4, .inr (4, [.ref q5, .ref q16, .ref q27, .ref q46, .ref q57, .int (jI 1), .int (jI 0)])), (q5, .inr (1, [.ref a9, .int (jI 0)])), (a9, .inl (cA, 48, .inl (jA (fun _ => 0)))), (q16, .inr (1, [.ref a20, .int (jI 0)])), (a20, .inl (cA, 48, .inl (jA (fun _ => 0)))), (q27, .inr (3, [.ref q5, .ref q16, .int (jI 2)])), (q46, .inr (0, [.ref ah50, .ref pa50, .int (jI 0), .int (jI 0)])), (ah50, .inl (cA, 2401, .inl (jA (fun _ => 0)))), (pa50, .inl (cA, 48, .inl (jA (fun _ => 0)))), (q57, .inr (2, [.int (jI 2), .int (jI 1), .int (jI 2), .int (jI 6), .ref t2_61, .ref t1_61, .ref t0_61, .int (jI (-1)), .int (jI (-1)), .int (jI (-1)), .int (jI (-1)), .int (jI (-1))])), (t2_61, .inl (cA, 49, .inl (jA (fun _ => 0)))), (t1_61, .inl (cA, 49, .inl (jA (fun _ => 0)))), (t0_61, .inl (cA, 49, .inl (jA (fun _ => 0))))] := hD
  refine lv_aload_n hx hb dX4_init_72 rfl (lv_at hl 0 rfl) ?_
  refine lv_iconst (v := jI 0) hx hb dX4_init_73 rfl ?_
  refine jv_put (v := .int (jI 0)) F hP hD hS 0 rfl flX4_46 pfX4 (by decide +kernel) (by decide +kernel) (by decide +kernel) (Nat.le_of_ble_eq_true rfl) dX4_init_74 (fun H locs hP hD hS => ?_)
  have hP : va_P D cls [(h4, .inr (4, [.ref q5, .ref q16, .ref q27, .ref q46, .ref q57, .int (jI 1), .int (jI 0)])), (q5, .inr (1, [.ref a9, .int (jI 0)])), (a9, .inl (cA, 48, .inl (jA (fun _ => 0)))), (q16, .inr (1, [.ref a20, .int (jI 0)])), (a20, .inl (cA, 48, .inl (jA (fun _ => 0)))), (q27, .inr (3, [.ref q5, .ref q16, .int (jI 2)])), (q46, .inr (0, [.ref ah50, .ref pa50, .int (jI 0), .int (jI 0)])), (ah50, .inl (cA, 2401, .inl (jA (fun _ => 0)))), (pa50, .inl (cA, 48, .inl (jA (fun _ => 0)))), (q57, .inr (2, [.int (jI 2), .int (jI 1), .int (jI 2), .int (jI 6), .ref t2_61, .ref t1_61, .ref t0_61, .int (jI (-1)), .int (jI (-1)), .int (jI (-1)), .int (jI (-1)), .int (jI (-1))])), (t2_61, .inl (cA, 49, .inl (jA (fun _ => 0)))), (t1_61, .inl (cA, 49, .inl (jA (fun _ => 0)))), (t0_61, .inl (cA, 49, .inl (jA (fun _ => 0))))] H := hP
  have hD : va_D A [(h4, .inr (4, [.ref q5, .ref q16, .ref q27, .ref q46, .ref q57, .int (jI 1), .int (jI 0)])), (q5, .inr (1, [.ref a9, .int (jI 0)])), (a9, .inl (cA, 48, .inl (jA (fun _ => 0)))), (q16, .inr (1, [.ref a20, .int (jI 0)])), (a20, .inl (cA, 48, .inl (jA (fun _ => 0)))), (q27, .inr (3, [.ref q5, .ref q16, .int (jI 2)])), (q46, .inr (0, [.ref ah50, .ref pa50, .int (jI 0), .int (jI 0)])), (ah50, .inl (cA, 2401, .inl (jA (fun _ => 0)))), (pa50, .inl (cA, 48, .inl (jA (fun _ => 0)))), (q57, .inr (2, [.int (jI 2), .int (jI 1), .int (jI 2), .int (jI 6), .ref t2_61, .ref t1_61, .ref t0_61, .int (jI (-1)), .int (jI (-1)), .int (jI (-1)), .int (jI (-1)), .int (jI (-1))])), (t2_61, .inl (cA, 49, .inl (jA (fun _ => 0)))), (t1_61, .inl (cA, 49, .inl (jA (fun _ => 0)))), (t0_61, .inl (cA, 49, .inl (jA (fun _ => 0))))] := hD
  exact jM.rv F hQ rfl dX4_init_77 hS hP hD (by exact ⟨rfl, _, _, _, _, _, _, _, _, _, _, _, _, rfl⟩)
