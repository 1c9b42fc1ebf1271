set_option maxHeartbeats 4000000 in
set_option maxRecDepth 100000 in
theorem kX1_size (l : Launch) (D : va_G) (cA : ClassId) (h a : Nat) (n : Int) (L : Int → Int)  : jR l YX1_size (rmk 0 0 0 0) D cA [.ref h] [(h, .inr (1, [.ref a, .int (jI n)])), (a, .inl (cA, 48, .inl (jA L)))] (fun v => v = .int (jI n)) := by
  refine jR.intro (by decide +kernel) (Nat.le_of_ble_eq_true rfl) ?_
  intro p e s m args below meth c ls Q F hQ hP hl
  have hx := F.1
  have hb := F.2.1
  have hl : lv_has ls 1 [(0, .ref h)] := hl
  refine lv_aload_n hx hb dX1_size_0 rfl (lv_at hl 0 rfl) ?_
  refine jv_get (v := .int (jI n)) F hP 0 rfl flX1_15 rfl dX1_size_1 ?_
  exact jR.ri F hQ rfl dX1_size_4 (by rfl)
set_option maxHeartbeats 4000000 in
set_option maxRecDepth 100000 in
theorem kX1_isFull (l : Launch) (D : va_G) (cA : ClassId) (h a : Nat) (n : Int) (L : Int → Int) (hn : 0 ≤ n ∧ n ≤ 48) : jR l YX1_isFull (rmk 0 0 0 0) D cA [.ref h] [(h, .inr (1, [.ref a, .int (jI n)])), (a, .inl (cA, 48, .inl (jA L)))] (fun v => ∃ z : Int, v = .int (jI z) ∧ (z = 1 ∧ n = 48 ∨ z = 0 ∧ n ≠ 48)) := by
  refine jR.intro (by decide +kernel) (Nat.le_of_ble_eq_true rfl) ?_
  intro p e s m args below meth c ls Q F hQ hP hl
  have hx := F.1
  have hb := F.2.1
  have hl : lv_has ls 1 [(0, .ref h)] := hl
  refine lv_aload_n hx hb dX1_isFull_0 rfl (lv_at hl 0 rfl) ?_
  refine jv_get (v := .int (jI n)) F hP 0 rfl flX1_15 rfl dX1_isFull_1 ?_
  refine lv_bipush (v := jI 48) hx hb dX1_isFull_4 (by decide +kernel) ?_
  refine jv_icmp_ne (tgt := 13) hx hb dX1_isFull_6 rfl (by omega) (by omega) (fun c6 => ?_) (fun c6 => ?_)
  · refine lv_iconst (v := jI 0) hx hb dX1_isFull_13 rfl ?_
    exact jR.rz F hQ rfl (by omega) dX1_isFull_14 (by exact ⟨_, rfl, by omega⟩)
  · refine lv_iconst (v := jI 1) hx hb dX1_isFull_9 rfl ?_
    refine lv_goto (tgt := 14) hx hb dX1_isFull_10 rfl ?_
    exact jR.rz F hQ rfl (by omega) dX1_isFull_14 (by exact ⟨_, rfl, by omega⟩)
set_option maxHeartbeats 4000000 in
set_option maxRecDepth 100000 in
theorem kX1_append (l : Launch) (D : va_G) (cA : ClassId) (h a : Nat) (n : Int) (L : Int → Int) (x : Int) (hn : 0 ≤ n ∧ n < 48) : jM l YX1_append (rmk 1 0 0 20) D cA [.ref h, .int (jI x)] [(h, .inr (1, [.ref a, .int (jI n)])), (a, .inl (cA, 48, .inl (jA L)))] (fun v w => v = none ∧ w = [(h, .inr (1, [.ref a, .int (jI (n + 1))])), (a, .inl (cA, 48, .inl (jA (jU L n x))))]) 0 0 := by
  refine jM.intro (by decide +kernel) (Nat.le_of_ble_eq_true rfl) ?_
  intro p e s m args below meth c ls Q A F hQ hA hP hD hS hl
  have hx := F.1
  have hb := F.2.1
  have hl : lv_has ls 2 [(0, .ref h), (1, .int (jI x))] := hl
  refine lv_aload_n hx hb dX1_append_0 rfl (lv_at hl 0 rfl) ?_
  refine jr_V F (kX1_isFull l D cA h a n L (by omega)) cvX1_19 hP [0, 1] rfl 0 rfl rfl hl ⟨rfl, rfl, by decide, by decide⟩ rfl rfl (by decide) dX1_append_1 ⟨by decide, by decide⟩ (fun v hv => ?_)
  obtain ⟨z1, rfl, hz1⟩ := hv
  refine jv_if_ne (tgt := 27) hx hb dX1_append_4 rfl (by omega) (fun c4 => ?_) (fun c4 => ?_)
  · exfalso
    omega
  · refine lv_aload_n hx hb dX1_append_7 rfl (lv_at hl 0 rfl) ?_
    refine jv_get (v := .ref a) F hP 0 rfl flX1_9 rfl dX1_append_8 ?_
    refine lv_aload_n hx hb dX1_append_11 rfl (lv_at hl 0 rfl) ?_
    refine jv_get (v := .int (jI n)) F hP 0 rfl flX1_15 rfl dX1_append_12 ?_
    refine lv_iload_n hx hb dX1_append_15 rfl (lv_at hl 1 rfl) ?_
    refine jv_iast (fa := L) F hP hD hS 1 rfl (by omega) (by decide) dX1_append_16 (fun H locs hP hD hS => ?_)
    have hP : va_P D cls [(h, .inr (1, [.ref a, .int (jI n)])), (a, .inl (cA, 48, .inl (jA (jU L n x))))] H := hP
    have hD : va_D A [(h, .inr (1, [.ref a, .int (jI n)])), (a, .inl (cA, 48, .inl (jA (jU L n x))))] := hD
    refine lv_aload_n hx hb dX1_append_17 rfl (lv_at hl 0 rfl) ?_
    refine lv_dup hx hb dX1_append_18 rfl ?_
    refine jv_get (v := .int (jI n)) F hP 0 rfl flX1_15 rfl dX1_append_19 ?_
    refine lv_iconst (v := jI 1) hx hb dX1_append_22 rfl ?_
    refine jv_iadd hx hb dX1_append_23 ?_
    refine jv_put (v := .int (jI (n + 1))) F hP hD hS 0 rfl flX1_15 pfX1 (by decide +kernel) rfl rfl (Nat.le_of_ble_eq_true rfl) dX1_append_24 (fun H locs hP hD hS => ?_)
    have hP : va_P D cls [(h, .inr (1, [.ref a, .int (jI (n + 1))])), (a, .inl (cA, 48, .inl (jA (jU L n x))))] H := hP
    have hD : va_D A [(h, .inr (1, [.ref a, .int (jI (n + 1))])), (a, .inl (cA, 48, .inl (jA (jU L n x))))] := hD
    exact jM.rv F hQ rfl dX1_append_27 hS hP hD (by exact ⟨rfl, rfl⟩)
set_option maxHeartbeats 4000000 in
set_option maxRecDepth 100000 in
theorem kX1_dropLast (l : Launch) (D : va_G) (cA : ClassId) (h a : Nat) (n : Int) (L : Int → Int) (hn : 0 < n ∧ n ≤ 48) : jM l YX1_dropLast (rmk 0 0 0 0) D cA [.ref h] [(h, .inr (1, [.ref a, .int (jI n)])), (a, .inl (cA, 48, .inl (jA L)))] (fun v w => v = some (.int (jI (L (n - 1)))) ∧ w = [(h, .inr (1, [.ref a, .int (jI (n - 1))])), (a, .inl (cA, 48, .inl (jA L)))]) 0 0 := by
  refine jM.intro (by decide +kernel) (Nat.le_of_ble_eq_true rfl) ?_
  intro p e s m args below meth c ls Q A F hQ hA hP hD hS hl
  have hx := F.1
  have hb := F.2.1
  have hl : lv_has ls 1 [(0, .ref h)] := hl
  refine lv_aload_n hx hb dX1_dropLast_0 rfl (lv_at hl 0 rfl) ?_
  refine jv_get (v := .int (jI n)) F hP 0 rfl flX1_15 rfl dX1_dropLast_1 ?_
  refine jv_if_ne (tgt := 9) hx hb dX1_dropLast_4 rfl (by omega) (fun c4 => ?_) (fun c4 => ?_)
  · refine lv_aload_n hx hb dX1_dropLast_9 rfl (lv_at hl 0 rfl) ?_
    refine lv_dup hx hb dX1_dropLast_10 rfl ?_
    refine jv_get (v := .int (jI n)) F hP 0 rfl flX1_15 rfl dX1_dropLast_11 ?_
    refine lv_iconst (v := jI 1) hx hb dX1_dropLast_14 rfl ?_
    refine jv_isub hx hb dX1_dropLast_15 ?_
    refine jv_put (v := .int (jI (n - 1))) F hP hD hS 0 rfl flX1_15 pfX1 (by decide +kernel) rfl rfl (Nat.le_of_ble_eq_true rfl) dX1_dropLast_16 (fun H locs hP hD hS => ?_)
    have hP : va_P D cls [(h, .inr (1, [.ref a, .int (jI (n - 1))])), (a, .inl (cA, 48, .inl (jA L)))] H := hP
    have hD : va_D A [(h, .inr (1, [.ref a, .int (jI (n - 1))])), (a, .inl (cA, 48, .inl (jA L)))] := hD
    refine lv_aload_n hx hb dX1_dropLast_19 rfl (lv_at hl 0 rfl) ?_
    refine jv_get (v := .ref a) F hP 0 rfl flX1_9 rfl dX1_dropLast_20 ?_
    refine lv_aload_n hx hb dX1_dropLast_23 rfl (lv_at hl 0 rfl) ?_
    refine jv_get (v := .int (jI (n - 1))) F hP 0 rfl flX1_15 rfl dX1_dropLast_24 ?_
    refine jv_iald (fa := L) F hP 1 rfl (by omega) (by decide) dX1_dropLast_27 ?_
    exact jM.ri F hQ rfl dX1_dropLast_28 hS hP hD (by exact ⟨rfl, rfl⟩)
  · exfalso
    omega
set_option maxHeartbeats 4000000 in
set_option maxRecDepth 100000 in
theorem kX1_at (l : Launch) (D : va_G) (cA : ClassId) (h a : Nat) (n : Int) (L : Int → Int) (i : Int) (hn : 0 ≤ n ∧ n ≤ 48) (hi : -2147483648 ≤ i ∧ i < 2147483648) : jR l YX1_at (rmk 0 0 0 0) D cA [.ref h, .int (jI i)] [(h, .inr (1, [.ref a, .int (jI n)])), (a, .inl (cA, 48, .inl (jA L)))] (fun v => v = .int (jI (atv L n i))) := by
  refine jR.intro (by decide +kernel) (Nat.le_of_ble_eq_true rfl) ?_
  intro p e s m args below meth c ls Q F hQ hP hl
  have hx := F.1
  have hb := F.2.1
  have hl : lv_has ls 2 [(0, .ref h), (1, .int (jI i))] := hl
  refine lv_iload_n hx hb dX1_at_0 rfl (lv_at hl 1 rfl) ?_
  refine jv_if_lt (tgt := 21) hx hb dX1_at_1 rfl (by omega) (fun c1 => ?_) (fun c1 => ?_)
  · refine lv_iconst (v := jI (-1)) hx hb dX1_at_21 rfl ?_
    exact jR.ri F hQ rfl dX1_at_22 (by rw [atv_out (by omega)])
  · refine lv_iload_n hx hb dX1_at_4 rfl (lv_at hl 1 rfl) ?_
    refine lv_aload_n hx hb dX1_at_5 rfl (lv_at hl 0 rfl) ?_
    refine jv_get (v := .int (jI n)) F hP 0 rfl flX1_15 rfl dX1_at_6 ?_
    refine jv_icmp_ge (tgt := 21) hx hb dX1_at_9 rfl (by omega) (by omega) (fun c9 => ?_) (fun c9 => ?_)
    · refine lv_iconst (v := jI (-1)) hx hb dX1_at_21 rfl ?_
      exact jR.ri F hQ rfl dX1_at_22 (by rw [atv_out (by omega)])
    · refine lv_aload_n hx hb dX1_at_12 rfl (lv_at hl 0 rfl) ?_
      refine jv_get (v := .ref a) F hP 0 rfl flX1_9 rfl dX1_at_13 ?_
      refine lv_iload_n hx hb dX1_at_16 rfl (lv_at hl 1 rfl) ?_
      refine jv_iald (fa := L) F hP 1 rfl (by omega) (by decide) dX1_at_17 ?_
      refine lv_goto (tgt := 22) hx hb dX1_at_18 rfl ?_
      exact jR.ri F hQ rfl dX1_at_22 (by rw [atv_in (by omega)])
