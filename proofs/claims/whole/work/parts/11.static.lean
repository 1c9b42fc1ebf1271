def plc (pr wh : Int) : Int := if pr = -1 ∨ (wh < 0 ∨ 1 < wh) then -1 else if wh = 0 then pr / 48 else pr % 48
theorem plc_n {pr wh : Int} (h : pr = -1 ∨ (wh < 0 ∨ 1 < wh)) : plc pr wh = -1 := if_pos h
theorem plc_0 {pr wh : Int} (h : pr ≠ -1) (h0 : wh = 0) : plc pr wh = pr / 48 := by subst h0; exact (if_neg (by omega)).trans (if_pos rfl)
theorem plc_1 {pr wh : Int} (h : pr ≠ -1) (h0 : wh = 1) : plc pr wh = pr % 48 := by subst h0; exact (if_neg (by omega)).trans (if_neg (by omega))
set_option maxHeartbeats 4000000 in
set_option maxRecDepth 100000 in
theorem kX4_isBetween (l : Launch) (D : va_G) (cA : ClassId) (x a b : Int) (hx0 : -2147483648 ≤ x ∧ x < 2147483648) (ha : -2147483648 ≤ a ∧ a < 2147483648) (hb0 : -2147483648 ≤ b ∧ b < 2147483648) : jR l YX4_isBetween (rmk 0 0 0 0) D cA [.int (jI x), .int (jI a), .int (jI b)] [] (fun v => ∃ z : Int, v = .int (jI z) ∧ (z = 1 ∧ a ≤ x ∧ x ≤ b ∨ z = 0 ∧ (x < a ∨ b < x))) := by
  refine jR.intro (by decide +kernel) (Nat.le_of_ble_eq_true rfl) ?_
  intro p e s m args below meth c ls Q F hQ hP hl
  have hx := F.1
  have hb := F.2.1
  have hl : lv_has ls 3 [(0, .int (jI x)), (1, .int (jI a)), (2, .int (jI b))] := hl
  refine lv_iload_n hx hb dX4_isBetween_0 rfl (lv_at hl 0 rfl) ?_
  refine lv_iload_n hx hb dX4_isBetween_1 rfl (lv_at hl 1 rfl) ?_
  refine jv_icmp_lt (tgt := 14) hx hb dX4_isBetween_2 rfl (by omega) (by omega) (fun c2 => ?_) (fun c2 => ?_)
  · refine lv_iconst (v := jI 0) hx hb dX4_isBetween_14 rfl ?_
    exact jR.rz F hQ rfl (by omega) dX4_isBetween_15 (by exact ⟨_, rfl, by omega⟩)
  · refine lv_iload_n hx hb dX4_isBetween_5 rfl (lv_at hl 0 rfl) ?_
    refine lv_iload_n hx hb dX4_isBetween_6 rfl (lv_at hl 2 rfl) ?_
    refine jv_icmp_gt (tgt := 14) hx hb dX4_isBetween_7 rfl (by omega) (by omega) (fun c7 => ?_) (fun c7 => ?_)
    · refine lv_iconst (v := jI 0) hx hb dX4_isBetween_14 rfl ?_
      exact jR.rz F hQ rfl (by omega) dX4_isBetween_15 (by exact ⟨_, rfl, by omega⟩)
    · refine lv_iconst (v := jI 1) hx hb dX4_isBetween_10 rfl ?_
      refine lv_goto (tgt := 15) hx hb dX4_isBetween_11 rfl ?_
      exact jR.rz F hQ rfl (by omega) dX4_isBetween_15 (by exact ⟨_, rfl, by omega⟩)
set_option maxHeartbeats 4000000 in
set_option maxRecDepth 100000 in
theorem kX4_pairOf (l : Launch) (D : va_G) (cA : ClassId) (i j : Int)  : jR l YX4_pairOf (rmk 0 0 0 0) D cA [.int (jI i), .int (jI j)] [] (fun v => v = .int (jI (i * 48 + j))) := by
  refine jR.intro (by decide +kernel) (Nat.le_of_ble_eq_true rfl) ?_
  intro p e s m args below meth c ls Q F hQ hP hl
  have hx := F.1
  have hb := F.2.1
  have hl : lv_has ls 2 [(0, .int (jI i)), (1, .int (jI j))] := hl
  refine lv_iload_n hx hb dX4_pairOf_0 rfl (lv_at hl 0 rfl) ?_
  refine lv_bipush (v := jI 48) hx hb dX4_pairOf_1 (by decide +kernel) ?_
  refine jv_imul hx hb dX4_pairOf_3 ?_
  refine lv_iload_n hx hb dX4_pairOf_4 rfl (lv_at hl 1 rfl) ?_
  refine jv_iadd hx hb dX4_pairOf_5 ?_
  exact jR.ri F hQ rfl dX4_pairOf_6 (by rfl)
set_option maxHeartbeats 4000000 in
set_option maxRecDepth 100000 in
theorem kX4_placeOf (l : Launch) (D : va_G) (cA : ClassId) (pr wh : Int) (hp : -1 ≤ pr ∧ pr < 2147483648) (hw : -2147483648 ≤ wh ∧ wh < 2147483648) : jR l YX4_placeOf (rmk 1 0 0 22) D cA [.int (jI pr), .int (jI wh)] [] (fun v => v = .int (jI (plc pr wh))) := by
  refine jR.intro (by decide +kernel) (Nat.le_of_ble_eq_true rfl) ?_
  intro p e s m args below meth c ls Q F hQ hP hl
  have hx := F.1
  have hb := F.2.1
  have hl : lv_has ls 2 [(0, .int (jI pr)), (1, .int (jI wh))] := hl
  refine lv_iload_n hx hb dX4_placeOf_0 rfl (lv_at hl 0 rfl) ?_
  refine lv_iconst (v := jI (-1)) hx hb dX4_placeOf_1 rfl ?_
  refine jv_icmp_eq (tgt := 14) hx hb dX4_placeOf_2 rfl (by omega) (by omega) (fun c2 => ?_) (fun c2 => ?_)
  · refine lv_iconst (v := jI (-1)) hx hb dX4_placeOf_14 rfl ?_
    exact jR.ri F hQ rfl dX4_placeOf_15 (by rw [plc_n (by omega)])
  · refine lv_iload_n hx hb dX4_placeOf_5 rfl (lv_at hl 1 rfl) ?_
    refine lv_iconst (v := jI 0) hx hb dX4_placeOf_6 rfl ?_
    refine lv_iconst (v := jI 1) hx hb dX4_placeOf_7 rfl ?_
    refine jr_S F (kX4_isBetween l D cA wh 0 1 (by omega) (by omega) (by omega)) csX4_54 hP [] rfl hl ⟨rfl, rfl, by decide, by decide⟩ rfl rfl (by decide) dX4_placeOf_8 ⟨by decide, by decide⟩ (fun v hv => ?_)
    obtain ⟨z8, rfl, hz8⟩ := hv
    refine jv_if_ne (tgt := 16) hx hb dX4_placeOf_11 rfl (by omega) (fun c11 => ?_) (fun c11 => ?_)
    · refine lv_iload_n hx hb dX4_placeOf_16 rfl (lv_at hl 1 rfl) ?_
      refine jv_if_ne (tgt := 27) hx hb dX4_placeOf_17 rfl (by omega) (fun c17 => ?_) (fun c17 => ?_)
      · refine lv_iload_n hx hb dX4_placeOf_27 rfl (lv_at hl 0 rfl) ?_
        refine lv_bipush (v := jI 48) hx hb dX4_placeOf_28 (by decide +kernel) ?_
        refine jv_irem hx hb dX4_placeOf_30 (by omega) (by omega) ?_
        exact jR.ri F hQ rfl dX4_placeOf_31 (by first | rw [plc_0 (by omega) (by omega)] | rw [plc_1 (by omega) (by omega)])
      · refine lv_iload_n hx hb dX4_placeOf_20 rfl (lv_at hl 0 rfl) ?_
        refine lv_bipush (v := jI 48) hx hb dX4_placeOf_21 (by decide +kernel) ?_
        refine jv_idiv hx hb dX4_placeOf_23 (by omega) (by omega) ?_
        refine lv_goto (tgt := 31) hx hb dX4_placeOf_24 rfl ?_
        exact jR.ri F hQ rfl dX4_placeOf_31 (by first | rw [plc_0 (by omega) (by omega)] | rw [plc_1 (by omega) (by omega)])
    · refine lv_iconst (v := jI (-1)) hx hb dX4_placeOf_14 rfl ?_
      exact jR.ri F hQ rfl dX4_placeOf_15 (by rw [plc_n (by omega)])
