set_option maxHeartbeats 4000000 in
set_option maxRecDepth 100000 in
theorem kX2_useScores (l : Launch) (D : va_G) (cA : ClassId) (re t2 t1 t0 : Nat) (ga lo gp li es ep eq al la : Int) (a1 a2 a3 a4 : Int)  : jM l YX2_useScores (rmk 0 0 0 0) D cA [.ref re, .int (jI a1), .int (jI a2), .int (jI a3), .int (jI a4)] [(re, .inr (2, [.int (jI ga), .int (jI lo), .int (jI gp), .int (jI li), .ref t2, .ref t1, .ref t0, .int (jI es), .int (jI ep), .int (jI eq), .int (jI al), .int (jI la)]))] (fun v w => v = none ∧ w = [(re, .inr (2, [.int (jI a1), .int (jI a2), .int (jI a3), .int (jI a4), .ref t2, .ref t1, .ref t0, .int (jI es), .int (jI ep), .int (jI eq), .int (jI al), .int (jI la)]))]) 0 0 := by
  refine jM.intro (by decide +kernel) (Nat.le_of_ble_eq_true rfl) ?_
  intro p e s m args below meth c ls Q A F hQ hA hP hD hS hl
  have hx := F.1
  have hb := F.2.1
  have hl : lv_has ls 5 [(0, .ref re), (1, .int (jI a1)), (2, .int (jI a2)), (3, .int (jI a3)), (4, .int (jI a4))] := hl
  refine lv_aload_n hx hb dX2_useScores_0 rfl (lv_at hl 0 rfl) ?_
  refine lv_iload_n hx hb dX2_useScores_1 rfl (lv_at hl 1 rfl) ?_
  refine jv_put (v := .int (jI a1)) F hP hD hS 0 rfl flX2_9 pfX2 (by decide +kernel) rfl rfl (Nat.le_of_ble_eq_true rfl) dX2_useScores_2 (fun H locs hP hD hS => ?_)
  have hP : va_P D cls [(re, .inr (2, [.int (jI a1), .int (jI lo), .int (jI gp), .int (jI li), .ref t2, .ref t1, .ref t0, .int (jI es), .int (jI ep), .int (jI eq), .int (jI al), .int (jI la)]))] H := hP
  have hD : va_D A [(re, .inr (2, [.int (jI a1), .int (jI lo), .int (jI gp), .int (jI li), .ref t2, .ref t1, .ref t0, .int (jI es), .int (jI ep), .int (jI eq), .int (jI al), .int (jI la)]))] := hD
  refine lv_aload_n hx hb dX2_useScores_5 rfl (lv_at hl 0 rfl) ?_
  refine lv_iload_n hx hb dX2_useScores_6 rfl (lv_at hl 2 rfl) ?_
  refine jv_put (v := .int (jI a2)) F hP hD hS 0 rfl flX2_15 pfX2 (by decide +kernel) rfl rfl (Nat.le_of_ble_eq_true rfl) dX2_useScores_7 (fun H locs hP hD hS => ?_)
  have hP : va_P D cls [(re, .inr (2, [.int (jI a1), .int (jI a2), .int (jI gp), .int (jI li), .ref t2, .ref t1, .ref t0, .int (jI es), .int (jI ep), .int (jI eq), .int (jI al), .int (jI la)]))] H := hP
  have hD : va_D A [(re, .inr (2, [.int (jI a1), .int (jI a2), .int (jI gp), .int (jI li), .ref t2, .ref t1, .ref t0, .int (jI es), .int (jI ep), .int (jI eq), .int (jI al), .int (jI la)]))] := hD
  refine lv_aload_n hx hb dX2_useScores_10 rfl (lv_at hl 0 rfl) ?_
  refine lv_iload_n hx hb dX2_useScores_11 rfl (lv_at hl 3 rfl) ?_
  refine jv_put (v := .int (jI a3)) F hP hD hS 0 rfl flX2_18 pfX2 (by decide +kernel) rfl rfl (Nat.le_of_ble_eq_true rfl) dX2_useScores_12 (fun H locs hP hD hS => ?_)
  have hP : va_P D cls [(re, .inr (2, [.int (jI a1), .int (jI a2), .int (jI a3), .int (jI li), .ref t2, .ref t1, .ref t0, .int (jI es), .int (jI ep), .int (jI eq), .int (jI al), .int (jI la)]))] H := hP
  have hD : va_D A [(re, .inr (2, [.int (jI a1), .int (jI a2), .int (jI a3), .int (jI li), .ref t2, .ref t1, .ref t0, .int (jI es), .int (jI ep), .int (jI eq), .int (jI al), .int (jI la)]))] := hD
  refine lv_aload_n hx hb dX2_useScores_15 rfl (lv_at hl 0 rfl) ?_
  refine lv_iload hx hb dX2_useScores_16 (lv_at hl 4 rfl) ?_
  refine jv_put (v := .int (jI a4)) F hP hD hS 0 rfl flX2_21 pfX2 (by decide +kernel) rfl rfl (Nat.le_of_ble_eq_true rfl) dX2_useScores_18 (fun H locs hP hD hS => ?_)
  have hP : va_P D cls [(re, .inr (2, [.int (jI a1), .int (jI a2), .int (jI a3), .int (jI a4), .ref t2, .ref t1, .ref t0, .int (jI es), .int (jI ep), .int (jI eq), .int (jI al), .int (jI la)]))] H := hP
  have hD : va_D A [(re, .inr (2, [.int (jI a1), .int (jI a2), .int (jI a3), .int (jI a4), .ref t2, .ref t1, .ref t0, .int (jI es), .int (jI ep), .int (jI eq), .int (jI al), .int (jI la)]))] := hD
  exact jM.rv F hQ rfl dX2_useScores_21 hS hP hD (by exact ⟨rfl, rfl⟩)
set_option maxHeartbeats 4000000 in
set_option maxRecDepth 100000 in
theorem kX2_endScore (l : Launch) (D : va_G) (cA : ClassId) (re t2 t1 t0 : Nat) (ga lo gp li es ep eq al la : Int)  : jR l YX2_endScore (rmk 0 0 0 0) D cA [.ref re] [(re, .inr (2, [.int (jI ga), .int (jI lo), .int (jI gp), .int (jI li), .ref t2, .ref t1, .ref t0, .int (jI es), .int (jI ep), .int (jI eq), .int (jI al), .int (jI la)]))] (fun v => v = .int (jI es)) := by
  refine jR.intro (by decide +kernel) (Nat.le_of_ble_eq_true rfl) ?_
  intro p e s m args below meth c ls Q F hQ hP hl
  have hx := F.1
  have hb := F.2.1
  have hl : lv_has ls 1 [(0, .ref re)] := hl
  refine lv_aload_n hx hb dX2_endScore_0 rfl (lv_at hl 0 rfl) ?_
  refine jv_get (v := .int (jI es)) F hP 0 rfl flX2_34 rfl dX2_endScore_1 ?_
  exact jR.ri F hQ rfl dX2_endScore_4 (by rfl)
set_option maxHeartbeats 4000000 in
set_option maxRecDepth 100000 in
theorem kX4_rowOf_0 (l : Launch) (D : va_G) (cA : ClassId) (h4 r0 r1 sp be re : Nat) (g fr : Int)  : jR l YX4_rowOf (rmk 0 0 0 0) D cA [.ref h4, .int (jI 0)] [(h4, .inr (4, [.ref r0, .ref r1, .ref sp, .ref be, .ref re, .int (jI g), .int (jI fr)]))] (fun v => v = .ref r0) := by
  refine jR.intro (by decide +kernel) (Nat.le_of_ble_eq_true rfl) ?_
  intro p e s m args below meth c ls Q F hQ hP hl
  have hx := F.1
  have hb := F.2.1
  have hl : lv_has ls 2 [(0, .ref h4), (1, .int (jI 0))] := hl
  refine lv_iload_n hx hb dX4_rowOf_0 rfl (lv_at hl 1 rfl) ?_
  refine jv_if_ne (tgt := 9) hx hb dX4_rowOf_1 rfl (by omega) (fun c1 => ?_) (fun c1 => ?_)
  · exfalso
    omega
  · refine lv_aload_n hx hb dX4_rowOf_4 rfl (lv_at hl 0 rfl) ?_
    refine jv_get (v := .ref r0) F hP 0 rfl flX4_10 rfl dX4_rowOf_5 ?_
    exact jR.ra F hQ rfl dX4_rowOf_8 (by rfl)
set_option maxHeartbeats 4000000 in
set_option maxRecDepth 100000 in
theorem kX4_rowOf_1 (l : Launch) (D : va_G) (cA : ClassId) (h4 r0 r1 sp be re : Nat) (g fr : Int)  : jR l YX4_rowOf (rmk 0 0 0 0) D cA [.ref h4, .int (jI 1)] [(h4, .inr (4, [.ref r0, .ref r1, .ref sp, .ref be, .ref re, .int (jI g), .int (jI fr)]))] (fun v => v = .ref r1) := by
  refine jR.intro (by decide +kernel) (Nat.le_of_ble_eq_true rfl) ?_
  intro p e s m args below meth c ls Q F hQ hP hl
  have hx := F.1
  have hb := F.2.1
  have hl : lv_has ls 2 [(0, .ref h4), (1, .int (jI 1))] := hl
  refine lv_iload_n hx hb dX4_rowOf_0 rfl (lv_at hl 1 rfl) ?_
  refine jv_if_ne (tgt := 9) hx hb dX4_rowOf_1 rfl (by omega) (fun c1 => ?_) (fun c1 => ?_)
  · refine lv_iload_n hx hb dX4_rowOf_9 rfl (lv_at hl 1 rfl) ?_
    refine lv_iconst (v := jI 1) hx hb dX4_rowOf_10 rfl ?_
    refine jv_icmp_ne (tgt := 21) hx hb dX4_rowOf_11 rfl (by omega) (by omega) (fun c11 => ?_) (fun c11 => ?_)
    · exfalso
      omega
    · refine lv_aload_n hx hb dX4_rowOf_14 rfl (lv_at hl 0 rfl) ?_
      refine jv_get (v := .ref r1) F hP 0 rfl flX4_16 rfl dX4_rowOf_15 ?_
      refine lv_goto (tgt := 22) hx hb dX4_rowOf_18 rfl ?_
      exact jR.ra F hQ rfl dX4_rowOf_22 (by rfl)
  · exfalso
    omega
set_option maxHeartbeats 4000000 in
set_option maxRecDepth 100000 in
theorem kX4_rowOf_n (l : Launch) (D : va_G) (cA : ClassId) (h4 r0 r1 sp be re : Nat) (g fr : Int) (row : Int) (hr : row ≠ 0 ∧ row ≠ 1) (hr2 : -2147483648 ≤ row ∧ row < 2147483648) : jR l YX4_rowOf (rmk 0 0 0 0) D cA [.ref h4, .int (jI row)] [(h4, .inr (4, [.ref r0, .ref r1, .ref sp, .ref be, .ref re, .int (jI g), .int (jI fr)]))] (fun v => v = .null) := by
  refine jR.intro (by decide +kernel) (Nat.le_of_ble_eq_true rfl) ?_
  intro p e s m args below meth c ls Q F hQ hP hl
  have hx := F.1
  have hb := F.2.1
  have hl : lv_has ls 2 [(0, .ref h4), (1, .int (jI row))] := hl
  refine lv_iload_n hx hb dX4_rowOf_0 rfl (lv_at hl 1 rfl) ?_
  refine jv_if_ne (tgt := 9) hx hb dX4_rowOf_1 rfl (by omega) (fun c1 => ?_) (fun c1 => ?_)
  · refine lv_iload_n hx hb dX4_rowOf_9 rfl (lv_at hl 1 rfl) ?_
    refine lv_iconst (v := jI 1) hx hb dX4_rowOf_10 rfl ?_
    refine jv_icmp_ne (tgt := 21) hx hb dX4_rowOf_11 rfl (by omega) (by omega) (fun c11 => ?_) (fun c11 => ?_)
    · refine lv_null hx hb dX4_rowOf_21 ?_
      exact jR.rn F hQ rfl dX4_rowOf_22 (by rfl)
    · exfalso
      omega
  · exfalso
    omega
set_option maxHeartbeats 4000000 in
set_option maxRecDepth 100000 in
theorem kX4_put_0 (l : Launch) (D : va_G) (cA : ClassId) (h4 r0 r1 sp be re : Nat) (g fr : Int) (a0 : Nat) (n : Int) (L : Int → Int) (x : Int) (hn : 0 ≤ n ∧ n ≤ 48) (hx0 : -2147483648 ≤ x ∧ x < 2147483648) : jM l YX4_put (rmk 2 0 0 41) D cA [.ref h4, .int (jI 0), .int (jI x)] [(h4, .inr (4, [.ref r0, .ref r1, .ref sp, .ref be, .ref re, .int (jI g), .int (jI fr)])), (r0, .inr (1, [.ref a0, .int (jI n)])), (a0, .inl (cA, 48, .inl (jA L)))] (fun v w => ((0 ≤ x ∧ x ≤ 3 ∧ n < 48) ∧ v = some (.int (jI (n + 1))) ∧ w = [(h4, .inr (4, [.ref r0, .ref r1, .ref sp, .ref be, .ref re, .int (jI g), .int (jI 0)])), (r0, .inr (1, [.ref a0, .int (jI (n + 1))])), (a0, .inl (cA, 48, .inl (jA (jU L n x))))]) ∨ (¬ (0 ≤ x ∧ x ≤ 3 ∧ n < 48) ∧ v = some (.int (jI (-1))) ∧ w = [(h4, .inr (4, [.ref r0, .ref r1, .ref sp, .ref be, .ref re, .int (jI g), .int (jI fr)])), (r0, .inr (1, [.ref a0, .int (jI n)])), (a0, .inl (cA, 48, .inl (jA L)))])) 0 0 := by
  refine jM.intro (by decide +kernel) (Nat.le_of_ble_eq_true rfl) ?_
  intro p e s m args below meth c ls Q A F hQ hA hP hD hS hl
  have hx := F.1
  have hb := F.2.1
  have hl : lv_has ls 4 [(0, .ref h4), (1, .int (jI 0)), (2, .int (jI x))] := hl
  refine lv_aload_n hx hb dX4_put_0 rfl (lv_at hl 0 rfl) ?_
  refine lv_iload_n hx hb dX4_put_1 rfl (lv_at hl 1 rfl) ?_
  refine jr_V F (kX4_rowOf_0 l D cA h4 r0 r1 sp be re g fr) cvX4_50 hP [0] rfl 0 rfl rfl hl ⟨rfl, rfl, by decide, by decide⟩ rfl rfl (Nat.le_of_ble_eq_true rfl) dX4_put_2 ⟨by decide, by decide⟩ (fun v hv => ?_)
  subst hv
  refine lv_astore_n (lv' := [(3, .ref r0), (0, .ref h4), (1, .int (jI 0)), (2, .int (jI x))]) hx hb dX4_put_5 rfl hl (by decide) rfl (fun ls hl => ?_)
  refine lv_aload_n hx hb dX4_put_6 rfl (lv_at hl 0 rfl) ?_
  refine lv_ifnull hx hb dX4_put_7 ?_
  refine lv_iload_n hx hb dX4_put_10 rfl (lv_at hl 3 rfl) ?_
  refine lv_iconst (v := jI 0) hx hb dX4_put_11 rfl ?_
  refine lv_iconst (v := jI 3) hx hb dX4_put_12 rfl ?_
  refine jr_S F (kX4_isBetween l D cA x 0 3 (by omega) (by omega) (by omega)) csX4_54 hP [] rfl hl ⟨rfl, rfl, by decide, by decide⟩ rfl rfl (Nat.le_of_ble_eq_true rfl) dX4_put_13 ⟨by decide, by decide⟩ (fun v hv => ?_)
  obtain ⟨z13, rfl, hz13⟩ := hv
  refine jv_if_eq (tgt := 26) hx hb dX4_put_16 rfl (by omega) (fun c16 => ?_) (fun c16 => ?_)
  · refine lv_iconst (v := jI (-1)) hx hb dX4_put_26 rfl ?_
    exact jM.ri F hQ rfl dX4_put_27 hS hP hD (by exact Or.inr ⟨by omega, rfl, rfl⟩)
  · refine lv_aload_n hx hb dX4_put_19 rfl (lv_at hl 0 rfl) ?_
    refine jr_V F (kX1_isFull l D cA r0 a0 n L (by omega)) cvX4_58 hP [1, 2] rfl 1 rfl rfl hl ⟨rfl, rfl, by decide, by decide⟩ rfl rfl (Nat.le_of_ble_eq_true rfl) dX4_put_20 ⟨by decide, by decide⟩ (fun v hv => ?_)
    obtain ⟨z20, rfl, hz20⟩ := hv
    refine jv_if_eq (tgt := 28) hx hb dX4_put_23 rfl (by omega) (fun c23 => ?_) (fun c23 => ?_)
    · refine lv_aload_n hx hb dX4_put_28 rfl (lv_at hl 1 rfl) ?_
      refine lv_iconst (v := jI 0) hx hb dX4_put_29 rfl ?_
      refine jv_put (v := .int (jI 0)) F hP hD hS 0 rfl flX4_46 pfX4 (by decide +kernel) (by decide +kernel) (by decide +kernel) (Nat.le_of_ble_eq_true rfl) dX4_put_30 (fun H locs hP hD hS => ?_)
      have hP : va_P D cls [(h4, .inr (4, [.ref r0, .ref r1, .ref sp, .ref be, .ref re, .int (jI g), .int (jI 0)])), (r0, .inr (1, [.ref a0, .int (jI n)])), (a0, .inl (cA, 48, .inl (jA L)))] H := hP
      have hD : va_D A [(h4, .inr (4, [.ref r0, .ref r1, .ref sp, .ref be, .ref re, .int (jI g), .int (jI 0)])), (r0, .inr (1, [.ref a0, .int (jI n)])), (a0, .inl (cA, 48, .inl (jA L)))] := hD
      refine lv_aload_n hx hb dX4_put_33 rfl (lv_at hl 0 rfl) ?_
      refine lv_iload_n hx hb dX4_put_34 rfl (lv_at hl 3 rfl) ?_
      refine jw_V (wr := [(h4, .inr (4, [.ref r0, .ref r1, .ref sp, .ref be, .ref re, .int (jI g), .int (jI 0)]))]) F (kX1_append l D cA r0 a0 n L x (by omega)) cvX4_62 hP hD hS hA [1, 2] [0] rfl rfl (by decide) (by decide) 1 rfl rfl hl ⟨rfl, rfl, by decide, by decide⟩ rfl rfl (Nat.le_of_ble_eq_true rfl) dX4_put_35 ⟨by decide, by decide⟩ (by decide) (fun v w1 H locs hw hP hD hS => ?_)
      obtain ⟨rfl, rfl⟩ := hw
      have hP : va_P D cls [(h4, .inr (4, [.ref r0, .ref r1, .ref sp, .ref be, .ref re, .int (jI g), .int (jI 0)])), (r0, .inr (1, [.ref a0, .int (jI (n + 1))])), (a0, .inl (cA, 48, .inl (jA (jU L n x))))] H := hP
      have hD : va_D A [(h4, .inr (4, [.ref r0, .ref r1, .ref sp, .ref be, .ref re, .int (jI g), .int (jI 0)])), (r0, .inr (1, [.ref a0, .int (jI (n + 1))])), (a0, .inl (cA, 48, .inl (jA (jU L n x))))] := hD
      refine W.eq (g2 := F0 m 38 ls []) rfl ?_
      refine lv_aload_n hx hb dX4_put_38 rfl (lv_at hl 0 rfl) ?_
      refine jr_V F (kX1_size l D cA r0 a0 (n + 1) (jU L n x)) cvX4_66 hP [1, 2] rfl 1 rfl rfl hl ⟨rfl, rfl, by decide, by decide⟩ rfl rfl (Nat.le_of_ble_eq_true rfl) dX4_put_39 ⟨by decide, by decide⟩ (fun v hv => ?_)
      subst hv
      exact jM.ri F hQ rfl dX4_put_42 hS hP hD (by exact Or.inl ⟨by omega, rfl, rfl⟩)
    · refine lv_iconst (v := jI (-1)) hx hb dX4_put_26 rfl ?_
      exact jM.ri F hQ rfl dX4_put_27 hS hP hD (by exact Or.inr ⟨by omega, rfl, rfl⟩)
set_option maxHeartbeats 4000000 in
set_option maxRecDepth 100000 in
theorem kX4_put_1 (l : Launch) (D : va_G) (cA : ClassId) (h4 r0 r1 sp be re : Nat) (g fr : Int) (a1 : Nat) (n : Int) (L : Int → Int) (x : Int) (hn : 0 ≤ n ∧ n ≤ 48) (hx0 : -2147483648 ≤ x ∧ x < 2147483648) : jM l YX4_put (rmk 2 0 0 41) D cA [.ref h4, .int (jI 1), .int (jI x)] [(h4, .inr (4, [.ref r0, .ref r1, .ref sp, .ref be, .ref re, .int (jI g), .int (jI fr)])), (r1, .inr (1, [.ref a1, .int (jI n)])), (a1, .inl (cA, 48, .inl (jA L)))] (fun v w => ((0 ≤ x ∧ x ≤ 3 ∧ n < 48) ∧ v = some (.int (jI (n + 1))) ∧ w = [(h4, .inr (4, [.ref r0, .ref r1, .ref sp, .ref be, .ref re, .int (jI g), .int (jI 0)])), (r1, .inr (1, [.ref a1, .int (jI (n + 1))])), (a1, .inl (cA, 48, .inl (jA (jU L n x))))]) ∨ (¬ (0 ≤ x ∧ x ≤ 3 ∧ n < 48) ∧ v = some (.int (jI (-1))) ∧ w = [(h4, .inr (4, [.ref r0, .ref r1, .ref sp, .ref be, .ref re, .int (jI g), .int (jI fr)])), (r1, .inr (1, [.ref a1, .int (jI n)])), (a1, .inl (cA, 48, .inl (jA L)))])) 0 0 := by
  refine jM.intro (by decide +kernel) (Nat.le_of_ble_eq_true rfl) ?_
  intro p e s m args below meth c ls Q A F hQ hA hP hD hS hl
  have hx := F.1
  have hb := F.2.1
  have hl : lv_has ls 4 [(0, .ref h4), (1, .int (jI 1)), (2, .int (jI x))] := hl
  refine lv_aload_n hx hb dX4_put_0 rfl (lv_at hl 0 rfl) ?_
  refine lv_iload_n hx hb dX4_put_1 rfl (lv_at hl 1 rfl) ?_
  refine jr_V F (kX4_rowOf_1 l D cA h4 r0 r1 sp be re g fr) cvX4_50 hP [0] rfl 0 rfl rfl hl ⟨rfl, rfl, by decide, by decide⟩ rfl rfl (Nat.le_of_ble_eq_true rfl) dX4_put_2 ⟨by decide, by decide⟩ (fun v hv => ?_)
  subst hv
  refine lv_astore_n (lv' := [(3, .ref r1), (0, .ref h4), (1, .int (jI 1)), (2, .int (jI x))]) hx hb dX4_put_5 rfl hl (by decide) rfl (fun ls hl => ?_)
  refine lv_aload_n hx hb dX4_put_6 rfl (lv_at hl 0 rfl) ?_
  refine lv_ifnull hx hb dX4_put_7 ?_
  refine lv_iload_n hx hb dX4_put_10 rfl (lv_at hl 3 rfl) ?_
  refine lv_iconst (v := jI 0) hx hb dX4_put_11 rfl ?_
  refine lv_iconst (v := jI 3) hx hb dX4_put_12 rfl ?_
  refine jr_S F (kX4_isBetween l D cA x 0 3 (by omega) (by omega) (by omega)) csX4_54 hP [] rfl hl ⟨rfl, rfl, by decide, by decide⟩ rfl rfl (Nat.le_of_ble_eq_true rfl) dX4_put_13 ⟨by decide, by decide⟩ (fun v hv => ?_)
  obtain ⟨z13, rfl, hz13⟩ := hv
  refine jv_if_eq (tgt := 26) hx hb dX4_put_16 rfl (by omega) (fun c16 => ?_) (fun c16 => ?_)
  · refine lv_iconst (v := jI (-1)) hx hb dX4_put_26 rfl ?_
    exact jM.ri F hQ rfl dX4_put_27 hS hP hD (by exact Or.inr ⟨by omega, rfl, rfl⟩)
  · refine lv_aload_n hx hb dX4_put_19 rfl (lv_at hl 0 rfl) ?_
    refine jr_V F (kX1_isFull l D cA r1 a1 n L (by omega)) cvX4_58 hP [1, 2] rfl 1 rfl rfl hl ⟨rfl, rfl, by decide, by decide⟩ rfl rfl (Nat.le_of_ble_eq_true rfl) dX4_put_20 ⟨by decide, by decide⟩ (fun v hv => ?_)
    obtain ⟨z20, rfl, hz20⟩ := hv
    refine jv_if_eq (tgt := 28) hx hb dX4_put_23 rfl (by omega) (fun c23 => ?_) (fun c23 => ?_)
    · refine lv_aload_n hx hb dX4_put_28 rfl (lv_at hl 1 rfl) ?_
      refine lv_iconst (v := jI 0) hx hb dX4_put_29 rfl ?_
      refine jv_put (v := .int (jI 0)) F hP hD hS 0 rfl flX4_46 pfX4 (by decide +kernel) (by decide +kernel) (by decide +kernel) (Nat.le_of_ble_eq_true rfl) dX4_put_30 (fun H locs hP hD hS => ?_)
      have hP : va_P D cls [(h4, .inr (4, [.ref r0, .ref r1, .ref sp, .ref be, .ref re, .int (jI g), .int (jI 0)])), (r1, .inr (1, [.ref a1, .int (jI n)])), (a1, .inl (cA, 48, .inl (jA L)))] H := hP
      have hD : va_D A [(h4, .inr (4, [.ref r0, .ref r1, .ref sp, .ref be, .ref re, .int (jI g), .int (jI 0)])), (r1, .inr (1, [.ref a1, .int (jI n)])), (a1, .inl (cA, 48, .inl (jA L)))] := hD
      refine lv_aload_n hx hb dX4_put_33 rfl (lv_at hl 0 rfl) ?_
      refine lv_iload_n hx hb dX4_put_34 rfl (lv_at hl 3 rfl) ?_
      refine jw_V (wr := [(h4, .inr (4, [.ref r0, .ref r1, .ref sp, .ref be, .ref re, .int (jI g), .int (jI 0)]))]) F (kX1_append l D cA r1 a1 n L x (by omega)) cvX4_62 hP hD hS hA [1, 2] [0] rfl rfl (by decide) (by decide) 1 rfl rfl hl ⟨rfl, rfl, by decide, by decide⟩ rfl rfl (Nat.le_of_ble_eq_true rfl) dX4_put_35 ⟨by decide, by decide⟩ (by decide) (fun v w1 H locs hw hP hD hS => ?_)
      obtain ⟨rfl, rfl⟩ := hw
      have hP : va_P D cls [(h4, .inr (4, [.ref r0, .ref r1, .ref sp, .ref be, .ref re, .int (jI g), .int (jI 0)])), (r1, .inr (1, [.ref a1, .int (jI (n + 1))])), (a1, .inl (cA, 48, .inl (jA (jU L n x))))] H := hP
      have hD : va_D A [(h4, .inr (4, [.ref r0, .ref r1, .ref sp, .ref be, .ref re, .int (jI g), .int (jI 0)])), (r1, .inr (1, [.ref a1, .int (jI (n + 1))])), (a1, .inl (cA, 48, .inl (jA (jU L n x))))] := hD
      refine W.eq (g2 := F0 m 38 ls []) rfl ?_
      refine lv_aload_n hx hb dX4_put_38 rfl (lv_at hl 0 rfl) ?_
      refine jr_V F (kX1_size l D cA r1 a1 (n + 1) (jU L n x)) cvX4_66 hP [1, 2] rfl 1 rfl rfl hl ⟨rfl, rfl, by decide, by decide⟩ rfl rfl (Nat.le_of_ble_eq_true rfl) dX4_put_39 ⟨by decide, by decide⟩ (fun v hv => ?_)
      subst hv
      exact jM.ri F hQ rfl dX4_put_42 hS hP hD (by exact Or.inl ⟨by omega, rfl, rfl⟩)
    · refine lv_iconst (v := jI (-1)) hx hb dX4_put_26 rfl ?_
      exact jM.ri F hQ rfl dX4_put_27 hS hP hD (by exact Or.inr ⟨by omega, rfl, rfl⟩)
set_option maxHeartbeats 4000000 in
set_option maxRecDepth 100000 in
theorem kX4_put_n (l : Launch) (D : va_G) (cA : ClassId) (h4 r0 r1 sp be re : Nat) (g fr : Int) (row : Int) (x : Int) (hr : row ≠ 0 ∧ row ≠ 1) (hr2 : -2147483648 ≤ row ∧ row < 2147483648) (hx0 : -2147483648 ≤ x ∧ x < 2147483648) : jM l YX4_put (rmk 1 0 0 21) D cA [.ref h4, .int (jI row), .int (jI x)] [(h4, .inr (4, [.ref r0, .ref r1, .ref sp, .ref be, .ref re, .int (jI g), .int (jI fr)]))] (fun v w => v = some (.int (jI (-1))) ∧ w = [(h4, .inr (4, [.ref r0, .ref r1, .ref sp, .ref be, .ref re, .int (jI g), .int (jI fr)]))]) 0 0 := by
  refine jM.intro (by decide +kernel) (Nat.le_of_ble_eq_true rfl) ?_
  intro p e s m args below meth c ls Q A F hQ hA hP hD hS hl
  have hx := F.1
  have hb := F.2.1
  have hl : lv_has ls 4 [(0, .ref h4), (1, .int (jI row)), (2, .int (jI x))] := hl
  refine lv_aload_n hx hb dX4_put_0 rfl (lv_at hl 0 rfl) ?_
  refine lv_iload_n hx hb dX4_put_1 rfl (lv_at hl 1 rfl) ?_
  refine jr_V F (kX4_rowOf_n l D cA h4 r0 r1 sp be re g fr row (by omega) (by omega)) cvX4_50 hP [0] rfl 0 rfl rfl hl ⟨rfl, rfl, by decide, by decide⟩ rfl rfl (Nat.le_of_ble_eq_true rfl) dX4_put_2 ⟨by decide, by decide⟩ (fun v hv => ?_)
  subst hv
  refine lv_astore_nN (lv' := [(3, .null), (0, .ref h4), (1, .int (jI row)), (2, .int (jI x))]) hx hb dX4_put_5 rfl hl (by decide) rfl (fun ls hl => ?_)
  refine lv_aload_nN hx hb dX4_put_6 rfl (lv_at hl 0 rfl) ?_
  refine lv_ifnullN (tgt := 26) hx hb dX4_put_7 rfl ?_
  refine lv_iconst (v := jI (-1)) hx hb dX4_put_26 rfl ?_
  exact jM.ri F hQ rfl dX4_put_27 hS hP hD (by exact ⟨rfl, rfl⟩)
set_option maxHeartbeats 4000000 in
set_option maxRecDepth 100000 in
theorem kX4_cut_0 (l : Launch) (D : va_G) (cA : ClassId) (h4 r0 r1 sp be re : Nat) (g fr : Int) (a0 : Nat) (n : Int) (L : Int → Int) (hn : 0 ≤ n ∧ n ≤ 48) : jM l YX4_cut (rmk 1 0 0 21) D cA [.ref h4, .int (jI 0)] [(h4, .inr (4, [.ref r0, .ref r1, .ref sp, .ref be, .ref re, .int (jI g), .int (jI fr)])), (r0, .inr (1, [.ref a0, .int (jI n)])), (a0, .inl (cA, 48, .inl (jA L)))] (fun v w => (0 < n ∧ v = some (.int (jI (L (n - 1)))) ∧ w = [(h4, .inr (4, [.ref r0, .ref r1, .ref sp, .ref be, .ref re, .int (jI g), .int (jI 0)])), (r0, .inr (1, [.ref a0, .int (jI (n - 1))])), (a0, .inl (cA, 48, .inl (jA L)))]) ∨ (n = 0 ∧ v = some (.int (jI (-1))) ∧ w = [(h4, .inr (4, [.ref r0, .ref r1, .ref sp, .ref be, .ref re, .int (jI g), .int (jI fr)])), (r0, .inr (1, [.ref a0, .int (jI n)])), (a0, .inl (cA, 48, .inl (jA L)))])) 0 0 := by
  refine jM.intro (by decide +kernel) (Nat.le_of_ble_eq_true rfl) ?_
  intro p e s m args below meth c ls Q A F hQ hA hP hD hS hl
  have hx := F.1
  have hb := F.2.1
  have hl : lv_has ls 3 [(0, .ref h4), (1, .int (jI 0))] := hl
  refine lv_aload_n hx hb dX4_cut_0 rfl (lv_at hl 0 rfl) ?_
  refine lv_iload_n hx hb dX4_cut_1 rfl (lv_at hl 1 rfl) ?_
  refine jr_V F (kX4_rowOf_0 l D cA h4 r0 r1 sp be re g fr) cvX4_50 hP [0] rfl 0 rfl rfl hl ⟨rfl, rfl, by decide, by decide⟩ rfl rfl (Nat.le_of_ble_eq_true rfl) dX4_cut_2 ⟨by decide, by decide⟩ (fun v hv => ?_)
  subst hv
  refine lv_astore_n (lv' := [(2, .ref r0), (0, .ref h4), (1, .int (jI 0))]) hx hb dX4_cut_5 rfl hl (by decide) rfl (fun ls hl => ?_)
  refine lv_aload_n hx hb dX4_cut_6 rfl (lv_at hl 0 rfl) ?_
  refine lv_ifnull hx hb dX4_cut_7 ?_
  refine lv_aload_n hx hb dX4_cut_10 rfl (lv_at hl 0 rfl) ?_
  refine jr_V F (kX1_size l D cA r0 a0 n L) cvX4_66 hP [1, 2] rfl 1 rfl rfl hl ⟨rfl, rfl, by decide, by decide⟩ rfl rfl (Nat.le_of_ble_eq_true rfl) dX4_cut_11 ⟨by decide, by decide⟩ (fun v hv => ?_)
  subst hv
  refine jv_if_ne (tgt := 19) hx hb dX4_cut_14 rfl (by omega) (fun c14 => ?_) (fun c14 => ?_)
  · refine lv_aload_n hx hb dX4_cut_19 rfl (lv_at hl 1 rfl) ?_
    refine lv_iconst (v := jI 0) hx hb dX4_cut_20 rfl ?_
    refine jv_put (v := .int (jI 0)) F hP hD hS 0 rfl flX4_46 pfX4 (by decide +kernel) (by decide +kernel) (by decide +kernel) (Nat.le_of_ble_eq_true rfl) dX4_cut_21 (fun H locs hP hD hS => ?_)
    have hP : va_P D cls [(h4, .inr (4, [.ref r0, .ref r1, .ref sp, .ref be, .ref re, .int (jI g), .int (jI 0)])), (r0, .inr (1, [.ref a0, .int (jI n)])), (a0, .inl (cA, 48, .inl (jA L)))] H := hP
    have hD : va_D A [(h4, .inr (4, [.ref r0, .ref r1, .ref sp, .ref be, .ref re, .int (jI g), .int (jI 0)])), (r0, .inr (1, [.ref a0, .int (jI n)])), (a0, .inl (cA, 48, .inl (jA L)))] := hD
    refine lv_aload_n hx hb dX4_cut_24 rfl (lv_at hl 0 rfl) ?_
    refine jw_V (wr := [(h4, .inr (4, [.ref r0, .ref r1, .ref sp, .ref be, .ref re, .int (jI g), .int (jI 0)]))]) F (kX1_dropLast l D cA r0 a0 n L (by omega)) cvX4_70 hP hD hS hA [1, 2] [0] rfl rfl (by decide) (by decide) 1 rfl rfl hl ⟨rfl, rfl, by decide, by decide⟩ rfl rfl (Nat.le_of_ble_eq_true rfl) dX4_cut_25 ⟨by decide, by decide⟩ (by decide) (fun v w1 H locs hw hP hD hS => ?_)
    obtain ⟨rfl, rfl⟩ := hw
    have hP : va_P D cls [(h4, .inr (4, [.ref r0, .ref r1, .ref sp, .ref be, .ref re, .int (jI g), .int (jI 0)])), (r0, .inr (1, [.ref a0, .int (jI (n - 1))])), (a0, .inl (cA, 48, .inl (jA L)))] H := hP
    have hD : va_D A [(h4, .inr (4, [.ref r0, .ref r1, .ref sp, .ref be, .ref re, .int (jI g), .int (jI 0)])), (r0, .inr (1, [.ref a0, .int (jI (n - 1))])), (a0, .inl (cA, 48, .inl (jA L)))] := hD
    refine W.eq (g2 := F0 m 28 ls [.int (jI (L (n - 1)))]) rfl ?_
    exact jM.ri F hQ rfl dX4_cut_28 hS hP hD (by exact Or.inl ⟨by omega, rfl, rfl⟩)
  · refine lv_iconst (v := jI (-1)) hx hb dX4_cut_17 rfl ?_
    exact jM.ri F hQ rfl dX4_cut_18 hS hP hD (by exact Or.inr ⟨by omega, rfl, rfl⟩)
set_option maxHeartbeats 4000000 in
set_option maxRecDepth 100000 in
theorem kX4_cut_1 (l : Launch) (D : va_G) (cA : ClassId) (h4 r0 r1 sp be re : Nat) (g fr : Int) (a1 : Nat) (n : Int) (L : Int → Int) (hn : 0 ≤ n ∧ n ≤ 48) : jM l YX4_cut (rmk 1 0 0 21) D cA [.ref h4, .int (jI 1)] [(h4, .inr (4, [.ref r0, .ref r1, .ref sp, .ref be, .ref re, .int (jI g), .int (jI fr)])), (r1, .inr (1, [.ref a1, .int (jI n)])), (a1, .inl (cA, 48, .inl (jA L)))] (fun v w => (0 < n ∧ v = some (.int (jI (L (n - 1)))) ∧ w = [(h4, .inr (4, [.ref r0, .ref r1, .ref sp, .ref be, .ref re, .int (jI g), .int (jI 0)])), (r1, .inr (1, [.ref a1, .int (jI (n - 1))])), (a1, .inl (cA, 48, .inl (jA L)))]) ∨ (n = 0 ∧ v = some (.int (jI (-1))) ∧ w = [(h4, .inr (4, [.ref r0, .ref r1, .ref sp, .ref be, .ref re, .int (jI g), .int (jI fr)])), (r1, .inr (1, [.ref a1, .int (jI n)])), (a1, .inl (cA, 48, .inl (jA L)))])) 0 0 := by
  refine jM.intro (by decide +kernel) (Nat.le_of_ble_eq_true rfl) ?_
  intro p e s m args below meth c ls Q A F hQ hA hP hD hS hl
  have hx := F.1
  have hb := F.2.1
  have hl : lv_has ls 3 [(0, .ref h4), (1, .int (jI 1))] := hl
  refine lv_aload_n hx hb dX4_cut_0 rfl (lv_at hl 0 rfl) ?_
  refine lv_iload_n hx hb dX4_cut_1 rfl (lv_at hl 1 rfl) ?_
  refine jr_V F (kX4_rowOf_1 l D cA h4 r0 r1 sp be re g fr) cvX4_50 hP [0] rfl 0 rfl rfl hl ⟨rfl, rfl, by decide, by decide⟩ rfl rfl (Nat.le_of_ble_eq_true rfl) dX4_cut_2 ⟨by decide, by decide⟩ (fun v hv => ?_)
  subst hv
  refine lv_astore_n (lv' := [(2, .ref r1), (0, .ref h4), (1, .int (jI 1))]) hx hb dX4_cut_5 rfl hl (by decide) rfl (fun ls hl => ?_)
  refine lv_aload_n hx hb dX4_cut_6 rfl (lv_at hl 0 rfl) ?_
  refine lv_ifnull hx hb dX4_cut_7 ?_
  refine lv_aload_n hx hb dX4_cut_10 rfl (lv_at hl 0 rfl) ?_
  refine jr_V F (kX1_size l D cA r1 a1 n L) cvX4_66 hP [1, 2] rfl 1 rfl rfl hl ⟨rfl, rfl, by decide, by decide⟩ rfl rfl (Nat.le_of_ble_eq_true rfl) dX4_cut_11 ⟨by decide, by decide⟩ (fun v hv => ?_)
  subst hv
  refine jv_if_ne (tgt := 19) hx hb dX4_cut_14 rfl (by omega) (fun c14 => ?_) (fun c14 => ?_)
  · refine lv_aload_n hx hb dX4_cut_19 rfl (lv_at hl 1 rfl) ?_
    refine lv_iconst (v := jI 0) hx hb dX4_cut_20 rfl ?_
    refine jv_put (v := .int (jI 0)) F hP hD hS 0 rfl flX4_46 pfX4 (by decide +kernel) (by decide +kernel) (by decide +kernel) (Nat.le_of_ble_eq_true rfl) dX4_cut_21 (fun H locs hP hD hS => ?_)
    have hP : va_P D cls [(h4, .inr (4, [.ref r0, .ref r1, .ref sp, .ref be, .ref re, .int (jI g), .int (jI 0)])), (r1, .inr (1, [.ref a1, .int (jI n)])), (a1, .inl (cA, 48, .inl (jA L)))] H := hP
    have hD : va_D A [(h4, .inr (4, [.ref r0, .ref r1, .ref sp, .ref be, .ref re, .int (jI g), .int (jI 0)])), (r1, .inr (1, [.ref a1, .int (jI n)])), (a1, .inl (cA, 48, .inl (jA L)))] := hD
    refine lv_aload_n hx hb dX4_cut_24 rfl (lv_at hl 0 rfl) ?_
    refine jw_V (wr := [(h4, .inr (4, [.ref r0, .ref r1, .ref sp, .ref be, .ref re, .int (jI g), .int (jI 0)]))]) F (kX1_dropLast l D cA r1 a1 n L (by omega)) cvX4_70 hP hD hS hA [1, 2] [0] rfl rfl (by decide) (by decide) 1 rfl rfl hl ⟨rfl, rfl, by decide, by decide⟩ rfl rfl (Nat.le_of_ble_eq_true rfl) dX4_cut_25 ⟨by decide, by decide⟩ (by decide) (fun v w1 H locs hw hP hD hS => ?_)
    obtain ⟨rfl, rfl⟩ := hw
    have hP : va_P D cls [(h4, .inr (4, [.ref r0, .ref r1, .ref sp, .ref be, .ref re, .int (jI g), .int (jI 0)])), (r1, .inr (1, [.ref a1, .int (jI (n - 1))])), (a1, .inl (cA, 48, .inl (jA L)))] H := hP
    have hD : va_D A [(h4, .inr (4, [.ref r0, .ref r1, .ref sp, .ref be, .ref re, .int (jI g), .int (jI 0)])), (r1, .inr (1, [.ref a1, .int (jI (n - 1))])), (a1, .inl (cA, 48, .inl (jA L)))] := hD
    refine W.eq (g2 := F0 m 28 ls [.int (jI (L (n - 1)))]) rfl ?_
    exact jM.ri F hQ rfl dX4_cut_28 hS hP hD (by exact Or.inl ⟨by omega, rfl, rfl⟩)
  · refine lv_iconst (v := jI (-1)) hx hb dX4_cut_17 rfl ?_
    exact jM.ri F hQ rfl dX4_cut_18 hS hP hD (by exact Or.inr ⟨by omega, rfl, rfl⟩)
set_option maxHeartbeats 4000000 in
set_option maxRecDepth 100000 in
theorem kX4_cut_n (l : Launch) (D : va_G) (cA : ClassId) (h4 r0 r1 sp be re : Nat) (g fr : Int) (row : Int) (hr : row ≠ 0 ∧ row ≠ 1) (hr2 : -2147483648 ≤ row ∧ row < 2147483648) : jM l YX4_cut (rmk 1 0 0 21) D cA [.ref h4, .int (jI row)] [(h4, .inr (4, [.ref r0, .ref r1, .ref sp, .ref be, .ref re, .int (jI g), .int (jI fr)]))] (fun v w => v = some (.int (jI (-1))) ∧ w = [(h4, .inr (4, [.ref r0, .ref r1, .ref sp, .ref be, .ref re, .int (jI g), .int (jI fr)]))]) 0 0 := by
  refine jM.intro (by decide +kernel) (Nat.le_of_ble_eq_true rfl) ?_
  intro p e s m args below meth c ls Q A F hQ hA hP hD hS hl
  have hx := F.1
  have hb := F.2.1
  have hl : lv_has ls 3 [(0, .ref h4), (1, .int (jI row))] := hl
  refine lv_aload_n hx hb dX4_cut_0 rfl (lv_at hl 0 rfl) ?_
  refine lv_iload_n hx hb dX4_cut_1 rfl (lv_at hl 1 rfl) ?_
  refine jr_V F (kX4_rowOf_n l D cA h4 r0 r1 sp be re g fr row (by omega) (by omega)) cvX4_50 hP [0] rfl 0 rfl rfl hl ⟨rfl, rfl, by decide, by decide⟩ rfl rfl (Nat.le_of_ble_eq_true rfl) dX4_cut_2 ⟨by decide, by decide⟩ (fun v hv => ?_)
  subst hv
  refine lv_astore_nN (lv' := [(2, .null), (0, .ref h4), (1, .int (jI row))]) hx hb dX4_cut_5 rfl hl (by decide) rfl (fun ls hl => ?_)
  refine lv_aload_nN hx hb dX4_cut_6 rfl (lv_at hl 0 rfl) ?_
  refine lv_ifnullN (tgt := 17) hx hb dX4_cut_7 rfl ?_
  refine lv_iconst (v := jI (-1)) hx hb dX4_cut_17 rfl ?_
  exact jM.ri F hQ rfl dX4_cut_18 hS hP hD (by exact ⟨rfl, rfl⟩)
set_option maxHeartbeats 4000000 in
set_option maxRecDepth 100000 in
theorem kX4_letter_0 (l : Launch) (D : va_G) (cA : ClassId) (h4 r0 r1 sp be re : Nat) (g fr : Int) (a0 : Nat) (n : Int) (L : Int → Int) (i : Int) (hn : 0 ≤ n ∧ n ≤ 48) (hi : -2147483648 ≤ i ∧ i < 2147483648) : jR l YX4_letter (rmk 1 0 0 21) D cA [.ref h4, .int (jI 0), .int (jI i)] [(h4, .inr (4, [.ref r0, .ref r1, .ref sp, .ref be, .ref re, .int (jI g), .int (jI fr)])), (r0, .inr (1, [.ref a0, .int (jI n)])), (a0, .inl (cA, 48, .inl (jA L)))] (fun v => v = .int (jI (atv L n i))) := by
  refine jR.intro (by decide +kernel) (Nat.le_of_ble_eq_true rfl) ?_
  intro p e s m args below meth c ls Q F hQ hP hl
  have hx := F.1
  have hb := F.2.1
  have hl : lv_has ls 4 [(0, .ref h4), (1, .int (jI 0)), (2, .int (jI i))] := hl
  refine lv_aload_n hx hb dX4_letter_0 rfl (lv_at hl 0 rfl) ?_
  refine lv_iload_n hx hb dX4_letter_1 rfl (lv_at hl 1 rfl) ?_
  refine jr_V F (kX4_rowOf_0 l D cA h4 r0 r1 sp be re g fr) cvX4_50 hP [0] rfl 0 rfl rfl hl ⟨rfl, rfl, by decide, by decide⟩ rfl rfl (Nat.le_of_ble_eq_true rfl) dX4_letter_2 ⟨by decide, by decide⟩ (fun v hv => ?_)
  subst hv
  refine lv_astore_n (lv' := [(3, .ref r0), (0, .ref h4), (1, .int (jI 0)), (2, .int (jI i))]) hx hb dX4_letter_5 rfl hl (by decide) rfl (fun ls hl => ?_)
  refine lv_aload_n hx hb dX4_letter_6 rfl (lv_at hl 0 rfl) ?_
  refine lv_ifnonnull (tgt := 14) hx hb dX4_letter_7 rfl ?_
  refine lv_aload_n hx hb dX4_letter_14 rfl (lv_at hl 0 rfl) ?_
  refine lv_iload_n hx hb dX4_letter_15 rfl (lv_at hl 3 rfl) ?_
  refine jr_V F (kX1_at l D cA r0 a0 n L i (by omega) (by omega)) cvX4_73 hP [1, 2] rfl 1 rfl rfl hl ⟨rfl, rfl, by decide, by decide⟩ rfl rfl (Nat.le_of_ble_eq_true rfl) dX4_letter_16 ⟨by decide, by decide⟩ (fun v hv => ?_)
  subst hv
  exact jR.ri F hQ rfl dX4_letter_19 (by rfl)
set_option maxHeartbeats 4000000 in
set_option maxRecDepth 100000 in
theorem kX4_letter_1 (l : Launch) (D : va_G) (cA : ClassId) (h4 r0 r1 sp be re : Nat) (g fr : Int) (a1 : Nat) (n : Int) (L : Int → Int) (i : Int) (hn : 0 ≤ n ∧ n ≤ 48) (hi : -2147483648 ≤ i ∧ i < 2147483648) : jR l YX4_letter (rmk 1 0 0 21) D cA [.ref h4, .int (jI 1), .int (jI i)] [(h4, .inr (4, [.ref r0, .ref r1, .ref sp, .ref be, .ref re, .int (jI g), .int (jI fr)])), (r1, .inr (1, [.ref a1, .int (jI n)])), (a1, .inl (cA, 48, .inl (jA L)))] (fun v => v = .int (jI (atv L n i))) := by
  refine jR.intro (by decide +kernel) (Nat.le_of_ble_eq_true rfl) ?_
  intro p e s m args below meth c ls Q F hQ hP hl
  have hx := F.1
  have hb := F.2.1
  have hl : lv_has ls 4 [(0, .ref h4), (1, .int (jI 1)), (2, .int (jI i))] := hl
  refine lv_aload_n hx hb dX4_letter_0 rfl (lv_at hl 0 rfl) ?_
  refine lv_iload_n hx hb dX4_letter_1 rfl (lv_at hl 1 rfl) ?_
  refine jr_V F (kX4_rowOf_1 l D cA h4 r0 r1 sp be re g fr) cvX4_50 hP [0] rfl 0 rfl rfl hl ⟨rfl, rfl, by decide, by decide⟩ rfl rfl (Nat.le_of_ble_eq_true rfl) dX4_letter_2 ⟨by decide, by decide⟩ (fun v hv => ?_)
  subst hv
  refine lv_astore_n (lv' := [(3, .ref r1), (0, .ref h4), (1, .int (jI 1)), (2, .int (jI i))]) hx hb dX4_letter_5 rfl hl (by decide) rfl (fun ls hl => ?_)
  refine lv_aload_n hx hb dX4_letter_6 rfl (lv_at hl 0 rfl) ?_
  refine lv_ifnonnull (tgt := 14) hx hb dX4_letter_7 rfl ?_
  refine lv_aload_n hx hb dX4_letter_14 rfl (lv_at hl 0 rfl) ?_
  refine lv_iload_n hx hb dX4_letter_15 rfl (lv_at hl 3 rfl) ?_
  refine jr_V F (kX1_at l D cA r1 a1 n L i (by omega) (by omega)) cvX4_73 hP [1, 2] rfl 1 rfl rfl hl ⟨rfl, rfl, by decide, by decide⟩ rfl rfl (Nat.le_of_ble_eq_true rfl) dX4_letter_16 ⟨by decide, by decide⟩ (fun v hv => ?_)
  subst hv
  exact jR.ri F hQ rfl dX4_letter_19 (by rfl)
set_option maxHeartbeats 4000000 in
set_option maxRecDepth 100000 in
theorem kX4_letter_n (l : Launch) (D : va_G) (cA : ClassId) (h4 r0 r1 sp be re : Nat) (g fr : Int) (row : Int) (i : Int) (hr : row ≠ 0 ∧ row ≠ 1) (hr2 : -2147483648 ≤ row ∧ row < 2147483648) (hi : -2147483648 ≤ i ∧ i < 2147483648) : jR l YX4_letter (rmk 1 0 0 21) D cA [.ref h4, .int (jI row), .int (jI i)] [(h4, .inr (4, [.ref r0, .ref r1, .ref sp, .ref be, .ref re, .int (jI g), .int (jI fr)]))] (fun v => v = .int (jI (-1))) := by
  refine jR.intro (by decide +kernel) (Nat.le_of_ble_eq_true rfl) ?_
  intro p e s m args below meth c ls Q F hQ hP hl
  have hx := F.1
  have hb := F.2.1
  have hl : lv_has ls 4 [(0, .ref h4), (1, .int (jI row)), (2, .int (jI i))] := hl
  refine lv_aload_n hx hb dX4_letter_0 rfl (lv_at hl 0 rfl) ?_
  refine lv_iload_n hx hb dX4_letter_1 rfl (lv_at hl 1 rfl) ?_
  refine jr_V F (kX4_rowOf_n l D cA h4 r0 r1 sp be re g fr row (by omega) (by omega)) cvX4_50 hP [0] rfl 0 rfl rfl hl ⟨rfl, rfl, by decide, by decide⟩ rfl rfl (Nat.le_of_ble_eq_true rfl) dX4_letter_2 ⟨by decide, by decide⟩ (fun v hv => ?_)
  subst hv
  refine lv_astore_nN (lv' := [(3, .null), (0, .ref h4), (1, .int (jI row)), (2, .int (jI i))]) hx hb dX4_letter_5 rfl hl (by decide) rfl (fun ls hl => ?_)
  refine lv_aload_nN hx hb dX4_letter_6 rfl (lv_at hl 0 rfl) ?_
  refine lv_ifnonnullN hx hb dX4_letter_7 ?_
  refine lv_iconst (v := jI (-1)) hx hb dX4_letter_10 rfl ?_
  refine lv_goto (tgt := 19) hx hb dX4_letter_11 rfl ?_
  exact jR.ri F hQ rfl dX4_letter_19 (by rfl)
set_option maxHeartbeats 4000000 in
set_option maxRecDepth 100000 in
theorem kX4_seeds (l : Launch) (D : va_G) (cA : ClassId) (h4 r0 r1 sp be re : Nat) (g fr : Int) (K k : Int) (hk : -2147483648 ≤ k ∧ k < 2147483648) : jM l YX4_seeds (rmk 1 0 0 22) D cA [.ref h4, .int (jI k)] [(h4, .inr (4, [.ref r0, .ref r1, .ref sp, .ref be, .ref re, .int (jI g), .int (jI fr)])), (sp, .inr (3, [.ref r0, .ref r1, .int (jI K)]))] (fun v w => ((1 ≤ k ∧ k ≤ 6) ∧ v = some (.int (jI 1)) ∧ w = [(h4, .inr (4, [.ref r0, .ref r1, .ref sp, .ref be, .ref re, .int (jI g), .int (jI 0)])), (sp, .inr (3, [.ref r0, .ref r1, .int (jI k)]))]) ∨ (¬ (1 ≤ k ∧ k ≤ 6) ∧ v = some (.int (jI 0)) ∧ w = [(h4, .inr (4, [.ref r0, .ref r1, .ref sp, .ref be, .ref re, .int (jI g), .int (jI fr)])), (sp, .inr (3, [.ref r0, .ref r1, .int (jI K)]))])) 0 0 := by
  refine jM.intro (by decide +kernel) (Nat.le_of_ble_eq_true rfl) ?_
  intro p e s m args below meth c ls Q A F hQ hA hP hD hS hl
  have hx := F.1
  have hb := F.2.1
  have hl : lv_has ls 2 [(0, .ref h4), (1, .int (jI k))] := hl
  refine lv_iload_n hx hb dX4_seeds_0 rfl (lv_at hl 1 rfl) ?_
  refine lv_iconst (v := jI 1) hx hb dX4_seeds_1 rfl ?_
  refine lv_bipush (v := jI 6) hx hb dX4_seeds_2 (by decide +kernel) ?_
  refine jr_S F (kX4_isBetween l D cA k 1 6 (by omega) (by omega) (by omega)) csX4_54 hP [] rfl hl ⟨rfl, rfl, by decide, by decide⟩ rfl rfl (Nat.le_of_ble_eq_true rfl) dX4_seeds_4 ⟨by decide, by decide⟩ (fun v hv => ?_)
  obtain ⟨z4, rfl, hz4⟩ := hv
  refine jv_if_ne (tgt := 12) hx hb dX4_seeds_7 rfl (by omega) (fun c7 => ?_) (fun c7 => ?_)
  · refine lv_aload_n hx hb dX4_seeds_12 rfl (lv_at hl 0 rfl) ?_
    refine lv_iconst (v := jI 0) hx hb dX4_seeds_13 rfl ?_
    refine jv_put (v := .int (jI 0)) F hP hD hS 0 rfl flX4_46 pfX4 (by decide +kernel) (by decide +kernel) (by decide +kernel) (Nat.le_of_ble_eq_true rfl) dX4_seeds_14 (fun H locs hP hD hS => ?_)
    have hP : va_P D cls [(h4, .inr (4, [.ref r0, .ref r1, .ref sp, .ref be, .ref re, .int (jI g), .int (jI 0)])), (sp, .inr (3, [.ref r0, .ref r1, .int (jI K)]))] H := hP
    have hD : va_D A [(h4, .inr (4, [.ref r0, .ref r1, .ref sp, .ref be, .ref re, .int (jI g), .int (jI 0)])), (sp, .inr (3, [.ref r0, .ref r1, .int (jI K)]))] := hD
    refine lv_aload_n hx hb dX4_seeds_17 rfl (lv_at hl 0 rfl) ?_
    refine jv_get (v := .ref sp) F hP 0 rfl flX4_24 rfl dX4_seeds_18 ?_
    refine lv_iload_n hx hb dX4_seeds_21 rfl (lv_at hl 1 rfl) ?_
    refine jw_V (wr := [(h4, .inr (4, [.ref r0, .ref r1, .ref sp, .ref be, .ref re, .int (jI g), .int (jI 0)]))]) F (kX3_useLength l D cA sp r0 r1 K k) cvX4_77 hP hD hS hA [1] [0] rfl rfl (by decide) (by decide) 1 rfl rfl hl ⟨rfl, rfl, by decide, by decide⟩ rfl rfl (Nat.le_of_ble_eq_true rfl) dX4_seeds_22 ⟨by decide, by decide⟩ (by decide) (fun v w1 H locs hw hP hD hS => ?_)
    obtain ⟨rfl, rfl⟩ := hw
    have hP : va_P D cls [(h4, .inr (4, [.ref r0, .ref r1, .ref sp, .ref be, .ref re, .int (jI g), .int (jI 0)])), (sp, .inr (3, [.ref r0, .ref r1, .int (jI k)]))] H := hP
    have hD : va_D A [(h4, .inr (4, [.ref r0, .ref r1, .ref sp, .ref be, .ref re, .int (jI g), .int (jI 0)])), (sp, .inr (3, [.ref r0, .ref r1, .int (jI k)]))] := hD
    refine W.eq (g2 := F0 m 25 ls []) rfl ?_
    refine lv_iconst (v := jI 1) hx hb dX4_seeds_25 rfl ?_
    exact jM.rz F hQ rfl (by omega) dX4_seeds_26 hS hP hD (by exact Or.inl ⟨by omega, rfl, rfl⟩)
  · refine lv_iconst (v := jI 0) hx hb dX4_seeds_10 rfl ?_
    exact jM.rz F hQ rfl (by omega) dX4_seeds_11 hS hP hD (by exact Or.inr ⟨by omega, rfl, rfl⟩)
set_option maxHeartbeats 4000000 in
set_option maxRecDepth 100000 in
theorem kX4_penalty (l : Launch) (D : va_G) (cA : ClassId) (h4 r0 r1 sp be re : Nat) (g fr : Int) (k : Int) (hk : -2147483648 ≤ k ∧ k < 2147483648) : jM l YX4_penalty (rmk 1 0 0 22) D cA [.ref h4, .int (jI k)] [(h4, .inr (4, [.ref r0, .ref r1, .ref sp, .ref be, .ref re, .int (jI g), .int (jI fr)]))] (fun v w => ((0 ≤ k ∧ k ≤ 9) ∧ v = some (.int (jI 1)) ∧ w = [(h4, .inr (4, [.ref r0, .ref r1, .ref sp, .ref be, .ref re, .int (jI k), .int (jI 0)]))]) ∨ (¬ (0 ≤ k ∧ k ≤ 9) ∧ v = some (.int (jI 0)) ∧ w = [(h4, .inr (4, [.ref r0, .ref r1, .ref sp, .ref be, .ref re, .int (jI g), .int (jI fr)]))])) 0 0 := by
  refine jM.intro (by decide +kernel) (Nat.le_of_ble_eq_true rfl) ?_
  intro p e s m args below meth c ls Q A F hQ hA hP hD hS hl
  have hx := F.1
  have hb := F.2.1
  have hl : lv_has ls 2 [(0, .ref h4), (1, .int (jI k))] := hl
  refine lv_iload_n hx hb dX4_penalty_0 rfl (lv_at hl 1 rfl) ?_
  refine lv_iconst (v := jI 0) hx hb dX4_penalty_1 rfl ?_
  refine lv_bipush (v := jI 9) hx hb dX4_penalty_2 (by decide +kernel) ?_
  refine jr_S F (kX4_isBetween l D cA k 0 9 (by omega) (by omega) (by omega)) csX4_54 hP [] rfl hl ⟨rfl, rfl, by decide, by decide⟩ rfl rfl (Nat.le_of_ble_eq_true rfl) dX4_penalty_4 ⟨by decide, by decide⟩ (fun v hv => ?_)
  obtain ⟨z4, rfl, hz4⟩ := hv
  refine jv_if_ne (tgt := 12) hx hb dX4_penalty_7 rfl (by omega) (fun c7 => ?_) (fun c7 => ?_)
  · refine lv_aload_n hx hb dX4_penalty_12 rfl (lv_at hl 0 rfl) ?_
    refine lv_iconst (v := jI 0) hx hb dX4_penalty_13 rfl ?_
    refine jv_put (v := .int (jI 0)) F hP hD hS 0 rfl flX4_46 pfX4 (by decide +kernel) (by decide +kernel) (by decide +kernel) (Nat.le_of_ble_eq_true rfl) dX4_penalty_14 (fun H locs hP hD hS => ?_)
    have hP : va_P D cls [(h4, .inr (4, [.ref r0, .ref r1, .ref sp, .ref be, .ref re, .int (jI g), .int (jI 0)]))] H := hP
    have hD : va_D A [(h4, .inr (4, [.ref r0, .ref r1, .ref sp, .ref be, .ref re, .int (jI g), .int (jI 0)]))] := hD
    refine lv_aload_n hx hb dX4_penalty_17 rfl (lv_at hl 0 rfl) ?_
    refine lv_iload_n hx hb dX4_penalty_18 rfl (lv_at hl 1 rfl) ?_
    refine jv_put (v := .int (jI k)) F hP hD hS 0 rfl flX4_42 pfX4 (by decide +kernel) rfl rfl (Nat.le_of_ble_eq_true rfl) dX4_penalty_19 (fun H locs hP hD hS => ?_)
    have hP : va_P D cls [(h4, .inr (4, [.ref r0, .ref r1, .ref sp, .ref be, .ref re, .int (jI k), .int (jI 0)]))] H := hP
    have hD : va_D A [(h4, .inr (4, [.ref r0, .ref r1, .ref sp, .ref be, .ref re, .int (jI k), .int (jI 0)]))] := hD
    refine lv_iconst (v := jI 1) hx hb dX4_penalty_22 rfl ?_
    exact jM.rz F hQ rfl (by omega) dX4_penalty_23 hS hP hD (by exact Or.inl ⟨by omega, rfl, rfl⟩)
  · refine lv_iconst (v := jI 0) hx hb dX4_penalty_10 rfl ?_
    exact jM.rz F hQ rfl (by omega) dX4_penalty_11 hS hP hD (by exact Or.inr ⟨by omega, rfl, rfl⟩)
set_option maxHeartbeats 4000000 in
set_option maxRecDepth 100000 in
theorem kX4_scores (l : Launch) (D : va_G) (cA : ClassId) (h4 r0 r1 sp be : Nat) (g fr : Int) (re t2 t1 t0 : Nat) (ga lo gp li es ep eq al la : Int) (a1 a2 a3 a4 : Int) (hr1 : -2147483648 ≤ a1 ∧ a1 < 2147483648) (hr2 : -2147483648 ≤ a2 ∧ a2 < 2147483648) (hr3 : -2147483648 ≤ a3 ∧ a3 < 2147483648) (hr4 : -2147483648 ≤ a4 ∧ a4 < 2147483648) : jM l YX4_scores (rmk 1 0 0 24) D cA [.ref h4, .int (jI a1), .int (jI a2), .int (jI a3), .int (jI a4)] [(h4, .inr (4, [.ref r0, .ref r1, .ref sp, .ref be, .ref re, .int (jI g), .int (jI fr)])), (re, .inr (2, [.int (jI ga), .int (jI lo), .int (jI gp), .int (jI li), .ref t2, .ref t1, .ref t0, .int (jI es), .int (jI ep), .int (jI eq), .int (jI al), .int (jI la)]))] (fun v w => (((1 ≤ a1 ∧ a1 ≤ 9) ∧ (0 ≤ a2 ∧ a2 ≤ 9) ∧ (1 ≤ a3 ∧ a3 ≤ 9) ∧ (0 ≤ a4 ∧ a4 ≤ 99)) ∧ v = some (.int (jI 1)) ∧ w = [(h4, .inr (4, [.ref r0, .ref r1, .ref sp, .ref be, .ref re, .int (jI g), .int (jI fr)])), (re, .inr (2, [.int (jI a1), .int (jI a2), .int (jI a3), .int (jI a4), .ref t2, .ref t1, .ref t0, .int (jI es), .int (jI ep), .int (jI eq), .int (jI al), .int (jI la)]))]) ∨ (¬ ((1 ≤ a1 ∧ a1 ≤ 9) ∧ (0 ≤ a2 ∧ a2 ≤ 9) ∧ (1 ≤ a3 ∧ a3 ≤ 9) ∧ (0 ≤ a4 ∧ a4 ≤ 99)) ∧ v = some (.int (jI 0)) ∧ w = [(h4, .inr (4, [.ref r0, .ref r1, .ref sp, .ref be, .ref re, .int (jI g), .int (jI fr)])), (re, .inr (2, [.int (jI ga), .int (jI lo), .int (jI gp), .int (jI li), .ref t2, .ref t1, .ref t0, .int (jI es), .int (jI ep), .int (jI eq), .int (jI al), .int (jI la)]))])) 0 0 := by
  refine jM.intro (by decide +kernel) (Nat.le_of_ble_eq_true rfl) ?_
  intro p e s m args below meth c ls Q A F hQ hA hP hD hS hl
  have hx := F.1
  have hb := F.2.1
  have hl : lv_has ls 5 [(0, .ref h4), (1, .int (jI a1)), (2, .int (jI a2)), (3, .int (jI a3)), (4, .int (jI a4))] := hl
  refine lv_iload_n hx hb dX4_scores_0 rfl (lv_at hl 1 rfl) ?_
  refine lv_iconst (v := jI 1) hx hb dX4_scores_1 rfl ?_
  refine lv_bipush (v := jI 9) hx hb dX4_scores_2 (by decide +kernel) ?_
  refine jr_S F (kX4_isBetween l D cA a1 1 9 (by omega) (by omega) (by omega)) csX4_54 hP [] rfl hl ⟨rfl, rfl, by decide, by decide⟩ rfl rfl (Nat.le_of_ble_eq_true rfl) dX4_scores_4 ⟨by decide, by decide⟩ (fun v hv => ?_)
  obtain ⟨z4, rfl, hz4⟩ := hv
  refine jv_if_eq (tgt := 41) hx hb dX4_scores_7 rfl (by omega) (fun c7 => ?_) (fun c7 => ?_)
  · refine lv_iconst (v := jI 0) hx hb dX4_scores_41 rfl ?_
    exact jM.rz F hQ rfl (by omega) dX4_scores_42 hS hP hD (by exact Or.inr ⟨by omega, rfl, rfl⟩)
  · refine lv_iload_n hx hb dX4_scores_10 rfl (lv_at hl 2 rfl) ?_
    refine lv_iconst (v := jI 0) hx hb dX4_scores_11 rfl ?_
    refine lv_bipush (v := jI 9) hx hb dX4_scores_12 (by decide +kernel) ?_
    refine jr_S F (kX4_isBetween l D cA a2 0 9 (by omega) (by omega) (by omega)) csX4_54 hP [] rfl hl ⟨rfl, rfl, by decide, by decide⟩ rfl rfl (Nat.le_of_ble_eq_true rfl) dX4_scores_14 ⟨by decide, by decide⟩ (fun v hv => ?_)
    obtain ⟨z14, rfl, hz14⟩ := hv
    refine jv_if_eq (tgt := 41) hx hb dX4_scores_17 rfl (by omega) (fun c17 => ?_) (fun c17 => ?_)
    · refine lv_iconst (v := jI 0) hx hb dX4_scores_41 rfl ?_
      exact jM.rz F hQ rfl (by omega) dX4_scores_42 hS hP hD (by exact Or.inr ⟨by omega, rfl, rfl⟩)
    · refine lv_iload_n hx hb dX4_scores_20 rfl (lv_at hl 3 rfl) ?_
      refine lv_iconst (v := jI 1) hx hb dX4_scores_21 rfl ?_
      refine lv_bipush (v := jI 9) hx hb dX4_scores_22 (by decide +kernel) ?_
      refine jr_S F (kX4_isBetween l D cA a3 1 9 (by omega) (by omega) (by omega)) csX4_54 hP [] rfl hl ⟨rfl, rfl, by decide, by decide⟩ rfl rfl (Nat.le_of_ble_eq_true rfl) dX4_scores_24 ⟨by decide, by decide⟩ (fun v hv => ?_)
      obtain ⟨z24, rfl, hz24⟩ := hv
      refine jv_if_eq (tgt := 41) hx hb dX4_scores_27 rfl (by omega) (fun c27 => ?_) (fun c27 => ?_)
      · refine lv_iconst (v := jI 0) hx hb dX4_scores_41 rfl ?_
        exact jM.rz F hQ rfl (by omega) dX4_scores_42 hS hP hD (by exact Or.inr ⟨by omega, rfl, rfl⟩)
      · refine lv_iload hx hb dX4_scores_30 (lv_at hl 4 rfl) ?_
        refine lv_iconst (v := jI 0) hx hb dX4_scores_32 rfl ?_
        refine lv_bipush (v := jI 99) hx hb dX4_scores_33 (by decide +kernel) ?_
        refine jr_S F (kX4_isBetween l D cA a4 0 99 (by omega) (by omega) (by omega)) csX4_54 hP [] rfl hl ⟨rfl, rfl, by decide, by decide⟩ rfl rfl (Nat.le_of_ble_eq_true rfl) dX4_scores_35 ⟨by decide, by decide⟩ (fun v hv => ?_)
        obtain ⟨z35, rfl, hz35⟩ := hv
        refine jv_if_ne (tgt := 43) hx hb dX4_scores_38 rfl (by omega) (fun c38 => ?_) (fun c38 => ?_)
        · refine lv_aload_n hx hb dX4_scores_43 rfl (lv_at hl 0 rfl) ?_
          refine jv_get (v := .ref re) F hP 0 rfl flX4_38 rfl dX4_scores_44 ?_
          refine lv_iload_n hx hb dX4_scores_47 rfl (lv_at hl 1 rfl) ?_
          refine lv_iload_n hx hb dX4_scores_48 rfl (lv_at hl 2 rfl) ?_
          refine lv_iload_n hx hb dX4_scores_49 rfl (lv_at hl 3 rfl) ?_
          refine lv_iload hx hb dX4_scores_50 (lv_at hl 4 rfl) ?_
          refine jw_V (wr := [(h4, .inr (4, [.ref r0, .ref r1, .ref sp, .ref be, .ref re, .int (jI g), .int (jI fr)]))]) F (kX2_useScores l D cA re t2 t1 t0 ga lo gp li es ep eq al la a1 a2 a3 a4) cvX4_80 hP hD hS hA [1] [0] rfl rfl (by decide) (by decide) 1 rfl rfl hl ⟨rfl, rfl, by decide, by decide⟩ rfl rfl (Nat.le_of_ble_eq_true rfl) dX4_scores_52 ⟨by decide, by decide⟩ (by decide) (fun v w1 H locs hw hP hD hS => ?_)
          obtain ⟨rfl, rfl⟩ := hw
          have hP : va_P D cls [(h4, .inr (4, [.ref r0, .ref r1, .ref sp, .ref be, .ref re, .int (jI g), .int (jI fr)])), (re, .inr (2, [.int (jI a1), .int (jI a2), .int (jI a3), .int (jI a4), .ref t2, .ref t1, .ref t0, .int (jI es), .int (jI ep), .int (jI eq), .int (jI al), .int (jI la)]))] H := hP
          have hD : va_D A [(h4, .inr (4, [.ref r0, .ref r1, .ref sp, .ref be, .ref re, .int (jI g), .int (jI fr)])), (re, .inr (2, [.int (jI a1), .int (jI a2), .int (jI a3), .int (jI a4), .ref t2, .ref t1, .ref t0, .int (jI es), .int (jI ep), .int (jI eq), .int (jI al), .int (jI la)]))] := hD
          refine W.eq (g2 := F0 m 55 ls []) rfl ?_
          refine lv_iconst (v := jI 1) hx hb dX4_scores_55 rfl ?_
          exact jM.rz F hQ rfl (by omega) dX4_scores_56 hS hP hD (by exact Or.inl ⟨by omega, rfl, rfl⟩)
        · refine lv_iconst (v := jI 0) hx hb dX4_scores_41 rfl ?_
          exact jM.rz F hQ rfl (by omega) dX4_scores_42 hS hP hD (by exact Or.inr ⟨by omega, rfl, rfl⟩)
set_option maxHeartbeats 4000000 in
set_option maxRecDepth 100000 in
theorem kX4_anchors (l : Launch) (D : va_G) (cA : ClassId) (h4 be re : Nat) (g fr : Int) (sp r0 a0 r1 a1 : Nat) (n0 n1 K : Int) (L0 L1 : Int → Int) (hn0 : 0 ≤ n0 ∧ n0 ≤ 48) (hn1 : 0 ≤ n1 ∧ n1 ≤ 48) (hK : 1 ≤ K ∧ K ≤ 6) (hL0 : ∀ x, 0 ≤ L0 x ∧ L0 x ≤ 3) (hL1 : ∀ x, 0 ≤ L1 x ∧ L1 x ≤ 3) : jR l YX4_anchors (rmk 3 0 0 67) D cA [.ref h4] [(h4, .inr (4, [.ref r0, .ref r1, .ref sp, .ref be, .ref re, .int (jI g), .int (jI fr)])), (sp, .inr (3, [.ref r0, .ref r1, .int (jI K)])), (r0, .inr (1, [.ref a0, .int (jI n0)])), (a0, .inl (cA, 48, .inl (jA L0))), (r1, .inr (1, [.ref a1, .int (jI n1)])), (a1, .inl (cA, 48, .inl (jA L1)))] (fun v => v = .int (jI (cnt (anc L0 L1 n0 n1 K) n1 n0 0))) := by
  refine jR.intro (by decide +kernel) (Nat.le_of_ble_eq_true rfl) ?_
  intro p e s m args below meth c ls Q F hQ hP hl
  have hx := F.1
  have hb := F.2.1
  have hl : lv_has ls 1 [(0, .ref h4)] := hl
  refine lv_aload_n hx hb dX4_anchors_0 rfl (lv_at hl 0 rfl) ?_
  refine jv_get (v := .ref sp) F hP 0 rfl flX4_24 rfl dX4_anchors_1 ?_
  refine jr_V F (kX3_count l D cA sp r0 a0 r1 a1 n0 n1 K L0 L1 (by omega) (by omega) (by omega) hL0 hL1) cvX4_84 hP [1, 2, 3, 4, 5] rfl 1 rfl rfl hl ⟨rfl, rfl, by decide, by decide⟩ rfl rfl (Nat.le_of_ble_eq_true rfl) dX4_anchors_4 ⟨by decide, by decide⟩ (fun v hv => ?_)
  subst hv
  exact jR.ri F hQ rfl dX4_anchors_7 (by rfl)
set_option maxHeartbeats 4000000 in
set_option maxRecDepth 100000 in
theorem kX4_anchor (l : Launch) (D : va_G) (cA : ClassId) (h4 be re : Nat) (g fr : Int) (sp r0 a0 r1 a1 : Nat) (n0 n1 K : Int) (L0 L1 : Int → Int) (x wh : Int) (hn0 : 0 ≤ n0 ∧ n0 ≤ 48) (hn1 : 0 ≤ n1 ∧ n1 ≤ 48) (hK : 1 ≤ K ∧ K ≤ 6) (hL0 : ∀ x, 0 ≤ L0 x ∧ L0 x ≤ 3) (hL1 : ∀ x, 0 ≤ L1 x ∧ L1 x ≤ 3) (hx0 : -2147483648 ≤ x ∧ x < 2147483648) (hw : -2147483648 ≤ wh ∧ wh < 2147483648) : jR l YX4_anchor (rmk 3 0 0 68) D cA [.ref h4, .int (jI x), .int (jI wh)] [(h4, .inr (4, [.ref r0, .ref r1, .ref sp, .ref be, .ref re, .int (jI g), .int (jI fr)])), (sp, .inr (3, [.ref r0, .ref r1, .int (jI K)])), (r0, .inr (1, [.ref a0, .int (jI n0)])), (a0, .inl (cA, 48, .inl (jA L0))), (r1, .inr (1, [.ref a1, .int (jI n1)])), (a1, .inl (cA, 48, .inl (jA L1)))] (fun v => ∃ z : Int, v = .int (jI (plc z wh)) ∧ ((∃ i j, anc L0 L1 n0 n1 K i j ∧ cnt (anc L0 L1 n0 n1 K) n1 i j = x ∧ z = i * 48 + j) ∨ ((∀ i j, anc L0 L1 n0 n1 K i j → cnt (anc L0 L1 n0 n1 K) n1 i j ≠ x) ∧ z = -1))) := by
  refine jR.intro (by decide +kernel) (Nat.le_of_ble_eq_true rfl) ?_
  intro p e s m args below meth c ls Q F hQ hP hl
  have hx := F.1
  have hb := F.2.1
  have hl : lv_has ls 3 [(0, .ref h4), (1, .int (jI x)), (2, .int (jI wh))] := hl
  refine lv_aload_n hx hb dX4_anchor_0 rfl (lv_at hl 0 rfl) ?_
  refine jv_get (v := .ref sp) F hP 0 rfl flX4_24 rfl dX4_anchor_1 ?_
  refine lv_iload_n hx hb dX4_anchor_4 rfl (lv_at hl 1 rfl) ?_
  refine jr_V F (kX3_pairAt l D cA sp r0 a0 r1 a1 n0 n1 K L0 L1 x (by omega) (by omega) (by omega) hL0 hL1 (by omega)) cvX4_87 hP [1, 2, 3, 4, 5] rfl 1 rfl rfl hl ⟨rfl, rfl, by decide, by decide⟩ rfl rfl (Nat.le_of_ble_eq_true rfl) dX4_anchor_5 ⟨by decide, by decide⟩ (fun v hv => ?_)
  obtain ⟨z5, rfl, hz5⟩ := hv
  refine lv_iload_n hx hb dX4_anchor_8 rfl (lv_at hl 2 rfl) ?_
  have rz5 : -1 ≤ z5 ∧ z5 < 3000 := by
    rcases hz5 with ⟨i, j, h1, -, h2⟩ | ⟨-, h2⟩
    · have := anc_in i j h1; omega
    · omega
  refine jr_S F (kX4_placeOf l D cA z5 wh (by omega) (by omega)) csX4_90 hP [] rfl hl ⟨rfl, rfl, by decide, by decide⟩ rfl rfl (Nat.le_of_ble_eq_true rfl) dX4_anchor_9 ⟨by decide, by decide⟩ (fun v hv => ?_)
  subst hv
  exact jR.ri F hQ rfl dX4_anchor_12 (by exact ⟨_, rfl, hz5⟩)
