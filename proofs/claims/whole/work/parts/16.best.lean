set_option maxHeartbeats 4000000 in
set_option maxRecDepth 100000 in
theorem kX0_total (l : Launch) (D : va_G) (cA : ClassId) (be ah pa : Nat) (sz to : Int)  : jR l YX0_total (rmk 0 0 0 0) D cA [.ref be] [(be, .inr (0, [.ref ah, .ref pa, .int (jI sz), .int (jI to)]))] (fun v => v = .int (jI to)) := by
  refine jR.intro (by decide +kernel) (Nat.le_of_ble_eq_true rfl) ?_
  intro p e s m args below meth c ls Q F hQ hP hl
  have hx := F.1
  have hb := F.2.1
  have hl : lv_has ls 1 [(0, .ref be)] := hl
  refine lv_aload_n hx hb dX0_total_0 rfl (lv_at hl 0 rfl) ?_
  refine jv_get (v := .int (jI to)) F hP 0 rfl flX0_22 rfl dX0_total_1 ?_
  exact jR.ri F hQ rfl dX0_total_4 (by rfl)
set_option maxHeartbeats 4000000 in
set_option maxRecDepth 100000 in
theorem kX0_size (l : Launch) (D : va_G) (cA : ClassId) (be ah pa : Nat) (sz to : Int)  : jR l YX0_size (rmk 0 0 0 0) D cA [.ref be] [(be, .inr (0, [.ref ah, .ref pa, .int (jI sz), .int (jI to)]))] (fun v => v = .int (jI sz)) := by
  refine jR.intro (by decide +kernel) (Nat.le_of_ble_eq_true rfl) ?_
  intro p e s m args below meth c ls Q F hQ hP hl
  have hx := F.1
  have hb := F.2.1
  have hl : lv_has ls 1 [(0, .ref be)] := hl
  refine lv_aload_n hx hb dX0_size_0 rfl (lv_at hl 0 rfl) ?_
  refine jv_get (v := .int (jI sz)) F hP 0 rfl flX0_18 rfl dX0_size_1 ?_
  exact jR.ri F hQ rfl dX0_size_4 (by rfl)
set_option maxHeartbeats 4000000 in
set_option maxRecDepth 100000 in
theorem kX0_pairAt (l : Launch) (D : va_G) (cA : ClassId) (be ah pa : Nat) (sz to : Int) (Pa : Int → Int) (i : Int) (hz : 0 ≤ sz ∧ sz ≤ 48) (hi : -2147483648 ≤ i ∧ i < 2147483648) : jR l YX0_pairAt (rmk 0 0 0 0) D cA [.ref be, .int (jI i)] [(be, .inr (0, [.ref ah, .ref pa, .int (jI sz), .int (jI to)])), (pa, .inl (cA, 48, .inl (jA Pa)))] (fun v => v = .int (jI (atv Pa sz i))) := by
  refine jR.intro (by decide +kernel) (Nat.le_of_ble_eq_true rfl) ?_
  intro p e s m args below meth c ls Q F hQ hP hl
  have hx := F.1
  have hb := F.2.1
  have hl : lv_has ls 2 [(0, .ref be), (1, .int (jI i))] := hl
  refine lv_iload_n hx hb dX0_pairAt_0 rfl (lv_at hl 1 rfl) ?_
  refine jv_if_lt (tgt := 21) hx hb dX0_pairAt_1 rfl (by omega) (fun c1 => ?_) (fun c1 => ?_)
  · refine lv_iconst (v := jI (-1)) hx hb dX0_pairAt_21 rfl ?_
    exact jR.ri F hQ rfl dX0_pairAt_22 (by rw [atv_out (by omega)])
  · refine lv_iload_n hx hb dX0_pairAt_4 rfl (lv_at hl 1 rfl) ?_
    refine lv_aload_n hx hb dX0_pairAt_5 rfl (lv_at hl 0 rfl) ?_
    refine jv_get (v := .int (jI sz)) F hP 0 rfl flX0_18 rfl dX0_pairAt_6 ?_
    refine jv_icmp_ge (tgt := 21) hx hb dX0_pairAt_9 rfl (by omega) (by omega) (fun c9 => ?_) (fun c9 => ?_)
    · refine lv_iconst (v := jI (-1)) hx hb dX0_pairAt_21 rfl ?_
      exact jR.ri F hQ rfl dX0_pairAt_22 (by rw [atv_out (by omega)])
    · refine lv_aload_n hx hb dX0_pairAt_12 rfl (lv_at hl 0 rfl) ?_
      refine jv_get (v := .ref pa) F hP 0 rfl flX0_15 rfl dX0_pairAt_13 ?_
      refine lv_iload_n hx hb dX0_pairAt_16 rfl (lv_at hl 1 rfl) ?_
      refine jv_iald (fa := Pa) F hP 1 rfl (by omega) (by decide) dX0_pairAt_17 ?_
      refine lv_goto (tgt := 22) hx hb dX0_pairAt_18 rfl ?_
      exact jR.ri F hQ rfl dX0_pairAt_22 (by rw [atv_in (by omega)])
set_option maxHeartbeats 4000000 in
set_option maxRecDepth 100000 in
theorem kX0_worthFrom (l : Launch) (D : va_G) (cA : ClassId) (be ah pa : Nat) (sz to : Int) (Ah : Int → Int) (sp r0 r1 : Nat) (K i j : Int) (hK : 1 ≤ K ∧ K ≤ 6) (hi : 0 ≤ i ∧ i + K ≤ 48) (hj : 0 ≤ j ∧ j + K ≤ 48) (hv : -2000000 ≤ Ah ((i + K) * 49 + (j + K)) ∧ Ah ((i + K) * 49 + (j + K)) ≤ 2000000) : jR l YX0_worthFrom (rmk 1 0 0 20) D cA [.ref be, .ref sp, .int (jI i), .int (jI j)] [(be, .inr (0, [.ref ah, .ref pa, .int (jI sz), .int (jI to)])), (ah, .inl (cA, 2401, .inl (jA Ah))), (sp, .inr (3, [.ref r0, .ref r1, .int (jI K)]))] (fun v => v = .int (jI (wF K Ah i j))) := by
  refine jR.intro (by decide +kernel) (Nat.le_of_ble_eq_true rfl) ?_
  intro p e s m args below meth c ls Q F hQ hP hl
  have hx := F.1
  have hb := F.2.1
  have hl : lv_has ls 5 [(0, .ref be), (1, .ref sp), (2, .int (jI i)), (3, .int (jI j))] := hl
  refine lv_aload_n hx hb dX0_worthFrom_0 rfl (lv_at hl 1 rfl) ?_
  refine jr_V F (kX3_length l D cA sp r0 r1 K) cvX0_41 hP [2] rfl 2 rfl rfl hl ⟨rfl, rfl, by decide, by decide⟩ rfl rfl (Nat.le_of_ble_eq_true rfl) dX0_worthFrom_1 ⟨by decide, by decide⟩ (fun v hv => ?_)
  subst hv
  refine lv_istore (lv' := [(4, .int (jI K)), (0, .ref be), (1, .ref sp), (2, .int (jI i)), (3, .int (jI j))]) hx hb dX0_worthFrom_4 hl (by decide) rfl (fun ls hl => ?_)
  refine lv_bipush (v := jI 10) hx hb dX0_worthFrom_6 (by decide +kernel) ?_
  refine lv_iload hx hb dX0_worthFrom_8 (lv_at hl 0 rfl) ?_
  refine jv_imul hx hb dX0_worthFrom_10 ?_
  refine lv_iconst (v := jI 0) hx hb dX0_worthFrom_11 rfl ?_
  refine lv_aload_n hx hb dX0_worthFrom_12 rfl (lv_at hl 1 rfl) ?_
  refine jv_get (v := .ref ah) F hP 0 rfl flX0_11 rfl dX0_worthFrom_13 ?_
  refine lv_iload_n hx hb dX0_worthFrom_16 rfl (lv_at hl 3 rfl) ?_
  refine lv_iload hx hb dX0_worthFrom_17 (lv_at hl 0 rfl) ?_
  refine jv_iadd hx hb dX0_worthFrom_19 ?_
  refine lv_bipush (v := jI 49) hx hb dX0_worthFrom_20 (by decide +kernel) ?_
  refine jv_imul hx hb dX0_worthFrom_22 ?_
  refine lv_iload_n hx hb dX0_worthFrom_23 rfl (lv_at hl 4 rfl) ?_
  refine jv_iadd hx hb dX0_worthFrom_24 ?_
  refine lv_iload hx hb dX0_worthFrom_25 (lv_at hl 0 rfl) ?_
  refine jv_iadd hx hb dX0_worthFrom_27 ?_
  refine jv_iald (fa := Ah) F hP 1 rfl (by omega) (by decide) dX0_worthFrom_28 ?_
  rw [show (i + K) * 49 + j + K = (i + K) * 49 + (j + K) by omega]
  refine jv_mmax F wmX0_61 hl (by decide) (Nat.le_of_ble_eq_true rfl) ⟨by decide, by decide⟩ (by omega) (by omega) dX0_worthFrom_29 ?_
  refine jv_iadd hx hb dX0_worthFrom_32 ?_
  exact jR.ri F hQ rfl dX0_worthFrom_33 (by rfl)
set_option maxHeartbeats 4000000 in
set_option maxRecDepth 100000 in
theorem kX0_mostFrom (l : Launch) (D : va_G) (cA : ClassId) (be ah pa : Nat) (sz to : Int) (Ah : Int → Int) (sp r0 a0 r1 a1 : Nat) (n0 n1 K : Int) (L0 L1 : Int → Int) (g a b : Int) (hn0 : 0 ≤ n0 ∧ n0 ≤ 48) (hn1 : 0 ≤ n1 ∧ n1 ≤ 48) (hK : 1 ≤ K ∧ K ≤ 6) (hL0 : ∀ x, 0 ≤ L0 x ∧ L0 x ≤ 3) (hL1 : ∀ x, 0 ≤ L1 x ∧ L1 x ≤ 3) (hg : 0 ≤ g ∧ g ≤ 9) (ha : 0 ≤ a ∧ a ≤ n0) (hb0 : 0 ≤ b ∧ b ≤ n1) (h1 : a < n0 → b < n1 → bnd n0 n1 (a + 1) b (Ah ((a + 1) * 49 + b))) (h2 : a < n0 → b < n1 → bnd n0 n1 a (b + 1) (Ah (a * 49 + (b + 1)))) (h3 : anc L0 L1 n0 n1 K a b → bnd n0 n1 (a + K) (b + K) (Ah ((a + K) * 49 + (b + K)))) : jR l YX0_mostFrom (rmk 2 0 0 44) D cA [.ref be, .ref sp, .int (jI g), .int (jI a), .int (jI b)] [(be, .inr (0, [.ref ah, .ref pa, .int (jI sz), .int (jI to)])), (ah, .inl (cA, 2401, .inl (jA Ah))), (sp, .inr (3, [.ref r0, .ref r1, .int (jI K)])), (r0, .inr (1, [.ref a0, .int (jI n0)])), (a0, .inl (cA, 48, .inl (jA L0))), (r1, .inr (1, [.ref a1, .int (jI n1)])), (a1, .inl (cA, 48, .inl (jA L1)))] (fun v => ∃ z : Int, v = .int (jI z) ∧ mOK (anc L0 L1 n0 n1 K) n0 n1 K g Ah a b z) := by
  refine jR.intro (by decide +kernel) (Nat.le_of_ble_eq_true rfl) ?_
  intro p e s m args below meth c ls Q F hQ hP hl
  have hx := F.1
  have hb := F.2.1
  have hl : lv_has ls 6 [(0, .ref be), (1, .ref sp), (2, .int (jI g)), (3, .int (jI a)), (4, .int (jI b))] := hl
  refine lv_iload_n hx hb dX0_mostFrom_0 rfl (lv_at hl 3 rfl) ?_
  refine lv_aload_n hx hb dX0_mostFrom_1 rfl (lv_at hl 1 rfl) ?_
  refine jr_V F (kX3_firstSize l D cA sp r0 r1 a0 K n0 L0) cvX0_51 hP [2, 3, 4] rfl 2 rfl rfl hl ⟨rfl, rfl, by decide, by decide⟩ rfl rfl (Nat.le_of_ble_eq_true rfl) dX0_mostFrom_2 ⟨by decide, by decide⟩ (fun v hv => ?_)
  subst hv
  refine jv_icmp_eq (tgt := 17) hx hb dX0_mostFrom_5 rfl (by omega) (by omega) (fun c5 => ?_) (fun c5 => ?_)
  · refine lv_ldc (v := jI (-1000000)) hx hb F.own (F.wd wcX0_60) dX0_mostFrom_17 ?_
    exact jR.ri F hQ rfl dX0_mostFrom_19 (by exact ⟨_, rfl, fun _ => rfl, fun h => (h (by omega)).elim⟩)
  · refine lv_iload hx hb dX0_mostFrom_8 (lv_at hl 4 rfl) ?_
    refine lv_aload_n hx hb dX0_mostFrom_10 rfl (lv_at hl 1 rfl) ?_
    refine jr_V F (kX3_secondSize l D cA sp r0 r1 a1 K n1 L1) cvX0_54 hP [2, 5, 6] rfl 2 rfl rfl hl ⟨rfl, rfl, by decide, by decide⟩ rfl rfl (Nat.le_of_ble_eq_true rfl) dX0_mostFrom_11 ⟨by decide, by decide⟩ (fun v hv => ?_)
    subst hv
    refine jv_icmp_ne (tgt := 20) hx hb dX0_mostFrom_14 rfl (by omega) (by omega) (fun c14 => ?_) (fun c14 => ?_)
    · refine lv_aload_n hx hb dX0_mostFrom_20 rfl (lv_at hl 0 rfl) ?_
      refine jv_get (v := .ref ah) F hP 0 rfl flX0_11 rfl dX0_mostFrom_21 ?_
      refine lv_iload_n hx hb dX0_mostFrom_24 rfl (lv_at hl 3 rfl) ?_
      refine lv_iconst (v := jI 1) hx hb dX0_mostFrom_25 rfl ?_
      refine jv_iadd hx hb dX0_mostFrom_26 ?_
      refine lv_bipush (v := jI 49) hx hb dX0_mostFrom_27 (by decide +kernel) ?_
      refine jv_imul hx hb dX0_mostFrom_29 ?_
      refine lv_iload hx hb dX0_mostFrom_30 (lv_at hl 4 rfl) ?_
      refine jv_iadd hx hb dX0_mostFrom_32 ?_
      refine jv_iald (fa := Ah) F hP 1 rfl (by omega) (by decide) dX0_mostFrom_33 ?_
      refine lv_aload_n hx hb dX0_mostFrom_34 rfl (lv_at hl 0 rfl) ?_
      refine jv_get (v := .ref ah) F hP 0 rfl flX0_11 rfl dX0_mostFrom_35 ?_
      refine lv_iload_n hx hb dX0_mostFrom_38 rfl (lv_at hl 3 rfl) ?_
      refine lv_bipush (v := jI 49) hx hb dX0_mostFrom_39 (by decide +kernel) ?_
      refine jv_imul hx hb dX0_mostFrom_41 ?_
      refine lv_iload hx hb dX0_mostFrom_42 (lv_at hl 4 rfl) ?_
      refine jv_iadd hx hb dX0_mostFrom_44 ?_
      refine lv_iconst (v := jI 1) hx hb dX0_mostFrom_45 rfl ?_
      refine jv_iadd hx hb dX0_mostFrom_46 ?_
      refine jv_iald (fa := Ah) F hP 1 rfl (by omega) (by decide) dX0_mostFrom_47 ?_
      rw [show a * 49 + b + 1 = a * 49 + (b + 1) by omega]
      have b1 := h1 (by omega) (by omega)
      have b2 := h2 (by omega) (by omega)
      refine jv_mmax F wmX0_61 hl (by decide) (Nat.le_of_ble_eq_true rfl) ⟨by decide, by decide⟩ (by omega) (by omega) dX0_mostFrom_48 ?_
      refine lv_iload_n hx hb dX0_mostFrom_51 rfl (lv_at hl 2 rfl) ?_
      refine jv_isub hx hb dX0_mostFrom_52 ?_
      refine lv_istore (lv' := [(5, .int (jI ((max (Ah (((a + 1) * 49) + b)) (Ah (a * 49 + (b + 1)))) - g))), (0, .ref be), (1, .ref sp), (2, .int (jI g)), (3, .int (jI a)), (4, .int (jI b))]) hx hb dX0_mostFrom_53 hl (by decide) rfl (fun ls hl => ?_)
      refine lv_aload_n hx hb dX0_mostFrom_55 rfl (lv_at hl 2 rfl) ?_
      refine lv_iload_n hx hb dX0_mostFrom_56 rfl (lv_at hl 4 rfl) ?_
      refine lv_iload hx hb dX0_mostFrom_57 (lv_at hl 5 rfl) ?_
      refine jr_V F (kX3_isSeed l D cA sp r0 a0 r1 a1 n0 n1 K L0 L1 a b (by omega) (by omega) (by omega) hL0 hL1 (by omega) (by omega)) cvX0_66 hP [2, 3, 4, 5, 6] rfl 2 rfl rfl hl ⟨rfl, rfl, by decide, by decide⟩ rfl rfl (Nat.le_of_ble_eq_true rfl) dX0_mostFrom_59 ⟨by decide, by decide⟩ (fun v hv => ?_)
      subst hv
      have hb59 := jB_01 (anc L0 L1 n0 n1 K a b)
      refine jv_if_eq (tgt := 81) hx hb dX0_mostFrom_62 rfl (by omega) (fun c62 => ?_) (fun c62 => ?_)
      · refine lv_iload hx hb dX0_mostFrom_81 (lv_at hl 0 rfl) ?_
        exact jR.ri F hQ rfl dX0_mostFrom_83 (by exact ⟨_, rfl, fun h => by omega, fun _ => ⟨fun h => (jB_0 c62 h).elim, fun _ => rfl⟩⟩)
      · have hGa := jB_1 c62
        have hGi := anc_in a b hGa
        have b3 := h3 hGa
        refine lv_iload hx hb dX0_mostFrom_65 (lv_at hl 0 rfl) ?_
        refine lv_aload_n hx hb dX0_mostFrom_67 rfl (lv_at hl 1 rfl) ?_
        refine lv_aload_n hx hb dX0_mostFrom_68 rfl (lv_at hl 2 rfl) ?_
        refine lv_iload_n hx hb dX0_mostFrom_69 rfl (lv_at hl 4 rfl) ?_
        refine lv_iload hx hb dX0_mostFrom_70 (lv_at hl 5 rfl) ?_
        refine jr_V F (kX0_worthFrom l D cA be ah pa sz to Ah sp r0 r1 K a b (by omega) (by omega) (by omega) (by omega)) cvX0_37 hP [0, 1, 2] rfl 0 rfl rfl hl ⟨rfl, rfl, by decide, by decide⟩ rfl rfl (Nat.le_of_ble_eq_true rfl) dX0_mostFrom_72 ⟨by decide, by decide⟩ (fun v hv => ?_)
        subst hv
        refine jv_mmax F wmX0_61 hl (by decide) (Nat.le_of_ble_eq_true rfl) ⟨by decide, by decide⟩ (by omega) (by unfold wF; omega) dX0_mostFrom_75 ?_
        refine lv_goto (tgt := 83) hx hb dX0_mostFrom_78 rfl ?_
        exact jR.ri F hQ rfl dX0_mostFrom_83 (by exact ⟨_, rfl, fun h => by omega, fun _ => ⟨fun _ => rfl, fun h => (h (jB_1 c62)).elim⟩⟩)
    · refine lv_ldc (v := jI (-1000000)) hx hb F.own (F.wd wcX0_60) dX0_mostFrom_17 ?_
      exact jR.ri F hQ rfl dX0_mostFrom_19 (by exact ⟨_, rfl, fun _ => rfl, fun h => (h (by omega)).elim⟩)
set_option maxHeartbeats 4000000 in
set_option maxRecDepth 100000 in
theorem kX0_lookAhead (l : Launch) (D : va_G) (cA : ClassId) (be ah pa : Nat) (sz to : Int) (Ah : Int → Int) (sp r0 a0 r1 a1 : Nat) (n0 n1 K : Int) (L0 L1 : Int → Int) (g : Int) (hn0 : 0 ≤ n0 ∧ n0 ≤ 48) (hn1 : 0 ≤ n1 ∧ n1 ≤ 48) (hK : 1 ≤ K ∧ K ≤ 6) (hL0 : ∀ x, 0 ≤ L0 x ∧ L0 x ≤ 3) (hL1 : ∀ x, 0 ≤ L1 x ∧ L1 x ≤ 3) (hg : 0 ≤ g ∧ g ≤ 9) : jM l YX0_lookAhead (rmk 3 0 0 69) D cA [.ref be, .ref sp, .int (jI g)] [(be, .inr (0, [.ref ah, .ref pa, .int (jI sz), .int (jI to)])), (ah, .inl (cA, 2401, .inl (jA Ah))), (sp, .inr (3, [.ref r0, .ref r1, .int (jI K)])), (r0, .inr (1, [.ref a0, .int (jI n0)])), (a0, .inl (cA, 48, .inl (jA L0))), (r1, .inr (1, [.ref a1, .int (jI n1)])), (a1, .inl (cA, 48, .inl (jA L1)))] (fun v w => v = none ∧ ∃ A2 : Int → Int, aAll (anc L0 L1 n0 n1 K) n0 n1 K g A2 ∧ w = [(be, .inr (0, [.ref ah, .ref pa, .int (jI sz), .int (jI to)])), (ah, .inl (cA, 2401, .inl (jA A2))), (sp, .inr (3, [.ref r0, .ref r1, .int (jI K)])), (r0, .inr (1, [.ref a0, .int (jI n0)])), (a0, .inl (cA, 48, .inl (jA L0))), (r1, .inr (1, [.ref a1, .int (jI n1)])), (a1, .inl (cA, 48, .inl (jA L1)))]) 0 0 := by
  refine jM.intro (by decide +kernel) (Nat.le_of_ble_eq_true rfl) ?_
  intro p e s m args below meth c ls Q A F hQ hA hP hD hS hl
  have hx := F.1
  have hb := F.2.1
  have hl : lv_has ls 5 [(0, .ref be), (1, .ref sp), (2, .int (jI g))] := hl
  refine lv_aload_n hx hb dX0_lookAhead_0 rfl (lv_at hl 1 rfl) ?_
  refine jr_V F (kX3_firstSize l D cA sp r0 r1 a0 K n0 L0) cvX0_51 hP [2, 3, 4] rfl 2 rfl rfl hl ⟨rfl, rfl, by decide, by decide⟩ rfl rfl (Nat.le_of_ble_eq_true rfl) dX0_lookAhead_1 ⟨by decide, by decide⟩ (fun v hv => ?_)
  subst hv
  refine lv_istore_n (lv' := [(3, .int (jI n0)), (0, .ref be), (1, .ref sp), (2, .int (jI g))]) hx hb dX0_lookAhead_4 rfl hl (by decide) rfl (fun ls hl => ?_)
  have lp5 : ∀ (fu : Nat) (a : Int) (A0 : Int → Int) (ls : Array Slot) (H : Heap) (locs : List Loc), a + 1 < (fu : Int) → (-1 ≤ a ∧ a ≤ n0) → (∀ x y, a < x → x ≤ n0 → 0 ≤ y → y ≤ n1 → aOK (anc L0 L1 n0 n1 K) n0 n1 K g A0 x y) → lv_has ls 5 [(3, .int (jI a)), (0, .ref be), (1, .ref sp), (2, .int (jI g))] → va_P D cls [(be, .inr (0, [.ref ah, .ref pa, .int (jI sz), .int (jI to)])), (ah, .inl (cA, 2401, .inl (jA A0))), (sp, .inr (3, [.ref r0, .ref r1, .int (jI K)])), (r0, .inr (1, [.ref a0, .int (jI n0)])), (a0, .inl (cA, 48, .inl (jA L0))), (r1, .inr (1, [.ref a1, .int (jI n1)])), (a1, .inl (cA, 48, .inl (jA L1)))] H → va_D A [(be, .inr (0, [.ref ah, .ref pa, .int (jI sz), .int (jI to)])), (ah, .inl (cA, 2401, .inl (jA A0))), (sp, .inr (3, [.ref r0, .ref r1, .int (jI K)])), (r0, .inr (1, [.ref a0, .int (jI n0)])), (a0, .inl (cA, 48, .inl (jA L0))), (r1, .inr (1, [.ref a1, .int (jI n1)])), (a1, .inl (cA, 48, .inl (jA L1)))] → va_S A s.heap H locs → W p l e (rmk 3 0 0 69) s m args below meth c H locs 0 0 Q (F0 m 5 ls []) := by
    intro fu
    induction fu with
    | zero => intro a A0 ls H locs hfu ha hd hl hP hD hS; exfalso; omega
    | succ fu ih5 =>
      intro a A0 ls H locs hfu ha hd hl hP hD hS
      refine lv_iload_n hx hb dX0_lookAhead_5 rfl (lv_at hl 0 rfl) ?_
      refine jv_if_lt (tgt := 53) hx hb dX0_lookAhead_6 rfl (by omega) (fun c6 => ?_) (fun c6 => ?_)
      · exact jM.rv F hQ rfl dX0_lookAhead_53 hS hP hD (by exact ⟨rfl, _, fun x y x0 x1 y0 y1 => hd x y (by omega) x1 y0 y1, rfl⟩)
      · refine lv_aload_n hx hb dX0_lookAhead_9 rfl (lv_at hl 2 rfl) ?_
        refine jr_V F (kX3_secondSize l D cA sp r0 r1 a1 K n1 L1) cvX0_54 hP [2, 5, 6] rfl 2 rfl rfl hl ⟨rfl, rfl, by decide, by decide⟩ rfl rfl (Nat.le_of_ble_eq_true rfl) dX0_lookAhead_10 ⟨by decide, by decide⟩ (fun v hv => ?_)
        subst hv
        refine lv_istore (lv' := [(4, .int (jI n1)), (3, .int (jI a)), (0, .ref be), (1, .ref sp), (2, .int (jI g))]) hx hb dX0_lookAhead_13 hl (by decide) rfl (fun ls hl => ?_)
        have lp15 : ∀ (fu : Nat) (b : Int) (A1 : Int → Int) (ls : Array Slot) (H : Heap) (locs : List Loc), b + 1 < (fu : Int) → (-1 ≤ b ∧ b ≤ n1) → (∀ x y, a < x → x ≤ n0 → 0 ≤ y → y ≤ n1 → aOK (anc L0 L1 n0 n1 K) n0 n1 K g A1 x y) → (∀ y, b < y → y ≤ n1 → aOK (anc L0 L1 n0 n1 K) n0 n1 K g A1 a y) → lv_has ls 5 [(4, .int (jI b)), (3, .int (jI a)), (0, .ref be), (1, .ref sp), (2, .int (jI g))] → va_P D cls [(be, .inr (0, [.ref ah, .ref pa, .int (jI sz), .int (jI to)])), (ah, .inl (cA, 2401, .inl (jA A1))), (sp, .inr (3, [.ref r0, .ref r1, .int (jI K)])), (r0, .inr (1, [.ref a0, .int (jI n0)])), (a0, .inl (cA, 48, .inl (jA L0))), (r1, .inr (1, [.ref a1, .int (jI n1)])), (a1, .inl (cA, 48, .inl (jA L1)))] H → va_D A [(be, .inr (0, [.ref ah, .ref pa, .int (jI sz), .int (jI to)])), (ah, .inl (cA, 2401, .inl (jA A1))), (sp, .inr (3, [.ref r0, .ref r1, .int (jI K)])), (r0, .inr (1, [.ref a0, .int (jI n0)])), (a0, .inl (cA, 48, .inl (jA L0))), (r1, .inr (1, [.ref a1, .int (jI n1)])), (a1, .inl (cA, 48, .inl (jA L1)))] → va_S A s.heap H locs → W p l e (rmk 3 0 0 69) s m args below meth c H locs 0 0 Q (F0 m 15 ls []) := by
          intro fu
          induction fu with
          | zero => intro b A1 ls H locs hfu hb0 hd1 hd2 hl hP hD hS; exfalso; omega
          | succ fu ih15 =>
            intro b A1 ls H locs hfu hb0 hd1 hd2 hl hP hD hS
            refine lv_iload hx hb dX0_lookAhead_15 (lv_at hl 0 rfl) ?_
            refine jv_if_lt (tgt := 47) hx hb dX0_lookAhead_17 rfl (by omega) (fun c17 => ?_) (fun c17 => ?_)
            · refine lv_iinc (k := 1) (v := jI (a + (-1))) (lv' := [(3, .int (jI (a + (-1)))), (4, .int (jI b)), (0, .ref be), (1, .ref sp), (2, .int (jI g))]) hx hb dX0_lookAhead_47 hl rfl (jI_add _ _) (by decide) rfl (fun ls hl => ?_)
              refine lv_goto (tgt := 5) hx hb dX0_lookAhead_50 rfl ?_
              refine ih5 (a + (-1)) A1 ls H locs (by omega) ?_ ?_ (lv_sub hl [0, 2, 3, 4] rfl) hP hD hS
              · omega
              · intro x y x0 x1 y0 y1
                by_cases e : x = a
                · subst e; exact hd2 y (by omega) y1
                · exact hd1 x y (by omega) x1 y0 y1
            · refine lv_aload_n hx hb dX0_lookAhead_20 rfl (lv_at hl 2 rfl) ?_
              refine jv_get (v := .ref ah) F hP 0 rfl flX0_11 rfl dX0_lookAhead_21 ?_
              refine lv_iload_n hx hb dX0_lookAhead_24 rfl (lv_at hl 1 rfl) ?_
              refine lv_bipush (v := jI 49) hx hb dX0_lookAhead_25 (by decide +kernel) ?_
              refine jv_imul hx hb dX0_lookAhead_27 ?_
              refine lv_iload hx hb dX0_lookAhead_28 (lv_at hl 0 rfl) ?_
              refine jv_iadd hx hb dX0_lookAhead_30 ?_
              refine lv_aload_n hx hb dX0_lookAhead_31 rfl (lv_at hl 2 rfl) ?_
              refine lv_aload_n hx hb dX0_lookAhead_32 rfl (lv_at hl 3 rfl) ?_
              refine lv_iload_n hx hb dX0_lookAhead_33 rfl (lv_at hl 4 rfl) ?_
              refine lv_iload_n hx hb dX0_lookAhead_34 rfl (lv_at hl 1 rfl) ?_
              refine lv_iload hx hb dX0_lookAhead_35 (lv_at hl 0 rfl) ?_
              refine jr_V F (kX0_mostFrom l D cA be ah pa sz to A1 sp r0 a0 r1 a1 n0 n1 K L0 L1 g a b (by omega) (by omega) (by omega) hL0 hL1 (by omega) (by omega) (by omega) (fun h5 h6 => (hd1 _ _ (by omega) (by omega) (by omega) (by omega)).2) (fun h5 h6 => (hd2 _ (by omega) (by omega)).2) (fun h5 => (hd1 _ _ (by omega) (by have := anc_in a b h5; omega) (by omega) (by have := anc_in a b h5; omega)).2)) cvX0_57 hP [0, 1, 2, 3, 4, 5, 6] rfl 0 rfl rfl hl ⟨rfl, rfl, by decide, by decide⟩ rfl rfl (Nat.le_of_ble_eq_true rfl) dX0_lookAhead_37 ⟨by decide, by decide⟩ (fun v hv => ?_)
              obtain ⟨z37, rfl, hz37⟩ := hv
              refine jv_iast (fa := A1) F hP hD hS 1 rfl (by omega) (by decide) dX0_lookAhead_40 (fun H locs hP hD hS => ?_)
              have hP : va_P D cls [(be, .inr (0, [.ref ah, .ref pa, .int (jI sz), .int (jI to)])), (ah, .inl (cA, 2401, .inl (jA (jU A1 ((a * 49) + b) z37)))), (sp, .inr (3, [.ref r0, .ref r1, .int (jI K)])), (r0, .inr (1, [.ref a0, .int (jI n0)])), (a0, .inl (cA, 48, .inl (jA L0))), (r1, .inr (1, [.ref a1, .int (jI n1)])), (a1, .inl (cA, 48, .inl (jA L1)))] H := hP
              have hD : va_D A [(be, .inr (0, [.ref ah, .ref pa, .int (jI sz), .int (jI to)])), (ah, .inl (cA, 2401, .inl (jA (jU A1 ((a * 49) + b) z37)))), (sp, .inr (3, [.ref r0, .ref r1, .int (jI K)])), (r0, .inr (1, [.ref a0, .int (jI n0)])), (a0, .inl (cA, 48, .inl (jA L0))), (r1, .inr (1, [.ref a1, .int (jI n1)])), (a1, .inl (cA, 48, .inl (jA L1)))] := hD
              refine lv_iinc (k := 0) (v := jI (b + (-1))) (lv' := [(4, .int (jI (b + (-1)))), (3, .int (jI a)), (0, .ref be), (1, .ref sp), (2, .int (jI g))]) hx hb dX0_lookAhead_41 hl rfl (jI_add _ _) (by decide) rfl (fun ls hl => ?_)
              refine lv_goto (tgt := 15) hx hb dX0_lookAhead_44 rfl ?_
              refine ih15 (b + (-1)) (jU A1 ((a * 49) + b) z37) ls H locs (by omega) ?_ ?_ ?_ (lv_sub hl [0, 1, 2, 3, 4] rfl) hP hD hS
              · omega
              · intro x y x0 x1 y0 y1
                exact aOK_upd anc_in hK.1 hn1.2 (by omega) ⟨y0, y1⟩ (Or.inl (by omega)) (hd1 x y x0 x1 y0 y1)
              · intro y y0 y1
                by_cases e : y = b
                · subst e
                  have hm := mOK_upd (w := z37) anc_in hK.1 hn1.2 (a := a) (b := y) (by omega) (by omega) (Or.inr ⟨rfl, rfl⟩) hz37
                  have hbn : bnd n0 n1 a y z37 := mOK_bnd anc_in hK.1 hg (by omega) (by omega) hz37 (fun h5 h6 => (hd1 _ _ (by omega) (by omega) (by omega) (by omega)).2) (fun h5 h6 => (hd2 _ (by omega) (by omega)).2) (fun h5 => (hd1 _ _ (by omega) (by have := anc_in a y h5; omega) (by omega) (by have := anc_in a y h5; omega)).2)
                  unfold aOK
                  rw [jU_s]
                  exact ⟨hm, hbn⟩
                · exact aOK_upd anc_in hK.1 hn1.2 (by omega) (by omega) (Or.inr ⟨rfl, by omega⟩) (hd2 y (by omega) y1)
        refine lp15 (Int.toNat (n1 + 1) + 1) n1 A0 ls H locs (by omega) ?_ ?_ ?_ (lv_sub hl [0, 1, 2, 3, 4] rfl) hP hD hS
        · omega
        · exact hd
        · intro y; omega
  refine lp5 (Int.toNat (n0 + 1) + 1) n0 Ah ls s.heap [] (by omega) ?_ ?_ (lv_sub hl [0, 1, 2, 3] rfl) hP hD hS
  · omega
  · intro x y; omega
set_option maxHeartbeats 4000000 in
set_option maxRecDepth 100000 in
theorem kX0_firstPair (l : Launch) (D : va_G) (cA : ClassId) (be ah pa : Nat) (sz to : Int) (Ah : Int → Int) (sp r0 a0 r1 a1 : Nat) (n0 n1 K : Int) (L0 L1 : Int → Int) (g : Int) (hn0 : 0 ≤ n0 ∧ n0 ≤ 48) (hn1 : 0 ≤ n1 ∧ n1 ≤ 48) (hK : 1 ≤ K ∧ K ≤ 6) (hL0 : ∀ x, 0 ≤ L0 x ∧ L0 x ≤ 3) (hL1 : ∀ x, 0 ≤ L1 x ∧ L1 x ≤ 3) (hg : 0 ≤ g ∧ g ≤ 9) (hA : aAll (anc L0 L1 n0 n1 K) n0 n1 K g Ah) : jR l YX0_firstPair (rmk 2 0 0 44) D cA [.ref be, .ref sp] [(be, .inr (0, [.ref ah, .ref pa, .int (jI sz), .int (jI to)])), (ah, .inl (cA, 2401, .inl (jA Ah))), (sp, .inr (3, [.ref r0, .ref r1, .int (jI K)])), (r0, .inr (1, [.ref a0, .int (jI n0)])), (a0, .inl (cA, 48, .inl (jA L0))), (r1, .inr (1, [.ref a1, .int (jI n1)])), (a1, .inl (cA, 48, .inl (jA L1)))] (fun v => ∃ z : Int, v = .int (jI z) ∧ fpR (anc L0 L1 n0 n1 K) (wF K Ah) z) := by
  refine jR.intro (by decide +kernel) (Nat.le_of_ble_eq_true rfl) ?_
  intro p e s m args below meth c ls Q F hQ hP hl
  have hx := F.1
  have hb := F.2.1
  have hl : lv_has ls 6 [(0, .ref be), (1, .ref sp)] := hl
  refine lv_iconst (v := jI (-1)) hx hb dX0_firstPair_0 rfl ?_
  refine lv_istore_n (lv' := [(2, .int (jI (-1))), (0, .ref be), (1, .ref sp)]) hx hb dX0_firstPair_1 rfl hl (by decide) rfl (fun ls hl => ?_)
  refine lv_iconst (v := jI 0) hx hb dX0_firstPair_2 rfl ?_
  refine lv_istore_n (lv' := [(3, .int (jI 0)), (2, .int (jI (-1))), (0, .ref be), (1, .ref sp)]) hx hb dX0_firstPair_3 rfl hl (by decide) rfl (fun ls hl => ?_)
  refine lv_iconst (v := jI 0) hx hb dX0_firstPair_4 rfl ?_
  refine lv_istore (lv' := [(4, .int (jI 0)), (3, .int (jI 0)), (2, .int (jI (-1))), (0, .ref be), (1, .ref sp)]) hx hb dX0_firstPair_5 hl (by decide) rfl (fun ls hl => ?_)
  have lp7 : ∀ (fu : Nat) (fo : Int) (mo : Int) (i : Int) (ls : Array Slot), n0 - i < (fu : Int) → (0 ≤ i ∧ i ≤ n0) → (0 ≤ mo ∧ mo ≤ 1000) → (fpP (anc L0 L1 n0 n1 K) (wF K Ah) fo mo i 0) → lv_has ls 6 [(4, .int (jI i)), (3, .int (jI mo)), (2, .int (jI fo)), (0, .ref be), (1, .ref sp)] → W p l e (rmk 2 0 0 44) s m args below meth c s.heap [] 0 0 Q (F0 m 7 ls []) := by
    intro fu
    induction fu with
    | zero => intro fo mo i ls hfu hi hmo hf hl; exfalso; omega
    | succ fu ih7 =>
      intro fo mo i ls hfu hi hmo hf hl
      refine lv_iload hx hb dX0_firstPair_7 (lv_at hl 0 rfl) ?_
      refine lv_aload_n hx hb dX0_firstPair_9 rfl (lv_at hl 4 rfl) ?_
      refine jr_V F (kX3_firstSize l D cA sp r0 r1 a0 K n0 L0) cvX0_51 hP [2, 3, 4] rfl 2 rfl rfl hl ⟨rfl, rfl, by decide, by decide⟩ rfl rfl (Nat.le_of_ble_eq_true rfl) dX0_firstPair_10 ⟨by decide, by decide⟩ (fun v hv => ?_)
      subst hv
      refine jv_icmp_ge (tgt := 82) hx hb dX0_firstPair_13 rfl (by omega) (by omega) (fun c13 => ?_) (fun c13 => ?_)
      · refine lv_iload_n hx hb dX0_firstPair_82 rfl (lv_at hl 2 rfl) ?_
        exact jR.ri F hQ rfl dX0_firstPair_83 (by exact ⟨_, rfl, fp_end anc_in hK.1 (by omega) hf⟩)
      · refine lv_iconst (v := jI 0) hx hb dX0_firstPair_16 rfl ?_
        refine lv_istore (lv' := [(5, .int (jI 0)), (4, .int (jI i)), (3, .int (jI mo)), (2, .int (jI fo)), (0, .ref be), (1, .ref sp)]) hx hb dX0_firstPair_17 hl (by decide) rfl (fun ls hl => ?_)
        have lp19 : ∀ (fu : Nat) (f1 : Int) (m1 : Int) (j : Int) (ls : Array Slot), n1 - j < (fu : Int) → (0 ≤ j ∧ j ≤ n1) → (0 ≤ m1 ∧ m1 ≤ 1000) → (fpP (anc L0 L1 n0 n1 K) (wF K Ah) f1 m1 i j) → lv_has ls 6 [(5, .int (jI j)), (4, .int (jI i)), (3, .int (jI m1)), (2, .int (jI f1)), (0, .ref be), (1, .ref sp)] → W p l e (rmk 2 0 0 44) s m args below meth c s.heap [] 0 0 Q (F0 m 19 ls []) := by
          intro fu
          induction fu with
          | zero => intro f1 m1 j ls hfu hj hm1 hf1 hl; exfalso; omega
          | succ fu ih19 =>
            intro f1 m1 j ls hfu hj hm1 hf1 hl
            refine lv_iload hx hb dX0_firstPair_19 (lv_at hl 0 rfl) ?_
            refine lv_aload_n hx hb dX0_firstPair_21 rfl (lv_at hl 5 rfl) ?_
            refine jr_V F (kX3_secondSize l D cA sp r0 r1 a1 K n1 L1) cvX0_54 hP [2, 5, 6] rfl 2 rfl rfl hl ⟨rfl, rfl, by decide, by decide⟩ rfl rfl (Nat.le_of_ble_eq_true rfl) dX0_firstPair_22 ⟨by decide, by decide⟩ (fun v hv => ?_)
            subst hv
            refine jv_icmp_ge (tgt := 76) hx hb dX0_firstPair_25 rfl (by omega) (by omega) (fun c25 => ?_) (fun c25 => ?_)
            · refine lv_iinc (k := 1) (v := jI (i + 1)) (lv' := [(4, .int (jI (i + 1))), (5, .int (jI j)), (3, .int (jI m1)), (2, .int (jI f1)), (0, .ref be), (1, .ref sp)]) hx hb dX0_firstPair_76 hl rfl (jI_add _ _) (by decide) rfl (fun ls hl => ?_)
              refine lv_goto (tgt := 7) hx hb dX0_firstPair_79 rfl ?_
              refine ih7 f1 m1 (i + 1) ls  (by omega) ?_ ?_ ?_ (lv_sub hl [0, 2, 3, 4, 5] rfl)
              · omega
              · omega
              · exact fp_row anc_in hK.1 (by omega) hf1
            · refine lv_aload_n hx hb dX0_firstPair_28 rfl (lv_at hl 5 rfl) ?_
              refine lv_iload hx hb dX0_firstPair_29 (lv_at hl 1 rfl) ?_
              refine lv_iload hx hb dX0_firstPair_31 (lv_at hl 0 rfl) ?_
              refine jr_V F (kX3_isSeed l D cA sp r0 a0 r1 a1 n0 n1 K L0 L1 i j (by omega) (by omega) (by omega) hL0 hL1 (by omega) (by omega)) cvX0_66 hP [2, 3, 4, 5, 6] rfl 2 rfl rfl hl ⟨rfl, rfl, by decide, by decide⟩ rfl rfl (Nat.le_of_ble_eq_true rfl) dX0_firstPair_33 ⟨by decide, by decide⟩ (fun v hv => ?_)
              subst hv
              have hb33 := jB_01 (anc L0 L1 n0 n1 K i j)
              refine jv_if_eq (tgt := 70) hx hb dX0_firstPair_36 rfl (by omega) (fun c36 => ?_) (fun c36 => ?_)
              · refine lv_iinc (k := 0) (v := jI (j + 1)) (lv' := [(5, .int (jI (j + 1))), (4, .int (jI i)), (3, .int (jI m1)), (2, .int (jI f1)), (0, .ref be), (1, .ref sp)]) hx hb dX0_firstPair_70 hl rfl (jI_add _ _) (by decide) rfl (fun ls hl => ?_)
                refine lv_goto (tgt := 19) hx hb dX0_firstPair_73 rfl ?_
                refine ih19 f1 m1 (j + 1) ls  (by omega) ?_ ?_ ?_ (lv_sub hl [0, 1, 2, 3, 4, 5] rfl)
                · omega
                · omega
                · first
                    | exact fp_yes hGa (by omega) hf1
                    | exact fp_no (fun _ => by omega) (fun k l hk => by have := (wF_b anc_in hK.1 hA hk).1; omega) hf1
                    | exact fp_no (fun h5 => (jB_0 c36 h5).elim) (fun k l hk => by have := (wF_b anc_in hK.1 hA hk).1; omega) hf1
              · have hGa := jB_1 c36
                have hGi := anc_in _ _ hGa
                have hw0 := wF_b anc_in hK.1 hA hGa
                have hA3 := (hA (i + K) (j + K) (by omega) (by omega) (by omega) (by omega)).2
                refine lv_aload_n hx hb dX0_firstPair_39 rfl (lv_at hl 4 rfl) ?_
                refine lv_aload_n hx hb dX0_firstPair_40 rfl (lv_at hl 5 rfl) ?_
                refine lv_iload hx hb dX0_firstPair_41 (lv_at hl 1 rfl) ?_
                refine lv_iload hx hb dX0_firstPair_43 (lv_at hl 0 rfl) ?_
                refine jr_V F (kX0_worthFrom l D cA be ah pa sz to Ah sp r0 r1 K i j (by omega) (by omega) (by omega) (by omega)) cvX0_37 hP [0, 1, 2] rfl 0 rfl rfl hl ⟨rfl, rfl, by decide, by decide⟩ rfl rfl (Nat.le_of_ble_eq_true rfl) dX0_firstPair_45 ⟨by decide, by decide⟩ (fun v hv => ?_)
                subst hv
                refine lv_iload_n hx hb dX0_firstPair_48 rfl (lv_at hl 2 rfl) ?_
                refine jv_icmp_le (tgt := 70) hx hb dX0_firstPair_49 rfl (by omega) (by omega) (fun c49 => ?_) (fun c49 => ?_)
                · refine lv_iinc (k := 0) (v := jI (j + 1)) (lv' := [(5, .int (jI (j + 1))), (4, .int (jI i)), (3, .int (jI m1)), (2, .int (jI f1)), (0, .ref be), (1, .ref sp)]) hx hb dX0_firstPair_70 hl rfl (jI_add _ _) (by decide) rfl (fun ls hl => ?_)
                  refine lv_goto (tgt := 19) hx hb dX0_firstPair_73 rfl ?_
                  refine ih19 f1 m1 (j + 1) ls  (by omega) ?_ ?_ ?_ (lv_sub hl [0, 1, 2, 3, 4, 5] rfl)
                  · omega
                  · omega
                  · first
                      | exact fp_yes hGa (by omega) hf1
                      | exact fp_no (fun _ => by omega) (fun k l hk => by have := (wF_b anc_in hK.1 hA hk).1; omega) hf1
                      | exact fp_no (fun h5 => (jB_0 c36 h5).elim) (fun k l hk => by have := (wF_b anc_in hK.1 hA hk).1; omega) hf1
                · refine lv_iload hx hb dX0_firstPair_52 (lv_at hl 1 rfl) ?_
                  refine lv_iload hx hb dX0_firstPair_54 (lv_at hl 0 rfl) ?_
                  refine jr_SN F (kX4_pairOf l D cA i j) cnX0_70 hP [] rfl hl ⟨rfl, rfl, by decide, by decide⟩ rfl rfl (Nat.le_of_ble_eq_true rfl) dX0_firstPair_56 ⟨by decide, by decide⟩ (fun v hv => ?_)
                  subst hv
                  refine lv_istore_n (lv' := [(2, .int (jI (i * 48 + j))), (5, .int (jI j)), (4, .int (jI i)), (3, .int (jI m1)), (0, .ref be), (1, .ref sp)]) hx hb dX0_firstPair_59 rfl hl (by decide) rfl (fun ls hl => ?_)
                  refine lv_aload_n hx hb dX0_firstPair_60 rfl (lv_at hl 4 rfl) ?_
                  refine lv_aload_n hx hb dX0_firstPair_61 rfl (lv_at hl 5 rfl) ?_
                  refine lv_iload hx hb dX0_firstPair_62 (lv_at hl 2 rfl) ?_
                  refine lv_iload hx hb dX0_firstPair_64 (lv_at hl 1 rfl) ?_
                  refine jr_V F (kX0_worthFrom l D cA be ah pa sz to Ah sp r0 r1 K i j (by omega) (by omega) (by omega) (by omega)) cvX0_37 hP [0, 1, 2] rfl 0 rfl rfl hl ⟨rfl, rfl, by decide, by decide⟩ rfl rfl (Nat.le_of_ble_eq_true rfl) dX0_firstPair_66 ⟨by decide, by decide⟩ (fun v hv => ?_)
                  subst hv
                  refine lv_istore_n (lv' := [(3, .int (jI (wF K Ah i j))), (2, .int (jI (i * 48 + j))), (5, .int (jI j)), (4, .int (jI i)), (0, .ref be), (1, .ref sp)]) hx hb dX0_firstPair_69 rfl hl (by decide) rfl (fun ls hl => ?_)
                  refine lv_iinc (k := 2) (v := jI (j + 1)) (lv' := [(5, .int (jI (j + 1))), (3, .int (jI (wF K Ah i j))), (2, .int (jI (i * 48 + j))), (4, .int (jI i)), (0, .ref be), (1, .ref sp)]) hx hb dX0_firstPair_70 hl rfl (jI_add _ _) (by decide) rfl (fun ls hl => ?_)
                  refine lv_goto (tgt := 19) hx hb dX0_firstPair_73 rfl ?_
                  refine ih19 (i * 48 + j) (wF K Ah i j) (j + 1) ls  (by omega) ?_ ?_ ?_ (lv_sub hl [0, 3, 1, 2, 4, 5] rfl)
                  · omega
                  · omega
                  · first
                      | exact fp_yes hGa (by omega) hf1
                      | exact fp_no (fun _ => by omega) (fun k l hk => by have := (wF_b anc_in hK.1 hA hk).1; omega) hf1
                      | exact fp_no (fun h5 => (jB_0 c36 h5).elim) (fun k l hk => by have := (wF_b anc_in hK.1 hA hk).1; omega) hf1
        refine lp19 (Int.toNat (n1 - 0) + 1) fo mo 0 ls  (by omega) ?_ ?_ ?_ (lv_sub hl [0, 1, 2, 3, 4, 5] rfl)
        · omega
        · omega
        · exact hf
  refine lp7 (Int.toNat (n0 - 0) + 1) (-1) 0 0 ls  (by omega) ?_ ?_ ?_ (lv_sub hl [0, 1, 2, 3, 4] rfl)
  · omega
  · omega
  · exact fp_0 anc_in
set_option maxHeartbeats 4000000 in
set_option maxRecDepth 100000 in
theorem kX0_nextPair (l : Launch) (D : va_G) (cA : ClassId) (be ah pa : Nat) (sz to : Int) (Ah : Int → Int) (sp r0 a0 r1 a1 : Nat) (n0 n1 K : Int) (L0 L1 : Int → Int) (g a b : Int) (hn0 : 0 ≤ n0 ∧ n0 ≤ 48) (hn1 : 0 ≤ n1 ∧ n1 ≤ 48) (hK : 1 ≤ K ∧ K ≤ 6) (hL0 : ∀ x, 0 ≤ L0 x ∧ L0 x ≤ 3) (hL1 : ∀ x, 0 ≤ L1 x ∧ L1 x ≤ 3) (hg : 0 ≤ g ∧ g ≤ 9) (hA : aAll (anc L0 L1 n0 n1 K) n0 n1 K g Ah) (ha : 0 ≤ a ∧ a ≤ n0) (hb0 : 0 ≤ b ∧ b ≤ n1) : jR l YX0_nextPair (rmk 2 0 0 44) D cA [.ref be, .ref sp, .int (jI g), .int (jI a), .int (jI b)] [(be, .inr (0, [.ref ah, .ref pa, .int (jI sz), .int (jI to)])), (ah, .inl (cA, 2401, .inl (jA Ah))), (sp, .inr (3, [.ref r0, .ref r1, .int (jI K)])), (r0, .inr (1, [.ref a0, .int (jI n0)])), (a0, .inl (cA, 48, .inl (jA L0))), (r1, .inr (1, [.ref a1, .int (jI n1)])), (a1, .inl (cA, 48, .inl (jA L1)))] (fun v => ∃ z : Int, v = .int (jI z) ∧ npR (anc L0 L1 n0 n1 K) (wF K Ah) g a b (Ah (a * 49 + b)) z) := by
  refine jR.intro (by decide +kernel) (Nat.le_of_ble_eq_true rfl) ?_
  intro p e s m args below meth c ls Q F hQ hP hl
  have hx := F.1
  have hb := F.2.1
  have hl : lv_has ls 9 [(0, .ref be), (1, .ref sp), (2, .int (jI g)), (3, .int (jI a)), (4, .int (jI b))] := hl
  have hdu := (hA a b ha.1 ha.2 hb0.1 hb0.2).2
  refine lv_aload_n hx hb dX0_nextPair_0 rfl (lv_at hl 0 rfl) ?_
  refine jv_get (v := .ref ah) F hP 0 rfl flX0_11 rfl dX0_nextPair_1 ?_
  refine lv_iload_n hx hb dX0_nextPair_4 rfl (lv_at hl 3 rfl) ?_
  refine lv_bipush (v := jI 49) hx hb dX0_nextPair_5 (by decide +kernel) ?_
  refine jv_imul hx hb dX0_nextPair_7 ?_
  refine lv_iload hx hb dX0_nextPair_8 (lv_at hl 4 rfl) ?_
  refine jv_iadd hx hb dX0_nextPair_10 ?_
  refine jv_iald (fa := Ah) F hP 1 rfl (by omega) (by decide) dX0_nextPair_11 ?_
  refine lv_istore (lv' := [(5, .int (jI (Ah ((a * 49) + b)))), (0, .ref be), (1, .ref sp), (2, .int (jI g)), (3, .int (jI a)), (4, .int (jI b))]) hx hb dX0_nextPair_12 hl (by decide) rfl (fun ls hl => ?_)
  refine lv_iload hx hb dX0_nextPair_14 (lv_at hl 0 rfl) ?_
  refine jv_if_gt (tgt := 21) hx hb dX0_nextPair_16 rfl (by omega) (fun c16 => ?_) (fun c16 => ?_)
  · refine lv_iload_n hx hb dX0_nextPair_21 rfl (lv_at hl 4 rfl) ?_
    refine lv_istore (lv' := [(6, .int (jI a)), (5, .int (jI (Ah ((a * 49) + b)))), (0, .ref be), (1, .ref sp), (2, .int (jI g)), (3, .int (jI a)), (4, .int (jI b))]) hx hb dX0_nextPair_22 hl (by decide) rfl (fun ls hl => ?_)
    have lp24 : ∀ (fu : Nat) (i : Int) (ls : Array Slot), n0 - i < (fu : Int) → (a ≤ i ∧ i ≤ n0) → (nnP (anc L0 L1 n0 n1 K) (wF K Ah) g a b (Ah (a * 49 + b)) i b) → lv_has ls 9 [(6, .int (jI i)), (5, .int (jI (Ah ((a * 49) + b)))), (0, .ref be), (1, .ref sp), (2, .int (jI g)), (3, .int (jI a)), (4, .int (jI b))] → W p l e (rmk 2 0 0 44) s m args below meth c s.heap [] 0 0 Q (F0 m 24 ls []) := by
      intro fu
      induction fu with
      | zero => intro i ls hfu hi hf hl; exfalso; omega
      | succ fu ih24 =>
        intro i ls hfu hi hf hl
        refine lv_iload hx hb dX0_nextPair_24 (lv_at hl 0 rfl) ?_
        refine lv_aload_n hx hb dX0_nextPair_26 rfl (lv_at hl 3 rfl) ?_
        refine jr_V F (kX3_firstSize l D cA sp r0 r1 a0 K n0 L0) cvX0_51 hP [2, 3, 4] rfl 2 rfl rfl hl ⟨rfl, rfl, by decide, by decide⟩ rfl rfl (Nat.le_of_ble_eq_true rfl) dX0_nextPair_27 ⟨by decide, by decide⟩ (fun v hv => ?_)
        subst hv
        refine jv_icmp_ge (tgt := 108) hx hb dX0_nextPair_30 rfl (by omega) (by omega) (fun c30 => ?_) (fun c30 => ?_)
        · refine lv_iconst (v := jI (-1)) hx hb dX0_nextPair_108 rfl ?_
          exact jR.ri F hQ rfl dX0_nextPair_109 (by exact ⟨_, rfl, Or.inr ⟨by omega, Or.inr ⟨rfl, nn_end anc_in hK.1 (by omega) hf⟩⟩⟩)
        · refine lv_iload hx hb dX0_nextPair_33 (lv_at hl 6 rfl) ?_
          refine lv_istore (lv' := [(7, .int (jI b)), (6, .int (jI i)), (5, .int (jI (Ah ((a * 49) + b)))), (0, .ref be), (1, .ref sp), (2, .int (jI g)), (3, .int (jI a)), (4, .int (jI b))]) hx hb dX0_nextPair_35 hl (by decide) rfl (fun ls hl => ?_)
          have lp37 : ∀ (fu : Nat) (j : Int) (ls : Array Slot), n1 - j < (fu : Int) → (b ≤ j ∧ j ≤ n1) → (nnP (anc L0 L1 n0 n1 K) (wF K Ah) g a b (Ah (a * 49 + b)) i j) → lv_has ls 9 [(7, .int (jI j)), (6, .int (jI i)), (5, .int (jI (Ah ((a * 49) + b)))), (0, .ref be), (1, .ref sp), (2, .int (jI g)), (3, .int (jI a)), (4, .int (jI b))] → W p l e (rmk 2 0 0 44) s m args below meth c s.heap [] 0 0 Q (F0 m 37 ls []) := by
            intro fu
            induction fu with
            | zero => intro j ls hfu hj hf1 hl; exfalso; omega
            | succ fu ih37 =>
              intro j ls hfu hj hf1 hl
              refine lv_iload hx hb dX0_nextPair_37 (lv_at hl 0 rfl) ?_
              refine lv_aload_n hx hb dX0_nextPair_39 rfl (lv_at hl 4 rfl) ?_
              refine jr_V F (kX3_secondSize l D cA sp r0 r1 a1 K n1 L1) cvX0_54 hP [2, 5, 6] rfl 2 rfl rfl hl ⟨rfl, rfl, by decide, by decide⟩ rfl rfl (Nat.le_of_ble_eq_true rfl) dX0_nextPair_40 ⟨by decide, by decide⟩ (fun v hv => ?_)
              subst hv
              refine jv_icmp_ge (tgt := 102) hx hb dX0_nextPair_43 rfl (by omega) (by omega) (fun c43 => ?_) (fun c43 => ?_)
              · refine lv_iinc (k := 1) (v := jI (i + 1)) (lv' := [(6, .int (jI (i + 1))), (7, .int (jI j)), (5, .int (jI (Ah ((a * 49) + b)))), (0, .ref be), (1, .ref sp), (2, .int (jI g)), (3, .int (jI a)), (4, .int (jI b))]) hx hb dX0_nextPair_102 hl rfl (jI_add _ _) (by decide) rfl (fun ls hl => ?_)
                refine lv_goto (tgt := 24) hx hb dX0_nextPair_105 rfl ?_
                refine ih24 (i + 1) ls  (by omega) ?_ ?_ (lv_sub hl [0, 2, 3, 4, 5, 6, 7] rfl)
                · omega
                · exact nn_row anc_in hK.1 (by omega) hf1
              · refine lv_iload_n hx hb dX0_nextPair_46 rfl (lv_at hl 5 rfl) ?_
                refine lv_iload hx hb dX0_nextPair_47 (lv_at hl 1 rfl) ?_
                refine lv_iload_n hx hb dX0_nextPair_49 rfl (lv_at hl 6 rfl) ?_
                refine jv_isub hx hb dX0_nextPair_50 ?_
                refine lv_iload hx hb dX0_nextPair_51 (lv_at hl 0 rfl) ?_
                refine jv_iadd hx hb dX0_nextPair_53 ?_
                refine lv_iload hx hb dX0_nextPair_54 (lv_at hl 7 rfl) ?_
                refine jv_isub hx hb dX0_nextPair_56 ?_
                refine jv_imul hx hb dX0_nextPair_57 ?_
                rw [show i - a + j - b = i - a + (j - b) by omega]
                have hco := gmul_b (g := g) (d := i - a + (j - b)) hg (by omega)
                refine lv_istore (lv' := [(8, .int (jI (g * (i - a + (j - b))))), (7, .int (jI j)), (6, .int (jI i)), (5, .int (jI (Ah ((a * 49) + b)))), (0, .ref be), (1, .ref sp), (2, .int (jI g)), (3, .int (jI a)), (4, .int (jI b))]) hx hb dX0_nextPair_58 hl (by decide) rfl (fun ls hl => ?_)
                refine lv_aload_n hx hb dX0_nextPair_60 rfl (lv_at hl 5 rfl) ?_
                refine lv_iload hx hb dX0_nextPair_61 (lv_at hl 2 rfl) ?_
                refine lv_iload hx hb dX0_nextPair_63 (lv_at hl 1 rfl) ?_
                refine jr_V F (kX3_isSeed l D cA sp r0 a0 r1 a1 n0 n1 K L0 L1 i j (by omega) (by omega) (by omega) hL0 hL1 (by omega) (by omega)) cvX0_66 hP [2, 3, 4, 5, 6] rfl 2 rfl rfl hl ⟨rfl, rfl, by decide, by decide⟩ rfl rfl (Nat.le_of_ble_eq_true rfl) dX0_nextPair_65 ⟨by decide, by decide⟩ (fun v hv => ?_)
                subst hv
                have hb65 := jB_01 (anc L0 L1 n0 n1 K i j)
                refine jv_if_eq (tgt := 96) hx hb dX0_nextPair_68 rfl (by omega) (fun c68 => ?_) (fun c68 => ?_)
                · refine lv_iinc (k := 1) (v := jI (j + 1)) (lv' := [(7, .int (jI (j + 1))), (8, .int (jI (g * (i - a + (j - b))))), (6, .int (jI i)), (5, .int (jI (Ah ((a * 49) + b)))), (0, .ref be), (1, .ref sp), (2, .int (jI g)), (3, .int (jI a)), (4, .int (jI b))]) hx hb dX0_nextPair_96 hl rfl (jI_add _ _) (by decide) rfl (fun ls hl => ?_)
                  refine lv_goto (tgt := 37) hx hb dX0_nextPair_99 rfl ?_
                  refine ih37 (j + 1) ls  (by omega) ?_ ?_ (lv_sub hl [0, 2, 3, 4, 5, 6, 7, 8] rfl)
                  · omega
                  · first
                      | exact nn_no (fun h5 => (jB_0 c68 h5).elim) hf1
                      | exact nn_no (fun _ h6 => c85 h6) hf1
                · have hGa := jB_1 c68
                  have hGi := anc_in _ _ hGa
                  have hw0 := wF_b anc_in hK.1 hA hGa
                  have hA3 := (hA (i + K) (j + K) (by omega) (by omega) (by omega) (by omega)).2
                  refine lv_aload_n hx hb dX0_nextPair_71 rfl (lv_at hl 4 rfl) ?_
                  refine lv_aload_n hx hb dX0_nextPair_72 rfl (lv_at hl 5 rfl) ?_
                  refine lv_iload hx hb dX0_nextPair_73 (lv_at hl 2 rfl) ?_
                  refine lv_iload hx hb dX0_nextPair_75 (lv_at hl 1 rfl) ?_
                  refine jr_V F (kX0_worthFrom l D cA be ah pa sz to Ah sp r0 r1 K i j (by omega) (by omega) (by omega) (by omega)) cvX0_37 hP [0, 1, 2] rfl 0 rfl rfl hl ⟨rfl, rfl, by decide, by decide⟩ rfl rfl (Nat.le_of_ble_eq_true rfl) dX0_nextPair_77 ⟨by decide, by decide⟩ (fun v hv => ?_)
                  subst hv
                  refine lv_iload hx hb dX0_nextPair_80 (lv_at hl 0 rfl) ?_
                  refine jv_isub hx hb dX0_nextPair_82 ?_
                  refine lv_iload hx hb dX0_nextPair_83 (lv_at hl 3 rfl) ?_
                  refine jv_icmp_ne (tgt := 96) hx hb dX0_nextPair_85 rfl (by omega) (by omega) (fun c85 => ?_) (fun c85 => ?_)
                  · refine lv_iinc (k := 1) (v := jI (j + 1)) (lv' := [(7, .int (jI (j + 1))), (8, .int (jI (g * (i - a + (j - b))))), (6, .int (jI i)), (5, .int (jI (Ah ((a * 49) + b)))), (0, .ref be), (1, .ref sp), (2, .int (jI g)), (3, .int (jI a)), (4, .int (jI b))]) hx hb dX0_nextPair_96 hl rfl (jI_add _ _) (by decide) rfl (fun ls hl => ?_)
                    refine lv_goto (tgt := 37) hx hb dX0_nextPair_99 rfl ?_
                    refine ih37 (j + 1) ls  (by omega) ?_ ?_ (lv_sub hl [0, 2, 3, 4, 5, 6, 7, 8] rfl)
                    · omega
                    · first
                        | exact nn_no (fun h5 => (jB_0 c68 h5).elim) hf1
                        | exact nn_no (fun _ h6 => c85 h6) hf1
                  · refine lv_iload hx hb dX0_nextPair_88 (lv_at hl 2 rfl) ?_
                    refine lv_iload hx hb dX0_nextPair_90 (lv_at hl 1 rfl) ?_
                    refine jr_SN F (kX4_pairOf l D cA i j) cnX0_70 hP [] rfl hl ⟨rfl, rfl, by decide, by decide⟩ rfl rfl (Nat.le_of_ble_eq_true rfl) dX0_nextPair_92 ⟨by decide, by decide⟩ (fun v hv => ?_)
                    subst hv
                    exact jR.ri F hQ rfl dX0_nextPair_95 (by exact ⟨_, rfl, Or.inr ⟨by omega, Or.inl ⟨i, j, rfl, ⟨jB_1 c68, hi.1, hj.1, by omega⟩, hf1⟩⟩⟩)
          refine lp37 (Int.toNat (n1 - b) + 1) b ls  (by omega) ?_ ?_ (lv_sub hl [0, 1, 2, 3, 4, 5, 6, 7] rfl)
          · omega
          · exact hf
    refine lp24 (Int.toNat (n0 - a) + 1) a ls  (by omega) ?_ ?_ (lv_sub hl [0, 1, 2, 3, 4, 5, 6] rfl)
    · omega
    · exact nn_0
  · refine lv_iconst (v := jI (-1)) hx hb dX0_nextPair_19 rfl ?_
    exact jR.ri F hQ rfl dX0_nextPair_20 (by exact ⟨_, rfl, Or.inl ⟨by omega, rfl⟩⟩)
def fin (G : Int → Int → Prop) (K g n t : Int) (Pa : Int → Int) : Prop := ∃ wt, WT G K g wt ∧ isTop G wt t ∧ isChn G wt K g t n (fun m => Pa m / 48) (fun m => Pa m % 48) ∧ (0 ≤ n ∧ n ≤ 48) ∧ ∀ m, 0 ≤ m → m < n → 0 ≤ Pa m ∧ Pa m < 2304
set_option maxHeartbeats 4000000 in
set_option maxRecDepth 100000 in
theorem kX0_find (l : Launch) (D : va_G) (cA : ClassId) (be ah pa : Nat) (sz to : Int) (Ah : Int → Int) (Pa : Int → Int) (sp r0 a0 r1 a1 : Nat) (n0 n1 K : Int) (L0 L1 : Int → Int) (g : Int) (hn0 : 0 ≤ n0 ∧ n0 ≤ 48) (hn1 : 0 ≤ n1 ∧ n1 ≤ 48) (hK : 1 ≤ K ∧ K ≤ 6) (hL0 : ∀ x, 0 ≤ L0 x ∧ L0 x ≤ 3) (hL1 : ∀ x, 0 ≤ L1 x ∧ L1 x ≤ 3) (hg : 0 ≤ g ∧ g ≤ 9) : jM l YX0_find (rmk 4 0 0 93) D cA [.ref be, .ref sp, .int (jI g)] [(be, .inr (0, [.ref ah, .ref pa, .int (jI sz), .int (jI to)])), (ah, .inl (cA, 2401, .inl (jA Ah))), (pa, .inl (cA, 48, .inl (jA Pa))), (sp, .inr (3, [.ref r0, .ref r1, .int (jI K)])), (r0, .inr (1, [.ref a0, .int (jI n0)])), (a0, .inl (cA, 48, .inl (jA L0))), (r1, .inr (1, [.ref a1, .int (jI n1)])), (a1, .inl (cA, 48, .inl (jA L1)))] (fun v w => v = none ∧ ∃ (A2 P2 : Int → Int) (n2 t2 : Int), fin (anc L0 L1 n0 n1 K) K g n2 t2 P2 ∧ w = [(be, .inr (0, [.ref ah, .ref pa, .int (jI n2), .int (jI t2)])), (ah, .inl (cA, 2401, .inl (jA A2))), (pa, .inl (cA, 48, .inl (jA P2))), (sp, .inr (3, [.ref r0, .ref r1, .int (jI K)])), (r0, .inr (1, [.ref a0, .int (jI n0)])), (a0, .inl (cA, 48, .inl (jA L0))), (r1, .inr (1, [.ref a1, .int (jI n1)])), (a1, .inl (cA, 48, .inl (jA L1)))]) 0 0 := by
  refine jM.intro (by decide +kernel) (Nat.le_of_ble_eq_true rfl) ?_
  intro p e s m args below meth c ls Q A F hQ hA hP hD hS hl
  have hx := F.1
  have hb := F.2.1
  have hl : lv_has ls 6 [(0, .ref be), (1, .ref sp), (2, .int (jI g))] := hl
  refine lv_aload_n hx hb dX0_find_0 rfl (lv_at hl 0 rfl) ?_
  refine lv_aload_n hx hb dX0_find_1 rfl (lv_at hl 1 rfl) ?_
  refine lv_iload_n hx hb dX0_find_2 rfl (lv_at hl 2 rfl) ?_
  refine jw_V (wr := [(pa, .inl (cA, 48, .inl (jA Pa)))]) F (kX0_lookAhead l D cA be ah pa sz to Ah sp r0 a0 r1 a1 n0 n1 K L0 L1 g (by omega) (by omega) (by omega) hL0 hL1 (by omega)) cvX0_25 hP hD hS hA [0, 1, 3, 4, 5, 6, 7] [2] rfl rfl (by decide) (by decide) 0 rfl rfl hl ⟨rfl, rfl, by decide, by decide⟩ rfl rfl (Nat.le_of_ble_eq_true rfl) dX0_find_3 ⟨by decide, by decide⟩ (by decide) (fun v w1 H locs hw hP hD hS => ?_)
  obtain ⟨rfl, A2, hA2, rfl⟩ := hw
  have hP : va_P D cls [(pa, .inl (cA, 48, .inl (jA Pa))), (be, .inr (0, [.ref ah, .ref pa, .int (jI sz), .int (jI to)])), (ah, .inl (cA, 2401, .inl (jA A2))), (sp, .inr (3, [.ref r0, .ref r1, .int (jI K)])), (r0, .inr (1, [.ref a0, .int (jI n0)])), (a0, .inl (cA, 48, .inl (jA L0))), (r1, .inr (1, [.ref a1, .int (jI n1)])), (a1, .inl (cA, 48, .inl (jA L1)))] H := hP
  have hD : va_D A [(pa, .inl (cA, 48, .inl (jA Pa))), (be, .inr (0, [.ref ah, .ref pa, .int (jI sz), .int (jI to)])), (ah, .inl (cA, 2401, .inl (jA A2))), (sp, .inr (3, [.ref r0, .ref r1, .int (jI K)])), (r0, .inr (1, [.ref a0, .int (jI n0)])), (a0, .inl (cA, 48, .inl (jA L0))), (r1, .inr (1, [.ref a1, .int (jI n1)])), (a1, .inl (cA, 48, .inl (jA L1)))] := hD
  refine W.eq (g2 := F0 m 6 ls []) rfl ?_
  refine lv_aload_n hx hb dX0_find_6 rfl (lv_at hl 0 rfl) ?_
  refine lv_iconst (v := jI 0) hx hb dX0_find_7 rfl ?_
  refine jv_put (v := .int (jI 0)) F hP hD hS 1 rfl flX0_18 pfX0 (by decide +kernel) rfl rfl (Nat.le_of_ble_eq_true rfl) dX0_find_8 (fun H locs hP hD hS => ?_)
  have hP : va_P D cls [(pa, .inl (cA, 48, .inl (jA Pa))), (be, .inr (0, [.ref ah, .ref pa, .int (jI 0), .int (jI to)])), (ah, .inl (cA, 2401, .inl (jA A2))), (sp, .inr (3, [.ref r0, .ref r1, .int (jI K)])), (r0, .inr (1, [.ref a0, .int (jI n0)])), (a0, .inl (cA, 48, .inl (jA L0))), (r1, .inr (1, [.ref a1, .int (jI n1)])), (a1, .inl (cA, 48, .inl (jA L1)))] H := hP
  have hD : va_D A [(pa, .inl (cA, 48, .inl (jA Pa))), (be, .inr (0, [.ref ah, .ref pa, .int (jI 0), .int (jI to)])), (ah, .inl (cA, 2401, .inl (jA A2))), (sp, .inr (3, [.ref r0, .ref r1, .int (jI K)])), (r0, .inr (1, [.ref a0, .int (jI n0)])), (a0, .inl (cA, 48, .inl (jA L0))), (r1, .inr (1, [.ref a1, .int (jI n1)])), (a1, .inl (cA, 48, .inl (jA L1)))] := hD
  refine lv_aload_n hx hb dX0_find_11 rfl (lv_at hl 0 rfl) ?_
  refine lv_iconst (v := jI 0) hx hb dX0_find_12 rfl ?_
  refine jv_put (v := .int (jI 0)) F hP hD hS 1 rfl flX0_22 pfX0 (by decide +kernel) rfl rfl (Nat.le_of_ble_eq_true rfl) dX0_find_13 (fun H locs hP hD hS => ?_)
  have hP : va_P D cls [(pa, .inl (cA, 48, .inl (jA Pa))), (be, .inr (0, [.ref ah, .ref pa, .int (jI 0), .int (jI 0)])), (ah, .inl (cA, 2401, .inl (jA A2))), (sp, .inr (3, [.ref r0, .ref r1, .int (jI K)])), (r0, .inr (1, [.ref a0, .int (jI n0)])), (a0, .inl (cA, 48, .inl (jA L0))), (r1, .inr (1, [.ref a1, .int (jI n1)])), (a1, .inl (cA, 48, .inl (jA L1)))] H := hP
  have hD : va_D A [(pa, .inl (cA, 48, .inl (jA Pa))), (be, .inr (0, [.ref ah, .ref pa, .int (jI 0), .int (jI 0)])), (ah, .inl (cA, 2401, .inl (jA A2))), (sp, .inr (3, [.ref r0, .ref r1, .int (jI K)])), (r0, .inr (1, [.ref a0, .int (jI n0)])), (a0, .inl (cA, 48, .inl (jA L0))), (r1, .inr (1, [.ref a1, .int (jI n1)])), (a1, .inl (cA, 48, .inl (jA L1)))] := hD
  refine lv_aload_n hx hb dX0_find_16 rfl (lv_at hl 0 rfl) ?_
  refine lv_aload_n hx hb dX0_find_17 rfl (lv_at hl 1 rfl) ?_
  refine jr_V F (kX0_firstPair l D cA be ah pa 0 0 A2 sp r0 a0 r1 a1 n0 n1 K L0 L1 g (by omega) (by omega) (by omega) hL0 hL1 (by omega) hA2) cvX0_29 hP [1, 2, 3, 4, 5, 6, 7] rfl 1 rfl rfl hl ⟨rfl, rfl, by decide, by decide⟩ rfl rfl (Nat.le_of_ble_eq_true rfl) dX0_find_18 ⟨by decide, by decide⟩ (fun v hv => ?_)
  obtain ⟨z18, rfl, hz18⟩ := hv
  refine lv_istore_n (lv' := [(3, .int (jI z18)), (0, .ref be), (1, .ref sp), (2, .int (jI g))]) hx hb dX0_find_21 rfl hl (by decide) rfl (fun ls hl => ?_)
  have lp46 : ∀ (fu : Nat) (pr : Int) (n : Int) (t : Int) (P1 : Int → Int) (ls : Array Slot) (H : Heap) (locs : List Loc), 49 - n < (fu : Int) → (0 ≤ n ∧ n ≤ 48) → (-1 ≤ pr ∧ pr < 2400) → (chp (anc L0 L1 n0 n1 K) (wF K A2) K g t n (fun m => P1 m / 48) (fun m => P1 m % 48)) → (prN (anc L0 L1 n0 n1 K) (wF K A2) K g t n (fun m => P1 m / 48) (fun m => P1 m % 48) pr) → (isTop (anc L0 L1 n0 n1 K) (wF K A2) t) → (∀ m, 0 ≤ m → m < n → 0 ≤ P1 m ∧ P1 m < 2304) → lv_has ls 6 [(3, .int (jI pr)), (0, .ref be), (1, .ref sp), (2, .int (jI g))] → va_P D cls [(pa, .inl (cA, 48, .inl (jA P1))), (be, .inr (0, [.ref ah, .ref pa, .int (jI n), .int (jI t)])), (ah, .inl (cA, 2401, .inl (jA A2))), (sp, .inr (3, [.ref r0, .ref r1, .int (jI K)])), (r0, .inr (1, [.ref a0, .int (jI n0)])), (a0, .inl (cA, 48, .inl (jA L0))), (r1, .inr (1, [.ref a1, .int (jI n1)])), (a1, .inl (cA, 48, .inl (jA L1)))] H → va_D A [(pa, .inl (cA, 48, .inl (jA P1))), (be, .inr (0, [.ref ah, .ref pa, .int (jI n), .int (jI t)])), (ah, .inl (cA, 2401, .inl (jA A2))), (sp, .inr (3, [.ref r0, .ref r1, .int (jI K)])), (r0, .inr (1, [.ref a0, .int (jI n0)])), (a0, .inl (cA, 48, .inl (jA L0))), (r1, .inr (1, [.ref a1, .int (jI n1)])), (a1, .inl (cA, 48, .inl (jA L1)))] → va_S A s.heap H locs → W p l e (rmk 4 0 0 93) s m args below meth c H locs 0 0 Q (F0 m 46 ls []) := by
    intro fu
    induction fu with
    | zero => intro pr n t P1 ls H locs hfu hn hpr0 hch hpr htop hpa hl hP hD hS; exfalso; omega
    | succ fu ih46 =>
      intro pr n t P1 ls H locs hfu hn hpr0 hch hpr htop hpa hl hP hD hS
      refine lv_iload_n hx hb dX0_find_46 rfl (lv_at hl 0 rfl) ?_
      refine lv_iconst (v := jI (-1)) hx hb dX0_find_47 rfl ?_
      refine jv_icmp_eq (tgt := 118) hx hb dX0_find_48 rfl (by omega) (by omega) (fun c48 => ?_) (fun c48 => ?_)
      · exact jM.rv F hQ rfl dX0_find_118 hS (hP.sub (ws' := [(be, .inr (0, [.ref ah, .ref pa, .int (jI n), .int (jI t)])), (ah, .inl (cA, 2401, .inl (jA A2))), (pa, .inl (cA, 48, .inl (jA P1))), (sp, .inr (3, [.ref r0, .ref r1, .int (jI K)])), (r0, .inr (1, [.ref a0, .int (jI n0)])), (a0, .inl (cA, 48, .inl (jA L0))), (r1, .inr (1, [.ref a1, .int (jI n1)])), (a1, .inl (cA, 48, .inl (jA L1)))]) [1, 2, 0, 3, 4, 5, 6, 7] rfl) (hD.sub (ws' := [(be, .inr (0, [.ref ah, .ref pa, .int (jI n), .int (jI t)])), (ah, .inl (cA, 2401, .inl (jA A2))), (pa, .inl (cA, 48, .inl (jA P1))), (sp, .inr (3, [.ref r0, .ref r1, .int (jI K)])), (r0, .inr (1, [.ref a0, .int (jI n0)])), (a0, .inl (cA, 48, .inl (jA L0))), (r1, .inr (1, [.ref a1, .int (jI n1)])), (a1, .inl (cA, 48, .inl (jA L1)))]) [1, 2, 0, 3, 4, 5, 6, 7] (by decide) rfl) (by exact ⟨rfl, A2, _, _, _, ⟨_, aAll_WT anc_in hK.1 hg hA2, htop, chp_end hch (by rcases hpr with h5 | ⟨k, l1, h5, h6⟩; exact h5.2; have := anc_in _ _ (nxl_G hch.1 h6); omega), hn, hpa⟩, rfl⟩)
      · obtain ⟨k, l1, hk, hnx⟩ := hpr.resolve_left (fun h5 => c48 h5.1)
        have hGk := nxl_G hch.1 hnx
        have hGi := anc_in _ _ hGk
        have hnb := nxl_b anc_in hK.1 hn0.2 hch hnx
        have e0 : plc pr 0 = k := by rw [plc_0 c48 rfl]; omega
        have e1 : plc pr 1 = l1 := by rw [plc_1 c48 rfl]; omega
        refine lv_aload_n hx hb dX0_find_51 rfl (lv_at hl 1 rfl) ?_
        refine jv_get (v := .int (jI n)) F hP 1 rfl flX0_18 rfl dX0_find_52 ?_
        refine lv_bipush (v := jI 48) hx hb dX0_find_55 (by decide +kernel) ?_
        refine jv_icmp_ge (tgt := 118) hx hb dX0_find_57 rfl (by omega) (by omega) (fun c57 => ?_) (fun c57 => ?_)
        · exfalso
          omega
        · refine lv_aload_n hx hb dX0_find_60 rfl (lv_at hl 1 rfl) ?_
          refine jv_get (v := .ref pa) F hP 1 rfl flX0_15 rfl dX0_find_61 ?_
          refine lv_aload_n hx hb dX0_find_64 rfl (lv_at hl 1 rfl) ?_
          refine jv_get (v := .int (jI n)) F hP 1 rfl flX0_18 rfl dX0_find_65 ?_
          refine lv_iload_n hx hb dX0_find_68 rfl (lv_at hl 0 rfl) ?_
          refine jv_iast (fa := P1) F hP hD hS 0 rfl (by omega) (by decide) dX0_find_69 (fun H locs hP hD hS => ?_)
          have hP : va_P D cls [(pa, .inl (cA, 48, .inl (jA (jU P1 n pr)))), (be, .inr (0, [.ref ah, .ref pa, .int (jI n), .int (jI t)])), (ah, .inl (cA, 2401, .inl (jA A2))), (sp, .inr (3, [.ref r0, .ref r1, .int (jI K)])), (r0, .inr (1, [.ref a0, .int (jI n0)])), (a0, .inl (cA, 48, .inl (jA L0))), (r1, .inr (1, [.ref a1, .int (jI n1)])), (a1, .inl (cA, 48, .inl (jA L1)))] H := hP
          have hD : va_D A [(pa, .inl (cA, 48, .inl (jA (jU P1 n pr)))), (be, .inr (0, [.ref ah, .ref pa, .int (jI n), .int (jI t)])), (ah, .inl (cA, 2401, .inl (jA A2))), (sp, .inr (3, [.ref r0, .ref r1, .int (jI K)])), (r0, .inr (1, [.ref a0, .int (jI n0)])), (a0, .inl (cA, 48, .inl (jA L0))), (r1, .inr (1, [.ref a1, .int (jI n1)])), (a1, .inl (cA, 48, .inl (jA L1)))] := hD
          refine lv_aload_n hx hb dX0_find_70 rfl (lv_at hl 1 rfl) ?_
          refine lv_dup hx hb dX0_find_71 rfl ?_
          refine jv_get (v := .int (jI n)) F hP 1 rfl flX0_18 rfl dX0_find_72 ?_
          refine lv_iconst (v := jI 1) hx hb dX0_find_75 rfl ?_
          refine jv_iadd hx hb dX0_find_76 ?_
          refine jv_put (v := .int (jI (n + 1))) F hP hD hS 1 rfl flX0_18 pfX0 (by decide +kernel) rfl rfl (Nat.le_of_ble_eq_true rfl) dX0_find_77 (fun H locs hP hD hS => ?_)
          have hP : va_P D cls [(pa, .inl (cA, 48, .inl (jA (jU P1 n pr)))), (be, .inr (0, [.ref ah, .ref pa, .int (jI (n + 1)), .int (jI t)])), (ah, .inl (cA, 2401, .inl (jA A2))), (sp, .inr (3, [.ref r0, .ref r1, .int (jI K)])), (r0, .inr (1, [.ref a0, .int (jI n0)])), (a0, .inl (cA, 48, .inl (jA L0))), (r1, .inr (1, [.ref a1, .int (jI n1)])), (a1, .inl (cA, 48, .inl (jA L1)))] H := hP
          have hD : va_D A [(pa, .inl (cA, 48, .inl (jA (jU P1 n pr)))), (be, .inr (0, [.ref ah, .ref pa, .int (jI (n + 1)), .int (jI t)])), (ah, .inl (cA, 2401, .inl (jA A2))), (sp, .inr (3, [.ref r0, .ref r1, .int (jI K)])), (r0, .inr (1, [.ref a0, .int (jI n0)])), (a0, .inl (cA, 48, .inl (jA L0))), (r1, .inr (1, [.ref a1, .int (jI n1)])), (a1, .inl (cA, 48, .inl (jA L1)))] := hD
          refine lv_iload_n hx hb dX0_find_80 rfl (lv_at hl 0 rfl) ?_
          refine lv_iconst (v := jI 0) hx hb dX0_find_81 rfl ?_
          refine jr_SN F (kX4_placeOf l D cA pr 0 (by omega) (by omega)) cnX0_33 hP [] rfl hl ⟨rfl, rfl, by decide, by decide⟩ rfl rfl (Nat.le_of_ble_eq_true rfl) dX0_find_82 ⟨by decide, by decide⟩ (fun v hv => ?_)
          subst hv
          rw [e0]
          refine lv_aload_n hx hb dX0_find_85 rfl (lv_at hl 2 rfl) ?_
          refine jr_V F (kX3_length l D cA sp r0 r1 K) cvX0_41 hP [3] rfl 3 rfl rfl hl ⟨rfl, rfl, by decide, by decide⟩ rfl rfl (Nat.le_of_ble_eq_true rfl) dX0_find_86 ⟨by decide, by decide⟩ (fun v hv => ?_)
          subst hv
          refine jv_iadd hx hb dX0_find_89 ?_
          refine lv_istore (lv' := [(4, .int (jI (k + K))), (3, .int (jI pr)), (0, .ref be), (1, .ref sp), (2, .int (jI g))]) hx hb dX0_find_90 hl (by decide) rfl (fun ls hl => ?_)
          refine lv_iload_n hx hb dX0_find_92 rfl (lv_at hl 1 rfl) ?_
          refine lv_iconst (v := jI 1) hx hb dX0_find_93 rfl ?_
          refine jr_SN F (kX4_placeOf l D cA pr 1 (by omega) (by omega)) cnX0_33 hP [] rfl hl ⟨rfl, rfl, by decide, by decide⟩ rfl rfl (Nat.le_of_ble_eq_true rfl) dX0_find_94 ⟨by decide, by decide⟩ (fun v hv => ?_)
          subst hv
          rw [e1]
          refine lv_aload_n hx hb dX0_find_97 rfl (lv_at hl 3 rfl) ?_
          refine jr_V F (kX3_length l D cA sp r0 r1 K) cvX0_41 hP [3] rfl 3 rfl rfl hl ⟨rfl, rfl, by decide, by decide⟩ rfl rfl (Nat.le_of_ble_eq_true rfl) dX0_find_98 ⟨by decide, by decide⟩ (fun v hv => ?_)
          subst hv
          refine jv_iadd hx hb dX0_find_101 ?_
          refine lv_istore (lv' := [(5, .int (jI (l1 + K))), (4, .int (jI (k + K))), (3, .int (jI pr)), (0, .ref be), (1, .ref sp), (2, .int (jI g))]) hx hb dX0_find_102 hl (by decide) rfl (fun ls hl => ?_)
          refine lv_aload_n hx hb dX0_find_104 rfl (lv_at hl 3 rfl) ?_
          refine lv_aload_n hx hb dX0_find_105 rfl (lv_at hl 4 rfl) ?_
          refine lv_iload_n hx hb dX0_find_106 rfl (lv_at hl 5 rfl) ?_
          refine lv_iload hx hb dX0_find_107 (lv_at hl 1 rfl) ?_
          refine lv_iload hx hb dX0_find_109 (lv_at hl 0 rfl) ?_
          refine jr_V F (kX0_nextPair l D cA be ah pa (n + 1) t A2 sp r0 a0 r1 a1 n0 n1 K L0 L1 g (k + K) (l1 + K) (by omega) (by omega) (by omega) hL0 hL1 (by omega) hA2 (by omega) (by omega)) cvX0_47 hP [1, 2, 3, 4, 5, 6, 7] rfl 1 rfl rfl hl ⟨rfl, rfl, by decide, by decide⟩ rfl rfl (Nat.le_of_ble_eq_true rfl) dX0_find_111 ⟨by decide, by decide⟩ (fun v hv => ?_)
          obtain ⟨z111, rfl, hz111⟩ := hv
          have hb111 : -1 ≤ z111 ∧ z111 < 2400 := by
            rcases hz111 with h5 | ⟨-, ⟨i, j, h5, h6, -⟩ | h5⟩
            · omega
            · have := anc_in i j h6.1; omega
            · omega
          refine lv_istore_n (lv' := [(3, .int (jI z111)), (5, .int (jI (l1 + K))), (4, .int (jI (k + K))), (0, .ref be), (1, .ref sp), (2, .int (jI g))]) hx hb dX0_find_114 rfl hl (by decide) rfl (fun ls hl => ?_)
          refine lv_goto (tgt := 46) hx hb dX0_find_115 rfl ?_
          refine ih46 z111 (n + 1) t (jU P1 n pr) ls H locs (by omega) ?_ ?_ ?_ ?_ ?_ ?_ (lv_sub hl [0, 3, 4, 5] rfl) hP hD hS
          · omega
          · exact hb111
          · exact chp_push anc_in hK.1 hch hnx (fun m hm => by show jU P1 n pr m / 48 = P1 m / 48; rw [jU_n hm]) (fun m hm => by show jU P1 n pr m % 48 = P1 m % 48; rw [jU_n hm]) (by show jU P1 n pr n / 48 = k; rw [jU_s]; omega) (by show jU P1 n pr n % 48 = l1; rw [jU_s]; omega)
          · refine prN_next anc_in hK.1 (k := k) (l := l1) (by omega) (by show jU P1 n pr (n + 1 - 1) / 48 = k; rw [show n + 1 - 1 = n by omega, jU_s]; omega) (by show jU P1 n pr (n + 1 - 1) % 48 = l1; rw [show n + 1 - 1 = n by omega, jU_s]; omega) (aAll_WT anc_in hK.1 hg hA2 k l1 hGk) (by unfold wF; omega) hz111
          · exact htop
          · intro m m0 m1
            by_cases e : m = n
            · rw [e, jU_s]; omega
            · rw [jU_n e]; exact hpa m m0 (by omega)
  have hb18 : -1 ≤ z18 ∧ z18 < 2400 := by
    rcases hz18 with h5 | ⟨i, j, h5, h6, -⟩
    · omega
    · have := anc_in i j h6; omega
  refine lv_iload_n hx hb dX0_find_22 rfl (lv_at hl 0 rfl) ?_
  refine lv_iconst (v := jI (-1)) hx hb dX0_find_23 rfl ?_
  refine jv_icmp_eq (tgt := 46) hx hb dX0_find_24 rfl (by omega) (by omega) (fun c24 => ?_) (fun c24 => ?_)
  · refine lp46 (Int.toNat (49 - 0) + 1) z18 0 0 Pa ls H locs (by omega) ?_ ?_ ?_ ?_ ?_ ?_ (lv_sub hl [0, 1, 2, 3] rfl) hP hD hS
    · omega
    · exact hb18
    · exact chp_0
    · first
        | (have hpf := prN_first (g := g) (P := fun m => Pa m / 48) (Q := fun m => Pa m % 48) anc_in hK.1 (fun k l hk => (wF_b anc_in hK.1 hA2 hk).1) hz18 (t := 0) ⟨fun _ => rfl, fun k l hk h5 => by have := anc_in k l hk; omega⟩
           exact hpf.1)
        | (have hpf := prN_first (g := g) (P := fun m => Pa m / 48) (Q := fun m => Pa m % 48) anc_in hK.1 (fun k l hk => (wF_b anc_in hK.1 hA2 hk).1) hz18 (t := wF K A2 fi fj) ⟨fun h5 => (c24 h5).elim, fun k l hk h5 => by
               have := anc_in k l hk
               have ek : k = fi := by omega
               have el : l = fj := by omega
               rw [ek, el]⟩
           exact hpf.1)
    · first
        | (have hpf := prN_first (g := g) (P := fun m => Pa m / 48) (Q := fun m => Pa m % 48) anc_in hK.1 (fun k l hk => (wF_b anc_in hK.1 hA2 hk).1) hz18 (t := 0) ⟨fun _ => rfl, fun k l hk h5 => by have := anc_in k l hk; omega⟩
           exact hpf.2)
        | (have hpf := prN_first (g := g) (P := fun m => Pa m / 48) (Q := fun m => Pa m % 48) anc_in hK.1 (fun k l hk => (wF_b anc_in hK.1 hA2 hk).1) hz18 (t := wF K A2 fi fj) ⟨fun h5 => (c24 h5).elim, fun k l hk h5 => by
               have := anc_in k l hk
               have ek : k = fi := by omega
               have el : l = fj := by omega
               rw [ek, el]⟩
           exact hpf.2)
    · intro m; omega
  · have hex : ∃ fi fj, z18 = fi * 48 + fj ∧ anc L0 L1 n0 n1 K fi fj := by
      rcases hz18 with h5 | ⟨i, j, h5, h6, -⟩
      · exact (c24 h5.1).elim
      · exact ⟨i, j, h5, h6⟩
    obtain ⟨fi, fj, hfe, hGf⟩ := hex
    have hGi := anc_in _ _ hGf
    have e0 : plc z18 0 = fi := by rw [plc_0 c24 rfl]; omega
    have e1 : plc z18 1 = fj := by rw [plc_1 c24 rfl]; omega
    have hA3 := (hA2 (fi + K) (fj + K) (by omega) (by omega) (by omega) (by omega)).2
    refine lv_aload_n hx hb dX0_find_27 rfl (lv_at hl 1 rfl) ?_
    refine lv_aload_n hx hb dX0_find_28 rfl (lv_at hl 1 rfl) ?_
    refine lv_aload_n hx hb dX0_find_29 rfl (lv_at hl 2 rfl) ?_
    refine lv_iload_n hx hb dX0_find_30 rfl (lv_at hl 0 rfl) ?_
    refine lv_iconst (v := jI 0) hx hb dX0_find_31 rfl ?_
    refine jr_SN F (kX4_placeOf l D cA z18 0 (by omega) (by omega)) cnX0_33 hP [] rfl hl ⟨rfl, rfl, by decide, by decide⟩ rfl rfl (Nat.le_of_ble_eq_true rfl) dX0_find_32 ⟨by decide, by decide⟩ (fun v hv => ?_)
    subst hv
    rw [e0]
    refine lv_iload_n hx hb dX0_find_35 rfl (lv_at hl 0 rfl) ?_
    refine lv_iconst (v := jI 1) hx hb dX0_find_36 rfl ?_
    refine jr_SN F (kX4_placeOf l D cA z18 1 (by omega) (by omega)) cnX0_33 hP [] rfl hl ⟨rfl, rfl, by decide, by decide⟩ rfl rfl (Nat.le_of_ble_eq_true rfl) dX0_find_37 ⟨by decide, by decide⟩ (fun v hv => ?_)
    subst hv
    rw [e1]
    refine jr_V F (kX0_worthFrom l D cA be ah pa 0 0 A2 sp r0 r1 K fi fj (by omega) (by omega) (by omega) (by omega)) cvX0_37 hP [1, 2, 3] rfl 1 rfl rfl hl ⟨rfl, rfl, by decide, by decide⟩ rfl rfl (Nat.le_of_ble_eq_true rfl) dX0_find_40 ⟨by decide, by decide⟩ (fun v hv => ?_)
    subst hv
    refine jv_put (v := .int (jI (wF K A2 fi fj))) F hP hD hS 1 rfl flX0_22 pfX0 (by decide +kernel) rfl rfl (Nat.le_of_ble_eq_true rfl) dX0_find_43 (fun H locs hP hD hS => ?_)
    have hP : va_P D cls [(pa, .inl (cA, 48, .inl (jA Pa))), (be, .inr (0, [.ref ah, .ref pa, .int (jI 0), .int (jI (wF K A2 fi fj))])), (ah, .inl (cA, 2401, .inl (jA A2))), (sp, .inr (3, [.ref r0, .ref r1, .int (jI K)])), (r0, .inr (1, [.ref a0, .int (jI n0)])), (a0, .inl (cA, 48, .inl (jA L0))), (r1, .inr (1, [.ref a1, .int (jI n1)])), (a1, .inl (cA, 48, .inl (jA L1)))] H := hP
    have hD : va_D A [(pa, .inl (cA, 48, .inl (jA Pa))), (be, .inr (0, [.ref ah, .ref pa, .int (jI 0), .int (jI (wF K A2 fi fj))])), (ah, .inl (cA, 2401, .inl (jA A2))), (sp, .inr (3, [.ref r0, .ref r1, .int (jI K)])), (r0, .inr (1, [.ref a0, .int (jI n0)])), (a0, .inl (cA, 48, .inl (jA L0))), (r1, .inr (1, [.ref a1, .int (jI n1)])), (a1, .inl (cA, 48, .inl (jA L1)))] := hD
    refine lp46 (Int.toNat (49 - 0) + 1) z18 0 (wF K A2 fi fj) Pa ls H locs (by omega) ?_ ?_ ?_ ?_ ?_ ?_ (lv_sub hl [0, 1, 2, 3] rfl) hP hD hS
    · omega
    · exact hb18
    · exact chp_0
    · first
        | (have hpf := prN_first (g := g) (P := fun m => Pa m / 48) (Q := fun m => Pa m % 48) anc_in hK.1 (fun k l hk => (wF_b anc_in hK.1 hA2 hk).1) hz18 (t := 0) ⟨fun _ => rfl, fun k l hk h5 => by have := anc_in k l hk; omega⟩
           exact hpf.1)
        | (have hpf := prN_first (g := g) (P := fun m => Pa m / 48) (Q := fun m => Pa m % 48) anc_in hK.1 (fun k l hk => (wF_b anc_in hK.1 hA2 hk).1) hz18 (t := wF K A2 fi fj) ⟨fun h5 => (c24 h5).elim, fun k l hk h5 => by
               have := anc_in k l hk
               have ek : k = fi := by omega
               have el : l = fj := by omega
               rw [ek, el]⟩
           exact hpf.1)
    · first
        | (have hpf := prN_first (g := g) (P := fun m => Pa m / 48) (Q := fun m => Pa m % 48) anc_in hK.1 (fun k l hk => (wF_b anc_in hK.1 hA2 hk).1) hz18 (t := 0) ⟨fun _ => rfl, fun k l hk h5 => by have := anc_in k l hk; omega⟩
           exact hpf.2)
        | (have hpf := prN_first (g := g) (P := fun m => Pa m / 48) (Q := fun m => Pa m % 48) anc_in hK.1 (fun k l hk => (wF_b anc_in hK.1 hA2 hk).1) hz18 (t := wF K A2 fi fj) ⟨fun h5 => (c24 h5).elim, fun k l hk h5 => by
               have := anc_in k l hk
               have ek : k = fi := by omega
               have el : l = fj := by omega
               rw [ek, el]⟩
           exact hpf.2)
    · intro m; omega
