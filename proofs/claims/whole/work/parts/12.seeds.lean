set_option maxHeartbeats 4000000 in
set_option maxRecDepth 100000 in
theorem kX3_length (l : Launch) (D : va_G) (cA : ClassId) (sp r0 r1 : Nat) (K : Int)  : jR l YX3_length (rmk 0 0 0 0) D cA [.ref sp] [(sp, .inr (3, [.ref r0, .ref r1, .int (jI K)]))] (fun v => v = .int (jI K)) := by
  refine jR.intro (by decide +kernel) (Nat.le_of_ble_eq_true rfl) ?_
  intro p e s m args below meth c ls Q F hQ hP hl
  have hx := F.1
  have hb := F.2.1
  have hl : lv_has ls 1 [(0, .ref sp)] := hl
  refine lv_aload_n hx hb dX3_length_0 rfl (lv_at hl 0 rfl) ?_
  refine jv_get (v := .int (jI K)) F hP 0 rfl flX3_9 rfl dX3_length_1 ?_
  exact jR.ri F hQ rfl dX3_length_4 (by rfl)
set_option maxHeartbeats 4000000 in
set_option maxRecDepth 100000 in
theorem kX3_useLength (l : Launch) (D : va_G) (cA : ClassId) (sp r0 r1 : Nat) (K k : Int)  : jM l YX3_useLength (rmk 0 0 0 0) D cA [.ref sp, .int (jI k)] [(sp, .inr (3, [.ref r0, .ref r1, .int (jI K)]))] (fun v w => v = none ∧ w = [(sp, .inr (3, [.ref r0, .ref r1, .int (jI k)]))]) 0 0 := by
  refine jM.intro (by decide +kernel) (Nat.le_of_ble_eq_true rfl) ?_
  intro p e s m args below meth c ls Q A F hQ hA hP hD hS hl
  have hx := F.1
  have hb := F.2.1
  have hl : lv_has ls 2 [(0, .ref sp), (1, .int (jI k))] := hl
  refine lv_aload_n hx hb dX3_useLength_0 rfl (lv_at hl 0 rfl) ?_
  refine lv_iload_n hx hb dX3_useLength_1 rfl (lv_at hl 1 rfl) ?_
  refine jv_put (v := .int (jI k)) F hP hD hS 0 rfl flX3_9 pfX3 (by decide +kernel) rfl rfl (Nat.le_of_ble_eq_true rfl) dX3_useLength_2 (fun H locs hP hD hS => ?_)
  have hP : va_P D cls [(sp, .inr (3, [.ref r0, .ref r1, .int (jI k)]))] H := hP
  have hD : va_D A [(sp, .inr (3, [.ref r0, .ref r1, .int (jI k)]))] := hD
  exact jM.rv F hQ rfl dX3_useLength_5 hS hP hD (by exact ⟨rfl, rfl⟩)
set_option maxHeartbeats 4000000 in
set_option maxRecDepth 100000 in
theorem kX3_firstSize (l : Launch) (D : va_G) (cA : ClassId) (sp r0 r1 a0 : Nat) (K n0 : Int) (L0 : Int → Int)  : jR l YX3_firstSize (rmk 1 0 0 20) D cA [.ref sp] [(sp, .inr (3, [.ref r0, .ref r1, .int (jI K)])), (r0, .inr (1, [.ref a0, .int (jI n0)])), (a0, .inl (cA, 48, .inl (jA L0)))] (fun v => v = .int (jI n0)) := by
  refine jR.intro (by decide +kernel) (Nat.le_of_ble_eq_true rfl) ?_
  intro p e s m args below meth c ls Q F hQ hP hl
  have hx := F.1
  have hb := F.2.1
  have hl : lv_has ls 1 [(0, .ref sp)] := hl
  refine lv_aload_n hx hb dX3_firstSize_0 rfl (lv_at hl 0 rfl) ?_
  refine jv_get (v := .ref r0) F hP 0 rfl flX3_15 rfl dX3_firstSize_1 ?_
  refine jr_V F (kX1_size l D cA r0 a0 n0 L0) cvX3_22 hP [1, 2] rfl 1 rfl rfl hl ⟨rfl, rfl, by decide, by decide⟩ rfl rfl (Nat.le_of_ble_eq_true rfl) dX3_firstSize_4 ⟨by decide, by decide⟩ (fun v hv => ?_)
  subst hv
  exact jR.ri F hQ rfl dX3_firstSize_7 (by rfl)
set_option maxHeartbeats 4000000 in
set_option maxRecDepth 100000 in
theorem kX3_secondSize (l : Launch) (D : va_G) (cA : ClassId) (sp r0 r1 a1 : Nat) (K n1 : Int) (L1 : Int → Int)  : jR l YX3_secondSize (rmk 1 0 0 20) D cA [.ref sp] [(sp, .inr (3, [.ref r0, .ref r1, .int (jI K)])), (r1, .inr (1, [.ref a1, .int (jI n1)])), (a1, .inl (cA, 48, .inl (jA L1)))] (fun v => v = .int (jI n1)) := by
  refine jR.intro (by decide +kernel) (Nat.le_of_ble_eq_true rfl) ?_
  intro p e s m args below meth c ls Q F hQ hP hl
  have hx := F.1
  have hb := F.2.1
  have hl : lv_has ls 1 [(0, .ref sp)] := hl
  refine lv_aload_n hx hb dX3_secondSize_0 rfl (lv_at hl 0 rfl) ?_
  refine jv_get (v := .ref r1) F hP 0 rfl flX3_19 rfl dX3_secondSize_1 ?_
  refine jr_V F (kX1_size l D cA r1 a1 n1 L1) cvX3_22 hP [1, 2] rfl 1 rfl rfl hl ⟨rfl, rfl, by decide, by decide⟩ rfl rfl (Nat.le_of_ble_eq_true rfl) dX3_secondSize_4 ⟨by decide, by decide⟩ (fun v hv => ?_)
  subst hv
  exact jR.ri F hQ rfl dX3_secondSize_7 (by rfl)
set_option maxHeartbeats 4000000 in
set_option maxRecDepth 100000 in
theorem kX3_isSeed (l : Launch) (D : va_G) (cA : ClassId) (sp r0 a0 r1 a1 : Nat) (n0 n1 K : Int) (L0 L1 : Int → Int) (i j : Int) (hn0 : 0 ≤ n0 ∧ n0 ≤ 48) (hn1 : 0 ≤ n1 ∧ n1 ≤ 48) (hK : 1 ≤ K ∧ K ≤ 6) (hL0 : ∀ x, 0 ≤ L0 x ∧ L0 x ≤ 3) (hL1 : ∀ x, 0 ≤ L1 x ∧ L1 x ≤ 3) (hi : 0 ≤ i ∧ i ≤ 48) (hj : 0 ≤ j ∧ j ≤ 48) : jR l YX3_isSeed (rmk 1 0 0 21) D cA [.ref sp, .int (jI i), .int (jI j)] [(sp, .inr (3, [.ref r0, .ref r1, .int (jI K)])), (r0, .inr (1, [.ref a0, .int (jI n0)])), (a0, .inl (cA, 48, .inl (jA L0))), (r1, .inr (1, [.ref a1, .int (jI n1)])), (a1, .inl (cA, 48, .inl (jA L1)))] (fun v => v = .int (jI (jB (anc L0 L1 n0 n1 K i j)))) := by
  refine jR.intro (by decide +kernel) (Nat.le_of_ble_eq_true rfl) ?_
  intro p e s m args below meth c ls Q F hQ hP hl
  have hx := F.1
  have hb := F.2.1
  have hl : lv_has ls 4 [(0, .ref sp), (1, .int (jI i)), (2, .int (jI j))] := hl
  refine lv_iload_n hx hb dX3_isSeed_0 rfl (lv_at hl 1 rfl) ?_
  refine lv_aload_n hx hb dX3_isSeed_1 rfl (lv_at hl 0 rfl) ?_
  refine jv_get (v := .int (jI K)) F hP 0 rfl flX3_9 rfl dX3_isSeed_2 ?_
  refine jv_iadd hx hb dX3_isSeed_5 ?_
  refine lv_aload_n hx hb dX3_isSeed_6 rfl (lv_at hl 0 rfl) ?_
  refine jv_get (v := .ref r0) F hP 0 rfl flX3_15 rfl dX3_isSeed_7 ?_
  refine jr_V F (kX1_size l D cA r0 a0 n0 L0) cvX3_22 hP [1, 2] rfl 1 rfl rfl hl ⟨rfl, rfl, by decide, by decide⟩ rfl rfl (Nat.le_of_ble_eq_true rfl) dX3_isSeed_10 ⟨by decide, by decide⟩ (fun v hv => ?_)
  subst hv
  refine jv_icmp_gt (tgt := 32) hx hb dX3_isSeed_13 rfl (by omega) (by omega) (fun c13 => ?_) (fun c13 => ?_)
  · refine lv_iconst (v := jI 0) hx hb dX3_isSeed_32 rfl ?_
    exact jR.rz F hQ rfl (by omega) dX3_isSeed_33 (by rw [jB_f (fun h => by have := h.2.2.1; have := h.2.2.2.1; omega)])
  · refine lv_iload_n hx hb dX3_isSeed_16 rfl (lv_at hl 2 rfl) ?_
    refine lv_aload_n hx hb dX3_isSeed_17 rfl (lv_at hl 0 rfl) ?_
    refine jv_get (v := .int (jI K)) F hP 0 rfl flX3_9 rfl dX3_isSeed_18 ?_
    refine jv_iadd hx hb dX3_isSeed_21 ?_
    refine lv_aload_n hx hb dX3_isSeed_22 rfl (lv_at hl 0 rfl) ?_
    refine jv_get (v := .ref r1) F hP 0 rfl flX3_19 rfl dX3_isSeed_23 ?_
    refine jr_V F (kX1_size l D cA r1 a1 n1 L1) cvX3_22 hP [3, 4] rfl 3 rfl rfl hl ⟨rfl, rfl, by decide, by decide⟩ rfl rfl (Nat.le_of_ble_eq_true rfl) dX3_isSeed_26 ⟨by decide, by decide⟩ (fun v hv => ?_)
    subst hv
    refine jv_icmp_le (tgt := 34) hx hb dX3_isSeed_29 rfl (by omega) (by omega) (fun c29 => ?_) (fun c29 => ?_)
    · refine lv_iconst (v := jI 0) hx hb dX3_isSeed_34 rfl ?_
      refine lv_istore_n (lv' := [(3, .int (jI 0)), (0, .ref sp), (1, .int (jI i)), (2, .int (jI j))]) hx hb dX3_isSeed_35 rfl hl (by decide) rfl (fun ls hl => ?_)
      have lp36 : ∀ (fu : Nat) (s0 : Int) (ls : Array Slot), K - s0 < (fu : Int) → (0 ≤ s0 ∧ s0 ≤ K) → (∀ t, 0 ≤ t → t < s0 → L0 (i + t) = L1 (j + t)) → lv_has ls 4 [(3, .int (jI s0)), (0, .ref sp), (1, .int (jI i)), (2, .int (jI j))] → W p l e (rmk 1 0 0 21) s m args below meth c s.heap [] 0 0 Q (F0 m 36 ls []) := by
        intro fu
        induction fu with
        | zero => intro s0 ls hfu hs he hl; exfalso; omega
        | succ fu ih36 =>
          intro s0 ls hfu hs he hl
          refine lv_iload_n hx hb dX3_isSeed_36 rfl (lv_at hl 0 rfl) ?_
          refine lv_aload_n hx hb dX3_isSeed_37 rfl (lv_at hl 1 rfl) ?_
          refine jv_get (v := .int (jI K)) F hP 0 rfl flX3_9 rfl dX3_isSeed_38 ?_
          refine jv_icmp_ge (tgt := 75) hx hb dX3_isSeed_41 rfl (by omega) (by omega) (fun c41 => ?_) (fun c41 => ?_)
          · refine lv_iconst (v := jI 1) hx hb dX3_isSeed_75 rfl ?_
            exact jR.rz F hQ rfl (by omega) dX3_isSeed_76 (by rw [jB_t ⟨hi.1, hj.1, by omega, by omega, fun t t0 t1 => he t t0 (by omega)⟩])
          · refine lv_aload_n hx hb dX3_isSeed_44 rfl (lv_at hl 1 rfl) ?_
            refine jv_get (v := .ref r0) F hP 0 rfl flX3_15 rfl dX3_isSeed_45 ?_
            refine lv_iload_n hx hb dX3_isSeed_48 rfl (lv_at hl 2 rfl) ?_
            refine lv_iload_n hx hb dX3_isSeed_49 rfl (lv_at hl 0 rfl) ?_
            refine jv_iadd hx hb dX3_isSeed_50 ?_
            refine jr_V F (kX1_at l D cA r0 a0 n0 L0 (i + s0) (by omega) (by omega)) cvX3_28 hP [1, 2] rfl 1 rfl rfl hl ⟨rfl, rfl, by decide, by decide⟩ rfl rfl (Nat.le_of_ble_eq_true rfl) dX3_isSeed_51 ⟨by decide, by decide⟩ (fun v hv => ?_)
            subst hv
            refine lv_aload_n hx hb dX3_isSeed_54 rfl (lv_at hl 1 rfl) ?_
            refine jv_get (v := .ref r1) F hP 0 rfl flX3_19 rfl dX3_isSeed_55 ?_
            refine lv_iload_n hx hb dX3_isSeed_58 rfl (lv_at hl 3 rfl) ?_
            refine lv_iload_n hx hb dX3_isSeed_59 rfl (lv_at hl 0 rfl) ?_
            refine jv_iadd hx hb dX3_isSeed_60 ?_
            refine jr_V F (kX1_at l D cA r1 a1 n1 L1 (j + s0) (by omega) (by omega)) cvX3_28 hP [3, 4] rfl 3 rfl rfl hl ⟨rfl, rfl, by decide, by decide⟩ rfl rfl (Nat.le_of_ble_eq_true rfl) dX3_isSeed_61 ⟨by decide, by decide⟩ (fun v hv => ?_)
            subst hv
            have ra0 := atv_rg hL0 n0 (i + s0)
            have ra1 := atv_rg hL1 n1 (j + s0)
            refine jv_icmp_eq (tgt := 69) hx hb dX3_isSeed_64 rfl (by omega) (by omega) (fun c64 => ?_) (fun c64 => ?_)
            · refine lv_iinc (k := 0) (v := jI (s0 + 1)) (lv' := [(3, .int (jI (s0 + 1))), (0, .ref sp), (1, .int (jI i)), (2, .int (jI j))]) hx hb dX3_isSeed_69 hl rfl (jI_add _ _) (by decide) rfl (fun ls hl => ?_)
              refine lv_goto (tgt := 36) hx hb dX3_isSeed_72 rfl ?_
              refine ih36 (s0 + 1) ls  (by omega) ?_ ?_ (lv_sub hl [0, 1, 2, 3] rfl)
              · omega
              · intro t t0 t1
                by_cases ht : t < s0
                · exact he t t0 ht
                · have et : t = s0 := by omega
                  subst et
                  rw [atv_in (by omega), atv_in (by omega)] at c64
                  exact c64
            · refine lv_iconst (v := jI 0) hx hb dX3_isSeed_67 rfl ?_
              exact jR.rz F hQ rfl (by omega) dX3_isSeed_68 (by rw [jB_f (fun h => c64 (by rw [atv_in (by omega), atv_in (by omega)]; exact h.2.2.2.2 s0 (by omega) (by omega)))])
      refine lp36 ((K - 0).toNat + 1) 0 ls  (by omega) ?_ ?_ (lv_sub hl [0, 1, 2, 3] rfl)
      · omega
      · intro t t0 t1; omega
    · refine lv_iconst (v := jI 0) hx hb dX3_isSeed_32 rfl ?_
      exact jR.rz F hQ rfl (by omega) dX3_isSeed_33 (by rw [jB_f (fun h => by have := h.2.2.1; have := h.2.2.2.1; omega)])
set_option maxHeartbeats 4000000 in
set_option maxRecDepth 100000 in
theorem kX3_count (l : Launch) (D : va_G) (cA : ClassId) (sp r0 a0 r1 a1 : Nat) (n0 n1 K : Int) (L0 L1 : Int → Int) (hn0 : 0 ≤ n0 ∧ n0 ≤ 48) (hn1 : 0 ≤ n1 ∧ n1 ≤ 48) (hK : 1 ≤ K ∧ K ≤ 6) (hL0 : ∀ x, 0 ≤ L0 x ∧ L0 x ≤ 3) (hL1 : ∀ x, 0 ≤ L1 x ∧ L1 x ≤ 3) : jR l YX3_count (rmk 2 0 0 44) D cA [.ref sp] [(sp, .inr (3, [.ref r0, .ref r1, .int (jI K)])), (r0, .inr (1, [.ref a0, .int (jI n0)])), (a0, .inl (cA, 48, .inl (jA L0))), (r1, .inr (1, [.ref a1, .int (jI n1)])), (a1, .inl (cA, 48, .inl (jA L1)))] (fun v => v = .int (jI (cnt (anc L0 L1 n0 n1 K) n1 n0 0))) := by
  refine jR.intro (by decide +kernel) (Nat.le_of_ble_eq_true rfl) ?_
  intro p e s m args below meth c ls Q F hQ hP hl
  have hx := F.1
  have hb := F.2.1
  have hl : lv_has ls 4 [(0, .ref sp)] := hl
  refine lv_iconst (v := jI 0) hx hb dX3_count_0 rfl ?_
  refine lv_istore_n (lv' := [(1, .int (jI 0)), (0, .ref sp)]) hx hb dX3_count_1 rfl hl (by decide) rfl (fun ls hl => ?_)
  refine lv_iconst (v := jI 0) hx hb dX3_count_2 rfl ?_
  refine lv_istore_n (lv' := [(2, .int (jI 0)), (1, .int (jI 0)), (0, .ref sp)]) hx hb dX3_count_3 rfl hl (by decide) rfl (fun ls hl => ?_)
  have lp4 : ∀ (fu : Nat) (se : Int) (i : Int) (ls : Array Slot), n0 - i < (fu : Int) → (0 ≤ i ∧ i ≤ n0) → (se = cnt (anc L0 L1 n0 n1 K) n1 i 0) → lv_has ls 4 [(2, .int (jI i)), (1, .int (jI se)), (0, .ref sp)] → W p l e (rmk 2 0 0 44) s m args below meth c s.heap [] 0 0 Q (F0 m 4 ls []) := by
    intro fu
    induction fu with
    | zero => intro se i ls hfu hi hse hl; exfalso; omega
    | succ fu ih4 =>
      intro se i ls hfu hi hse hl
      refine lv_iload_n hx hb dX3_count_4 rfl (lv_at hl 0 rfl) ?_
      refine lv_aload_n hx hb dX3_count_5 rfl (lv_at hl 2 rfl) ?_
      refine jv_get (v := .ref r0) F hP 0 rfl flX3_15 rfl dX3_count_6 ?_
      refine jr_V F (kX1_size l D cA r0 a0 n0 L0) cvX3_22 hP [1, 2] rfl 1 rfl rfl hl ⟨rfl, rfl, by decide, by decide⟩ rfl rfl (Nat.le_of_ble_eq_true rfl) dX3_count_9 ⟨by decide, by decide⟩ (fun v hv => ?_)
      subst hv
      refine jv_icmp_ge (tgt := 52) hx hb dX3_count_12 rfl (by omega) (by omega) (fun c12 => ?_) (fun c12 => ?_)
      · refine lv_iload_n hx hb dX3_count_52 rfl (lv_at hl 1 rfl) ?_
        exact jR.ri F hQ rfl dX3_count_53 (by rw [hse, show i = n0 by omega])
      · refine lv_iconst (v := jI 0) hx hb dX3_count_15 rfl ?_
        refine lv_istore_n (lv' := [(3, .int (jI 0)), (2, .int (jI i)), (1, .int (jI se)), (0, .ref sp)]) hx hb dX3_count_16 rfl hl (by decide) rfl (fun ls hl => ?_)
        have lp17 : ∀ (fu : Nat) (sj : Int) (j : Int) (ls : Array Slot), n1 - j < (fu : Int) → (0 ≤ j ∧ j ≤ n1) → (sj = cnt (anc L0 L1 n0 n1 K) n1 i j) → lv_has ls 4 [(3, .int (jI j)), (2, .int (jI i)), (1, .int (jI sj)), (0, .ref sp)] → W p l e (rmk 2 0 0 44) s m args below meth c s.heap [] 0 0 Q (F0 m 17 ls []) := by
          intro fu
          induction fu with
          | zero => intro sj j ls hfu hj hsj hl; exfalso; omega
          | succ fu ih17 =>
            intro sj j ls hfu hj hsj hl
            refine lv_iload_n hx hb dX3_count_17 rfl (lv_at hl 0 rfl) ?_
            refine lv_aload_n hx hb dX3_count_18 rfl (lv_at hl 3 rfl) ?_
            refine jv_get (v := .ref r1) F hP 0 rfl flX3_19 rfl dX3_count_19 ?_
            refine jr_V F (kX1_size l D cA r1 a1 n1 L1) cvX3_22 hP [3, 4] rfl 3 rfl rfl hl ⟨rfl, rfl, by decide, by decide⟩ rfl rfl (Nat.le_of_ble_eq_true rfl) dX3_count_22 ⟨by decide, by decide⟩ (fun v hv => ?_)
            subst hv
            refine jv_icmp_ge (tgt := 46) hx hb dX3_count_25 rfl (by omega) (by omega) (fun c25 => ?_) (fun c25 => ?_)
            · refine lv_iinc (k := 1) (v := jI (i + 1)) (lv' := [(2, .int (jI (i + 1))), (3, .int (jI j)), (1, .int (jI sj)), (0, .ref sp)]) hx hb dX3_count_46 hl rfl (jI_add _ _) (by decide) rfl (fun ls hl => ?_)
              refine lv_goto (tgt := 4) hx hb dX3_count_49 rfl ?_
              refine ih4 sj (i + 1) ls  (by omega) ?_ ?_ (lv_sub hl [0, 2, 3] rfl)
              · omega
              · rw [← cnt_i (by omega), hsj]; congr 1; omega
            · refine lv_aload_n hx hb dX3_count_28 rfl (lv_at hl 3 rfl) ?_
              refine lv_iload_n hx hb dX3_count_29 rfl (lv_at hl 1 rfl) ?_
              refine lv_iload_n hx hb dX3_count_30 rfl (lv_at hl 0 rfl) ?_
              refine jr_V F (kX3_isSeed l D cA sp r0 a0 r1 a1 n0 n1 K L0 L1 i j (by omega) (by omega) (by omega) hL0 hL1 (by omega) (by omega)) cvX3_32 hP [0, 1, 2, 3, 4] rfl 0 rfl rfl hl ⟨rfl, rfl, by decide, by decide⟩ rfl rfl (Nat.le_of_ble_eq_true rfl) dX3_count_31 ⟨by decide, by decide⟩ (fun v hv => ?_)
              subst hv
              have hb31 := jB_01 (anc L0 L1 n0 n1 K i j)
              refine jv_if_eq (tgt := 40) hx hb dX3_count_34 rfl (by omega) (fun c34 => ?_) (fun c34 => ?_)
              · refine lv_iinc (k := 0) (v := jI (j + 1)) (lv' := [(3, .int (jI (j + 1))), (2, .int (jI i)), (1, .int (jI sj)), (0, .ref sp)]) hx hb dX3_count_40 hl rfl (jI_add _ _) (by decide) rfl (fun ls hl => ?_)
                refine lv_goto (tgt := 17) hx hb dX3_count_43 rfl ?_
                refine ih17 sj (j + 1) ls  (by omega) ?_ ?_ (lv_sub hl [0, 1, 2, 3] rfl)
                · omega
                · rw [cnt_j (by omega)]
                  first
                    | rw [jB_t (jB_1 c34)]; omega
                    | rw [jB_f (jB_0 c34)]; omega
              · refine lv_iinc (k := 2) (v := jI (sj + 1)) (lv' := [(1, .int (jI (sj + 1))), (3, .int (jI j)), (2, .int (jI i)), (0, .ref sp)]) hx hb dX3_count_37 hl rfl (jI_add _ _) (by decide) rfl (fun ls hl => ?_)
                refine lv_iinc (k := 1) (v := jI (j + 1)) (lv' := [(3, .int (jI (j + 1))), (1, .int (jI (sj + 1))), (2, .int (jI i)), (0, .ref sp)]) hx hb dX3_count_40 hl rfl (jI_add _ _) (by decide) rfl (fun ls hl => ?_)
                refine lv_goto (tgt := 17) hx hb dX3_count_43 rfl ?_
                refine ih17 (sj + 1) (j + 1) ls  (by omega) ?_ ?_ (lv_sub hl [0, 2, 1, 3] rfl)
                · omega
                · rw [cnt_j (by omega)]
                  first
                    | rw [jB_t (jB_1 c34)]; omega
                    | rw [jB_f (jB_0 c34)]; omega
        refine lp17 ((n1 - 0).toNat + 1) se 0 ls  (by omega) ?_ ?_ (lv_sub hl [0, 1, 2, 3] rfl)
        · omega
        · exact hse
  refine lp4 ((n0 - 0).toNat + 1) 0 0 ls  (by omega) ?_ ?_ (lv_sub hl [0, 1, 2] rfl)
  · omega
  · rfl
set_option maxHeartbeats 4000000 in
set_option maxRecDepth 100000 in
theorem kX3_pairAt (l : Launch) (D : va_G) (cA : ClassId) (sp r0 a0 r1 a1 : Nat) (n0 n1 K : Int) (L0 L1 : Int → Int) (x : Int) (hn0 : 0 ≤ n0 ∧ n0 ≤ 48) (hn1 : 0 ≤ n1 ∧ n1 ≤ 48) (hK : 1 ≤ K ∧ K ≤ 6) (hL0 : ∀ x, 0 ≤ L0 x ∧ L0 x ≤ 3) (hL1 : ∀ x, 0 ≤ L1 x ∧ L1 x ≤ 3) (hx0 : -2147483648 ≤ x ∧ x < 2147483648) : jR l YX3_pairAt (rmk 2 0 0 44) D cA [.ref sp, .int (jI x)] [(sp, .inr (3, [.ref r0, .ref r1, .int (jI K)])), (r0, .inr (1, [.ref a0, .int (jI n0)])), (a0, .inl (cA, 48, .inl (jA L0))), (r1, .inr (1, [.ref a1, .int (jI n1)])), (a1, .inl (cA, 48, .inl (jA L1)))] (fun v => ∃ z : Int, v = .int (jI z) ∧ ((∃ i j, anc L0 L1 n0 n1 K i j ∧ cnt (anc L0 L1 n0 n1 K) n1 i j = x ∧ z = i * 48 + j) ∨ ((∀ i j, anc L0 L1 n0 n1 K i j → cnt (anc L0 L1 n0 n1 K) n1 i j ≠ x) ∧ z = -1))) := by
  refine jR.intro (by decide +kernel) (Nat.le_of_ble_eq_true rfl) ?_
  intro p e s m args below meth c ls Q F hQ hP hl
  have hx := F.1
  have hb := F.2.1
  have hl : lv_has ls 5 [(0, .ref sp), (1, .int (jI x))] := hl
  refine lv_iconst (v := jI 0) hx hb dX3_pairAt_0 rfl ?_
  refine lv_istore_n (lv' := [(2, .int (jI 0)), (0, .ref sp), (1, .int (jI x))]) hx hb dX3_pairAt_1 rfl hl (by decide) rfl (fun ls hl => ?_)
  refine lv_iconst (v := jI 0) hx hb dX3_pairAt_2 rfl ?_
  refine lv_istore_n (lv' := [(3, .int (jI 0)), (2, .int (jI 0)), (0, .ref sp), (1, .int (jI x))]) hx hb dX3_pairAt_3 rfl hl (by decide) rfl (fun ls hl => ?_)
  have lp4 : ∀ (fu : Nat) (se : Int) (i : Int) (ls : Array Slot), n0 - i < (fu : Int) → (0 ≤ i ∧ i ≤ n0) → (se = cnt (anc L0 L1 n0 n1 K) n1 i 0) → (∀ k l, anc L0 L1 n0 n1 K k l → bef k l i 0 → cnt (anc L0 L1 n0 n1 K) n1 k l ≠ x) → lv_has ls 5 [(3, .int (jI i)), (2, .int (jI se)), (0, .ref sp), (1, .int (jI x))] → W p l e (rmk 2 0 0 44) s m args below meth c s.heap [] 0 0 Q (F0 m 4 ls []) := by
    intro fu
    induction fu with
    | zero => intro se i ls hfu hi hse hno hl; exfalso; omega
    | succ fu ih4 =>
      intro se i ls hfu hi hse hno hl
      refine lv_iload_n hx hb dX3_pairAt_4 rfl (lv_at hl 0 rfl) ?_
      refine lv_aload_n hx hb dX3_pairAt_5 rfl (lv_at hl 2 rfl) ?_
      refine jv_get (v := .ref r0) F hP 0 rfl flX3_15 rfl dX3_pairAt_6 ?_
      refine jr_V F (kX1_size l D cA r0 a0 n0 L0) cvX3_22 hP [1, 2] rfl 1 rfl rfl hl ⟨rfl, rfl, by decide, by decide⟩ rfl rfl (Nat.le_of_ble_eq_true rfl) dX3_pairAt_9 ⟨by decide, by decide⟩ (fun v hv => ?_)
      subst hv
      refine jv_icmp_ge (tgt := 67) hx hb dX3_pairAt_12 rfl (by omega) (by omega) (fun c12 => ?_) (fun c12 => ?_)
      · refine lv_iconst (v := jI (-1)) hx hb dX3_pairAt_67 rfl ?_
        exact jR.ri F hQ rfl dX3_pairAt_68 (by exact ⟨_, rfl, Or.inr ⟨fun k l hk => hno k l hk (by have := anc_in k l hk; unfold bef; omega), rfl⟩⟩)
      · refine lv_iconst (v := jI 0) hx hb dX3_pairAt_15 rfl ?_
        refine lv_istore (lv' := [(4, .int (jI 0)), (3, .int (jI i)), (2, .int (jI se)), (0, .ref sp), (1, .int (jI x))]) hx hb dX3_pairAt_16 hl (by decide) rfl (fun ls hl => ?_)
        have lp18 : ∀ (fu : Nat) (sj : Int) (j : Int) (ls : Array Slot), n1 - j < (fu : Int) → (0 ≤ j ∧ j ≤ n1) → (sj = cnt (anc L0 L1 n0 n1 K) n1 i j) → (∀ k l, anc L0 L1 n0 n1 K k l → bef k l i j → cnt (anc L0 L1 n0 n1 K) n1 k l ≠ x) → lv_has ls 5 [(4, .int (jI j)), (3, .int (jI i)), (2, .int (jI sj)), (0, .ref sp), (1, .int (jI x))] → W p l e (rmk 2 0 0 44) s m args below meth c s.heap [] 0 0 Q (F0 m 18 ls []) := by
          intro fu
          induction fu with
          | zero => intro sj j ls hfu hj hsj hnj hl; exfalso; omega
          | succ fu ih18 =>
            intro sj j ls hfu hj hsj hnj hl
            refine lv_iload hx hb dX3_pairAt_18 (lv_at hl 0 rfl) ?_
            refine lv_aload_n hx hb dX3_pairAt_20 rfl (lv_at hl 3 rfl) ?_
            refine jv_get (v := .ref r1) F hP 0 rfl flX3_19 rfl dX3_pairAt_21 ?_
            refine jr_V F (kX1_size l D cA r1 a1 n1 L1) cvX3_22 hP [3, 4] rfl 3 rfl rfl hl ⟨rfl, rfl, by decide, by decide⟩ rfl rfl (Nat.le_of_ble_eq_true rfl) dX3_pairAt_24 ⟨by decide, by decide⟩ (fun v hv => ?_)
            subst hv
            refine jv_icmp_ge (tgt := 61) hx hb dX3_pairAt_27 rfl (by omega) (by omega) (fun c27 => ?_) (fun c27 => ?_)
            · refine lv_iinc (k := 1) (v := jI (i + 1)) (lv' := [(3, .int (jI (i + 1))), (4, .int (jI j)), (2, .int (jI sj)), (0, .ref sp), (1, .int (jI x))]) hx hb dX3_pairAt_61 hl rfl (jI_add _ _) (by decide) rfl (fun ls hl => ?_)
              refine lv_goto (tgt := 4) hx hb dX3_pairAt_64 rfl ?_
              refine ih4 sj (i + 1) ls  (by omega) ?_ ?_ ?_ (lv_sub hl [0, 2, 3, 4] rfl)
              · omega
              · rw [← cnt_i (by omega), hsj]; congr 1; omega
              · intro k l hk hb2
                have hk2 := anc_in k l hk
                exact hnj k l hk (by unfold bef at hb2 ⊢; omega)
            · refine lv_aload_n hx hb dX3_pairAt_30 rfl (lv_at hl 3 rfl) ?_
              refine lv_iload_n hx hb dX3_pairAt_31 rfl (lv_at hl 1 rfl) ?_
              refine lv_iload hx hb dX3_pairAt_32 (lv_at hl 0 rfl) ?_
              refine jr_V F (kX3_isSeed l D cA sp r0 a0 r1 a1 n0 n1 K L0 L1 i j (by omega) (by omega) (by omega) hL0 hL1 (by omega) (by omega)) cvX3_32 hP [0, 1, 2, 3, 4] rfl 0 rfl rfl hl ⟨rfl, rfl, by decide, by decide⟩ rfl rfl (Nat.le_of_ble_eq_true rfl) dX3_pairAt_34 ⟨by decide, by decide⟩ (fun v hv => ?_)
              subst hv
              have hb34 := jB_01 (anc L0 L1 n0 n1 K i j)
              refine jv_if_eq (tgt := 55) hx hb dX3_pairAt_37 rfl (by omega) (fun c37 => ?_) (fun c37 => ?_)
              · refine lv_iinc (k := 0) (v := jI (j + 1)) (lv' := [(4, .int (jI (j + 1))), (3, .int (jI i)), (2, .int (jI sj)), (0, .ref sp), (1, .int (jI x))]) hx hb dX3_pairAt_55 hl rfl (jI_add _ _) (by decide) rfl (fun ls hl => ?_)
                refine lv_goto (tgt := 18) hx hb dX3_pairAt_58 rfl ?_
                refine ih18 sj (j + 1) ls  (by omega) ?_ ?_ ?_ (lv_sub hl [0, 1, 2, 3, 4] rfl)
                · omega
                · rw [cnt_j (by omega)]
                  first
                    | rw [jB_t (jB_1 c37)]; omega
                    | rw [jB_f (jB_0 c37)]; omega
                · intro k l hk hb2
                  by_cases hb3 : bef k l i j
                  · exact hnj k l hk hb3
                  · have e : k = i ∧ l = j := by unfold bef at hb2 hb3; omega
                    obtain ⟨rfl, rfl⟩ := e
                    first
                      | exact fun h => c42 (by omega)
                      | exact (jB_0 c37 hk).elim
              · refine lv_iload_n hx hb dX3_pairAt_40 rfl (lv_at hl 2 rfl) ?_
                refine lv_iload_n hx hb dX3_pairAt_41 rfl (lv_at hl 4 rfl) ?_
                have hcb := cnt_b (G := anc L0 L1 n0 n1 K) hn1.2 (i := i) (j := j) (by omega) (by omega)
                refine jv_icmp_ne (tgt := 52) hx hb dX3_pairAt_42 rfl (by omega) (by omega) (fun c42 => ?_) (fun c42 => ?_)
                · refine lv_iinc (k := 2) (v := jI (sj + 1)) (lv' := [(2, .int (jI (sj + 1))), (4, .int (jI j)), (3, .int (jI i)), (0, .ref sp), (1, .int (jI x))]) hx hb dX3_pairAt_52 hl rfl (jI_add _ _) (by decide) rfl (fun ls hl => ?_)
                  refine lv_iinc (k := 1) (v := jI (j + 1)) (lv' := [(4, .int (jI (j + 1))), (2, .int (jI (sj + 1))), (3, .int (jI i)), (0, .ref sp), (1, .int (jI x))]) hx hb dX3_pairAt_55 hl rfl (jI_add _ _) (by decide) rfl (fun ls hl => ?_)
                  refine lv_goto (tgt := 18) hx hb dX3_pairAt_58 rfl ?_
                  refine ih18 (sj + 1) (j + 1) ls  (by omega) ?_ ?_ ?_ (lv_sub hl [0, 2, 1, 3, 4] rfl)
                  · omega
                  · rw [cnt_j (by omega)]
                    first
                      | rw [jB_t (jB_1 c37)]; omega
                      | rw [jB_f (jB_0 c37)]; omega
                  · intro k l hk hb2
                    by_cases hb3 : bef k l i j
                    · exact hnj k l hk hb3
                    · have e : k = i ∧ l = j := by unfold bef at hb2 hb3; omega
                      obtain ⟨rfl, rfl⟩ := e
                      first
                        | exact fun h => c42 (by omega)
                        | exact (jB_0 c37 hk).elim
                · refine lv_iload_n hx hb dX3_pairAt_45 rfl (lv_at hl 1 rfl) ?_
                  refine lv_iload hx hb dX3_pairAt_46 (lv_at hl 0 rfl) ?_
                  refine jr_SN F (kX4_pairOf l D cA i j) cnX3_36 hP [] rfl hl ⟨rfl, rfl, by decide, by decide⟩ rfl rfl (Nat.le_of_ble_eq_true rfl) dX3_pairAt_48 ⟨by decide, by decide⟩ (fun v hv => ?_)
                  subst hv
                  exact jR.ri F hQ rfl dX3_pairAt_51 (by exact ⟨_, rfl, Or.inl ⟨i, j, jB_1 c37, by omega, rfl⟩⟩)
        refine lp18 ((n1 - 0).toNat + 1) se 0 ls  (by omega) ?_ ?_ ?_ (lv_sub hl [0, 1, 2, 3, 4] rfl)
        · omega
        · exact hse
        · exact hno
  refine lp4 ((n0 - 0).toNat + 1) 0 0 ls  (by omega) ?_ ?_ ?_ (lv_sub hl [0, 1, 2, 3] rfl)
  · omega
  · rfl
  · intro k l hk hb2
    have hk2 := anc_in k l hk
    unfold bef at hb2
    omega
