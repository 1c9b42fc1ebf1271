theorem btw_r {f s : Int → Int} {K a b : Int} (hK : 1 ≤ K) (h1 : 0 ≤ f a ∧ f a ≤ 48) (h2 : 0 ≤ f b ∧ f b ≤ 48) (h3 : 0 ≤ s a ∧ s a ≤ 48) (h4 : 0 ≤ s b ∧ s b ≤ 48) : -1 ≤ btw f s K a b ∧ btw f s K a b ≤ 96 := by
  by_cases h : f b - f a - K < 0 ∨ s b - s a - K < 0
  · rw [btw_out h]; omega
  · rw [btw_in h]; omega
theorem btw_pos {f s : Int → Int} {K a b : Int} (h : 0 ≤ btw f s K a b) : 0 ≤ f b - f a - K ∧ 0 ≤ s b - s a - K := by
  by_cases h2 : f b - f a - K < 0 ∨ s b - s a - K < 0
  · rw [btw_out h2] at h; omega
  · omega
/-- what the reference knows -/
def knw (G : Int → Int → Prop) (n0 n1 K g : Int) (f s : Int → Int) (T : Int) (lk : Int → Int) (n t : Int) : Prop := tabOK G n0 n1 f s T ∧ (∃ wt, WT G K g wt ∧ isTop G wt t ∧ isChn G wt K g t n (fun m => f (lk m)) (fun m => s (lk m))) ∧ (0 ≤ n ∧ n ≤ 48) ∧ (∀ m, 0 ≤ m → m < n → 0 ≤ lk m ∧ lk m < T) ∧ 0 ≤ T ∧ T ≤ 2304
set_option maxHeartbeats 4000000 in
set_option maxRecDepth 100000 in
theorem kX5_isAnchor (l : Launch) (D : va_G) (cA : ClassId) (mo ml mn mf mt mw mk mz : Nat) (K g ga lo gp li fo ln bs kn rd ep eq al fa : Int) (M N L0 L1 : Int → Int) (n0 n1 : Int) (i j : Int) (hn0 : 0 ≤ n0 ∧ n0 ≤ 48) (hn1 : 0 ≤ n1 ∧ n1 ≤ 48) (hL0 : ∀ x, 0 ≤ L0 x ∧ L0 x ≤ 3) (hL1 : ∀ x, 0 ≤ L1 x ∧ L1 x ≤ 3) (hN0 : N 0 = n0) (hN1 : N 1 = n1) (hM0 : ∀ x, 0 ≤ x → x < 48 → M x = L0 x) (hM1 : ∀ x, 0 ≤ x → x < 48 → M (48 + x) = L1 x) (hK : 1 ≤ K ∧ K ≤ 6) (hi : 0 ≤ i ∧ i ≤ 48) (hj : 0 ≤ j ∧ j ≤ 48) : jR l YX5_isAnchor (rmk 0 0 0 0) D cA [.ref mo, .int (jI i), .int (jI j)] [(mo, .inr (5, [.ref ml, .ref mn, .int (jI K), .int (jI g), .int (jI ga), .int (jI lo), .int (jI gp), .int (jI li), .ref mf, .ref mt, .ref mw, .int (jI fo), .ref mk, .int (jI ln), .int (jI bs), .int (jI kn), .ref mz, .int (jI rd), .int (jI ep), .int (jI eq), .int (jI al), .int (jI fa)])), (ml, .inl (cA, 96, .inl (jA M))), (mn, .inl (cA, 2, .inl (jA N)))] (fun v => v = .int (jI (jB (anc L0 L1 n0 n1 K i j)))) := by
  refine jR.intro (by decide +kernel) (Nat.le_of_ble_eq_true rfl) ?_
  intro p e s m args below meth c ls Q F hQ hP hl
  have hx := F.1
  have hb := F.2.1
  have hl : lv_has ls 5 [(0, .ref mo), (1, .int (jI i)), (2, .int (jI j))] := hl
  have lp39 : ∀ (fu : Nat) (b : Int) (k : Int) (ls : Array Slot), K - k < (fu : Int) → (b = 0 ∨ b = 1) → (0 ≤ k ∧ k ≤ K) → (b = 1 → i + K ≤ n0 ∧ j + K ≤ n1 ∧ ∀ t, 0 ≤ t → t < k → L0 (i + t) = L1 (j + t)) → (b = 0 → ¬ anc L0 L1 n0 n1 K i j) → lv_has ls 5 [(4, .int (jI k)), (3, .int (jI b)), (0, .ref mo), (1, .int (jI i)), (2, .int (jI j))] → W p l e (rmk 0 0 0 0) s m args below meth c s.heap [] 0 0 Q (F0 m 39 ls []) := by
    intro fu
    induction fu with
    | zero => intro b k ls hfu hb01 hk h1 h0 hl; exfalso; omega
    | succ fu ih39 =>
      intro b k ls hfu hb01 hk h1 h0 hl
      have hbk : b = 1 → i + K ≤ n0 ∧ j + K ≤ n1 := fun h5 => ⟨(h1 h5).1, (h1 h5).2.1⟩
      refine lv_iload hx hb dX5_isAnchor_39 (lv_at hl 0 rfl) ?_
      refine lv_aload_n hx hb dX5_isAnchor_41 rfl (lv_at hl 2 rfl) ?_
      refine jv_get (v := .int (jI K)) F hP 0 rfl flX5_16 rfl dX5_isAnchor_42 ?_
      refine jv_icmp_ge (tgt := 88) hx hb dX5_isAnchor_45 rfl (by omega) (by omega) (fun c45 => ?_) (fun c45 => ?_)
      · refine lv_iload_n hx hb dX5_isAnchor_88 rfl (lv_at hl 1 rfl) ?_
        exact jR.rz F hQ rfl (by omega) dX5_isAnchor_89 (by rcases hb01 with h5 | h5; (rw [h5, jB_f (h0 h5)]); (obtain ⟨g1, g2, g3⟩ := h1 h5; rw [h5, jB_t ⟨hi.1, hj.1, g1, g2, fun t t0 t1 => g3 t t0 (by omega)⟩]))
      · refine lv_iload_n hx hb dX5_isAnchor_48 rfl (lv_at hl 1 rfl) ?_
        refine jv_if_eq (tgt := 88) hx hb dX5_isAnchor_49 rfl (by omega) (fun c49 => ?_) (fun c49 => ?_)
        · refine lv_iload_n hx hb dX5_isAnchor_88 rfl (lv_at hl 1 rfl) ?_
          exact jR.rz F hQ rfl (by omega) dX5_isAnchor_89 (by rcases hb01 with h5 | h5; (rw [h5, jB_f (h0 h5)]); (obtain ⟨g1, g2, g3⟩ := h1 h5; rw [h5, jB_t ⟨hi.1, hj.1, g1, g2, fun t t0 t1 => g3 t t0 (by omega)⟩]))
        · have hbk2 := hbk (by omega)
          refine lv_aload_n hx hb dX5_isAnchor_52 rfl (lv_at hl 2 rfl) ?_
          refine jv_get (v := .ref ml) F hP 0 rfl flX5_7 rfl dX5_isAnchor_53 ?_
          refine lv_iload_n hx hb dX5_isAnchor_56 rfl (lv_at hl 3 rfl) ?_
          refine lv_iload hx hb dX5_isAnchor_57 (lv_at hl 0 rfl) ?_
          refine jv_iadd hx hb dX5_isAnchor_59 ?_
          refine jv_iald (fa := M) F hP 1 rfl (by omega) (by decide) dX5_isAnchor_60 ?_
          refine lv_aload_n hx hb dX5_isAnchor_61 rfl (lv_at hl 2 rfl) ?_
          refine jv_get (v := .ref ml) F hP 0 rfl flX5_7 rfl dX5_isAnchor_62 ?_
          refine lv_bipush (v := jI 48) hx hb dX5_isAnchor_65 (by decide +kernel) ?_
          refine lv_iload_n hx hb dX5_isAnchor_67 rfl (lv_at hl 4 rfl) ?_
          refine jv_iadd hx hb dX5_isAnchor_68 ?_
          refine lv_iload hx hb dX5_isAnchor_69 (lv_at hl 0 rfl) ?_
          refine jv_iadd hx hb dX5_isAnchor_71 ?_
          refine jv_iald (fa := M) F hP 1 rfl (by omega) (by decide) dX5_isAnchor_72 ?_
          have m0 := hM0 (i + k) (by omega) (by omega)
          have m1 := hM1 (j + k) (by omega) (by omega)
          have l0 := hL0 (i + k)
          have l1 := hL1 (j + k)
          rw [show 48 + j + k = 48 + (j + k) by omega, m0, m1]
          refine jv_icmp_ne (tgt := 80) hx hb dX5_isAnchor_73 rfl (by omega) (by omega) (fun c73 => ?_) (fun c73 => ?_)
          · refine lv_iconst (v := jI 0) hx hb dX5_isAnchor_80 rfl ?_
            refine lv_istore_n (lv' := [(3, .int (jI 0)), (4, .int (jI k)), (0, .ref mo), (1, .int (jI i)), (2, .int (jI j))]) hx hb dX5_isAnchor_81 rfl hl (by decide) rfl (fun ls hl => ?_)
            refine lv_iinc (k := 1) (v := jI (k + 1)) (lv' := [(4, .int (jI (k + 1))), (3, .int (jI 0)), (0, .ref mo), (1, .int (jI i)), (2, .int (jI j))]) hx hb dX5_isAnchor_82 hl rfl (jI_add _ _) (by decide) rfl (fun ls hl => ?_)
            refine lv_goto (tgt := 39) hx hb dX5_isAnchor_85 rfl ?_
            refine ih39 0 (k + 1) ls  (by omega) ?_ ?_ ?_ ?_ (lv_sub hl [0, 1, 2, 3, 4] rfl)
            · omega
            · omega
            · intro h5
              first
                | (exfalso; omega)
                | (obtain ⟨g1, g2, g3⟩ := h1 (by omega)
                   refine ⟨g1, g2, fun t t0 t1 => ?_⟩
                   by_cases e : t = k
                   · rw [e]; exact c73
                   · exact g3 t t0 (by omega))
            · intro h5
              first
                | (exfalso; omega)
                | exact fun h6 => c73 (h6.2.2.2.2 k (by omega) (by omega))
          · refine lv_iconst (v := jI 1) hx hb dX5_isAnchor_76 rfl ?_
            refine lv_goto (tgt := 81) hx hb dX5_isAnchor_77 rfl ?_
            refine lv_istore_n (lv' := [(3, .int (jI 1)), (4, .int (jI k)), (0, .ref mo), (1, .int (jI i)), (2, .int (jI j))]) hx hb dX5_isAnchor_81 rfl hl (by decide) rfl (fun ls hl => ?_)
            refine lv_iinc (k := 1) (v := jI (k + 1)) (lv' := [(4, .int (jI (k + 1))), (3, .int (jI 1)), (0, .ref mo), (1, .int (jI i)), (2, .int (jI j))]) hx hb dX5_isAnchor_82 hl rfl (jI_add _ _) (by decide) rfl (fun ls hl => ?_)
            refine lv_goto (tgt := 39) hx hb dX5_isAnchor_85 rfl ?_
            refine ih39 1 (k + 1) ls  (by omega) ?_ ?_ ?_ ?_ (lv_sub hl [0, 1, 2, 3, 4] rfl)
            · omega
            · omega
            · intro h5
              first
                | (exfalso; omega)
                | (obtain ⟨g1, g2, g3⟩ := h1 (by omega)
                   refine ⟨g1, g2, fun t t0 t1 => ?_⟩
                   by_cases e : t = k
                   · rw [e]; exact c73
                   · exact g3 t t0 (by omega))
            · intro h5
              first
                | (exfalso; omega)
                | exact fun h6 => c73 (h6.2.2.2.2 k (by omega) (by omega))
  refine lv_iload_n hx hb dX5_isAnchor_0 rfl (lv_at hl 1 rfl) ?_
  refine lv_aload_n hx hb dX5_isAnchor_1 rfl (lv_at hl 0 rfl) ?_
  refine jv_get (v := .int (jI K)) F hP 0 rfl flX5_16 rfl dX5_isAnchor_2 ?_
  refine jv_iadd hx hb dX5_isAnchor_5 ?_
  refine lv_aload_n hx hb dX5_isAnchor_6 rfl (lv_at hl 0 rfl) ?_
  refine jv_get (v := .ref mn) F hP 0 rfl flX5_13 rfl dX5_isAnchor_7 ?_
  refine lv_iconst (v := jI 0) hx hb dX5_isAnchor_10 rfl ?_
  refine jv_iald (fa := N) F hP 2 rfl (by omega) (by decide) dX5_isAnchor_11 ?_
  refine jv_icmp_gt (tgt := 34) hx hb dX5_isAnchor_12 rfl (by omega) (by omega) (fun c12 => ?_) (fun c12 => ?_)
  · refine lv_iconst (v := jI 0) hx hb dX5_isAnchor_34 rfl ?_
    refine lv_istore_n (lv' := [(3, .int (jI 0)), (0, .ref mo), (1, .int (jI i)), (2, .int (jI j))]) hx hb dX5_isAnchor_35 rfl hl (by decide) rfl (fun ls hl => ?_)
    refine lv_iconst (v := jI 0) hx hb dX5_isAnchor_36 rfl ?_
    refine lv_istore (lv' := [(4, .int (jI 0)), (3, .int (jI 0)), (0, .ref mo), (1, .int (jI i)), (2, .int (jI j))]) hx hb dX5_isAnchor_37 hl (by decide) rfl (fun ls hl => ?_)
    refine lp39 (Int.toNat (K - 0) + 1) 0 0 ls  (by omega) ?_ ?_ ?_ ?_ (lv_sub hl [0, 1, 2, 3, 4] rfl)
    · omega
    · omega
    · intro h5; first | omega | exact ⟨by omega, by omega, fun t t0 t1 => by omega⟩
    · intro h5 h6; have := h6.2.2.1; have := h6.2.2.2.1; omega
  · refine lv_iload_n hx hb dX5_isAnchor_15 rfl (lv_at hl 2 rfl) ?_
    refine lv_aload_n hx hb dX5_isAnchor_16 rfl (lv_at hl 0 rfl) ?_
    refine jv_get (v := .int (jI K)) F hP 0 rfl flX5_16 rfl dX5_isAnchor_17 ?_
    refine jv_iadd hx hb dX5_isAnchor_20 ?_
    refine lv_aload_n hx hb dX5_isAnchor_21 rfl (lv_at hl 0 rfl) ?_
    refine jv_get (v := .ref mn) F hP 0 rfl flX5_13 rfl dX5_isAnchor_22 ?_
    refine lv_iconst (v := jI 1) hx hb dX5_isAnchor_25 rfl ?_
    refine jv_iald (fa := N) F hP 2 rfl (by omega) (by decide) dX5_isAnchor_26 ?_
    refine jv_icmp_gt (tgt := 34) hx hb dX5_isAnchor_27 rfl (by omega) (by omega) (fun c27 => ?_) (fun c27 => ?_)
    · refine lv_iconst (v := jI 0) hx hb dX5_isAnchor_34 rfl ?_
      refine lv_istore_n (lv' := [(3, .int (jI 0)), (0, .ref mo), (1, .int (jI i)), (2, .int (jI j))]) hx hb dX5_isAnchor_35 rfl hl (by decide) rfl (fun ls hl => ?_)
      refine lv_iconst (v := jI 0) hx hb dX5_isAnchor_36 rfl ?_
      refine lv_istore (lv' := [(4, .int (jI 0)), (3, .int (jI 0)), (0, .ref mo), (1, .int (jI i)), (2, .int (jI j))]) hx hb dX5_isAnchor_37 hl (by decide) rfl (fun ls hl => ?_)
      refine lp39 (Int.toNat (K - 0) + 1) 0 0 ls  (by omega) ?_ ?_ ?_ ?_ (lv_sub hl [0, 1, 2, 3, 4] rfl)
      · omega
      · omega
      · intro h5; first | omega | exact ⟨by omega, by omega, fun t t0 t1 => by omega⟩
      · intro h5 h6; have := h6.2.2.1; have := h6.2.2.2.1; omega
    · refine lv_iconst (v := jI 1) hx hb dX5_isAnchor_30 rfl ?_
      refine lv_goto (tgt := 35) hx hb dX5_isAnchor_31 rfl ?_
      refine lv_istore_n (lv' := [(3, .int (jI 1)), (0, .ref mo), (1, .int (jI i)), (2, .int (jI j))]) hx hb dX5_isAnchor_35 rfl hl (by decide) rfl (fun ls hl => ?_)
      refine lv_iconst (v := jI 0) hx hb dX5_isAnchor_36 rfl ?_
      refine lv_istore (lv' := [(4, .int (jI 0)), (3, .int (jI 1)), (0, .ref mo), (1, .int (jI i)), (2, .int (jI j))]) hx hb dX5_isAnchor_37 hl (by decide) rfl (fun ls hl => ?_)
      refine lp39 (Int.toNat (K - 0) + 1) 1 0 ls  (by omega) ?_ ?_ ?_ ?_ (lv_sub hl [0, 1, 2, 3, 4] rfl)
      · omega
      · omega
      · intro h5; first | omega | exact ⟨by omega, by omega, fun t t0 t1 => by omega⟩
      · intro h5 h6; have := h6.2.2.1; have := h6.2.2.2.1; omega
set_option maxHeartbeats 4000000 in
set_option maxRecDepth 100000 in
theorem kX5_between (l : Launch) (D : va_G) (cA : ClassId) (mo ml mn mf mt mw mk mz : Nat) (K g ga lo gp li fo ln bs kn rd ep eq al fa : Int) (f sf : Int → Int) (x y : Int) (hK : 1 ≤ K ∧ K ≤ 6) (hx0 : 0 ≤ x ∧ x < 2304) (hy : 0 ≤ y ∧ y < 2304) (hv : (0 ≤ f x ∧ f x ≤ 48) ∧ (0 ≤ f y ∧ f y ≤ 48) ∧ (0 ≤ sf x ∧ sf x ≤ 48) ∧ (0 ≤ sf y ∧ sf y ≤ 48)) : jR l YX5_between (rmk 0 0 0 0) D cA [.ref mo, .int (jI x), .int (jI y)] [(mo, .inr (5, [.ref ml, .ref mn, .int (jI K), .int (jI g), .int (jI ga), .int (jI lo), .int (jI gp), .int (jI li), .ref mf, .ref mt, .ref mw, .int (jI fo), .ref mk, .int (jI ln), .int (jI bs), .int (jI kn), .ref mz, .int (jI rd), .int (jI ep), .int (jI eq), .int (jI al), .int (jI fa)])), (mf, .inl (cA, 2304, .inl (jA f))), (mt, .inl (cA, 2304, .inl (jA sf)))] (fun v => v = .int (jI (btw f sf K x y))) := by
  refine jR.intro (by decide +kernel) (Nat.le_of_ble_eq_true rfl) ?_
  intro p e s m args below meth c ls Q F hQ hP hl
  have hx := F.1
  have hb := F.2.1
  have hl : lv_has ls 5 [(0, .ref mo), (1, .int (jI x)), (2, .int (jI y))] := hl
  refine lv_aload_n hx hb dX5_between_0 rfl (lv_at hl 0 rfl) ?_
  refine jv_get (v := .ref mf) F hP 0 rfl flX5_35 rfl dX5_between_1 ?_
  refine lv_iload_n hx hb dX5_between_4 rfl (lv_at hl 2 rfl) ?_
  refine jv_iald (fa := f) F hP 1 rfl (by omega) (by decide) dX5_between_5 ?_
  refine lv_aload_n hx hb dX5_between_6 rfl (lv_at hl 0 rfl) ?_
  refine jv_get (v := .ref mf) F hP 0 rfl flX5_35 rfl dX5_between_7 ?_
  refine lv_iload_n hx hb dX5_between_10 rfl (lv_at hl 1 rfl) ?_
  refine jv_iald (fa := f) F hP 1 rfl (by omega) (by decide) dX5_between_11 ?_
  refine jv_isub hx hb dX5_between_12 ?_
  refine lv_aload_n hx hb dX5_between_13 rfl (lv_at hl 0 rfl) ?_
  refine jv_get (v := .int (jI K)) F hP 0 rfl flX5_16 rfl dX5_between_14 ?_
  refine jv_isub hx hb dX5_between_17 ?_
  refine lv_istore_n (lv' := [(3, .int (jI (((f y) - (f x)) - K))), (0, .ref mo), (1, .int (jI x)), (2, .int (jI y))]) hx hb dX5_between_18 rfl hl (by decide) rfl (fun ls hl => ?_)
  refine lv_aload_n hx hb dX5_between_19 rfl (lv_at hl 1 rfl) ?_
  refine jv_get (v := .ref mt) F hP 0 rfl flX5_38 rfl dX5_between_20 ?_
  refine lv_iload_n hx hb dX5_between_23 rfl (lv_at hl 3 rfl) ?_
  refine jv_iald (fa := sf) F hP 2 rfl (by omega) (by decide) dX5_between_24 ?_
  refine lv_aload_n hx hb dX5_between_25 rfl (lv_at hl 1 rfl) ?_
  refine jv_get (v := .ref mt) F hP 0 rfl flX5_38 rfl dX5_between_26 ?_
  refine lv_iload_n hx hb dX5_between_29 rfl (lv_at hl 2 rfl) ?_
  refine jv_iald (fa := sf) F hP 2 rfl (by omega) (by decide) dX5_between_30 ?_
  refine jv_isub hx hb dX5_between_31 ?_
  refine lv_aload_n hx hb dX5_between_32 rfl (lv_at hl 1 rfl) ?_
  refine jv_get (v := .int (jI K)) F hP 0 rfl flX5_16 rfl dX5_between_33 ?_
  refine jv_isub hx hb dX5_between_36 ?_
  refine lv_istore (lv' := [(4, .int (jI (((sf y) - (sf x)) - K))), (3, .int (jI (((f y) - (f x)) - K))), (0, .ref mo), (1, .int (jI x)), (2, .int (jI y))]) hx hb dX5_between_37 hl (by decide) rfl (fun ls hl => ?_)
  refine lv_iload_n hx hb dX5_between_39 rfl (lv_at hl 1 rfl) ?_
  refine jv_if_lt (tgt := 48) hx hb dX5_between_40 rfl (by omega) (fun c40 => ?_) (fun c40 => ?_)
  · refine lv_iconst (v := jI (-1)) hx hb dX5_between_48 rfl ?_
    refine lv_goto (tgt := 56) hx hb dX5_between_49 rfl ?_
    exact jR.ri F hQ rfl dX5_between_56 (by rw [btw_out (by omega)])
  · refine lv_iload hx hb dX5_between_43 (lv_at hl 0 rfl) ?_
    refine jv_if_ge (tgt := 52) hx hb dX5_between_45 rfl (by omega) (fun c45 => ?_) (fun c45 => ?_)
    · refine lv_iload_n hx hb dX5_between_52 rfl (lv_at hl 1 rfl) ?_
      refine lv_iload hx hb dX5_between_53 (lv_at hl 0 rfl) ?_
      refine jv_iadd hx hb dX5_between_55 ?_
      exact jR.ri F hQ rfl dX5_between_56 (by rw [btw_in (by omega)])
    · refine lv_iconst (v := jI (-1)) hx hb dX5_between_48 rfl ?_
      refine lv_goto (tgt := 56) hx hb dX5_between_49 rfl ?_
      exact jR.ri F hQ rfl dX5_between_56 (by rw [btw_out (by omega)])
