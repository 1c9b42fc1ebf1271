/-- a statement that arithmetic needn't look into -/
def hid (P : Prop) : Prop := P
theorem hid_i {P : Prop} (h : P) : hid P := h
set_option maxHeartbeats 4000000 in
set_option maxRecDepth 100000 in
theorem kX5_reach (l : Launch) (D : va_G) (cA : ClassId) (mo ml mn mf mt mw mk mz : Nat) (K g ga lo gp li fo ln bs kn rd ep eq al fa : Int) (M N L0 L1 : Int → Int) (n0 n1 : Int) (sc : Int → Int) (i j : Int) (hn0 : 0 ≤ n0 ∧ n0 ≤ 48) (hn1 : 0 ≤ n1 ∧ n1 ≤ 48) (hL0 : ∀ x, 0 ≤ L0 x ∧ L0 x ≤ 3) (hL1 : ∀ x, 0 ≤ L1 x ∧ L1 x ≤ 3) (hN0 : N 0 = n0) (hN1 : N 1 = n1) (hM0 : ∀ x, 0 ≤ x → x < 48 → M x = L0 x) (hM1 : ∀ x, 0 ≤ x → x < 48 → M (48 + x) = L1 x) (hi0 : -2147483648 ≤ i ∧ i < 2147483648) (hj0 : -2147483648 ≤ j ∧ j < 2147483648) (hga : 1 ≤ ga ∧ ga ≤ 9) (hlo : 0 ≤ lo ∧ lo ≤ 9) (hgp : 1 ≤ gp ∧ gp ≤ 9) (hli : 0 ≤ li ∧ li ≤ 99) : jM l YX5_reach (rmk 1 0 0 22) D cA [.ref mo, .int (jI i), .int (jI j)] [(mo, .inr (5, [.ref ml, .ref mn, .int (jI K), .int (jI g), .int (jI ga), .int (jI lo), .int (jI gp), .int (jI li), .ref mf, .ref mt, .ref mw, .int (jI fo), .ref mk, .int (jI ln), .int (jI bs), .int (jI kn), .ref mz, .int (jI rd), .int (jI ep), .int (jI eq), .int (jI al), .int (jI fa)])), (ml, .inl (cA, 96, .inl (jA M))), (mn, .inl (cA, 2, .inl (jA N))), (mz, .inl (cA, 2401, .inl (jA sc)))] (fun v w => (((0 ≤ i ∧ i ≤ n0) ∧ (0 ≤ j ∧ j ≤ n1)) ∧ v = some (.int (jI ((Zi (smv L0 L1 i j ga lo) (n0 - i) (n1 - j) gp li (n0 - i + (n1 - j))).2.2.1))) ∧ ∃ k9 : Int → Int, w = [(mo, .inr (5, [.ref ml, .ref mn, .int (jI K), .int (jI g), .int (jI ga), .int (jI lo), .int (jI gp), .int (jI li), .ref mf, .ref mt, .ref mw, .int (jI fo), .ref mk, .int (jI ln), .int (jI bs), .int (jI kn), .ref mz, .int (jI 1), .int (jI ((Zi (smv L0 L1 i j ga lo) (n0 - i) (n1 - j) gp li (n0 - i + (n1 - j))).2.2.2.1)), .int (jI ((Zi (smv L0 L1 i j ga lo) (n0 - i) (n1 - j) gp li (n0 - i + (n1 - j))).2.2.2.2.1)), .int (jI ((Zi (smv L0 L1 i j ga lo) (n0 - i) (n1 - j) gp li (n0 - i + (n1 - j))).2.2.2.2.2.1)), .int (jI ((Zi (smv L0 L1 i j ga lo) (n0 - i) (n1 - j) gp li (n0 - i + (n1 - j))).2.2.2.2.2.2))])), (ml, .inl (cA, 96, .inl (jA M))), (mn, .inl (cA, 2, .inl (jA N))), (mz, .inl (cA, 2401, .inl (jA k9)))]) ∨ (¬ ((0 ≤ i ∧ i ≤ n0) ∧ (0 ≤ j ∧ j ≤ n1)) ∧ v = some (.int (jI (-1))) ∧ w = [(mo, .inr (5, [.ref ml, .ref mn, .int (jI K), .int (jI g), .int (jI ga), .int (jI lo), .int (jI gp), .int (jI li), .ref mf, .ref mt, .ref mw, .int (jI fo), .ref mk, .int (jI ln), .int (jI bs), .int (jI kn), .ref mz, .int (jI rd), .int (jI ep), .int (jI eq), .int (jI al), .int (jI fa)])), (ml, .inl (cA, 96, .inl (jA M))), (mn, .inl (cA, 2, .inl (jA N))), (mz, .inl (cA, 2401, .inl (jA sc)))])) 0 0 := by
  refine jM.intro (by decide +kernel) (Nat.le_of_ble_eq_true rfl) ?_
  intro p e s m args below meth c ls Q A F hQ hA hP hD hS hl
  have hx := F.1
  have hb := F.2.1
  have hl : lv_has ls 12 [(0, .ref mo), (1, .int (jI i)), (2, .int (jI j))] := hl
  refine lv_iload_n hx hb dX5_reach_0 rfl (lv_at hl 1 rfl) ?_
  refine jv_if_lt (tgt := 28) hx hb dX5_reach_1 rfl (by omega) (fun c1 => ?_) (fun c1 => ?_)
  · refine lv_iconst (v := jI (-1)) hx hb dX5_reach_28 rfl ?_
    exact jM.ri F hQ rfl dX5_reach_29 hS hP hD (by exact Or.inr ⟨by omega, rfl, rfl⟩)
  · refine lv_iload_n hx hb dX5_reach_4 rfl (lv_at hl 2 rfl) ?_
    refine jv_if_lt (tgt := 28) hx hb dX5_reach_5 rfl (by omega) (fun c5 => ?_) (fun c5 => ?_)
    · refine lv_iconst (v := jI (-1)) hx hb dX5_reach_28 rfl ?_
      exact jM.ri F hQ rfl dX5_reach_29 hS hP hD (by exact Or.inr ⟨by omega, rfl, rfl⟩)
    · refine lv_iload_n hx hb dX5_reach_8 rfl (lv_at hl 1 rfl) ?_
      refine lv_aload_n hx hb dX5_reach_9 rfl (lv_at hl 0 rfl) ?_
      refine jv_get (v := .ref mn) F hP 0 rfl flX5_13 rfl dX5_reach_10 ?_
      refine lv_iconst (v := jI 0) hx hb dX5_reach_13 rfl ?_
      refine jv_iald (fa := N) F hP 2 rfl (by omega) (by decide) dX5_reach_14 ?_
      refine jv_icmp_gt (tgt := 28) hx hb dX5_reach_15 rfl (by omega) (by omega) (fun c15 => ?_) (fun c15 => ?_)
      · refine lv_iconst (v := jI (-1)) hx hb dX5_reach_28 rfl ?_
        exact jM.ri F hQ rfl dX5_reach_29 hS hP hD (by exact Or.inr ⟨by omega, rfl, rfl⟩)
      · refine lv_iload_n hx hb dX5_reach_18 rfl (lv_at hl 2 rfl) ?_
        refine lv_aload_n hx hb dX5_reach_19 rfl (lv_at hl 0 rfl) ?_
        refine jv_get (v := .ref mn) F hP 0 rfl flX5_13 rfl dX5_reach_20 ?_
        refine lv_iconst (v := jI 1) hx hb dX5_reach_23 rfl ?_
        refine jv_iald (fa := N) F hP 2 rfl (by omega) (by decide) dX5_reach_24 ?_
        refine jv_icmp_le (tgt := 30) hx hb dX5_reach_25 rfl (by omega) (by omega) (fun c25 => ?_) (fun c25 => ?_)
        · refine lv_aload_n hx hb dX5_reach_30 rfl (lv_at hl 0 rfl) ?_
          refine jv_get (v := .ref mn) F hP 0 rfl flX5_13 rfl dX5_reach_31 ?_
          refine lv_iconst (v := jI 0) hx hb dX5_reach_34 rfl ?_
          refine jv_iald (fa := N) F hP 2 rfl (by omega) (by decide) dX5_reach_35 ?_
          refine lv_iload_n hx hb dX5_reach_36 rfl (lv_at hl 1 rfl) ?_
          refine jv_isub hx hb dX5_reach_37 ?_
          refine lv_istore_n (lv' := [(3, .int (jI ((N 0) - i))), (0, .ref mo), (1, .int (jI i)), (2, .int (jI j))]) hx hb dX5_reach_38 rfl hl (by decide) rfl (fun ls hl => ?_)
          refine lv_aload_n hx hb dX5_reach_39 rfl (lv_at hl 1 rfl) ?_
          refine jv_get (v := .ref mn) F hP 0 rfl flX5_13 rfl dX5_reach_40 ?_
          refine lv_iconst (v := jI 1) hx hb dX5_reach_43 rfl ?_
          refine jv_iald (fa := N) F hP 2 rfl (by omega) (by decide) dX5_reach_44 ?_
          refine lv_iload_n hx hb dX5_reach_45 rfl (lv_at hl 3 rfl) ?_
          refine jv_isub hx hb dX5_reach_46 ?_
          refine lv_istore (lv' := [(4, .int (jI ((N 1) - j))), (3, .int (jI ((N 0) - i))), (0, .ref mo), (1, .int (jI i)), (2, .int (jI j))]) hx hb dX5_reach_47 hl (by decide) rfl (fun ls hl => ?_)
          refine lv_aload_n hx hb dX5_reach_49 rfl (lv_at hl 2 rfl) ?_
          refine lv_iconst (v := jI 1) hx hb dX5_reach_50 rfl ?_
          refine jv_put (v := .int (jI 1)) F hP hD hS 0 rfl flX5_79 pfX5 (by decide +kernel) (by decide +kernel) (by decide +kernel) (Nat.le_of_ble_eq_true rfl) dX5_reach_51 (fun H locs hP hD hS => ?_)
          have hP : va_P D cls [(mo, .inr (5, [.ref ml, .ref mn, .int (jI K), .int (jI g), .int (jI ga), .int (jI lo), .int (jI gp), .int (jI li), .ref mf, .ref mt, .ref mw, .int (jI fo), .ref mk, .int (jI ln), .int (jI bs), .int (jI kn), .ref mz, .int (jI 1), .int (jI ep), .int (jI eq), .int (jI al), .int (jI fa)])), (ml, .inl (cA, 96, .inl (jA M))), (mn, .inl (cA, 2, .inl (jA N))), (mz, .inl (cA, 2401, .inl (jA sc)))] H := hP
          have hD : va_D A [(mo, .inr (5, [.ref ml, .ref mn, .int (jI K), .int (jI g), .int (jI ga), .int (jI lo), .int (jI gp), .int (jI li), .ref mf, .ref mt, .ref mw, .int (jI fo), .ref mk, .int (jI ln), .int (jI bs), .int (jI kn), .ref mz, .int (jI 1), .int (jI ep), .int (jI eq), .int (jI al), .int (jI fa)])), (ml, .inl (cA, 96, .inl (jA M))), (mn, .inl (cA, 2, .inl (jA N))), (mz, .inl (cA, 2401, .inl (jA sc)))] := hD
          refine lv_aload_n hx hb dX5_reach_54 rfl (lv_at hl 2 rfl) ?_
          refine lv_iconst (v := jI 0) hx hb dX5_reach_55 rfl ?_
          refine jv_put (v := .int (jI 0)) F hP hD hS 0 rfl flX5_82 pfX5 (by decide +kernel) rfl rfl (Nat.le_of_ble_eq_true rfl) dX5_reach_56 (fun H locs hP hD hS => ?_)
          have hP : va_P D cls [(mo, .inr (5, [.ref ml, .ref mn, .int (jI K), .int (jI g), .int (jI ga), .int (jI lo), .int (jI gp), .int (jI li), .ref mf, .ref mt, .ref mw, .int (jI fo), .ref mk, .int (jI ln), .int (jI bs), .int (jI kn), .ref mz, .int (jI 1), .int (jI 0), .int (jI eq), .int (jI al), .int (jI fa)])), (ml, .inl (cA, 96, .inl (jA M))), (mn, .inl (cA, 2, .inl (jA N))), (mz, .inl (cA, 2401, .inl (jA sc)))] H := hP
          have hD : va_D A [(mo, .inr (5, [.ref ml, .ref mn, .int (jI K), .int (jI g), .int (jI ga), .int (jI lo), .int (jI gp), .int (jI li), .ref mf, .ref mt, .ref mw, .int (jI fo), .ref mk, .int (jI ln), .int (jI bs), .int (jI kn), .ref mz, .int (jI 1), .int (jI 0), .int (jI eq), .int (jI al), .int (jI fa)])), (ml, .inl (cA, 96, .inl (jA M))), (mn, .inl (cA, 2, .inl (jA N))), (mz, .inl (cA, 2401, .inl (jA sc)))] := hD
          refine lv_aload_n hx hb dX5_reach_59 rfl (lv_at hl 2 rfl) ?_
          refine lv_iconst (v := jI 0) hx hb dX5_reach_60 rfl ?_
          refine jv_put (v := .int (jI 0)) F hP hD hS 0 rfl flX5_85 pfX5 (by decide +kernel) rfl rfl (Nat.le_of_ble_eq_true rfl) dX5_reach_61 (fun H locs hP hD hS => ?_)
          have hP : va_P D cls [(mo, .inr (5, [.ref ml, .ref mn, .int (jI K), .int (jI g), .int (jI ga), .int (jI lo), .int (jI gp), .int (jI li), .ref mf, .ref mt, .ref mw, .int (jI fo), .ref mk, .int (jI ln), .int (jI bs), .int (jI kn), .ref mz, .int (jI 1), .int (jI 0), .int (jI 0), .int (jI al), .int (jI fa)])), (ml, .inl (cA, 96, .inl (jA M))), (mn, .inl (cA, 2, .inl (jA N))), (mz, .inl (cA, 2401, .inl (jA sc)))] H := hP
          have hD : va_D A [(mo, .inr (5, [.ref ml, .ref mn, .int (jI K), .int (jI g), .int (jI ga), .int (jI lo), .int (jI gp), .int (jI li), .ref mf, .ref mt, .ref mw, .int (jI fo), .ref mk, .int (jI ln), .int (jI bs), .int (jI kn), .ref mz, .int (jI 1), .int (jI 0), .int (jI 0), .int (jI al), .int (jI fa)])), (ml, .inl (cA, 96, .inl (jA M))), (mn, .inl (cA, 2, .inl (jA N))), (mz, .inl (cA, 2401, .inl (jA sc)))] := hD
          refine lv_aload_n hx hb dX5_reach_64 rfl (lv_at hl 2 rfl) ?_
          refine lv_iconst (v := jI 1) hx hb dX5_reach_65 rfl ?_
          refine jv_put (v := .int (jI 1)) F hP hD hS 0 rfl flX5_88 pfX5 (by decide +kernel) rfl rfl (Nat.le_of_ble_eq_true rfl) dX5_reach_66 (fun H locs hP hD hS => ?_)
          have hP : va_P D cls [(mo, .inr (5, [.ref ml, .ref mn, .int (jI K), .int (jI g), .int (jI ga), .int (jI lo), .int (jI gp), .int (jI li), .ref mf, .ref mt, .ref mw, .int (jI fo), .ref mk, .int (jI ln), .int (jI bs), .int (jI kn), .ref mz, .int (jI 1), .int (jI 0), .int (jI 0), .int (jI 1), .int (jI fa)])), (ml, .inl (cA, 96, .inl (jA M))), (mn, .inl (cA, 2, .inl (jA N))), (mz, .inl (cA, 2401, .inl (jA sc)))] H := hP
          have hD : va_D A [(mo, .inr (5, [.ref ml, .ref mn, .int (jI K), .int (jI g), .int (jI ga), .int (jI lo), .int (jI gp), .int (jI li), .ref mf, .ref mt, .ref mw, .int (jI fo), .ref mk, .int (jI ln), .int (jI bs), .int (jI kn), .ref mz, .int (jI 1), .int (jI 0), .int (jI 0), .int (jI 1), .int (jI fa)])), (ml, .inl (cA, 96, .inl (jA M))), (mn, .inl (cA, 2, .inl (jA N))), (mz, .inl (cA, 2401, .inl (jA sc)))] := hD
          refine lv_aload_n hx hb dX5_reach_69 rfl (lv_at hl 2 rfl) ?_
          refine lv_iconst (v := jI 0) hx hb dX5_reach_70 rfl ?_
          refine jv_put (v := .int (jI 0)) F hP hD hS 0 rfl flX5_91 pfX5 (by decide +kernel) rfl rfl (Nat.le_of_ble_eq_true rfl) dX5_reach_71 (fun H locs hP hD hS => ?_)
          have hP : va_P D cls [(mo, .inr (5, [.ref ml, .ref mn, .int (jI K), .int (jI g), .int (jI ga), .int (jI lo), .int (jI gp), .int (jI li), .ref mf, .ref mt, .ref mw, .int (jI fo), .ref mk, .int (jI ln), .int (jI bs), .int (jI kn), .ref mz, .int (jI 1), .int (jI 0), .int (jI 0), .int (jI 1), .int (jI 0)])), (ml, .inl (cA, 96, .inl (jA M))), (mn, .inl (cA, 2, .inl (jA N))), (mz, .inl (cA, 2401, .inl (jA sc)))] H := hP
          have hD : va_D A [(mo, .inr (5, [.ref ml, .ref mn, .int (jI K), .int (jI g), .int (jI ga), .int (jI lo), .int (jI gp), .int (jI li), .ref mf, .ref mt, .ref mw, .int (jI fo), .ref mk, .int (jI ln), .int (jI bs), .int (jI kn), .ref mz, .int (jI 1), .int (jI 0), .int (jI 0), .int (jI 1), .int (jI 0)])), (ml, .inl (cA, 96, .inl (jA M))), (mn, .inl (cA, 2, .inl (jA N))), (mz, .inl (cA, 2401, .inl (jA sc)))] := hD
          refine lv_iconst (v := jI 0) hx hb dX5_reach_74 rfl ?_
          refine lv_istore (lv' := [(5, .int (jI 0)), (4, .int (jI ((N 1) - j))), (3, .int (jI ((N 0) - i))), (0, .ref mo), (1, .int (jI i)), (2, .int (jI j))]) hx hb dX5_reach_75 hl (by decide) rfl (fun ls hl => ?_)
          refine lv_iconst (v := jI 0) hx hb dX5_reach_77 rfl ?_
          refine lv_istore (lv' := [(6, .int (jI 0)), (5, .int (jI 0)), (4, .int (jI ((N 1) - j))), (3, .int (jI ((N 0) - i))), (0, .ref mo), (1, .int (jI i)), (2, .int (jI j))]) hx hb dX5_reach_78 hl (by decide) rfl (fun ls hl => ?_)
          have lp80 : ∀ (fu : Nat) (d : Int) (u : acc) (sc1 : Int → Int) (ls : Array Slot) (H : Heap) (locs : List Loc), n0 - i + (n1 - j) + 1 - d < (fu : Int) → (0 ≤ d ∧ d ≤ n0 - i + (n1 - j) + 1) → (u = (Zi (smv L0 L1 i j ga lo) (n0 - i) (n1 - j) gp li (d - 1)).2.2) → (∀ x y, 0 ≤ x → x ≤ n0 - i → 0 ≤ y → y ≤ n1 - j → x + y < d → sc1 (49 * x + y) = (Zi (smv L0 L1 i j ga lo) (n0 - i) (n1 - j) gp li (x + y)).2.1 x) → lv_has ls 12 [(6, .int (jI d)), (5, .int (jI u.1)), (4, .int (jI ((N 1) - j))), (3, .int (jI ((N 0) - i))), (0, .ref mo), (1, .int (jI i)), (2, .int (jI j))] → va_P D cls [(mo, .inr (5, [.ref ml, .ref mn, .int (jI K), .int (jI g), .int (jI ga), .int (jI lo), .int (jI gp), .int (jI li), .ref mf, .ref mt, .ref mw, .int (jI fo), .ref mk, .int (jI ln), .int (jI bs), .int (jI kn), .ref mz, .int (jI 1), .int (jI u.2.1), .int (jI u.2.2.1), .int (jI u.2.2.2.1), .int (jI u.2.2.2.2)])), (ml, .inl (cA, 96, .inl (jA M))), (mn, .inl (cA, 2, .inl (jA N))), (mz, .inl (cA, 2401, .inl (jA sc1)))] H → va_D A [(mo, .inr (5, [.ref ml, .ref mn, .int (jI K), .int (jI g), .int (jI ga), .int (jI lo), .int (jI gp), .int (jI li), .ref mf, .ref mt, .ref mw, .int (jI fo), .ref mk, .int (jI ln), .int (jI bs), .int (jI kn), .ref mz, .int (jI 1), .int (jI u.2.1), .int (jI u.2.2.1), .int (jI u.2.2.2.1), .int (jI u.2.2.2.2)])), (ml, .inl (cA, 96, .inl (jA M))), (mn, .inl (cA, 2, .inl (jA N))), (mz, .inl (cA, 2401, .inl (jA sc1)))] → va_S A s.heap H locs → W p l e (rmk 1 0 0 22) s m args below meth c H locs 0 0 Q (F0 m 80 ls []) := by
            intro fu
            induction fu with
            | zero => intro d u sc1 ls H locs hfu hd hu hsc hl hP hD hS; exfalso; omega
            | succ fu ih80 =>
              intro d u sc1 ls H locs hfu hd hu hsc hl hP hD hS
              have hzi : ZI (n0 - i) (n1 - j) (max 0 (d - 1)) (Zi (smv L0 L1 i j ga lo) (n0 - i) (n1 - j) gp li (d - 1)) := by
                by_cases h5 : d = 0
                · have h6 := Zi_I (smv_b (L0 := L0) (L1 := L1) (i := i) (j := j) hga hlo) hgp hli (P := n0 - i) (Q := n1 - j) (by omega) (by omega) (d := 0) (by omega) (by omega)
                  rw [h5]
                  exact h6
                · have h6 := Zi_I (smv_b (L0 := L0) (L1 := L1) (i := i) (j := j) hga hlo) hgp hli (P := n0 - i) (Q := n1 - j) (by omega) (by omega) (d := d - 1) (by omega) (by omega)
                  rw [show max 0 (d - 1) = d - 1 by omega]
                  exact h6
              have hub : 0 ≤ u.1 ∧ u.1 ≤ 900 := by rw [hu]; exact (zi_b hzi (by omega)).2.2
              have hu0 : d = 0 → u.1 = 0 := by
                intro h5
                rw [hu, h5]
                rfl
              have hZs : 1 ≤ d → (Zi (smv L0 L1 i j ga lo) (n0 - i) (n1 - j) gp li d) = ((Zi (smv L0 L1 i j ga lo) (n0 - i) (n1 - j) gp li (d - 1)).2.1, nx (smv L0 L1 i j ga lo) (n0 - i) (n1 - j) gp li d u.1 (Zi (smv L0 L1 i j ga lo) (n0 - i) (n1 - j) gp li (d - 1)).2.1 (Zi (smv L0 L1 i j ga lo) (n0 - i) (n1 - j) gp li (d - 1)).1, rA (nx (smv L0 L1 i j ga lo) (n0 - i) (n1 - j) gp li d u.1 (Zi (smv L0 L1 i j ga lo) (n0 - i) (n1 - j) gp li (d - 1)).2.1 (Zi (smv L0 L1 i j ga lo) (n0 - i) (n1 - j) gp li (d - 1)).1) d u (d + 1)) := by
                intro h5
                have h7 := Zi_s (sm := (smv L0 L1 i j ga lo)) (P := n0 - i) (Q := n1 - j) (gp := gp) (li := li) (d := d - 1) (by omega)
                rw [show d - 1 + 1 = d by omega, show d - 1 + 2 = d + 1 by omega, ← hu] at h7
                exact h7
              have hZd : 1 ≤ d → (Zi (smv L0 L1 i j ga lo) (n0 - i) (n1 - j) gp li d).2.1 = nx (smv L0 L1 i j ga lo) (n0 - i) (n1 - j) gp li d u.1 (Zi (smv L0 L1 i j ga lo) (n0 - i) (n1 - j) gp li (d - 1)).2.1 (Zi (smv L0 L1 i j ga lo) (n0 - i) (n1 - j) gp li (d - 1)).1 := fun h5 => by rw [hZs h5]
              refine lv_iload hx hb dX5_reach_80 (lv_at hl 0 rfl) ?_
              refine lv_iload_n hx hb dX5_reach_82 rfl (lv_at hl 3 rfl) ?_
              refine lv_iload hx hb dX5_reach_83 (lv_at hl 2 rfl) ?_
              refine jv_iadd hx hb dX5_reach_85 ?_
              refine jv_icmp_gt (tgt := 419) hx hb dX5_reach_86 rfl (by omega) (by omega) (fun c86 => ?_) (fun c86 => ?_)
              · refine lv_iload hx hb dX5_reach_419 (lv_at hl 1 rfl) ?_
                exact jM.ri F hQ rfl dX5_reach_421 hS hP hD (by exact Or.inl ⟨by omega, by rw [hu, show d - 1 = n0 - i + (n1 - j) by omega], sc1, by rw [hu, show d - 1 = n0 - i + (n1 - j) by omega]⟩)
              · refine lv_iload hx hb dX5_reach_89 (lv_at hl 1 rfl) ?_
                refine lv_istore (lv' := [(7, .int (jI u.1)), (6, .int (jI d)), (5, .int (jI u.1)), (4, .int (jI ((N 1) - j))), (3, .int (jI ((N 0) - i))), (0, .ref mo), (1, .int (jI i)), (2, .int (jI j))]) hx hb dX5_reach_91 hl (by decide) rfl (fun ls hl => ?_)
                refine lv_iconst (v := jI 0) hx hb dX5_reach_93 rfl ?_
                refine lv_istore (lv' := [(8, .int (jI 0)), (7, .int (jI u.1)), (6, .int (jI d)), (5, .int (jI u.1)), (4, .int (jI ((N 1) - j))), (3, .int (jI ((N 0) - i))), (0, .ref mo), (1, .int (jI i)), (2, .int (jI j))]) hx hb dX5_reach_94 hl (by decide) rfl (fun ls hl => ?_)
                have lp96 : ∀ (fu : Nat) (pp : Int) (u2 : acc) (sc2 : Int → Int) (ls : Array Slot) (H : Heap) (locs : List Loc), d + 1 - pp < (fu : Int) → (0 ≤ pp ∧ pp ≤ d + 1 ∧ pp ≤ n0 - i + 1) → ((d = 0 → u2 = u) ∧ (1 ≤ d → u2 = rA (Zi (smv L0 L1 i j ga lo) (n0 - i) (n1 - j) gp li d).2.1 d u pp)) → (∀ x y, 0 ≤ x → x ≤ n0 - i → 0 ≤ y → y ≤ n1 - j → (x + y < d ∨ (x + y = d ∧ x < pp)) → sc2 (49 * x + y) = (Zi (smv L0 L1 i j ga lo) (n0 - i) (n1 - j) gp li (x + y)).2.1 x) → (0 ≤ u2.1 ∧ u2.1 ≤ 2000) → lv_has ls 12 [(8, .int (jI pp)), (7, .int (jI u.1)), (6, .int (jI d)), (5, .int (jI u2.1)), (4, .int (jI ((N 1) - j))), (3, .int (jI ((N 0) - i))), (0, .ref mo), (1, .int (jI i)), (2, .int (jI j))] → va_P D cls [(mo, .inr (5, [.ref ml, .ref mn, .int (jI K), .int (jI g), .int (jI ga), .int (jI lo), .int (jI gp), .int (jI li), .ref mf, .ref mt, .ref mw, .int (jI fo), .ref mk, .int (jI ln), .int (jI bs), .int (jI kn), .ref mz, .int (jI 1), .int (jI u2.2.1), .int (jI u2.2.2.1), .int (jI u2.2.2.2.1), .int (jI u2.2.2.2.2)])), (ml, .inl (cA, 96, .inl (jA M))), (mn, .inl (cA, 2, .inl (jA N))), (mz, .inl (cA, 2401, .inl (jA sc2)))] H → va_D A [(mo, .inr (5, [.ref ml, .ref mn, .int (jI K), .int (jI g), .int (jI ga), .int (jI lo), .int (jI gp), .int (jI li), .ref mf, .ref mt, .ref mw, .int (jI fo), .ref mk, .int (jI ln), .int (jI bs), .int (jI kn), .ref mz, .int (jI 1), .int (jI u2.2.1), .int (jI u2.2.2.1), .int (jI u2.2.2.2.1), .int (jI u2.2.2.2.2)])), (ml, .inl (cA, 96, .inl (jA M))), (mn, .inl (cA, 2, .inl (jA N))), (mz, .inl (cA, 2401, .inl (jA sc2)))] → va_S A s.heap H locs → W p l e (rmk 1 0 0 22) s m args below meth c H locs 0 0 Q (F0 m 96 ls []) := by
                  intro fu
                  induction fu with
                  | zero => intro pp u2 sc2 ls H locs hfu hp hu2 hsc2 hb2 hl hP hD hS; exfalso; omega
                  | succ fu ih96 =>
                    intro pp u2 sc2 ls H locs hfu hp hu2 hsc2 hb2 hl hP hD hS
                    refine lv_iload hx hb dX5_reach_96 (lv_at hl 0 rfl) ?_
                    refine lv_iload_n hx hb dX5_reach_98 rfl (lv_at hl 5 rfl) ?_
                    refine jv_icmp_gt (tgt := 413) hx hb dX5_reach_99 rfl (by omega) (by omega) (fun c99 => ?_) (fun c99 => ?_)
                    · refine lv_iinc (k := 2) (v := jI (d + 1)) (lv' := [(6, .int (jI (d + 1))), (8, .int (jI pp)), (7, .int (jI u.1)), (5, .int (jI u2.1)), (4, .int (jI ((N 1) - j))), (3, .int (jI ((N 0) - i))), (0, .ref mo), (1, .int (jI i)), (2, .int (jI j))]) hx hb dX5_reach_413 hl rfl (jI_add _ _) (by decide) rfl (fun ls hl => ?_)
                      refine lv_goto (tgt := 80) hx hb dX5_reach_416 rfl ?_
                      refine ih80 (d + 1) u2 sc2 ls H locs (by omega) ?_ ?_ ?_ (lv_sub hl [0, 3, 4, 5, 6, 7, 8] rfl) hP hD hS
                      · omega
                      · rw [show d + 1 - 1 = d by omega]
                        by_cases h5 : d = 0
                        · rw [hu2.1 h5, hu, h5]; rfl
                        · rw [hu2.2 (by omega)]
                          have h6 : (Zi (smv L0 L1 i j ga lo) (n0 - i) (n1 - j) gp li d).2.2 = rA (Zi (smv L0 L1 i j ga lo) (n0 - i) (n1 - j) gp li d).2.1 d u (d + 1) := by rw [hZs (by omega)]
                          rw [h6]
                          exact (rA_skip2 (by omega) (by omega) (fun x x0 x1 => by rw [hZd (by omega)]; exact nx_out (by omega))).symm
                      · intro x y x0 x1 y0 y1 h5
                        exact hsc2 x y x0 x1 y0 y1 (by omega)
                    · refine lv_iload hx hb dX5_reach_102 (lv_at hl 0 rfl) ?_
                      refine lv_iload hx hb dX5_reach_104 (lv_at hl 2 rfl) ?_
                      refine jv_icmp_gt (tgt := 413) hx hb dX5_reach_106 rfl (by omega) (by omega) (fun c106 => ?_) (fun c106 => ?_)
                      · refine lv_iinc (k := 2) (v := jI (d + 1)) (lv' := [(6, .int (jI (d + 1))), (8, .int (jI pp)), (7, .int (jI u.1)), (5, .int (jI u2.1)), (4, .int (jI ((N 1) - j))), (3, .int (jI ((N 0) - i))), (0, .ref mo), (1, .int (jI i)), (2, .int (jI j))]) hx hb dX5_reach_413 hl rfl (jI_add _ _) (by decide) rfl (fun ls hl => ?_)
                        refine lv_goto (tgt := 80) hx hb dX5_reach_416 rfl ?_
                        refine ih80 (d + 1) u2 sc2 ls H locs (by omega) ?_ ?_ ?_ (lv_sub hl [0, 3, 4, 5, 6, 7, 8] rfl) hP hD hS
                        · omega
                        · rw [show d + 1 - 1 = d by omega]
                          by_cases h5 : d = 0
                          · rw [hu2.1 h5, hu, h5]; rfl
                          · rw [hu2.2 (by omega)]
                            have h6 : (Zi (smv L0 L1 i j ga lo) (n0 - i) (n1 - j) gp li d).2.2 = rA (Zi (smv L0 L1 i j ga lo) (n0 - i) (n1 - j) gp li d).2.1 d u (d + 1) := by rw [hZs (by omega)]
                            rw [h6]
                            exact (rA_skip2 (by omega) (by omega) (fun x x0 x1 => by rw [hZd (by omega)]; exact nx_out (by omega))).symm
                        · intro x y x0 x1 y0 y1 h5
                          exact hsc2 x y x0 x1 y0 y1 (by omega)
                      · refine lv_iload hx hb dX5_reach_109 (lv_at hl 2 rfl) ?_
                        refine lv_iload hx hb dX5_reach_111 (lv_at hl 0 rfl) ?_
                        refine jv_isub hx hb dX5_reach_113 ?_
                        refine lv_istore (lv' := [(9, .int (jI (d - pp))), (8, .int (jI pp)), (7, .int (jI u.1)), (6, .int (jI d)), (5, .int (jI u2.1)), (4, .int (jI ((N 1) - j))), (3, .int (jI ((N 0) - i))), (0, .ref mo), (1, .int (jI i)), (2, .int (jI j))]) hx hb dX5_reach_114 hl (by decide) rfl (fun ls hl => ?_)
                        refine lv_iload hx hb dX5_reach_116 (lv_at hl 0 rfl) ?_
                        refine lv_iload hx hb dX5_reach_118 (lv_at hl 5 rfl) ?_
                        refine jv_icmp_le (tgt := 126) hx hb dX5_reach_120 rfl (by omega) (by omega) (fun c120 => ?_) (fun c120 => ?_)
                        · have hB : sat sc2 (pp - 1) (d - pp) = -1000000 ∧ pp = 0 ∨ 0 < pp ∧ sat sc2 (pp - 1) (d - pp) = (Zi (smv L0 L1 i j ga lo) (n0 - i) (n1 - j) gp li (d - 1)).2.1 (pp - 1) := by
                            by_cases h5 : pp = 0
                            · exact Or.inl ⟨sat_o (by omega), h5⟩
                            · refine Or.inr ⟨by omega, ?_⟩
                              rw [sat_i (by omega), hsc2 (pp - 1) (d - pp) (by omega) (by omega) (by omega) (by omega) (by omega), show pp - 1 + (d - pp) = d - 1 by omega]
                          have hC : sat sc2 pp (d - pp - 1) = -1000000 ∧ d - pp = 0 ∨ 0 < d - pp ∧ sat sc2 pp (d - pp - 1) = (Zi (smv L0 L1 i j ga lo) (n0 - i) (n1 - j) gp li (d - 1)).2.1 pp := by
                            by_cases h5 : d - pp = 0
                            · exact Or.inl ⟨sat_o (by omega), h5⟩
                            · refine Or.inr ⟨by omega, ?_⟩
                              rw [sat_i (by omega), hsc2 pp (d - pp - 1) (by omega) (by omega) (by omega) (by omega) (by omega), show pp + (d - pp - 1) = d - 1 by omega]
                          have hA9 : 0 < pp → 0 < d - pp → sat sc2 (pp - 1) (d - pp - 1) = (Zi (smv L0 L1 i j ga lo) (n0 - i) (n1 - j) gp li (d - 1)).1 (pp - 1) := by
                            intro h5 h6
                            have h7 := Zi_s (sm := (smv L0 L1 i j ga lo)) (P := n0 - i) (Q := n1 - j) (gp := gp) (li := li) (d := d - 2) (by omega)
                            rw [show d - 2 + 1 = d - 1 by omega] at h7
                            rw [sat_i (by omega), hsc2 (pp - 1) (d - pp - 1) (by omega) (by omega) (by omega) (by omega) (by omega), show pp - 1 + (d - pp - 1) = d - 2 by omega, h7]
                          have hz1 := (zi_b hzi (by omega)).1
                          have hz2 := (zi_b hzi (by omega)).2.1
                          have hbB := hz1 (pp - 1)
                          have hbC := hz1 pp
                          have hbA := hz2 (pp - 1)
                          have lp307 : ∀ (s3 : Int) (ls : Array Slot) (H : Heap) (locs : List Loc), (-1000000 ≤ s3 ∧ s3 ≤ 1000) → ((d = 0 → s3 = 0) ∧ (1 ≤ d → hid (∃ s1 s2, (0 < pp ∧ 0 < d - pp ∧ -1000000 < sat sc2 (pp - 1) (d - pp - 1) ∧ s1 = sat sc2 (pp - 1) (d - pp - 1) + smv L0 L1 i j ga lo pp (d - pp) ∨ ¬ (0 < pp ∧ 0 < d - pp ∧ -1000000 < sat sc2 (pp - 1) (d - pp - 1)) ∧ s1 = -1000000) ∧ (-1000000 < sat sc2 (pp - 1) (d - pp) ∧ s2 = max s1 (sat sc2 (pp - 1) (d - pp) - gp) ∨ ¬ -1000000 < sat sc2 (pp - 1) (d - pp) ∧ s2 = s1) ∧ (-1000000 < sat sc2 pp (d - pp - 1) ∧ s3 = max s2 (sat sc2 pp (d - pp - 1) - gp) ∨ ¬ -1000000 < sat sc2 pp (d - pp - 1) ∧ s3 = s2)))) → lv_has ls 12 [(10, .int (jI s3)), (9, .int (jI (d - pp))), (8, .int (jI pp)), (7, .int (jI u.1)), (6, .int (jI d)), (5, .int (jI u2.1)), (4, .int (jI ((N 1) - j))), (3, .int (jI ((N 0) - i))), (0, .ref mo), (1, .int (jI i)), (2, .int (jI j))] → va_P D cls [(mo, .inr (5, [.ref ml, .ref mn, .int (jI K), .int (jI g), .int (jI ga), .int (jI lo), .int (jI gp), .int (jI li), .ref mf, .ref mt, .ref mw, .int (jI fo), .ref mk, .int (jI ln), .int (jI bs), .int (jI kn), .ref mz, .int (jI 1), .int (jI u2.2.1), .int (jI u2.2.2.1), .int (jI u2.2.2.2.1), .int (jI u2.2.2.2.2)])), (ml, .inl (cA, 96, .inl (jA M))), (mn, .inl (cA, 2, .inl (jA N))), (mz, .inl (cA, 2401, .inl (jA sc2)))] H → va_D A [(mo, .inr (5, [.ref ml, .ref mn, .int (jI K), .int (jI g), .int (jI ga), .int (jI lo), .int (jI gp), .int (jI li), .ref mf, .ref mt, .ref mw, .int (jI fo), .ref mk, .int (jI ln), .int (jI bs), .int (jI kn), .ref mz, .int (jI 1), .int (jI u2.2.1), .int (jI u2.2.2.1), .int (jI u2.2.2.2.1), .int (jI u2.2.2.2.2)])), (ml, .inl (cA, 96, .inl (jA M))), (mn, .inl (cA, 2, .inl (jA N))), (mz, .inl (cA, 2401, .inl (jA sc2)))] → va_S A s.heap H locs → W p l e (rmk 1 0 0 22) s m args below meth c H locs 0 0 Q (F0 m 307 ls []) := by
                            intro s3 ls H locs hb4 hE3 hl hP hD hS
                            have hcell : (-1000000 < s3 ∧ u.1 - li ≤ s3 → s3 = (Zi (smv L0 L1 i j ga lo) (n0 - i) (n1 - j) gp li d).2.1 pp ∧ s3 ≠ -1000000) ∧ (¬ (-1000000 < s3 ∧ u.1 - li ≤ s3) → (Zi (smv L0 L1 i j ga lo) (n0 - i) (n1 - j) gp li d).2.1 pp = -1000000) := by
                              by_cases hd0 : d = 0
                              · have h5 : s3 = 0 := hE3.1 hd0
                                have h6 : pp = 0 := by omega
                                have h7 := hu0 hd0
                                refine ⟨fun _ => ⟨?_, by omega⟩, fun h8 => (h8 ⟨by omega, by omega⟩).elim⟩
                                rw [h5, h6, hd0]
                                rfl
                              · obtain ⟨s1, s2, e1, e2, e3⟩ := hE3.2 (by omega)
                                rw [hZd (by omega)]
                                have hzi2 := hzi
                                rw [show max 0 (d - 1) = d - 1 by omega] at hzi2
                                exact mc_eq (smv_b hga hlo) hgp hli (by omega) hub.1 hzi2.1 (by rw [show d - 2 = d - 1 - 1 by omega]; exact hzi2.2.1) (by omega) (by omega) hA9 hB hC e1 e2 e3
                            refine lv_iload hx hb dX5_reach_307 (lv_at hl 0 rfl) ?_
                            refine lv_ldc (v := jI (-1000000)) hx hb F.own (F.wd wcX5_78) dX5_reach_309 ?_
                            refine jv_icmp_le (tgt := 330) hx hb dX5_reach_311 rfl (by omega) (by omega) (fun c311 => ?_) (fun c311 => ?_)
                            · refine lv_iconst (v := jI 0) hx hb dX5_reach_330 rfl ?_
                              refine lv_istore (lv' := [(11, .int (jI 0)), (10, .int (jI s3)), (9, .int (jI (d - pp))), (8, .int (jI pp)), (7, .int (jI u.1)), (6, .int (jI d)), (5, .int (jI u2.1)), (4, .int (jI ((N 1) - j))), (3, .int (jI ((N 0) - i))), (0, .ref mo), (1, .int (jI i)), (2, .int (jI j))]) hx hb dX5_reach_331 hl (by decide) rfl (fun ls hl => ?_)
                              refine lv_aload_n hx hb dX5_reach_333 rfl (lv_at hl 9 rfl) ?_
                              refine jv_get (v := .ref mz) F hP 0 rfl flX5_47 rfl dX5_reach_334 ?_
                              refine lv_bipush (v := jI 49) hx hb dX5_reach_337 (by decide +kernel) ?_
                              refine lv_iload hx hb dX5_reach_339 (lv_at hl 3 rfl) ?_
                              refine jv_imul hx hb dX5_reach_341 ?_
                              refine lv_iload hx hb dX5_reach_342 (lv_at hl 2 rfl) ?_
                              refine jv_iadd hx hb dX5_reach_344 ?_
                              refine lv_iload hx hb dX5_reach_345 (lv_at hl 0 rfl) ?_
                              refine jv_if_eq (tgt := 355) hx hb dX5_reach_347 rfl (by omega) (fun c347 => ?_) (fun c347 => ?_)
                              · refine lv_ldc (v := jI (-1000000)) hx hb F.own (F.wd wcX5_78) dX5_reach_355 ?_
                                refine jv_iast (fa := sc2) F hP hD hS 3 rfl (by omega) (by decide) dX5_reach_357 (fun H locs hP hD hS => ?_)
                                have hP : va_P D cls [(mo, .inr (5, [.ref ml, .ref mn, .int (jI K), .int (jI g), .int (jI ga), .int (jI lo), .int (jI gp), .int (jI li), .ref mf, .ref mt, .ref mw, .int (jI fo), .ref mk, .int (jI ln), .int (jI bs), .int (jI kn), .ref mz, .int (jI 1), .int (jI u2.2.1), .int (jI u2.2.2.1), .int (jI u2.2.2.2.1), .int (jI u2.2.2.2.2)])), (ml, .inl (cA, 96, .inl (jA M))), (mn, .inl (cA, 2, .inl (jA N))), (mz, .inl (cA, 2401, .inl (jA (jU sc2 ((49 * pp) + (d - pp)) (-1000000)))))] H := hP
                                have hD : va_D A [(mo, .inr (5, [.ref ml, .ref mn, .int (jI K), .int (jI g), .int (jI ga), .int (jI lo), .int (jI gp), .int (jI li), .ref mf, .ref mt, .ref mw, .int (jI fo), .ref mk, .int (jI ln), .int (jI bs), .int (jI kn), .ref mz, .int (jI 1), .int (jI u2.2.1), .int (jI u2.2.2.1), .int (jI u2.2.2.2.1), .int (jI u2.2.2.2.2)])), (ml, .inl (cA, 96, .inl (jA M))), (mn, .inl (cA, 2, .inl (jA N))), (mz, .inl (cA, 2401, .inl (jA (jU sc2 ((49 * pp) + (d - pp)) (-1000000)))))] := hD
                                refine lv_iload hx hb dX5_reach_358 (lv_at hl 0 rfl) ?_
                                refine jv_if_eq (tgt := 407) hx hb dX5_reach_360 rfl (by omega) (fun c360 => ?_) (fun c360 => ?_)
                                · refine lv_iinc (k := 3) (v := jI (pp + 1)) (lv' := [(8, .int (jI (pp + 1))), (11, .int (jI 0)), (10, .int (jI s3)), (9, .int (jI (d - pp))), (7, .int (jI u.1)), (6, .int (jI d)), (5, .int (jI u2.1)), (4, .int (jI ((N 1) - j))), (3, .int (jI ((N 0) - i))), (0, .ref mo), (1, .int (jI i)), (2, .int (jI j))]) hx hb dX5_reach_407 hl rfl (jI_add _ _) (by decide) rfl (fun ls hl => ?_)
                                  refine lv_goto (tgt := 96) hx hb dX5_reach_410 rfl ?_
                                  refine ih96 (pp + 1) u2 (jU sc2 ((49 * pp) + (d - pp)) (-1000000)) ls H locs (by omega) ?_ ?_ ?_ ?_ (lv_sub hl [0, 4, 5, 6, 7, 8, 9, 10, 11] rfl) hP hD hS
                                  · omega
                                  · refine ⟨fun h5 => ?_, fun h5 => ?_⟩
                                    · first
                                        | exact hu2.1 h5
                                        | (exfalso; omega)
                                    · rw [rA_s (by omega), ← hu2.2 h5]
                                      first
                                        | (rw [acc1_dead (hcell.2 (by omega))]; done)
                                        | (exfalso; omega)
                                        | (rw [acc1_dead (by rw [hZd h5]; exact nx_out (by omega))]; done)
                                        | (rw [← (hcell.1 ⟨by omega, by omega⟩).1, acc1_hi (by omega) (by omega)]; done)
                                        | (rw [← (hcell.1 ⟨by omega, by omega⟩).1, acc1_lo (by omega) (by omega)]; done)
                                  · intro x y x0 x1 y0 y1 h5
                                    first
                                      | (by_cases h6 : x = pp ∧ y = d - pp
                                         · obtain ⟨h7, h8⟩ := h6
                                           rw [h7, h8, show pp + (d - pp) = d by omega]
                                           first
                                             | (rw [jU_s, hcell.2 (by omega)]; done)
                                             | (rw [jU_s]; exact (hcell.1 ⟨by omega, by omega⟩).1)
                                         · rw [jU_n (by omega)]
                                           exact hsc2 x y x0 x1 y0 y1 (by omega))
                                      | exact hsc2 x y x0 x1 y0 y1 (by omega)
                                  · first
                                      | exact hb2
                                      | (show 0 ≤ s3 ∧ s3 ≤ 2000; omega)
                                      | (show 0 ≤ u2.1 ∧ u2.1 ≤ 2000; exact hb2)
                                · exfalso
                                  omega
                              · exfalso
                                omega
                            · refine lv_iload hx hb dX5_reach_314 (lv_at hl 0 rfl) ?_
                              refine lv_iload hx hb dX5_reach_316 (lv_at hl 3 rfl) ?_
                              refine lv_aload_n hx hb dX5_reach_318 rfl (lv_at hl 8 rfl) ?_
                              refine jv_get (v := .int (jI li)) F hP 0 rfl flX5_32 rfl dX5_reach_319 ?_
                              refine jv_isub hx hb dX5_reach_322 ?_
                              refine jv_icmp_lt (tgt := 330) hx hb dX5_reach_323 rfl (by omega) (by omega) (fun c323 => ?_) (fun c323 => ?_)
                              · refine lv_iconst (v := jI 0) hx hb dX5_reach_330 rfl ?_
                                refine lv_istore (lv' := [(11, .int (jI 0)), (10, .int (jI s3)), (9, .int (jI (d - pp))), (8, .int (jI pp)), (7, .int (jI u.1)), (6, .int (jI d)), (5, .int (jI u2.1)), (4, .int (jI ((N 1) - j))), (3, .int (jI ((N 0) - i))), (0, .ref mo), (1, .int (jI i)), (2, .int (jI j))]) hx hb dX5_reach_331 hl (by decide) rfl (fun ls hl => ?_)
                                refine lv_aload_n hx hb dX5_reach_333 rfl (lv_at hl 9 rfl) ?_
                                refine jv_get (v := .ref mz) F hP 0 rfl flX5_47 rfl dX5_reach_334 ?_
                                refine lv_bipush (v := jI 49) hx hb dX5_reach_337 (by decide +kernel) ?_
                                refine lv_iload hx hb dX5_reach_339 (lv_at hl 3 rfl) ?_
                                refine jv_imul hx hb dX5_reach_341 ?_
                                refine lv_iload hx hb dX5_reach_342 (lv_at hl 2 rfl) ?_
                                refine jv_iadd hx hb dX5_reach_344 ?_
                                refine lv_iload hx hb dX5_reach_345 (lv_at hl 0 rfl) ?_
                                refine jv_if_eq (tgt := 355) hx hb dX5_reach_347 rfl (by omega) (fun c347 => ?_) (fun c347 => ?_)
                                · refine lv_ldc (v := jI (-1000000)) hx hb F.own (F.wd wcX5_78) dX5_reach_355 ?_
                                  refine jv_iast (fa := sc2) F hP hD hS 3 rfl (by omega) (by decide) dX5_reach_357 (fun H locs hP hD hS => ?_)
                                  have hP : va_P D cls [(mo, .inr (5, [.ref ml, .ref mn, .int (jI K), .int (jI g), .int (jI ga), .int (jI lo), .int (jI gp), .int (jI li), .ref mf, .ref mt, .ref mw, .int (jI fo), .ref mk, .int (jI ln), .int (jI bs), .int (jI kn), .ref mz, .int (jI 1), .int (jI u2.2.1), .int (jI u2.2.2.1), .int (jI u2.2.2.2.1), .int (jI u2.2.2.2.2)])), (ml, .inl (cA, 96, .inl (jA M))), (mn, .inl (cA, 2, .inl (jA N))), (mz, .inl (cA, 2401, .inl (jA (jU sc2 ((49 * pp) + (d - pp)) (-1000000)))))] H := hP
                                  have hD : va_D A [(mo, .inr (5, [.ref ml, .ref mn, .int (jI K), .int (jI g), .int (jI ga), .int (jI lo), .int (jI gp), .int (jI li), .ref mf, .ref mt, .ref mw, .int (jI fo), .ref mk, .int (jI ln), .int (jI bs), .int (jI kn), .ref mz, .int (jI 1), .int (jI u2.2.1), .int (jI u2.2.2.1), .int (jI u2.2.2.2.1), .int (jI u2.2.2.2.2)])), (ml, .inl (cA, 96, .inl (jA M))), (mn, .inl (cA, 2, .inl (jA N))), (mz, .inl (cA, 2401, .inl (jA (jU sc2 ((49 * pp) + (d - pp)) (-1000000)))))] := hD
                                  refine lv_iload hx hb dX5_reach_358 (lv_at hl 0 rfl) ?_
                                  refine jv_if_eq (tgt := 407) hx hb dX5_reach_360 rfl (by omega) (fun c360 => ?_) (fun c360 => ?_)
                                  · refine lv_iinc (k := 3) (v := jI (pp + 1)) (lv' := [(8, .int (jI (pp + 1))), (11, .int (jI 0)), (10, .int (jI s3)), (9, .int (jI (d - pp))), (7, .int (jI u.1)), (6, .int (jI d)), (5, .int (jI u2.1)), (4, .int (jI ((N 1) - j))), (3, .int (jI ((N 0) - i))), (0, .ref mo), (1, .int (jI i)), (2, .int (jI j))]) hx hb dX5_reach_407 hl rfl (jI_add _ _) (by decide) rfl (fun ls hl => ?_)
                                    refine lv_goto (tgt := 96) hx hb dX5_reach_410 rfl ?_
                                    refine ih96 (pp + 1) u2 (jU sc2 ((49 * pp) + (d - pp)) (-1000000)) ls H locs (by omega) ?_ ?_ ?_ ?_ (lv_sub hl [0, 4, 5, 6, 7, 8, 9, 10, 11] rfl) hP hD hS
                                    · omega
                                    · refine ⟨fun h5 => ?_, fun h5 => ?_⟩
                                      · first
                                          | exact hu2.1 h5
                                          | (exfalso; omega)
                                      · rw [rA_s (by omega), ← hu2.2 h5]
                                        first
                                          | (rw [acc1_dead (hcell.2 (by omega))]; done)
                                          | (exfalso; omega)
                                          | (rw [acc1_dead (by rw [hZd h5]; exact nx_out (by omega))]; done)
                                          | (rw [← (hcell.1 ⟨by omega, by omega⟩).1, acc1_hi (by omega) (by omega)]; done)
                                          | (rw [← (hcell.1 ⟨by omega, by omega⟩).1, acc1_lo (by omega) (by omega)]; done)
                                    · intro x y x0 x1 y0 y1 h5
                                      first
                                        | (by_cases h6 : x = pp ∧ y = d - pp
                                           · obtain ⟨h7, h8⟩ := h6
                                             rw [h7, h8, show pp + (d - pp) = d by omega]
                                             first
                                               | (rw [jU_s, hcell.2 (by omega)]; done)
                                               | (rw [jU_s]; exact (hcell.1 ⟨by omega, by omega⟩).1)
                                           · rw [jU_n (by omega)]
                                             exact hsc2 x y x0 x1 y0 y1 (by omega))
                                        | exact hsc2 x y x0 x1 y0 y1 (by omega)
                                    · first
                                        | exact hb2
                                        | (show 0 ≤ s3 ∧ s3 ≤ 2000; omega)
                                        | (show 0 ≤ u2.1 ∧ u2.1 ≤ 2000; exact hb2)
                                  · exfalso
                                    omega
                                · exfalso
                                  omega
                              · refine lv_iconst (v := jI 1) hx hb dX5_reach_326 rfl ?_
                                refine lv_goto (tgt := 331) hx hb dX5_reach_327 rfl ?_
                                refine lv_istore (lv' := [(11, .int (jI 1)), (10, .int (jI s3)), (9, .int (jI (d - pp))), (8, .int (jI pp)), (7, .int (jI u.1)), (6, .int (jI d)), (5, .int (jI u2.1)), (4, .int (jI ((N 1) - j))), (3, .int (jI ((N 0) - i))), (0, .ref mo), (1, .int (jI i)), (2, .int (jI j))]) hx hb dX5_reach_331 hl (by decide) rfl (fun ls hl => ?_)
                                refine lv_aload_n hx hb dX5_reach_333 rfl (lv_at hl 9 rfl) ?_
                                refine jv_get (v := .ref mz) F hP 0 rfl flX5_47 rfl dX5_reach_334 ?_
                                refine lv_bipush (v := jI 49) hx hb dX5_reach_337 (by decide +kernel) ?_
                                refine lv_iload hx hb dX5_reach_339 (lv_at hl 3 rfl) ?_
                                refine jv_imul hx hb dX5_reach_341 ?_
                                refine lv_iload hx hb dX5_reach_342 (lv_at hl 2 rfl) ?_
                                refine jv_iadd hx hb dX5_reach_344 ?_
                                refine lv_iload hx hb dX5_reach_345 (lv_at hl 0 rfl) ?_
                                refine jv_if_eq (tgt := 355) hx hb dX5_reach_347 rfl (by omega) (fun c347 => ?_) (fun c347 => ?_)
                                · exfalso
                                  omega
                                · refine lv_iload hx hb dX5_reach_350 (lv_at hl 1 rfl) ?_
                                  refine lv_goto (tgt := 357) hx hb dX5_reach_352 rfl ?_
                                  refine jv_iast (fa := sc2) F hP hD hS 3 rfl (by omega) (by decide) dX5_reach_357 (fun H locs hP hD hS => ?_)
                                  have hP : va_P D cls [(mo, .inr (5, [.ref ml, .ref mn, .int (jI K), .int (jI g), .int (jI ga), .int (jI lo), .int (jI gp), .int (jI li), .ref mf, .ref mt, .ref mw, .int (jI fo), .ref mk, .int (jI ln), .int (jI bs), .int (jI kn), .ref mz, .int (jI 1), .int (jI u2.2.1), .int (jI u2.2.2.1), .int (jI u2.2.2.2.1), .int (jI u2.2.2.2.2)])), (ml, .inl (cA, 96, .inl (jA M))), (mn, .inl (cA, 2, .inl (jA N))), (mz, .inl (cA, 2401, .inl (jA (jU sc2 ((49 * pp) + (d - pp)) s3))))] H := hP
                                  have hD : va_D A [(mo, .inr (5, [.ref ml, .ref mn, .int (jI K), .int (jI g), .int (jI ga), .int (jI lo), .int (jI gp), .int (jI li), .ref mf, .ref mt, .ref mw, .int (jI fo), .ref mk, .int (jI ln), .int (jI bs), .int (jI kn), .ref mz, .int (jI 1), .int (jI u2.2.1), .int (jI u2.2.2.1), .int (jI u2.2.2.2.1), .int (jI u2.2.2.2.2)])), (ml, .inl (cA, 96, .inl (jA M))), (mn, .inl (cA, 2, .inl (jA N))), (mz, .inl (cA, 2401, .inl (jA (jU sc2 ((49 * pp) + (d - pp)) s3))))] := hD
                                  refine lv_iload hx hb dX5_reach_358 (lv_at hl 0 rfl) ?_
                                  refine jv_if_eq (tgt := 407) hx hb dX5_reach_360 rfl (by omega) (fun c360 => ?_) (fun c360 => ?_)
                                  · exfalso
                                    omega
                                  · refine lv_iload hx hb dX5_reach_363 (lv_at hl 5 rfl) ?_
                                    refine jv_if_le (tgt := 407) hx hb dX5_reach_365 rfl (by omega) (fun c365 => ?_) (fun c365 => ?_)
                                    · refine lv_iinc (k := 3) (v := jI (pp + 1)) (lv' := [(8, .int (jI (pp + 1))), (11, .int (jI 1)), (10, .int (jI s3)), (9, .int (jI (d - pp))), (7, .int (jI u.1)), (6, .int (jI d)), (5, .int (jI u2.1)), (4, .int (jI ((N 1) - j))), (3, .int (jI ((N 0) - i))), (0, .ref mo), (1, .int (jI i)), (2, .int (jI j))]) hx hb dX5_reach_407 hl rfl (jI_add _ _) (by decide) rfl (fun ls hl => ?_)
                                      refine lv_goto (tgt := 96) hx hb dX5_reach_410 rfl ?_
                                      refine ih96 (pp + 1) u2 (jU sc2 ((49 * pp) + (d - pp)) s3) ls H locs (by omega) ?_ ?_ ?_ ?_ (lv_sub hl [0, 4, 5, 6, 7, 8, 9, 10, 11] rfl) hP hD hS
                                      · omega
                                      · refine ⟨fun h5 => ?_, fun h5 => ?_⟩
                                        · first
                                            | exact hu2.1 h5
                                            | (exfalso; omega)
                                        · rw [rA_s (by omega), ← hu2.2 h5]
                                          first
                                            | (rw [acc1_dead (hcell.2 (by omega))]; done)
                                            | (exfalso; omega)
                                            | (rw [acc1_dead (by rw [hZd h5]; exact nx_out (by omega))]; done)
                                            | (rw [← (hcell.1 ⟨by omega, by omega⟩).1, acc1_hi (by omega) (by omega)]; done)
                                            | (rw [← (hcell.1 ⟨by omega, by omega⟩).1, acc1_lo (by omega) (by omega)]; done)
                                      · intro x y x0 x1 y0 y1 h5
                                        first
                                          | (by_cases h6 : x = pp ∧ y = d - pp
                                             · obtain ⟨h7, h8⟩ := h6
                                               rw [h7, h8, show pp + (d - pp) = d by omega]
                                               first
                                                 | (rw [jU_s, hcell.2 (by omega)]; done)
                                                 | (rw [jU_s]; exact (hcell.1 ⟨by omega, by omega⟩).1)
                                             · rw [jU_n (by omega)]
                                               exact hsc2 x y x0 x1 y0 y1 (by omega))
                                          | exact hsc2 x y x0 x1 y0 y1 (by omega)
                                      · first
                                          | exact hb2
                                          | (show 0 ≤ s3 ∧ s3 ≤ 2000; omega)
                                          | (show 0 ≤ u2.1 ∧ u2.1 ≤ 2000; exact hb2)
                                    · refine lv_aload_n hx hb dX5_reach_368 rfl (lv_at hl 9 rfl) ?_
                                      refine lv_dup hx hb dX5_reach_369 rfl ?_
                                      refine jv_get (v := .int (jI u2.2.2.2.1)) F hP 0 rfl flX5_88 rfl dX5_reach_370 ?_
                                      refine lv_iconst (v := jI 1) hx hb dX5_reach_373 rfl ?_
                                      refine jv_iadd hx hb dX5_reach_374 ?_
                                      refine jv_put (v := .int (jI (u2.2.2.2.1 + 1))) F hP hD hS 0 rfl flX5_88 pfX5 (by decide +kernel) rfl rfl (Nat.le_of_ble_eq_true rfl) dX5_reach_375 (fun H locs hP hD hS => ?_)
                                      have hP : va_P D cls [(mo, .inr (5, [.ref ml, .ref mn, .int (jI K), .int (jI g), .int (jI ga), .int (jI lo), .int (jI gp), .int (jI li), .ref mf, .ref mt, .ref mw, .int (jI fo), .ref mk, .int (jI ln), .int (jI bs), .int (jI kn), .ref mz, .int (jI 1), .int (jI u2.2.1), .int (jI u2.2.2.1), .int (jI (u2.2.2.2.1 + 1)), .int (jI u2.2.2.2.2)])), (ml, .inl (cA, 96, .inl (jA M))), (mn, .inl (cA, 2, .inl (jA N))), (mz, .inl (cA, 2401, .inl (jA (jU sc2 ((49 * pp) + (d - pp)) s3))))] H := hP
                                      have hD : va_D A [(mo, .inr (5, [.ref ml, .ref mn, .int (jI K), .int (jI g), .int (jI ga), .int (jI lo), .int (jI gp), .int (jI li), .ref mf, .ref mt, .ref mw, .int (jI fo), .ref mk, .int (jI ln), .int (jI bs), .int (jI kn), .ref mz, .int (jI 1), .int (jI u2.2.1), .int (jI u2.2.2.1), .int (jI (u2.2.2.2.1 + 1)), .int (jI u2.2.2.2.2)])), (ml, .inl (cA, 96, .inl (jA M))), (mn, .inl (cA, 2, .inl (jA N))), (mz, .inl (cA, 2401, .inl (jA (jU sc2 ((49 * pp) + (d - pp)) s3))))] := hD
                                      refine lv_aload_n hx hb dX5_reach_378 rfl (lv_at hl 9 rfl) ?_
                                      refine lv_iload hx hb dX5_reach_379 (lv_at hl 5 rfl) ?_
                                      refine jv_put (v := .int (jI d)) F hP hD hS 0 rfl flX5_91 pfX5 (by decide +kernel) rfl rfl (Nat.le_of_ble_eq_true rfl) dX5_reach_381 (fun H locs hP hD hS => ?_)
                                      have hP : va_P D cls [(mo, .inr (5, [.ref ml, .ref mn, .int (jI K), .int (jI g), .int (jI ga), .int (jI lo), .int (jI gp), .int (jI li), .ref mf, .ref mt, .ref mw, .int (jI fo), .ref mk, .int (jI ln), .int (jI bs), .int (jI kn), .ref mz, .int (jI 1), .int (jI u2.2.1), .int (jI u2.2.2.1), .int (jI (u2.2.2.2.1 + 1)), .int (jI d)])), (ml, .inl (cA, 96, .inl (jA M))), (mn, .inl (cA, 2, .inl (jA N))), (mz, .inl (cA, 2401, .inl (jA (jU sc2 ((49 * pp) + (d - pp)) s3))))] H := hP
                                      have hD : va_D A [(mo, .inr (5, [.ref ml, .ref mn, .int (jI K), .int (jI g), .int (jI ga), .int (jI lo), .int (jI gp), .int (jI li), .ref mf, .ref mt, .ref mw, .int (jI fo), .ref mk, .int (jI ln), .int (jI bs), .int (jI kn), .ref mz, .int (jI 1), .int (jI u2.2.1), .int (jI u2.2.2.1), .int (jI (u2.2.2.2.1 + 1)), .int (jI d)])), (ml, .inl (cA, 96, .inl (jA M))), (mn, .inl (cA, 2, .inl (jA N))), (mz, .inl (cA, 2401, .inl (jA (jU sc2 ((49 * pp) + (d - pp)) s3))))] := hD
                                      refine lv_iload hx hb dX5_reach_384 (lv_at hl 1 rfl) ?_
                                      refine lv_iload hx hb dX5_reach_386 (lv_at hl 6 rfl) ?_
                                      refine jv_icmp_le (tgt := 407) hx hb dX5_reach_388 rfl (by omega) (by omega) (fun c388 => ?_) (fun c388 => ?_)
                                      · refine lv_iinc (k := 3) (v := jI (pp + 1)) (lv' := [(8, .int (jI (pp + 1))), (11, .int (jI 1)), (10, .int (jI s3)), (9, .int (jI (d - pp))), (7, .int (jI u.1)), (6, .int (jI d)), (5, .int (jI u2.1)), (4, .int (jI ((N 1) - j))), (3, .int (jI ((N 0) - i))), (0, .ref mo), (1, .int (jI i)), (2, .int (jI j))]) hx hb dX5_reach_407 hl rfl (jI_add _ _) (by decide) rfl (fun ls hl => ?_)
                                        refine lv_goto (tgt := 96) hx hb dX5_reach_410 rfl ?_
                                        refine ih96 (pp + 1) (u2.1, u2.2.1, u2.2.2.1, u2.2.2.2.1 + 1, d) (jU sc2 ((49 * pp) + (d - pp)) s3) ls H locs (by omega) ?_ ?_ ?_ ?_ (lv_sub hl [0, 4, 5, 6, 7, 8, 9, 10, 11] rfl) hP hD hS
                                        · omega
                                        · refine ⟨fun h5 => ?_, fun h5 => ?_⟩
                                          · first
                                              | exact hu2.1 h5
                                              | (exfalso; omega)
                                          · rw [rA_s (by omega), ← hu2.2 h5]
                                            first
                                              | (rw [acc1_dead (hcell.2 (by omega))]; done)
                                              | (exfalso; omega)
                                              | (rw [acc1_dead (by rw [hZd h5]; exact nx_out (by omega))]; done)
                                              | (rw [← (hcell.1 ⟨by omega, by omega⟩).1, acc1_hi (by omega) (by omega)]; done)
                                              | (rw [← (hcell.1 ⟨by omega, by omega⟩).1, acc1_lo (by omega) (by omega)]; done)
                                        · intro x y x0 x1 y0 y1 h5
                                          first
                                            | (by_cases h6 : x = pp ∧ y = d - pp
                                               · obtain ⟨h7, h8⟩ := h6
                                                 rw [h7, h8, show pp + (d - pp) = d by omega]
                                                 first
                                                   | (rw [jU_s, hcell.2 (by omega)]; done)
                                                   | (rw [jU_s]; exact (hcell.1 ⟨by omega, by omega⟩).1)
                                               · rw [jU_n (by omega)]
                                                 exact hsc2 x y x0 x1 y0 y1 (by omega))
                                            | exact hsc2 x y x0 x1 y0 y1 (by omega)
                                        · first
                                            | exact hb2
                                            | (show 0 ≤ s3 ∧ s3 ≤ 2000; omega)
                                            | (show 0 ≤ u2.1 ∧ u2.1 ≤ 2000; exact hb2)
                                      · refine lv_iload hx hb dX5_reach_391 (lv_at hl 1 rfl) ?_
                                        refine lv_istore (lv' := [(5, .int (jI s3)), (11, .int (jI 1)), (10, .int (jI s3)), (9, .int (jI (d - pp))), (8, .int (jI pp)), (7, .int (jI u.1)), (6, .int (jI d)), (4, .int (jI ((N 1) - j))), (3, .int (jI ((N 0) - i))), (0, .ref mo), (1, .int (jI i)), (2, .int (jI j))]) hx hb dX5_reach_393 hl (by decide) rfl (fun ls hl => ?_)
                                        refine lv_aload_n hx hb dX5_reach_395 rfl (lv_at hl 9 rfl) ?_
                                        refine lv_iload hx hb dX5_reach_396 (lv_at hl 4 rfl) ?_
                                        refine jv_put (v := .int (jI pp)) F hP hD hS 0 rfl flX5_82 pfX5 (by decide +kernel) rfl rfl (Nat.le_of_ble_eq_true rfl) dX5_reach_398 (fun H locs hP hD hS => ?_)
                                        have hP : va_P D cls [(mo, .inr (5, [.ref ml, .ref mn, .int (jI K), .int (jI g), .int (jI ga), .int (jI lo), .int (jI gp), .int (jI li), .ref mf, .ref mt, .ref mw, .int (jI fo), .ref mk, .int (jI ln), .int (jI bs), .int (jI kn), .ref mz, .int (jI 1), .int (jI pp), .int (jI u2.2.2.1), .int (jI (u2.2.2.2.1 + 1)), .int (jI d)])), (ml, .inl (cA, 96, .inl (jA M))), (mn, .inl (cA, 2, .inl (jA N))), (mz, .inl (cA, 2401, .inl (jA (jU sc2 ((49 * pp) + (d - pp)) s3))))] H := hP
                                        have hD : va_D A [(mo, .inr (5, [.ref ml, .ref mn, .int (jI K), .int (jI g), .int (jI ga), .int (jI lo), .int (jI gp), .int (jI li), .ref mf, .ref mt, .ref mw, .int (jI fo), .ref mk, .int (jI ln), .int (jI bs), .int (jI kn), .ref mz, .int (jI 1), .int (jI pp), .int (jI u2.2.2.1), .int (jI (u2.2.2.2.1 + 1)), .int (jI d)])), (ml, .inl (cA, 96, .inl (jA M))), (mn, .inl (cA, 2, .inl (jA N))), (mz, .inl (cA, 2401, .inl (jA (jU sc2 ((49 * pp) + (d - pp)) s3))))] := hD
                                        refine lv_aload_n hx hb dX5_reach_401 rfl (lv_at hl 9 rfl) ?_
                                        refine lv_iload hx hb dX5_reach_402 (lv_at hl 3 rfl) ?_
                                        refine jv_put (v := .int (jI (d - pp))) F hP hD hS 0 rfl flX5_85 pfX5 (by decide +kernel) rfl rfl (Nat.le_of_ble_eq_true rfl) dX5_reach_404 (fun H locs hP hD hS => ?_)
                                        have hP : va_P D cls [(mo, .inr (5, [.ref ml, .ref mn, .int (jI K), .int (jI g), .int (jI ga), .int (jI lo), .int (jI gp), .int (jI li), .ref mf, .ref mt, .ref mw, .int (jI fo), .ref mk, .int (jI ln), .int (jI bs), .int (jI kn), .ref mz, .int (jI 1), .int (jI pp), .int (jI (d - pp)), .int (jI (u2.2.2.2.1 + 1)), .int (jI d)])), (ml, .inl (cA, 96, .inl (jA M))), (mn, .inl (cA, 2, .inl (jA N))), (mz, .inl (cA, 2401, .inl (jA (jU sc2 ((49 * pp) + (d - pp)) s3))))] H := hP
                                        have hD : va_D A [(mo, .inr (5, [.ref ml, .ref mn, .int (jI K), .int (jI g), .int (jI ga), .int (jI lo), .int (jI gp), .int (jI li), .ref mf, .ref mt, .ref mw, .int (jI fo), .ref mk, .int (jI ln), .int (jI bs), .int (jI kn), .ref mz, .int (jI 1), .int (jI pp), .int (jI (d - pp)), .int (jI (u2.2.2.2.1 + 1)), .int (jI d)])), (ml, .inl (cA, 96, .inl (jA M))), (mn, .inl (cA, 2, .inl (jA N))), (mz, .inl (cA, 2401, .inl (jA (jU sc2 ((49 * pp) + (d - pp)) s3))))] := hD
                                        refine lv_iinc (k := 4) (v := jI (pp + 1)) (lv' := [(8, .int (jI (pp + 1))), (5, .int (jI s3)), (11, .int (jI 1)), (10, .int (jI s3)), (9, .int (jI (d - pp))), (7, .int (jI u.1)), (6, .int (jI d)), (4, .int (jI ((N 1) - j))), (3, .int (jI ((N 0) - i))), (0, .ref mo), (1, .int (jI i)), (2, .int (jI j))]) hx hb dX5_reach_407 hl rfl (jI_add _ _) (by decide) rfl (fun ls hl => ?_)
                                        refine lv_goto (tgt := 96) hx hb dX5_reach_410 rfl ?_
                                        refine ih96 (pp + 1) (s3, pp, d - pp, u2.2.2.2.1 + 1, d) (jU sc2 ((49 * pp) + (d - pp)) s3) ls H locs (by omega) ?_ ?_ ?_ ?_ (lv_sub hl [0, 5, 6, 1, 7, 8, 9, 10, 11] rfl) hP hD hS
                                        · omega
                                        · refine ⟨fun h5 => ?_, fun h5 => ?_⟩
                                          · first
                                              | exact hu2.1 h5
                                              | (exfalso; omega)
                                          · rw [rA_s (by omega), ← hu2.2 h5]
                                            first
                                              | (rw [acc1_dead (hcell.2 (by omega))]; done)
                                              | (exfalso; omega)
                                              | (rw [acc1_dead (by rw [hZd h5]; exact nx_out (by omega))]; done)
                                              | (rw [← (hcell.1 ⟨by omega, by omega⟩).1, acc1_hi (by omega) (by omega)]; done)
                                              | (rw [← (hcell.1 ⟨by omega, by omega⟩).1, acc1_lo (by omega) (by omega)]; done)
                                        · intro x y x0 x1 y0 y1 h5
                                          first
                                            | (by_cases h6 : x = pp ∧ y = d - pp
                                               · obtain ⟨h7, h8⟩ := h6
                                                 rw [h7, h8, show pp + (d - pp) = d by omega]
                                                 first
                                                   | (rw [jU_s, hcell.2 (by omega)]; done)
                                                   | (rw [jU_s]; exact (hcell.1 ⟨by omega, by omega⟩).1)
                                               · rw [jU_n (by omega)]
                                                 exact hsc2 x y x0 x1 y0 y1 (by omega))
                                            | exact hsc2 x y x0 x1 y0 y1 (by omega)
                                        · first
                                            | exact hb2
                                            | (show 0 ≤ s3 ∧ s3 ≤ 2000; omega)
                                            | (show 0 ≤ u2.1 ∧ u2.1 ≤ 2000; exact hb2)
                          have lp270 : ∀ (s2 : Int) (ls : Array Slot) (H : Heap) (locs : List Loc), (-1000000 ≤ s2 ∧ s2 ≤ 1000) → ((d = 0 → s2 = 0) ∧ (1 ≤ d → hid (∃ s1, (0 < pp ∧ 0 < d - pp ∧ -1000000 < sat sc2 (pp - 1) (d - pp - 1) ∧ s1 = sat sc2 (pp - 1) (d - pp - 1) + smv L0 L1 i j ga lo pp (d - pp) ∨ ¬ (0 < pp ∧ 0 < d - pp ∧ -1000000 < sat sc2 (pp - 1) (d - pp - 1)) ∧ s1 = -1000000) ∧ (-1000000 < sat sc2 (pp - 1) (d - pp) ∧ s2 = max s1 (sat sc2 (pp - 1) (d - pp) - gp) ∨ ¬ -1000000 < sat sc2 (pp - 1) (d - pp) ∧ s2 = s1)))) → lv_has ls 12 [(10, .int (jI s2)), (9, .int (jI (d - pp))), (8, .int (jI pp)), (7, .int (jI u.1)), (6, .int (jI d)), (5, .int (jI u2.1)), (4, .int (jI ((N 1) - j))), (3, .int (jI ((N 0) - i))), (0, .ref mo), (1, .int (jI i)), (2, .int (jI j))] → va_P D cls [(mo, .inr (5, [.ref ml, .ref mn, .int (jI K), .int (jI g), .int (jI ga), .int (jI lo), .int (jI gp), .int (jI li), .ref mf, .ref mt, .ref mw, .int (jI fo), .ref mk, .int (jI ln), .int (jI bs), .int (jI kn), .ref mz, .int (jI 1), .int (jI u2.2.1), .int (jI u2.2.2.1), .int (jI u2.2.2.2.1), .int (jI u2.2.2.2.2)])), (ml, .inl (cA, 96, .inl (jA M))), (mn, .inl (cA, 2, .inl (jA N))), (mz, .inl (cA, 2401, .inl (jA sc2)))] H → va_D A [(mo, .inr (5, [.ref ml, .ref mn, .int (jI K), .int (jI g), .int (jI ga), .int (jI lo), .int (jI gp), .int (jI li), .ref mf, .ref mt, .ref mw, .int (jI fo), .ref mk, .int (jI ln), .int (jI bs), .int (jI kn), .ref mz, .int (jI 1), .int (jI u2.2.1), .int (jI u2.2.2.1), .int (jI u2.2.2.2.1), .int (jI u2.2.2.2.2)])), (ml, .inl (cA, 96, .inl (jA M))), (mn, .inl (cA, 2, .inl (jA N))), (mz, .inl (cA, 2401, .inl (jA sc2)))] → va_S A s.heap H locs → W p l e (rmk 1 0 0 22) s m args below meth c H locs 0 0 Q (F0 m 270 ls []) := by
                            intro s2 ls H locs hb3 hE2 hl hP hD hS
                            refine lv_aload_n hx hb dX5_reach_270 rfl (lv_at hl 8 rfl) ?_
                            refine lv_iload hx hb dX5_reach_271 (lv_at hl 2 rfl) ?_
                            refine lv_iload hx hb dX5_reach_273 (lv_at hl 1 rfl) ?_
                            refine lv_iconst (v := jI 1) hx hb dX5_reach_275 rfl ?_
                            refine jv_isub hx hb dX5_reach_276 ?_
                            refine jr_V F (kX5_scoreAt l D cA mo ml mn mf mt mw mk mz K g ga lo gp li fo ln bs kn 1 u2.2.1 u2.2.2.1 u2.2.2.2.1 u2.2.2.2.2 sc2 pp ((d - pp) - 1) (by omega) (by omega)) cvX5_94 hP [0, 3] rfl 0 rfl rfl hl ⟨rfl, rfl, by decide, by decide⟩ rfl rfl (Nat.le_of_ble_eq_true rfl) dX5_reach_277 ⟨by decide, by decide⟩ (fun v hv => ?_)
                            subst hv
                            refine lv_ldc (v := jI (-1000000)) hx hb F.own (F.wd wcX5_78) dX5_reach_280 ?_
                            refine jv_icmp_le (tgt := 307) hx hb dX5_reach_282 rfl (by omega) (by omega) (fun c282 => ?_) (fun c282 => ?_)
                            · refine lp307 s2 ls H locs ?_ ?_ (lv_sub hl [0, 1, 2, 3, 4, 5, 6, 7, 8, 9, 10] rfl) hP hD hS
                              · omega
                              · refine ⟨fun h5 => ?_, fun h5 => ?_⟩
                                · first
                                    | exact hE2.1 h5
                                    | (exfalso; omega)
                                · obtain ⟨s1, e1, e2⟩ := hE2.2 h5
                                  exact hid_i ⟨s1, s2, e1, e2, by omega⟩
                            · refine lv_iload hx hb dX5_reach_285 (lv_at hl 0 rfl) ?_
                              refine lv_aload_n hx hb dX5_reach_287 rfl (lv_at hl 8 rfl) ?_
                              refine lv_iload hx hb dX5_reach_288 (lv_at hl 2 rfl) ?_
                              refine lv_iload hx hb dX5_reach_290 (lv_at hl 1 rfl) ?_
                              refine lv_iconst (v := jI 1) hx hb dX5_reach_292 rfl ?_
                              refine jv_isub hx hb dX5_reach_293 ?_
                              refine jr_V F (kX5_scoreAt l D cA mo ml mn mf mt mw mk mz K g ga lo gp li fo ln bs kn 1 u2.2.1 u2.2.2.1 u2.2.2.2.1 u2.2.2.2.2 sc2 pp ((d - pp) - 1) (by omega) (by omega)) cvX5_94 hP [0, 3] rfl 0 rfl rfl hl ⟨rfl, rfl, by decide, by decide⟩ rfl rfl (Nat.le_of_ble_eq_true rfl) dX5_reach_294 ⟨by decide, by decide⟩ (fun v hv => ?_)
                              subst hv
                              refine lv_aload_n hx hb dX5_reach_297 rfl (lv_at hl 8 rfl) ?_
                              refine jv_get (v := .int (jI gp)) F hP 0 rfl flX5_29 rfl dX5_reach_298 ?_
                              refine jv_isub hx hb dX5_reach_301 ?_
                              refine jr_S F (kX5_greater l D cA s2 ((sat sc2 pp ((d - pp) - 1)) - gp) (by omega) (by omega)) csX5_97 hP [] rfl hl ⟨rfl, rfl, by decide, by decide⟩ rfl rfl (Nat.le_of_ble_eq_true rfl) dX5_reach_302 ⟨by decide, by decide⟩ (fun v hv => ?_)
                              subst hv
                              refine lv_istore (lv' := [(10, .int (jI (max s2 ((sat sc2 pp ((d - pp) - 1)) - gp)))), (9, .int (jI (d - pp))), (8, .int (jI pp)), (7, .int (jI u.1)), (6, .int (jI d)), (5, .int (jI u2.1)), (4, .int (jI ((N 1) - j))), (3, .int (jI ((N 0) - i))), (0, .ref mo), (1, .int (jI i)), (2, .int (jI j))]) hx hb dX5_reach_305 hl (by decide) rfl (fun ls hl => ?_)
                              refine lp307 (max s2 ((sat sc2 pp ((d - pp) - 1)) - gp)) ls H locs ?_ ?_ (lv_sub hl [0, 1, 2, 3, 4, 5, 6, 7, 8, 9, 10] rfl) hP hD hS
                              · omega
                              · refine ⟨fun h5 => ?_, fun h5 => ?_⟩
                                · first
                                    | exact hE2.1 h5
                                    | (exfalso; omega)
                                · obtain ⟨s1, e1, e2⟩ := hE2.2 h5
                                  exact hid_i ⟨s1, s2, e1, e2, by omega⟩
                          have lp233 : ∀ (s1 : Int) (ls : Array Slot) (H : Heap) (locs : List Loc), (-1000000 ≤ s1 ∧ s1 ≤ 1000) → ((d = 0 → s1 = 0) ∧ (1 ≤ d → (0 < pp ∧ 0 < d - pp ∧ -1000000 < sat sc2 (pp - 1) (d - pp - 1) ∧ s1 = sat sc2 (pp - 1) (d - pp - 1) + smv L0 L1 i j ga lo pp (d - pp) ∨ ¬ (0 < pp ∧ 0 < d - pp ∧ -1000000 < sat sc2 (pp - 1) (d - pp - 1)) ∧ s1 = -1000000))) → lv_has ls 12 [(10, .int (jI s1)), (9, .int (jI (d - pp))), (8, .int (jI pp)), (7, .int (jI u.1)), (6, .int (jI d)), (5, .int (jI u2.1)), (4, .int (jI ((N 1) - j))), (3, .int (jI ((N 0) - i))), (0, .ref mo), (1, .int (jI i)), (2, .int (jI j))] → va_P D cls [(mo, .inr (5, [.ref ml, .ref mn, .int (jI K), .int (jI g), .int (jI ga), .int (jI lo), .int (jI gp), .int (jI li), .ref mf, .ref mt, .ref mw, .int (jI fo), .ref mk, .int (jI ln), .int (jI bs), .int (jI kn), .ref mz, .int (jI 1), .int (jI u2.2.1), .int (jI u2.2.2.1), .int (jI u2.2.2.2.1), .int (jI u2.2.2.2.2)])), (ml, .inl (cA, 96, .inl (jA M))), (mn, .inl (cA, 2, .inl (jA N))), (mz, .inl (cA, 2401, .inl (jA sc2)))] H → va_D A [(mo, .inr (5, [.ref ml, .ref mn, .int (jI K), .int (jI g), .int (jI ga), .int (jI lo), .int (jI gp), .int (jI li), .ref mf, .ref mt, .ref mw, .int (jI fo), .ref mk, .int (jI ln), .int (jI bs), .int (jI kn), .ref mz, .int (jI 1), .int (jI u2.2.1), .int (jI u2.2.2.1), .int (jI u2.2.2.2.1), .int (jI u2.2.2.2.2)])), (ml, .inl (cA, 96, .inl (jA M))), (mn, .inl (cA, 2, .inl (jA N))), (mz, .inl (cA, 2401, .inl (jA sc2)))] → va_S A s.heap H locs → W p l e (rmk 1 0 0 22) s m args below meth c H locs 0 0 Q (F0 m 233 ls []) := by
                            intro s1 ls H locs hb1 hE1 hl hP hD hS
                            refine lv_aload_n hx hb dX5_reach_233 rfl (lv_at hl 8 rfl) ?_
                            refine lv_iload hx hb dX5_reach_234 (lv_at hl 2 rfl) ?_
                            refine lv_iconst (v := jI 1) hx hb dX5_reach_236 rfl ?_
                            refine jv_isub hx hb dX5_reach_237 ?_
                            refine lv_iload hx hb dX5_reach_238 (lv_at hl 1 rfl) ?_
                            refine jr_V F (kX5_scoreAt l D cA mo ml mn mf mt mw mk mz K g ga lo gp li fo ln bs kn 1 u2.2.1 u2.2.2.1 u2.2.2.2.1 u2.2.2.2.2 sc2 (pp - 1) (d - pp) (by omega) (by omega)) cvX5_94 hP [0, 3] rfl 0 rfl rfl hl ⟨rfl, rfl, by decide, by decide⟩ rfl rfl (Nat.le_of_ble_eq_true rfl) dX5_reach_240 ⟨by decide, by decide⟩ (fun v hv => ?_)
                            subst hv
                            refine lv_ldc (v := jI (-1000000)) hx hb F.own (F.wd wcX5_78) dX5_reach_243 ?_
                            refine jv_icmp_le (tgt := 270) hx hb dX5_reach_245 rfl (by omega) (by omega) (fun c245 => ?_) (fun c245 => ?_)
                            · refine lp270 s1 ls H locs ?_ ?_ (lv_sub hl [0, 1, 2, 3, 4, 5, 6, 7, 8, 9, 10] rfl) hP hD hS
                              · omega
                              · refine ⟨fun h5 => ?_, fun h5 => hid_i ⟨s1, hE1.2 h5, by omega⟩⟩
                                first
                                  | exact hE1.1 h5
                                  | (exfalso; omega)
                            · refine lv_iload hx hb dX5_reach_248 (lv_at hl 0 rfl) ?_
                              refine lv_aload_n hx hb dX5_reach_250 rfl (lv_at hl 8 rfl) ?_
                              refine lv_iload hx hb dX5_reach_251 (lv_at hl 2 rfl) ?_
                              refine lv_iconst (v := jI 1) hx hb dX5_reach_253 rfl ?_
                              refine jv_isub hx hb dX5_reach_254 ?_
                              refine lv_iload hx hb dX5_reach_255 (lv_at hl 1 rfl) ?_
                              refine jr_V F (kX5_scoreAt l D cA mo ml mn mf mt mw mk mz K g ga lo gp li fo ln bs kn 1 u2.2.1 u2.2.2.1 u2.2.2.2.1 u2.2.2.2.2 sc2 (pp - 1) (d - pp) (by omega) (by omega)) cvX5_94 hP [0, 3] rfl 0 rfl rfl hl ⟨rfl, rfl, by decide, by decide⟩ rfl rfl (Nat.le_of_ble_eq_true rfl) dX5_reach_257 ⟨by decide, by decide⟩ (fun v hv => ?_)
                              subst hv
                              refine lv_aload_n hx hb dX5_reach_260 rfl (lv_at hl 8 rfl) ?_
                              refine jv_get (v := .int (jI gp)) F hP 0 rfl flX5_29 rfl dX5_reach_261 ?_
                              refine jv_isub hx hb dX5_reach_264 ?_
                              refine jr_S F (kX5_greater l D cA s1 ((sat sc2 (pp - 1) (d - pp)) - gp) (by omega) (by omega)) csX5_97 hP [] rfl hl ⟨rfl, rfl, by decide, by decide⟩ rfl rfl (Nat.le_of_ble_eq_true rfl) dX5_reach_265 ⟨by decide, by decide⟩ (fun v hv => ?_)
                              subst hv
                              refine lv_istore (lv' := [(10, .int (jI (max s1 ((sat sc2 (pp - 1) (d - pp)) - gp)))), (9, .int (jI (d - pp))), (8, .int (jI pp)), (7, .int (jI u.1)), (6, .int (jI d)), (5, .int (jI u2.1)), (4, .int (jI ((N 1) - j))), (3, .int (jI ((N 0) - i))), (0, .ref mo), (1, .int (jI i)), (2, .int (jI j))]) hx hb dX5_reach_268 hl (by decide) rfl (fun ls hl => ?_)
                              refine lp270 (max s1 ((sat sc2 (pp - 1) (d - pp)) - gp)) ls H locs ?_ ?_ (lv_sub hl [0, 1, 2, 3, 4, 5, 6, 7, 8, 9, 10] rfl) hP hD hS
                              · omega
                              · refine ⟨fun h5 => ?_, fun h5 => hid_i ⟨s1, hE1.2 h5, by omega⟩⟩
                                first
                                  | exact hE1.1 h5
                                  | (exfalso; omega)
                          refine lv_iload hx hb dX5_reach_126 (lv_at hl 3 rfl) ?_
                          refine jv_if_ne (tgt := 135) hx hb dX5_reach_128 rfl (by omega) (fun c128 => ?_) (fun c128 => ?_)
                          · refine lv_ldc (v := jI (-1000000)) hx hb F.own (F.wd wcX5_78) dX5_reach_135 ?_
                            refine lv_istore (lv' := [(10, .int (jI (-1000000))), (9, .int (jI (d - pp))), (8, .int (jI pp)), (7, .int (jI u.1)), (6, .int (jI d)), (5, .int (jI u2.1)), (4, .int (jI ((N 1) - j))), (3, .int (jI ((N 0) - i))), (0, .ref mo), (1, .int (jI i)), (2, .int (jI j))]) hx hb dX5_reach_137 hl (by decide) rfl (fun ls hl => ?_)
                            refine lv_iload hx hb dX5_reach_139 (lv_at hl 2 rfl) ?_
                            refine jv_if_le (tgt := 233) hx hb dX5_reach_141 rfl (by omega) (fun c141 => ?_) (fun c141 => ?_)
                            · refine lp233 (-1000000) ls H locs ?_ ?_ (lv_sub hl [0, 1, 2, 3, 4, 5, 6, 7, 8, 9, 10] rfl) hP hD hS
                              · omega
                              · first
                                  | (refine ⟨fun h5 => ?_, fun h5 => ?_⟩
                                     · omega
                                     · refine Or.inr ⟨by omega, by omega⟩)
                                  | (refine ⟨fun h5 => ?_, fun h5 => Or.inl ⟨by omega, by omega, by omega, ?_⟩⟩
                                     · omega
                                     · unfold smv
                                       first | (rw [if_pos c191]; done) | (rw [if_neg c191]; done))
                            · refine lv_iload hx hb dX5_reach_144 (lv_at hl 1 rfl) ?_
                              refine jv_if_le (tgt := 233) hx hb dX5_reach_146 rfl (by omega) (fun c146 => ?_) (fun c146 => ?_)
                              · refine lp233 (-1000000) ls H locs ?_ ?_ (lv_sub hl [0, 1, 2, 3, 4, 5, 6, 7, 8, 9, 10] rfl) hP hD hS
                                · omega
                                · first
                                    | (refine ⟨fun h5 => ?_, fun h5 => ?_⟩
                                       · omega
                                       · refine Or.inr ⟨by omega, by omega⟩)
                                    | (refine ⟨fun h5 => ?_, fun h5 => Or.inl ⟨by omega, by omega, by omega, ?_⟩⟩
                                       · omega
                                       · unfold smv
                                         first | (rw [if_pos c191]; done) | (rw [if_neg c191]; done))
                              · refine lv_aload_n hx hb dX5_reach_149 rfl (lv_at hl 8 rfl) ?_
                                refine lv_iload hx hb dX5_reach_150 (lv_at hl 2 rfl) ?_
                                refine lv_iconst (v := jI 1) hx hb dX5_reach_152 rfl ?_
                                refine jv_isub hx hb dX5_reach_153 ?_
                                refine lv_iload hx hb dX5_reach_154 (lv_at hl 1 rfl) ?_
                                refine lv_iconst (v := jI 1) hx hb dX5_reach_156 rfl ?_
                                refine jv_isub hx hb dX5_reach_157 ?_
                                refine jr_V F (kX5_scoreAt l D cA mo ml mn mf mt mw mk mz K g ga lo gp li fo ln bs kn 1 u2.2.1 u2.2.2.1 u2.2.2.2.1 u2.2.2.2.2 sc2 (pp - 1) ((d - pp) - 1) (by omega) (by omega)) cvX5_94 hP [0, 3] rfl 0 rfl rfl hl ⟨rfl, rfl, by decide, by decide⟩ rfl rfl (Nat.le_of_ble_eq_true rfl) dX5_reach_158 ⟨by decide, by decide⟩ (fun v hv => ?_)
                                subst hv
                                refine lv_ldc (v := jI (-1000000)) hx hb F.own (F.wd wcX5_78) dX5_reach_161 ?_
                                have hA8 := hA9 (by omega) (by omega)
                                refine jv_icmp_le (tgt := 233) hx hb dX5_reach_163 rfl (by omega) (by omega) (fun c163 => ?_) (fun c163 => ?_)
                                · refine lp233 (-1000000) ls H locs ?_ ?_ (lv_sub hl [0, 1, 2, 3, 4, 5, 6, 7, 8, 9, 10] rfl) hP hD hS
                                  · omega
                                  · first
                                      | (refine ⟨fun h5 => ?_, fun h5 => ?_⟩
                                         · omega
                                         · refine Or.inr ⟨by omega, by omega⟩)
                                      | (refine ⟨fun h5 => ?_, fun h5 => Or.inl ⟨by omega, by omega, by omega, ?_⟩⟩
                                         · omega
                                         · unfold smv
                                           first | (rw [if_pos c191]; done) | (rw [if_neg c191]; done))
                                · refine lv_aload_n hx hb dX5_reach_166 rfl (lv_at hl 8 rfl) ?_
                                  refine jv_get (v := .ref ml) F hP 0 rfl flX5_7 rfl dX5_reach_167 ?_
                                  refine lv_iload_n hx hb dX5_reach_170 rfl (lv_at hl 9 rfl) ?_
                                  refine lv_iload hx hb dX5_reach_171 (lv_at hl 2 rfl) ?_
                                  refine jv_iadd hx hb dX5_reach_173 ?_
                                  refine lv_iconst (v := jI 1) hx hb dX5_reach_174 rfl ?_
                                  refine jv_isub hx hb dX5_reach_175 ?_
                                  refine jv_iald (fa := M) F hP 1 rfl (by omega) (by decide) dX5_reach_176 ?_
                                  refine lv_aload_n hx hb dX5_reach_177 rfl (lv_at hl 8 rfl) ?_
                                  refine jv_get (v := .ref ml) F hP 0 rfl flX5_7 rfl dX5_reach_178 ?_
                                  refine lv_bipush (v := jI 48) hx hb dX5_reach_181 (by decide +kernel) ?_
                                  refine lv_iload_n hx hb dX5_reach_183 rfl (lv_at hl 10 rfl) ?_
                                  refine jv_iadd hx hb dX5_reach_184 ?_
                                  refine lv_iload hx hb dX5_reach_185 (lv_at hl 1 rfl) ?_
                                  refine jv_iadd hx hb dX5_reach_187 ?_
                                  refine lv_iconst (v := jI 1) hx hb dX5_reach_188 rfl ?_
                                  refine jv_isub hx hb dX5_reach_189 ?_
                                  refine jv_iald (fa := M) F hP 1 rfl (by omega) (by decide) dX5_reach_190 ?_
                                  have m0 := hM0 (i + pp - 1) (by omega) (by omega)
                                  have m1 := hM1 (j + (d - pp) - 1) (by omega) (by omega)
                                  have l0 := hL0 (i + pp - 1)
                                  have l1 := hL1 (j + (d - pp) - 1)
                                  rw [show 48 + j + (d - pp) - 1 = 48 + (j + (d - pp) - 1) by omega, m0, m1]
                                  refine jv_icmp_ne (tgt := 198) hx hb dX5_reach_191 rfl (by omega) (by omega) (fun c191 => ?_) (fun c191 => ?_)
                                  · refine lv_iconst (v := jI 0) hx hb dX5_reach_198 rfl ?_
                                    refine lv_istore (lv' := [(11, .int (jI 0)), (10, .int (jI (-1000000))), (9, .int (jI (d - pp))), (8, .int (jI pp)), (7, .int (jI u.1)), (6, .int (jI d)), (5, .int (jI u2.1)), (4, .int (jI ((N 1) - j))), (3, .int (jI ((N 0) - i))), (0, .ref mo), (1, .int (jI i)), (2, .int (jI j))]) hx hb dX5_reach_199 hl (by decide) rfl (fun ls hl => ?_)
                                    refine lv_aload_n hx hb dX5_reach_201 rfl (lv_at hl 9 rfl) ?_
                                    refine lv_iload hx hb dX5_reach_202 (lv_at hl 3 rfl) ?_
                                    refine lv_iconst (v := jI 1) hx hb dX5_reach_204 rfl ?_
                                    refine jv_isub hx hb dX5_reach_205 ?_
                                    refine lv_iload hx hb dX5_reach_206 (lv_at hl 2 rfl) ?_
                                    refine lv_iconst (v := jI 1) hx hb dX5_reach_208 rfl ?_
                                    refine jv_isub hx hb dX5_reach_209 ?_
                                    refine jr_V F (kX5_scoreAt l D cA mo ml mn mf mt mw mk mz K g ga lo gp li fo ln bs kn 1 u2.2.1 u2.2.2.1 u2.2.2.2.1 u2.2.2.2.2 sc2 (pp - 1) ((d - pp) - 1) (by omega) (by omega)) cvX5_94 hP [0, 3] rfl 0 rfl rfl hl ⟨rfl, rfl, by decide, by decide⟩ rfl rfl (Nat.le_of_ble_eq_true rfl) dX5_reach_210 ⟨by decide, by decide⟩ (fun v hv => ?_)
                                    subst hv
                                    refine lv_iload hx hb dX5_reach_213 (lv_at hl 0 rfl) ?_
                                    refine jv_if_eq (tgt := 225) hx hb dX5_reach_215 rfl (by omega) (fun c215 => ?_) (fun c215 => ?_)
                                    · refine lv_aload_n hx hb dX5_reach_225 rfl (lv_at hl 9 rfl) ?_
                                      refine jv_get (v := .int (jI lo)) F hP 0 rfl flX5_26 rfl dX5_reach_226 ?_
                                      refine jv_ineg hx hb dX5_reach_229 ?_
                                      refine jv_iadd hx hb dX5_reach_230 ?_
                                      refine lv_istore (lv' := [(10, .int (jI ((sat sc2 (pp - 1) ((d - pp) - 1)) + (-lo)))), (11, .int (jI 0)), (9, .int (jI (d - pp))), (8, .int (jI pp)), (7, .int (jI u.1)), (6, .int (jI d)), (5, .int (jI u2.1)), (4, .int (jI ((N 1) - j))), (3, .int (jI ((N 0) - i))), (0, .ref mo), (1, .int (jI i)), (2, .int (jI j))]) hx hb dX5_reach_231 hl (by decide) rfl (fun ls hl => ?_)
                                      refine lp233 ((sat sc2 (pp - 1) ((d - pp) - 1)) + (-lo)) ls H locs ?_ ?_ (lv_sub hl [0, 2, 3, 4, 5, 6, 7, 8, 9, 10, 11] rfl) hP hD hS
                                      · omega
                                      · first
                                          | (refine ⟨fun h5 => ?_, fun h5 => ?_⟩
                                             · omega
                                             · refine Or.inr ⟨by omega, by omega⟩)
                                          | (refine ⟨fun h5 => ?_, fun h5 => Or.inl ⟨by omega, by omega, by omega, ?_⟩⟩
                                             · omega
                                             · unfold smv
                                               first | (rw [if_pos c191]; done) | (rw [if_neg c191]; done))
                                    · exfalso
                                      omega
                                  · refine lv_iconst (v := jI 1) hx hb dX5_reach_194 rfl ?_
                                    refine lv_goto (tgt := 199) hx hb dX5_reach_195 rfl ?_
                                    refine lv_istore (lv' := [(11, .int (jI 1)), (10, .int (jI (-1000000))), (9, .int (jI (d - pp))), (8, .int (jI pp)), (7, .int (jI u.1)), (6, .int (jI d)), (5, .int (jI u2.1)), (4, .int (jI ((N 1) - j))), (3, .int (jI ((N 0) - i))), (0, .ref mo), (1, .int (jI i)), (2, .int (jI j))]) hx hb dX5_reach_199 hl (by decide) rfl (fun ls hl => ?_)
                                    refine lv_aload_n hx hb dX5_reach_201 rfl (lv_at hl 9 rfl) ?_
                                    refine lv_iload hx hb dX5_reach_202 (lv_at hl 3 rfl) ?_
                                    refine lv_iconst (v := jI 1) hx hb dX5_reach_204 rfl ?_
                                    refine jv_isub hx hb dX5_reach_205 ?_
                                    refine lv_iload hx hb dX5_reach_206 (lv_at hl 2 rfl) ?_
                                    refine lv_iconst (v := jI 1) hx hb dX5_reach_208 rfl ?_
                                    refine jv_isub hx hb dX5_reach_209 ?_
                                    refine jr_V F (kX5_scoreAt l D cA mo ml mn mf mt mw mk mz K g ga lo gp li fo ln bs kn 1 u2.2.1 u2.2.2.1 u2.2.2.2.1 u2.2.2.2.2 sc2 (pp - 1) ((d - pp) - 1) (by omega) (by omega)) cvX5_94 hP [0, 3] rfl 0 rfl rfl hl ⟨rfl, rfl, by decide, by decide⟩ rfl rfl (Nat.le_of_ble_eq_true rfl) dX5_reach_210 ⟨by decide, by decide⟩ (fun v hv => ?_)
                                    subst hv
                                    refine lv_iload hx hb dX5_reach_213 (lv_at hl 0 rfl) ?_
                                    refine jv_if_eq (tgt := 225) hx hb dX5_reach_215 rfl (by omega) (fun c215 => ?_) (fun c215 => ?_)
                                    · exfalso
                                      omega
                                    · refine lv_aload_n hx hb dX5_reach_218 rfl (lv_at hl 9 rfl) ?_
                                      refine jv_get (v := .int (jI ga)) F hP 0 rfl flX5_23 rfl dX5_reach_219 ?_
                                      refine lv_goto (tgt := 230) hx hb dX5_reach_222 rfl ?_
                                      refine jv_iadd hx hb dX5_reach_230 ?_
                                      refine lv_istore (lv' := [(10, .int (jI ((sat sc2 (pp - 1) ((d - pp) - 1)) + ga))), (11, .int (jI 1)), (9, .int (jI (d - pp))), (8, .int (jI pp)), (7, .int (jI u.1)), (6, .int (jI d)), (5, .int (jI u2.1)), (4, .int (jI ((N 1) - j))), (3, .int (jI ((N 0) - i))), (0, .ref mo), (1, .int (jI i)), (2, .int (jI j))]) hx hb dX5_reach_231 hl (by decide) rfl (fun ls hl => ?_)
                                      refine lp233 ((sat sc2 (pp - 1) ((d - pp) - 1)) + ga) ls H locs ?_ ?_ (lv_sub hl [0, 2, 3, 4, 5, 6, 7, 8, 9, 10, 11] rfl) hP hD hS
                                      · omega
                                      · first
                                          | (refine ⟨fun h5 => ?_, fun h5 => ?_⟩
                                             · omega
                                             · refine Or.inr ⟨by omega, by omega⟩)
                                          | (refine ⟨fun h5 => ?_, fun h5 => Or.inl ⟨by omega, by omega, by omega, ?_⟩⟩
                                             · omega
                                             · unfold smv
                                               first | (rw [if_pos c191]; done) | (rw [if_neg c191]; done))
                          · refine lv_iconst (v := jI 0) hx hb dX5_reach_131 rfl ?_
                            refine lv_goto (tgt := 137) hx hb dX5_reach_132 rfl ?_
                            refine lv_istore (lv' := [(10, .int (jI 0)), (9, .int (jI (d - pp))), (8, .int (jI pp)), (7, .int (jI u.1)), (6, .int (jI d)), (5, .int (jI u2.1)), (4, .int (jI ((N 1) - j))), (3, .int (jI ((N 0) - i))), (0, .ref mo), (1, .int (jI i)), (2, .int (jI j))]) hx hb dX5_reach_137 hl (by decide) rfl (fun ls hl => ?_)
                            refine lv_iload hx hb dX5_reach_139 (lv_at hl 2 rfl) ?_
                            refine jv_if_le (tgt := 233) hx hb dX5_reach_141 rfl (by omega) (fun c141 => ?_) (fun c141 => ?_)
                            · refine lp233 0 ls H locs ?_ ?_ (lv_sub hl [0, 1, 2, 3, 4, 5, 6, 7, 8, 9, 10] rfl) hP hD hS
                              · omega
                              · first
                                  | (refine ⟨fun h5 => ?_, fun h5 => ?_⟩
                                     · omega
                                     · refine Or.inr ⟨by omega, by omega⟩)
                                  | (refine ⟨fun h5 => ?_, fun h5 => Or.inl ⟨by omega, by omega, by omega, ?_⟩⟩
                                     · omega
                                     · unfold smv
                                       first | (rw [if_pos c191]; done) | (rw [if_neg c191]; done))
                            · refine lv_iload hx hb dX5_reach_144 (lv_at hl 1 rfl) ?_
                              refine jv_if_le (tgt := 233) hx hb dX5_reach_146 rfl (by omega) (fun c146 => ?_) (fun c146 => ?_)
                              · refine lp233 0 ls H locs ?_ ?_ (lv_sub hl [0, 1, 2, 3, 4, 5, 6, 7, 8, 9, 10] rfl) hP hD hS
                                · omega
                                · first
                                    | (refine ⟨fun h5 => ?_, fun h5 => ?_⟩
                                       · omega
                                       · refine Or.inr ⟨by omega, by omega⟩)
                                    | (refine ⟨fun h5 => ?_, fun h5 => Or.inl ⟨by omega, by omega, by omega, ?_⟩⟩
                                       · omega
                                       · unfold smv
                                         first | (rw [if_pos c191]; done) | (rw [if_neg c191]; done))
                              · refine lv_aload_n hx hb dX5_reach_149 rfl (lv_at hl 8 rfl) ?_
                                refine lv_iload hx hb dX5_reach_150 (lv_at hl 2 rfl) ?_
                                refine lv_iconst (v := jI 1) hx hb dX5_reach_152 rfl ?_
                                refine jv_isub hx hb dX5_reach_153 ?_
                                refine lv_iload hx hb dX5_reach_154 (lv_at hl 1 rfl) ?_
                                refine lv_iconst (v := jI 1) hx hb dX5_reach_156 rfl ?_
                                refine jv_isub hx hb dX5_reach_157 ?_
                                refine jr_V F (kX5_scoreAt l D cA mo ml mn mf mt mw mk mz K g ga lo gp li fo ln bs kn 1 u2.2.1 u2.2.2.1 u2.2.2.2.1 u2.2.2.2.2 sc2 (pp - 1) ((d - pp) - 1) (by omega) (by omega)) cvX5_94 hP [0, 3] rfl 0 rfl rfl hl ⟨rfl, rfl, by decide, by decide⟩ rfl rfl (Nat.le_of_ble_eq_true rfl) dX5_reach_158 ⟨by decide, by decide⟩ (fun v hv => ?_)
                                subst hv
                                refine lv_ldc (v := jI (-1000000)) hx hb F.own (F.wd wcX5_78) dX5_reach_161 ?_
                                have hA8 := hA9 (by omega) (by omega)
                                refine jv_icmp_le (tgt := 233) hx hb dX5_reach_163 rfl (by omega) (by omega) (fun c163 => ?_) (fun c163 => ?_)
                                · refine lp233 0 ls H locs ?_ ?_ (lv_sub hl [0, 1, 2, 3, 4, 5, 6, 7, 8, 9, 10] rfl) hP hD hS
                                  · omega
                                  · first
                                      | (refine ⟨fun h5 => ?_, fun h5 => ?_⟩
                                         · omega
                                         · refine Or.inr ⟨by omega, by omega⟩)
                                      | (refine ⟨fun h5 => ?_, fun h5 => Or.inl ⟨by omega, by omega, by omega, ?_⟩⟩
                                         · omega
                                         · unfold smv
                                           first | (rw [if_pos c191]; done) | (rw [if_neg c191]; done))
                                · refine lv_aload_n hx hb dX5_reach_166 rfl (lv_at hl 8 rfl) ?_
                                  refine jv_get (v := .ref ml) F hP 0 rfl flX5_7 rfl dX5_reach_167 ?_
                                  refine lv_iload_n hx hb dX5_reach_170 rfl (lv_at hl 9 rfl) ?_
                                  refine lv_iload hx hb dX5_reach_171 (lv_at hl 2 rfl) ?_
                                  refine jv_iadd hx hb dX5_reach_173 ?_
                                  refine lv_iconst (v := jI 1) hx hb dX5_reach_174 rfl ?_
                                  refine jv_isub hx hb dX5_reach_175 ?_
                                  refine jv_iald (fa := M) F hP 1 rfl (by omega) (by decide) dX5_reach_176 ?_
                                  refine lv_aload_n hx hb dX5_reach_177 rfl (lv_at hl 8 rfl) ?_
                                  refine jv_get (v := .ref ml) F hP 0 rfl flX5_7 rfl dX5_reach_178 ?_
                                  refine lv_bipush (v := jI 48) hx hb dX5_reach_181 (by decide +kernel) ?_
                                  refine lv_iload_n hx hb dX5_reach_183 rfl (lv_at hl 10 rfl) ?_
                                  refine jv_iadd hx hb dX5_reach_184 ?_
                                  refine lv_iload hx hb dX5_reach_185 (lv_at hl 1 rfl) ?_
                                  refine jv_iadd hx hb dX5_reach_187 ?_
                                  refine lv_iconst (v := jI 1) hx hb dX5_reach_188 rfl ?_
                                  refine jv_isub hx hb dX5_reach_189 ?_
                                  refine jv_iald (fa := M) F hP 1 rfl (by omega) (by decide) dX5_reach_190 ?_
                                  have m0 := hM0 (i + pp - 1) (by omega) (by omega)
                                  have m1 := hM1 (j + (d - pp) - 1) (by omega) (by omega)
                                  have l0 := hL0 (i + pp - 1)
                                  have l1 := hL1 (j + (d - pp) - 1)
                                  rw [show 48 + j + (d - pp) - 1 = 48 + (j + (d - pp) - 1) by omega, m0, m1]
                                  refine jv_icmp_ne (tgt := 198) hx hb dX5_reach_191 rfl (by omega) (by omega) (fun c191 => ?_) (fun c191 => ?_)
                                  · refine lv_iconst (v := jI 0) hx hb dX5_reach_198 rfl ?_
                                    refine lv_istore (lv' := [(11, .int (jI 0)), (10, .int (jI 0)), (9, .int (jI (d - pp))), (8, .int (jI pp)), (7, .int (jI u.1)), (6, .int (jI d)), (5, .int (jI u2.1)), (4, .int (jI ((N 1) - j))), (3, .int (jI ((N 0) - i))), (0, .ref mo), (1, .int (jI i)), (2, .int (jI j))]) hx hb dX5_reach_199 hl (by decide) rfl (fun ls hl => ?_)
                                    refine lv_aload_n hx hb dX5_reach_201 rfl (lv_at hl 9 rfl) ?_
                                    refine lv_iload hx hb dX5_reach_202 (lv_at hl 3 rfl) ?_
                                    refine lv_iconst (v := jI 1) hx hb dX5_reach_204 rfl ?_
                                    refine jv_isub hx hb dX5_reach_205 ?_
                                    refine lv_iload hx hb dX5_reach_206 (lv_at hl 2 rfl) ?_
                                    refine lv_iconst (v := jI 1) hx hb dX5_reach_208 rfl ?_
                                    refine jv_isub hx hb dX5_reach_209 ?_
                                    refine jr_V F (kX5_scoreAt l D cA mo ml mn mf mt mw mk mz K g ga lo gp li fo ln bs kn 1 u2.2.1 u2.2.2.1 u2.2.2.2.1 u2.2.2.2.2 sc2 (pp - 1) ((d - pp) - 1) (by omega) (by omega)) cvX5_94 hP [0, 3] rfl 0 rfl rfl hl ⟨rfl, rfl, by decide, by decide⟩ rfl rfl (Nat.le_of_ble_eq_true rfl) dX5_reach_210 ⟨by decide, by decide⟩ (fun v hv => ?_)
                                    subst hv
                                    refine lv_iload hx hb dX5_reach_213 (lv_at hl 0 rfl) ?_
                                    refine jv_if_eq (tgt := 225) hx hb dX5_reach_215 rfl (by omega) (fun c215 => ?_) (fun c215 => ?_)
                                    · refine lv_aload_n hx hb dX5_reach_225 rfl (lv_at hl 9 rfl) ?_
                                      refine jv_get (v := .int (jI lo)) F hP 0 rfl flX5_26 rfl dX5_reach_226 ?_
                                      refine jv_ineg hx hb dX5_reach_229 ?_
                                      refine jv_iadd hx hb dX5_reach_230 ?_
                                      refine lv_istore (lv' := [(10, .int (jI ((sat sc2 (pp - 1) ((d - pp) - 1)) + (-lo)))), (11, .int (jI 0)), (9, .int (jI (d - pp))), (8, .int (jI pp)), (7, .int (jI u.1)), (6, .int (jI d)), (5, .int (jI u2.1)), (4, .int (jI ((N 1) - j))), (3, .int (jI ((N 0) - i))), (0, .ref mo), (1, .int (jI i)), (2, .int (jI j))]) hx hb dX5_reach_231 hl (by decide) rfl (fun ls hl => ?_)
                                      refine lp233 ((sat sc2 (pp - 1) ((d - pp) - 1)) + (-lo)) ls H locs ?_ ?_ (lv_sub hl [0, 2, 3, 4, 5, 6, 7, 8, 9, 10, 11] rfl) hP hD hS
                                      · omega
                                      · first
                                          | (refine ⟨fun h5 => ?_, fun h5 => ?_⟩
                                             · omega
                                             · refine Or.inr ⟨by omega, by omega⟩)
                                          | (refine ⟨fun h5 => ?_, fun h5 => Or.inl ⟨by omega, by omega, by omega, ?_⟩⟩
                                             · omega
                                             · unfold smv
                                               first | (rw [if_pos c191]; done) | (rw [if_neg c191]; done))
                                    · exfalso
                                      omega
                                  · refine lv_iconst (v := jI 1) hx hb dX5_reach_194 rfl ?_
                                    refine lv_goto (tgt := 199) hx hb dX5_reach_195 rfl ?_
                                    refine lv_istore (lv' := [(11, .int (jI 1)), (10, .int (jI 0)), (9, .int (jI (d - pp))), (8, .int (jI pp)), (7, .int (jI u.1)), (6, .int (jI d)), (5, .int (jI u2.1)), (4, .int (jI ((N 1) - j))), (3, .int (jI ((N 0) - i))), (0, .ref mo), (1, .int (jI i)), (2, .int (jI j))]) hx hb dX5_reach_199 hl (by decide) rfl (fun ls hl => ?_)
                                    refine lv_aload_n hx hb dX5_reach_201 rfl (lv_at hl 9 rfl) ?_
                                    refine lv_iload hx hb dX5_reach_202 (lv_at hl 3 rfl) ?_
                                    refine lv_iconst (v := jI 1) hx hb dX5_reach_204 rfl ?_
                                    refine jv_isub hx hb dX5_reach_205 ?_
                                    refine lv_iload hx hb dX5_reach_206 (lv_at hl 2 rfl) ?_
                                    refine lv_iconst (v := jI 1) hx hb dX5_reach_208 rfl ?_
                                    refine jv_isub hx hb dX5_reach_209 ?_
                                    refine jr_V F (kX5_scoreAt l D cA mo ml mn mf mt mw mk mz K g ga lo gp li fo ln bs kn 1 u2.2.1 u2.2.2.1 u2.2.2.2.1 u2.2.2.2.2 sc2 (pp - 1) ((d - pp) - 1) (by omega) (by omega)) cvX5_94 hP [0, 3] rfl 0 rfl rfl hl ⟨rfl, rfl, by decide, by decide⟩ rfl rfl (Nat.le_of_ble_eq_true rfl) dX5_reach_210 ⟨by decide, by decide⟩ (fun v hv => ?_)
                                    subst hv
                                    refine lv_iload hx hb dX5_reach_213 (lv_at hl 0 rfl) ?_
                                    refine jv_if_eq (tgt := 225) hx hb dX5_reach_215 rfl (by omega) (fun c215 => ?_) (fun c215 => ?_)
                                    · exfalso
                                      omega
                                    · refine lv_aload_n hx hb dX5_reach_218 rfl (lv_at hl 9 rfl) ?_
                                      refine jv_get (v := .int (jI ga)) F hP 0 rfl flX5_23 rfl dX5_reach_219 ?_
                                      refine lv_goto (tgt := 230) hx hb dX5_reach_222 rfl ?_
                                      refine jv_iadd hx hb dX5_reach_230 ?_
                                      refine lv_istore (lv' := [(10, .int (jI ((sat sc2 (pp - 1) ((d - pp) - 1)) + ga))), (11, .int (jI 1)), (9, .int (jI (d - pp))), (8, .int (jI pp)), (7, .int (jI u.1)), (6, .int (jI d)), (5, .int (jI u2.1)), (4, .int (jI ((N 1) - j))), (3, .int (jI ((N 0) - i))), (0, .ref mo), (1, .int (jI i)), (2, .int (jI j))]) hx hb dX5_reach_231 hl (by decide) rfl (fun ls hl => ?_)
                                      refine lp233 ((sat sc2 (pp - 1) ((d - pp) - 1)) + ga) ls H locs ?_ ?_ (lv_sub hl [0, 2, 3, 4, 5, 6, 7, 8, 9, 10, 11] rfl) hP hD hS
                                      · omega
                                      · first
                                          | (refine ⟨fun h5 => ?_, fun h5 => ?_⟩
                                             · omega
                                             · refine Or.inr ⟨by omega, by omega⟩)
                                          | (refine ⟨fun h5 => ?_, fun h5 => Or.inl ⟨by omega, by omega, by omega, ?_⟩⟩
                                             · omega
                                             · unfold smv
                                               first | (rw [if_pos c191]; done) | (rw [if_neg c191]; done))
                        · refine lv_goto (tgt := 407) hx hb dX5_reach_123 rfl ?_
                          refine lv_iinc (k := 1) (v := jI (pp + 1)) (lv' := [(8, .int (jI (pp + 1))), (9, .int (jI (d - pp))), (7, .int (jI u.1)), (6, .int (jI d)), (5, .int (jI u2.1)), (4, .int (jI ((N 1) - j))), (3, .int (jI ((N 0) - i))), (0, .ref mo), (1, .int (jI i)), (2, .int (jI j))]) hx hb dX5_reach_407 hl rfl (jI_add _ _) (by decide) rfl (fun ls hl => ?_)
                          refine lv_goto (tgt := 96) hx hb dX5_reach_410 rfl ?_
                          refine ih96 (pp + 1) u2 sc2 ls H locs (by omega) ?_ ?_ ?_ ?_ (lv_sub hl [0, 2, 3, 4, 5, 6, 7, 8, 9] rfl) hP hD hS
                          · omega
                          · refine ⟨fun h5 => ?_, fun h5 => ?_⟩
                            · first
                                | exact hu2.1 h5
                                | (exfalso; omega)
                            · rw [rA_s (by omega), ← hu2.2 h5]
                              first
                                | (rw [acc1_dead (hcell.2 (by omega))]; done)
                                | (exfalso; omega)
                                | (rw [acc1_dead (by rw [hZd h5]; exact nx_out (by omega))]; done)
                                | (rw [← (hcell.1 ⟨by omega, by omega⟩).1, acc1_hi (by omega) (by omega)]; done)
                                | (rw [← (hcell.1 ⟨by omega, by omega⟩).1, acc1_lo (by omega) (by omega)]; done)
                          · intro x y x0 x1 y0 y1 h5
                            first
                              | (by_cases h6 : x = pp ∧ y = d - pp
                                 · obtain ⟨h7, h8⟩ := h6
                                   rw [h7, h8, show pp + (d - pp) = d by omega]
                                   first
                                     | (rw [jU_s, hcell.2 (by omega)]; done)
                                     | (rw [jU_s]; exact (hcell.1 ⟨by omega, by omega⟩).1)
                                 · rw [jU_n (by omega)]
                                   exact hsc2 x y x0 x1 y0 y1 (by omega))
                              | exact hsc2 x y x0 x1 y0 y1 (by omega)
                          · first
                              | exact hb2
                              | (show 0 ≤ s3 ∧ s3 ≤ 2000; omega)
                              | (show 0 ≤ u2.1 ∧ u2.1 ≤ 2000; exact hb2)
                refine lp96 (Int.toNat (d + 1 - 0) + 1) 0 u sc1 ls H locs (by omega) ?_ ?_ ?_ ?_ (lv_sub hl [0, 1, 2, 3, 4, 5, 6, 7, 8] rfl) hP hD hS
                · omega
                · exact ⟨fun _ => rfl, fun _ => rfl⟩
                · intro x y x0 x1 y0 y1 h5
                  exact hsc x y x0 x1 y0 y1 (by omega)
                · omega
          refine lp80 (Int.toNat (n0 - i + (n1 - j) + 1 - 0) + 1) 0 (0, 0, 0, 1, 0) sc ls H locs (by omega) ?_ ?_ ?_ (lv_sub hl [0, 1, 2, 3, 4, 5, 6] rfl) hP hD hS
          · omega
          · rfl
          · intro x y; omega
        · refine lv_iconst (v := jI (-1)) hx hb dX5_reach_28 rfl ?_
          exact jM.ri F hQ rfl dX5_reach_29 hS hP hD (by exact Or.inr ⟨by omega, rfl, rfl⟩)
