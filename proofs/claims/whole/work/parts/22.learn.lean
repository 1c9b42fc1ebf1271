set_option maxHeartbeats 4000000 in
set_option maxRecDepth 100000 in
theorem kX5_learn_0 (l : Launch) (D : va_G) (cA : ClassId) (mo ml mn mf mt mw mk mz : Nat) (K g ga lo gp li fo ln bs rd ep eq al fa : Int) (M N L0 L1 : Int → Int) (n0 n1 : Int) (f sf wf lk : Int → Int) (hn0 : 0 ≤ n0 ∧ n0 ≤ 48) (hn1 : 0 ≤ n1 ∧ n1 ≤ 48) (hL0 : ∀ x, 0 ≤ L0 x ∧ L0 x ≤ 3) (hL1 : ∀ x, 0 ≤ L1 x ∧ L1 x ≤ 3) (hN0 : N 0 = n0) (hN1 : N 1 = n1) (hM0 : ∀ x, 0 ≤ x → x < 48 → M x = L0 x) (hM1 : ∀ x, 0 ≤ x → x < 48 → M (48 + x) = L1 x) (hK : 1 ≤ K ∧ K ≤ 6) (hg : 0 ≤ g ∧ g ≤ 9) : jM l YX5_learn (rmk 1 0 0 24) D cA [.ref mo] [(mo, .inr (5, [.ref ml, .ref mn, .int (jI K), .int (jI g), .int (jI ga), .int (jI lo), .int (jI gp), .int (jI li), .ref mf, .ref mt, .ref mw, .int (jI fo), .ref mk, .int (jI ln), .int (jI bs), .int (jI 0), .ref mz, .int (jI rd), .int (jI ep), .int (jI eq), .int (jI al), .int (jI fa)])), (ml, .inl (cA, 96, .inl (jA M))), (mn, .inl (cA, 2, .inl (jA N))), (mf, .inl (cA, 2304, .inl (jA f))), (mt, .inl (cA, 2304, .inl (jA sf))), (mw, .inl (cA, 2304, .inl (jA wf))), (mk, .inl (cA, 48, .inl (jA lk)))] (fun v w => v = none ∧ ∃ (f2 s2 w2 k2 : Int → Int) (fo2 ln2 bs2 : Int), knw (anc L0 L1 n0 n1 K) n0 n1 K g f2 s2 fo2 k2 ln2 bs2 ∧ w = [(mo, .inr (5, [.ref ml, .ref mn, .int (jI K), .int (jI g), .int (jI ga), .int (jI lo), .int (jI gp), .int (jI li), .ref mf, .ref mt, .ref mw, .int (jI fo2), .ref mk, .int (jI ln2), .int (jI bs2), .int (jI 1), .ref mz, .int (jI rd), .int (jI ep), .int (jI eq), .int (jI al), .int (jI fa)])), (ml, .inl (cA, 96, .inl (jA M))), (mn, .inl (cA, 2, .inl (jA N))), (mf, .inl (cA, 2304, .inl (jA f2))), (mt, .inl (cA, 2304, .inl (jA s2))), (mw, .inl (cA, 2304, .inl (jA w2))), (mk, .inl (cA, 48, .inl (jA k2)))]) 0 0 := by
  refine jM.intro (by decide +kernel) (Nat.le_of_ble_eq_true rfl) ?_
  intro p e s m args below meth c ls Q A F hQ hA hP hD hS hl
  have hx := F.1
  have hb := F.2.1
  have hl : lv_has ls 6 [(0, .ref mo)] := hl
  refine lv_aload_n hx hb dX5_learn_0 rfl (lv_at hl 0 rfl) ?_
  refine jv_get (v := .int (jI 0)) F hP 0 rfl flX5_54 rfl dX5_learn_1 ?_
  refine jv_if_eq (tgt := 8) hx hb dX5_learn_4 rfl (by omega) (fun c4 => ?_) (fun c4 => ?_)
  · refine lv_aload_n hx hb dX5_learn_8 rfl (lv_at hl 0 rfl) ?_
    refine lv_iconst (v := jI 1) hx hb dX5_learn_9 rfl ?_
    refine jv_put (v := .int (jI 1)) F hP hD hS 0 rfl flX5_54 pfX5 (by decide +kernel) (by decide +kernel) (by decide +kernel) (Nat.le_of_ble_eq_true rfl) dX5_learn_10 (fun H locs hP hD hS => ?_)
    have hP : va_P D cls [(mo, .inr (5, [.ref ml, .ref mn, .int (jI K), .int (jI g), .int (jI ga), .int (jI lo), .int (jI gp), .int (jI li), .ref mf, .ref mt, .ref mw, .int (jI fo), .ref mk, .int (jI ln), .int (jI bs), .int (jI 1), .ref mz, .int (jI rd), .int (jI ep), .int (jI eq), .int (jI al), .int (jI fa)])), (ml, .inl (cA, 96, .inl (jA M))), (mn, .inl (cA, 2, .inl (jA N))), (mf, .inl (cA, 2304, .inl (jA f))), (mt, .inl (cA, 2304, .inl (jA sf))), (mw, .inl (cA, 2304, .inl (jA wf))), (mk, .inl (cA, 48, .inl (jA lk)))] H := hP
    have hD : va_D A [(mo, .inr (5, [.ref ml, .ref mn, .int (jI K), .int (jI g), .int (jI ga), .int (jI lo), .int (jI gp), .int (jI li), .ref mf, .ref mt, .ref mw, .int (jI fo), .ref mk, .int (jI ln), .int (jI bs), .int (jI 1), .ref mz, .int (jI rd), .int (jI ep), .int (jI eq), .int (jI al), .int (jI fa)])), (ml, .inl (cA, 96, .inl (jA M))), (mn, .inl (cA, 2, .inl (jA N))), (mf, .inl (cA, 2304, .inl (jA f))), (mt, .inl (cA, 2304, .inl (jA sf))), (mw, .inl (cA, 2304, .inl (jA wf))), (mk, .inl (cA, 48, .inl (jA lk)))] := hD
    refine lv_aload_n hx hb dX5_learn_13 rfl (lv_at hl 0 rfl) ?_
    refine lv_iconst (v := jI 0) hx hb dX5_learn_14 rfl ?_
    refine jv_put (v := .int (jI 0)) F hP hD hS 0 rfl flX5_58 pfX5 (by decide +kernel) rfl rfl (Nat.le_of_ble_eq_true rfl) dX5_learn_15 (fun H locs hP hD hS => ?_)
    have hP : va_P D cls [(mo, .inr (5, [.ref ml, .ref mn, .int (jI K), .int (jI g), .int (jI ga), .int (jI lo), .int (jI gp), .int (jI li), .ref mf, .ref mt, .ref mw, .int (jI 0), .ref mk, .int (jI ln), .int (jI bs), .int (jI 1), .ref mz, .int (jI rd), .int (jI ep), .int (jI eq), .int (jI al), .int (jI fa)])), (ml, .inl (cA, 96, .inl (jA M))), (mn, .inl (cA, 2, .inl (jA N))), (mf, .inl (cA, 2304, .inl (jA f))), (mt, .inl (cA, 2304, .inl (jA sf))), (mw, .inl (cA, 2304, .inl (jA wf))), (mk, .inl (cA, 48, .inl (jA lk)))] H := hP
    have hD : va_D A [(mo, .inr (5, [.ref ml, .ref mn, .int (jI K), .int (jI g), .int (jI ga), .int (jI lo), .int (jI gp), .int (jI li), .ref mf, .ref mt, .ref mw, .int (jI 0), .ref mk, .int (jI ln), .int (jI bs), .int (jI 1), .ref mz, .int (jI rd), .int (jI ep), .int (jI eq), .int (jI al), .int (jI fa)])), (ml, .inl (cA, 96, .inl (jA M))), (mn, .inl (cA, 2, .inl (jA N))), (mf, .inl (cA, 2304, .inl (jA f))), (mt, .inl (cA, 2304, .inl (jA sf))), (mw, .inl (cA, 2304, .inl (jA wf))), (mk, .inl (cA, 48, .inl (jA lk)))] := hD
    refine lv_iconst (v := jI 0) hx hb dX5_learn_18 rfl ?_
    refine lv_istore_n (lv' := [(1, .int (jI 0)), (0, .ref mo)]) hx hb dX5_learn_19 rfl hl (by decide) rfl (fun ls hl => ?_)
    have lp20 : ∀ (fu : Nat) (i : Int) (fo1 : Int) (f1 : Int → Int) (s1 : Int → Int) (ls : Array Slot) (H : Heap) (locs : List Loc), n0 - i < (fu : Int) → (0 ≤ i ∧ i ≤ n0) → (0 ≤ fo1 ∧ fo1 ≤ 48 * i) → (tabP (anc L0 L1 n0 n1 K) n1 i 0 f1 s1 fo1) → lv_has ls 6 [(1, .int (jI i)), (0, .ref mo)] → va_P D cls [(mo, .inr (5, [.ref ml, .ref mn, .int (jI K), .int (jI g), .int (jI ga), .int (jI lo), .int (jI gp), .int (jI li), .ref mf, .ref mt, .ref mw, .int (jI fo1), .ref mk, .int (jI ln), .int (jI bs), .int (jI 1), .ref mz, .int (jI rd), .int (jI ep), .int (jI eq), .int (jI al), .int (jI fa)])), (ml, .inl (cA, 96, .inl (jA M))), (mn, .inl (cA, 2, .inl (jA N))), (mf, .inl (cA, 2304, .inl (jA f1))), (mt, .inl (cA, 2304, .inl (jA s1))), (mw, .inl (cA, 2304, .inl (jA wf))), (mk, .inl (cA, 48, .inl (jA lk)))] H → va_D A [(mo, .inr (5, [.ref ml, .ref mn, .int (jI K), .int (jI g), .int (jI ga), .int (jI lo), .int (jI gp), .int (jI li), .ref mf, .ref mt, .ref mw, .int (jI fo1), .ref mk, .int (jI ln), .int (jI bs), .int (jI 1), .ref mz, .int (jI rd), .int (jI ep), .int (jI eq), .int (jI al), .int (jI fa)])), (ml, .inl (cA, 96, .inl (jA M))), (mn, .inl (cA, 2, .inl (jA N))), (mf, .inl (cA, 2304, .inl (jA f1))), (mt, .inl (cA, 2304, .inl (jA s1))), (mw, .inl (cA, 2304, .inl (jA wf))), (mk, .inl (cA, 48, .inl (jA lk)))] → va_S A s.heap H locs → W p l e (rmk 1 0 0 24) s m args below meth c H locs 0 0 Q (F0 m 20 ls []) := by
      intro fu
      induction fu with
      | zero => intro i fo1 f1 s1 ls H locs hfu hi hfo ht hl hP hD hS; exfalso; omega
      | succ fu ih20 =>
        intro i fo1 f1 s1 ls H locs hfu hi hfo ht hl hP hD hS
        refine lv_iload_n hx hb dX5_learn_20 rfl (lv_at hl 0 rfl) ?_
        refine lv_aload_n hx hb dX5_learn_21 rfl (lv_at hl 1 rfl) ?_
        refine jv_get (v := .ref mn) F hP 0 rfl flX5_13 rfl dX5_learn_22 ?_
        refine lv_iconst (v := jI 0) hx hb dX5_learn_25 rfl ?_
        refine jv_iald (fa := N) F hP 2 rfl (by omega) (by decide) dX5_learn_26 ?_
        refine jv_icmp_ge (tgt := 93) hx hb dX5_learn_27 rfl (by omega) (by omega) (fun c27 => ?_) (fun c27 => ?_)
        · have hT : tabOK (anc L0 L1 n0 n1 K) n0 n1 f1 s1 fo1 := tabP_all anc_in hK.1 (by omega) ht
          have tbb := tabOK_b anc_in hK.1 hn0 hn1.2 hT
          refine lv_aload_n hx hb dX5_learn_93 rfl (lv_at hl 1 rfl) ?_
          refine lv_iconst (v := jI 0) hx hb dX5_learn_94 rfl ?_
          refine jv_put (v := .int (jI 0)) F hP hD hS 0 rfl flX5_65 pfX5 (by decide +kernel) rfl rfl (Nat.le_of_ble_eq_true rfl) dX5_learn_95 (fun H locs hP hD hS => ?_)
          have hP : va_P D cls [(mo, .inr (5, [.ref ml, .ref mn, .int (jI K), .int (jI g), .int (jI ga), .int (jI lo), .int (jI gp), .int (jI li), .ref mf, .ref mt, .ref mw, .int (jI fo1), .ref mk, .int (jI ln), .int (jI 0), .int (jI 1), .ref mz, .int (jI rd), .int (jI ep), .int (jI eq), .int (jI al), .int (jI fa)])), (ml, .inl (cA, 96, .inl (jA M))), (mn, .inl (cA, 2, .inl (jA N))), (mf, .inl (cA, 2304, .inl (jA f1))), (mt, .inl (cA, 2304, .inl (jA s1))), (mw, .inl (cA, 2304, .inl (jA wf))), (mk, .inl (cA, 48, .inl (jA lk)))] H := hP
          have hD : va_D A [(mo, .inr (5, [.ref ml, .ref mn, .int (jI K), .int (jI g), .int (jI ga), .int (jI lo), .int (jI gp), .int (jI li), .ref mf, .ref mt, .ref mw, .int (jI fo1), .ref mk, .int (jI ln), .int (jI 0), .int (jI 1), .ref mz, .int (jI rd), .int (jI ep), .int (jI eq), .int (jI al), .int (jI fa)])), (ml, .inl (cA, 96, .inl (jA M))), (mn, .inl (cA, 2, .inl (jA N))), (mf, .inl (cA, 2304, .inl (jA f1))), (mt, .inl (cA, 2304, .inl (jA s1))), (mw, .inl (cA, 2304, .inl (jA wf))), (mk, .inl (cA, 48, .inl (jA lk)))] := hD
          refine lv_aload_n hx hb dX5_learn_98 rfl (lv_at hl 1 rfl) ?_
          refine jv_get (v := .int (jI fo1)) F hP 0 rfl flX5_58 rfl dX5_learn_99 ?_
          refine lv_iconst (v := jI 1) hx hb dX5_learn_102 rfl ?_
          refine jv_isub hx hb dX5_learn_103 ?_
          refine lv_istore_n (lv' := [(1, .int (jI (fo1 - 1))), (0, .ref mo)]) hx hb dX5_learn_104 rfl hl (by decide) rfl (fun ls hl => ?_)
          have lp105 : ∀ (fu : Nat) (a : Int) (b3 : Int) (w3 : Int → Int) (ls : Array Slot) (H : Heap) (locs : List Loc), a + 1 < (fu : Int) → (-1 ≤ a ∧ a < fo1) → (0 ≤ b3 ∧ b3 ≤ 480) → (∀ q, a < q → q < fo1 → moreIx f1 s1 w3 K g q fo1 (w3 q - 10 * K) ∧ 10 * K ≤ w3 q ∧ w3 q ≤ 10 * (n0 - f1 q)) → (topIx w3 (a + 1) fo1 b3) → lv_has ls 6 [(1, .int (jI a)), (0, .ref mo)] → va_P D cls [(mo, .inr (5, [.ref ml, .ref mn, .int (jI K), .int (jI g), .int (jI ga), .int (jI lo), .int (jI gp), .int (jI li), .ref mf, .ref mt, .ref mw, .int (jI fo1), .ref mk, .int (jI ln), .int (jI b3), .int (jI 1), .ref mz, .int (jI rd), .int (jI ep), .int (jI eq), .int (jI al), .int (jI fa)])), (ml, .inl (cA, 96, .inl (jA M))), (mn, .inl (cA, 2, .inl (jA N))), (mf, .inl (cA, 2304, .inl (jA f1))), (mt, .inl (cA, 2304, .inl (jA s1))), (mw, .inl (cA, 2304, .inl (jA w3))), (mk, .inl (cA, 48, .inl (jA lk)))] H → va_D A [(mo, .inr (5, [.ref ml, .ref mn, .int (jI K), .int (jI g), .int (jI ga), .int (jI lo), .int (jI gp), .int (jI li), .ref mf, .ref mt, .ref mw, .int (jI fo1), .ref mk, .int (jI ln), .int (jI b3), .int (jI 1), .ref mz, .int (jI rd), .int (jI ep), .int (jI eq), .int (jI al), .int (jI fa)])), (ml, .inl (cA, 96, .inl (jA M))), (mn, .inl (cA, 2, .inl (jA N))), (mf, .inl (cA, 2304, .inl (jA f1))), (mt, .inl (cA, 2304, .inl (jA s1))), (mw, .inl (cA, 2304, .inl (jA w3))), (mk, .inl (cA, 48, .inl (jA lk)))] → va_S A s.heap H locs → W p l e (rmk 1 0 0 24) s m args below meth c H locs 0 0 Q (F0 m 105 ls []) := by
            intro fu
            induction fu with
            | zero => intro a b3 w3 ls H locs hfu ha hb3 hw3 htop hl hP hD hS; exfalso; omega
            | succ fu ih105 =>
              intro a b3 w3 ls H locs hfu ha hb3 hw3 htop hl hP hD hS
              refine lv_iload_n hx hb dX5_learn_105 rfl (lv_at hl 0 rfl) ?_
              refine jv_if_lt (tgt := 226) hx hb dX5_learn_106 rfl (by omega) (fun c106 => ?_) (fun c106 => ?_)
              · have hwm : ∀ q, 0 ≤ q → q < fo1 → moreIx f1 s1 w3 K g q fo1 (w3 q - 10 * K) := fun q h5 h6 => (hw3 q (by omega) h6).1
                have htp : topIx w3 0 fo1 b3 := by
                  have h5 := htop
                  rw [show a + 1 = 0 by omega] at h5
                  exact h5
                have hwb0 : ∀ q, 0 ≤ q → q < fo1 → 10 * K ≤ w3 q ∧ w3 q ≤ 480 := fun q h5 h6 => by
                  have h7 := (hw3 q (by omega) h6).2
                  have h8 := anc_in _ _ (tbb.2.2 q h5 h6).1
                  omega
                refine lv_aload_n hx hb dX5_learn_226 rfl (lv_at hl 1 rfl) ?_
                refine lv_iconst (v := jI 0) hx hb dX5_learn_227 rfl ?_
                refine jv_put (v := .int (jI 0)) F hP hD hS 0 rfl flX5_72 pfX5 (by decide +kernel) rfl rfl (Nat.le_of_ble_eq_true rfl) dX5_learn_228 (fun H locs hP hD hS => ?_)
                have hP : va_P D cls [(mo, .inr (5, [.ref ml, .ref mn, .int (jI K), .int (jI g), .int (jI ga), .int (jI lo), .int (jI gp), .int (jI li), .ref mf, .ref mt, .ref mw, .int (jI fo1), .ref mk, .int (jI 0), .int (jI b3), .int (jI 1), .ref mz, .int (jI rd), .int (jI ep), .int (jI eq), .int (jI al), .int (jI fa)])), (ml, .inl (cA, 96, .inl (jA M))), (mn, .inl (cA, 2, .inl (jA N))), (mf, .inl (cA, 2304, .inl (jA f1))), (mt, .inl (cA, 2304, .inl (jA s1))), (mw, .inl (cA, 2304, .inl (jA w3))), (mk, .inl (cA, 48, .inl (jA lk)))] H := hP
                have hD : va_D A [(mo, .inr (5, [.ref ml, .ref mn, .int (jI K), .int (jI g), .int (jI ga), .int (jI lo), .int (jI gp), .int (jI li), .ref mf, .ref mt, .ref mw, .int (jI fo1), .ref mk, .int (jI 0), .int (jI b3), .int (jI 1), .ref mz, .int (jI rd), .int (jI ep), .int (jI eq), .int (jI al), .int (jI fa)])), (ml, .inl (cA, 96, .inl (jA M))), (mn, .inl (cA, 2, .inl (jA N))), (mf, .inl (cA, 2304, .inl (jA f1))), (mt, .inl (cA, 2304, .inl (jA s1))), (mw, .inl (cA, 2304, .inl (jA w3))), (mk, .inl (cA, 48, .inl (jA lk)))] := hD
                refine lv_aload_n hx hb dX5_learn_231 rfl (lv_at hl 1 rfl) ?_
                refine jv_get (v := .int (jI b3)) F hP 0 rfl flX5_65 rfl dX5_learn_232 ?_
                refine lv_istore_n (lv' := [(1, .int (jI b3)), (0, .ref mo)]) hx hb dX5_learn_235 rfl hl (by decide) rfl (fun ls hl => ?_)
                refine lv_iconst (v := jI (-1)) hx hb dX5_learn_236 rfl ?_
                refine lv_istore_n (lv' := [(2, .int (jI (-1))), (1, .int (jI b3)), (0, .ref mo)]) hx hb dX5_learn_237 rfl hl (by decide) rfl (fun ls hl => ?_)
                refine lv_iconst (v := jI 0) hx hb dX5_learn_238 rfl ?_
                refine lv_istore_n (lv' := [(3, .int (jI 0)), (2, .int (jI (-1))), (1, .int (jI b3)), (0, .ref mo)]) hx hb dX5_learn_239 rfl hl (by decide) rfl (fun ls hl => ?_)
                have lp240 : ∀ (fu : Nat) (le : Int) (la : Int) (b5 : Int) (n5 : Int) (k5 : Int → Int) (ls : Array Slot) (H : Heap) (locs : List Loc), fo1 - b5 < (fu : Int) → (0 ≤ n5 ∧ n5 ≤ 48) → (0 ≤ le ∧ le ≤ 480) → (-1 ≤ la ∧ la < fo1) → (0 ≤ b5 ∧ b5 ≤ fo1) → (chp (anc L0 L1 n0 n1 K) (wI (anc L0 L1 n0 n1 K) n1 w3) K g b3 n5 (fun q => f1 (k5 q)) (fun q => s1 (k5 q))) → (srch f1 s1 w3 K g b3 n5 la le b5) → (0 < n5 → k5 (n5 - 1) = la) → (∀ q, 0 ≤ q → q < n5 → 0 ≤ k5 q ∧ k5 q < fo1) → lv_has ls 6 [(3, .int (jI b5)), (2, .int (jI la)), (1, .int (jI le)), (0, .ref mo)] → va_P D cls [(mo, .inr (5, [.ref ml, .ref mn, .int (jI K), .int (jI g), .int (jI ga), .int (jI lo), .int (jI gp), .int (jI li), .ref mf, .ref mt, .ref mw, .int (jI fo1), .ref mk, .int (jI n5), .int (jI b3), .int (jI 1), .ref mz, .int (jI rd), .int (jI ep), .int (jI eq), .int (jI al), .int (jI fa)])), (ml, .inl (cA, 96, .inl (jA M))), (mn, .inl (cA, 2, .inl (jA N))), (mf, .inl (cA, 2304, .inl (jA f1))), (mt, .inl (cA, 2304, .inl (jA s1))), (mw, .inl (cA, 2304, .inl (jA w3))), (mk, .inl (cA, 48, .inl (jA k5)))] H → va_D A [(mo, .inr (5, [.ref ml, .ref mn, .int (jI K), .int (jI g), .int (jI ga), .int (jI lo), .int (jI gp), .int (jI li), .ref mf, .ref mt, .ref mw, .int (jI fo1), .ref mk, .int (jI n5), .int (jI b3), .int (jI 1), .ref mz, .int (jI rd), .int (jI ep), .int (jI eq), .int (jI al), .int (jI fa)])), (ml, .inl (cA, 96, .inl (jA M))), (mn, .inl (cA, 2, .inl (jA N))), (mf, .inl (cA, 2304, .inl (jA f1))), (mt, .inl (cA, 2304, .inl (jA s1))), (mw, .inl (cA, 2304, .inl (jA w3))), (mk, .inl (cA, 48, .inl (jA k5)))] → va_S A s.heap H locs → W p l e (rmk 1 0 0 24) s m args below meth c H locs 0 0 Q (F0 m 240 ls []) := by
                  intro fu
                  induction fu with
                  | zero => intro le la b5 n5 k5 ls H locs hfu hn5 hle hla hb5 hch hsr hlk hkk hl hP hD hS; exfalso; omega
                  | succ fu ih240 =>
                    intro le la b5 n5 k5 ls H locs hfu hn5 hle hla hb5 hch hsr hlk hkk hl hP hD hS
                    have hla0 : n5 = 0 → la = -1 := fun h5 => (hsr.2.1 h5).1
                    have hla1 : 0 < n5 → 0 ≤ la := fun h5 => (hsr.2.2 h5).1
                    refine lv_iload_n hx hb dX5_learn_240 rfl (lv_at hl 2 rfl) ?_
                    refine jv_if_le (tgt := 326) hx hb dX5_learn_241 rfl (by omega) (fun c241 => ?_) (fun c241 => ?_)
                    · have hnol : nol (wI (anc L0 L1 n0 n1 K) n1 w3) K b3 n5 (fun q => f1 (k5 q)) (fun q => s1 (k5 q)) := by
                        refine ⟨fun h5 => by have := (hsr.2.1 h5).2.1; omega, fun h5 => ?_⟩
                        show wI (anc L0 L1 n0 n1 K) n1 w3 (f1 (k5 (n5 - 1))) (s1 (k5 (n5 - 1))) - 10 * K ≤ 0
                        rw [hlk h5]
                        unfold wI
                        rw [(tbb.2.2 la (hla1 h5) hla.2).2]
                        have := (hsr.2.2 h5).2.2.1
                        omega
                      exact jM.rv F hQ rfl dX5_learn_326 hS hP hD (by exact ⟨rfl, f1, s1, w3, k5, fo1, n5, b3, ⟨hT, ⟨_, wI_WT anc_in hK.1 hn1.2 hT hwm, wI_top anc_in hK.1 hn1.2 hT htp, chp_end hch hnol⟩, hn5, hkk, tbb.1, tbb.2.1⟩, rfl⟩)
                    · have hlt := srch_lt anc_in hK.1 hn0 hn1.2 hT hwm htp hn5.1 hla.2 hsr (by omega)
                      refine lv_iload_n hx hb dX5_learn_244 rfl (lv_at hl 1 rfl) ?_
                      refine jv_if_ge (tgt := 252) hx hb dX5_learn_245 rfl (by omega) (fun c245 => ?_) (fun c245 => ?_)
                      · have hn5p : 0 < n5 := by
                          by_cases h5 : n5 = 0
                          · have := hla0 h5; omega
                          · omega
                        refine lv_aload_n hx hb dX5_learn_252 rfl (lv_at hl 3 rfl) ?_
                        refine lv_iload_n hx hb dX5_learn_253 rfl (lv_at hl 1 rfl) ?_
                        refine lv_iload_n hx hb dX5_learn_254 rfl (lv_at hl 0 rfl) ?_
                        have ga255 := anc_in _ _ (tbb.2.2 la (by omega) (by omega)).1
                        have gb255 := anc_in _ _ (tbb.2.2 b5 (by omega) (by omega)).1
                        refine jr_V F (kX5_between l D cA mo ml mn mf mt mw mk mz K g ga lo gp li fo1 n5 b3 1 rd ep eq al fa f1 s1 la b5 hK (by omega) (by omega) (by omega)) cvX5_68 hP [0, 3, 4] rfl 0 rfl rfl hl ⟨rfl, rfl, by decide, by decide⟩ rfl rfl (Nat.le_of_ble_eq_true rfl) dX5_learn_255 ⟨by decide, by decide⟩ (fun v hv => ?_)
                        subst hv
                        have hr255 := btw_r (f := f1) (s := s1) (K := K) (a := la) (b := b5) (by omega) (by omega) (by omega) (by omega) (by omega)
                        refine lv_istore (lv' := [(4, .int (jI (btw f1 s1 K la b5))), (3, .int (jI b5)), (2, .int (jI la)), (1, .int (jI le)), (0, .ref mo)]) hx hb dX5_learn_258 hl (by decide) rfl (fun ls hl => ?_)
                        refine lv_iload hx hb dX5_learn_260 (lv_at hl 0 rfl) ?_
                        refine jv_if_lt (tgt := 320) hx hb dX5_learn_262 rfl (by omega) (fun c262 => ?_) (fun c262 => ?_)
                        · refine lv_iinc (k := 1) (v := jI (b5 + 1)) (lv' := [(3, .int (jI (b5 + 1))), (4, .int (jI (btw f1 s1 K la b5))), (2, .int (jI la)), (1, .int (jI le)), (0, .ref mo)]) hx hb dX5_learn_320 hl rfl (jI_add _ _) (by decide) rfl (fun ls hl => ?_)
                          refine lv_goto (tgt := 240) hx hb dX5_learn_323 rfl ?_
                          refine ih240 le la (b5 + 1) n5 k5 ls H locs (by omega) ?_ ?_ ?_ ?_ ?_ ?_ ?_ ?_ (lv_sub hl [0, 2, 3, 4] rfl) hP hD hS
                          · omega
                          · omega
                          · omega
                          · omega
                          · first
                              | exact hch
                              | exact chp_push anc_in hK.1 hch hnx (fun q hq => by show f1 (jU k5 n5 b5 q) = f1 (k5 q); rw [jU_n hq]) (fun q hq => by show s1 (jU k5 n5 b5 q) = s1 (k5 q); rw [jU_n hq]) (by show f1 (jU k5 n5 b5 n5) = f1 b5; rw [jU_s]) (by show s1 (jU k5 n5 b5 n5) = s1 b5; rw [jU_s])
                          · first
                              | exact ⟨by omega, fun h5 => by omega, fun _ => ⟨by omega, by omega, rfl, fun q q0 q1 _ => by omega⟩⟩
                              | exact srch_no hsr (fun h5 h6 => c280 (by have := (hsr.2.1 h5).2.1; omega)) (fun h5 => by omega)
                              | exact srch_no hsr (fun h5 => by omega) (fun _ _ h6 => c280 h6)
                              | exact srch_no hsr (fun h5 => by omega) (fun _ h6 => by omega)
                          · intro h5
                            first
                              | exact hlk h5
                              | rw [show n5 + 1 - 1 = n5 by omega, jU_s]
                          · first
                              | exact hkk
                              | (intro q q0 q1
                                 by_cases e : q = n5
                                 · rw [e, jU_s]; omega
                                 · rw [jU_n e]; exact hkk q q0 (by omega))
                        · have hwq := hwb0 b5 (by omega) hlt
                          have hgb := gmul_b (g := g) (d := btw f1 s1 K la b5) hg (by omega)
                          refine lv_aload_n hx hb dX5_learn_265 rfl (lv_at hl 4 rfl) ?_
                          refine jv_get (v := .ref mw) F hP 0 rfl flX5_41 rfl dX5_learn_266 ?_
                          refine lv_iload_n hx hb dX5_learn_269 rfl (lv_at hl 1 rfl) ?_
                          refine jv_iald (fa := w3) F hP 5 rfl (by omega) (by decide) dX5_learn_270 ?_
                          refine lv_aload_n hx hb dX5_learn_271 rfl (lv_at hl 4 rfl) ?_
                          refine jv_get (v := .int (jI g)) F hP 0 rfl flX5_20 rfl dX5_learn_272 ?_
                          refine lv_iload hx hb dX5_learn_275 (lv_at hl 0 rfl) ?_
                          refine jv_imul hx hb dX5_learn_277 ?_
                          refine jv_isub hx hb dX5_learn_278 ?_
                          refine lv_iload_n hx hb dX5_learn_279 rfl (lv_at hl 3 rfl) ?_
                          refine jv_icmp_ne (tgt := 320) hx hb dX5_learn_280 rfl (by omega) (by omega) (fun c280 => ?_) (fun c280 => ?_)
                          · refine lv_iinc (k := 1) (v := jI (b5 + 1)) (lv' := [(3, .int (jI (b5 + 1))), (4, .int (jI (btw f1 s1 K la b5))), (2, .int (jI la)), (1, .int (jI le)), (0, .ref mo)]) hx hb dX5_learn_320 hl rfl (jI_add _ _) (by decide) rfl (fun ls hl => ?_)
                            refine lv_goto (tgt := 240) hx hb dX5_learn_323 rfl ?_
                            refine ih240 le la (b5 + 1) n5 k5 ls H locs (by omega) ?_ ?_ ?_ ?_ ?_ ?_ ?_ ?_ (lv_sub hl [0, 2, 3, 4] rfl) hP hD hS
                            · omega
                            · omega
                            · omega
                            · omega
                            · first
                                | exact hch
                                | exact chp_push anc_in hK.1 hch hnx (fun q hq => by show f1 (jU k5 n5 b5 q) = f1 (k5 q); rw [jU_n hq]) (fun q hq => by show s1 (jU k5 n5 b5 q) = s1 (k5 q); rw [jU_n hq]) (by show f1 (jU k5 n5 b5 n5) = f1 b5; rw [jU_s]) (by show s1 (jU k5 n5 b5 n5) = s1 b5; rw [jU_s])
                            · first
                                | exact ⟨by omega, fun h5 => by omega, fun _ => ⟨by omega, by omega, rfl, fun q q0 q1 _ => by omega⟩⟩
                                | exact srch_no hsr (fun h5 h6 => c280 (by have := (hsr.2.1 h5).2.1; omega)) (fun h5 => by omega)
                                | exact srch_no hsr (fun h5 => by omega) (fun _ _ h6 => c280 h6)
                                | exact srch_no hsr (fun h5 => by omega) (fun _ h6 => by omega)
                            · intro h5
                              first
                                | exact hlk h5
                                | rw [show n5 + 1 - 1 = n5 by omega, jU_s]
                            · first
                                | exact hkk
                                | (intro q q0 q1
                                   by_cases e : q = n5
                                   · rw [e, jU_s]; omega
                                   · rw [jU_n e]; exact hkk q q0 (by omega))
                          · have hnx : nxl (anc L0 L1 n0 n1 K) (wI (anc L0 L1 n0 n1 K) n1 w3) K g b3 n5 (fun q => f1 (k5 q)) (fun q => s1 (k5 q)) (f1 b5) (s1 b5) := srch_yes anc_in hK.1 hn0 hn1.2 hT hsr hlt (by omega) hlk hla.2 (fun h5 => by have := (hsr.2.1 h5).2.1; omega) (fun h5 => ⟨by omega, by omega⟩)
                            have hnb := nxl_b anc_in hK.1 hn0.2 hch hnx
                            refine lv_aload_n hx hb dX5_learn_283 rfl (lv_at hl 4 rfl) ?_
                            refine jv_get (v := .ref mk) F hP 0 rfl flX5_44 rfl dX5_learn_284 ?_
                            refine lv_aload_n hx hb dX5_learn_287 rfl (lv_at hl 4 rfl) ?_
                            refine jv_get (v := .int (jI n5)) F hP 0 rfl flX5_72 rfl dX5_learn_288 ?_
                            refine lv_iload_n hx hb dX5_learn_291 rfl (lv_at hl 1 rfl) ?_
                            refine jv_iast (fa := k5) F hP hD hS 6 rfl (by omega) (by decide) dX5_learn_292 (fun H locs hP hD hS => ?_)
                            have hP : va_P D cls [(mo, .inr (5, [.ref ml, .ref mn, .int (jI K), .int (jI g), .int (jI ga), .int (jI lo), .int (jI gp), .int (jI li), .ref mf, .ref mt, .ref mw, .int (jI fo1), .ref mk, .int (jI n5), .int (jI b3), .int (jI 1), .ref mz, .int (jI rd), .int (jI ep), .int (jI eq), .int (jI al), .int (jI fa)])), (ml, .inl (cA, 96, .inl (jA M))), (mn, .inl (cA, 2, .inl (jA N))), (mf, .inl (cA, 2304, .inl (jA f1))), (mt, .inl (cA, 2304, .inl (jA s1))), (mw, .inl (cA, 2304, .inl (jA w3))), (mk, .inl (cA, 48, .inl (jA (jU k5 n5 b5))))] H := hP
                            have hD : va_D A [(mo, .inr (5, [.ref ml, .ref mn, .int (jI K), .int (jI g), .int (jI ga), .int (jI lo), .int (jI gp), .int (jI li), .ref mf, .ref mt, .ref mw, .int (jI fo1), .ref mk, .int (jI n5), .int (jI b3), .int (jI 1), .ref mz, .int (jI rd), .int (jI ep), .int (jI eq), .int (jI al), .int (jI fa)])), (ml, .inl (cA, 96, .inl (jA M))), (mn, .inl (cA, 2, .inl (jA N))), (mf, .inl (cA, 2304, .inl (jA f1))), (mt, .inl (cA, 2304, .inl (jA s1))), (mw, .inl (cA, 2304, .inl (jA w3))), (mk, .inl (cA, 48, .inl (jA (jU k5 n5 b5))))] := hD
                            refine lv_aload_n hx hb dX5_learn_293 rfl (lv_at hl 4 rfl) ?_
                            refine lv_dup hx hb dX5_learn_294 rfl ?_
                            refine jv_get (v := .int (jI n5)) F hP 0 rfl flX5_72 rfl dX5_learn_295 ?_
                            refine lv_iconst (v := jI 1) hx hb dX5_learn_298 rfl ?_
                            refine jv_iadd hx hb dX5_learn_299 ?_
                            refine jv_put (v := .int (jI (n5 + 1))) F hP hD hS 0 rfl flX5_72 pfX5 (by decide +kernel) rfl rfl (Nat.le_of_ble_eq_true rfl) dX5_learn_300 (fun H locs hP hD hS => ?_)
                            have hP : va_P D cls [(mo, .inr (5, [.ref ml, .ref mn, .int (jI K), .int (jI g), .int (jI ga), .int (jI lo), .int (jI gp), .int (jI li), .ref mf, .ref mt, .ref mw, .int (jI fo1), .ref mk, .int (jI (n5 + 1)), .int (jI b3), .int (jI 1), .ref mz, .int (jI rd), .int (jI ep), .int (jI eq), .int (jI al), .int (jI fa)])), (ml, .inl (cA, 96, .inl (jA M))), (mn, .inl (cA, 2, .inl (jA N))), (mf, .inl (cA, 2304, .inl (jA f1))), (mt, .inl (cA, 2304, .inl (jA s1))), (mw, .inl (cA, 2304, .inl (jA w3))), (mk, .inl (cA, 48, .inl (jA (jU k5 n5 b5))))] H := hP
                            have hD : va_D A [(mo, .inr (5, [.ref ml, .ref mn, .int (jI K), .int (jI g), .int (jI ga), .int (jI lo), .int (jI gp), .int (jI li), .ref mf, .ref mt, .ref mw, .int (jI fo1), .ref mk, .int (jI (n5 + 1)), .int (jI b3), .int (jI 1), .ref mz, .int (jI rd), .int (jI ep), .int (jI eq), .int (jI al), .int (jI fa)])), (ml, .inl (cA, 96, .inl (jA M))), (mn, .inl (cA, 2, .inl (jA N))), (mf, .inl (cA, 2304, .inl (jA f1))), (mt, .inl (cA, 2304, .inl (jA s1))), (mw, .inl (cA, 2304, .inl (jA w3))), (mk, .inl (cA, 48, .inl (jA (jU k5 n5 b5))))] := hD
                            refine lv_aload_n hx hb dX5_learn_303 rfl (lv_at hl 4 rfl) ?_
                            refine jv_get (v := .ref mw) F hP 0 rfl flX5_41 rfl dX5_learn_304 ?_
                            refine lv_iload_n hx hb dX5_learn_307 rfl (lv_at hl 1 rfl) ?_
                            refine jv_iald (fa := w3) F hP 5 rfl (by omega) (by decide) dX5_learn_308 ?_
                            refine lv_bipush (v := jI 10) hx hb dX5_learn_309 (by decide +kernel) ?_
                            refine lv_aload_n hx hb dX5_learn_311 rfl (lv_at hl 4 rfl) ?_
                            refine jv_get (v := .int (jI K)) F hP 0 rfl flX5_16 rfl dX5_learn_312 ?_
                            refine jv_imul hx hb dX5_learn_315 ?_
                            refine jv_isub hx hb dX5_learn_316 ?_
                            refine lv_istore_n (lv' := [(1, .int (jI ((w3 b5) - (10 * K)))), (4, .int (jI (btw f1 s1 K la b5))), (3, .int (jI b5)), (2, .int (jI la)), (0, .ref mo)]) hx hb dX5_learn_317 rfl hl (by decide) rfl (fun ls hl => ?_)
                            refine lv_iload_n hx hb dX5_learn_318 rfl (lv_at hl 2 rfl) ?_
                            refine lv_istore_n (lv' := [(2, .int (jI b5)), (1, .int (jI ((w3 b5) - (10 * K)))), (4, .int (jI (btw f1 s1 K la b5))), (3, .int (jI b5)), (0, .ref mo)]) hx hb dX5_learn_319 rfl hl (by decide) rfl (fun ls hl => ?_)
                            refine lv_iinc (k := 3) (v := jI (b5 + 1)) (lv' := [(3, .int (jI (b5 + 1))), (2, .int (jI b5)), (1, .int (jI ((w3 b5) - (10 * K)))), (4, .int (jI (btw f1 s1 K la b5))), (0, .ref mo)]) hx hb dX5_learn_320 hl rfl (jI_add _ _) (by decide) rfl (fun ls hl => ?_)
                            refine lv_goto (tgt := 240) hx hb dX5_learn_323 rfl ?_
                            refine ih240 ((w3 b5) - (10 * K)) b5 (b5 + 1) (n5 + 1) (jU k5 n5 b5) ls H locs (by omega) ?_ ?_ ?_ ?_ ?_ ?_ ?_ ?_ (lv_sub hl [0, 1, 2, 4] rfl) hP hD hS
                            · omega
                            · omega
                            · omega
                            · omega
                            · first
                                | exact hch
                                | exact chp_push anc_in hK.1 hch hnx (fun q hq => by show f1 (jU k5 n5 b5 q) = f1 (k5 q); rw [jU_n hq]) (fun q hq => by show s1 (jU k5 n5 b5 q) = s1 (k5 q); rw [jU_n hq]) (by show f1 (jU k5 n5 b5 n5) = f1 b5; rw [jU_s]) (by show s1 (jU k5 n5 b5 n5) = s1 b5; rw [jU_s])
                            · first
                                | exact ⟨by omega, fun h5 => by omega, fun _ => ⟨by omega, by omega, rfl, fun q q0 q1 _ => by omega⟩⟩
                                | exact srch_no hsr (fun h5 h6 => c280 (by have := (hsr.2.1 h5).2.1; omega)) (fun h5 => by omega)
                                | exact srch_no hsr (fun h5 => by omega) (fun _ _ h6 => c280 h6)
                                | exact srch_no hsr (fun h5 => by omega) (fun _ h6 => by omega)
                            · intro h5
                              first
                                | exact hlk h5
                                | rw [show n5 + 1 - 1 = n5 by omega, jU_s]
                            · first
                                | exact hkk
                                | (intro q q0 q1
                                   by_cases e : q = n5
                                   · rw [e, jU_s]; omega
                                   · rw [jU_n e]; exact hkk q q0 (by omega))
                      · have hn5z : n5 = 0 := by
                          by_cases h5 : 0 < n5
                          · have := hla1 h5; omega
                          · omega
                        refine lv_iconst (v := jI 0) hx hb dX5_learn_248 rfl ?_
                        refine lv_goto (tgt := 258) hx hb dX5_learn_249 rfl ?_
                        refine lv_istore (lv' := [(4, .int (jI 0)), (3, .int (jI b5)), (2, .int (jI la)), (1, .int (jI le)), (0, .ref mo)]) hx hb dX5_learn_258 hl (by decide) rfl (fun ls hl => ?_)
                        refine lv_iload hx hb dX5_learn_260 (lv_at hl 0 rfl) ?_
                        refine jv_if_lt (tgt := 320) hx hb dX5_learn_262 rfl (by omega) (fun c262 => ?_) (fun c262 => ?_)
                        · exfalso
                          omega
                        · have hwq := hwb0 b5 (by omega) hlt
                          refine lv_aload_n hx hb dX5_learn_265 rfl (lv_at hl 4 rfl) ?_
                          refine jv_get (v := .ref mw) F hP 0 rfl flX5_41 rfl dX5_learn_266 ?_
                          refine lv_iload_n hx hb dX5_learn_269 rfl (lv_at hl 1 rfl) ?_
                          refine jv_iald (fa := w3) F hP 5 rfl (by omega) (by decide) dX5_learn_270 ?_
                          refine lv_aload_n hx hb dX5_learn_271 rfl (lv_at hl 4 rfl) ?_
                          refine jv_get (v := .int (jI g)) F hP 0 rfl flX5_20 rfl dX5_learn_272 ?_
                          refine lv_iload hx hb dX5_learn_275 (lv_at hl 0 rfl) ?_
                          refine jv_imul hx hb dX5_learn_277 ?_
                          refine jv_isub hx hb dX5_learn_278 ?_
                          refine lv_iload_n hx hb dX5_learn_279 rfl (lv_at hl 3 rfl) ?_
                          refine jv_icmp_ne (tgt := 320) hx hb dX5_learn_280 rfl (by omega) (by omega) (fun c280 => ?_) (fun c280 => ?_)
                          · refine lv_iinc (k := 1) (v := jI (b5 + 1)) (lv' := [(3, .int (jI (b5 + 1))), (4, .int (jI 0)), (2, .int (jI la)), (1, .int (jI le)), (0, .ref mo)]) hx hb dX5_learn_320 hl rfl (jI_add _ _) (by decide) rfl (fun ls hl => ?_)
                            refine lv_goto (tgt := 240) hx hb dX5_learn_323 rfl ?_
                            refine ih240 le la (b5 + 1) n5 k5 ls H locs (by omega) ?_ ?_ ?_ ?_ ?_ ?_ ?_ ?_ (lv_sub hl [0, 2, 3, 4] rfl) hP hD hS
                            · omega
                            · omega
                            · omega
                            · omega
                            · first
                                | exact hch
                                | exact chp_push anc_in hK.1 hch hnx (fun q hq => by show f1 (jU k5 n5 b5 q) = f1 (k5 q); rw [jU_n hq]) (fun q hq => by show s1 (jU k5 n5 b5 q) = s1 (k5 q); rw [jU_n hq]) (by show f1 (jU k5 n5 b5 n5) = f1 b5; rw [jU_s]) (by show s1 (jU k5 n5 b5 n5) = s1 b5; rw [jU_s])
                            · first
                                | exact ⟨by omega, fun h5 => by omega, fun _ => ⟨by omega, by omega, rfl, fun q q0 q1 _ => by omega⟩⟩
                                | exact srch_no hsr (fun h5 h6 => c280 (by have := (hsr.2.1 h5).2.1; omega)) (fun h5 => by omega)
                                | exact srch_no hsr (fun h5 => by omega) (fun _ _ h6 => c280 h6)
                                | exact srch_no hsr (fun h5 => by omega) (fun _ h6 => by omega)
                            · intro h5
                              first
                                | exact hlk h5
                                | rw [show n5 + 1 - 1 = n5 by omega, jU_s]
                            · first
                                | exact hkk
                                | (intro q q0 q1
                                   by_cases e : q = n5
                                   · rw [e, jU_s]; omega
                                   · rw [jU_n e]; exact hkk q q0 (by omega))
                          · have hnx : nxl (anc L0 L1 n0 n1 K) (wI (anc L0 L1 n0 n1 K) n1 w3) K g b3 n5 (fun q => f1 (k5 q)) (fun q => s1 (k5 q)) (f1 b5) (s1 b5) := srch_yes anc_in hK.1 hn0 hn1.2 hT hsr hlt (by omega) hlk hla.2 (fun h5 => by have := (hsr.2.1 h5).2.1; omega) (fun h5 => ⟨by omega, by omega⟩)
                            have hnb := nxl_b anc_in hK.1 hn0.2 hch hnx
                            refine lv_aload_n hx hb dX5_learn_283 rfl (lv_at hl 4 rfl) ?_
                            refine jv_get (v := .ref mk) F hP 0 rfl flX5_44 rfl dX5_learn_284 ?_
                            refine lv_aload_n hx hb dX5_learn_287 rfl (lv_at hl 4 rfl) ?_
                            refine jv_get (v := .int (jI n5)) F hP 0 rfl flX5_72 rfl dX5_learn_288 ?_
                            refine lv_iload_n hx hb dX5_learn_291 rfl (lv_at hl 1 rfl) ?_
                            refine jv_iast (fa := k5) F hP hD hS 6 rfl (by omega) (by decide) dX5_learn_292 (fun H locs hP hD hS => ?_)
                            have hP : va_P D cls [(mo, .inr (5, [.ref ml, .ref mn, .int (jI K), .int (jI g), .int (jI ga), .int (jI lo), .int (jI gp), .int (jI li), .ref mf, .ref mt, .ref mw, .int (jI fo1), .ref mk, .int (jI n5), .int (jI b3), .int (jI 1), .ref mz, .int (jI rd), .int (jI ep), .int (jI eq), .int (jI al), .int (jI fa)])), (ml, .inl (cA, 96, .inl (jA M))), (mn, .inl (cA, 2, .inl (jA N))), (mf, .inl (cA, 2304, .inl (jA f1))), (mt, .inl (cA, 2304, .inl (jA s1))), (mw, .inl (cA, 2304, .inl (jA w3))), (mk, .inl (cA, 48, .inl (jA (jU k5 n5 b5))))] H := hP
                            have hD : va_D A [(mo, .inr (5, [.ref ml, .ref mn, .int (jI K), .int (jI g), .int (jI ga), .int (jI lo), .int (jI gp), .int (jI li), .ref mf, .ref mt, .ref mw, .int (jI fo1), .ref mk, .int (jI n5), .int (jI b3), .int (jI 1), .ref mz, .int (jI rd), .int (jI ep), .int (jI eq), .int (jI al), .int (jI fa)])), (ml, .inl (cA, 96, .inl (jA M))), (mn, .inl (cA, 2, .inl (jA N))), (mf, .inl (cA, 2304, .inl (jA f1))), (mt, .inl (cA, 2304, .inl (jA s1))), (mw, .inl (cA, 2304, .inl (jA w3))), (mk, .inl (cA, 48, .inl (jA (jU k5 n5 b5))))] := hD
                            refine lv_aload_n hx hb dX5_learn_293 rfl (lv_at hl 4 rfl) ?_
                            refine lv_dup hx hb dX5_learn_294 rfl ?_
                            refine jv_get (v := .int (jI n5)) F hP 0 rfl flX5_72 rfl dX5_learn_295 ?_
                            refine lv_iconst (v := jI 1) hx hb dX5_learn_298 rfl ?_
                            refine jv_iadd hx hb dX5_learn_299 ?_
                            refine jv_put (v := .int (jI (n5 + 1))) F hP hD hS 0 rfl flX5_72 pfX5 (by decide +kernel) rfl rfl (Nat.le_of_ble_eq_true rfl) dX5_learn_300 (fun H locs hP hD hS => ?_)
                            have hP : va_P D cls [(mo, .inr (5, [.ref ml, .ref mn, .int (jI K), .int (jI g), .int (jI ga), .int (jI lo), .int (jI gp), .int (jI li), .ref mf, .ref mt, .ref mw, .int (jI fo1), .ref mk, .int (jI (n5 + 1)), .int (jI b3), .int (jI 1), .ref mz, .int (jI rd), .int (jI ep), .int (jI eq), .int (jI al), .int (jI fa)])), (ml, .inl (cA, 96, .inl (jA M))), (mn, .inl (cA, 2, .inl (jA N))), (mf, .inl (cA, 2304, .inl (jA f1))), (mt, .inl (cA, 2304, .inl (jA s1))), (mw, .inl (cA, 2304, .inl (jA w3))), (mk, .inl (cA, 48, .inl (jA (jU k5 n5 b5))))] H := hP
                            have hD : va_D A [(mo, .inr (5, [.ref ml, .ref mn, .int (jI K), .int (jI g), .int (jI ga), .int (jI lo), .int (jI gp), .int (jI li), .ref mf, .ref mt, .ref mw, .int (jI fo1), .ref mk, .int (jI (n5 + 1)), .int (jI b3), .int (jI 1), .ref mz, .int (jI rd), .int (jI ep), .int (jI eq), .int (jI al), .int (jI fa)])), (ml, .inl (cA, 96, .inl (jA M))), (mn, .inl (cA, 2, .inl (jA N))), (mf, .inl (cA, 2304, .inl (jA f1))), (mt, .inl (cA, 2304, .inl (jA s1))), (mw, .inl (cA, 2304, .inl (jA w3))), (mk, .inl (cA, 48, .inl (jA (jU k5 n5 b5))))] := hD
                            refine lv_aload_n hx hb dX5_learn_303 rfl (lv_at hl 4 rfl) ?_
                            refine jv_get (v := .ref mw) F hP 0 rfl flX5_41 rfl dX5_learn_304 ?_
                            refine lv_iload_n hx hb dX5_learn_307 rfl (lv_at hl 1 rfl) ?_
                            refine jv_iald (fa := w3) F hP 5 rfl (by omega) (by decide) dX5_learn_308 ?_
                            refine lv_bipush (v := jI 10) hx hb dX5_learn_309 (by decide +kernel) ?_
                            refine lv_aload_n hx hb dX5_learn_311 rfl (lv_at hl 4 rfl) ?_
                            refine jv_get (v := .int (jI K)) F hP 0 rfl flX5_16 rfl dX5_learn_312 ?_
                            refine jv_imul hx hb dX5_learn_315 ?_
                            refine jv_isub hx hb dX5_learn_316 ?_
                            refine lv_istore_n (lv' := [(1, .int (jI ((w3 b5) - (10 * K)))), (4, .int (jI 0)), (3, .int (jI b5)), (2, .int (jI la)), (0, .ref mo)]) hx hb dX5_learn_317 rfl hl (by decide) rfl (fun ls hl => ?_)
                            refine lv_iload_n hx hb dX5_learn_318 rfl (lv_at hl 2 rfl) ?_
                            refine lv_istore_n (lv' := [(2, .int (jI b5)), (1, .int (jI ((w3 b5) - (10 * K)))), (4, .int (jI 0)), (3, .int (jI b5)), (0, .ref mo)]) hx hb dX5_learn_319 rfl hl (by decide) rfl (fun ls hl => ?_)
                            refine lv_iinc (k := 3) (v := jI (b5 + 1)) (lv' := [(3, .int (jI (b5 + 1))), (2, .int (jI b5)), (1, .int (jI ((w3 b5) - (10 * K)))), (4, .int (jI 0)), (0, .ref mo)]) hx hb dX5_learn_320 hl rfl (jI_add _ _) (by decide) rfl (fun ls hl => ?_)
                            refine lv_goto (tgt := 240) hx hb dX5_learn_323 rfl ?_
                            refine ih240 ((w3 b5) - (10 * K)) b5 (b5 + 1) (n5 + 1) (jU k5 n5 b5) ls H locs (by omega) ?_ ?_ ?_ ?_ ?_ ?_ ?_ ?_ (lv_sub hl [0, 1, 2, 4] rfl) hP hD hS
                            · omega
                            · omega
                            · omega
                            · omega
                            · first
                                | exact hch
                                | exact chp_push anc_in hK.1 hch hnx (fun q hq => by show f1 (jU k5 n5 b5 q) = f1 (k5 q); rw [jU_n hq]) (fun q hq => by show s1 (jU k5 n5 b5 q) = s1 (k5 q); rw [jU_n hq]) (by show f1 (jU k5 n5 b5 n5) = f1 b5; rw [jU_s]) (by show s1 (jU k5 n5 b5 n5) = s1 b5; rw [jU_s])
                            · first
                                | exact ⟨by omega, fun h5 => by omega, fun _ => ⟨by omega, by omega, rfl, fun q q0 q1 _ => by omega⟩⟩
                                | exact srch_no hsr (fun h5 h6 => c280 (by have := (hsr.2.1 h5).2.1; omega)) (fun h5 => by omega)
                                | exact srch_no hsr (fun h5 => by omega) (fun _ _ h6 => c280 h6)
                                | exact srch_no hsr (fun h5 => by omega) (fun _ h6 => by omega)
                            · intro h5
                              first
                                | exact hlk h5
                                | rw [show n5 + 1 - 1 = n5 by omega, jU_s]
                            · first
                                | exact hkk
                                | (intro q q0 q1
                                   by_cases e : q = n5
                                   · rw [e, jU_s]; omega
                                   · rw [jU_n e]; exact hkk q q0 (by omega))
                refine lp240 (Int.toNat (fo1 - 0) + 1) b3 (-1) 0 0 lk ls H locs (by omega) ?_ ?_ ?_ ?_ ?_ ?_ ?_ ?_ (lv_sub hl [0, 1, 2, 3] rfl) hP hD hS
                · omega
                · omega
                · omega
                · omega
                · exact chp_0
                · exact ⟨Int.le_refl _, fun _ => ⟨rfl, rfl, fun q q0 q1 => by omega⟩, fun h5 => by omega⟩
                · intro h5; omega
                · intro q q0 q1; omega
              · have gaa := anc_in _ _ (tbb.2.2 a (by omega) (by omega)).1
                refine lv_iconst (v := jI 0) hx hb dX5_learn_109 rfl ?_
                refine lv_istore_n (lv' := [(2, .int (jI 0)), (1, .int (jI a)), (0, .ref mo)]) hx hb dX5_learn_110 rfl hl (by decide) rfl (fun ls hl => ?_)
                refine lv_iload_n hx hb dX5_learn_111 rfl (lv_at hl 1 rfl) ?_
                refine lv_iconst (v := jI 1) hx hb dX5_learn_112 rfl ?_
                refine jv_iadd hx hb dX5_learn_113 ?_
                refine lv_istore_n (lv' := [(3, .int (jI (a + 1))), (2, .int (jI 0)), (1, .int (jI a)), (0, .ref mo)]) hx hb dX5_learn_114 rfl hl (by decide) rfl (fun ls hl => ?_)
                have lp115 : ∀ (fu : Nat) (mr : Int) (b : Int) (ls : Array Slot) (H : Heap) (locs : List Loc), fo1 - b < (fu : Int) → (a < b ∧ b ≤ fo1) → (0 ≤ mr ∧ mr ≤ 10 * (n0 - f1 a - K)) → (moreIx f1 s1 w3 K g a b mr) → lv_has ls 6 [(3, .int (jI b)), (2, .int (jI mr)), (1, .int (jI a)), (0, .ref mo)] → va_P D cls [(mo, .inr (5, [.ref ml, .ref mn, .int (jI K), .int (jI g), .int (jI ga), .int (jI lo), .int (jI gp), .int (jI li), .ref mf, .ref mt, .ref mw, .int (jI fo1), .ref mk, .int (jI ln), .int (jI b3), .int (jI 1), .ref mz, .int (jI rd), .int (jI ep), .int (jI eq), .int (jI al), .int (jI fa)])), (ml, .inl (cA, 96, .inl (jA M))), (mn, .inl (cA, 2, .inl (jA N))), (mf, .inl (cA, 2304, .inl (jA f1))), (mt, .inl (cA, 2304, .inl (jA s1))), (mw, .inl (cA, 2304, .inl (jA w3))), (mk, .inl (cA, 48, .inl (jA lk)))] H → va_D A [(mo, .inr (5, [.ref ml, .ref mn, .int (jI K), .int (jI g), .int (jI ga), .int (jI lo), .int (jI gp), .int (jI li), .ref mf, .ref mt, .ref mw, .int (jI fo1), .ref mk, .int (jI ln), .int (jI b3), .int (jI 1), .ref mz, .int (jI rd), .int (jI ep), .int (jI eq), .int (jI al), .int (jI fa)])), (ml, .inl (cA, 96, .inl (jA M))), (mn, .inl (cA, 2, .inl (jA N))), (mf, .inl (cA, 2304, .inl (jA f1))), (mt, .inl (cA, 2304, .inl (jA s1))), (mw, .inl (cA, 2304, .inl (jA w3))), (mk, .inl (cA, 48, .inl (jA lk)))] → va_S A s.heap H locs → W p l e (rmk 1 0 0 24) s m args below meth c H locs 0 0 Q (F0 m 115 ls []) := by
                  intro fu
                  induction fu with
                  | zero => intro mr b ls H locs hfu hb9 hm0 hmo hl hP hD hS; exfalso; omega
                  | succ fu ih115 =>
                    intro mr b ls H locs hfu hb9 hm0 hmo hl hP hD hS
                    refine lv_iload_n hx hb dX5_learn_115 rfl (lv_at hl 0 rfl) ?_
                    refine lv_aload_n hx hb dX5_learn_116 rfl (lv_at hl 3 rfl) ?_
                    refine jv_get (v := .int (jI fo1)) F hP 0 rfl flX5_58 rfl dX5_learn_117 ?_
                    refine jv_icmp_ge (tgt := 175) hx hb dX5_learn_120 rfl (by omega) (by omega) (fun c120 => ?_) (fun c120 => ?_)
                    · refine lv_aload_n hx hb dX5_learn_175 rfl (lv_at hl 3 rfl) ?_
                      refine jv_get (v := .ref mw) F hP 0 rfl flX5_41 rfl dX5_learn_176 ?_
                      refine lv_iload_n hx hb dX5_learn_179 rfl (lv_at hl 2 rfl) ?_
                      refine lv_bipush (v := jI 10) hx hb dX5_learn_180 (by decide +kernel) ?_
                      refine lv_aload_n hx hb dX5_learn_182 rfl (lv_at hl 3 rfl) ?_
                      refine jv_get (v := .int (jI K)) F hP 0 rfl flX5_16 rfl dX5_learn_183 ?_
                      refine jv_imul hx hb dX5_learn_186 ?_
                      refine lv_iload_n hx hb dX5_learn_187 rfl (lv_at hl 1 rfl) ?_
                      refine jv_iadd hx hb dX5_learn_188 ?_
                      refine jv_iast (fa := w3) F hP hD hS 5 rfl (by omega) (by decide) dX5_learn_189 (fun H locs hP hD hS => ?_)
                      have hP : va_P D cls [(mo, .inr (5, [.ref ml, .ref mn, .int (jI K), .int (jI g), .int (jI ga), .int (jI lo), .int (jI gp), .int (jI li), .ref mf, .ref mt, .ref mw, .int (jI fo1), .ref mk, .int (jI ln), .int (jI b3), .int (jI 1), .ref mz, .int (jI rd), .int (jI ep), .int (jI eq), .int (jI al), .int (jI fa)])), (ml, .inl (cA, 96, .inl (jA M))), (mn, .inl (cA, 2, .inl (jA N))), (mf, .inl (cA, 2304, .inl (jA f1))), (mt, .inl (cA, 2304, .inl (jA s1))), (mw, .inl (cA, 2304, .inl (jA (jU w3 a ((10 * K) + mr))))), (mk, .inl (cA, 48, .inl (jA lk)))] H := hP
                      have hD : va_D A [(mo, .inr (5, [.ref ml, .ref mn, .int (jI K), .int (jI g), .int (jI ga), .int (jI lo), .int (jI gp), .int (jI li), .ref mf, .ref mt, .ref mw, .int (jI fo1), .ref mk, .int (jI ln), .int (jI b3), .int (jI 1), .ref mz, .int (jI rd), .int (jI ep), .int (jI eq), .int (jI al), .int (jI fa)])), (ml, .inl (cA, 96, .inl (jA M))), (mn, .inl (cA, 2, .inl (jA N))), (mf, .inl (cA, 2304, .inl (jA f1))), (mt, .inl (cA, 2304, .inl (jA s1))), (mw, .inl (cA, 2304, .inl (jA (jU w3 a ((10 * K) + mr))))), (mk, .inl (cA, 48, .inl (jA lk)))] := hD
                      refine lv_aload_n hx hb dX5_learn_190 rfl (lv_at hl 3 rfl) ?_
                      refine lv_aload_n hx hb dX5_learn_191 rfl (lv_at hl 3 rfl) ?_
                      refine jv_get (v := .ref mw) F hP 0 rfl flX5_41 rfl dX5_learn_192 ?_
                      refine lv_iload_n hx hb dX5_learn_195 rfl (lv_at hl 2 rfl) ?_
                      refine jv_iald (fa := jU w3 a ((10 * K) + mr)) F hP 5 rfl (by omega) (by decide) dX5_learn_196 ?_
                      refine lv_aload_n hx hb dX5_learn_197 rfl (lv_at hl 3 rfl) ?_
                      refine jv_get (v := .int (jI b3)) F hP 0 rfl flX5_65 rfl dX5_learn_198 ?_
                      have hju : jU w3 a (10 * K + mr) a = 10 * K + mr := jU_s
                      refine jv_icmp_le (tgt := 213) hx hb dX5_learn_201 rfl (by omega) (by omega) (fun c201 => ?_) (fun c201 => ?_)
                      · refine lv_aload_n hx hb dX5_learn_213 rfl (lv_at hl 3 rfl) ?_
                        refine jv_get (v := .int (jI b3)) F hP 0 rfl flX5_65 rfl dX5_learn_214 ?_
                        refine jv_put (v := .int (jI b3)) F hP hD hS 0 rfl flX5_65 pfX5 (by decide +kernel) rfl rfl (Nat.le_of_ble_eq_true rfl) dX5_learn_217 (fun H locs hP hD hS => ?_)
                        have hP : va_P D cls [(mo, .inr (5, [.ref ml, .ref mn, .int (jI K), .int (jI g), .int (jI ga), .int (jI lo), .int (jI gp), .int (jI li), .ref mf, .ref mt, .ref mw, .int (jI fo1), .ref mk, .int (jI ln), .int (jI b3), .int (jI 1), .ref mz, .int (jI rd), .int (jI ep), .int (jI eq), .int (jI al), .int (jI fa)])), (ml, .inl (cA, 96, .inl (jA M))), (mn, .inl (cA, 2, .inl (jA N))), (mf, .inl (cA, 2304, .inl (jA f1))), (mt, .inl (cA, 2304, .inl (jA s1))), (mw, .inl (cA, 2304, .inl (jA (jU w3 a ((10 * K) + mr))))), (mk, .inl (cA, 48, .inl (jA lk)))] H := hP
                        have hD : va_D A [(mo, .inr (5, [.ref ml, .ref mn, .int (jI K), .int (jI g), .int (jI ga), .int (jI lo), .int (jI gp), .int (jI li), .ref mf, .ref mt, .ref mw, .int (jI fo1), .ref mk, .int (jI ln), .int (jI b3), .int (jI 1), .ref mz, .int (jI rd), .int (jI ep), .int (jI eq), .int (jI al), .int (jI fa)])), (ml, .inl (cA, 96, .inl (jA M))), (mn, .inl (cA, 2, .inl (jA N))), (mf, .inl (cA, 2304, .inl (jA f1))), (mt, .inl (cA, 2304, .inl (jA s1))), (mw, .inl (cA, 2304, .inl (jA (jU w3 a ((10 * K) + mr))))), (mk, .inl (cA, 48, .inl (jA lk)))] := hD
                        refine lv_iinc (k := 2) (v := jI (a + (-1))) (lv' := [(1, .int (jI (a + (-1)))), (3, .int (jI b)), (2, .int (jI mr)), (0, .ref mo)]) hx hb dX5_learn_220 hl rfl (jI_add _ _) (by decide) rfl (fun ls hl => ?_)
                        refine lv_goto (tgt := 105) hx hb dX5_learn_223 rfl ?_
                        refine ih105 (a + (-1)) b3 (jU w3 a ((10 * K) + mr)) ls H locs (by omega) ?_ ?_ ?_ ?_ (lv_sub hl [0, 3] rfl) hP hD hS
                        · omega
                        · omega
                        · intro q q0 q1
                          by_cases e : q = a
                          · rw [e, jU_s]
                            refine ⟨?_, by omega, by omega⟩
                            rw [show 10 * K + mr - 10 * K = mr by omega]
                            exact moreIx_upd (Int.le_refl _) (by rw [← show b = fo1 by omega]; exact hmo)
                          · obtain ⟨g1, g2, g3⟩ := hw3 q (by omega) q1
                            rw [jU_n e]
                            exact ⟨moreIx_upd (by omega) g1, g2, g3⟩
                        · rw [show a + -1 + 1 = a by omega]
                          exact topIx_s htop (by omega) (by omega) (by omega)
                      · refine lv_aload_n hx hb dX5_learn_204 rfl (lv_at hl 3 rfl) ?_
                        refine jv_get (v := .ref mw) F hP 0 rfl flX5_41 rfl dX5_learn_205 ?_
                        refine lv_iload_n hx hb dX5_learn_208 rfl (lv_at hl 2 rfl) ?_
                        refine jv_iald (fa := jU w3 a ((10 * K) + mr)) F hP 5 rfl (by omega) (by decide) dX5_learn_209 ?_
                        refine lv_goto (tgt := 217) hx hb dX5_learn_210 rfl ?_
                        refine jv_put (v := .int (jI ((jU w3 a ((10 * K) + mr)) a))) F hP hD hS 0 rfl flX5_65 pfX5 (by decide +kernel) rfl rfl (Nat.le_of_ble_eq_true rfl) dX5_learn_217 (fun H locs hP hD hS => ?_)
                        have hP : va_P D cls [(mo, .inr (5, [.ref ml, .ref mn, .int (jI K), .int (jI g), .int (jI ga), .int (jI lo), .int (jI gp), .int (jI li), .ref mf, .ref mt, .ref mw, .int (jI fo1), .ref mk, .int (jI ln), .int (jI ((jU w3 a ((10 * K) + mr)) a)), .int (jI 1), .ref mz, .int (jI rd), .int (jI ep), .int (jI eq), .int (jI al), .int (jI fa)])), (ml, .inl (cA, 96, .inl (jA M))), (mn, .inl (cA, 2, .inl (jA N))), (mf, .inl (cA, 2304, .inl (jA f1))), (mt, .inl (cA, 2304, .inl (jA s1))), (mw, .inl (cA, 2304, .inl (jA (jU w3 a ((10 * K) + mr))))), (mk, .inl (cA, 48, .inl (jA lk)))] H := hP
                        have hD : va_D A [(mo, .inr (5, [.ref ml, .ref mn, .int (jI K), .int (jI g), .int (jI ga), .int (jI lo), .int (jI gp), .int (jI li), .ref mf, .ref mt, .ref mw, .int (jI fo1), .ref mk, .int (jI ln), .int (jI ((jU w3 a ((10 * K) + mr)) a)), .int (jI 1), .ref mz, .int (jI rd), .int (jI ep), .int (jI eq), .int (jI al), .int (jI fa)])), (ml, .inl (cA, 96, .inl (jA M))), (mn, .inl (cA, 2, .inl (jA N))), (mf, .inl (cA, 2304, .inl (jA f1))), (mt, .inl (cA, 2304, .inl (jA s1))), (mw, .inl (cA, 2304, .inl (jA (jU w3 a ((10 * K) + mr))))), (mk, .inl (cA, 48, .inl (jA lk)))] := hD
                        refine lv_iinc (k := 2) (v := jI (a + (-1))) (lv' := [(1, .int (jI (a + (-1)))), (3, .int (jI b)), (2, .int (jI mr)), (0, .ref mo)]) hx hb dX5_learn_220 hl rfl (jI_add _ _) (by decide) rfl (fun ls hl => ?_)
                        refine lv_goto (tgt := 105) hx hb dX5_learn_223 rfl ?_
                        refine ih105 (a + (-1)) ((jU w3 a ((10 * K) + mr)) a) (jU w3 a ((10 * K) + mr)) ls H locs (by omega) ?_ ?_ ?_ ?_ (lv_sub hl [0, 3] rfl) hP hD hS
                        · omega
                        · omega
                        · intro q q0 q1
                          by_cases e : q = a
                          · rw [e, jU_s]
                            refine ⟨?_, by omega, by omega⟩
                            rw [show 10 * K + mr - 10 * K = mr by omega]
                            exact moreIx_upd (Int.le_refl _) (by rw [← show b = fo1 by omega]; exact hmo)
                          · obtain ⟨g1, g2, g3⟩ := hw3 q (by omega) q1
                            rw [jU_n e]
                            exact ⟨moreIx_upd (by omega) g1, g2, g3⟩
                        · rw [show a + -1 + 1 = a by omega]
                          exact topIx_s htop (by omega) (by omega) (by omega)
                    · refine lv_aload_n hx hb dX5_learn_123 rfl (lv_at hl 3 rfl) ?_
                      refine lv_iload_n hx hb dX5_learn_124 rfl (lv_at hl 2 rfl) ?_
                      refine lv_iload_n hx hb dX5_learn_125 rfl (lv_at hl 0 rfl) ?_
                      have ga126 := anc_in _ _ (tbb.2.2 a (by omega) (by omega)).1
                      have gb126 := anc_in _ _ (tbb.2.2 b (by omega) (by omega)).1
                      refine jr_V F (kX5_between l D cA mo ml mn mf mt mw mk mz K g ga lo gp li fo1 ln b3 1 rd ep eq al fa f1 s1 a b hK (by omega) (by omega) (by omega)) cvX5_68 hP [0, 3, 4] rfl 0 rfl rfl hl ⟨rfl, rfl, by decide, by decide⟩ rfl rfl (Nat.le_of_ble_eq_true rfl) dX5_learn_126 ⟨by decide, by decide⟩ (fun v hv => ?_)
                      subst hv
                      have hr126 := btw_r (f := f1) (s := s1) (K := K) (a := a) (b := b) (by omega) (by omega) (by omega) (by omega) (by omega)
                      refine lv_istore (lv' := [(4, .int (jI (btw f1 s1 K a b))), (3, .int (jI b)), (2, .int (jI mr)), (1, .int (jI a)), (0, .ref mo)]) hx hb dX5_learn_129 hl (by decide) rfl (fun ls hl => ?_)
                      refine lv_iload hx hb dX5_learn_131 (lv_at hl 0 rfl) ?_
                      refine jv_if_ge (tgt := 140) hx hb dX5_learn_133 rfl (by omega) (fun c133 => ?_) (fun c133 => ?_)
                      · have hwb := hw3 b (by omega) (by omega)
                        have hgb := gmul_b (g := g) (d := btw f1 s1 K a b) hg (by omega)
                        refine lv_aload_n hx hb dX5_learn_140 rfl (lv_at hl 4 rfl) ?_
                        refine jv_get (v := .ref mw) F hP 0 rfl flX5_41 rfl dX5_learn_141 ?_
                        refine lv_iload_n hx hb dX5_learn_144 rfl (lv_at hl 1 rfl) ?_
                        refine jv_iald (fa := w3) F hP 5 rfl (by omega) (by decide) dX5_learn_145 ?_
                        refine lv_aload_n hx hb dX5_learn_146 rfl (lv_at hl 4 rfl) ?_
                        refine jv_get (v := .int (jI g)) F hP 0 rfl flX5_20 rfl dX5_learn_147 ?_
                        refine lv_iload hx hb dX5_learn_150 (lv_at hl 0 rfl) ?_
                        refine jv_imul hx hb dX5_learn_152 ?_
                        refine jv_isub hx hb dX5_learn_153 ?_
                        refine lv_istore (lv' := [(5, .int (jI ((w3 b) - (g * (btw f1 s1 K a b))))), (4, .int (jI (btw f1 s1 K a b))), (3, .int (jI b)), (2, .int (jI mr)), (1, .int (jI a)), (0, .ref mo)]) hx hb dX5_learn_154 hl (by decide) rfl (fun ls hl => ?_)
                        refine lv_iload hx hb dX5_learn_156 (lv_at hl 0 rfl) ?_
                        refine lv_iload_n hx hb dX5_learn_158 rfl (lv_at hl 3 rfl) ?_
                        refine jv_icmp_le (tgt := 167) hx hb dX5_learn_159 rfl (by omega) (by omega) (fun c159 => ?_) (fun c159 => ?_)
                        · refine lv_iload_n hx hb dX5_learn_167 rfl (lv_at hl 3 rfl) ?_
                          refine lv_istore_n (lv' := [(2, .int (jI mr)), (5, .int (jI ((w3 b) - (g * (btw f1 s1 K a b))))), (4, .int (jI (btw f1 s1 K a b))), (3, .int (jI b)), (1, .int (jI a)), (0, .ref mo)]) hx hb dX5_learn_168 rfl hl (by decide) rfl (fun ls hl => ?_)
                          refine lv_iinc (k := 3) (v := jI (b + 1)) (lv' := [(3, .int (jI (b + 1))), (2, .int (jI mr)), (5, .int (jI ((w3 b) - (g * (btw f1 s1 K a b))))), (4, .int (jI (btw f1 s1 K a b))), (1, .int (jI a)), (0, .ref mo)]) hx hb dX5_learn_169 hl rfl (jI_add _ _) (by decide) rfl (fun ls hl => ?_)
                          refine lv_goto (tgt := 115) hx hb dX5_learn_172 rfl ?_
                          refine ih115 mr (b + 1) ls H locs (by omega) ?_ ?_ ?_ (lv_sub hl [0, 1, 4, 5] rfl) hP hD hS
                          · omega
                          · first
                              | omega
                              | (have h7 := btw_pos (show 0 ≤ btw f1 s1 K a b by omega); omega)
                          · exact moreIx_s (by omega) hmo (fun h5 => by omega) (fun h5 => by omega)
                        · refine lv_iload hx hb dX5_learn_162 (lv_at hl 0 rfl) ?_
                          refine lv_goto (tgt := 168) hx hb dX5_learn_164 rfl ?_
                          refine lv_istore_n (lv' := [(2, .int (jI ((w3 b) - (g * (btw f1 s1 K a b))))), (5, .int (jI ((w3 b) - (g * (btw f1 s1 K a b))))), (4, .int (jI (btw f1 s1 K a b))), (3, .int (jI b)), (1, .int (jI a)), (0, .ref mo)]) hx hb dX5_learn_168 rfl hl (by decide) rfl (fun ls hl => ?_)
                          refine lv_iinc (k := 3) (v := jI (b + 1)) (lv' := [(3, .int (jI (b + 1))), (2, .int (jI ((w3 b) - (g * (btw f1 s1 K a b))))), (5, .int (jI ((w3 b) - (g * (btw f1 s1 K a b))))), (4, .int (jI (btw f1 s1 K a b))), (1, .int (jI a)), (0, .ref mo)]) hx hb dX5_learn_169 hl rfl (jI_add _ _) (by decide) rfl (fun ls hl => ?_)
                          refine lv_goto (tgt := 115) hx hb dX5_learn_172 rfl ?_
                          refine ih115 ((w3 b) - (g * (btw f1 s1 K a b))) (b + 1) ls H locs (by omega) ?_ ?_ ?_ (lv_sub hl [0, 1, 4, 5] rfl) hP hD hS
                          · omega
                          · first
                              | omega
                              | (have h7 := btw_pos (show 0 ≤ btw f1 s1 K a b by omega); omega)
                          · exact moreIx_s (by omega) hmo (fun h5 => by omega) (fun h5 => by omega)
                      · refine lv_iconst (v := jI 0) hx hb dX5_learn_136 rfl ?_
                        refine lv_goto (tgt := 154) hx hb dX5_learn_137 rfl ?_
                        refine lv_istore (lv' := [(5, .int (jI 0)), (4, .int (jI (btw f1 s1 K a b))), (3, .int (jI b)), (2, .int (jI mr)), (1, .int (jI a)), (0, .ref mo)]) hx hb dX5_learn_154 hl (by decide) rfl (fun ls hl => ?_)
                        refine lv_iload hx hb dX5_learn_156 (lv_at hl 0 rfl) ?_
                        refine lv_iload_n hx hb dX5_learn_158 rfl (lv_at hl 3 rfl) ?_
                        refine jv_icmp_le (tgt := 167) hx hb dX5_learn_159 rfl (by omega) (by omega) (fun c159 => ?_) (fun c159 => ?_)
                        · refine lv_iload_n hx hb dX5_learn_167 rfl (lv_at hl 3 rfl) ?_
                          refine lv_istore_n (lv' := [(2, .int (jI mr)), (5, .int (jI 0)), (4, .int (jI (btw f1 s1 K a b))), (3, .int (jI b)), (1, .int (jI a)), (0, .ref mo)]) hx hb dX5_learn_168 rfl hl (by decide) rfl (fun ls hl => ?_)
                          refine lv_iinc (k := 3) (v := jI (b + 1)) (lv' := [(3, .int (jI (b + 1))), (2, .int (jI mr)), (5, .int (jI 0)), (4, .int (jI (btw f1 s1 K a b))), (1, .int (jI a)), (0, .ref mo)]) hx hb dX5_learn_169 hl rfl (jI_add _ _) (by decide) rfl (fun ls hl => ?_)
                          refine lv_goto (tgt := 115) hx hb dX5_learn_172 rfl ?_
                          refine ih115 mr (b + 1) ls H locs (by omega) ?_ ?_ ?_ (lv_sub hl [0, 1, 4, 5] rfl) hP hD hS
                          · omega
                          · first
                              | omega
                              | (have h7 := btw_pos (show 0 ≤ btw f1 s1 K a b by omega); omega)
                          · exact moreIx_s (by omega) hmo (fun h5 => by omega) (fun h5 => by omega)
                        · refine lv_iload hx hb dX5_learn_162 (lv_at hl 0 rfl) ?_
                          refine lv_goto (tgt := 168) hx hb dX5_learn_164 rfl ?_
                          refine lv_istore_n (lv' := [(2, .int (jI 0)), (5, .int (jI 0)), (4, .int (jI (btw f1 s1 K a b))), (3, .int (jI b)), (1, .int (jI a)), (0, .ref mo)]) hx hb dX5_learn_168 rfl hl (by decide) rfl (fun ls hl => ?_)
                          refine lv_iinc (k := 3) (v := jI (b + 1)) (lv' := [(3, .int (jI (b + 1))), (2, .int (jI 0)), (5, .int (jI 0)), (4, .int (jI (btw f1 s1 K a b))), (1, .int (jI a)), (0, .ref mo)]) hx hb dX5_learn_169 hl rfl (jI_add _ _) (by decide) rfl (fun ls hl => ?_)
                          refine lv_goto (tgt := 115) hx hb dX5_learn_172 rfl ?_
                          refine ih115 0 (b + 1) ls H locs (by omega) ?_ ?_ ?_ (lv_sub hl [0, 1, 4, 5] rfl) hP hD hS
                          · omega
                          · first
                              | omega
                              | (have h7 := btw_pos (show 0 ≤ btw f1 s1 K a b by omega); omega)
                          · exact moreIx_s (by omega) hmo (fun h5 => by omega) (fun h5 => by omega)
                refine lp115 (Int.toNat (fo1 - (a + 1)) + 1) 0 (a + 1) ls H locs (by omega) ?_ ?_ ?_ (lv_sub hl [0, 1, 2, 3] rfl) hP hD hS
                · omega
                · omega
                · exact moreIx_0
          refine lp105 (Int.toNat ((fo1 - 1) + 1) + 1) (fo1 - 1) 0 wf ls H locs (by omega) ?_ ?_ ?_ ?_ (lv_sub hl [0, 1] rfl) hP hD hS
          · omega
          · omega
          · intro q; omega
          · exact ⟨Int.le_refl _, fun q q0 q1 => by omega, Or.inl rfl⟩
        · refine lv_iconst (v := jI 0) hx hb dX5_learn_30 rfl ?_
          refine lv_istore_n (lv' := [(2, .int (jI 0)), (1, .int (jI i)), (0, .ref mo)]) hx hb dX5_learn_31 rfl hl (by decide) rfl (fun ls hl => ?_)
          have lp32 : ∀ (fu : Nat) (j : Int) (fo2 : Int) (f2 : Int → Int) (s2 : Int → Int) (ls : Array Slot) (H : Heap) (locs : List Loc), n1 - j < (fu : Int) → (0 ≤ j ∧ j ≤ n1) → (0 ≤ fo2 ∧ fo2 ≤ 48 * i + j) → (tabP (anc L0 L1 n0 n1 K) n1 i j f2 s2 fo2) → lv_has ls 6 [(2, .int (jI j)), (1, .int (jI i)), (0, .ref mo)] → va_P D cls [(mo, .inr (5, [.ref ml, .ref mn, .int (jI K), .int (jI g), .int (jI ga), .int (jI lo), .int (jI gp), .int (jI li), .ref mf, .ref mt, .ref mw, .int (jI fo2), .ref mk, .int (jI ln), .int (jI bs), .int (jI 1), .ref mz, .int (jI rd), .int (jI ep), .int (jI eq), .int (jI al), .int (jI fa)])), (ml, .inl (cA, 96, .inl (jA M))), (mn, .inl (cA, 2, .inl (jA N))), (mf, .inl (cA, 2304, .inl (jA f2))), (mt, .inl (cA, 2304, .inl (jA s2))), (mw, .inl (cA, 2304, .inl (jA wf))), (mk, .inl (cA, 48, .inl (jA lk)))] H → va_D A [(mo, .inr (5, [.ref ml, .ref mn, .int (jI K), .int (jI g), .int (jI ga), .int (jI lo), .int (jI gp), .int (jI li), .ref mf, .ref mt, .ref mw, .int (jI fo2), .ref mk, .int (jI ln), .int (jI bs), .int (jI 1), .ref mz, .int (jI rd), .int (jI ep), .int (jI eq), .int (jI al), .int (jI fa)])), (ml, .inl (cA, 96, .inl (jA M))), (mn, .inl (cA, 2, .inl (jA N))), (mf, .inl (cA, 2304, .inl (jA f2))), (mt, .inl (cA, 2304, .inl (jA s2))), (mw, .inl (cA, 2304, .inl (jA wf))), (mk, .inl (cA, 48, .inl (jA lk)))] → va_S A s.heap H locs → W p l e (rmk 1 0 0 24) s m args below meth c H locs 0 0 Q (F0 m 32 ls []) := by
            intro fu
            induction fu with
            | zero => intro j fo2 f2 s2 ls H locs hfu hj hfo2 ht2 hl hP hD hS; exfalso; omega
            | succ fu ih32 =>
              intro j fo2 f2 s2 ls H locs hfu hj hfo2 ht2 hl hP hD hS
              refine lv_iload_n hx hb dX5_learn_32 rfl (lv_at hl 0 rfl) ?_
              refine lv_aload_n hx hb dX5_learn_33 rfl (lv_at hl 2 rfl) ?_
              refine jv_get (v := .ref mn) F hP 0 rfl flX5_13 rfl dX5_learn_34 ?_
              refine lv_iconst (v := jI 1) hx hb dX5_learn_37 rfl ?_
              refine jv_iald (fa := N) F hP 2 rfl (by omega) (by decide) dX5_learn_38 ?_
              refine jv_icmp_ge (tgt := 87) hx hb dX5_learn_39 rfl (by omega) (by omega) (fun c39 => ?_) (fun c39 => ?_)
              · refine lv_iinc (k := 1) (v := jI (i + 1)) (lv' := [(1, .int (jI (i + 1))), (2, .int (jI j)), (0, .ref mo)]) hx hb dX5_learn_87 hl rfl (jI_add _ _) (by decide) rfl (fun ls hl => ?_)
                refine lv_goto (tgt := 20) hx hb dX5_learn_90 rfl ?_
                refine ih20 (i + 1) fo2 f2 s2 ls H locs (by omega) ?_ ?_ ?_ (lv_sub hl [0, 2] rfl) hP hD hS
                · omega
                · have h5 := (tabP_row anc_in hK.1 hi.1 (by omega : j = n1) ht2).1
                  have h6 := cnt_b (G := anc L0 L1 n0 n1 K) hn1.2 (i := i + 1) (j := 0) (by omega) (by omega)
                  omega
                · exact tabP_row anc_in hK.1 hi.1 (by omega) ht2
              · refine lv_aload_n hx hb dX5_learn_42 rfl (lv_at hl 2 rfl) ?_
                refine lv_iload_n hx hb dX5_learn_43 rfl (lv_at hl 1 rfl) ?_
                refine lv_iload_n hx hb dX5_learn_44 rfl (lv_at hl 0 rfl) ?_
                refine jr_V F (kX5_isAnchor l D cA mo ml mn mf mt mw mk mz K g ga lo gp li fo2 ln bs 1 rd ep eq al fa M N L0 L1 n0 n1 i j hn0 hn1 hL0 hL1 hN0 hN1 hM0 hM1 hK (by omega) (by omega)) cvX5_61 hP [0, 1, 2] rfl 0 rfl rfl hl ⟨rfl, rfl, by decide, by decide⟩ rfl rfl (Nat.le_of_ble_eq_true rfl) dX5_learn_45 ⟨by decide, by decide⟩ (fun v hv => ?_)
                subst hv
                have hb45 := jB_01 (anc L0 L1 n0 n1 K i j)
                refine jv_if_eq (tgt := 81) hx hb dX5_learn_48 rfl (by omega) (fun c48 => ?_) (fun c48 => ?_)
                · refine lv_iinc (k := 0) (v := jI (j + 1)) (lv' := [(2, .int (jI (j + 1))), (1, .int (jI i)), (0, .ref mo)]) hx hb dX5_learn_81 hl rfl (jI_add _ _) (by decide) rfl (fun ls hl => ?_)
                  refine lv_goto (tgt := 32) hx hb dX5_learn_84 rfl ?_
                  refine ih32 (j + 1) fo2 f2 s2 ls H locs (by omega) ?_ ?_ ?_ (lv_sub hl [0, 1, 2] rfl) hP hD hS
                  · omega
                  · omega
                  · first
                      | exact tabP_yes hj.1 ht2 (jB_1 c48)
                      | exact tabP_no hj.1 ht2 (jB_0 c48)
                · refine lv_aload_n hx hb dX5_learn_51 rfl (lv_at hl 2 rfl) ?_
                  refine jv_get (v := .ref mf) F hP 0 rfl flX5_35 rfl dX5_learn_52 ?_
                  refine lv_aload_n hx hb dX5_learn_55 rfl (lv_at hl 2 rfl) ?_
                  refine jv_get (v := .int (jI fo2)) F hP 0 rfl flX5_58 rfl dX5_learn_56 ?_
                  refine lv_iload_n hx hb dX5_learn_59 rfl (lv_at hl 1 rfl) ?_
                  refine jv_iast (fa := f2) F hP hD hS 3 rfl (by omega) (by decide) dX5_learn_60 (fun H locs hP hD hS => ?_)
                  have hP : va_P D cls [(mo, .inr (5, [.ref ml, .ref mn, .int (jI K), .int (jI g), .int (jI ga), .int (jI lo), .int (jI gp), .int (jI li), .ref mf, .ref mt, .ref mw, .int (jI fo2), .ref mk, .int (jI ln), .int (jI bs), .int (jI 1), .ref mz, .int (jI rd), .int (jI ep), .int (jI eq), .int (jI al), .int (jI fa)])), (ml, .inl (cA, 96, .inl (jA M))), (mn, .inl (cA, 2, .inl (jA N))), (mf, .inl (cA, 2304, .inl (jA (jU f2 fo2 i)))), (mt, .inl (cA, 2304, .inl (jA s2))), (mw, .inl (cA, 2304, .inl (jA wf))), (mk, .inl (cA, 48, .inl (jA lk)))] H := hP
                  have hD : va_D A [(mo, .inr (5, [.ref ml, .ref mn, .int (jI K), .int (jI g), .int (jI ga), .int (jI lo), .int (jI gp), .int (jI li), .ref mf, .ref mt, .ref mw, .int (jI fo2), .ref mk, .int (jI ln), .int (jI bs), .int (jI 1), .ref mz, .int (jI rd), .int (jI ep), .int (jI eq), .int (jI al), .int (jI fa)])), (ml, .inl (cA, 96, .inl (jA M))), (mn, .inl (cA, 2, .inl (jA N))), (mf, .inl (cA, 2304, .inl (jA (jU f2 fo2 i)))), (mt, .inl (cA, 2304, .inl (jA s2))), (mw, .inl (cA, 2304, .inl (jA wf))), (mk, .inl (cA, 48, .inl (jA lk)))] := hD
                  refine lv_aload_n hx hb dX5_learn_61 rfl (lv_at hl 2 rfl) ?_
                  refine jv_get (v := .ref mt) F hP 0 rfl flX5_38 rfl dX5_learn_62 ?_
                  refine lv_aload_n hx hb dX5_learn_65 rfl (lv_at hl 2 rfl) ?_
                  refine jv_get (v := .int (jI fo2)) F hP 0 rfl flX5_58 rfl dX5_learn_66 ?_
                  refine lv_iload_n hx hb dX5_learn_69 rfl (lv_at hl 0 rfl) ?_
                  refine jv_iast (fa := s2) F hP hD hS 4 rfl (by omega) (by decide) dX5_learn_70 (fun H locs hP hD hS => ?_)
                  have hP : va_P D cls [(mo, .inr (5, [.ref ml, .ref mn, .int (jI K), .int (jI g), .int (jI ga), .int (jI lo), .int (jI gp), .int (jI li), .ref mf, .ref mt, .ref mw, .int (jI fo2), .ref mk, .int (jI ln), .int (jI bs), .int (jI 1), .ref mz, .int (jI rd), .int (jI ep), .int (jI eq), .int (jI al), .int (jI fa)])), (ml, .inl (cA, 96, .inl (jA M))), (mn, .inl (cA, 2, .inl (jA N))), (mf, .inl (cA, 2304, .inl (jA (jU f2 fo2 i)))), (mt, .inl (cA, 2304, .inl (jA (jU s2 fo2 j)))), (mw, .inl (cA, 2304, .inl (jA wf))), (mk, .inl (cA, 48, .inl (jA lk)))] H := hP
                  have hD : va_D A [(mo, .inr (5, [.ref ml, .ref mn, .int (jI K), .int (jI g), .int (jI ga), .int (jI lo), .int (jI gp), .int (jI li), .ref mf, .ref mt, .ref mw, .int (jI fo2), .ref mk, .int (jI ln), .int (jI bs), .int (jI 1), .ref mz, .int (jI rd), .int (jI ep), .int (jI eq), .int (jI al), .int (jI fa)])), (ml, .inl (cA, 96, .inl (jA M))), (mn, .inl (cA, 2, .inl (jA N))), (mf, .inl (cA, 2304, .inl (jA (jU f2 fo2 i)))), (mt, .inl (cA, 2304, .inl (jA (jU s2 fo2 j)))), (mw, .inl (cA, 2304, .inl (jA wf))), (mk, .inl (cA, 48, .inl (jA lk)))] := hD
                  refine lv_aload_n hx hb dX5_learn_71 rfl (lv_at hl 2 rfl) ?_
                  refine lv_dup hx hb dX5_learn_72 rfl ?_
                  refine jv_get (v := .int (jI fo2)) F hP 0 rfl flX5_58 rfl dX5_learn_73 ?_
                  refine lv_iconst (v := jI 1) hx hb dX5_learn_76 rfl ?_
                  refine jv_iadd hx hb dX5_learn_77 ?_
                  refine jv_put (v := .int (jI (fo2 + 1))) F hP hD hS 0 rfl flX5_58 pfX5 (by decide +kernel) rfl rfl (Nat.le_of_ble_eq_true rfl) dX5_learn_78 (fun H locs hP hD hS => ?_)
                  have hP : va_P D cls [(mo, .inr (5, [.ref ml, .ref mn, .int (jI K), .int (jI g), .int (jI ga), .int (jI lo), .int (jI gp), .int (jI li), .ref mf, .ref mt, .ref mw, .int (jI (fo2 + 1)), .ref mk, .int (jI ln), .int (jI bs), .int (jI 1), .ref mz, .int (jI rd), .int (jI ep), .int (jI eq), .int (jI al), .int (jI fa)])), (ml, .inl (cA, 96, .inl (jA M))), (mn, .inl (cA, 2, .inl (jA N))), (mf, .inl (cA, 2304, .inl (jA (jU f2 fo2 i)))), (mt, .inl (cA, 2304, .inl (jA (jU s2 fo2 j)))), (mw, .inl (cA, 2304, .inl (jA wf))), (mk, .inl (cA, 48, .inl (jA lk)))] H := hP
                  have hD : va_D A [(mo, .inr (5, [.ref ml, .ref mn, .int (jI K), .int (jI g), .int (jI ga), .int (jI lo), .int (jI gp), .int (jI li), .ref mf, .ref mt, .ref mw, .int (jI (fo2 + 1)), .ref mk, .int (jI ln), .int (jI bs), .int (jI 1), .ref mz, .int (jI rd), .int (jI ep), .int (jI eq), .int (jI al), .int (jI fa)])), (ml, .inl (cA, 96, .inl (jA M))), (mn, .inl (cA, 2, .inl (jA N))), (mf, .inl (cA, 2304, .inl (jA (jU f2 fo2 i)))), (mt, .inl (cA, 2304, .inl (jA (jU s2 fo2 j)))), (mw, .inl (cA, 2304, .inl (jA wf))), (mk, .inl (cA, 48, .inl (jA lk)))] := hD
                  refine lv_iinc (k := 0) (v := jI (j + 1)) (lv' := [(2, .int (jI (j + 1))), (1, .int (jI i)), (0, .ref mo)]) hx hb dX5_learn_81 hl rfl (jI_add _ _) (by decide) rfl (fun ls hl => ?_)
                  refine lv_goto (tgt := 32) hx hb dX5_learn_84 rfl ?_
                  refine ih32 (j + 1) (fo2 + 1) (jU f2 fo2 i) (jU s2 fo2 j) ls H locs (by omega) ?_ ?_ ?_ (lv_sub hl [0, 1, 2] rfl) hP hD hS
                  · omega
                  · omega
                  · first
                      | exact tabP_yes hj.1 ht2 (jB_1 c48)
                      | exact tabP_no hj.1 ht2 (jB_0 c48)
          refine lp32 (Int.toNat (n1 - 0) + 1) 0 fo1 f1 s1 ls H locs (by omega) ?_ ?_ ?_ (lv_sub hl [0, 1, 2] rfl) hP hD hS
          · omega
          · omega
          · exact ht
    refine lp20 (Int.toNat (n0 - 0) + 1) 0 0 f sf ls H locs (by omega) ?_ ?_ ?_ (lv_sub hl [0, 1] rfl) hP hD hS
    · omega
    · omega
    · exact tabP_0 anc_in _ _
  · exfalso
    omega
set_option maxHeartbeats 4000000 in
set_option maxRecDepth 100000 in
theorem kX5_learn_1 (l : Launch) (D : va_G) (cA : ClassId) (mo ml mn mf mt mw mk mz : Nat) (K g ga lo gp li fo ln bs rd ep eq al fa : Int) (M N L0 L1 : Int → Int) (n0 n1 : Int) (f sf wf lk : Int → Int) (hn0 : 0 ≤ n0 ∧ n0 ≤ 48) (hn1 : 0 ≤ n1 ∧ n1 ≤ 48) (hL0 : ∀ x, 0 ≤ L0 x ∧ L0 x ≤ 3) (hL1 : ∀ x, 0 ≤ L1 x ∧ L1 x ≤ 3) (hN0 : N 0 = n0) (hN1 : N 1 = n1) (hM0 : ∀ x, 0 ≤ x → x < 48 → M x = L0 x) (hM1 : ∀ x, 0 ≤ x → x < 48 → M (48 + x) = L1 x) (hK : 1 ≤ K ∧ K ≤ 6) (hg : 0 ≤ g ∧ g ≤ 9) (hkn : knw (anc L0 L1 n0 n1 K) n0 n1 K g f sf fo lk ln bs) : jM l YX5_learn (rmk 1 0 0 24) D cA [.ref mo] [(mo, .inr (5, [.ref ml, .ref mn, .int (jI K), .int (jI g), .int (jI ga), .int (jI lo), .int (jI gp), .int (jI li), .ref mf, .ref mt, .ref mw, .int (jI fo), .ref mk, .int (jI ln), .int (jI bs), .int (jI 1), .ref mz, .int (jI rd), .int (jI ep), .int (jI eq), .int (jI al), .int (jI fa)])), (ml, .inl (cA, 96, .inl (jA M))), (mn, .inl (cA, 2, .inl (jA N))), (mf, .inl (cA, 2304, .inl (jA f))), (mt, .inl (cA, 2304, .inl (jA sf))), (mw, .inl (cA, 2304, .inl (jA wf))), (mk, .inl (cA, 48, .inl (jA lk)))] (fun v w => v = none ∧ ∃ (f2 s2 w2 k2 : Int → Int) (fo2 ln2 bs2 : Int), knw (anc L0 L1 n0 n1 K) n0 n1 K g f2 s2 fo2 k2 ln2 bs2 ∧ w = [(mo, .inr (5, [.ref ml, .ref mn, .int (jI K), .int (jI g), .int (jI ga), .int (jI lo), .int (jI gp), .int (jI li), .ref mf, .ref mt, .ref mw, .int (jI fo2), .ref mk, .int (jI ln2), .int (jI bs2), .int (jI 1), .ref mz, .int (jI rd), .int (jI ep), .int (jI eq), .int (jI al), .int (jI fa)])), (ml, .inl (cA, 96, .inl (jA M))), (mn, .inl (cA, 2, .inl (jA N))), (mf, .inl (cA, 2304, .inl (jA f2))), (mt, .inl (cA, 2304, .inl (jA s2))), (mw, .inl (cA, 2304, .inl (jA w2))), (mk, .inl (cA, 48, .inl (jA k2)))]) 0 0 := by
  refine jM.intro (by decide +kernel) (Nat.le_of_ble_eq_true rfl) ?_
  intro p e s m args below meth c ls Q A F hQ hA hP hD hS hl
  have hx := F.1
  have hb := F.2.1
  have hl : lv_has ls 6 [(0, .ref mo)] := hl
  refine lv_aload_n hx hb dX5_learn_0 rfl (lv_at hl 0 rfl) ?_
  refine jv_get (v := .int (jI 1)) F hP 0 rfl flX5_54 rfl dX5_learn_1 ?_
  refine jv_if_eq (tgt := 8) hx hb dX5_learn_4 rfl (by omega) (fun c4 => ?_) (fun c4 => ?_)
  · exfalso
    omega
  · exact jM.rv F hQ rfl dX5_learn_7 hS hP hD (by exact ⟨rfl, _, _, _, _, _, _, _, hkn, rfl⟩)
