set_option maxHeartbeats 4000000 in
set_option maxRecDepth 100000 in
theorem law_2 {p : Program} {e : Env} {s : State} {m : MethodId} {args : Array Value} {below : List Frame} {meth : Method} {c : Code} {Q : State → Prop} {D : va_G} {cA : ClassId} {A : Nat → Prop} {b L h4 mo : Nat} {xs : Nat → Int32} {i : Int} (l : Launch) (hL : L ≤ 2560) (F : jF p s m args meth c YL_law D cA) (hX : va_X b L xs s s.heap) (hbl : b < s.heap.size) (hbA : ¬ A b) (hA : ∀ q, s.heap.size ≤ q → A q) (hi : 0 ≤ i ∧ i + 5 ≤ (L : Int))
    (hJ : ∀ (ls : Array Slot) (H : Heap) (locs : List Loc) (wd : va_W), lv_has ls 4 [(3, .int (jI i)), (2, .ref mo), (1, .ref h4), (0, .ref b)] → Inv cA h4 mo wd → va_P D cls wd H → va_D A wd → va_S A s.heap H locs → W p l e room_1 s m args below meth c H locs 21 12203 Q (F0 m 449 ls []))
    (ls : Array Slot) (H : Heap) (locs : List Loc) (wd : va_W) (hl : lv_has ls 4 [(3, .int (jI i)), (2, .ref mo), (1, .ref h4), (0, .ref b)]) (hI : Inv cA h4 mo wd) (hP : va_P D cls wd H) (hD : va_D A wd) (hS : va_S A s.heap H locs) : W p l e room_1 s m args below meth c H locs 21 12203 Q (F0 m 156 ls []) := by
  have hx := F.1
  have hb := F.2.1
  obtain ⟨r0, a0, r1, a1, sp, be, ah, pa, re, t2, t1, t0, ml, mn, mf, mt, mw, mk, mz, n0, n1, K, g, fr, sz, to, ga, lo, gp, li, es, ep, eq, al, la, fo, ln, bs, kn, rd, me, mq, ma, mx, L0, L1, Ah, Pa, E2, E1, E0, M, N, f, sf, wf, lk, sc, rfl, hB, hfr, hkn, hrd⟩ := hI
  obtain ⟨hn0, hn1, hK, hg, hga, hlo, hgp, hli, hL0, hL1, hN0, hN1, hM0, hM1⟩ := id hB
  by_cases hr0 : zx xs (i + 1) = 0
  · refine lv_aload_n hx hb dL_law_156 rfl (lv_at hl 2 rfl) ?_
    refine lv_aload_n hx hb dL_law_157 rfl (lv_at hl 3 rfl) ?_
    refine lv_iload_n hx hb dL_law_158 rfl (lv_at hl 0 rfl) ?_
    refine lv_iconst (v := jI 1) hx hb dL_law_159 rfl ?_
    refine jv_iadd hx hb dL_law_160 ?_
    refine jv_sld F hX hbl hbA hS (by omega) (by omega) dL_law_161 ?_
    refine lv_aload_n hx hb dL_law_162 rfl (lv_at hl 3 rfl) ?_
    refine lv_iload_n hx hb dL_law_163 rfl (lv_at hl 0 rfl) ?_
    refine lv_iconst (v := jI 2) hx hb dL_law_164 rfl ?_
    refine jv_iadd hx hb dL_law_165 ?_
    refine jv_sld F hX hbl hbA hS (by omega) (by omega) dL_law_166 ?_
    rw [hr0]
    refine jr_V F (kX4_letter_0 l D cA h4 r0 r1 sp be re g fr a0 n0 L0 (zx xs (i + 2)) hn0 (zx_r _ _)) cvL_23 hP [0, 1, 2] rfl 0 rfl rfl hl ⟨rfl, rfl, by decide, by decide⟩ rfl rfl (Nat.le_of_ble_eq_true rfl) dL_law_167 ⟨by decide, by decide⟩ (fun v hv => ?_)
    subst hv
    refine lv_aload_n hx hb dL_law_170 rfl (lv_at hl 1 rfl) ?_
    refine lv_aload_n hx hb dL_law_171 rfl (lv_at hl 3 rfl) ?_
    refine lv_iload_n hx hb dL_law_172 rfl (lv_at hl 0 rfl) ?_
    refine lv_iconst (v := jI 1) hx hb dL_law_173 rfl ?_
    refine jv_iadd hx hb dL_law_174 ?_
    refine jv_sld F hX hbl hbA hS (by omega) (by omega) dL_law_175 ?_
    refine lv_aload_n hx hb dL_law_176 rfl (lv_at hl 3 rfl) ?_
    refine lv_iload_n hx hb dL_law_177 rfl (lv_at hl 0 rfl) ?_
    refine lv_iconst (v := jI 2) hx hb dL_law_178 rfl ?_
    refine jv_iadd hx hb dL_law_179 ?_
    refine jv_sld F hX hbl hbA hS (by omega) (by omega) dL_law_180 ?_
    rw [hr0]
    refine jr_V F (kX5_letter_0 l D cA mo ml mn mf mt mw mk mz K g ga lo gp li fo ln bs kn rd me mq ma mx M N (zx xs (i + 2)) (by omega) (zx_r _ _)) cvL_26 hP [13, 14, 15] rfl 13 rfl rfl hl ⟨rfl, rfl, by decide, by decide⟩ rfl rfl (Nat.le_of_ble_eq_true rfl) dL_law_181 ⟨by decide, by decide⟩ (fun v hv => ?_)
    subst hv
    refine jv_same (tgt := 449) hx hb dL_law_184 rfl (by exact eq_let0 hB _) ?_
    exact hJ ls H locs _ (lv_sub hl [0, 1, 2, 3] rfl) (Inv.mk hB hfr hkn hrd) (hP.sub (ws' := [(h4, .inr (4, [.ref r0, .ref r1, .ref sp, .ref be, .ref re, .int (jI g), .int (jI fr)])), (r0, .inr (1, [.ref a0, .int (jI n0)])), (a0, .inl (cA, 48, .inl (jA L0))), (r1, .inr (1, [.ref a1, .int (jI n1)])), (a1, .inl (cA, 48, .inl (jA L1))), (sp, .inr (3, [.ref r0, .ref r1, .int (jI K)])), (be, .inr (0, [.ref ah, .ref pa, .int (jI sz), .int (jI to)])), (ah, .inl (cA, 2401, .inl (jA Ah))), (pa, .inl (cA, 48, .inl (jA Pa))), (re, .inr (2, [.int (jI ga), .int (jI lo), .int (jI gp), .int (jI li), .ref t2, .ref t1, .ref t0, .int (jI es), .int (jI ep), .int (jI eq), .int (jI al), .int (jI la)])), (t2, .inl (cA, 49, .inl (jA E2))), (t1, .inl (cA, 49, .inl (jA E1))), (t0, .inl (cA, 49, .inl (jA E0))), (mo, .inr (5, [.ref ml, .ref mn, .int (jI K), .int (jI g), .int (jI ga), .int (jI lo), .int (jI gp), .int (jI li), .ref mf, .ref mt, .ref mw, .int (jI fo), .ref mk, .int (jI ln), .int (jI bs), .int (jI kn), .ref mz, .int (jI rd), .int (jI me), .int (jI mq), .int (jI ma), .int (jI mx)])), (ml, .inl (cA, 96, .inl (jA M))), (mn, .inl (cA, 2, .inl (jA N))), (mf, .inl (cA, 2304, .inl (jA f))), (mt, .inl (cA, 2304, .inl (jA sf))), (mw, .inl (cA, 2304, .inl (jA wf))), (mk, .inl (cA, 48, .inl (jA lk))), (mz, .inl (cA, 2401, .inl (jA sc)))]) [0, 1, 2, 3, 4, 5, 6, 7, 8, 9, 10, 11, 12, 13, 14, 15, 16, 17, 18, 19, 20] rfl) (hD.sub (ws' := [(h4, .inr (4, [.ref r0, .ref r1, .ref sp, .ref be, .ref re, .int (jI g), .int (jI fr)])), (r0, .inr (1, [.ref a0, .int (jI n0)])), (a0, .inl (cA, 48, .inl (jA L0))), (r1, .inr (1, [.ref a1, .int (jI n1)])), (a1, .inl (cA, 48, .inl (jA L1))), (sp, .inr (3, [.ref r0, .ref r1, .int (jI K)])), (be, .inr (0, [.ref ah, .ref pa, .int (jI sz), .int (jI to)])), (ah, .inl (cA, 2401, .inl (jA Ah))), (pa, .inl (cA, 48, .inl (jA Pa))), (re, .inr (2, [.int (jI ga), .int (jI lo), .int (jI gp), .int (jI li), .ref t2, .ref t1, .ref t0, .int (jI es), .int (jI ep), .int (jI eq), .int (jI al), .int (jI la)])), (t2, .inl (cA, 49, .inl (jA E2))), (t1, .inl (cA, 49, .inl (jA E1))), (t0, .inl (cA, 49, .inl (jA E0))), (mo, .inr (5, [.ref ml, .ref mn, .int (jI K), .int (jI g), .int (jI ga), .int (jI lo), .int (jI gp), .int (jI li), .ref mf, .ref mt, .ref mw, .int (jI fo), .ref mk, .int (jI ln), .int (jI bs), .int (jI kn), .ref mz, .int (jI rd), .int (jI me), .int (jI mq), .int (jI ma), .int (jI mx)])), (ml, .inl (cA, 96, .inl (jA M))), (mn, .inl (cA, 2, .inl (jA N))), (mf, .inl (cA, 2304, .inl (jA f))), (mt, .inl (cA, 2304, .inl (jA sf))), (mw, .inl (cA, 2304, .inl (jA wf))), (mk, .inl (cA, 48, .inl (jA lk))), (mz, .inl (cA, 2401, .inl (jA sc)))]) [0, 1, 2, 3, 4, 5, 6, 7, 8, 9, 10, 11, 12, 13, 14, 15, 16, 17, 18, 19, 20] (by decide) rfl) hS
  · by_cases hr1 : zx xs (i + 1) = 1
    · refine lv_aload_n hx hb dL_law_156 rfl (lv_at hl 2 rfl) ?_
      refine lv_aload_n hx hb dL_law_157 rfl (lv_at hl 3 rfl) ?_
      refine lv_iload_n hx hb dL_law_158 rfl (lv_at hl 0 rfl) ?_
      refine lv_iconst (v := jI 1) hx hb dL_law_159 rfl ?_
      refine jv_iadd hx hb dL_law_160 ?_
      refine jv_sld F hX hbl hbA hS (by omega) (by omega) dL_law_161 ?_
      refine lv_aload_n hx hb dL_law_162 rfl (lv_at hl 3 rfl) ?_
      refine lv_iload_n hx hb dL_law_163 rfl (lv_at hl 0 rfl) ?_
      refine lv_iconst (v := jI 2) hx hb dL_law_164 rfl ?_
      refine jv_iadd hx hb dL_law_165 ?_
      refine jv_sld F hX hbl hbA hS (by omega) (by omega) dL_law_166 ?_
      rw [hr1]
      refine jr_V F (kX4_letter_1 l D cA h4 r0 r1 sp be re g fr a1 n1 L1 (zx xs (i + 2)) hn1 (zx_r _ _)) cvL_23 hP [0, 3, 4] rfl 0 rfl rfl hl ⟨rfl, rfl, by decide, by decide⟩ rfl rfl (Nat.le_of_ble_eq_true rfl) dL_law_167 ⟨by decide, by decide⟩ (fun v hv => ?_)
      subst hv
      refine lv_aload_n hx hb dL_law_170 rfl (lv_at hl 1 rfl) ?_
      refine lv_aload_n hx hb dL_law_171 rfl (lv_at hl 3 rfl) ?_
      refine lv_iload_n hx hb dL_law_172 rfl (lv_at hl 0 rfl) ?_
      refine lv_iconst (v := jI 1) hx hb dL_law_173 rfl ?_
      refine jv_iadd hx hb dL_law_174 ?_
      refine jv_sld F hX hbl hbA hS (by omega) (by omega) dL_law_175 ?_
      refine lv_aload_n hx hb dL_law_176 rfl (lv_at hl 3 rfl) ?_
      refine lv_iload_n hx hb dL_law_177 rfl (lv_at hl 0 rfl) ?_
      refine lv_iconst (v := jI 2) hx hb dL_law_178 rfl ?_
      refine jv_iadd hx hb dL_law_179 ?_
      refine jv_sld F hX hbl hbA hS (by omega) (by omega) dL_law_180 ?_
      rw [hr1]
      refine jr_V F (kX5_letter_1 l D cA mo ml mn mf mt mw mk mz K g ga lo gp li fo ln bs kn rd me mq ma mx M N (zx xs (i + 2)) (by omega) (zx_r _ _)) cvL_26 hP [13, 14, 15] rfl 13 rfl rfl hl ⟨rfl, rfl, by decide, by decide⟩ rfl rfl (Nat.le_of_ble_eq_true rfl) dL_law_181 ⟨by decide, by decide⟩ (fun v hv => ?_)
      subst hv
      refine jv_same (tgt := 449) hx hb dL_law_184 rfl (by exact eq_let1 hB _) ?_
      exact hJ ls H locs _ (lv_sub hl [0, 1, 2, 3] rfl) (Inv.mk hB hfr hkn hrd) (hP.sub (ws' := [(h4, .inr (4, [.ref r0, .ref r1, .ref sp, .ref be, .ref re, .int (jI g), .int (jI fr)])), (r0, .inr (1, [.ref a0, .int (jI n0)])), (a0, .inl (cA, 48, .inl (jA L0))), (r1, .inr (1, [.ref a1, .int (jI n1)])), (a1, .inl (cA, 48, .inl (jA L1))), (sp, .inr (3, [.ref r0, .ref r1, .int (jI K)])), (be, .inr (0, [.ref ah, .ref pa, .int (jI sz), .int (jI to)])), (ah, .inl (cA, 2401, .inl (jA Ah))), (pa, .inl (cA, 48, .inl (jA Pa))), (re, .inr (2, [.int (jI ga), .int (jI lo), .int (jI gp), .int (jI li), .ref t2, .ref t1, .ref t0, .int (jI es), .int (jI ep), .int (jI eq), .int (jI al), .int (jI la)])), (t2, .inl (cA, 49, .inl (jA E2))), (t1, .inl (cA, 49, .inl (jA E1))), (t0, .inl (cA, 49, .inl (jA E0))), (mo, .inr (5, [.ref ml, .ref mn, .int (jI K), .int (jI g), .int (jI ga), .int (jI lo), .int (jI gp), .int (jI li), .ref mf, .ref mt, .ref mw, .int (jI fo), .ref mk, .int (jI ln), .int (jI bs), .int (jI kn), .ref mz, .int (jI rd), .int (jI me), .int (jI mq), .int (jI ma), .int (jI mx)])), (ml, .inl (cA, 96, .inl (jA M))), (mn, .inl (cA, 2, .inl (jA N))), (mf, .inl (cA, 2304, .inl (jA f))), (mt, .inl (cA, 2304, .inl (jA sf))), (mw, .inl (cA, 2304, .inl (jA wf))), (mk, .inl (cA, 48, .inl (jA lk))), (mz, .inl (cA, 2401, .inl (jA sc)))]) [0, 1, 2, 3, 4, 5, 6, 7, 8, 9, 10, 11, 12, 13, 14, 15, 16, 17, 18, 19, 20] rfl) (hD.sub (ws' := [(h4, .inr (4, [.ref r0, .ref r1, .ref sp, .ref be, .ref re, .int (jI g), .int (jI fr)])), (r0, .inr (1, [.ref a0, .int (jI n0)])), (a0, .inl (cA, 48, .inl (jA L0))), (r1, .inr (1, [.ref a1, .int (jI n1)])), (a1, .inl (cA, 48, .inl (jA L1))), (sp, .inr (3, [.ref r0, .ref r1, .int (jI K)])), (be, .inr (0, [.ref ah, .ref pa, .int (jI sz), .int (jI to)])), (ah, .inl (cA, 2401, .inl (jA Ah))), (pa, .inl (cA, 48, .inl (jA Pa))), (re, .inr (2, [.int (jI ga), .int (jI lo), .int (jI gp), .int (jI li), .ref t2, .ref t1, .ref t0, .int (jI es), .int (jI ep), .int (jI eq), .int (jI al), .int (jI la)])), (t2, .inl (cA, 49, .inl (jA E2))), (t1, .inl (cA, 49, .inl (jA E1))), (t0, .inl (cA, 49, .inl (jA E0))), (mo, .inr (5, [.ref ml, .ref mn, .int (jI K), .int (jI g), .int (jI ga), .int (jI lo), .int (jI gp), .int (jI li), .ref mf, .ref mt, .ref mw, .int (jI fo), .ref mk, .int (jI ln), .int (jI bs), .int (jI kn), .ref mz, .int (jI rd), .int (jI me), .int (jI mq), .int (jI ma), .int (jI mx)])), (ml, .inl (cA, 96, .inl (jA M))), (mn, .inl (cA, 2, .inl (jA N))), (mf, .inl (cA, 2304, .inl (jA f))), (mt, .inl (cA, 2304, .inl (jA sf))), (mw, .inl (cA, 2304, .inl (jA wf))), (mk, .inl (cA, 48, .inl (jA lk))), (mz, .inl (cA, 2401, .inl (jA sc)))]) [0, 1, 2, 3, 4, 5, 6, 7, 8, 9, 10, 11, 12, 13, 14, 15, 16, 17, 18, 19, 20] (by decide) rfl) hS
    · refine lv_aload_n hx hb dL_law_156 rfl (lv_at hl 2 rfl) ?_
      refine lv_aload_n hx hb dL_law_157 rfl (lv_at hl 3 rfl) ?_
      refine lv_iload_n hx hb dL_law_158 rfl (lv_at hl 0 rfl) ?_
      refine lv_iconst (v := jI 1) hx hb dL_law_159 rfl ?_
      refine jv_iadd hx hb dL_law_160 ?_
      refine jv_sld F hX hbl hbA hS (by omega) (by omega) dL_law_161 ?_
      refine lv_aload_n hx hb dL_law_162 rfl (lv_at hl 3 rfl) ?_
      refine lv_iload_n hx hb dL_law_163 rfl (lv_at hl 0 rfl) ?_
      refine lv_iconst (v := jI 2) hx hb dL_law_164 rfl ?_
      refine jv_iadd hx hb dL_law_165 ?_
      refine jv_sld F hX hbl hbA hS (by omega) (by omega) dL_law_166 ?_
      refine jr_V F (kX4_letter_n l D cA h4 r0 r1 sp be re g fr (zx xs (i + 1)) (zx xs (i + 2)) (by omega) (zx_r _ _) (zx_r _ _)) cvL_23 hP [0] rfl 0 rfl rfl hl ⟨rfl, rfl, by decide, by decide⟩ rfl rfl (Nat.le_of_ble_eq_true rfl) dL_law_167 ⟨by decide, by decide⟩ (fun v hv => ?_)
      subst hv
      refine lv_aload_n hx hb dL_law_170 rfl (lv_at hl 1 rfl) ?_
      refine lv_aload_n hx hb dL_law_171 rfl (lv_at hl 3 rfl) ?_
      refine lv_iload_n hx hb dL_law_172 rfl (lv_at hl 0 rfl) ?_
      refine lv_iconst (v := jI 1) hx hb dL_law_173 rfl ?_
      refine jv_iadd hx hb dL_law_174 ?_
      refine jv_sld F hX hbl hbA hS (by omega) (by omega) dL_law_175 ?_
      refine lv_aload_n hx hb dL_law_176 rfl (lv_at hl 3 rfl) ?_
      refine lv_iload_n hx hb dL_law_177 rfl (lv_at hl 0 rfl) ?_
      refine lv_iconst (v := jI 2) hx hb dL_law_178 rfl ?_
      refine jv_iadd hx hb dL_law_179 ?_
      refine jv_sld F hX hbl hbA hS (by omega) (by omega) dL_law_180 ?_
      refine jr_V F (kX5_letter_n l D cA mo ml mn mf mt mw mk mz K g ga lo gp li fo ln bs kn rd me mq ma mx M N (zx xs (i + 1)) (zx xs (i + 2)) (by omega) (zx_r _ _) (zx_r _ _)) cvL_26 hP [13, 14, 15] rfl 13 rfl rfl hl ⟨rfl, rfl, by decide, by decide⟩ rfl rfl (Nat.le_of_ble_eq_true rfl) dL_law_181 ⟨by decide, by decide⟩ (fun v hv => ?_)
      subst hv
      refine jv_same (tgt := 449) hx hb dL_law_184 rfl (by rfl) ?_
      exact hJ ls H locs _ (lv_sub hl [0, 1, 2, 3] rfl) (Inv.mk hB hfr hkn hrd) (hP.sub (ws' := [(h4, .inr (4, [.ref r0, .ref r1, .ref sp, .ref be, .ref re, .int (jI g), .int (jI fr)])), (r0, .inr (1, [.ref a0, .int (jI n0)])), (a0, .inl (cA, 48, .inl (jA L0))), (r1, .inr (1, [.ref a1, .int (jI n1)])), (a1, .inl (cA, 48, .inl (jA L1))), (sp, .inr (3, [.ref r0, .ref r1, .int (jI K)])), (be, .inr (0, [.ref ah, .ref pa, .int (jI sz), .int (jI to)])), (ah, .inl (cA, 2401, .inl (jA Ah))), (pa, .inl (cA, 48, .inl (jA Pa))), (re, .inr (2, [.int (jI ga), .int (jI lo), .int (jI gp), .int (jI li), .ref t2, .ref t1, .ref t0, .int (jI es), .int (jI ep), .int (jI eq), .int (jI al), .int (jI la)])), (t2, .inl (cA, 49, .inl (jA E2))), (t1, .inl (cA, 49, .inl (jA E1))), (t0, .inl (cA, 49, .inl (jA E0))), (mo, .inr (5, [.ref ml, .ref mn, .int (jI K), .int (jI g), .int (jI ga), .int (jI lo), .int (jI gp), .int (jI li), .ref mf, .ref mt, .ref mw, .int (jI fo), .ref mk, .int (jI ln), .int (jI bs), .int (jI kn), .ref mz, .int (jI rd), .int (jI me), .int (jI mq), .int (jI ma), .int (jI mx)])), (ml, .inl (cA, 96, .inl (jA M))), (mn, .inl (cA, 2, .inl (jA N))), (mf, .inl (cA, 2304, .inl (jA f))), (mt, .inl (cA, 2304, .inl (jA sf))), (mw, .inl (cA, 2304, .inl (jA wf))), (mk, .inl (cA, 48, .inl (jA lk))), (mz, .inl (cA, 2401, .inl (jA sc)))]) [0, 1, 2, 3, 4, 5, 6, 7, 8, 9, 10, 11, 12, 13, 14, 15, 16, 17, 18, 19, 20] rfl) (hD.sub (ws' := [(h4, .inr (4, [.ref r0, .ref r1, .ref sp, .ref be, .ref re, .int (jI g), .int (jI fr)])), (r0, .inr (1, [.ref a0, .int (jI n0)])), (a0, .inl (cA, 48, .inl (jA L0))), (r1, .inr (1, [.ref a1, .int (jI n1)])), (a1, .inl (cA, 48, .inl (jA L1))), (sp, .inr (3, [.ref r0, .ref r1, .int (jI K)])), (be, .inr (0, [.ref ah, .ref pa, .int (jI sz), .int (jI to)])), (ah, .inl (cA, 2401, .inl (jA Ah))), (pa, .inl (cA, 48, .inl (jA Pa))), (re, .inr (2, [.int (jI ga), .int (jI lo), .int (jI gp), .int (jI li), .ref t2, .ref t1, .ref t0, .int (jI es), .int (jI ep), .int (jI eq), .int (jI al), .int (jI la)])), (t2, .inl (cA, 49, .inl (jA E2))), (t1, .inl (cA, 49, .inl (jA E1))), (t0, .inl (cA, 49, .inl (jA E0))), (mo, .inr (5, [.ref ml, .ref mn, .int (jI K), .int (jI g), .int (jI ga), .int (jI lo), .int (jI gp), .int (jI li), .ref mf, .ref mt, .ref mw, .int (jI fo), .ref mk, .int (jI ln), .int (jI bs), .int (jI kn), .ref mz, .int (jI rd), .int (jI me), .int (jI mq), .int (jI ma), .int (jI mx)])), (ml, .inl (cA, 96, .inl (jA M))), (mn, .inl (cA, 2, .inl (jA N))), (mf, .inl (cA, 2304, .inl (jA f))), (mt, .inl (cA, 2304, .inl (jA sf))), (mw, .inl (cA, 2304, .inl (jA wf))), (mk, .inl (cA, 48, .inl (jA lk))), (mz, .inl (cA, 2401, .inl (jA sc)))]) [0, 1, 2, 3, 4, 5, 6, 7, 8, 9, 10, 11, 12, 13, 14, 15, 16, 17, 18, 19, 20] (by decide) rfl) hS
