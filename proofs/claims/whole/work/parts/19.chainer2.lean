def outv (ep eq al la what : Int) : Int := if what = 0 then ep else if what = 1 then eq else if what = 2 then al else if what = 3 then la else -1
theorem outv_n {ep eq al la what : Int} (h : ¬ (what = 0 ∨ what = 1 ∨ what = 2 ∨ what = 3)) : outv ep eq al la what = -1 := by
  unfold outv
  rw [if_neg (by omega), if_neg (by omega), if_neg (by omega), if_neg (by omega)]
set_option maxHeartbeats 4000000 in
set_option maxRecDepth 100000 in
theorem kX2_outcome (l : Launch) (D : va_G) (cA : ClassId) (re t2 t1 t0 : Nat) (ga lo gp li es ep eq al la : Int) (what : Int) (hw : -2147483648 ≤ what ∧ what < 2147483648) : jR l YX2_outcome (rmk 0 0 0 0) D cA [.ref re, .int (jI what)] [(re, .inr (2, [.int (jI ga), .int (jI lo), .int (jI gp), .int (jI li), .ref t2, .ref t1, .ref t0, .int (jI es), .int (jI ep), .int (jI eq), .int (jI al), .int (jI la)]))] (fun v => v = .int (jI (outv ep eq al la what))) := by
  refine jR.intro (by decide +kernel) (Nat.le_of_ble_eq_true rfl) ?_
  intro p e s m args below meth c ls Q F hQ hP hl
  have hx := F.1
  have hb := F.2.1
  have hl : lv_has ls 2 [(0, .ref re), (1, .int (jI what))] := hl
  refine lv_iload_n hx hb dX2_outcome_0 rfl (lv_at hl 1 rfl) ?_
  by_cases hsw : what = 0 ∨ what = 1 ∨ what = 2 ∨ what = 3
  · rcases hsw with hsw | hsw | hsw | hsw
    · rw [hsw]
      refine lv_tableIn (off := 31) (tgt := 32) hx hb dX2_outcome_1 (by decide +kernel) (by decide +kernel) (by decide +kernel) rfl ?_
      refine lv_aload_n hx hb dX2_outcome_32 rfl (lv_at hl 0 rfl) ?_
      refine jv_get (v := .int (jI ep)) F hP 0 rfl flX2_37 rfl dX2_outcome_33 ?_
      exact jR.ri F hQ rfl dX2_outcome_36 (by first | (rw [hsw]; rfl) | (rw [outv_n hsw]))
    · rw [hsw]
      refine lv_tableIn (off := 36) (tgt := 37) hx hb dX2_outcome_1 (by decide +kernel) (by decide +kernel) (by decide +kernel) rfl ?_
      refine lv_aload_n hx hb dX2_outcome_37 rfl (lv_at hl 0 rfl) ?_
      refine jv_get (v := .int (jI eq)) F hP 0 rfl flX2_40 rfl dX2_outcome_38 ?_
      exact jR.ri F hQ rfl dX2_outcome_41 (by first | (rw [hsw]; rfl) | (rw [outv_n hsw]))
    · rw [hsw]
      refine lv_tableIn (off := 41) (tgt := 42) hx hb dX2_outcome_1 (by decide +kernel) (by decide +kernel) (by decide +kernel) rfl ?_
      refine lv_aload_n hx hb dX2_outcome_42 rfl (lv_at hl 0 rfl) ?_
      refine jv_get (v := .int (jI al)) F hP 0 rfl flX2_43 rfl dX2_outcome_43 ?_
      exact jR.ri F hQ rfl dX2_outcome_46 (by first | (rw [hsw]; rfl) | (rw [outv_n hsw]))
    · rw [hsw]
      refine lv_tableIn (off := 46) (tgt := 47) hx hb dX2_outcome_1 (by decide +kernel) (by decide +kernel) (by decide +kernel) rfl ?_
      refine lv_aload_n hx hb dX2_outcome_47 rfl (lv_at hl 0 rfl) ?_
      refine jv_get (v := .int (jI la)) F hP 0 rfl flX2_46 rfl dX2_outcome_48 ?_
      exact jR.ri F hQ rfl dX2_outcome_51 (by first | (rw [hsw]; rfl) | (rw [outv_n hsw]))
  · refine jv_tabOut (tgt := 52) hx hb dX2_outcome_1 (by omega) (by omega) rfl ?_
    refine lv_iconst (v := jI (-1)) hx hb dX2_outcome_52 rfl ?_
    exact jR.ri F hQ rfl dX2_outcome_53 (by first | (rw [hsw]; rfl) | (rw [outv_n hsw]))
set_option maxHeartbeats 4000000 in
set_option maxRecDepth 100000 in
theorem kX4_freshBest_0 (l : Launch) (D : va_G) (cA : ClassId) (h4 r0 a0 r1 a1 sp be ah pa : Nat) (re : Nat) (n0 n1 K g sz to : Int) (L0 L1 Ah Pa : Int → Int) (hn0 : 0 ≤ n0 ∧ n0 ≤ 48) (hn1 : 0 ≤ n1 ∧ n1 ≤ 48) (hK : 1 ≤ K ∧ K ≤ 6) (hL0 : ∀ x, 0 ≤ L0 x ∧ L0 x ≤ 3) (hL1 : ∀ x, 0 ≤ L1 x ∧ L1 x ≤ 3) (hg : 0 ≤ g ∧ g ≤ 9) : jM l YX4_freshBest (rmk 5 0 0 118) D cA [.ref h4] [(h4, .inr (4, [.ref r0, .ref r1, .ref sp, .ref be, .ref re, .int (jI g), .int (jI 0)])), (be, .inr (0, [.ref ah, .ref pa, .int (jI sz), .int (jI to)])), (ah, .inl (cA, 2401, .inl (jA Ah))), (pa, .inl (cA, 48, .inl (jA Pa))), (sp, .inr (3, [.ref r0, .ref r1, .int (jI K)])), (r0, .inr (1, [.ref a0, .int (jI n0)])), (a0, .inl (cA, 48, .inl (jA L0))), (r1, .inr (1, [.ref a1, .int (jI n1)])), (a1, .inl (cA, 48, .inl (jA L1)))] (fun v w => v = some (.ref be) ∧ ∃ (A2 P2 : Int → Int) (n2 t2 : Int), fin (anc L0 L1 n0 n1 K) K g n2 t2 P2 ∧ w = [(h4, .inr (4, [.ref r0, .ref r1, .ref sp, .ref be, .ref re, .int (jI g), .int (jI 1)])), (be, .inr (0, [.ref ah, .ref pa, .int (jI n2), .int (jI t2)])), (ah, .inl (cA, 2401, .inl (jA A2))), (pa, .inl (cA, 48, .inl (jA P2))), (sp, .inr (3, [.ref r0, .ref r1, .int (jI K)])), (r0, .inr (1, [.ref a0, .int (jI n0)])), (a0, .inl (cA, 48, .inl (jA L0))), (r1, .inr (1, [.ref a1, .int (jI n1)])), (a1, .inl (cA, 48, .inl (jA L1)))]) 0 0 := by
  refine jM.intro (by decide +kernel) (Nat.le_of_ble_eq_true rfl) ?_
  intro p e s m args below meth c ls Q A F hQ hA hP hD hS hl
  have hx := F.1
  have hb := F.2.1
  have hl : lv_has ls 1 [(0, .ref h4)] := hl
  refine lv_aload_n hx hb dX4_freshBest_0 rfl (lv_at hl 0 rfl) ?_
  refine jv_get (v := .int (jI 0)) F hP 0 rfl flX4_46 rfl dX4_freshBest_1 ?_
  refine jv_if_ne (tgt := 27) hx hb dX4_freshBest_4 rfl (by omega) (fun c4 => ?_) (fun c4 => ?_)
  · exfalso
    omega
  · refine lv_aload_n hx hb dX4_freshBest_7 rfl (lv_at hl 0 rfl) ?_
    refine jv_get (v := .ref be) F hP 0 rfl flX4_31 rfl dX4_freshBest_8 ?_
    refine lv_aload_n hx hb dX4_freshBest_11 rfl (lv_at hl 0 rfl) ?_
    refine jv_get (v := .ref sp) F hP 0 rfl flX4_24 rfl dX4_freshBest_12 ?_
    refine lv_aload_n hx hb dX4_freshBest_15 rfl (lv_at hl 0 rfl) ?_
    refine jv_get (v := .int (jI g)) F hP 0 rfl flX4_42 rfl dX4_freshBest_16 ?_
    refine jw_V (wr := [(h4, .inr (4, [.ref r0, .ref r1, .ref sp, .ref be, .ref re, .int (jI g), .int (jI 0)]))]) F (kX0_find l D cA be ah pa sz to Ah Pa sp r0 a0 r1 a1 n0 n1 K L0 L1 g (by omega) (by omega) (by omega) hL0 hL1 (by omega)) cvX4_113 hP hD hS hA [1, 2, 3, 4, 5, 6, 7, 8] [0] rfl rfl (by decide) (by decide) 1 rfl rfl hl ⟨rfl, rfl, by decide, by decide⟩ rfl rfl (Nat.le_of_ble_eq_true rfl) dX4_freshBest_19 ⟨by decide, by decide⟩ (by decide) (fun v w1 H locs hw hP hD hS => ?_)
    obtain ⟨rfl, A2, P2, n2, t2, hfin2, rfl⟩ := hw
    have hP : va_P D cls [(h4, .inr (4, [.ref r0, .ref r1, .ref sp, .ref be, .ref re, .int (jI g), .int (jI 0)])), (be, .inr (0, [.ref ah, .ref pa, .int (jI n2), .int (jI t2)])), (ah, .inl (cA, 2401, .inl (jA A2))), (pa, .inl (cA, 48, .inl (jA P2))), (sp, .inr (3, [.ref r0, .ref r1, .int (jI K)])), (r0, .inr (1, [.ref a0, .int (jI n0)])), (a0, .inl (cA, 48, .inl (jA L0))), (r1, .inr (1, [.ref a1, .int (jI n1)])), (a1, .inl (cA, 48, .inl (jA L1)))] H := hP
    have hD : va_D A [(h4, .inr (4, [.ref r0, .ref r1, .ref sp, .ref be, .ref re, .int (jI g), .int (jI 0)])), (be, .inr (0, [.ref ah, .ref pa, .int (jI n2), .int (jI t2)])), (ah, .inl (cA, 2401, .inl (jA A2))), (pa, .inl (cA, 48, .inl (jA P2))), (sp, .inr (3, [.ref r0, .ref r1, .int (jI K)])), (r0, .inr (1, [.ref a0, .int (jI n0)])), (a0, .inl (cA, 48, .inl (jA L0))), (r1, .inr (1, [.ref a1, .int (jI n1)])), (a1, .inl (cA, 48, .inl (jA L1)))] := hD
    refine W.eq (g2 := F0 m 22 ls []) rfl ?_
    refine lv_aload_n hx hb dX4_freshBest_22 rfl (lv_at hl 0 rfl) ?_
    refine lv_iconst (v := jI 1) hx hb dX4_freshBest_23 rfl ?_
    refine jv_put (v := .int (jI 1)) F hP hD hS 0 rfl flX4_46 pfX4 (by decide +kernel) (by decide +kernel) (by decide +kernel) (Nat.le_of_ble_eq_true rfl) dX4_freshBest_24 (fun H locs hP hD hS => ?_)
    have hP : va_P D cls [(h4, .inr (4, [.ref r0, .ref r1, .ref sp, .ref be, .ref re, .int (jI g), .int (jI 1)])), (be, .inr (0, [.ref ah, .ref pa, .int (jI n2), .int (jI t2)])), (ah, .inl (cA, 2401, .inl (jA A2))), (pa, .inl (cA, 48, .inl (jA P2))), (sp, .inr (3, [.ref r0, .ref r1, .int (jI K)])), (r0, .inr (1, [.ref a0, .int (jI n0)])), (a0, .inl (cA, 48, .inl (jA L0))), (r1, .inr (1, [.ref a1, .int (jI n1)])), (a1, .inl (cA, 48, .inl (jA L1)))] H := hP
    have hD : va_D A [(h4, .inr (4, [.ref r0, .ref r1, .ref sp, .ref be, .ref re, .int (jI g), .int (jI 1)])), (be, .inr (0, [.ref ah, .ref pa, .int (jI n2), .int (jI t2)])), (ah, .inl (cA, 2401, .inl (jA A2))), (pa, .inl (cA, 48, .inl (jA P2))), (sp, .inr (3, [.ref r0, .ref r1, .int (jI K)])), (r0, .inr (1, [.ref a0, .int (jI n0)])), (a0, .inl (cA, 48, .inl (jA L0))), (r1, .inr (1, [.ref a1, .int (jI n1)])), (a1, .inl (cA, 48, .inl (jA L1)))] := hD
    refine lv_aload_n hx hb dX4_freshBest_27 rfl (lv_at hl 0 rfl) ?_
    refine jv_get (v := .ref be) F hP 0 rfl flX4_31 rfl dX4_freshBest_28 ?_
    exact jM.ra F hQ rfl dX4_freshBest_31 hS hP hD (by exact ⟨rfl, _, _, _, _, hfin2, rfl⟩)
set_option maxHeartbeats 4000000 in
set_option maxRecDepth 100000 in
theorem kX4_freshBest_1 (l : Launch) (D : va_G) (cA : ClassId) (h4 r0 a0 r1 a1 sp be ah pa : Nat) (re : Nat) (n0 n1 K g sz to : Int) (L0 L1 Ah Pa : Int → Int) (hn0 : 0 ≤ n0 ∧ n0 ≤ 48) (hn1 : 0 ≤ n1 ∧ n1 ≤ 48) (hK : 1 ≤ K ∧ K ≤ 6) (hL0 : ∀ x, 0 ≤ L0 x ∧ L0 x ≤ 3) (hL1 : ∀ x, 0 ≤ L1 x ∧ L1 x ≤ 3) (hg : 0 ≤ g ∧ g ≤ 9) (hfin2 : fin (anc L0 L1 n0 n1 K) K g sz to Pa) : jM l YX4_freshBest (rmk 5 0 0 118) D cA [.ref h4] [(h4, .inr (4, [.ref r0, .ref r1, .ref sp, .ref be, .ref re, .int (jI g), .int (jI 1)])), (be, .inr (0, [.ref ah, .ref pa, .int (jI sz), .int (jI to)])), (ah, .inl (cA, 2401, .inl (jA Ah))), (pa, .inl (cA, 48, .inl (jA Pa))), (sp, .inr (3, [.ref r0, .ref r1, .int (jI K)])), (r0, .inr (1, [.ref a0, .int (jI n0)])), (a0, .inl (cA, 48, .inl (jA L0))), (r1, .inr (1, [.ref a1, .int (jI n1)])), (a1, .inl (cA, 48, .inl (jA L1)))] (fun v w => v = some (.ref be) ∧ ∃ (A2 P2 : Int → Int) (n2 t2 : Int), fin (anc L0 L1 n0 n1 K) K g n2 t2 P2 ∧ w = [(h4, .inr (4, [.ref r0, .ref r1, .ref sp, .ref be, .ref re, .int (jI g), .int (jI 1)])), (be, .inr (0, [.ref ah, .ref pa, .int (jI n2), .int (jI t2)])), (ah, .inl (cA, 2401, .inl (jA A2))), (pa, .inl (cA, 48, .inl (jA P2))), (sp, .inr (3, [.ref r0, .ref r1, .int (jI K)])), (r0, .inr (1, [.ref a0, .int (jI n0)])), (a0, .inl (cA, 48, .inl (jA L0))), (r1, .inr (1, [.ref a1, .int (jI n1)])), (a1, .inl (cA, 48, .inl (jA L1)))]) 0 0 := by
  refine jM.intro (by decide +kernel) (Nat.le_of_ble_eq_true rfl) ?_
  intro p e s m args below meth c ls Q A F hQ hA hP hD hS hl
  have hx := F.1
  have hb := F.2.1
  have hl : lv_has ls 1 [(0, .ref h4)] := hl
  refine lv_aload_n hx hb dX4_freshBest_0 rfl (lv_at hl 0 rfl) ?_
  refine jv_get (v := .int (jI 1)) F hP 0 rfl flX4_46 rfl dX4_freshBest_1 ?_
  refine jv_if_ne (tgt := 27) hx hb dX4_freshBest_4 rfl (by omega) (fun c4 => ?_) (fun c4 => ?_)
  · refine lv_aload_n hx hb dX4_freshBest_27 rfl (lv_at hl 0 rfl) ?_
    refine jv_get (v := .ref be) F hP 0 rfl flX4_31 rfl dX4_freshBest_28 ?_
    exact jM.ra F hQ rfl dX4_freshBest_31 hS hP hD (by exact ⟨rfl, _, _, _, _, hfin2, rfl⟩)
  · exfalso
    omega
theorem kX4_freshBest (l : Launch) (D : va_G) (cA : ClassId) (h4 r0 a0 r1 a1 sp be ah pa : Nat) (re : Nat) (n0 n1 K g sz to : Int) (L0 L1 Ah Pa : Int → Int) (fr : Int) (hn0 : 0 ≤ n0 ∧ n0 ≤ 48) (hn1 : 0 ≤ n1 ∧ n1 ≤ 48) (hK : 1 ≤ K ∧ K ≤ 6) (hL0 : ∀ x, 0 ≤ L0 x ∧ L0 x ≤ 3) (hL1 : ∀ x, 0 ≤ L1 x ∧ L1 x ≤ 3) (hg : 0 ≤ g ∧ g ≤ 9) (hfr : fr = 0 ∨ (fr = 1 ∧ fin (anc L0 L1 n0 n1 K) K g sz to Pa)) : jM l YX4_freshBest (rmk 5 0 0 118) D cA [.ref h4] [(h4, .inr (4, [.ref r0, .ref r1, .ref sp, .ref be, .ref re, .int (jI g), .int (jI fr)])), (be, .inr (0, [.ref ah, .ref pa, .int (jI sz), .int (jI to)])), (ah, .inl (cA, 2401, .inl (jA Ah))), (pa, .inl (cA, 48, .inl (jA Pa))), (sp, .inr (3, [.ref r0, .ref r1, .int (jI K)])), (r0, .inr (1, [.ref a0, .int (jI n0)])), (a0, .inl (cA, 48, .inl (jA L0))), (r1, .inr (1, [.ref a1, .int (jI n1)])), (a1, .inl (cA, 48, .inl (jA L1)))] (fun v w => v = some (.ref be) ∧ ∃ (A2 P2 : Int → Int) (n2 t2 : Int), fin (anc L0 L1 n0 n1 K) K g n2 t2 P2 ∧ w = [(h4, .inr (4, [.ref r0, .ref r1, .ref sp, .ref be, .ref re, .int (jI g), .int (jI 1)])), (be, .inr (0, [.ref ah, .ref pa, .int (jI n2), .int (jI t2)])), (ah, .inl (cA, 2401, .inl (jA A2))), (pa, .inl (cA, 48, .inl (jA P2))), (sp, .inr (3, [.ref r0, .ref r1, .int (jI K)])), (r0, .inr (1, [.ref a0, .int (jI n0)])), (a0, .inl (cA, 48, .inl (jA L0))), (r1, .inr (1, [.ref a1, .int (jI n1)])), (a1, .inl (cA, 48, .inl (jA L1)))]) 0 0 := by
  rcases hfr with rfl | ⟨rfl, h⟩
  · exact kX4_freshBest_0 l D cA h4 r0 a0 r1 a1 sp be ah pa re n0 n1 K g sz to L0 L1 Ah Pa hn0 hn1 hK hL0 hL1 hg
  · exact kX4_freshBest_1 l D cA h4 r0 a0 r1 a1 sp be ah pa re n0 n1 K g sz to L0 L1 Ah Pa hn0 hn1 hK hL0 hL1 hg h
theorem fin_n {G : Int → Int → Prop} {K g n t : Int} {Pa : Int → Int} (h : fin G K g n t Pa) : (0 ≤ n ∧ n ≤ 48) ∧ ∀ x, -1 ≤ atv Pa n x ∧ atv Pa n x < 2304 := by
  obtain ⟨wt, -, -, -, h1, h2⟩ := h
  refine ⟨h1, fun x => ?_⟩
  by_cases e : 0 ≤ x ∧ x < n
  · rw [atv_in e]; have := h2 x e.1 e.2; omega
  · rw [atv_out e]; omega
set_option maxHeartbeats 4000000 in
set_option maxRecDepth 100000 in
theorem kX4_chain (l : Launch) (D : va_G) (cA : ClassId) (h4 r0 a0 r1 a1 sp be ah pa : Nat) (re : Nat) (n0 n1 K g sz to : Int) (L0 L1 Ah Pa : Int → Int) (fr : Int) (hn0 : 0 ≤ n0 ∧ n0 ≤ 48) (hn1 : 0 ≤ n1 ∧ n1 ≤ 48) (hK : 1 ≤ K ∧ K ≤ 6) (hL0 : ∀ x, 0 ≤ L0 x ∧ L0 x ≤ 3) (hL1 : ∀ x, 0 ≤ L1 x ∧ L1 x ≤ 3) (hg : 0 ≤ g ∧ g ≤ 9) (hfr : fr = 0 ∨ (fr = 1 ∧ fin (anc L0 L1 n0 n1 K) K g sz to Pa)) : jM l YX4_chain (rmk 6 0 0 138) D cA [.ref h4] [(h4, .inr (4, [.ref r0, .ref r1, .ref sp, .ref be, .ref re, .int (jI g), .int (jI fr)])), (be, .inr (0, [.ref ah, .ref pa, .int (jI sz), .int (jI to)])), (ah, .inl (cA, 2401, .inl (jA Ah))), (pa, .inl (cA, 48, .inl (jA Pa))), (sp, .inr (3, [.ref r0, .ref r1, .int (jI K)])), (r0, .inr (1, [.ref a0, .int (jI n0)])), (a0, .inl (cA, 48, .inl (jA L0))), (r1, .inr (1, [.ref a1, .int (jI n1)])), (a1, .inl (cA, 48, .inl (jA L1)))] (fun v w => ∃ (A2 P2 : Int → Int) (n2 t2 : Int), fin (anc L0 L1 n0 n1 K) K g n2 t2 P2 ∧ v = some (.int (jI (t2))) ∧ w = [(h4, .inr (4, [.ref r0, .ref r1, .ref sp, .ref be, .ref re, .int (jI g), .int (jI 1)])), (be, .inr (0, [.ref ah, .ref pa, .int (jI n2), .int (jI t2)])), (ah, .inl (cA, 2401, .inl (jA A2))), (pa, .inl (cA, 48, .inl (jA P2))), (sp, .inr (3, [.ref r0, .ref r1, .int (jI K)])), (r0, .inr (1, [.ref a0, .int (jI n0)])), (a0, .inl (cA, 48, .inl (jA L0))), (r1, .inr (1, [.ref a1, .int (jI n1)])), (a1, .inl (cA, 48, .inl (jA L1)))]) 0 0 := by
  refine jM.intro (by decide +kernel) (Nat.le_of_ble_eq_true rfl) ?_
  intro p e s m args below meth c ls Q A F hQ hA hP hD hS hl
  have hx := F.1
  have hb := F.2.1
  have hl : lv_has ls 1 [(0, .ref h4)] := hl
  refine lv_aload_n hx hb dX4_chain_0 rfl (lv_at hl 0 rfl) ?_
  refine jw_V (wr := []) F (kX4_freshBest l D cA h4 r0 a0 r1 a1 sp be ah pa re n0 n1 K g sz to L0 L1 Ah Pa fr hn0 hn1 hK hL0 hL1 hg hfr) cvX4_94 hP hD hS hA [0, 1, 2, 3, 4, 5, 6, 7, 8] [] rfl rfl (by decide) (by decide) 0 rfl rfl hl ⟨rfl, rfl, by decide, by decide⟩ rfl rfl (Nat.le_of_ble_eq_true rfl) dX4_chain_1 ⟨by decide, by decide⟩ (by decide) (fun v w1 H locs hw hP hD hS => ?_)
  obtain ⟨rfl, A2, P2, n2, t2, hfin2, rfl⟩ := hw
  have hP : va_P D cls [(h4, .inr (4, [.ref r0, .ref r1, .ref sp, .ref be, .ref re, .int (jI g), .int (jI 1)])), (be, .inr (0, [.ref ah, .ref pa, .int (jI n2), .int (jI t2)])), (ah, .inl (cA, 2401, .inl (jA A2))), (pa, .inl (cA, 48, .inl (jA P2))), (sp, .inr (3, [.ref r0, .ref r1, .int (jI K)])), (r0, .inr (1, [.ref a0, .int (jI n0)])), (a0, .inl (cA, 48, .inl (jA L0))), (r1, .inr (1, [.ref a1, .int (jI n1)])), (a1, .inl (cA, 48, .inl (jA L1)))] H := hP
  have hD : va_D A [(h4, .inr (4, [.ref r0, .ref r1, .ref sp, .ref be, .ref re, .int (jI g), .int (jI 1)])), (be, .inr (0, [.ref ah, .ref pa, .int (jI n2), .int (jI t2)])), (ah, .inl (cA, 2401, .inl (jA A2))), (pa, .inl (cA, 48, .inl (jA P2))), (sp, .inr (3, [.ref r0, .ref r1, .int (jI K)])), (r0, .inr (1, [.ref a0, .int (jI n0)])), (a0, .inl (cA, 48, .inl (jA L0))), (r1, .inr (1, [.ref a1, .int (jI n1)])), (a1, .inl (cA, 48, .inl (jA L1)))] := hD
  refine W.eq (g2 := F0 m 4 ls [.ref be]) rfl ?_
  have hn2 := fin_n hfin2
  refine jr_V F (kX0_total l D cA be ah pa n2 t2) cvX4_98 hP [1] rfl 1 rfl rfl hl ⟨rfl, rfl, by decide, by decide⟩ rfl rfl (Nat.le_of_ble_eq_true rfl) dX4_chain_4 ⟨by decide, by decide⟩ (fun v hv => ?_)
  subst hv
  exact jM.ri F hQ rfl dX4_chain_7 hS hP hD (by exact ⟨_, _, _, _, hfin2, rfl, rfl⟩)
set_option maxHeartbeats 4000000 in
set_option maxRecDepth 100000 in
theorem kX4_links (l : Launch) (D : va_G) (cA : ClassId) (h4 r0 a0 r1 a1 sp be ah pa : Nat) (re : Nat) (n0 n1 K g sz to : Int) (L0 L1 Ah Pa : Int → Int) (fr : Int) (hn0 : 0 ≤ n0 ∧ n0 ≤ 48) (hn1 : 0 ≤ n1 ∧ n1 ≤ 48) (hK : 1 ≤ K ∧ K ≤ 6) (hL0 : ∀ x, 0 ≤ L0 x ∧ L0 x ≤ 3) (hL1 : ∀ x, 0 ≤ L1 x ∧ L1 x ≤ 3) (hg : 0 ≤ g ∧ g ≤ 9) (hfr : fr = 0 ∨ (fr = 1 ∧ fin (anc L0 L1 n0 n1 K) K g sz to Pa)) : jM l YX4_links (rmk 6 0 0 138) D cA [.ref h4] [(h4, .inr (4, [.ref r0, .ref r1, .ref sp, .ref be, .ref re, .int (jI g), .int (jI fr)])), (be, .inr (0, [.ref ah, .ref pa, .int (jI sz), .int (jI to)])), (ah, .inl (cA, 2401, .inl (jA Ah))), (pa, .inl (cA, 48, .inl (jA Pa))), (sp, .inr (3, [.ref r0, .ref r1, .int (jI K)])), (r0, .inr (1, [.ref a0, .int (jI n0)])), (a0, .inl (cA, 48, .inl (jA L0))), (r1, .inr (1, [.ref a1, .int (jI n1)])), (a1, .inl (cA, 48, .inl (jA L1)))] (fun v w => ∃ (A2 P2 : Int → Int) (n2 t2 : Int), fin (anc L0 L1 n0 n1 K) K g n2 t2 P2 ∧ v = some (.int (jI (n2))) ∧ w = [(h4, .inr (4, [.ref r0, .ref r1, .ref sp, .ref be, .ref re, .int (jI g), .int (jI 1)])), (be, .inr (0, [.ref ah, .ref pa, .int (jI n2), .int (jI t2)])), (ah, .inl (cA, 2401, .inl (jA A2))), (pa, .inl (cA, 48, .inl (jA P2))), (sp, .inr (3, [.ref r0, .ref r1, .int (jI K)])), (r0, .inr (1, [.ref a0, .int (jI n0)])), (a0, .inl (cA, 48, .inl (jA L0))), (r1, .inr (1, [.ref a1, .int (jI n1)])), (a1, .inl (cA, 48, .inl (jA L1)))]) 0 0 := by
  refine jM.intro (by decide +kernel) (Nat.le_of_ble_eq_true rfl) ?_
  intro p e s m args below meth c ls Q A F hQ hA hP hD hS hl
  have hx := F.1
  have hb := F.2.1
  have hl : lv_has ls 1 [(0, .ref h4)] := hl
  refine lv_aload_n hx hb dX4_links_0 rfl (lv_at hl 0 rfl) ?_
  refine jw_V (wr := []) F (kX4_freshBest l D cA h4 r0 a0 r1 a1 sp be ah pa re n0 n1 K g sz to L0 L1 Ah Pa fr hn0 hn1 hK hL0 hL1 hg hfr) cvX4_94 hP hD hS hA [0, 1, 2, 3, 4, 5, 6, 7, 8] [] rfl rfl (by decide) (by decide) 0 rfl rfl hl ⟨rfl, rfl, by decide, by decide⟩ rfl rfl (Nat.le_of_ble_eq_true rfl) dX4_links_1 ⟨by decide, by decide⟩ (by decide) (fun v w1 H locs hw hP hD hS => ?_)
  obtain ⟨rfl, A2, P2, n2, t2, hfin2, rfl⟩ := hw
  have hP : va_P D cls [(h4, .inr (4, [.ref r0, .ref r1, .ref sp, .ref be, .ref re, .int (jI g), .int (jI 1)])), (be, .inr (0, [.ref ah, .ref pa, .int (jI n2), .int (jI t2)])), (ah, .inl (cA, 2401, .inl (jA A2))), (pa, .inl (cA, 48, .inl (jA P2))), (sp, .inr (3, [.ref r0, .ref r1, .int (jI K)])), (r0, .inr (1, [.ref a0, .int (jI n0)])), (a0, .inl (cA, 48, .inl (jA L0))), (r1, .inr (1, [.ref a1, .int (jI n1)])), (a1, .inl (cA, 48, .inl (jA L1)))] H := hP
  have hD : va_D A [(h4, .inr (4, [.ref r0, .ref r1, .ref sp, .ref be, .ref re, .int (jI g), .int (jI 1)])), (be, .inr (0, [.ref ah, .ref pa, .int (jI n2), .int (jI t2)])), (ah, .inl (cA, 2401, .inl (jA A2))), (pa, .inl (cA, 48, .inl (jA P2))), (sp, .inr (3, [.ref r0, .ref r1, .int (jI K)])), (r0, .inr (1, [.ref a0, .int (jI n0)])), (a0, .inl (cA, 48, .inl (jA L0))), (r1, .inr (1, [.ref a1, .int (jI n1)])), (a1, .inl (cA, 48, .inl (jA L1)))] := hD
  refine W.eq (g2 := F0 m 4 ls [.ref be]) rfl ?_
  have hn2 := fin_n hfin2
  refine jr_V F (kX0_size l D cA be ah pa n2 t2) cvX4_101 hP [1] rfl 1 rfl rfl hl ⟨rfl, rfl, by decide, by decide⟩ rfl rfl (Nat.le_of_ble_eq_true rfl) dX4_links_4 ⟨by decide, by decide⟩ (fun v hv => ?_)
  subst hv
  exact jM.ri F hQ rfl dX4_links_7 hS hP hD (by exact ⟨_, _, _, _, hfin2, rfl, rfl⟩)
set_option maxHeartbeats 4000000 in
set_option maxRecDepth 100000 in
theorem kX4_link (l : Launch) (D : va_G) (cA : ClassId) (h4 r0 a0 r1 a1 sp be ah pa : Nat) (re : Nat) (n0 n1 K g sz to : Int) (L0 L1 Ah Pa : Int → Int) (fr : Int) (x wh : Int) (hn0 : 0 ≤ n0 ∧ n0 ≤ 48) (hn1 : 0 ≤ n1 ∧ n1 ≤ 48) (hK : 1 ≤ K ∧ K ≤ 6) (hL0 : ∀ x, 0 ≤ L0 x ∧ L0 x ≤ 3) (hL1 : ∀ x, 0 ≤ L1 x ∧ L1 x ≤ 3) (hg : 0 ≤ g ∧ g ≤ 9) (hfr : fr = 0 ∨ (fr = 1 ∧ fin (anc L0 L1 n0 n1 K) K g sz to Pa)) (hx0 : -2147483648 ≤ x ∧ x < 2147483648) (hw : -2147483648 ≤ wh ∧ wh < 2147483648) : jM l YX4_link (rmk 6 0 0 138) D cA [.ref h4, .int (jI x), .int (jI wh)] [(h4, .inr (4, [.ref r0, .ref r1, .ref sp, .ref be, .ref re, .int (jI g), .int (jI fr)])), (be, .inr (0, [.ref ah, .ref pa, .int (jI sz), .int (jI to)])), (ah, .inl (cA, 2401, .inl (jA Ah))), (pa, .inl (cA, 48, .inl (jA Pa))), (sp, .inr (3, [.ref r0, .ref r1, .int (jI K)])), (r0, .inr (1, [.ref a0, .int (jI n0)])), (a0, .inl (cA, 48, .inl (jA L0))), (r1, .inr (1, [.ref a1, .int (jI n1)])), (a1, .inl (cA, 48, .inl (jA L1)))] (fun v w => ∃ (A2 P2 : Int → Int) (n2 t2 : Int), fin (anc L0 L1 n0 n1 K) K g n2 t2 P2 ∧ v = some (.int (jI (plc (atv P2 n2 x) wh))) ∧ w = [(h4, .inr (4, [.ref r0, .ref r1, .ref sp, .ref be, .ref re, .int (jI g), .int (jI 1)])), (be, .inr (0, [.ref ah, .ref pa, .int (jI n2), .int (jI t2)])), (ah, .inl (cA, 2401, .inl (jA A2))), (pa, .inl (cA, 48, .inl (jA P2))), (sp, .inr (3, [.ref r0, .ref r1, .int (jI K)])), (r0, .inr (1, [.ref a0, .int (jI n0)])), (a0, .inl (cA, 48, .inl (jA L0))), (r1, .inr (1, [.ref a1, .int (jI n1)])), (a1, .inl (cA, 48, .inl (jA L1)))]) 0 0 := by
  refine jM.intro (by decide +kernel) (Nat.le_of_ble_eq_true rfl) ?_
  intro p e s m args below meth c ls Q A F hQ hA hP hD hS hl
  have hx := F.1
  have hb := F.2.1
  have hl : lv_has ls 3 [(0, .ref h4), (1, .int (jI x)), (2, .int (jI wh))] := hl
  refine lv_aload_n hx hb dX4_link_0 rfl (lv_at hl 0 rfl) ?_
  refine jw_V (wr := []) F (kX4_freshBest l D cA h4 r0 a0 r1 a1 sp be ah pa re n0 n1 K g sz to L0 L1 Ah Pa fr hn0 hn1 hK hL0 hL1 hg hfr) cvX4_94 hP hD hS hA [0, 1, 2, 3, 4, 5, 6, 7, 8] [] rfl rfl (by decide) (by decide) 0 rfl rfl hl ⟨rfl, rfl, by decide, by decide⟩ rfl rfl (Nat.le_of_ble_eq_true rfl) dX4_link_1 ⟨by decide, by decide⟩ (by decide) (fun v w1 H locs hw hP hD hS => ?_)
  obtain ⟨rfl, A2, P2, n2, t2, hfin2, rfl⟩ := hw
  have hP : va_P D cls [(h4, .inr (4, [.ref r0, .ref r1, .ref sp, .ref be, .ref re, .int (jI g), .int (jI 1)])), (be, .inr (0, [.ref ah, .ref pa, .int (jI n2), .int (jI t2)])), (ah, .inl (cA, 2401, .inl (jA A2))), (pa, .inl (cA, 48, .inl (jA P2))), (sp, .inr (3, [.ref r0, .ref r1, .int (jI K)])), (r0, .inr (1, [.ref a0, .int (jI n0)])), (a0, .inl (cA, 48, .inl (jA L0))), (r1, .inr (1, [.ref a1, .int (jI n1)])), (a1, .inl (cA, 48, .inl (jA L1)))] H := hP
  have hD : va_D A [(h4, .inr (4, [.ref r0, .ref r1, .ref sp, .ref be, .ref re, .int (jI g), .int (jI 1)])), (be, .inr (0, [.ref ah, .ref pa, .int (jI n2), .int (jI t2)])), (ah, .inl (cA, 2401, .inl (jA A2))), (pa, .inl (cA, 48, .inl (jA P2))), (sp, .inr (3, [.ref r0, .ref r1, .int (jI K)])), (r0, .inr (1, [.ref a0, .int (jI n0)])), (a0, .inl (cA, 48, .inl (jA L0))), (r1, .inr (1, [.ref a1, .int (jI n1)])), (a1, .inl (cA, 48, .inl (jA L1)))] := hD
  refine W.eq (g2 := F0 m 4 ls [.ref be]) rfl ?_
  have hn2 := fin_n hfin2
  refine lv_iload_n hx hb dX4_link_4 rfl (lv_at hl 1 rfl) ?_
  refine jr_V F (kX0_pairAt l D cA be ah pa n2 t2 P2 x (by omega) (by omega)) cvX4_102 hP [1, 3] rfl 1 rfl rfl hl ⟨rfl, rfl, by decide, by decide⟩ rfl rfl (Nat.le_of_ble_eq_true rfl) dX4_link_5 ⟨by decide, by decide⟩ (fun v hv => ?_)
  subst hv
  refine lv_iload_n hx hb dX4_link_8 rfl (lv_at hl 2 rfl) ?_
  have hat := hn2.2 x
  refine jr_S F (kX4_placeOf l D cA (atv P2 n2 x) wh (by omega) (by omega)) csX4_90 hP [] rfl hl ⟨rfl, rfl, by decide, by decide⟩ rfl rfl (Nat.le_of_ble_eq_true rfl) dX4_link_9 ⟨by decide, by decide⟩ (fun v hv => ?_)
  subst hv
  exact jM.ri F hQ rfl dX4_link_12 hS hP hD (by exact ⟨_, _, _, _, hfin2, rfl, rfl⟩)
set_option maxHeartbeats 4000000 in
set_option maxRecDepth 100000 in
theorem kX4_reach (l : Launch) (D : va_G) (cA : ClassId) (h4 sp be : Nat) (g fr : Int) (re t2 t1 t0 : Nat) (ga lo gp li es ep eq al la : Int) (f2 f1 f0 : Int → Int) (r0 a0 r1 a1 : Nat) (n0 n1 i j : Int) (L0 L1 : Int → Int) (hn0 : 0 ≤ n0 ∧ n0 ≤ 48) (hn1 : 0 ≤ n1 ∧ n1 ≤ 48) (hL0 : ∀ x, 0 ≤ L0 x ∧ L0 x ≤ 3) (hL1 : ∀ x, 0 ≤ L1 x ∧ L1 x ≤ 3) (hi : -2147483648 ≤ i ∧ i < 2147483648) (hj : -2147483648 ≤ j ∧ j < 2147483648) (hga : 1 ≤ ga ∧ ga ≤ 9) (hlo : 0 ≤ lo ∧ lo ≤ 9) (hgp : 1 ≤ gp ∧ gp ≤ 9) (hli : 0 ≤ li ∧ li ≤ 99) : jM l YX4_reach (rmk 4 0 0 92) D cA [.ref h4, .int (jI i), .int (jI j)] [(h4, .inr (4, [.ref r0, .ref r1, .ref sp, .ref be, .ref re, .int (jI g), .int (jI fr)])), (re, .inr (2, [.int (jI ga), .int (jI lo), .int (jI gp), .int (jI li), .ref t2, .ref t1, .ref t0, .int (jI es), .int (jI ep), .int (jI eq), .int (jI al), .int (jI la)])), (t2, .inl (cA, 49, .inl (jA f2))), (t1, .inl (cA, 49, .inl (jA f1))), (t0, .inl (cA, 49, .inl (jA f0))), (r0, .inr (1, [.ref a0, .int (jI n0)])), (a0, .inl (cA, 48, .inl (jA L0))), (r1, .inr (1, [.ref a1, .int (jI n1)])), (a1, .inl (cA, 48, .inl (jA L1)))] (fun v w => (((0 ≤ i ∧ i ≤ n0) ∧ (0 ≤ j ∧ j ≤ n1)) ∧ v = some (.int (jI ((Zi (smv L0 L1 i j ga lo) (n0 - i) (n1 - j) gp li (n0 - i + (n1 - j))).2.2.1))) ∧ ∃ (x y z : Nat) (k2 k1 k0 : Int → Int), w = [(h4, .inr (4, [.ref r0, .ref r1, .ref sp, .ref be, .ref re, .int (jI g), .int (jI fr)])), (re, .inr (2, [.int (jI ga), .int (jI lo), .int (jI gp), .int (jI li), .ref x, .ref y, .ref z, .int (jI ((Zi (smv L0 L1 i j ga lo) (n0 - i) (n1 - j) gp li (n0 - i + (n1 - j))).2.2.1)), .int (jI ((Zi (smv L0 L1 i j ga lo) (n0 - i) (n1 - j) gp li (n0 - i + (n1 - j))).2.2.2.1)), .int (jI ((Zi (smv L0 L1 i j ga lo) (n0 - i) (n1 - j) gp li (n0 - i + (n1 - j))).2.2.2.2.1)), .int (jI ((Zi (smv L0 L1 i j ga lo) (n0 - i) (n1 - j) gp li (n0 - i + (n1 - j))).2.2.2.2.2.1)), .int (jI ((Zi (smv L0 L1 i j ga lo) (n0 - i) (n1 - j) gp li (n0 - i + (n1 - j))).2.2.2.2.2.2))])), (x, .inl (cA, 49, .inl (jA k2))), (y, .inl (cA, 49, .inl (jA k1))), (z, .inl (cA, 49, .inl (jA k0))), (r0, .inr (1, [.ref a0, .int (jI n0)])), (a0, .inl (cA, 48, .inl (jA L0))), (r1, .inr (1, [.ref a1, .int (jI n1)])), (a1, .inl (cA, 48, .inl (jA L1)))]) ∨ (¬ ((0 ≤ i ∧ i ≤ n0) ∧ (0 ≤ j ∧ j ≤ n1)) ∧ v = some (.int (jI (-1))) ∧ w = [(h4, .inr (4, [.ref r0, .ref r1, .ref sp, .ref be, .ref re, .int (jI g), .int (jI fr)])), (re, .inr (2, [.int (jI ga), .int (jI lo), .int (jI gp), .int (jI li), .ref t2, .ref t1, .ref t0, .int (jI es), .int (jI ep), .int (jI eq), .int (jI al), .int (jI la)])), (t2, .inl (cA, 49, .inl (jA f2))), (t1, .inl (cA, 49, .inl (jA f1))), (t0, .inl (cA, 49, .inl (jA f0))), (r0, .inr (1, [.ref a0, .int (jI n0)])), (a0, .inl (cA, 48, .inl (jA L0))), (r1, .inr (1, [.ref a1, .int (jI n1)])), (a1, .inl (cA, 48, .inl (jA L1)))])) 0 0 := by
  refine jM.intro (by decide +kernel) (Nat.le_of_ble_eq_true rfl) ?_
  intro p e s m args below meth c ls Q A F hQ hA hP hD hS hl
  have hx := F.1
  have hb := F.2.1
  have hl : lv_has ls 3 [(0, .ref h4), (1, .int (jI i)), (2, .int (jI j))] := hl
  refine lv_iload_n hx hb dX4_reach_0 rfl (lv_at hl 1 rfl) ?_
  refine lv_iconst (v := jI 0) hx hb dX4_reach_1 rfl ?_
  refine lv_aload_n hx hb dX4_reach_2 rfl (lv_at hl 0 rfl) ?_
  refine jv_get (v := .ref r0) F hP 0 rfl flX4_10 rfl dX4_reach_3 ?_
  refine jr_V F (kX1_size l D cA r0 a0 n0 L0) cvX4_66 hP [5, 6] rfl 5 rfl rfl hl ⟨rfl, rfl, by decide, by decide⟩ rfl rfl (Nat.le_of_ble_eq_true rfl) dX4_reach_6 ⟨by decide, by decide⟩ (fun v hv => ?_)
  subst hv
  refine jr_S F (kX4_isBetween l D cA i 0 n0 (by omega) (by omega) (by omega)) csX4_54 hP [] rfl hl ⟨rfl, rfl, by decide, by decide⟩ rfl rfl (Nat.le_of_ble_eq_true rfl) dX4_reach_9 ⟨by decide, by decide⟩ (fun v hv => ?_)
  obtain ⟨z9, rfl, hz9⟩ := hv
  refine jv_if_eq (tgt := 30) hx hb dX4_reach_12 rfl (by omega) (fun c12 => ?_) (fun c12 => ?_)
  · refine lv_iconst (v := jI (-1)) hx hb dX4_reach_30 rfl ?_
    exact jM.ri F hQ rfl dX4_reach_31 hS hP hD (by exact Or.inr ⟨by omega, rfl, rfl⟩)
  · refine lv_iload_n hx hb dX4_reach_15 rfl (lv_at hl 2 rfl) ?_
    refine lv_iconst (v := jI 0) hx hb dX4_reach_16 rfl ?_
    refine lv_aload_n hx hb dX4_reach_17 rfl (lv_at hl 0 rfl) ?_
    refine jv_get (v := .ref r1) F hP 0 rfl flX4_16 rfl dX4_reach_18 ?_
    refine jr_V F (kX1_size l D cA r1 a1 n1 L1) cvX4_66 hP [7, 8] rfl 7 rfl rfl hl ⟨rfl, rfl, by decide, by decide⟩ rfl rfl (Nat.le_of_ble_eq_true rfl) dX4_reach_21 ⟨by decide, by decide⟩ (fun v hv => ?_)
    subst hv
    refine jr_S F (kX4_isBetween l D cA j 0 n1 (by omega) (by omega) (by omega)) csX4_54 hP [] rfl hl ⟨rfl, rfl, by decide, by decide⟩ rfl rfl (Nat.le_of_ble_eq_true rfl) dX4_reach_24 ⟨by decide, by decide⟩ (fun v hv => ?_)
    obtain ⟨z24, rfl, hz24⟩ := hv
    refine jv_if_ne (tgt := 32) hx hb dX4_reach_27 rfl (by omega) (fun c27 => ?_) (fun c27 => ?_)
    · refine lv_aload_n hx hb dX4_reach_32 rfl (lv_at hl 0 rfl) ?_
      refine jv_get (v := .ref re) F hP 0 rfl flX4_38 rfl dX4_reach_33 ?_
      refine lv_aload_n hx hb dX4_reach_36 rfl (lv_at hl 0 rfl) ?_
      refine jv_get (v := .ref r0) F hP 0 rfl flX4_10 rfl dX4_reach_37 ?_
      refine lv_iload_n hx hb dX4_reach_40 rfl (lv_at hl 1 rfl) ?_
      refine lv_aload_n hx hb dX4_reach_41 rfl (lv_at hl 0 rfl) ?_
      refine jv_get (v := .ref r1) F hP 0 rfl flX4_16 rfl dX4_reach_42 ?_
      refine lv_iload_n hx hb dX4_reach_45 rfl (lv_at hl 2 rfl) ?_
      refine jw_V (wr := [(h4, .inr (4, [.ref r0, .ref r1, .ref sp, .ref be, .ref re, .int (jI g), .int (jI fr)]))]) F (kX2_walk l D cA re t2 t1 t0 ga lo gp li es ep eq al la f2 f1 f0 r0 a0 r1 a1 n0 n1 i j L0 L1 hn0 hn1 hL0 hL1 (by omega) (by omega) hga hlo hgp hli) cvX4_103 hP hD hS hA [1, 2, 3, 4, 5, 6, 7, 8] [0] rfl rfl (by decide) (by decide) 1 rfl rfl hl ⟨rfl, rfl, by decide, by decide⟩ rfl rfl (Nat.le_of_ble_eq_true rfl) dX4_reach_46 ⟨by decide, by decide⟩ (by decide) (fun v w1 H locs hw hP hD hS => ?_)
      obtain ⟨rfl, x, y, z, k2, k1, k0, rfl⟩ := hw
      have hP : va_P D cls [(h4, .inr (4, [.ref r0, .ref r1, .ref sp, .ref be, .ref re, .int (jI g), .int (jI fr)])), (re, .inr (2, [.int (jI ga), .int (jI lo), .int (jI gp), .int (jI li), .ref x, .ref y, .ref z, .int (jI ((Zi (smv L0 L1 i j ga lo) (n0 - i) (n1 - j) gp li (n0 - i + (n1 - j))).2.2.1)), .int (jI ((Zi (smv L0 L1 i j ga lo) (n0 - i) (n1 - j) gp li (n0 - i + (n1 - j))).2.2.2.1)), .int (jI ((Zi (smv L0 L1 i j ga lo) (n0 - i) (n1 - j) gp li (n0 - i + (n1 - j))).2.2.2.2.1)), .int (jI ((Zi (smv L0 L1 i j ga lo) (n0 - i) (n1 - j) gp li (n0 - i + (n1 - j))).2.2.2.2.2.1)), .int (jI ((Zi (smv L0 L1 i j ga lo) (n0 - i) (n1 - j) gp li (n0 - i + (n1 - j))).2.2.2.2.2.2))])), (x, .inl (cA, 49, .inl (jA k2))), (y, .inl (cA, 49, .inl (jA k1))), (z, .inl (cA, 49, .inl (jA k0))), (r0, .inr (1, [.ref a0, .int (jI n0)])), (a0, .inl (cA, 48, .inl (jA L0))), (r1, .inr (1, [.ref a1, .int (jI n1)])), (a1, .inl (cA, 48, .inl (jA L1)))] H := hP
      have hD : va_D A [(h4, .inr (4, [.ref r0, .ref r1, .ref sp, .ref be, .ref re, .int (jI g), .int (jI fr)])), (re, .inr (2, [.int (jI ga), .int (jI lo), .int (jI gp), .int (jI li), .ref x, .ref y, .ref z, .int (jI ((Zi (smv L0 L1 i j ga lo) (n0 - i) (n1 - j) gp li (n0 - i + (n1 - j))).2.2.1)), .int (jI ((Zi (smv L0 L1 i j ga lo) (n0 - i) (n1 - j) gp li (n0 - i + (n1 - j))).2.2.2.1)), .int (jI ((Zi (smv L0 L1 i j ga lo) (n0 - i) (n1 - j) gp li (n0 - i + (n1 - j))).2.2.2.2.1)), .int (jI ((Zi (smv L0 L1 i j ga lo) (n0 - i) (n1 - j) gp li (n0 - i + (n1 - j))).2.2.2.2.2.1)), .int (jI ((Zi (smv L0 L1 i j ga lo) (n0 - i) (n1 - j) gp li (n0 - i + (n1 - j))).2.2.2.2.2.2))])), (x, .inl (cA, 49, .inl (jA k2))), (y, .inl (cA, 49, .inl (jA k1))), (z, .inl (cA, 49, .inl (jA k0))), (r0, .inr (1, [.ref a0, .int (jI n0)])), (a0, .inl (cA, 48, .inl (jA L0))), (r1, .inr (1, [.ref a1, .int (jI n1)])), (a1, .inl (cA, 48, .inl (jA L1)))] := hD
      refine W.eq (g2 := F0 m 49 ls []) rfl ?_
      refine lv_aload_n hx hb dX4_reach_49 rfl (lv_at hl 0 rfl) ?_
      refine jv_get (v := .ref re) F hP 0 rfl flX4_38 rfl dX4_reach_50 ?_
      refine jr_V F (kX2_endScore l D cA re x y z ga lo gp li ((Zi (smv L0 L1 i j ga lo) (n0 - i) (n1 - j) gp li (n0 - i + (n1 - j))).2.2.1) ((Zi (smv L0 L1 i j ga lo) (n0 - i) (n1 - j) gp li (n0 - i + (n1 - j))).2.2.2.1) ((Zi (smv L0 L1 i j ga lo) (n0 - i) (n1 - j) gp li (n0 - i + (n1 - j))).2.2.2.2.1) ((Zi (smv L0 L1 i j ga lo) (n0 - i) (n1 - j) gp li (n0 - i + (n1 - j))).2.2.2.2.2.1) ((Zi (smv L0 L1 i j ga lo) (n0 - i) (n1 - j) gp li (n0 - i + (n1 - j))).2.2.2.2.2.2)) cvX4_107 hP [1] rfl 1 rfl rfl hl ⟨rfl, rfl, by decide, by decide⟩ rfl rfl (Nat.le_of_ble_eq_true rfl) dX4_reach_53 ⟨by decide, by decide⟩ (fun v hv => ?_)
      subst hv
      exact jM.ri F hQ rfl dX4_reach_56 hS hP hD (by exact Or.inl ⟨by omega, rfl, _, _, _, _, _, _, rfl⟩)
    · refine lv_iconst (v := jI (-1)) hx hb dX4_reach_30 rfl ?_
      exact jM.ri F hQ rfl dX4_reach_31 hS hP hD (by exact Or.inr ⟨by omega, rfl, rfl⟩)
set_option maxHeartbeats 4000000 in
set_option maxRecDepth 100000 in
theorem kX4_reached (l : Launch) (D : va_G) (cA : ClassId) (h4 r0 r1 sp be : Nat) (g fr : Int) (re t2 t1 t0 : Nat) (ga lo gp li es ep eq al la : Int) (what : Int) (hw : -2147483648 ≤ what ∧ what < 2147483648) : jR l YX4_reached (rmk 1 0 0 21) D cA [.ref h4, .int (jI what)] [(h4, .inr (4, [.ref r0, .ref r1, .ref sp, .ref be, .ref re, .int (jI g), .int (jI fr)])), (re, .inr (2, [.int (jI ga), .int (jI lo), .int (jI gp), .int (jI li), .ref t2, .ref t1, .ref t0, .int (jI es), .int (jI ep), .int (jI eq), .int (jI al), .int (jI la)]))] (fun v => v = .int (jI (outv ep eq al la what))) := by
  refine jR.intro (by decide +kernel) (Nat.le_of_ble_eq_true rfl) ?_
  intro p e s m args below meth c ls Q F hQ hP hl
  have hx := F.1
  have hb := F.2.1
  have hl : lv_has ls 2 [(0, .ref h4), (1, .int (jI what))] := hl
  refine lv_aload_n hx hb dX4_reached_0 rfl (lv_at hl 0 rfl) ?_
  refine jv_get (v := .ref re) F hP 0 rfl flX4_38 rfl dX4_reached_1 ?_
  refine lv_iload_n hx hb dX4_reached_4 rfl (lv_at hl 1 rfl) ?_
  refine jr_V F (kX2_outcome l D cA re t2 t1 t0 ga lo gp li es ep eq al la what (by omega)) cvX4_110 hP [1] rfl 1 rfl rfl hl ⟨rfl, rfl, by decide, by decide⟩ rfl rfl (Nat.le_of_ble_eq_true rfl) dX4_reached_5 ⟨by decide, by decide⟩ (fun v hv => ?_)
  subst hv
  exact jR.ri F hQ rfl dX4_reached_8 (by rfl)
