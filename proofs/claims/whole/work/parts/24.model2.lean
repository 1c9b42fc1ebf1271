theorem kX5_learn (l : Launch) (D : va_G) (cA : ClassId) (mo ml mn mf mt mw mk mz : Nat) (K g ga lo gp li fo ln bs kn rd ep eq al fa : Int) (M N L0 L1 : Int → Int) (n0 n1 : Int) (f sf wf lk : Int → Int) (hn0 : 0 ≤ n0 ∧ n0 ≤ 48) (hn1 : 0 ≤ n1 ∧ n1 ≤ 48) (hL0 : ∀ x, 0 ≤ L0 x ∧ L0 x ≤ 3) (hL1 : ∀ x, 0 ≤ L1 x ∧ L1 x ≤ 3) (hN0 : N 0 = n0) (hN1 : N 1 = n1) (hM0 : ∀ x, 0 ≤ x → x < 48 → M x = L0 x) (hM1 : ∀ x, 0 ≤ x → x < 48 → M (48 + x) = L1 x) (hK : 1 ≤ K ∧ K ≤ 6) (hg : 0 ≤ g ∧ g ≤ 9) (hkn : kn = 0 ∨ (kn = 1 ∧ knw (anc L0 L1 n0 n1 K) n0 n1 K g f sf fo lk ln bs)) : jM l YX5_learn (rmk 1 0 0 24) D cA [.ref mo] [(mo, .inr (5, [.ref ml, .ref mn, .int (jI K), .int (jI g), .int (jI ga), .int (jI lo), .int (jI gp), .int (jI li), .ref mf, .ref mt, .ref mw, .int (jI fo), .ref mk, .int (jI ln), .int (jI bs), .int (jI kn), .ref mz, .int (jI rd), .int (jI ep), .int (jI eq), .int (jI al), .int (jI fa)])), (ml, .inl (cA, 96, .inl (jA M))), (mn, .inl (cA, 2, .inl (jA N))), (mf, .inl (cA, 2304, .inl (jA f))), (mt, .inl (cA, 2304, .inl (jA sf))), (mw, .inl (cA, 2304, .inl (jA wf))), (mk, .inl (cA, 48, .inl (jA lk)))] (fun v w => v = none ∧ ∃ (f2 s2 w2 k2 : Int → Int) (fo2 ln2 bs2 : Int), knw (anc L0 L1 n0 n1 K) n0 n1 K g f2 s2 fo2 k2 ln2 bs2 ∧ w = [(mo, .inr (5, [.ref ml, .ref mn, .int (jI K), .int (jI g), .int (jI ga), .int (jI lo), .int (jI gp), .int (jI li), .ref mf, .ref mt, .ref mw, .int (jI fo2), .ref mk, .int (jI ln2), .int (jI bs2), .int (jI 1), .ref mz, .int (jI rd), .int (jI ep), .int (jI eq), .int (jI al), .int (jI fa)])), (ml, .inl (cA, 96, .inl (jA M))), (mn, .inl (cA, 2, .inl (jA N))), (mf, .inl (cA, 2304, .inl (jA f2))), (mt, .inl (cA, 2304, .inl (jA s2))), (mw, .inl (cA, 2304, .inl (jA w2))), (mk, .inl (cA, 48, .inl (jA k2)))]) 0 0 := by
  rcases hkn with rfl | ⟨rfl, h⟩
  · exact kX5_learn_0 l D cA mo ml mn mf mt mw mk mz K g ga lo gp li fo ln bs rd ep eq al fa M N L0 L1 n0 n1 f sf wf lk hn0 hn1 hL0 hL1 hN0 hN1 hM0 hM1 hK hg
  · exact kX5_learn_1 l D cA mo ml mn mf mt mw mk mz K g ga lo gp li fo ln bs rd ep eq al fa M N L0 L1 n0 n1 f sf wf lk hn0 hn1 hL0 hL1 hN0 hN1 hM0 hM1 hK hg h
def anv (f s : Int → Int) (T x wh : Int) : Int := if (0 ≤ x ∧ x < T) ∧ (0 ≤ wh ∧ wh ≤ 1) then (if wh = 0 then f x else s x) else -1
theorem anv_n {f s : Int → Int} {T x wh : Int} (h : ¬ ((0 ≤ x ∧ x < T) ∧ (0 ≤ wh ∧ wh ≤ 1))) : anv f s T x wh = -1 := if_neg h
theorem anv_0 {f s : Int → Int} {T x wh : Int} (h : 0 ≤ x ∧ x < T) (h0 : wh = 0) : anv f s T x wh = f x := (if_pos (by omega)).trans (if_pos h0)
theorem anv_1 {f s : Int → Int} {T x wh : Int} (h : 0 ≤ x ∧ x < T) (h0 : wh = 1) : anv f s T x wh = s x := (if_pos (by omega)).trans (if_neg (by omega))
set_option maxHeartbeats 4000000 in
set_option maxRecDepth 100000 in
theorem kX5_anchors (l : Launch) (D : va_G) (cA : ClassId) (mo ml mn mf mt mw mk mz : Nat) (K g ga lo gp li fo ln bs kn rd ep eq al fa : Int) (M N L0 L1 : Int → Int) (n0 n1 : Int) (f sf wf lk : Int → Int) (hn0 : 0 ≤ n0 ∧ n0 ≤ 48) (hn1 : 0 ≤ n1 ∧ n1 ≤ 48) (hL0 : ∀ x, 0 ≤ L0 x ∧ L0 x ≤ 3) (hL1 : ∀ x, 0 ≤ L1 x ∧ L1 x ≤ 3) (hN0 : N 0 = n0) (hN1 : N 1 = n1) (hM0 : ∀ x, 0 ≤ x → x < 48 → M x = L0 x) (hM1 : ∀ x, 0 ≤ x → x < 48 → M (48 + x) = L1 x) (hK : 1 ≤ K ∧ K ≤ 6) (hg : 0 ≤ g ∧ g ≤ 9) (hkn : kn = 0 ∨ (kn = 1 ∧ knw (anc L0 L1 n0 n1 K) n0 n1 K g f sf fo lk ln bs)) : jM l YX5_anchors (rmk 2 0 0 49) D cA [.ref mo] [(mo, .inr (5, [.ref ml, .ref mn, .int (jI K), .int (jI g), .int (jI ga), .int (jI lo), .int (jI gp), .int (jI li), .ref mf, .ref mt, .ref mw, .int (jI fo), .ref mk, .int (jI ln), .int (jI bs), .int (jI kn), .ref mz, .int (jI rd), .int (jI ep), .int (jI eq), .int (jI al), .int (jI fa)])), (ml, .inl (cA, 96, .inl (jA M))), (mn, .inl (cA, 2, .inl (jA N))), (mf, .inl (cA, 2304, .inl (jA f))), (mt, .inl (cA, 2304, .inl (jA sf))), (mw, .inl (cA, 2304, .inl (jA wf))), (mk, .inl (cA, 48, .inl (jA lk)))] (fun v w => ∃ (f2 s2 w2 k2 : Int → Int) (fo2 ln2 bs2 : Int), knw (anc L0 L1 n0 n1 K) n0 n1 K g f2 s2 fo2 k2 ln2 bs2 ∧ v = some (.int (jI (fo2))) ∧ w = [(mo, .inr (5, [.ref ml, .ref mn, .int (jI K), .int (jI g), .int (jI ga), .int (jI lo), .int (jI gp), .int (jI li), .ref mf, .ref mt, .ref mw, .int (jI fo2), .ref mk, .int (jI ln2), .int (jI bs2), .int (jI 1), .ref mz, .int (jI rd), .int (jI ep), .int (jI eq), .int (jI al), .int (jI fa)])), (ml, .inl (cA, 96, .inl (jA M))), (mn, .inl (cA, 2, .inl (jA N))), (mf, .inl (cA, 2304, .inl (jA f2))), (mt, .inl (cA, 2304, .inl (jA s2))), (mw, .inl (cA, 2304, .inl (jA w2))), (mk, .inl (cA, 48, .inl (jA k2)))]) 0 0 := by
  refine jM.intro (by decide +kernel) (Nat.le_of_ble_eq_true rfl) ?_
  intro p e s m args below meth c ls Q A F hQ hA hP hD hS hl
  have hx := F.1
  have hb := F.2.1
  have hl : lv_has ls 1 [(0, .ref mo)] := hl
  refine lv_aload_n hx hb dX5_anchors_0 rfl (lv_at hl 0 rfl) ?_
  refine jw_V (wr := []) F (kX5_learn l D cA mo ml mn mf mt mw mk mz K g ga lo gp li fo ln bs kn rd ep eq al fa M N L0 L1 n0 n1 f sf wf lk hn0 hn1 hL0 hL1 hN0 hN1 hM0 hM1 hK hg hkn) cvX5_75 hP hD hS hA [0, 1, 2, 3, 4, 5, 6] [] rfl rfl (by decide) (by decide) 0 rfl rfl hl ⟨rfl, rfl, by decide, by decide⟩ rfl rfl (Nat.le_of_ble_eq_true rfl) dX5_anchors_1 ⟨by decide, by decide⟩ (by decide) (fun v w1 H locs hw hP hD hS => ?_)
  obtain ⟨rfl, f2, s2, w2, k2, fo2, ln2, bs2, hkn2, rfl⟩ := hw
  have hP : va_P D cls [(mo, .inr (5, [.ref ml, .ref mn, .int (jI K), .int (jI g), .int (jI ga), .int (jI lo), .int (jI gp), .int (jI li), .ref mf, .ref mt, .ref mw, .int (jI fo2), .ref mk, .int (jI ln2), .int (jI bs2), .int (jI 1), .ref mz, .int (jI rd), .int (jI ep), .int (jI eq), .int (jI al), .int (jI fa)])), (ml, .inl (cA, 96, .inl (jA M))), (mn, .inl (cA, 2, .inl (jA N))), (mf, .inl (cA, 2304, .inl (jA f2))), (mt, .inl (cA, 2304, .inl (jA s2))), (mw, .inl (cA, 2304, .inl (jA w2))), (mk, .inl (cA, 48, .inl (jA k2)))] H := hP
  have hD : va_D A [(mo, .inr (5, [.ref ml, .ref mn, .int (jI K), .int (jI g), .int (jI ga), .int (jI lo), .int (jI gp), .int (jI li), .ref mf, .ref mt, .ref mw, .int (jI fo2), .ref mk, .int (jI ln2), .int (jI bs2), .int (jI 1), .ref mz, .int (jI rd), .int (jI ep), .int (jI eq), .int (jI al), .int (jI fa)])), (ml, .inl (cA, 96, .inl (jA M))), (mn, .inl (cA, 2, .inl (jA N))), (mf, .inl (cA, 2304, .inl (jA f2))), (mt, .inl (cA, 2304, .inl (jA s2))), (mw, .inl (cA, 2304, .inl (jA w2))), (mk, .inl (cA, 48, .inl (jA k2)))] := hD
  refine W.eq (g2 := F0 m 4 ls []) rfl ?_
  have hk3 := hkn2.2.2
  refine lv_aload_n hx hb dX5_anchors_4 rfl (lv_at hl 0 rfl) ?_
  refine jv_get (v := .int (jI fo2)) F hP 0 rfl flX5_58 rfl dX5_anchors_5 ?_
  exact jM.ri F hQ rfl dX5_anchors_8 hS hP hD (by exact ⟨_, _, _, _, _, _, _, hkn2, rfl, rfl⟩)
set_option maxHeartbeats 4000000 in
set_option maxRecDepth 100000 in
theorem kX5_chain (l : Launch) (D : va_G) (cA : ClassId) (mo ml mn mf mt mw mk mz : Nat) (K g ga lo gp li fo ln bs kn rd ep eq al fa : Int) (M N L0 L1 : Int → Int) (n0 n1 : Int) (f sf wf lk : Int → Int) (hn0 : 0 ≤ n0 ∧ n0 ≤ 48) (hn1 : 0 ≤ n1 ∧ n1 ≤ 48) (hL0 : ∀ x, 0 ≤ L0 x ∧ L0 x ≤ 3) (hL1 : ∀ x, 0 ≤ L1 x ∧ L1 x ≤ 3) (hN0 : N 0 = n0) (hN1 : N 1 = n1) (hM0 : ∀ x, 0 ≤ x → x < 48 → M x = L0 x) (hM1 : ∀ x, 0 ≤ x → x < 48 → M (48 + x) = L1 x) (hK : 1 ≤ K ∧ K ≤ 6) (hg : 0 ≤ g ∧ g ≤ 9) (hkn : kn = 0 ∨ (kn = 1 ∧ knw (anc L0 L1 n0 n1 K) n0 n1 K g f sf fo lk ln bs)) : jM l YX5_chain (rmk 2 0 0 49) D cA [.ref mo] [(mo, .inr (5, [.ref ml, .ref mn, .int (jI K), .int (jI g), .int (jI ga), .int (jI lo), .int (jI gp), .int (jI li), .ref mf, .ref mt, .ref mw, .int (jI fo), .ref mk, .int (jI ln), .int (jI bs), .int (jI kn), .ref mz, .int (jI rd), .int (jI ep), .int (jI eq), .int (jI al), .int (jI fa)])), (ml, .inl (cA, 96, .inl (jA M))), (mn, .inl (cA, 2, .inl (jA N))), (mf, .inl (cA, 2304, .inl (jA f))), (mt, .inl (cA, 2304, .inl (jA sf))), (mw, .inl (cA, 2304, .inl (jA wf))), (mk, .inl (cA, 48, .inl (jA lk)))] (fun v w => ∃ (f2 s2 w2 k2 : Int → Int) (fo2 ln2 bs2 : Int), knw (anc L0 L1 n0 n1 K) n0 n1 K g f2 s2 fo2 k2 ln2 bs2 ∧ v = some (.int (jI (bs2))) ∧ w = [(mo, .inr (5, [.ref ml, .ref mn, .int (jI K), .int (jI g), .int (jI ga), .int (jI lo), .int (jI gp), .int (jI li), .ref mf, .ref mt, .ref mw, .int (jI fo2), .ref mk, .int (jI ln2), .int (jI bs2), .int (jI 1), .ref mz, .int (jI rd), .int (jI ep), .int (jI eq), .int (jI al), .int (jI fa)])), (ml, .inl (cA, 96, .inl (jA M))), (mn, .inl (cA, 2, .inl (jA N))), (mf, .inl (cA, 2304, .inl (jA f2))), (mt, .inl (cA, 2304, .inl (jA s2))), (mw, .inl (cA, 2304, .inl (jA w2))), (mk, .inl (cA, 48, .inl (jA k2)))]) 0 0 := by
  refine jM.intro (by decide +kernel) (Nat.le_of_ble_eq_true rfl) ?_
  intro p e s m args below meth c ls Q A F hQ hA hP hD hS hl
  have hx := F.1
  have hb := F.2.1
  have hl : lv_has ls 1 [(0, .ref mo)] := hl
  refine lv_aload_n hx hb dX5_chain_0 rfl (lv_at hl 0 rfl) ?_
  refine jw_V (wr := []) F (kX5_learn l D cA mo ml mn mf mt mw mk mz K g ga lo gp li fo ln bs kn rd ep eq al fa M N L0 L1 n0 n1 f sf wf lk hn0 hn1 hL0 hL1 hN0 hN1 hM0 hM1 hK hg hkn) cvX5_75 hP hD hS hA [0, 1, 2, 3, 4, 5, 6] [] rfl rfl (by decide) (by decide) 0 rfl rfl hl ⟨rfl, rfl, by decide, by decide⟩ rfl rfl (Nat.le_of_ble_eq_true rfl) dX5_chain_1 ⟨by decide, by decide⟩ (by decide) (fun v w1 H locs hw hP hD hS => ?_)
  obtain ⟨rfl, f2, s2, w2, k2, fo2, ln2, bs2, hkn2, rfl⟩ := hw
  have hP : va_P D cls [(mo, .inr (5, [.ref ml, .ref mn, .int (jI K), .int (jI g), .int (jI ga), .int (jI lo), .int (jI gp), .int (jI li), .ref mf, .ref mt, .ref mw, .int (jI fo2), .ref mk, .int (jI ln2), .int (jI bs2), .int (jI 1), .ref mz, .int (jI rd), .int (jI ep), .int (jI eq), .int (jI al), .int (jI fa)])), (ml, .inl (cA, 96, .inl (jA M))), (mn, .inl (cA, 2, .inl (jA N))), (mf, .inl (cA, 2304, .inl (jA f2))), (mt, .inl (cA, 2304, .inl (jA s2))), (mw, .inl (cA, 2304, .inl (jA w2))), (mk, .inl (cA, 48, .inl (jA k2)))] H := hP
  have hD : va_D A [(mo, .inr (5, [.ref ml, .ref mn, .int (jI K), .int (jI g), .int (jI ga), .int (jI lo), .int (jI gp), .int (jI li), .ref mf, .ref mt, .ref mw, .int (jI fo2), .ref mk, .int (jI ln2), .int (jI bs2), .int (jI 1), .ref mz, .int (jI rd), .int (jI ep), .int (jI eq), .int (jI al), .int (jI fa)])), (ml, .inl (cA, 96, .inl (jA M))), (mn, .inl (cA, 2, .inl (jA N))), (mf, .inl (cA, 2304, .inl (jA f2))), (mt, .inl (cA, 2304, .inl (jA s2))), (mw, .inl (cA, 2304, .inl (jA w2))), (mk, .inl (cA, 48, .inl (jA k2)))] := hD
  refine W.eq (g2 := F0 m 4 ls []) rfl ?_
  have hk3 := hkn2.2.2
  refine lv_aload_n hx hb dX5_chain_4 rfl (lv_at hl 0 rfl) ?_
  refine jv_get (v := .int (jI bs2)) F hP 0 rfl flX5_65 rfl dX5_chain_5 ?_
  exact jM.ri F hQ rfl dX5_chain_8 hS hP hD (by exact ⟨_, _, _, _, _, _, _, hkn2, rfl, rfl⟩)
set_option maxHeartbeats 4000000 in
set_option maxRecDepth 100000 in
theorem kX5_links (l : Launch) (D : va_G) (cA : ClassId) (mo ml mn mf mt mw mk mz : Nat) (K g ga lo gp li fo ln bs kn rd ep eq al fa : Int) (M N L0 L1 : Int → Int) (n0 n1 : Int) (f sf wf lk : Int → Int) (hn0 : 0 ≤ n0 ∧ n0 ≤ 48) (hn1 : 0 ≤ n1 ∧ n1 ≤ 48) (hL0 : ∀ x, 0 ≤ L0 x ∧ L0 x ≤ 3) (hL1 : ∀ x, 0 ≤ L1 x ∧ L1 x ≤ 3) (hN0 : N 0 = n0) (hN1 : N 1 = n1) (hM0 : ∀ x, 0 ≤ x → x < 48 → M x = L0 x) (hM1 : ∀ x, 0 ≤ x → x < 48 → M (48 + x) = L1 x) (hK : 1 ≤ K ∧ K ≤ 6) (hg : 0 ≤ g ∧ g ≤ 9) (hkn : kn = 0 ∨ (kn = 1 ∧ knw (anc L0 L1 n0 n1 K) n0 n1 K g f sf fo lk ln bs)) : jM l YX5_links (rmk 2 0 0 49) D cA [.ref mo] [(mo, .inr (5, [.ref ml, .ref mn, .int (jI K), .int (jI g), .int (jI ga), .int (jI lo), .int (jI gp), .int (jI li), .ref mf, .ref mt, .ref mw, .int (jI fo), .ref mk, .int (jI ln), .int (jI bs), .int (jI kn), .ref mz, .int (jI rd), .int (jI ep), .int (jI eq), .int (jI al), .int (jI fa)])), (ml, .inl (cA, 96, .inl (jA M))), (mn, .inl (cA, 2, .inl (jA N))), (mf, .inl (cA, 2304, .inl (jA f))), (mt, .inl (cA, 2304, .inl (jA sf))), (mw, .inl (cA, 2304, .inl (jA wf))), (mk, .inl (cA, 48, .inl (jA lk)))] (fun v w => ∃ (f2 s2 w2 k2 : Int → Int) (fo2 ln2 bs2 : Int), knw (anc L0 L1 n0 n1 K) n0 n1 K g f2 s2 fo2 k2 ln2 bs2 ∧ v = some (.int (jI (ln2))) ∧ w = [(mo, .inr (5, [.ref ml, .ref mn, .int (jI K), .int (jI g), .int (jI ga), .int (jI lo), .int (jI gp), .int (jI li), .ref mf, .ref mt, .ref mw, .int (jI fo2), .ref mk, .int (jI ln2), .int (jI bs2), .int (jI 1), .ref mz, .int (jI rd), .int (jI ep), .int (jI eq), .int (jI al), .int (jI fa)])), (ml, .inl (cA, 96, .inl (jA M))), (mn, .inl (cA, 2, .inl (jA N))), (mf, .inl (cA, 2304, .inl (jA f2))), (mt, .inl (cA, 2304, .inl (jA s2))), (mw, .inl (cA, 2304, .inl (jA w2))), (mk, .inl (cA, 48, .inl (jA k2)))]) 0 0 := by
  refine jM.intro (by decide +kernel) (Nat.le_of_ble_eq_true rfl) ?_
  intro p e s m args below meth c ls Q A F hQ hA hP hD hS hl
  have hx := F.1
  have hb := F.2.1
  have hl : lv_has ls 1 [(0, .ref mo)] := hl
  refine lv_aload_n hx hb dX5_links_0 rfl (lv_at hl 0 rfl) ?_
  refine jw_V (wr := []) F (kX5_learn l D cA mo ml mn mf mt mw mk mz K g ga lo gp li fo ln bs kn rd ep eq al fa M N L0 L1 n0 n1 f sf wf lk hn0 hn1 hL0 hL1 hN0 hN1 hM0 hM1 hK hg hkn) cvX5_75 hP hD hS hA [0, 1, 2, 3, 4, 5, 6] [] rfl rfl (by decide) (by decide) 0 rfl rfl hl ⟨rfl, rfl, by decide, by decide⟩ rfl rfl (Nat.le_of_ble_eq_true rfl) dX5_links_1 ⟨by decide, by decide⟩ (by decide) (fun v w1 H locs hw hP hD hS => ?_)
  obtain ⟨rfl, f2, s2, w2, k2, fo2, ln2, bs2, hkn2, rfl⟩ := hw
  have hP : va_P D cls [(mo, .inr (5, [.ref ml, .ref mn, .int (jI K), .int (jI g), .int (jI ga), .int (jI lo), .int (jI gp), .int (jI li), .ref mf, .ref mt, .ref mw, .int (jI fo2), .ref mk, .int (jI ln2), .int (jI bs2), .int (jI 1), .ref mz, .int (jI rd), .int (jI ep), .int (jI eq), .int (jI al), .int (jI fa)])), (ml, .inl (cA, 96, .inl (jA M))), (mn, .inl (cA, 2, .inl (jA N))), (mf, .inl (cA, 2304, .inl (jA f2))), (mt, .inl (cA, 2304, .inl (jA s2))), (mw, .inl (cA, 2304, .inl (jA w2))), (mk, .inl (cA, 48, .inl (jA k2)))] H := hP
  have hD : va_D A [(mo, .inr (5, [.ref ml, .ref mn, .int (jI K), .int (jI g), .int (jI ga), .int (jI lo), .int (jI gp), .int (jI li), .ref mf, .ref mt, .ref mw, .int (jI fo2), .ref mk, .int (jI ln2), .int (jI bs2), .int (jI 1), .ref mz, .int (jI rd), .int (jI ep), .int (jI eq), .int (jI al), .int (jI fa)])), (ml, .inl (cA, 96, .inl (jA M))), (mn, .inl (cA, 2, .inl (jA N))), (mf, .inl (cA, 2304, .inl (jA f2))), (mt, .inl (cA, 2304, .inl (jA s2))), (mw, .inl (cA, 2304, .inl (jA w2))), (mk, .inl (cA, 48, .inl (jA k2)))] := hD
  refine W.eq (g2 := F0 m 4 ls []) rfl ?_
  have hk3 := hkn2.2.2
  refine lv_aload_n hx hb dX5_links_4 rfl (lv_at hl 0 rfl) ?_
  refine jv_get (v := .int (jI ln2)) F hP 0 rfl flX5_72 rfl dX5_links_5 ?_
  exact jM.ri F hQ rfl dX5_links_8 hS hP hD (by exact ⟨_, _, _, _, _, _, _, hkn2, rfl, rfl⟩)
set_option maxHeartbeats 4000000 in
set_option maxRecDepth 100000 in
theorem kX5_anchor (l : Launch) (D : va_G) (cA : ClassId) (mo ml mn mf mt mw mk mz : Nat) (K g ga lo gp li fo ln bs kn rd ep eq al fa : Int) (M N L0 L1 : Int → Int) (n0 n1 : Int) (f sf wf lk : Int → Int) (x wh : Int) (hn0 : 0 ≤ n0 ∧ n0 ≤ 48) (hn1 : 0 ≤ n1 ∧ n1 ≤ 48) (hL0 : ∀ x, 0 ≤ L0 x ∧ L0 x ≤ 3) (hL1 : ∀ x, 0 ≤ L1 x ∧ L1 x ≤ 3) (hN0 : N 0 = n0) (hN1 : N 1 = n1) (hM0 : ∀ x, 0 ≤ x → x < 48 → M x = L0 x) (hM1 : ∀ x, 0 ≤ x → x < 48 → M (48 + x) = L1 x) (hK : 1 ≤ K ∧ K ≤ 6) (hg : 0 ≤ g ∧ g ≤ 9) (hkn : kn = 0 ∨ (kn = 1 ∧ knw (anc L0 L1 n0 n1 K) n0 n1 K g f sf fo lk ln bs)) (hx0 : -2147483648 ≤ x ∧ x < 2147483648) (hw : -2147483648 ≤ wh ∧ wh < 2147483648) : jM l YX5_anchor (rmk 2 0 0 49) D cA [.ref mo, .int (jI x), .int (jI wh)] [(mo, .inr (5, [.ref ml, .ref mn, .int (jI K), .int (jI g), .int (jI ga), .int (jI lo), .int (jI gp), .int (jI li), .ref mf, .ref mt, .ref mw, .int (jI fo), .ref mk, .int (jI ln), .int (jI bs), .int (jI kn), .ref mz, .int (jI rd), .int (jI ep), .int (jI eq), .int (jI al), .int (jI fa)])), (ml, .inl (cA, 96, .inl (jA M))), (mn, .inl (cA, 2, .inl (jA N))), (mf, .inl (cA, 2304, .inl (jA f))), (mt, .inl (cA, 2304, .inl (jA sf))), (mw, .inl (cA, 2304, .inl (jA wf))), (mk, .inl (cA, 48, .inl (jA lk)))] (fun v w => ∃ (f2 s2 w2 k2 : Int → Int) (fo2 ln2 bs2 : Int), knw (anc L0 L1 n0 n1 K) n0 n1 K g f2 s2 fo2 k2 ln2 bs2 ∧ v = some (.int (jI (anv f2 s2 fo2 x wh))) ∧ w = [(mo, .inr (5, [.ref ml, .ref mn, .int (jI K), .int (jI g), .int (jI ga), .int (jI lo), .int (jI gp), .int (jI li), .ref mf, .ref mt, .ref mw, .int (jI fo2), .ref mk, .int (jI ln2), .int (jI bs2), .int (jI 1), .ref mz, .int (jI rd), .int (jI ep), .int (jI eq), .int (jI al), .int (jI fa)])), (ml, .inl (cA, 96, .inl (jA M))), (mn, .inl (cA, 2, .inl (jA N))), (mf, .inl (cA, 2304, .inl (jA f2))), (mt, .inl (cA, 2304, .inl (jA s2))), (mw, .inl (cA, 2304, .inl (jA w2))), (mk, .inl (cA, 48, .inl (jA k2)))]) 0 0 := by
  refine jM.intro (by decide +kernel) (Nat.le_of_ble_eq_true rfl) ?_
  intro p e s m args below meth c ls Q A F hQ hA hP hD hS hl
  have hx := F.1
  have hb := F.2.1
  have hl : lv_has ls 3 [(0, .ref mo), (1, .int (jI x)), (2, .int (jI wh))] := hl
  refine lv_aload_n hx hb dX5_anchor_0 rfl (lv_at hl 0 rfl) ?_
  refine jw_V (wr := []) F (kX5_learn l D cA mo ml mn mf mt mw mk mz K g ga lo gp li fo ln bs kn rd ep eq al fa M N L0 L1 n0 n1 f sf wf lk hn0 hn1 hL0 hL1 hN0 hN1 hM0 hM1 hK hg hkn) cvX5_75 hP hD hS hA [0, 1, 2, 3, 4, 5, 6] [] rfl rfl (by decide) (by decide) 0 rfl rfl hl ⟨rfl, rfl, by decide, by decide⟩ rfl rfl (Nat.le_of_ble_eq_true rfl) dX5_anchor_1 ⟨by decide, by decide⟩ (by decide) (fun v w1 H locs hw hP hD hS => ?_)
  obtain ⟨rfl, f2, s2, w2, k2, fo2, ln2, bs2, hkn2, rfl⟩ := hw
  have hP : va_P D cls [(mo, .inr (5, [.ref ml, .ref mn, .int (jI K), .int (jI g), .int (jI ga), .int (jI lo), .int (jI gp), .int (jI li), .ref mf, .ref mt, .ref mw, .int (jI fo2), .ref mk, .int (jI ln2), .int (jI bs2), .int (jI 1), .ref mz, .int (jI rd), .int (jI ep), .int (jI eq), .int (jI al), .int (jI fa)])), (ml, .inl (cA, 96, .inl (jA M))), (mn, .inl (cA, 2, .inl (jA N))), (mf, .inl (cA, 2304, .inl (jA f2))), (mt, .inl (cA, 2304, .inl (jA s2))), (mw, .inl (cA, 2304, .inl (jA w2))), (mk, .inl (cA, 48, .inl (jA k2)))] H := hP
  have hD : va_D A [(mo, .inr (5, [.ref ml, .ref mn, .int (jI K), .int (jI g), .int (jI ga), .int (jI lo), .int (jI gp), .int (jI li), .ref mf, .ref mt, .ref mw, .int (jI fo2), .ref mk, .int (jI ln2), .int (jI bs2), .int (jI 1), .ref mz, .int (jI rd), .int (jI ep), .int (jI eq), .int (jI al), .int (jI fa)])), (ml, .inl (cA, 96, .inl (jA M))), (mn, .inl (cA, 2, .inl (jA N))), (mf, .inl (cA, 2304, .inl (jA f2))), (mt, .inl (cA, 2304, .inl (jA s2))), (mw, .inl (cA, 2304, .inl (jA w2))), (mk, .inl (cA, 48, .inl (jA k2)))] := hD
  refine W.eq (g2 := F0 m 4 ls []) rfl ?_
  have hk3 := hkn2.2.2
  have hT2 : 0 ≤ fo2 ∧ fo2 ≤ 2304 := hk3.2.2
  refine lv_iload_n hx hb dX5_anchor_4 rfl (lv_at hl 1 rfl) ?_
  refine jv_if_lt (tgt := 25) hx hb dX5_anchor_5 rfl (by omega) (fun c5 => ?_) (fun c5 => ?_)
  · refine lv_iconst (v := jI (-1)) hx hb dX5_anchor_25 rfl ?_
    exact jM.ri F hQ rfl dX5_anchor_26 hS hP hD (by refine ⟨_, _, _, _, _, _, _, hkn2, ?_, rfl⟩; first | (rw [anv_n (by omega)]; done) | (rw [anv_0 (by omega) (by omega)]; done) | (rw [anv_1 (by omega) (by omega)]; done))
  · refine lv_iload_n hx hb dX5_anchor_8 rfl (lv_at hl 1 rfl) ?_
    refine lv_aload_n hx hb dX5_anchor_9 rfl (lv_at hl 0 rfl) ?_
    refine jv_get (v := .int (jI fo2)) F hP 0 rfl flX5_58 rfl dX5_anchor_10 ?_
    refine jv_icmp_ge (tgt := 25) hx hb dX5_anchor_13 rfl (by omega) (by omega) (fun c13 => ?_) (fun c13 => ?_)
    · refine lv_iconst (v := jI (-1)) hx hb dX5_anchor_25 rfl ?_
      exact jM.ri F hQ rfl dX5_anchor_26 hS hP hD (by refine ⟨_, _, _, _, _, _, _, hkn2, ?_, rfl⟩; first | (rw [anv_n (by omega)]; done) | (rw [anv_0 (by omega) (by omega)]; done) | (rw [anv_1 (by omega) (by omega)]; done))
    · refine lv_iload_n hx hb dX5_anchor_16 rfl (lv_at hl 2 rfl) ?_
      refine jv_if_lt (tgt := 25) hx hb dX5_anchor_17 rfl (by omega) (fun c17 => ?_) (fun c17 => ?_)
      · refine lv_iconst (v := jI (-1)) hx hb dX5_anchor_25 rfl ?_
        exact jM.ri F hQ rfl dX5_anchor_26 hS hP hD (by refine ⟨_, _, _, _, _, _, _, hkn2, ?_, rfl⟩; first | (rw [anv_n (by omega)]; done) | (rw [anv_0 (by omega) (by omega)]; done) | (rw [anv_1 (by omega) (by omega)]; done))
      · refine lv_iload_n hx hb dX5_anchor_20 rfl (lv_at hl 2 rfl) ?_
        refine lv_iconst (v := jI 1) hx hb dX5_anchor_21 rfl ?_
        refine jv_icmp_le (tgt := 27) hx hb dX5_anchor_22 rfl (by omega) (by omega) (fun c22 => ?_) (fun c22 => ?_)
        · refine lv_iload_n hx hb dX5_anchor_27 rfl (lv_at hl 2 rfl) ?_
          refine jv_if_ne (tgt := 40) hx hb dX5_anchor_28 rfl (by omega) (fun c28 => ?_) (fun c28 => ?_)
          · refine lv_aload_n hx hb dX5_anchor_40 rfl (lv_at hl 0 rfl) ?_
            refine jv_get (v := .ref mt) F hP 0 rfl flX5_38 rfl dX5_anchor_41 ?_
            refine lv_iload_n hx hb dX5_anchor_44 rfl (lv_at hl 1 rfl) ?_
            refine jv_iald (fa := s2) F hP 4 rfl (by omega) (by decide) dX5_anchor_45 ?_
            exact jM.ri F hQ rfl dX5_anchor_46 hS hP hD (by refine ⟨_, _, _, _, _, _, _, hkn2, ?_, rfl⟩; first | (rw [anv_n (by omega)]; done) | (rw [anv_0 (by omega) (by omega)]; done) | (rw [anv_1 (by omega) (by omega)]; done))
          · refine lv_aload_n hx hb dX5_anchor_31 rfl (lv_at hl 0 rfl) ?_
            refine jv_get (v := .ref mf) F hP 0 rfl flX5_35 rfl dX5_anchor_32 ?_
            refine lv_iload_n hx hb dX5_anchor_35 rfl (lv_at hl 1 rfl) ?_
            refine jv_iald (fa := f2) F hP 3 rfl (by omega) (by decide) dX5_anchor_36 ?_
            refine lv_goto (tgt := 46) hx hb dX5_anchor_37 rfl ?_
            exact jM.ri F hQ rfl dX5_anchor_46 hS hP hD (by refine ⟨_, _, _, _, _, _, _, hkn2, ?_, rfl⟩; first | (rw [anv_n (by omega)]; done) | (rw [anv_0 (by omega) (by omega)]; done) | (rw [anv_1 (by omega) (by omega)]; done))
        · refine lv_iconst (v := jI (-1)) hx hb dX5_anchor_25 rfl ?_
          exact jM.ri F hQ rfl dX5_anchor_26 hS hP hD (by refine ⟨_, _, _, _, _, _, _, hkn2, ?_, rfl⟩; first | (rw [anv_n (by omega)]; done) | (rw [anv_0 (by omega) (by omega)]; done) | (rw [anv_1 (by omega) (by omega)]; done))
set_option maxHeartbeats 4000000 in
set_option maxRecDepth 100000 in
theorem kX5_link (l : Launch) (D : va_G) (cA : ClassId) (mo ml mn mf mt mw mk mz : Nat) (K g ga lo gp li fo ln bs kn rd ep eq al fa : Int) (M N L0 L1 : Int → Int) (n0 n1 : Int) (f sf wf lk : Int → Int) (x wh : Int) (hn0 : 0 ≤ n0 ∧ n0 ≤ 48) (hn1 : 0 ≤ n1 ∧ n1 ≤ 48) (hL0 : ∀ x, 0 ≤ L0 x ∧ L0 x ≤ 3) (hL1 : ∀ x, 0 ≤ L1 x ∧ L1 x ≤ 3) (hN0 : N 0 = n0) (hN1 : N 1 = n1) (hM0 : ∀ x, 0 ≤ x → x < 48 → M x = L0 x) (hM1 : ∀ x, 0 ≤ x → x < 48 → M (48 + x) = L1 x) (hK : 1 ≤ K ∧ K ≤ 6) (hg : 0 ≤ g ∧ g ≤ 9) (hkn : kn = 0 ∨ (kn = 1 ∧ knw (anc L0 L1 n0 n1 K) n0 n1 K g f sf fo lk ln bs)) (hx0 : -2147483648 ≤ x ∧ x < 2147483648) (hw : -2147483648 ≤ wh ∧ wh < 2147483648) : jM l YX5_link (rmk 2 0 0 49) D cA [.ref mo, .int (jI x), .int (jI wh)] [(mo, .inr (5, [.ref ml, .ref mn, .int (jI K), .int (jI g), .int (jI ga), .int (jI lo), .int (jI gp), .int (jI li), .ref mf, .ref mt, .ref mw, .int (jI fo), .ref mk, .int (jI ln), .int (jI bs), .int (jI kn), .ref mz, .int (jI rd), .int (jI ep), .int (jI eq), .int (jI al), .int (jI fa)])), (ml, .inl (cA, 96, .inl (jA M))), (mn, .inl (cA, 2, .inl (jA N))), (mf, .inl (cA, 2304, .inl (jA f))), (mt, .inl (cA, 2304, .inl (jA sf))), (mw, .inl (cA, 2304, .inl (jA wf))), (mk, .inl (cA, 48, .inl (jA lk)))] (fun v w => ∃ (f2 s2 w2 k2 : Int → Int) (fo2 ln2 bs2 : Int), knw (anc L0 L1 n0 n1 K) n0 n1 K g f2 s2 fo2 k2 ln2 bs2 ∧ v = some (.int (jI (anv (fun q => f2 (k2 q)) (fun q => s2 (k2 q)) ln2 x wh))) ∧ w = [(mo, .inr (5, [.ref ml, .ref mn, .int (jI K), .int (jI g), .int (jI ga), .int (jI lo), .int (jI gp), .int (jI li), .ref mf, .ref mt, .ref mw, .int (jI fo2), .ref mk, .int (jI ln2), .int (jI bs2), .int (jI 1), .ref mz, .int (jI rd), .int (jI ep), .int (jI eq), .int (jI al), .int (jI fa)])), (ml, .inl (cA, 96, .inl (jA M))), (mn, .inl (cA, 2, .inl (jA N))), (mf, .inl (cA, 2304, .inl (jA f2))), (mt, .inl (cA, 2304, .inl (jA s2))), (mw, .inl (cA, 2304, .inl (jA w2))), (mk, .inl (cA, 48, .inl (jA k2)))]) 0 0 := by
  refine jM.intro (by decide +kernel) (Nat.le_of_ble_eq_true rfl) ?_
  intro p e s m args below meth c ls Q A F hQ hA hP hD hS hl
  have hx := F.1
  have hb := F.2.1
  have hl : lv_has ls 3 [(0, .ref mo), (1, .int (jI x)), (2, .int (jI wh))] := hl
  refine lv_aload_n hx hb dX5_link_0 rfl (lv_at hl 0 rfl) ?_
  refine jw_V (wr := []) F (kX5_learn l D cA mo ml mn mf mt mw mk mz K g ga lo gp li fo ln bs kn rd ep eq al fa M N L0 L1 n0 n1 f sf wf lk hn0 hn1 hL0 hL1 hN0 hN1 hM0 hM1 hK hg hkn) cvX5_75 hP hD hS hA [0, 1, 2, 3, 4, 5, 6] [] rfl rfl (by decide) (by decide) 0 rfl rfl hl ⟨rfl, rfl, by decide, by decide⟩ rfl rfl (Nat.le_of_ble_eq_true rfl) dX5_link_1 ⟨by decide, by decide⟩ (by decide) (fun v w1 H locs hw hP hD hS => ?_)
  obtain ⟨rfl, f2, s2, w2, k2, fo2, ln2, bs2, hkn2, rfl⟩ := hw
  have hP : va_P D cls [(mo, .inr (5, [.ref ml, .ref mn, .int (jI K), .int (jI g), .int (jI ga), .int (jI lo), .int (jI gp), .int (jI li), .ref mf, .ref mt, .ref mw, .int (jI fo2), .ref mk, .int (jI ln2), .int (jI bs2), .int (jI 1), .ref mz, .int (jI rd), .int (jI ep), .int (jI eq), .int (jI al), .int (jI fa)])), (ml, .inl (cA, 96, .inl (jA M))), (mn, .inl (cA, 2, .inl (jA N))), (mf, .inl (cA, 2304, .inl (jA f2))), (mt, .inl (cA, 2304, .inl (jA s2))), (mw, .inl (cA, 2304, .inl (jA w2))), (mk, .inl (cA, 48, .inl (jA k2)))] H := hP
  have hD : va_D A [(mo, .inr (5, [.ref ml, .ref mn, .int (jI K), .int (jI g), .int (jI ga), .int (jI lo), .int (jI gp), .int (jI li), .ref mf, .ref mt, .ref mw, .int (jI fo2), .ref mk, .int (jI ln2), .int (jI bs2), .int (jI 1), .ref mz, .int (jI rd), .int (jI ep), .int (jI eq), .int (jI al), .int (jI fa)])), (ml, .inl (cA, 96, .inl (jA M))), (mn, .inl (cA, 2, .inl (jA N))), (mf, .inl (cA, 2304, .inl (jA f2))), (mt, .inl (cA, 2304, .inl (jA s2))), (mw, .inl (cA, 2304, .inl (jA w2))), (mk, .inl (cA, 48, .inl (jA k2)))] := hD
  refine W.eq (g2 := F0 m 4 ls []) rfl ?_
  have hk3 := hkn2.2.2
  have hT2 : 0 ≤ fo2 ∧ fo2 ≤ 2304 := hk3.2.2
  have hl2 : 0 ≤ ln2 ∧ ln2 ≤ 48 := hk3.1
  refine lv_iload_n hx hb dX5_link_4 rfl (lv_at hl 1 rfl) ?_
  refine jv_if_lt (tgt := 25) hx hb dX5_link_5 rfl (by omega) (fun c5 => ?_) (fun c5 => ?_)
  · refine lv_iconst (v := jI (-1)) hx hb dX5_link_25 rfl ?_
    exact jM.ri F hQ rfl dX5_link_26 hS hP hD (by refine ⟨_, _, _, _, _, _, _, hkn2, ?_, rfl⟩; first | (rw [anv_n (by omega)]; done) | (rw [anv_0 (by omega) (by omega)]; done) | (rw [anv_1 (by omega) (by omega)]; done))
  · refine lv_iload_n hx hb dX5_link_8 rfl (lv_at hl 1 rfl) ?_
    refine lv_aload_n hx hb dX5_link_9 rfl (lv_at hl 0 rfl) ?_
    refine jv_get (v := .int (jI ln2)) F hP 0 rfl flX5_72 rfl dX5_link_10 ?_
    refine jv_icmp_ge (tgt := 25) hx hb dX5_link_13 rfl (by omega) (by omega) (fun c13 => ?_) (fun c13 => ?_)
    · refine lv_iconst (v := jI (-1)) hx hb dX5_link_25 rfl ?_
      exact jM.ri F hQ rfl dX5_link_26 hS hP hD (by refine ⟨_, _, _, _, _, _, _, hkn2, ?_, rfl⟩; first | (rw [anv_n (by omega)]; done) | (rw [anv_0 (by omega) (by omega)]; done) | (rw [anv_1 (by omega) (by omega)]; done))
    · refine lv_iload_n hx hb dX5_link_16 rfl (lv_at hl 2 rfl) ?_
      refine jv_if_lt (tgt := 25) hx hb dX5_link_17 rfl (by omega) (fun c17 => ?_) (fun c17 => ?_)
      · refine lv_iconst (v := jI (-1)) hx hb dX5_link_25 rfl ?_
        exact jM.ri F hQ rfl dX5_link_26 hS hP hD (by refine ⟨_, _, _, _, _, _, _, hkn2, ?_, rfl⟩; first | (rw [anv_n (by omega)]; done) | (rw [anv_0 (by omega) (by omega)]; done) | (rw [anv_1 (by omega) (by omega)]; done))
      · refine lv_iload_n hx hb dX5_link_20 rfl (lv_at hl 2 rfl) ?_
        refine lv_iconst (v := jI 1) hx hb dX5_link_21 rfl ?_
        refine jv_icmp_le (tgt := 27) hx hb dX5_link_22 rfl (by omega) (by omega) (fun c22 => ?_) (fun c22 => ?_)
        · have hq2 := hk3.2.1 x (by omega) (by omega)
          refine lv_iload_n hx hb dX5_link_27 rfl (lv_at hl 2 rfl) ?_
          refine jv_if_ne (tgt := 45) hx hb dX5_link_28 rfl (by omega) (fun c28 => ?_) (fun c28 => ?_)
          · refine lv_aload_n hx hb dX5_link_45 rfl (lv_at hl 0 rfl) ?_
            refine jv_get (v := .ref mt) F hP 0 rfl flX5_38 rfl dX5_link_46 ?_
            refine lv_aload_n hx hb dX5_link_49 rfl (lv_at hl 0 rfl) ?_
            refine jv_get (v := .ref mk) F hP 0 rfl flX5_44 rfl dX5_link_50 ?_
            refine lv_iload_n hx hb dX5_link_53 rfl (lv_at hl 1 rfl) ?_
            refine jv_iald (fa := k2) F hP 6 rfl (by omega) (by decide) dX5_link_54 ?_
            refine jv_iald (fa := s2) F hP 4 rfl (by omega) (by decide) dX5_link_55 ?_
            exact jM.ri F hQ rfl dX5_link_56 hS hP hD (by refine ⟨_, _, _, _, _, _, _, hkn2, ?_, rfl⟩; first | (rw [anv_n (by omega)]; done) | (rw [anv_0 (by omega) (by omega)]; done) | (rw [anv_1 (by omega) (by omega)]; done))
          · refine lv_aload_n hx hb dX5_link_31 rfl (lv_at hl 0 rfl) ?_
            refine jv_get (v := .ref mf) F hP 0 rfl flX5_35 rfl dX5_link_32 ?_
            refine lv_aload_n hx hb dX5_link_35 rfl (lv_at hl 0 rfl) ?_
            refine jv_get (v := .ref mk) F hP 0 rfl flX5_44 rfl dX5_link_36 ?_
            refine lv_iload_n hx hb dX5_link_39 rfl (lv_at hl 1 rfl) ?_
            refine jv_iald (fa := k2) F hP 6 rfl (by omega) (by decide) dX5_link_40 ?_
            refine jv_iald (fa := f2) F hP 3 rfl (by omega) (by decide) dX5_link_41 ?_
            refine lv_goto (tgt := 56) hx hb dX5_link_42 rfl ?_
            exact jM.ri F hQ rfl dX5_link_56 hS hP hD (by refine ⟨_, _, _, _, _, _, _, hkn2, ?_, rfl⟩; first | (rw [anv_n (by omega)]; done) | (rw [anv_0 (by omega) (by omega)]; done) | (rw [anv_1 (by omega) (by omega)]; done))
        · refine lv_iconst (v := jI (-1)) hx hb dX5_link_25 rfl ?_
          exact jM.ri F hQ rfl dX5_link_26 hS hP hD (by refine ⟨_, _, _, _, _, _, _, hkn2, ?_, rfl⟩; first | (rw [anv_n (by omega)]; done) | (rw [anv_0 (by omega) (by omega)]; done) | (rw [anv_1 (by omega) (by omega)]; done))
