theorem outv_0 {ep eq al la what : Int} (h : what = 0) : outv ep eq al la what = ep := if_pos h
theorem outv_1 {ep eq al la what : Int} (h : what = 1) : outv ep eq al la what = eq := by subst h; rfl
theorem outv_2 {ep eq al la what : Int} (h : what = 2) : outv ep eq al la what = al := by subst h; rfl
theorem outv_3 {ep eq al la what : Int} (h : what = 3) : outv ep eq al la what = la := by subst h; rfl
def sat (sc : Int → Int) (p q : Int) : Int := if p < 0 ∨ q < 0 then -1000000 else sc (49 * p + q)
theorem sat_o {sc : Int → Int} {p q : Int} (h : p < 0 ∨ q < 0) : sat sc p q = -1000000 := if_pos h
theorem sat_i {sc : Int → Int} {p q : Int} (h : ¬ (p < 0 ∨ q < 0)) : sat sc p q = sc (49 * p + q) := if_neg h
set_option maxHeartbeats 4000000 in
set_option maxRecDepth 100000 in
theorem kX5_isRow (l : Launch) (D : va_G) (cA : ClassId) (row : Int) (hr : -2147483648 ≤ row ∧ row < 2147483648) : jR l YX5_isRow (rmk 0 0 0 0) D cA [.int (jI row)] [] (fun v => ∃ z : Int, v = .int (jI z) ∧ (z = 1 ∧ (row = 0 ∨ row = 1) ∨ z = 0 ∧ row ≠ 0 ∧ row ≠ 1)) := by
  refine jR.intro (by decide +kernel) (Nat.le_of_ble_eq_true rfl) ?_
  intro p e s m args below meth c ls Q F hQ hP hl
  have hx := F.1
  have hb := F.2.1
  have hl : lv_has ls 1 [(0, .int (jI row))] := hl
  refine lv_iload_n hx hb dX5_isRow_0 rfl (lv_at hl 0 rfl) ?_
  refine jv_if_eq (tgt := 9) hx hb dX5_isRow_1 rfl (by omega) (fun c1 => ?_) (fun c1 => ?_)
  · refine lv_iconst (v := jI 1) hx hb dX5_isRow_9 rfl ?_
    refine lv_goto (tgt := 14) hx hb dX5_isRow_10 rfl ?_
    exact jR.rz F hQ rfl (by omega) dX5_isRow_14 (by exact ⟨_, rfl, by omega⟩)
  · refine lv_iload_n hx hb dX5_isRow_4 rfl (lv_at hl 0 rfl) ?_
    refine lv_iconst (v := jI 1) hx hb dX5_isRow_5 rfl ?_
    refine jv_icmp_ne (tgt := 13) hx hb dX5_isRow_6 rfl (by omega) (by omega) (fun c6 => ?_) (fun c6 => ?_)
    · refine lv_iconst (v := jI 0) hx hb dX5_isRow_13 rfl ?_
      exact jR.rz F hQ rfl (by omega) dX5_isRow_14 (by exact ⟨_, rfl, by omega⟩)
    · refine lv_iconst (v := jI 1) hx hb dX5_isRow_9 rfl ?_
      refine lv_goto (tgt := 14) hx hb dX5_isRow_10 rfl ?_
      exact jR.rz F hQ rfl (by omega) dX5_isRow_14 (by exact ⟨_, rfl, by omega⟩)
set_option maxHeartbeats 4000000 in
set_option maxRecDepth 100000 in
theorem kX5_put_0 (l : Launch) (D : va_G) (cA : ClassId) (mo ml mn mf mt mw mk mz : Nat) (K g ga lo gp li fo ln bs kn rd ep eq al fa : Int) (M N : Int → Int) (x : Int) (hn : 0 ≤ N 0 ∧ N 0 ≤ 48) (hx0 : -2147483648 ≤ x ∧ x < 2147483648) : jM l YX5_put (rmk 1 0 0 20) D cA [.ref mo, .int (jI 0), .int (jI x)] [(mo, .inr (5, [.ref ml, .ref mn, .int (jI K), .int (jI g), .int (jI ga), .int (jI lo), .int (jI gp), .int (jI li), .ref mf, .ref mt, .ref mw, .int (jI fo), .ref mk, .int (jI ln), .int (jI bs), .int (jI kn), .ref mz, .int (jI rd), .int (jI ep), .int (jI eq), .int (jI al), .int (jI fa)])), (ml, .inl (cA, 96, .inl (jA M))), (mn, .inl (cA, 2, .inl (jA N)))] (fun v w => ((0 ≤ x ∧ x ≤ 3 ∧ N 0 < 48) ∧ v = some (.int (jI (N 0 + 1))) ∧ w = [(mo, .inr (5, [.ref ml, .ref mn, .int (jI K), .int (jI g), .int (jI ga), .int (jI lo), .int (jI gp), .int (jI li), .ref mf, .ref mt, .ref mw, .int (jI fo), .ref mk, .int (jI ln), .int (jI bs), .int (jI 0), .ref mz, .int (jI rd), .int (jI ep), .int (jI eq), .int (jI al), .int (jI fa)])), (ml, .inl (cA, 96, .inl (jA (jU M (48 * 0 + N 0) x)))), (mn, .inl (cA, 2, .inl (jA (jU N 0 (N 0 + 1)))))]) ∨ (¬ (0 ≤ x ∧ x ≤ 3 ∧ N 0 < 48) ∧ v = some (.int (jI (-1))) ∧ w = [(mo, .inr (5, [.ref ml, .ref mn, .int (jI K), .int (jI g), .int (jI ga), .int (jI lo), .int (jI gp), .int (jI li), .ref mf, .ref mt, .ref mw, .int (jI fo), .ref mk, .int (jI ln), .int (jI bs), .int (jI kn), .ref mz, .int (jI rd), .int (jI ep), .int (jI eq), .int (jI al), .int (jI fa)])), (ml, .inl (cA, 96, .inl (jA M))), (mn, .inl (cA, 2, .inl (jA N)))])) 0 0 := by
  refine jM.intro (by decide +kernel) (Nat.le_of_ble_eq_true rfl) ?_
  intro p e s m args below meth c ls Q A F hQ hA hP hD hS hl
  have hx := F.1
  have hb := F.2.1
  have hl : lv_has ls 3 [(0, .ref mo), (1, .int (jI 0)), (2, .int (jI x))] := hl
  refine lv_iload_n hx hb dX5_put_0 rfl (lv_at hl 1 rfl) ?_
  refine jr_S F (kX5_isRow l D cA 0 (by omega)) csX5_50 hP [] rfl hl ⟨rfl, rfl, by decide, by decide⟩ rfl rfl (Nat.le_of_ble_eq_true rfl) dX5_put_1 ⟨by decide, by decide⟩ (fun v hv => ?_)
  obtain ⟨z1, rfl, hz1⟩ := hv
  refine jv_if_eq (tgt := 27) hx hb dX5_put_4 rfl (by omega) (fun c4 => ?_) (fun c4 => ?_)
  · exfalso
    omega
  · refine lv_iload_n hx hb dX5_put_7 rfl (lv_at hl 2 rfl) ?_
    refine jv_if_lt (tgt := 27) hx hb dX5_put_8 rfl (by omega) (fun c8 => ?_) (fun c8 => ?_)
    · refine lv_iconst (v := jI (-1)) hx hb dX5_put_27 rfl ?_
      exact jM.ri F hQ rfl dX5_put_28 hS hP hD (by exact Or.inr ⟨by omega, rfl, rfl⟩)
    · refine lv_iload_n hx hb dX5_put_11 rfl (lv_at hl 2 rfl) ?_
      refine lv_iconst (v := jI 3) hx hb dX5_put_12 rfl ?_
      refine jv_icmp_gt (tgt := 27) hx hb dX5_put_13 rfl (by omega) (by omega) (fun c13 => ?_) (fun c13 => ?_)
      · refine lv_iconst (v := jI (-1)) hx hb dX5_put_27 rfl ?_
        exact jM.ri F hQ rfl dX5_put_28 hS hP hD (by exact Or.inr ⟨by omega, rfl, rfl⟩)
      · refine lv_aload_n hx hb dX5_put_16 rfl (lv_at hl 0 rfl) ?_
        refine jv_get (v := .ref mn) F hP 0 rfl flX5_13 rfl dX5_put_17 ?_
        refine lv_iload_n hx hb dX5_put_20 rfl (lv_at hl 1 rfl) ?_
        refine jv_iald (fa := N) F hP 2 rfl (by omega) (by decide) dX5_put_21 ?_
        refine lv_bipush (v := jI 48) hx hb dX5_put_22 (by decide +kernel) ?_
        refine jv_icmp_ne (tgt := 29) hx hb dX5_put_24 rfl (by omega) (by omega) (fun c24 => ?_) (fun c24 => ?_)
        · refine lv_aload_n hx hb dX5_put_29 rfl (lv_at hl 0 rfl) ?_
          refine jv_get (v := .ref ml) F hP 0 rfl flX5_7 rfl dX5_put_30 ?_
          refine lv_bipush (v := jI 48) hx hb dX5_put_33 (by decide +kernel) ?_
          refine lv_iload_n hx hb dX5_put_35 rfl (lv_at hl 1 rfl) ?_
          refine jv_imul hx hb dX5_put_36 ?_
          refine lv_aload_n hx hb dX5_put_37 rfl (lv_at hl 0 rfl) ?_
          refine jv_get (v := .ref mn) F hP 0 rfl flX5_13 rfl dX5_put_38 ?_
          refine lv_iload_n hx hb dX5_put_41 rfl (lv_at hl 1 rfl) ?_
          refine jv_iald (fa := N) F hP 2 rfl (by omega) (by decide) dX5_put_42 ?_
          refine jv_iadd hx hb dX5_put_43 ?_
          refine lv_iload_n hx hb dX5_put_44 rfl (lv_at hl 2 rfl) ?_
          refine jv_iast (fa := M) F hP hD hS 1 rfl (by omega) (by decide) dX5_put_45 (fun H locs hP hD hS => ?_)
          have hP : va_P D cls [(mo, .inr (5, [.ref ml, .ref mn, .int (jI K), .int (jI g), .int (jI ga), .int (jI lo), .int (jI gp), .int (jI li), .ref mf, .ref mt, .ref mw, .int (jI fo), .ref mk, .int (jI ln), .int (jI bs), .int (jI kn), .ref mz, .int (jI rd), .int (jI ep), .int (jI eq), .int (jI al), .int (jI fa)])), (ml, .inl (cA, 96, .inl (jA (jU M ((48 * 0) + (N 0)) x)))), (mn, .inl (cA, 2, .inl (jA N)))] H := hP
          have hD : va_D A [(mo, .inr (5, [.ref ml, .ref mn, .int (jI K), .int (jI g), .int (jI ga), .int (jI lo), .int (jI gp), .int (jI li), .ref mf, .ref mt, .ref mw, .int (jI fo), .ref mk, .int (jI ln), .int (jI bs), .int (jI kn), .ref mz, .int (jI rd), .int (jI ep), .int (jI eq), .int (jI al), .int (jI fa)])), (ml, .inl (cA, 96, .inl (jA (jU M ((48 * 0) + (N 0)) x)))), (mn, .inl (cA, 2, .inl (jA N)))] := hD
          refine lv_aload_n hx hb dX5_put_46 rfl (lv_at hl 0 rfl) ?_
          refine jv_get (v := .ref mn) F hP 0 rfl flX5_13 rfl dX5_put_47 ?_
          refine lv_iload_n hx hb dX5_put_50 rfl (lv_at hl 1 rfl) ?_
          refine lv_dup2_11 hx hb dX5_put_51 rfl rfl ?_
          refine jv_iald (fa := N) F hP 2 rfl (by omega) (by decide) dX5_put_52 ?_
          refine lv_iconst (v := jI 1) hx hb dX5_put_53 rfl ?_
          refine jv_iadd hx hb dX5_put_54 ?_
          refine jv_iast (fa := N) F hP hD hS 2 rfl (by omega) (by decide) dX5_put_55 (fun H locs hP hD hS => ?_)
          have hP : va_P D cls [(mo, .inr (5, [.ref ml, .ref mn, .int (jI K), .int (jI g), .int (jI ga), .int (jI lo), .int (jI gp), .int (jI li), .ref mf, .ref mt, .ref mw, .int (jI fo), .ref mk, .int (jI ln), .int (jI bs), .int (jI kn), .ref mz, .int (jI rd), .int (jI ep), .int (jI eq), .int (jI al), .int (jI fa)])), (ml, .inl (cA, 96, .inl (jA (jU M ((48 * 0) + (N 0)) x)))), (mn, .inl (cA, 2, .inl (jA (jU N 0 ((N 0) + 1)))))] H := hP
          have hD : va_D A [(mo, .inr (5, [.ref ml, .ref mn, .int (jI K), .int (jI g), .int (jI ga), .int (jI lo), .int (jI gp), .int (jI li), .ref mf, .ref mt, .ref mw, .int (jI fo), .ref mk, .int (jI ln), .int (jI bs), .int (jI kn), .ref mz, .int (jI rd), .int (jI ep), .int (jI eq), .int (jI al), .int (jI fa)])), (ml, .inl (cA, 96, .inl (jA (jU M ((48 * 0) + (N 0)) x)))), (mn, .inl (cA, 2, .inl (jA (jU N 0 ((N 0) + 1)))))] := hD
          refine lv_aload_n hx hb dX5_put_56 rfl (lv_at hl 0 rfl) ?_
          refine lv_iconst (v := jI 0) hx hb dX5_put_57 rfl ?_
          refine jv_put (v := .int (jI 0)) F hP hD hS 0 rfl flX5_54 pfX5 (by decide +kernel) (by decide +kernel) (by decide +kernel) (Nat.le_of_ble_eq_true rfl) dX5_put_58 (fun H locs hP hD hS => ?_)
          have hP : va_P D cls [(mo, .inr (5, [.ref ml, .ref mn, .int (jI K), .int (jI g), .int (jI ga), .int (jI lo), .int (jI gp), .int (jI li), .ref mf, .ref mt, .ref mw, .int (jI fo), .ref mk, .int (jI ln), .int (jI bs), .int (jI 0), .ref mz, .int (jI rd), .int (jI ep), .int (jI eq), .int (jI al), .int (jI fa)])), (ml, .inl (cA, 96, .inl (jA (jU M ((48 * 0) + (N 0)) x)))), (mn, .inl (cA, 2, .inl (jA (jU N 0 ((N 0) + 1)))))] H := hP
          have hD : va_D A [(mo, .inr (5, [.ref ml, .ref mn, .int (jI K), .int (jI g), .int (jI ga), .int (jI lo), .int (jI gp), .int (jI li), .ref mf, .ref mt, .ref mw, .int (jI fo), .ref mk, .int (jI ln), .int (jI bs), .int (jI 0), .ref mz, .int (jI rd), .int (jI ep), .int (jI eq), .int (jI al), .int (jI fa)])), (ml, .inl (cA, 96, .inl (jA (jU M ((48 * 0) + (N 0)) x)))), (mn, .inl (cA, 2, .inl (jA (jU N 0 ((N 0) + 1)))))] := hD
          refine lv_aload_n hx hb dX5_put_61 rfl (lv_at hl 0 rfl) ?_
          refine jv_get (v := .ref mn) F hP 0 rfl flX5_13 rfl dX5_put_62 ?_
          refine lv_iload_n hx hb dX5_put_65 rfl (lv_at hl 1 rfl) ?_
          refine jv_iald (fa := jU N 0 ((N 0) + 1)) F hP 2 rfl (by omega) (by decide) dX5_put_66 ?_
          exact jM.ri F hQ rfl dX5_put_67 hS hP hD (by exact Or.inl ⟨by omega, by rw [jU_s], rfl⟩)
        · refine lv_iconst (v := jI (-1)) hx hb dX5_put_27 rfl ?_
          exact jM.ri F hQ rfl dX5_put_28 hS hP hD (by exact Or.inr ⟨by omega, rfl, rfl⟩)
set_option maxHeartbeats 4000000 in
set_option maxRecDepth 100000 in
theorem kX5_put_1 (l : Launch) (D : va_G) (cA : ClassId) (mo ml mn mf mt mw mk mz : Nat) (K g ga lo gp li fo ln bs kn rd ep eq al fa : Int) (M N : Int → Int) (x : Int) (hn : 0 ≤ N 1 ∧ N 1 ≤ 48) (hx0 : -2147483648 ≤ x ∧ x < 2147483648) : jM l YX5_put (rmk 1 0 0 20) D cA [.ref mo, .int (jI 1), .int (jI x)] [(mo, .inr (5, [.ref ml, .ref mn, .int (jI K), .int (jI g), .int (jI ga), .int (jI lo), .int (jI gp), .int (jI li), .ref mf, .ref mt, .ref mw, .int (jI fo), .ref mk, .int (jI ln), .int (jI bs), .int (jI kn), .ref mz, .int (jI rd), .int (jI ep), .int (jI eq), .int (jI al), .int (jI fa)])), (ml, .inl (cA, 96, .inl (jA M))), (mn, .inl (cA, 2, .inl (jA N)))] (fun v w => ((0 ≤ x ∧ x ≤ 3 ∧ N 1 < 48) ∧ v = some (.int (jI (N 1 + 1))) ∧ w = [(mo, .inr (5, [.ref ml, .ref mn, .int (jI K), .int (jI g), .int (jI ga), .int (jI lo), .int (jI gp), .int (jI li), .ref mf, .ref mt, .ref mw, .int (jI fo), .ref mk, .int (jI ln), .int (jI bs), .int (jI 0), .ref mz, .int (jI rd), .int (jI ep), .int (jI eq), .int (jI al), .int (jI fa)])), (ml, .inl (cA, 96, .inl (jA (jU M (48 * 1 + N 1) x)))), (mn, .inl (cA, 2, .inl (jA (jU N 1 (N 1 + 1)))))]) ∨ (¬ (0 ≤ x ∧ x ≤ 3 ∧ N 1 < 48) ∧ v = some (.int (jI (-1))) ∧ w = [(mo, .inr (5, [.ref ml, .ref mn, .int (jI K), .int (jI g), .int (jI ga), .int (jI lo), .int (jI gp), .int (jI li), .ref mf, .ref mt, .ref mw, .int (jI fo), .ref mk, .int (jI ln), .int (jI bs), .int (jI kn), .ref mz, .int (jI rd), .int (jI ep), .int (jI eq), .int (jI al), .int (jI fa)])), (ml, .inl (cA, 96, .inl (jA M))), (mn, .inl (cA, 2, .inl (jA N)))])) 0 0 := by
  refine jM.intro (by decide +kernel) (Nat.le_of_ble_eq_true rfl) ?_
  intro p e s m args below meth c ls Q A F hQ hA hP hD hS hl
  have hx := F.1
  have hb := F.2.1
  have hl : lv_has ls 3 [(0, .ref mo), (1, .int (jI 1)), (2, .int (jI x))] := hl
  refine lv_iload_n hx hb dX5_put_0 rfl (lv_at hl 1 rfl) ?_
  refine jr_S F (kX5_isRow l D cA 1 (by omega)) csX5_50 hP [] rfl hl ⟨rfl, rfl, by decide, by decide⟩ rfl rfl (Nat.le_of_ble_eq_true rfl) dX5_put_1 ⟨by decide, by decide⟩ (fun v hv => ?_)
  obtain ⟨z1, rfl, hz1⟩ := hv
  refine jv_if_eq (tgt := 27) hx hb dX5_put_4 rfl (by omega) (fun c4 => ?_) (fun c4 => ?_)
  · exfalso
    omega
  · refine lv_iload_n hx hb dX5_put_7 rfl (lv_at hl 2 rfl) ?_
    refine jv_if_lt (tgt := 27) hx hb dX5_put_8 rfl (by omega) (fun c8 => ?_) (fun c8 => ?_)
    · refine lv_iconst (v := jI (-1)) hx hb dX5_put_27 rfl ?_
      exact jM.ri F hQ rfl dX5_put_28 hS hP hD (by exact Or.inr ⟨by omega, rfl, rfl⟩)
    · refine lv_iload_n hx hb dX5_put_11 rfl (lv_at hl 2 rfl) ?_
      refine lv_iconst (v := jI 3) hx hb dX5_put_12 rfl ?_
      refine jv_icmp_gt (tgt := 27) hx hb dX5_put_13 rfl (by omega) (by omega) (fun c13 => ?_) (fun c13 => ?_)
      · refine lv_iconst (v := jI (-1)) hx hb dX5_put_27 rfl ?_
        exact jM.ri F hQ rfl dX5_put_28 hS hP hD (by exact Or.inr ⟨by omega, rfl, rfl⟩)
      · refine lv_aload_n hx hb dX5_put_16 rfl (lv_at hl 0 rfl) ?_
        refine jv_get (v := .ref mn) F hP 0 rfl flX5_13 rfl dX5_put_17 ?_
        refine lv_iload_n hx hb dX5_put_20 rfl (lv_at hl 1 rfl) ?_
        refine jv_iald (fa := N) F hP 2 rfl (by omega) (by decide) dX5_put_21 ?_
        refine lv_bipush (v := jI 48) hx hb dX5_put_22 (by decide +kernel) ?_
        refine jv_icmp_ne (tgt := 29) hx hb dX5_put_24 rfl (by omega) (by omega) (fun c24 => ?_) (fun c24 => ?_)
        · refine lv_aload_n hx hb dX5_put_29 rfl (lv_at hl 0 rfl) ?_
          refine jv_get (v := .ref ml) F hP 0 rfl flX5_7 rfl dX5_put_30 ?_
          refine lv_bipush (v := jI 48) hx hb dX5_put_33 (by decide +kernel) ?_
          refine lv_iload_n hx hb dX5_put_35 rfl (lv_at hl 1 rfl) ?_
          refine jv_imul hx hb dX5_put_36 ?_
          refine lv_aload_n hx hb dX5_put_37 rfl (lv_at hl 0 rfl) ?_
          refine jv_get (v := .ref mn) F hP 0 rfl flX5_13 rfl dX5_put_38 ?_
          refine lv_iload_n hx hb dX5_put_41 rfl (lv_at hl 1 rfl) ?_
          refine jv_iald (fa := N) F hP 2 rfl (by omega) (by decide) dX5_put_42 ?_
          refine jv_iadd hx hb dX5_put_43 ?_
          refine lv_iload_n hx hb dX5_put_44 rfl (lv_at hl 2 rfl) ?_
          refine jv_iast (fa := M) F hP hD hS 1 rfl (by omega) (by decide) dX5_put_45 (fun H locs hP hD hS => ?_)
          have hP : va_P D cls [(mo, .inr (5, [.ref ml, .ref mn, .int (jI K), .int (jI g), .int (jI ga), .int (jI lo), .int (jI gp), .int (jI li), .ref mf, .ref mt, .ref mw, .int (jI fo), .ref mk, .int (jI ln), .int (jI bs), .int (jI kn), .ref mz, .int (jI rd), .int (jI ep), .int (jI eq), .int (jI al), .int (jI fa)])), (ml, .inl (cA, 96, .inl (jA (jU M ((48 * 1) + (N 1)) x)))), (mn, .inl (cA, 2, .inl (jA N)))] H := hP
          have hD : va_D A [(mo, .inr (5, [.ref ml, .ref mn, .int (jI K), .int (jI g), .int (jI ga), .int (jI lo), .int (jI gp), .int (jI li), .ref mf, .ref mt, .ref mw, .int (jI fo), .ref mk, .int (jI ln), .int (jI bs), .int (jI kn), .ref mz, .int (jI rd), .int (jI ep), .int (jI eq), .int (jI al), .int (jI fa)])), (ml, .inl (cA, 96, .inl (jA (jU M ((48 * 1) + (N 1)) x)))), (mn, .inl (cA, 2, .inl (jA N)))] := hD
          refine lv_aload_n hx hb dX5_put_46 rfl (lv_at hl 0 rfl) ?_
          refine jv_get (v := .ref mn) F hP 0 rfl flX5_13 rfl dX5_put_47 ?_
          refine lv_iload_n hx hb dX5_put_50 rfl (lv_at hl 1 rfl) ?_
          refine lv_dup2_11 hx hb dX5_put_51 rfl rfl ?_
          refine jv_iald (fa := N) F hP 2 rfl (by omega) (by decide) dX5_put_52 ?_
          refine lv_iconst (v := jI 1) hx hb dX5_put_53 rfl ?_
          refine jv_iadd hx hb dX5_put_54 ?_
          refine jv_iast (fa := N) F hP hD hS 2 rfl (by omega) (by decide) dX5_put_55 (fun H locs hP hD hS => ?_)
          have hP : va_P D cls [(mo, .inr (5, [.ref ml, .ref mn, .int (jI K), .int (jI g), .int (jI ga), .int (jI lo), .int (jI gp), .int (jI li), .ref mf, .ref mt, .ref mw, .int (jI fo), .ref mk, .int (jI ln), .int (jI bs), .int (jI kn), .ref mz, .int (jI rd), .int (jI ep), .int (jI eq), .int (jI al), .int (jI fa)])), (ml, .inl (cA, 96, .inl (jA (jU M ((48 * 1) + (N 1)) x)))), (mn, .inl (cA, 2, .inl (jA (jU N 1 ((N 1) + 1)))))] H := hP
          have hD : va_D A [(mo, .inr (5, [.ref ml, .ref mn, .int (jI K), .int (jI g), .int (jI ga), .int (jI lo), .int (jI gp), .int (jI li), .ref mf, .ref mt, .ref mw, .int (jI fo), .ref mk, .int (jI ln), .int (jI bs), .int (jI kn), .ref mz, .int (jI rd), .int (jI ep), .int (jI eq), .int (jI al), .int (jI fa)])), (ml, .inl (cA, 96, .inl (jA (jU M ((48 * 1) + (N 1)) x)))), (mn, .inl (cA, 2, .inl (jA (jU N 1 ((N 1) + 1)))))] := hD
          refine lv_aload_n hx hb dX5_put_56 rfl (lv_at hl 0 rfl) ?_
          refine lv_iconst (v := jI 0) hx hb dX5_put_57 rfl ?_
          refine jv_put (v := .int (jI 0)) F hP hD hS 0 rfl flX5_54 pfX5 (by decide +kernel) (by decide +kernel) (by decide +kernel) (Nat.le_of_ble_eq_true rfl) dX5_put_58 (fun H locs hP hD hS => ?_)
          have hP : va_P D cls [(mo, .inr (5, [.ref ml, .ref mn, .int (jI K), .int (jI g), .int (jI ga), .int (jI lo), .int (jI gp), .int (jI li), .ref mf, .ref mt, .ref mw, .int (jI fo), .ref mk, .int (jI ln), .int (jI bs), .int (jI 0), .ref mz, .int (jI rd), .int (jI ep), .int (jI eq), .int (jI al), .int (jI fa)])), (ml, .inl (cA, 96, .inl (jA (jU M ((48 * 1) + (N 1)) x)))), (mn, .inl (cA, 2, .inl (jA (jU N 1 ((N 1) + 1)))))] H := hP
          have hD : va_D A [(mo, .inr (5, [.ref ml, .ref mn, .int (jI K), .int (jI g), .int (jI ga), .int (jI lo), .int (jI gp), .int (jI li), .ref mf, .ref mt, .ref mw, .int (jI fo), .ref mk, .int (jI ln), .int (jI bs), .int (jI 0), .ref mz, .int (jI rd), .int (jI ep), .int (jI eq), .int (jI al), .int (jI fa)])), (ml, .inl (cA, 96, .inl (jA (jU M ((48 * 1) + (N 1)) x)))), (mn, .inl (cA, 2, .inl (jA (jU N 1 ((N 1) + 1)))))] := hD
          refine lv_aload_n hx hb dX5_put_61 rfl (lv_at hl 0 rfl) ?_
          refine jv_get (v := .ref mn) F hP 0 rfl flX5_13 rfl dX5_put_62 ?_
          refine lv_iload_n hx hb dX5_put_65 rfl (lv_at hl 1 rfl) ?_
          refine jv_iald (fa := jU N 1 ((N 1) + 1)) F hP 2 rfl (by omega) (by decide) dX5_put_66 ?_
          exact jM.ri F hQ rfl dX5_put_67 hS hP hD (by exact Or.inl ⟨by omega, by rw [jU_s], rfl⟩)
        · refine lv_iconst (v := jI (-1)) hx hb dX5_put_27 rfl ?_
          exact jM.ri F hQ rfl dX5_put_28 hS hP hD (by exact Or.inr ⟨by omega, rfl, rfl⟩)
set_option maxHeartbeats 4000000 in
set_option maxRecDepth 100000 in
theorem kX5_put_n (l : Launch) (D : va_G) (cA : ClassId) (mo ml mn mf mt mw mk mz : Nat) (K g ga lo gp li fo ln bs kn rd ep eq al fa : Int) (M N : Int → Int) (row : Int) (x : Int) (hr : row ≠ 0 ∧ row ≠ 1) (hr2 : -2147483648 ≤ row ∧ row < 2147483648) (hx0 : -2147483648 ≤ x ∧ x < 2147483648) : jM l YX5_put (rmk 1 0 0 20) D cA [.ref mo, .int (jI row), .int (jI x)] [(mo, .inr (5, [.ref ml, .ref mn, .int (jI K), .int (jI g), .int (jI ga), .int (jI lo), .int (jI gp), .int (jI li), .ref mf, .ref mt, .ref mw, .int (jI fo), .ref mk, .int (jI ln), .int (jI bs), .int (jI kn), .ref mz, .int (jI rd), .int (jI ep), .int (jI eq), .int (jI al), .int (jI fa)])), (ml, .inl (cA, 96, .inl (jA M))), (mn, .inl (cA, 2, .inl (jA N)))] (fun v w => v = some (.int (jI (-1))) ∧ w = [(mo, .inr (5, [.ref ml, .ref mn, .int (jI K), .int (jI g), .int (jI ga), .int (jI lo), .int (jI gp), .int (jI li), .ref mf, .ref mt, .ref mw, .int (jI fo), .ref mk, .int (jI ln), .int (jI bs), .int (jI kn), .ref mz, .int (jI rd), .int (jI ep), .int (jI eq), .int (jI al), .int (jI fa)])), (ml, .inl (cA, 96, .inl (jA M))), (mn, .inl (cA, 2, .inl (jA N)))]) 0 0 := by
  refine jM.intro (by decide +kernel) (Nat.le_of_ble_eq_true rfl) ?_
  intro p e s m args below meth c ls Q A F hQ hA hP hD hS hl
  have hx := F.1
  have hb := F.2.1
  have hl : lv_has ls 3 [(0, .ref mo), (1, .int (jI row)), (2, .int (jI x))] := hl
  refine lv_iload_n hx hb dX5_put_0 rfl (lv_at hl 1 rfl) ?_
  refine jr_S F (kX5_isRow l D cA row (by omega)) csX5_50 hP [] rfl hl ⟨rfl, rfl, by decide, by decide⟩ rfl rfl (Nat.le_of_ble_eq_true rfl) dX5_put_1 ⟨by decide, by decide⟩ (fun v hv => ?_)
  obtain ⟨z1, rfl, hz1⟩ := hv
  refine jv_if_eq (tgt := 27) hx hb dX5_put_4 rfl (by omega) (fun c4 => ?_) (fun c4 => ?_)
  · refine lv_iconst (v := jI (-1)) hx hb dX5_put_27 rfl ?_
    exact jM.ri F hQ rfl dX5_put_28 hS hP hD (by exact ⟨rfl, rfl⟩)
  · exfalso
    omega
set_option maxHeartbeats 4000000 in
set_option maxRecDepth 100000 in
theorem kX5_cut_0 (l : Launch) (D : va_G) (cA : ClassId) (mo ml mn mf mt mw mk mz : Nat) (K g ga lo gp li fo ln bs kn rd ep eq al fa : Int) (M N : Int → Int) (hn : 0 ≤ N 0 ∧ N 0 ≤ 48) : jM l YX5_cut (rmk 1 0 0 20) D cA [.ref mo, .int (jI 0)] [(mo, .inr (5, [.ref ml, .ref mn, .int (jI K), .int (jI g), .int (jI ga), .int (jI lo), .int (jI gp), .int (jI li), .ref mf, .ref mt, .ref mw, .int (jI fo), .ref mk, .int (jI ln), .int (jI bs), .int (jI kn), .ref mz, .int (jI rd), .int (jI ep), .int (jI eq), .int (jI al), .int (jI fa)])), (ml, .inl (cA, 96, .inl (jA M))), (mn, .inl (cA, 2, .inl (jA N)))] (fun v w => (0 < N 0 ∧ v = some (.int (jI (M (48 * 0 + (N 0 - 1))))) ∧ w = [(mo, .inr (5, [.ref ml, .ref mn, .int (jI K), .int (jI g), .int (jI ga), .int (jI lo), .int (jI gp), .int (jI li), .ref mf, .ref mt, .ref mw, .int (jI fo), .ref mk, .int (jI ln), .int (jI bs), .int (jI 0), .ref mz, .int (jI rd), .int (jI ep), .int (jI eq), .int (jI al), .int (jI fa)])), (ml, .inl (cA, 96, .inl (jA M))), (mn, .inl (cA, 2, .inl (jA (jU N 0 (N 0 - 1)))))]) ∨ (N 0 = 0 ∧ v = some (.int (jI (-1))) ∧ w = [(mo, .inr (5, [.ref ml, .ref mn, .int (jI K), .int (jI g), .int (jI ga), .int (jI lo), .int (jI gp), .int (jI li), .ref mf, .ref mt, .ref mw, .int (jI fo), .ref mk, .int (jI ln), .int (jI bs), .int (jI kn), .ref mz, .int (jI rd), .int (jI ep), .int (jI eq), .int (jI al), .int (jI fa)])), (ml, .inl (cA, 96, .inl (jA M))), (mn, .inl (cA, 2, .inl (jA N)))])) 0 0 := by
  refine jM.intro (by decide +kernel) (Nat.le_of_ble_eq_true rfl) ?_
  intro p e s m args below meth c ls Q A F hQ hA hP hD hS hl
  have hx := F.1
  have hb := F.2.1
  have hl : lv_has ls 2 [(0, .ref mo), (1, .int (jI 0))] := hl
  refine lv_iload_n hx hb dX5_cut_0 rfl (lv_at hl 1 rfl) ?_
  refine jr_S F (kX5_isRow l D cA 0 (by omega)) csX5_50 hP [] rfl hl ⟨rfl, rfl, by decide, by decide⟩ rfl rfl (Nat.le_of_ble_eq_true rfl) dX5_cut_1 ⟨by decide, by decide⟩ (fun v hv => ?_)
  obtain ⟨z1, rfl, hz1⟩ := hv
  refine jv_if_eq (tgt := 16) hx hb dX5_cut_4 rfl (by omega) (fun c4 => ?_) (fun c4 => ?_)
  · exfalso
    omega
  · refine lv_aload_n hx hb dX5_cut_7 rfl (lv_at hl 0 rfl) ?_
    refine jv_get (v := .ref mn) F hP 0 rfl flX5_13 rfl dX5_cut_8 ?_
    refine lv_iload_n hx hb dX5_cut_11 rfl (lv_at hl 1 rfl) ?_
    refine jv_iald (fa := N) F hP 2 rfl (by omega) (by decide) dX5_cut_12 ?_
    refine jv_if_ne (tgt := 18) hx hb dX5_cut_13 rfl (by omega) (fun c13 => ?_) (fun c13 => ?_)
    · refine lv_aload_n hx hb dX5_cut_18 rfl (lv_at hl 0 rfl) ?_
      refine jv_get (v := .ref mn) F hP 0 rfl flX5_13 rfl dX5_cut_19 ?_
      refine lv_iload_n hx hb dX5_cut_22 rfl (lv_at hl 1 rfl) ?_
      refine lv_dup2_11 hx hb dX5_cut_23 rfl rfl ?_
      refine jv_iald (fa := N) F hP 2 rfl (by omega) (by decide) dX5_cut_24 ?_
      refine lv_iconst (v := jI 1) hx hb dX5_cut_25 rfl ?_
      refine jv_isub hx hb dX5_cut_26 ?_
      refine jv_iast (fa := N) F hP hD hS 2 rfl (by omega) (by decide) dX5_cut_27 (fun H locs hP hD hS => ?_)
      have hP : va_P D cls [(mo, .inr (5, [.ref ml, .ref mn, .int (jI K), .int (jI g), .int (jI ga), .int (jI lo), .int (jI gp), .int (jI li), .ref mf, .ref mt, .ref mw, .int (jI fo), .ref mk, .int (jI ln), .int (jI bs), .int (jI kn), .ref mz, .int (jI rd), .int (jI ep), .int (jI eq), .int (jI al), .int (jI fa)])), (ml, .inl (cA, 96, .inl (jA M))), (mn, .inl (cA, 2, .inl (jA (jU N 0 ((N 0) - 1)))))] H := hP
      have hD : va_D A [(mo, .inr (5, [.ref ml, .ref mn, .int (jI K), .int (jI g), .int (jI ga), .int (jI lo), .int (jI gp), .int (jI li), .ref mf, .ref mt, .ref mw, .int (jI fo), .ref mk, .int (jI ln), .int (jI bs), .int (jI kn), .ref mz, .int (jI rd), .int (jI ep), .int (jI eq), .int (jI al), .int (jI fa)])), (ml, .inl (cA, 96, .inl (jA M))), (mn, .inl (cA, 2, .inl (jA (jU N 0 ((N 0) - 1)))))] := hD
      refine lv_aload_n hx hb dX5_cut_28 rfl (lv_at hl 0 rfl) ?_
      refine lv_iconst (v := jI 0) hx hb dX5_cut_29 rfl ?_
      refine jv_put (v := .int (jI 0)) F hP hD hS 0 rfl flX5_54 pfX5 (by decide +kernel) (by decide +kernel) (by decide +kernel) (Nat.le_of_ble_eq_true rfl) dX5_cut_30 (fun H locs hP hD hS => ?_)
      have hP : va_P D cls [(mo, .inr (5, [.ref ml, .ref mn, .int (jI K), .int (jI g), .int (jI ga), .int (jI lo), .int (jI gp), .int (jI li), .ref mf, .ref mt, .ref mw, .int (jI fo), .ref mk, .int (jI ln), .int (jI bs), .int (jI 0), .ref mz, .int (jI rd), .int (jI ep), .int (jI eq), .int (jI al), .int (jI fa)])), (ml, .inl (cA, 96, .inl (jA M))), (mn, .inl (cA, 2, .inl (jA (jU N 0 ((N 0) - 1)))))] H := hP
      have hD : va_D A [(mo, .inr (5, [.ref ml, .ref mn, .int (jI K), .int (jI g), .int (jI ga), .int (jI lo), .int (jI gp), .int (jI li), .ref mf, .ref mt, .ref mw, .int (jI fo), .ref mk, .int (jI ln), .int (jI bs), .int (jI 0), .ref mz, .int (jI rd), .int (jI ep), .int (jI eq), .int (jI al), .int (jI fa)])), (ml, .inl (cA, 96, .inl (jA M))), (mn, .inl (cA, 2, .inl (jA (jU N 0 ((N 0) - 1)))))] := hD
      refine lv_aload_n hx hb dX5_cut_33 rfl (lv_at hl 0 rfl) ?_
      refine jv_get (v := .ref ml) F hP 0 rfl flX5_7 rfl dX5_cut_34 ?_
      refine lv_bipush (v := jI 48) hx hb dX5_cut_37 (by decide +kernel) ?_
      refine lv_iload_n hx hb dX5_cut_39 rfl (lv_at hl 1 rfl) ?_
      refine jv_imul hx hb dX5_cut_40 ?_
      refine lv_aload_n hx hb dX5_cut_41 rfl (lv_at hl 0 rfl) ?_
      refine jv_get (v := .ref mn) F hP 0 rfl flX5_13 rfl dX5_cut_42 ?_
      refine lv_iload_n hx hb dX5_cut_45 rfl (lv_at hl 1 rfl) ?_
      refine jv_iald (fa := jU N 0 ((N 0) - 1)) F hP 2 rfl (by omega) (by decide) dX5_cut_46 ?_
      refine jv_iadd hx hb dX5_cut_47 ?_
      have hju : jU N 0 (N 0 - 1) 0 = N 0 - 1 := jU_s
      refine jv_iald (fa := M) F hP 1 rfl (by omega) (by decide) dX5_cut_48 ?_
      exact jM.ri F hQ rfl dX5_cut_49 hS hP hD (by exact Or.inl ⟨by omega, by rw [jU_s], rfl⟩)
    · refine lv_iconst (v := jI (-1)) hx hb dX5_cut_16 rfl ?_
      exact jM.ri F hQ rfl dX5_cut_17 hS hP hD (by exact Or.inr ⟨by omega, rfl, rfl⟩)
set_option maxHeartbeats 4000000 in
set_option maxRecDepth 100000 in
theorem kX5_cut_1 (l : Launch) (D : va_G) (cA : ClassId) (mo ml mn mf mt mw mk mz : Nat) (K g ga lo gp li fo ln bs kn rd ep eq al fa : Int) (M N : Int → Int) (hn : 0 ≤ N 1 ∧ N 1 ≤ 48) : jM l YX5_cut (rmk 1 0 0 20) D cA [.ref mo, .int (jI 1)] [(mo, .inr (5, [.ref ml, .ref mn, .int (jI K), .int (jI g), .int (jI ga), .int (jI lo), .int (jI gp), .int (jI li), .ref mf, .ref mt, .ref mw, .int (jI fo), .ref mk, .int (jI ln), .int (jI bs), .int (jI kn), .ref mz, .int (jI rd), .int (jI ep), .int (jI eq), .int (jI al), .int (jI fa)])), (ml, .inl (cA, 96, .inl (jA M))), (mn, .inl (cA, 2, .inl (jA N)))] (fun v w => (0 < N 1 ∧ v = some (.int (jI (M (48 * 1 + (N 1 - 1))))) ∧ w = [(mo, .inr (5, [.ref ml, .ref mn, .int (jI K), .int (jI g), .int (jI ga), .int (jI lo), .int (jI gp), .int (jI li), .ref mf, .ref mt, .ref mw, .int (jI fo), .ref mk, .int (jI ln), .int (jI bs), .int (jI 0), .ref mz, .int (jI rd), .int (jI ep), .int (jI eq), .int (jI al), .int (jI fa)])), (ml, .inl (cA, 96, .inl (jA M))), (mn, .inl (cA, 2, .inl (jA (jU N 1 (N 1 - 1)))))]) ∨ (N 1 = 0 ∧ v = some (.int (jI (-1))) ∧ w = [(mo, .inr (5, [.ref ml, .ref mn, .int (jI K), .int (jI g), .int (jI ga), .int (jI lo), .int (jI gp), .int (jI li), .ref mf, .ref mt, .ref mw, .int (jI fo), .ref mk, .int (jI ln), .int (jI bs), .int (jI kn), .ref mz, .int (jI rd), .int (jI ep), .int (jI eq), .int (jI al), .int (jI fa)])), (ml, .inl (cA, 96, .inl (jA M))), (mn, .inl (cA, 2, .inl (jA N)))])) 0 0 := by
  refine jM.intro (by decide +kernel) (Nat.le_of_ble_eq_true rfl) ?_
  intro p e s m args below meth c ls Q A F hQ hA hP hD hS hl
  have hx := F.1
  have hb := F.2.1
  have hl : lv_has ls 2 [(0, .ref mo), (1, .int (jI 1))] := hl
  refine lv_iload_n hx hb dX5_cut_0 rfl (lv_at hl 1 rfl) ?_
  refine jr_S F (kX5_isRow l D cA 1 (by omega)) csX5_50 hP [] rfl hl ⟨rfl, rfl, by decide, by decide⟩ rfl rfl (Nat.le_of_ble_eq_true rfl) dX5_cut_1 ⟨by decide, by decide⟩ (fun v hv => ?_)
  obtain ⟨z1, rfl, hz1⟩ := hv
  refine jv_if_eq (tgt := 16) hx hb dX5_cut_4 rfl (by omega) (fun c4 => ?_) (fun c4 => ?_)
  · exfalso
    omega
  · refine lv_aload_n hx hb dX5_cut_7 rfl (lv_at hl 0 rfl) ?_
    refine jv_get (v := .ref mn) F hP 0 rfl flX5_13 rfl dX5_cut_8 ?_
    refine lv_iload_n hx hb dX5_cut_11 rfl (lv_at hl 1 rfl) ?_
    refine jv_iald (fa := N) F hP 2 rfl (by omega) (by decide) dX5_cut_12 ?_
    refine jv_if_ne (tgt := 18) hx hb dX5_cut_13 rfl (by omega) (fun c13 => ?_) (fun c13 => ?_)
    · refine lv_aload_n hx hb dX5_cut_18 rfl (lv_at hl 0 rfl) ?_
      refine jv_get (v := .ref mn) F hP 0 rfl flX5_13 rfl dX5_cut_19 ?_
      refine lv_iload_n hx hb dX5_cut_22 rfl (lv_at hl 1 rfl) ?_
      refine lv_dup2_11 hx hb dX5_cut_23 rfl rfl ?_
      refine jv_iald (fa := N) F hP 2 rfl (by omega) (by decide) dX5_cut_24 ?_
      refine lv_iconst (v := jI 1) hx hb dX5_cut_25 rfl ?_
      refine jv_isub hx hb dX5_cut_26 ?_
      refine jv_iast (fa := N) F hP hD hS 2 rfl (by omega) (by decide) dX5_cut_27 (fun H locs hP hD hS => ?_)
      have hP : va_P D cls [(mo, .inr (5, [.ref ml, .ref mn, .int (jI K), .int (jI g), .int (jI ga), .int (jI lo), .int (jI gp), .int (jI li), .ref mf, .ref mt, .ref mw, .int (jI fo), .ref mk, .int (jI ln), .int (jI bs), .int (jI kn), .ref mz, .int (jI rd), .int (jI ep), .int (jI eq), .int (jI al), .int (jI fa)])), (ml, .inl (cA, 96, .inl (jA M))), (mn, .inl (cA, 2, .inl (jA (jU N 1 ((N 1) - 1)))))] H := hP
      have hD : va_D A [(mo, .inr (5, [.ref ml, .ref mn, .int (jI K), .int (jI g), .int (jI ga), .int (jI lo), .int (jI gp), .int (jI li), .ref mf, .ref mt, .ref mw, .int (jI fo), .ref mk, .int (jI ln), .int (jI bs), .int (jI kn), .ref mz, .int (jI rd), .int (jI ep), .int (jI eq), .int (jI al), .int (jI fa)])), (ml, .inl (cA, 96, .inl (jA M))), (mn, .inl (cA, 2, .inl (jA (jU N 1 ((N 1) - 1)))))] := hD
      refine lv_aload_n hx hb dX5_cut_28 rfl (lv_at hl 0 rfl) ?_
      refine lv_iconst (v := jI 0) hx hb dX5_cut_29 rfl ?_
      refine jv_put (v := .int (jI 0)) F hP hD hS 0 rfl flX5_54 pfX5 (by decide +kernel) (by decide +kernel) (by decide +kernel) (Nat.le_of_ble_eq_true rfl) dX5_cut_30 (fun H locs hP hD hS => ?_)
      have hP : va_P D cls [(mo, .inr (5, [.ref ml, .ref mn, .int (jI K), .int (jI g), .int (jI ga), .int (jI lo), .int (jI gp), .int (jI li), .ref mf, .ref mt, .ref mw, .int (jI fo), .ref mk, .int (jI ln), .int (jI bs), .int (jI 0), .ref mz, .int (jI rd), .int (jI ep), .int (jI eq), .int (jI al), .int (jI fa)])), (ml, .inl (cA, 96, .inl (jA M))), (mn, .inl (cA, 2, .inl (jA (jU N 1 ((N 1) - 1)))))] H := hP
      have hD : va_D A [(mo, .inr (5, [.ref ml, .ref mn, .int (jI K), .int (jI g), .int (jI ga), .int (jI lo), .int (jI gp), .int (jI li), .ref mf, .ref mt, .ref mw, .int (jI fo), .ref mk, .int (jI ln), .int (jI bs), .int (jI 0), .ref mz, .int (jI rd), .int (jI ep), .int (jI eq), .int (jI al), .int (jI fa)])), (ml, .inl (cA, 96, .inl (jA M))), (mn, .inl (cA, 2, .inl (jA (jU N 1 ((N 1) - 1)))))] := hD
      refine lv_aload_n hx hb dX5_cut_33 rfl (lv_at hl 0 rfl) ?_
      refine jv_get (v := .ref ml) F hP 0 rfl flX5_7 rfl dX5_cut_34 ?_
      refine lv_bipush (v := jI 48) hx hb dX5_cut_37 (by decide +kernel) ?_
      refine lv_iload_n hx hb dX5_cut_39 rfl (lv_at hl 1 rfl) ?_
      refine jv_imul hx hb dX5_cut_40 ?_
      refine lv_aload_n hx hb dX5_cut_41 rfl (lv_at hl 0 rfl) ?_
      refine jv_get (v := .ref mn) F hP 0 rfl flX5_13 rfl dX5_cut_42 ?_
      refine lv_iload_n hx hb dX5_cut_45 rfl (lv_at hl 1 rfl) ?_
      refine jv_iald (fa := jU N 1 ((N 1) - 1)) F hP 2 rfl (by omega) (by decide) dX5_cut_46 ?_
      refine jv_iadd hx hb dX5_cut_47 ?_
      have hju : jU N 1 (N 1 - 1) 1 = N 1 - 1 := jU_s
      refine jv_iald (fa := M) F hP 1 rfl (by omega) (by decide) dX5_cut_48 ?_
      exact jM.ri F hQ rfl dX5_cut_49 hS hP hD (by exact Or.inl ⟨by omega, by rw [jU_s], rfl⟩)
    · refine lv_iconst (v := jI (-1)) hx hb dX5_cut_16 rfl ?_
      exact jM.ri F hQ rfl dX5_cut_17 hS hP hD (by exact Or.inr ⟨by omega, rfl, rfl⟩)
set_option maxHeartbeats 4000000 in
set_option maxRecDepth 100000 in
theorem kX5_cut_n (l : Launch) (D : va_G) (cA : ClassId) (mo ml mn mf mt mw mk mz : Nat) (K g ga lo gp li fo ln bs kn rd ep eq al fa : Int) (M N : Int → Int) (row : Int) (hr : row ≠ 0 ∧ row ≠ 1) (hr2 : -2147483648 ≤ row ∧ row < 2147483648) : jM l YX5_cut (rmk 1 0 0 20) D cA [.ref mo, .int (jI row)] [(mo, .inr (5, [.ref ml, .ref mn, .int (jI K), .int (jI g), .int (jI ga), .int (jI lo), .int (jI gp), .int (jI li), .ref mf, .ref mt, .ref mw, .int (jI fo), .ref mk, .int (jI ln), .int (jI bs), .int (jI kn), .ref mz, .int (jI rd), .int (jI ep), .int (jI eq), .int (jI al), .int (jI fa)])), (ml, .inl (cA, 96, .inl (jA M))), (mn, .inl (cA, 2, .inl (jA N)))] (fun v w => v = some (.int (jI (-1))) ∧ w = [(mo, .inr (5, [.ref ml, .ref mn, .int (jI K), .int (jI g), .int (jI ga), .int (jI lo), .int (jI gp), .int (jI li), .ref mf, .ref mt, .ref mw, .int (jI fo), .ref mk, .int (jI ln), .int (jI bs), .int (jI kn), .ref mz, .int (jI rd), .int (jI ep), .int (jI eq), .int (jI al), .int (jI fa)])), (ml, .inl (cA, 96, .inl (jA M))), (mn, .inl (cA, 2, .inl (jA N)))]) 0 0 := by
  refine jM.intro (by decide +kernel) (Nat.le_of_ble_eq_true rfl) ?_
  intro p e s m args below meth c ls Q A F hQ hA hP hD hS hl
  have hx := F.1
  have hb := F.2.1
  have hl : lv_has ls 2 [(0, .ref mo), (1, .int (jI row))] := hl
  refine lv_iload_n hx hb dX5_cut_0 rfl (lv_at hl 1 rfl) ?_
  refine jr_S F (kX5_isRow l D cA row (by omega)) csX5_50 hP [] rfl hl ⟨rfl, rfl, by decide, by decide⟩ rfl rfl (Nat.le_of_ble_eq_true rfl) dX5_cut_1 ⟨by decide, by decide⟩ (fun v hv => ?_)
  obtain ⟨z1, rfl, hz1⟩ := hv
  refine jv_if_eq (tgt := 16) hx hb dX5_cut_4 rfl (by omega) (fun c4 => ?_) (fun c4 => ?_)
  · refine lv_iconst (v := jI (-1)) hx hb dX5_cut_16 rfl ?_
    exact jM.ri F hQ rfl dX5_cut_17 hS hP hD (by exact ⟨rfl, rfl⟩)
  · exfalso
    omega
set_option maxHeartbeats 4000000 in
set_option maxRecDepth 100000 in
theorem kX5_letter_0 (l : Launch) (D : va_G) (cA : ClassId) (mo ml mn mf mt mw mk mz : Nat) (K g ga lo gp li fo ln bs kn rd ep eq al fa : Int) (M N : Int → Int) (i : Int) (hn : 0 ≤ N 0 ∧ N 0 ≤ 48) (hi : -2147483648 ≤ i ∧ i < 2147483648) : jR l YX5_letter (rmk 1 0 0 20) D cA [.ref mo, .int (jI 0), .int (jI i)] [(mo, .inr (5, [.ref ml, .ref mn, .int (jI K), .int (jI g), .int (jI ga), .int (jI lo), .int (jI gp), .int (jI li), .ref mf, .ref mt, .ref mw, .int (jI fo), .ref mk, .int (jI ln), .int (jI bs), .int (jI kn), .ref mz, .int (jI rd), .int (jI ep), .int (jI eq), .int (jI al), .int (jI fa)])), (ml, .inl (cA, 96, .inl (jA M))), (mn, .inl (cA, 2, .inl (jA N)))] (fun v => v = .int (jI (atv (fun x => M (48 * 0 + x)) (N 0) i))) := by
  refine jR.intro (by decide +kernel) (Nat.le_of_ble_eq_true rfl) ?_
  intro p e s m args below meth c ls Q F hQ hP hl
  have hx := F.1
  have hb := F.2.1
  have hl : lv_has ls 3 [(0, .ref mo), (1, .int (jI 0)), (2, .int (jI i))] := hl
  refine lv_iload_n hx hb dX5_letter_0 rfl (lv_at hl 1 rfl) ?_
  refine jr_S F (kX5_isRow l D cA 0 (by omega)) csX5_50 hP [] rfl hl ⟨rfl, rfl, by decide, by decide⟩ rfl rfl (Nat.le_of_ble_eq_true rfl) dX5_letter_1 ⟨by decide, by decide⟩ (fun v hv => ?_)
  obtain ⟨z1, rfl, hz1⟩ := hv
  refine jv_if_eq (tgt := 35) hx hb dX5_letter_4 rfl (by omega) (fun c4 => ?_) (fun c4 => ?_)
  · exfalso
    omega
  · refine lv_iload_n hx hb dX5_letter_7 rfl (lv_at hl 2 rfl) ?_
    refine jv_if_lt (tgt := 35) hx hb dX5_letter_8 rfl (by omega) (fun c8 => ?_) (fun c8 => ?_)
    · refine lv_iconst (v := jI (-1)) hx hb dX5_letter_35 rfl ?_
      exact jR.ri F hQ rfl dX5_letter_36 (by rw [atv_out (by omega)])
    · refine lv_iload_n hx hb dX5_letter_11 rfl (lv_at hl 2 rfl) ?_
      refine lv_aload_n hx hb dX5_letter_12 rfl (lv_at hl 0 rfl) ?_
      refine jv_get (v := .ref mn) F hP 0 rfl flX5_13 rfl dX5_letter_13 ?_
      refine lv_iload_n hx hb dX5_letter_16 rfl (lv_at hl 1 rfl) ?_
      refine jv_iald (fa := N) F hP 2 rfl (by omega) (by decide) dX5_letter_17 ?_
      refine jv_icmp_ge (tgt := 35) hx hb dX5_letter_18 rfl (by omega) (by omega) (fun c18 => ?_) (fun c18 => ?_)
      · refine lv_iconst (v := jI (-1)) hx hb dX5_letter_35 rfl ?_
        exact jR.ri F hQ rfl dX5_letter_36 (by rw [atv_out (by omega)])
      · refine lv_aload_n hx hb dX5_letter_21 rfl (lv_at hl 0 rfl) ?_
        refine jv_get (v := .ref ml) F hP 0 rfl flX5_7 rfl dX5_letter_22 ?_
        refine lv_bipush (v := jI 48) hx hb dX5_letter_25 (by decide +kernel) ?_
        refine lv_iload_n hx hb dX5_letter_27 rfl (lv_at hl 1 rfl) ?_
        refine jv_imul hx hb dX5_letter_28 ?_
        refine lv_iload_n hx hb dX5_letter_29 rfl (lv_at hl 2 rfl) ?_
        refine jv_iadd hx hb dX5_letter_30 ?_
        refine jv_iald (fa := M) F hP 1 rfl (by omega) (by decide) dX5_letter_31 ?_
        refine lv_goto (tgt := 36) hx hb dX5_letter_32 rfl ?_
        exact jR.ri F hQ rfl dX5_letter_36 (by rw [atv_in (by omega)])
set_option maxHeartbeats 4000000 in
set_option maxRecDepth 100000 in
theorem kX5_letter_1 (l : Launch) (D : va_G) (cA : ClassId) (mo ml mn mf mt mw mk mz : Nat) (K g ga lo gp li fo ln bs kn rd ep eq al fa : Int) (M N : Int → Int) (i : Int) (hn : 0 ≤ N 1 ∧ N 1 ≤ 48) (hi : -2147483648 ≤ i ∧ i < 2147483648) : jR l YX5_letter (rmk 1 0 0 20) D cA [.ref mo, .int (jI 1), .int (jI i)] [(mo, .inr (5, [.ref ml, .ref mn, .int (jI K), .int (jI g), .int (jI ga), .int (jI lo), .int (jI gp), .int (jI li), .ref mf, .ref mt, .ref mw, .int (jI fo), .ref mk, .int (jI ln), .int (jI bs), .int (jI kn), .ref mz, .int (jI rd), .int (jI ep), .int (jI eq), .int (jI al), .int (jI fa)])), (ml, .inl (cA, 96, .inl (jA M))), (mn, .inl (cA, 2, .inl (jA N)))] (fun v => v = .int (jI (atv (fun x => M (48 * 1 + x)) (N 1) i))) := by
  refine jR.intro (by decide +kernel) (Nat.le_of_ble_eq_true rfl) ?_
  intro p e s m args below meth c ls Q F hQ hP hl
  have hx := F.1
  have hb := F.2.1
  have hl : lv_has ls 3 [(0, .ref mo), (1, .int (jI 1)), (2, .int (jI i))] := hl
  refine lv_iload_n hx hb dX5_letter_0 rfl (lv_at hl 1 rfl) ?_
  refine jr_S F (kX5_isRow l D cA 1 (by omega)) csX5_50 hP [] rfl hl ⟨rfl, rfl, by decide, by decide⟩ rfl rfl (Nat.le_of_ble_eq_true rfl) dX5_letter_1 ⟨by decide, by decide⟩ (fun v hv => ?_)
  obtain ⟨z1, rfl, hz1⟩ := hv
  refine jv_if_eq (tgt := 35) hx hb dX5_letter_4 rfl (by omega) (fun c4 => ?_) (fun c4 => ?_)
  · exfalso
    omega
  · refine lv_iload_n hx hb dX5_letter_7 rfl (lv_at hl 2 rfl) ?_
    refine jv_if_lt (tgt := 35) hx hb dX5_letter_8 rfl (by omega) (fun c8 => ?_) (fun c8 => ?_)
    · refine lv_iconst (v := jI (-1)) hx hb dX5_letter_35 rfl ?_
      exact jR.ri F hQ rfl dX5_letter_36 (by rw [atv_out (by omega)])
    · refine lv_iload_n hx hb dX5_letter_11 rfl (lv_at hl 2 rfl) ?_
      refine lv_aload_n hx hb dX5_letter_12 rfl (lv_at hl 0 rfl) ?_
      refine jv_get (v := .ref mn) F hP 0 rfl flX5_13 rfl dX5_letter_13 ?_
      refine lv_iload_n hx hb dX5_letter_16 rfl (lv_at hl 1 rfl) ?_
      refine jv_iald (fa := N) F hP 2 rfl (by omega) (by decide) dX5_letter_17 ?_
      refine jv_icmp_ge (tgt := 35) hx hb dX5_letter_18 rfl (by omega) (by omega) (fun c18 => ?_) (fun c18 => ?_)
      · refine lv_iconst (v := jI (-1)) hx hb dX5_letter_35 rfl ?_
        exact jR.ri F hQ rfl dX5_letter_36 (by rw [atv_out (by omega)])
      · refine lv_aload_n hx hb dX5_letter_21 rfl (lv_at hl 0 rfl) ?_
        refine jv_get (v := .ref ml) F hP 0 rfl flX5_7 rfl dX5_letter_22 ?_
        refine lv_bipush (v := jI 48) hx hb dX5_letter_25 (by decide +kernel) ?_
        refine lv_iload_n hx hb dX5_letter_27 rfl (lv_at hl 1 rfl) ?_
        refine jv_imul hx hb dX5_letter_28 ?_
        refine lv_iload_n hx hb dX5_letter_29 rfl (lv_at hl 2 rfl) ?_
        refine jv_iadd hx hb dX5_letter_30 ?_
        refine jv_iald (fa := M) F hP 1 rfl (by omega) (by decide) dX5_letter_31 ?_
        refine lv_goto (tgt := 36) hx hb dX5_letter_32 rfl ?_
        exact jR.ri F hQ rfl dX5_letter_36 (by rw [atv_in (by omega)])
set_option maxHeartbeats 4000000 in
set_option maxRecDepth 100000 in
theorem kX5_letter_n (l : Launch) (D : va_G) (cA : ClassId) (mo ml mn mf mt mw mk mz : Nat) (K g ga lo gp li fo ln bs kn rd ep eq al fa : Int) (M N : Int → Int) (row : Int) (i : Int) (hr : row ≠ 0 ∧ row ≠ 1) (hr2 : -2147483648 ≤ row ∧ row < 2147483648) (hi : -2147483648 ≤ i ∧ i < 2147483648) : jR l YX5_letter (rmk 1 0 0 20) D cA [.ref mo, .int (jI row), .int (jI i)] [(mo, .inr (5, [.ref ml, .ref mn, .int (jI K), .int (jI g), .int (jI ga), .int (jI lo), .int (jI gp), .int (jI li), .ref mf, .ref mt, .ref mw, .int (jI fo), .ref mk, .int (jI ln), .int (jI bs), .int (jI kn), .ref mz, .int (jI rd), .int (jI ep), .int (jI eq), .int (jI al), .int (jI fa)])), (ml, .inl (cA, 96, .inl (jA M))), (mn, .inl (cA, 2, .inl (jA N)))] (fun v => v = .int (jI (-1))) := by
  refine jR.intro (by decide +kernel) (Nat.le_of_ble_eq_true rfl) ?_
  intro p e s m args below meth c ls Q F hQ hP hl
  have hx := F.1
  have hb := F.2.1
  have hl : lv_has ls 3 [(0, .ref mo), (1, .int (jI row)), (2, .int (jI i))] := hl
  refine lv_iload_n hx hb dX5_letter_0 rfl (lv_at hl 1 rfl) ?_
  refine jr_S F (kX5_isRow l D cA row (by omega)) csX5_50 hP [] rfl hl ⟨rfl, rfl, by decide, by decide⟩ rfl rfl (Nat.le_of_ble_eq_true rfl) dX5_letter_1 ⟨by decide, by decide⟩ (fun v hv => ?_)
  obtain ⟨z1, rfl, hz1⟩ := hv
  refine jv_if_eq (tgt := 35) hx hb dX5_letter_4 rfl (by omega) (fun c4 => ?_) (fun c4 => ?_)
  · refine lv_iconst (v := jI (-1)) hx hb dX5_letter_35 rfl ?_
    exact jR.ri F hQ rfl dX5_letter_36 (by rfl)
  · exfalso
    omega
set_option maxHeartbeats 4000000 in
set_option maxRecDepth 100000 in
theorem kX5_seeds (l : Launch) (D : va_G) (cA : ClassId) (mo ml mn mf mt mw mk mz : Nat) (K g ga lo gp li fo ln bs kn rd ep eq al fa : Int) (k : Int) (hk : -2147483648 ≤ k ∧ k < 2147483648) : jM l YX5_seeds (rmk 0 0 0 0) D cA [.ref mo, .int (jI k)] [(mo, .inr (5, [.ref ml, .ref mn, .int (jI K), .int (jI g), .int (jI ga), .int (jI lo), .int (jI gp), .int (jI li), .ref mf, .ref mt, .ref mw, .int (jI fo), .ref mk, .int (jI ln), .int (jI bs), .int (jI kn), .ref mz, .int (jI rd), .int (jI ep), .int (jI eq), .int (jI al), .int (jI fa)]))] (fun v w => ((1 ≤ k ∧ k ≤ 6) ∧ v = some (.int (jI 1)) ∧ w = [(mo, .inr (5, [.ref ml, .ref mn, .int (jI k), .int (jI g), .int (jI ga), .int (jI lo), .int (jI gp), .int (jI li), .ref mf, .ref mt, .ref mw, .int (jI fo), .ref mk, .int (jI ln), .int (jI bs), .int (jI 0), .ref mz, .int (jI rd), .int (jI ep), .int (jI eq), .int (jI al), .int (jI fa)]))]) ∨ (¬ (1 ≤ k ∧ k ≤ 6) ∧ v = some (.int (jI 0)) ∧ w = [(mo, .inr (5, [.ref ml, .ref mn, .int (jI K), .int (jI g), .int (jI ga), .int (jI lo), .int (jI gp), .int (jI li), .ref mf, .ref mt, .ref mw, .int (jI fo), .ref mk, .int (jI ln), .int (jI bs), .int (jI kn), .ref mz, .int (jI rd), .int (jI ep), .int (jI eq), .int (jI al), .int (jI fa)]))])) 0 0 := by
  refine jM.intro (by decide +kernel) (Nat.le_of_ble_eq_true rfl) ?_
  intro p e s m args below meth c ls Q A F hQ hA hP hD hS hl
  have hx := F.1
  have hb := F.2.1
  have hl : lv_has ls 2 [(0, .ref mo), (1, .int (jI k))] := hl
  refine lv_iload_n hx hb dX5_seeds_0 rfl (lv_at hl 1 rfl) ?_
  refine lv_iconst (v := jI 1) hx hb dX5_seeds_1 rfl ?_
  refine jv_icmp_lt (tgt := 11) hx hb dX5_seeds_2 rfl (by omega) (by omega) (fun c2 => ?_) (fun c2 => ?_)
  · refine lv_iconst (v := jI 0) hx hb dX5_seeds_11 rfl ?_
    exact jM.rz F hQ rfl (by omega) dX5_seeds_12 hS hP hD (by exact Or.inr ⟨by omega, rfl, rfl⟩)
  · refine lv_iload_n hx hb dX5_seeds_5 rfl (lv_at hl 1 rfl) ?_
    refine lv_bipush (v := jI 6) hx hb dX5_seeds_6 (by decide +kernel) ?_
    refine jv_icmp_le (tgt := 13) hx hb dX5_seeds_8 rfl (by omega) (by omega) (fun c8 => ?_) (fun c8 => ?_)
    · refine lv_aload_n hx hb dX5_seeds_13 rfl (lv_at hl 0 rfl) ?_
      refine lv_iload_n hx hb dX5_seeds_14 rfl (lv_at hl 1 rfl) ?_
      refine jv_put (v := .int (jI k)) F hP hD hS 0 rfl flX5_16 pfX5 (by decide +kernel) rfl rfl (Nat.le_of_ble_eq_true rfl) dX5_seeds_15 (fun H locs hP hD hS => ?_)
      have hP : va_P D cls [(mo, .inr (5, [.ref ml, .ref mn, .int (jI k), .int (jI g), .int (jI ga), .int (jI lo), .int (jI gp), .int (jI li), .ref mf, .ref mt, .ref mw, .int (jI fo), .ref mk, .int (jI ln), .int (jI bs), .int (jI kn), .ref mz, .int (jI rd), .int (jI ep), .int (jI eq), .int (jI al), .int (jI fa)]))] H := hP
      have hD : va_D A [(mo, .inr (5, [.ref ml, .ref mn, .int (jI k), .int (jI g), .int (jI ga), .int (jI lo), .int (jI gp), .int (jI li), .ref mf, .ref mt, .ref mw, .int (jI fo), .ref mk, .int (jI ln), .int (jI bs), .int (jI kn), .ref mz, .int (jI rd), .int (jI ep), .int (jI eq), .int (jI al), .int (jI fa)]))] := hD
      refine lv_aload_n hx hb dX5_seeds_18 rfl (lv_at hl 0 rfl) ?_
      refine lv_iconst (v := jI 0) hx hb dX5_seeds_19 rfl ?_
      refine jv_put (v := .int (jI 0)) F hP hD hS 0 rfl flX5_54 pfX5 (by decide +kernel) (by decide +kernel) (by decide +kernel) (Nat.le_of_ble_eq_true rfl) dX5_seeds_20 (fun H locs hP hD hS => ?_)
      have hP : va_P D cls [(mo, .inr (5, [.ref ml, .ref mn, .int (jI k), .int (jI g), .int (jI ga), .int (jI lo), .int (jI gp), .int (jI li), .ref mf, .ref mt, .ref mw, .int (jI fo), .ref mk, .int (jI ln), .int (jI bs), .int (jI 0), .ref mz, .int (jI rd), .int (jI ep), .int (jI eq), .int (jI al), .int (jI fa)]))] H := hP
      have hD : va_D A [(mo, .inr (5, [.ref ml, .ref mn, .int (jI k), .int (jI g), .int (jI ga), .int (jI lo), .int (jI gp), .int (jI li), .ref mf, .ref mt, .ref mw, .int (jI fo), .ref mk, .int (jI ln), .int (jI bs), .int (jI 0), .ref mz, .int (jI rd), .int (jI ep), .int (jI eq), .int (jI al), .int (jI fa)]))] := hD
      refine lv_iconst (v := jI 1) hx hb dX5_seeds_23 rfl ?_
      exact jM.rz F hQ rfl (by omega) dX5_seeds_24 hS hP hD (by exact Or.inl ⟨by omega, rfl, rfl⟩)
    · refine lv_iconst (v := jI 0) hx hb dX5_seeds_11 rfl ?_
      exact jM.rz F hQ rfl (by omega) dX5_seeds_12 hS hP hD (by exact Or.inr ⟨by omega, rfl, rfl⟩)
set_option maxHeartbeats 4000000 in
set_option maxRecDepth 100000 in
theorem kX5_penalty (l : Launch) (D : va_G) (cA : ClassId) (mo ml mn mf mt mw mk mz : Nat) (K g ga lo gp li fo ln bs kn rd ep eq al fa : Int) (k : Int) (hk : -2147483648 ≤ k ∧ k < 2147483648) : jM l YX5_penalty (rmk 0 0 0 0) D cA [.ref mo, .int (jI k)] [(mo, .inr (5, [.ref ml, .ref mn, .int (jI K), .int (jI g), .int (jI ga), .int (jI lo), .int (jI gp), .int (jI li), .ref mf, .ref mt, .ref mw, .int (jI fo), .ref mk, .int (jI ln), .int (jI bs), .int (jI kn), .ref mz, .int (jI rd), .int (jI ep), .int (jI eq), .int (jI al), .int (jI fa)]))] (fun v w => ((0 ≤ k ∧ k ≤ 9) ∧ v = some (.int (jI 1)) ∧ w = [(mo, .inr (5, [.ref ml, .ref mn, .int (jI K), .int (jI k), .int (jI ga), .int (jI lo), .int (jI gp), .int (jI li), .ref mf, .ref mt, .ref mw, .int (jI fo), .ref mk, .int (jI ln), .int (jI bs), .int (jI 0), .ref mz, .int (jI rd), .int (jI ep), .int (jI eq), .int (jI al), .int (jI fa)]))]) ∨ (¬ (0 ≤ k ∧ k ≤ 9) ∧ v = some (.int (jI 0)) ∧ w = [(mo, .inr (5, [.ref ml, .ref mn, .int (jI K), .int (jI g), .int (jI ga), .int (jI lo), .int (jI gp), .int (jI li), .ref mf, .ref mt, .ref mw, .int (jI fo), .ref mk, .int (jI ln), .int (jI bs), .int (jI kn), .ref mz, .int (jI rd), .int (jI ep), .int (jI eq), .int (jI al), .int (jI fa)]))])) 0 0 := by
  refine jM.intro (by decide +kernel) (Nat.le_of_ble_eq_true rfl) ?_
  intro p e s m args below meth c ls Q A F hQ hA hP hD hS hl
  have hx := F.1
  have hb := F.2.1
  have hl : lv_has ls 2 [(0, .ref mo), (1, .int (jI k))] := hl
  refine lv_iload_n hx hb dX5_penalty_0 rfl (lv_at hl 1 rfl) ?_
  refine jv_if_lt (tgt := 10) hx hb dX5_penalty_1 rfl (by omega) (fun c1 => ?_) (fun c1 => ?_)
  · refine lv_iconst (v := jI 0) hx hb dX5_penalty_10 rfl ?_
    exact jM.rz F hQ rfl (by omega) dX5_penalty_11 hS hP hD (by exact Or.inr ⟨by omega, rfl, rfl⟩)
  · refine lv_iload_n hx hb dX5_penalty_4 rfl (lv_at hl 1 rfl) ?_
    refine lv_bipush (v := jI 9) hx hb dX5_penalty_5 (by decide +kernel) ?_
    refine jv_icmp_le (tgt := 12) hx hb dX5_penalty_7 rfl (by omega) (by omega) (fun c7 => ?_) (fun c7 => ?_)
    · refine lv_aload_n hx hb dX5_penalty_12 rfl (lv_at hl 0 rfl) ?_
      refine lv_iload_n hx hb dX5_penalty_13 rfl (lv_at hl 1 rfl) ?_
      refine jv_put (v := .int (jI k)) F hP hD hS 0 rfl flX5_20 pfX5 (by decide +kernel) rfl rfl (Nat.le_of_ble_eq_true rfl) dX5_penalty_14 (fun H locs hP hD hS => ?_)
      have hP : va_P D cls [(mo, .inr (5, [.ref ml, .ref mn, .int (jI K), .int (jI k), .int (jI ga), .int (jI lo), .int (jI gp), .int (jI li), .ref mf, .ref mt, .ref mw, .int (jI fo), .ref mk, .int (jI ln), .int (jI bs), .int (jI kn), .ref mz, .int (jI rd), .int (jI ep), .int (jI eq), .int (jI al), .int (jI fa)]))] H := hP
      have hD : va_D A [(mo, .inr (5, [.ref ml, .ref mn, .int (jI K), .int (jI k), .int (jI ga), .int (jI lo), .int (jI gp), .int (jI li), .ref mf, .ref mt, .ref mw, .int (jI fo), .ref mk, .int (jI ln), .int (jI bs), .int (jI kn), .ref mz, .int (jI rd), .int (jI ep), .int (jI eq), .int (jI al), .int (jI fa)]))] := hD
      refine lv_aload_n hx hb dX5_penalty_17 rfl (lv_at hl 0 rfl) ?_
      refine lv_iconst (v := jI 0) hx hb dX5_penalty_18 rfl ?_
      refine jv_put (v := .int (jI 0)) F hP hD hS 0 rfl flX5_54 pfX5 (by decide +kernel) (by decide +kernel) (by decide +kernel) (Nat.le_of_ble_eq_true rfl) dX5_penalty_19 (fun H locs hP hD hS => ?_)
      have hP : va_P D cls [(mo, .inr (5, [.ref ml, .ref mn, .int (jI K), .int (jI k), .int (jI ga), .int (jI lo), .int (jI gp), .int (jI li), .ref mf, .ref mt, .ref mw, .int (jI fo), .ref mk, .int (jI ln), .int (jI bs), .int (jI 0), .ref mz, .int (jI rd), .int (jI ep), .int (jI eq), .int (jI al), .int (jI fa)]))] H := hP
      have hD : va_D A [(mo, .inr (5, [.ref ml, .ref mn, .int (jI K), .int (jI k), .int (jI ga), .int (jI lo), .int (jI gp), .int (jI li), .ref mf, .ref mt, .ref mw, .int (jI fo), .ref mk, .int (jI ln), .int (jI bs), .int (jI 0), .ref mz, .int (jI rd), .int (jI ep), .int (jI eq), .int (jI al), .int (jI fa)]))] := hD
      refine lv_iconst (v := jI 1) hx hb dX5_penalty_22 rfl ?_
      exact jM.rz F hQ rfl (by omega) dX5_penalty_23 hS hP hD (by exact Or.inl ⟨by omega, rfl, rfl⟩)
    · refine lv_iconst (v := jI 0) hx hb dX5_penalty_10 rfl ?_
      exact jM.rz F hQ rfl (by omega) dX5_penalty_11 hS hP hD (by exact Or.inr ⟨by omega, rfl, rfl⟩)
set_option maxHeartbeats 4000000 in
set_option maxRecDepth 100000 in
theorem kX5_scores (l : Launch) (D : va_G) (cA : ClassId) (mo ml mn mf mt mw mk mz : Nat) (K g ga lo gp li fo ln bs kn rd ep eq al fa : Int) (a1 a2 a3 a4 : Int) (hr1 : -2147483648 ≤ a1 ∧ a1 < 2147483648) (hr2 : -2147483648 ≤ a2 ∧ a2 < 2147483648) (hr3 : -2147483648 ≤ a3 ∧ a3 < 2147483648) (hr4 : -2147483648 ≤ a4 ∧ a4 < 2147483648) : jM l YX5_scores (rmk 0 0 0 0) D cA [.ref mo, .int (jI a1), .int (jI a2), .int (jI a3), .int (jI a4)] [(mo, .inr (5, [.ref ml, .ref mn, .int (jI K), .int (jI g), .int (jI ga), .int (jI lo), .int (jI gp), .int (jI li), .ref mf, .ref mt, .ref mw, .int (jI fo), .ref mk, .int (jI ln), .int (jI bs), .int (jI kn), .ref mz, .int (jI rd), .int (jI ep), .int (jI eq), .int (jI al), .int (jI fa)]))] (fun v w => (((1 ≤ a1 ∧ a1 ≤ 9) ∧ (0 ≤ a2 ∧ a2 ≤ 9) ∧ (1 ≤ a3 ∧ a3 ≤ 9) ∧ (0 ≤ a4 ∧ a4 ≤ 99)) ∧ v = some (.int (jI 1)) ∧ w = [(mo, .inr (5, [.ref ml, .ref mn, .int (jI K), .int (jI g), .int (jI a1), .int (jI a2), .int (jI a3), .int (jI a4), .ref mf, .ref mt, .ref mw, .int (jI fo), .ref mk, .int (jI ln), .int (jI bs), .int (jI kn), .ref mz, .int (jI rd), .int (jI ep), .int (jI eq), .int (jI al), .int (jI fa)]))]) ∨ (¬ ((1 ≤ a1 ∧ a1 ≤ 9) ∧ (0 ≤ a2 ∧ a2 ≤ 9) ∧ (1 ≤ a3 ∧ a3 ≤ 9) ∧ (0 ≤ a4 ∧ a4 ≤ 99)) ∧ v = some (.int (jI 0)) ∧ w = [(mo, .inr (5, [.ref ml, .ref mn, .int (jI K), .int (jI g), .int (jI ga), .int (jI lo), .int (jI gp), .int (jI li), .ref mf, .ref mt, .ref mw, .int (jI fo), .ref mk, .int (jI ln), .int (jI bs), .int (jI kn), .ref mz, .int (jI rd), .int (jI ep), .int (jI eq), .int (jI al), .int (jI fa)]))])) 0 0 := by
  refine jM.intro (by decide +kernel) (Nat.le_of_ble_eq_true rfl) ?_
  intro p e s m args below meth c ls Q A F hQ hA hP hD hS hl
  have hx := F.1
  have hb := F.2.1
  have hl : lv_has ls 5 [(0, .ref mo), (1, .int (jI a1)), (2, .int (jI a2)), (3, .int (jI a3)), (4, .int (jI a4))] := hl
  refine lv_iload_n hx hb dX5_scores_0 rfl (lv_at hl 1 rfl) ?_
  refine lv_iconst (v := jI 1) hx hb dX5_scores_1 rfl ?_
  refine jv_icmp_lt (tgt := 44) hx hb dX5_scores_2 rfl (by omega) (by omega) (fun c2 => ?_) (fun c2 => ?_)
  · refine lv_iconst (v := jI 0) hx hb dX5_scores_44 rfl ?_
    exact jM.rz F hQ rfl (by omega) dX5_scores_45 hS hP hD (by exact Or.inr ⟨by omega, rfl, rfl⟩)
  · refine lv_iload_n hx hb dX5_scores_5 rfl (lv_at hl 1 rfl) ?_
    refine lv_bipush (v := jI 9) hx hb dX5_scores_6 (by decide +kernel) ?_
    refine jv_icmp_gt (tgt := 44) hx hb dX5_scores_8 rfl (by omega) (by omega) (fun c8 => ?_) (fun c8 => ?_)
    · refine lv_iconst (v := jI 0) hx hb dX5_scores_44 rfl ?_
      exact jM.rz F hQ rfl (by omega) dX5_scores_45 hS hP hD (by exact Or.inr ⟨by omega, rfl, rfl⟩)
    · refine lv_iload_n hx hb dX5_scores_11 rfl (lv_at hl 2 rfl) ?_
      refine jv_if_lt (tgt := 44) hx hb dX5_scores_12 rfl (by omega) (fun c12 => ?_) (fun c12 => ?_)
      · refine lv_iconst (v := jI 0) hx hb dX5_scores_44 rfl ?_
        exact jM.rz F hQ rfl (by omega) dX5_scores_45 hS hP hD (by exact Or.inr ⟨by omega, rfl, rfl⟩)
      · refine lv_iload_n hx hb dX5_scores_15 rfl (lv_at hl 2 rfl) ?_
        refine lv_bipush (v := jI 9) hx hb dX5_scores_16 (by decide +kernel) ?_
        refine jv_icmp_gt (tgt := 44) hx hb dX5_scores_18 rfl (by omega) (by omega) (fun c18 => ?_) (fun c18 => ?_)
        · refine lv_iconst (v := jI 0) hx hb dX5_scores_44 rfl ?_
          exact jM.rz F hQ rfl (by omega) dX5_scores_45 hS hP hD (by exact Or.inr ⟨by omega, rfl, rfl⟩)
        · refine lv_iload_n hx hb dX5_scores_21 rfl (lv_at hl 3 rfl) ?_
          refine lv_iconst (v := jI 1) hx hb dX5_scores_22 rfl ?_
          refine jv_icmp_lt (tgt := 44) hx hb dX5_scores_23 rfl (by omega) (by omega) (fun c23 => ?_) (fun c23 => ?_)
          · refine lv_iconst (v := jI 0) hx hb dX5_scores_44 rfl ?_
            exact jM.rz F hQ rfl (by omega) dX5_scores_45 hS hP hD (by exact Or.inr ⟨by omega, rfl, rfl⟩)
          · refine lv_iload_n hx hb dX5_scores_26 rfl (lv_at hl 3 rfl) ?_
            refine lv_bipush (v := jI 9) hx hb dX5_scores_27 (by decide +kernel) ?_
            refine jv_icmp_gt (tgt := 44) hx hb dX5_scores_29 rfl (by omega) (by omega) (fun c29 => ?_) (fun c29 => ?_)
            · refine lv_iconst (v := jI 0) hx hb dX5_scores_44 rfl ?_
              exact jM.rz F hQ rfl (by omega) dX5_scores_45 hS hP hD (by exact Or.inr ⟨by omega, rfl, rfl⟩)
            · refine lv_iload hx hb dX5_scores_32 (lv_at hl 4 rfl) ?_
              refine jv_if_lt (tgt := 44) hx hb dX5_scores_34 rfl (by omega) (fun c34 => ?_) (fun c34 => ?_)
              · refine lv_iconst (v := jI 0) hx hb dX5_scores_44 rfl ?_
                exact jM.rz F hQ rfl (by omega) dX5_scores_45 hS hP hD (by exact Or.inr ⟨by omega, rfl, rfl⟩)
              · refine lv_iload hx hb dX5_scores_37 (lv_at hl 4 rfl) ?_
                refine lv_bipush (v := jI 99) hx hb dX5_scores_39 (by decide +kernel) ?_
                refine jv_icmp_le (tgt := 46) hx hb dX5_scores_41 rfl (by omega) (by omega) (fun c41 => ?_) (fun c41 => ?_)
                · refine lv_aload_n hx hb dX5_scores_46 rfl (lv_at hl 0 rfl) ?_
                  refine lv_iload_n hx hb dX5_scores_47 rfl (lv_at hl 1 rfl) ?_
                  refine jv_put (v := .int (jI a1)) F hP hD hS 0 rfl flX5_23 pfX5 (by decide +kernel) rfl rfl (Nat.le_of_ble_eq_true rfl) dX5_scores_48 (fun H locs hP hD hS => ?_)
                  have hP : va_P D cls [(mo, .inr (5, [.ref ml, .ref mn, .int (jI K), .int (jI g), .int (jI a1), .int (jI lo), .int (jI gp), .int (jI li), .ref mf, .ref mt, .ref mw, .int (jI fo), .ref mk, .int (jI ln), .int (jI bs), .int (jI kn), .ref mz, .int (jI rd), .int (jI ep), .int (jI eq), .int (jI al), .int (jI fa)]))] H := hP
                  have hD : va_D A [(mo, .inr (5, [.ref ml, .ref mn, .int (jI K), .int (jI g), .int (jI a1), .int (jI lo), .int (jI gp), .int (jI li), .ref mf, .ref mt, .ref mw, .int (jI fo), .ref mk, .int (jI ln), .int (jI bs), .int (jI kn), .ref mz, .int (jI rd), .int (jI ep), .int (jI eq), .int (jI al), .int (jI fa)]))] := hD
                  refine lv_aload_n hx hb dX5_scores_51 rfl (lv_at hl 0 rfl) ?_
                  refine lv_iload_n hx hb dX5_scores_52 rfl (lv_at hl 2 rfl) ?_
                  refine jv_put (v := .int (jI a2)) F hP hD hS 0 rfl flX5_26 pfX5 (by decide +kernel) rfl rfl (Nat.le_of_ble_eq_true rfl) dX5_scores_53 (fun H locs hP hD hS => ?_)
                  have hP : va_P D cls [(mo, .inr (5, [.ref ml, .ref mn, .int (jI K), .int (jI g), .int (jI a1), .int (jI a2), .int (jI gp), .int (jI li), .ref mf, .ref mt, .ref mw, .int (jI fo), .ref mk, .int (jI ln), .int (jI bs), .int (jI kn), .ref mz, .int (jI rd), .int (jI ep), .int (jI eq), .int (jI al), .int (jI fa)]))] H := hP
                  have hD : va_D A [(mo, .inr (5, [.ref ml, .ref mn, .int (jI K), .int (jI g), .int (jI a1), .int (jI a2), .int (jI gp), .int (jI li), .ref mf, .ref mt, .ref mw, .int (jI fo), .ref mk, .int (jI ln), .int (jI bs), .int (jI kn), .ref mz, .int (jI rd), .int (jI ep), .int (jI eq), .int (jI al), .int (jI fa)]))] := hD
                  refine lv_aload_n hx hb dX5_scores_56 rfl (lv_at hl 0 rfl) ?_
                  refine lv_iload_n hx hb dX5_scores_57 rfl (lv_at hl 3 rfl) ?_
                  refine jv_put (v := .int (jI a3)) F hP hD hS 0 rfl flX5_29 pfX5 (by decide +kernel) rfl rfl (Nat.le_of_ble_eq_true rfl) dX5_scores_58 (fun H locs hP hD hS => ?_)
                  have hP : va_P D cls [(mo, .inr (5, [.ref ml, .ref mn, .int (jI K), .int (jI g), .int (jI a1), .int (jI a2), .int (jI a3), .int (jI li), .ref mf, .ref mt, .ref mw, .int (jI fo), .ref mk, .int (jI ln), .int (jI bs), .int (jI kn), .ref mz, .int (jI rd), .int (jI ep), .int (jI eq), .int (jI al), .int (jI fa)]))] H := hP
                  have hD : va_D A [(mo, .inr (5, [.ref ml, .ref mn, .int (jI K), .int (jI g), .int (jI a1), .int (jI a2), .int (jI a3), .int (jI li), .ref mf, .ref mt, .ref mw, .int (jI fo), .ref mk, .int (jI ln), .int (jI bs), .int (jI kn), .ref mz, .int (jI rd), .int (jI ep), .int (jI eq), .int (jI al), .int (jI fa)]))] := hD
                  refine lv_aload_n hx hb dX5_scores_61 rfl (lv_at hl 0 rfl) ?_
                  refine lv_iload hx hb dX5_scores_62 (lv_at hl 4 rfl) ?_
                  refine jv_put (v := .int (jI a4)) F hP hD hS 0 rfl flX5_32 pfX5 (by decide +kernel) rfl rfl (Nat.le_of_ble_eq_true rfl) dX5_scores_64 (fun H locs hP hD hS => ?_)
                  have hP : va_P D cls [(mo, .inr (5, [.ref ml, .ref mn, .int (jI K), .int (jI g), .int (jI a1), .int (jI a2), .int (jI a3), .int (jI a4), .ref mf, .ref mt, .ref mw, .int (jI fo), .ref mk, .int (jI ln), .int (jI bs), .int (jI kn), .ref mz, .int (jI rd), .int (jI ep), .int (jI eq), .int (jI al), .int (jI fa)]))] H := hP
                  have hD : va_D A [(mo, .inr (5, [.ref ml, .ref mn, .int (jI K), .int (jI g), .int (jI a1), .int (jI a2), .int (jI a3), .int (jI a4), .ref mf, .ref mt, .ref mw, .int (jI fo), .ref mk, .int (jI ln), .int (jI bs), .int (jI kn), .ref mz, .int (jI rd), .int (jI ep), .int (jI eq), .int (jI al), .int (jI fa)]))] := hD
                  refine lv_iconst (v := jI 1) hx hb dX5_scores_67 rfl ?_
                  exact jM.rz F hQ rfl (by omega) dX5_scores_68 hS hP hD (by exact Or.inl ⟨by omega, rfl, rfl⟩)
                · refine lv_iconst (v := jI 0) hx hb dX5_scores_44 rfl ?_
                  exact jM.rz F hQ rfl (by omega) dX5_scores_45 hS hP hD (by exact Or.inr ⟨by omega, rfl, rfl⟩)
set_option maxHeartbeats 4000000 in
set_option maxRecDepth 100000 in
theorem kX5_reached (l : Launch) (D : va_G) (cA : ClassId) (mo ml mn mf mt mw mk mz : Nat) (K g ga lo gp li fo ln bs kn rd ep eq al fa : Int) (what : Int) (hw : -2147483648 ≤ what ∧ what < 2147483648) (hrd : rd = 0 ∨ rd = 1) : jR l YX5_reached (rmk 0 0 0 0) D cA [.ref mo, .int (jI what)] [(mo, .inr (5, [.ref ml, .ref mn, .int (jI K), .int (jI g), .int (jI ga), .int (jI lo), .int (jI gp), .int (jI li), .ref mf, .ref mt, .ref mw, .int (jI fo), .ref mk, .int (jI ln), .int (jI bs), .int (jI kn), .ref mz, .int (jI rd), .int (jI ep), .int (jI eq), .int (jI al), .int (jI fa)]))] (fun v => v = .int (jI (if rd = 0 then -1 else outv ep eq al fa what))) := by
  refine jR.intro (by decide +kernel) (Nat.le_of_ble_eq_true rfl) ?_
  intro p e s m args below meth c ls Q F hQ hP hl
  have hx := F.1
  have hb := F.2.1
  have hl : lv_has ls 2 [(0, .ref mo), (1, .int (jI what))] := hl
  refine lv_aload_n hx hb dX5_reached_0 rfl (lv_at hl 0 rfl) ?_
  refine jv_get (v := .int (jI rd)) F hP 0 rfl flX5_79 rfl dX5_reached_1 ?_
  refine jv_if_ne (tgt := 9) hx hb dX5_reached_4 rfl (by omega) (fun c4 => ?_) (fun c4 => ?_)
  · refine lv_iload_n hx hb dX5_reached_9 rfl (lv_at hl 1 rfl) ?_
    refine jv_if_ne (tgt := 20) hx hb dX5_reached_10 rfl (by omega) (fun c10 => ?_) (fun c10 => ?_)
    · refine lv_iload_n hx hb dX5_reached_20 rfl (lv_at hl 1 rfl) ?_
      refine lv_iconst (v := jI 1) hx hb dX5_reached_21 rfl ?_
      refine jv_icmp_ne (tgt := 32) hx hb dX5_reached_22 rfl (by omega) (by omega) (fun c22 => ?_) (fun c22 => ?_)
      · refine lv_iload_n hx hb dX5_reached_32 rfl (lv_at hl 1 rfl) ?_
        refine lv_iconst (v := jI 2) hx hb dX5_reached_33 rfl ?_
        refine jv_icmp_ne (tgt := 44) hx hb dX5_reached_34 rfl (by omega) (by omega) (fun c34 => ?_) (fun c34 => ?_)
        · refine lv_iload_n hx hb dX5_reached_44 rfl (lv_at hl 1 rfl) ?_
          refine lv_iconst (v := jI 3) hx hb dX5_reached_45 rfl ?_
          refine jv_icmp_ne (tgt := 56) hx hb dX5_reached_46 rfl (by omega) (by omega) (fun c46 => ?_) (fun c46 => ?_)
          · refine lv_iconst (v := jI (-1)) hx hb dX5_reached_56 rfl ?_
            exact jR.ri F hQ rfl dX5_reached_57 (by first | (rw [if_pos (by omega)]; done) | (rw [if_neg (by omega), outv_0 (by omega)]; done) | (rw [if_neg (by omega), outv_1 (by omega)]; done) | (rw [if_neg (by omega), outv_2 (by omega)]; done) | (rw [if_neg (by omega), outv_3 (by omega)]; done) | (rw [if_neg (by omega), outv_n (by omega)]; done))
          · refine lv_aload_n hx hb dX5_reached_49 rfl (lv_at hl 0 rfl) ?_
            refine jv_get (v := .int (jI fa)) F hP 0 rfl flX5_91 rfl dX5_reached_50 ?_
            refine lv_goto (tgt := 57) hx hb dX5_reached_53 rfl ?_
            exact jR.ri F hQ rfl dX5_reached_57 (by first | (rw [if_pos (by omega)]; done) | (rw [if_neg (by omega), outv_0 (by omega)]; done) | (rw [if_neg (by omega), outv_1 (by omega)]; done) | (rw [if_neg (by omega), outv_2 (by omega)]; done) | (rw [if_neg (by omega), outv_3 (by omega)]; done) | (rw [if_neg (by omega), outv_n (by omega)]; done))
        · refine lv_aload_n hx hb dX5_reached_37 rfl (lv_at hl 0 rfl) ?_
          refine jv_get (v := .int (jI al)) F hP 0 rfl flX5_88 rfl dX5_reached_38 ?_
          refine lv_goto (tgt := 57) hx hb dX5_reached_41 rfl ?_
          exact jR.ri F hQ rfl dX5_reached_57 (by first | (rw [if_pos (by omega)]; done) | (rw [if_neg (by omega), outv_0 (by omega)]; done) | (rw [if_neg (by omega), outv_1 (by omega)]; done) | (rw [if_neg (by omega), outv_2 (by omega)]; done) | (rw [if_neg (by omega), outv_3 (by omega)]; done) | (rw [if_neg (by omega), outv_n (by omega)]; done))
      · refine lv_aload_n hx hb dX5_reached_25 rfl (lv_at hl 0 rfl) ?_
        refine jv_get (v := .int (jI eq)) F hP 0 rfl flX5_85 rfl dX5_reached_26 ?_
        refine lv_goto (tgt := 57) hx hb dX5_reached_29 rfl ?_
        exact jR.ri F hQ rfl dX5_reached_57 (by first | (rw [if_pos (by omega)]; done) | (rw [if_neg (by omega), outv_0 (by omega)]; done) | (rw [if_neg (by omega), outv_1 (by omega)]; done) | (rw [if_neg (by omega), outv_2 (by omega)]; done) | (rw [if_neg (by omega), outv_3 (by omega)]; done) | (rw [if_neg (by omega), outv_n (by omega)]; done))
    · refine lv_aload_n hx hb dX5_reached_13 rfl (lv_at hl 0 rfl) ?_
      refine jv_get (v := .int (jI ep)) F hP 0 rfl flX5_82 rfl dX5_reached_14 ?_
      refine lv_goto (tgt := 57) hx hb dX5_reached_17 rfl ?_
      exact jR.ri F hQ rfl dX5_reached_57 (by first | (rw [if_pos (by omega)]; done) | (rw [if_neg (by omega), outv_0 (by omega)]; done) | (rw [if_neg (by omega), outv_1 (by omega)]; done) | (rw [if_neg (by omega), outv_2 (by omega)]; done) | (rw [if_neg (by omega), outv_3 (by omega)]; done) | (rw [if_neg (by omega), outv_n (by omega)]; done))
  · refine lv_iconst (v := jI (-1)) hx hb dX5_reached_7 rfl ?_
    exact jR.ri F hQ rfl dX5_reached_8 (by first | (rw [if_pos (by omega)]; done) | (rw [if_neg (by omega), outv_0 (by omega)]; done) | (rw [if_neg (by omega), outv_1 (by omega)]; done) | (rw [if_neg (by omega), outv_2 (by omega)]; done) | (rw [if_neg (by omega), outv_3 (by omega)]; done) | (rw [if_neg (by omega), outv_n (by omega)]; done))
set_option maxHeartbeats 4000000 in
set_option maxRecDepth 100000 in
theorem kX5_greater (l : Launch) (D : va_G) (cA : ClassId) (x y : Int) (hx0 : -2147483648 ≤ x ∧ x < 2147483648) (hy : -2147483648 ≤ y ∧ y < 2147483648) : jR l YX5_greater (rmk 0 0 0 0) D cA [.int (jI x), .int (jI y)] [] (fun v => v = .int (jI (max x y))) := by
  refine jR.intro (by decide +kernel) (Nat.le_of_ble_eq_true rfl) ?_
  intro p e s m args below meth c ls Q F hQ hP hl
  have hx := F.1
  have hb := F.2.1
  have hl : lv_has ls 2 [(0, .int (jI x)), (1, .int (jI y))] := hl
  refine lv_iload_n hx hb dX5_greater_0 rfl (lv_at hl 0 rfl) ?_
  refine lv_iload_n hx hb dX5_greater_1 rfl (lv_at hl 1 rfl) ?_
  refine jv_icmp_le (tgt := 9) hx hb dX5_greater_2 rfl (by omega) (by omega) (fun c2 => ?_) (fun c2 => ?_)
  · refine lv_iload_n hx hb dX5_greater_9 rfl (lv_at hl 1 rfl) ?_
    exact jR.ri F hQ rfl dX5_greater_10 (by first | (rw [Int.max_eq_left (by omega)]; done) | (rw [Int.max_eq_right (by omega)]; done))
  · refine lv_iload_n hx hb dX5_greater_5 rfl (lv_at hl 0 rfl) ?_
    refine lv_goto (tgt := 10) hx hb dX5_greater_6 rfl ?_
    exact jR.ri F hQ rfl dX5_greater_10 (by first | (rw [Int.max_eq_left (by omega)]; done) | (rw [Int.max_eq_right (by omega)]; done))
set_option maxHeartbeats 4000000 in
set_option maxRecDepth 100000 in
theorem kX5_scoreAt (l : Launch) (D : va_G) (cA : ClassId) (mo ml mn mf mt mw mk mz : Nat) (K g ga lo gp li fo ln bs kn rd ep eq al fa : Int) (sc : Int → Int) (pp q : Int) (hp : -1 ≤ pp ∧ pp ≤ 48) (hq : -1 ≤ q ∧ q ≤ 48) : jR l YX5_scoreAt (rmk 0 0 0 0) D cA [.ref mo, .int (jI pp), .int (jI q)] [(mo, .inr (5, [.ref ml, .ref mn, .int (jI K), .int (jI g), .int (jI ga), .int (jI lo), .int (jI gp), .int (jI li), .ref mf, .ref mt, .ref mw, .int (jI fo), .ref mk, .int (jI ln), .int (jI bs), .int (jI kn), .ref mz, .int (jI rd), .int (jI ep), .int (jI eq), .int (jI al), .int (jI fa)])), (mz, .inl (cA, 2401, .inl (jA sc)))] (fun v => v = .int (jI (sat sc pp q))) := by
  refine jR.intro (by decide +kernel) (Nat.le_of_ble_eq_true rfl) ?_
  intro p e s m args below meth c ls Q F hQ hP hl
  have hx := F.1
  have hb := F.2.1
  have hl : lv_has ls 3 [(0, .ref mo), (1, .int (jI pp)), (2, .int (jI q))] := hl
  refine lv_iload_n hx hb dX5_scoreAt_0 rfl (lv_at hl 1 rfl) ?_
  refine jv_if_lt (tgt := 8) hx hb dX5_scoreAt_1 rfl (by omega) (fun c1 => ?_) (fun c1 => ?_)
  · refine lv_ldc (v := jI (-1000000)) hx hb F.own (F.wd wcX5_78) dX5_scoreAt_8 ?_
    refine lv_goto (tgt := 24) hx hb dX5_scoreAt_10 rfl ?_
    exact jR.ri F hQ rfl dX5_scoreAt_24 (by rw [sat_o (by omega)])
  · refine lv_iload_n hx hb dX5_scoreAt_4 rfl (lv_at hl 2 rfl) ?_
    refine jv_if_ge (tgt := 13) hx hb dX5_scoreAt_5 rfl (by omega) (fun c5 => ?_) (fun c5 => ?_)
    · refine lv_aload_n hx hb dX5_scoreAt_13 rfl (lv_at hl 0 rfl) ?_
      refine jv_get (v := .ref mz) F hP 0 rfl flX5_47 rfl dX5_scoreAt_14 ?_
      refine lv_bipush (v := jI 49) hx hb dX5_scoreAt_17 (by decide +kernel) ?_
      refine lv_iload_n hx hb dX5_scoreAt_19 rfl (lv_at hl 1 rfl) ?_
      refine jv_imul hx hb dX5_scoreAt_20 ?_
      refine lv_iload_n hx hb dX5_scoreAt_21 rfl (lv_at hl 2 rfl) ?_
      refine jv_iadd hx hb dX5_scoreAt_22 ?_
      refine jv_iald (fa := sc) F hP 1 rfl (by omega) (by decide) dX5_scoreAt_23 ?_
      exact jR.ri F hQ rfl dX5_scoreAt_24 (by rw [sat_i (by omega)])
    · refine lv_ldc (v := jI (-1000000)) hx hb F.own (F.wd wcX5_78) dX5_scoreAt_8 ?_
      refine lv_goto (tgt := 24) hx hb dX5_scoreAt_10 rfl ?_
      exact jR.ri F hQ rfl dX5_scoreAt_24 (by rw [sat_o (by omega)])
set_option maxHeartbeats 4000000 in
set_option maxRecDepth 100000 in
theorem kX5_init (l : Launch) (D : va_G) (cA : ClassId) (mo : Nat)  : jM l YX5_init (rmk 1 7 9459 12) D cA [.ref mo] [(mo, .inr (5, [.null, .null, .int (jI 0), .int (jI 0), .int (jI 0), .int (jI 0), .int (jI 0), .int (jI 0), .null, .null, .null, .int (jI 0), .null, .int (jI 0), .int (jI 0), .int (jI 0), .null, .int (jI 0), .int (jI 0), .int (jI 0), .int (jI 0), .int (jI 0)]))] (fun v w => v = none ∧ ∃ ml mn mf mt mw mk mz : Nat, w = [(mo, .inr (5, [.ref ml, .ref mn, .int (jI 2), .int (jI 1), .int (jI 2), .int (jI 1), .int (jI 2), .int (jI 6), .ref mf, .ref mt, .ref mw, .int (jI 0), .ref mk, .int (jI 0), .int (jI 0), .int (jI 0), .ref mz, .int (jI 0), .int (jI 0), .int (jI 0), .int (jI 0), .int (jI 0)])), (ml, .inl (cA, 96, .inl (jA (fun _ => 0)))), (mn, .inl (cA, 2, .inl (jA (fun _ => 0)))), (mf, .inl (cA, 2304, .inl (jA (fun _ => 0)))), (mt, .inl (cA, 2304, .inl (jA (fun _ => 0)))), (mw, .inl (cA, 2304, .inl (jA (fun _ => 0)))), (mk, .inl (cA, 48, .inl (jA (fun _ => 0)))), (mz, .inl (cA, 2401, .inl (jA (fun _ => 0))))]) 7 9459 := by
  refine jM.intro (by decide +kernel) (Nat.le_of_ble_eq_true rfl) ?_
  intro p e s m args below meth c ls Q A F hQ hA hP hD hS hl
  have hx := F.1
  have hb := F.2.1
  have hl : lv_has ls 1 [(0, .ref mo)] := hl
  refine lv_aload_n hx hb dX5_init_0 rfl (lv_at hl 0 rfl) ?_
  refine jv_obj F wmX5_1 hl (by decide) (Nat.le_of_ble_eq_true rfl) dX5_init_1 ?_
  refine lv_aload_n hx hb dX5_init_4 rfl (lv_at hl 0 rfl) ?_
  refine lv_bipush (v := jI 96) hx hb dX5_init_5 (by decide +kernel) ?_
  refine jv_newa (N' := 96) F hP hD hS hA (by decide +kernel) (by decide +kernel) (by decide) (by decide) dX5_init_7 (fun q7 H hP hD hS => ?_)
  have hP : va_P D cls [(mo, .inr (5, [.null, .null, .int (jI 0), .int (jI 0), .int (jI 0), .int (jI 0), .int (jI 0), .int (jI 0), .null, .null, .null, .int (jI 0), .null, .int (jI 0), .int (jI 0), .int (jI 0), .null, .int (jI 0), .int (jI 0), .int (jI 0), .int (jI 0), .int (jI 0)])), (q7, .inl (cA, 96, .inl (jA (fun _ => 0))))] H := hP
  have hD : va_D A [(mo, .inr (5, [.null, .null, .int (jI 0), .int (jI 0), .int (jI 0), .int (jI 0), .int (jI 0), .int (jI 0), .null, .null, .null, .int (jI 0), .null, .int (jI 0), .int (jI 0), .int (jI 0), .null, .int (jI 0), .int (jI 0), .int (jI 0), .int (jI 0), .int (jI 0)])), (q7, .inl (cA, 96, .inl (jA (fun _ => 0))))] := hD
  refine W.widen (k := 1) (n := 96) (by decide) (by decide) ?_
  refine jv_putF (v := .ref q7) F hP hD hS 0 rfl flX5_7 pfX5 (by decide +kernel) rfl rfl rfl rfl (Nat.le_of_ble_eq_true rfl) dX5_init_9 (fun H locs hP hD hS => ?_)
  have hP : va_P D cls [(mo, .inr (5, [.ref q7, .null, .int (jI 0), .int (jI 0), .int (jI 0), .int (jI 0), .int (jI 0), .int (jI 0), .null, .null, .null, .int (jI 0), .null, .int (jI 0), .int (jI 0), .int (jI 0), .null, .int (jI 0), .int (jI 0), .int (jI 0), .int (jI 0), .int (jI 0)])), (q7, .inl (cA, 96, .inl (jA (fun _ => 0))))] H := hP
  have hD : va_D A [(mo, .inr (5, [.ref q7, .null, .int (jI 0), .int (jI 0), .int (jI 0), .int (jI 0), .int (jI 0), .int (jI 0), .null, .null, .null, .int (jI 0), .null, .int (jI 0), .int (jI 0), .int (jI 0), .null, .int (jI 0), .int (jI 0), .int (jI 0), .int (jI 0), .int (jI 0)])), (q7, .inl (cA, 96, .inl (jA (fun _ => 0))))] := hD
  refine lv_aload_n hx hb dX5_init_12 rfl (lv_at hl 0 rfl) ?_
  refine lv_iconst (v := jI 2) hx hb dX5_init_13 rfl ?_
  refine jv_newa (N' := 2) F hP hD hS hA (by decide +kernel) (by decide +kernel) (by decide) (by decide) dX5_init_14 (fun q14 H hP hD hS => ?_)
  have hP : va_P D cls [(mo, .inr (5, [.ref q7, .null, .int (jI 0), .int (jI 0), .int (jI 0), .int (jI 0), .int (jI 0), .int (jI 0), .null, .null, .null, .int (jI 0), .null, .int (jI 0), .int (jI 0), .int (jI 0), .null, .int (jI 0), .int (jI 0), .int (jI 0), .int (jI 0), .int (jI 0)])), (q7, .inl (cA, 96, .inl (jA (fun _ => 0)))), (q14, .inl (cA, 2, .inl (jA (fun _ => 0))))] H := hP
  have hD : va_D A [(mo, .inr (5, [.ref q7, .null, .int (jI 0), .int (jI 0), .int (jI 0), .int (jI 0), .int (jI 0), .int (jI 0), .null, .null, .null, .int (jI 0), .null, .int (jI 0), .int (jI 0), .int (jI 0), .null, .int (jI 0), .int (jI 0), .int (jI 0), .int (jI 0), .int (jI 0)])), (q7, .inl (cA, 96, .inl (jA (fun _ => 0)))), (q14, .inl (cA, 2, .inl (jA (fun _ => 0))))] := hD
  refine W.widen (k := 2) (n := 98) (by decide) (by decide) ?_
  refine jv_putF (v := .ref q14) F hP hD hS 0 rfl flX5_13 pfX5 (by decide +kernel) rfl rfl rfl rfl (Nat.le_of_ble_eq_true rfl) dX5_init_16 (fun H locs hP hD hS => ?_)
  have hP : va_P D cls [(mo, .inr (5, [.ref q7, .ref q14, .int (jI 0), .int (jI 0), .int (jI 0), .int (jI 0), .int (jI 0), .int (jI 0), .null, .null, .null, .int (jI 0), .null, .int (jI 0), .int (jI 0), .int (jI 0), .null, .int (jI 0), .int (jI 0), .int (jI 0), .int (jI 0), .int (jI 0)])), (q7, .inl (cA, 96, .inl (jA (fun _ => 0)))), (q14, .inl (cA, 2, .inl (jA (fun _ => 0))))] H := hP
  have hD : va_D A [(mo, .inr (5, [.ref q7, .ref q14, .int (jI 0), .int (jI 0), .int (jI 0), .int (jI 0), .int (jI 0), .int (jI 0), .null, .null, .null, .int (jI 0), .null, .int (jI 0), .int (jI 0), .int (jI 0), .null, .int (jI 0), .int (jI 0), .int (jI 0), .int (jI 0), .int (jI 0)])), (q7, .inl (cA, 96, .inl (jA (fun _ => 0)))), (q14, .inl (cA, 2, .inl (jA (fun _ => 0))))] := hD
  refine lv_aload_n hx hb dX5_init_19 rfl (lv_at hl 0 rfl) ?_
  refine lv_iconst (v := jI 2) hx hb dX5_init_20 rfl ?_
  refine jv_put (v := .int (jI 2)) F hP hD hS 0 rfl flX5_16 pfX5 (by decide +kernel) rfl rfl (Nat.le_of_ble_eq_true rfl) dX5_init_21 (fun H locs hP hD hS => ?_)
  have hP : va_P D cls [(mo, .inr (5, [.ref q7, .ref q14, .int (jI 2), .int (jI 0), .int (jI 0), .int (jI 0), .int (jI 0), .int (jI 0), .null, .null, .null, .int (jI 0), .null, .int (jI 0), .int (jI 0), .int (jI 0), .null, .int (jI 0), .int (jI 0), .int (jI 0), .int (jI 0), .int (jI 0)])), (q7, .inl (cA, 96, .inl (jA (fun _ => 0)))), (q14, .inl (cA, 2, .inl (jA (fun _ => 0))))] H := hP
  have hD : va_D A [(mo, .inr (5, [.ref q7, .ref q14, .int (jI 2), .int (jI 0), .int (jI 0), .int (jI 0), .int (jI 0), .int (jI 0), .null, .null, .null, .int (jI 0), .null, .int (jI 0), .int (jI 0), .int (jI 0), .null, .int (jI 0), .int (jI 0), .int (jI 0), .int (jI 0), .int (jI 0)])), (q7, .inl (cA, 96, .inl (jA (fun _ => 0)))), (q14, .inl (cA, 2, .inl (jA (fun _ => 0))))] := hD
  refine lv_aload_n hx hb dX5_init_24 rfl (lv_at hl 0 rfl) ?_
  refine lv_iconst (v := jI 1) hx hb dX5_init_25 rfl ?_
  refine jv_put (v := .int (jI 1)) F hP hD hS 0 rfl flX5_20 pfX5 (by decide +kernel) rfl rfl (Nat.le_of_ble_eq_true rfl) dX5_init_26 (fun H locs hP hD hS => ?_)
  have hP : va_P D cls [(mo, .inr (5, [.ref q7, .ref q14, .int (jI 2), .int (jI 1), .int (jI 0), .int (jI 0), .int (jI 0), .int (jI 0), .null, .null, .null, .int (jI 0), .null, .int (jI 0), .int (jI 0), .int (jI 0), .null, .int (jI 0), .int (jI 0), .int (jI 0), .int (jI 0), .int (jI 0)])), (q7, .inl (cA, 96, .inl (jA (fun _ => 0)))), (q14, .inl (cA, 2, .inl (jA (fun _ => 0))))] H := hP
  have hD : va_D A [(mo, .inr (5, [.ref q7, .ref q14, .int (jI 2), .int (jI 1), .int (jI 0), .int (jI 0), .int (jI 0), .int (jI 0), .null, .null, .null, .int (jI 0), .null, .int (jI 0), .int (jI 0), .int (jI 0), .null, .int (jI 0), .int (jI 0), .int (jI 0), .int (jI 0), .int (jI 0)])), (q7, .inl (cA, 96, .inl (jA (fun _ => 0)))), (q14, .inl (cA, 2, .inl (jA (fun _ => 0))))] := hD
  refine lv_aload_n hx hb dX5_init_29 rfl (lv_at hl 0 rfl) ?_
  refine lv_iconst (v := jI 2) hx hb dX5_init_30 rfl ?_
  refine jv_put (v := .int (jI 2)) F hP hD hS 0 rfl flX5_23 pfX5 (by decide +kernel) rfl rfl (Nat.le_of_ble_eq_true rfl) dX5_init_31 (fun H locs hP hD hS => ?_)
  have hP : va_P D cls [(mo, .inr (5, [.ref q7, .ref q14, .int (jI 2), .int (jI 1), .int (jI 2), .int (jI 0), .int (jI 0), .int (jI 0), .null, .null, .null, .int (jI 0), .null, .int (jI 0), .int (jI 0), .int (jI 0), .null, .int (jI 0), .int (jI 0), .int (jI 0), .int (jI 0), .int (jI 0)])), (q7, .inl (cA, 96, .inl (jA (fun _ => 0)))), (q14, .inl (cA, 2, .inl (jA (fun _ => 0))))] H := hP
  have hD : va_D A [(mo, .inr (5, [.ref q7, .ref q14, .int (jI 2), .int (jI 1), .int (jI 2), .int (jI 0), .int (jI 0), .int (jI 0), .null, .null, .null, .int (jI 0), .null, .int (jI 0), .int (jI 0), .int (jI 0), .null, .int (jI 0), .int (jI 0), .int (jI 0), .int (jI 0), .int (jI 0)])), (q7, .inl (cA, 96, .inl (jA (fun _ => 0)))), (q14, .inl (cA, 2, .inl (jA (fun _ => 0))))] := hD
  refine lv_aload_n hx hb dX5_init_34 rfl (lv_at hl 0 rfl) ?_
  refine lv_iconst (v := jI 1) hx hb dX5_init_35 rfl ?_
  refine jv_put (v := .int (jI 1)) F hP hD hS 0 rfl flX5_26 pfX5 (by decide +kernel) rfl rfl (Nat.le_of_ble_eq_true rfl) dX5_init_36 (fun H locs hP hD hS => ?_)
  have hP : va_P D cls [(mo, .inr (5, [.ref q7, .ref q14, .int (jI 2), .int (jI 1), .int (jI 2), .int (jI 1), .int (jI 0), .int (jI 0), .null, .null, .null, .int (jI 0), .null, .int (jI 0), .int (jI 0), .int (jI 0), .null, .int (jI 0), .int (jI 0), .int (jI 0), .int (jI 0), .int (jI 0)])), (q7, .inl (cA, 96, .inl (jA (fun _ => 0)))), (q14, .inl (cA, 2, .inl (jA (fun _ => 0))))] H := hP
  have hD : va_D A [(mo, .inr (5, [.ref q7, .ref q14, .int (jI 2), .int (jI 1), .int (jI 2), .int (jI 1), .int (jI 0), .int (jI 0), .null, .null, .null, .int (jI 0), .null, .int (jI 0), .int (jI 0), .int (jI 0), .null, .int (jI 0), .int (jI 0), .int (jI 0), .int (jI 0), .int (jI 0)])), (q7, .inl (cA, 96, .inl (jA (fun _ => 0)))), (q14, .inl (cA, 2, .inl (jA (fun _ => 0))))] := hD
  refine lv_aload_n hx hb dX5_init_39 rfl (lv_at hl 0 rfl) ?_
  refine lv_iconst (v := jI 2) hx hb dX5_init_40 rfl ?_
  refine jv_put (v := .int (jI 2)) F hP hD hS 0 rfl flX5_29 pfX5 (by decide +kernel) rfl rfl (Nat.le_of_ble_eq_true rfl) dX5_init_41 (fun H locs hP hD hS => ?_)
  have hP : va_P D cls [(mo, .inr (5, [.ref q7, .ref q14, .int (jI 2), .int (jI 1), .int (jI 2), .int (jI 1), .int (jI 2), .int (jI 0), .null, .null, .null, .int (jI 0), .null, .int (jI 0), .int (jI 0), .int (jI 0), .null, .int (jI 0), .int (jI 0), .int (jI 0), .int (jI 0), .int (jI 0)])), (q7, .inl (cA, 96, .inl (jA (fun _ => 0)))), (q14, .inl (cA, 2, .inl (jA (fun _ => 0))))] H := hP
  have hD : va_D A [(mo, .inr (5, [.ref q7, .ref q14, .int (jI 2), .int (jI 1), .int (jI 2), .int (jI 1), .int (jI 2), .int (jI 0), .null, .null, .null, .int (jI 0), .null, .int (jI 0), .int (jI 0), .int (jI 0), .null, .int (jI 0), .int (jI 0), .int (jI 0), .int (jI 0), .int (jI 0)])), (q7, .inl (cA, 96, .inl (jA (fun _ => 0)))), (q14, .inl (cA, 2, .inl (jA (fun _ => 0))))] := hD
  refine lv_aload_n hx hb dX5_init_44 rfl (lv_at hl 0 rfl) ?_
  refine lv_bipush (v := jI 6) hx hb dX5_init_45 (by decide +kernel) ?_
  refine jv_put (v := .int (jI 6)) F hP hD hS 0 rfl flX5_32 pfX5 (by decide +kernel) rfl rfl (Nat.le_of_ble_eq_true rfl) dX5_init_47 (fun H locs hP hD hS => ?_)
  have hP : va_P D cls [(mo, .inr (5, [.ref q7, .ref q14, .int (jI 2), .int (jI 1), .int (jI 2), .int (jI 1), .int (jI 2), .int (jI 6), .null, .null, .null, .int (jI 0), .null, .int (jI 0), .int (jI 0), .int (jI 0), .null, .int (jI 0), .int (jI 0), .int (jI 0), .int (jI 0), .int (jI 0)])), (q7, .inl (cA, 96, .inl (jA (fun _ => 0)))), (q14, .inl (cA, 2, .inl (jA (fun _ => 0))))] H := hP
  have hD : va_D A [(mo, .inr (5, [.ref q7, .ref q14, .int (jI 2), .int (jI 1), .int (jI 2), .int (jI 1), .int (jI 2), .int (jI 6), .null, .null, .null, .int (jI 0), .null, .int (jI 0), .int (jI 0), .int (jI 0), .null, .int (jI 0), .int (jI 0), .int (jI 0), .int (jI 0), .int (jI 0)])), (q7, .inl (cA, 96, .inl (jA (fun _ => 0)))), (q14, .inl (cA, 2, .inl (jA (fun _ => 0))))] := hD
  refine lv_aload_n hx hb dX5_init_50 rfl (lv_at hl 0 rfl) ?_
  refine lv_sipush (v := jI 2304) hx hb dX5_init_51 (by decide +kernel) ?_
  refine jv_newa (N' := 2304) F hP hD hS hA (by decide +kernel) (by decide +kernel) (by decide) (by decide) dX5_init_54 (fun q54 H hP hD hS => ?_)
  have hP : va_P D cls [(mo, .inr (5, [.ref q7, .ref q14, .int (jI 2), .int (jI 1), .int (jI 2), .int (jI 1), .int (jI 2), .int (jI 6), .null, .null, .null, .int (jI 0), .null, .int (jI 0), .int (jI 0), .int (jI 0), .null, .int (jI 0), .int (jI 0), .int (jI 0), .int (jI 0), .int (jI 0)])), (q7, .inl (cA, 96, .inl (jA (fun _ => 0)))), (q14, .inl (cA, 2, .inl (jA (fun _ => 0)))), (q54, .inl (cA, 2304, .inl (jA (fun _ => 0))))] H := hP
  have hD : va_D A [(mo, .inr (5, [.ref q7, .ref q14, .int (jI 2), .int (jI 1), .int (jI 2), .int (jI 1), .int (jI 2), .int (jI 6), .null, .null, .null, .int (jI 0), .null, .int (jI 0), .int (jI 0), .int (jI 0), .null, .int (jI 0), .int (jI 0), .int (jI 0), .int (jI 0), .int (jI 0)])), (q7, .inl (cA, 96, .inl (jA (fun _ => 0)))), (q14, .inl (cA, 2, .inl (jA (fun _ => 0)))), (q54, .inl (cA, 2304, .inl (jA (fun _ => 0))))] := hD
  refine W.widen (k := 3) (n := 2402) (by decide) (by decide) ?_
  refine jv_putF (v := .ref q54) F hP hD hS 0 rfl flX5_35 pfX5 (by decide +kernel) rfl rfl rfl rfl (Nat.le_of_ble_eq_true rfl) dX5_init_56 (fun H locs hP hD hS => ?_)
  have hP : va_P D cls [(mo, .inr (5, [.ref q7, .ref q14, .int (jI 2), .int (jI 1), .int (jI 2), .int (jI 1), .int (jI 2), .int (jI 6), .ref q54, .null, .null, .int (jI 0), .null, .int (jI 0), .int (jI 0), .int (jI 0), .null, .int (jI 0), .int (jI 0), .int (jI 0), .int (jI 0), .int (jI 0)])), (q7, .inl (cA, 96, .inl (jA (fun _ => 0)))), (q14, .inl (cA, 2, .inl (jA (fun _ => 0)))), (q54, .inl (cA, 2304, .inl (jA (fun _ => 0))))] H := hP
  have hD : va_D A [(mo, .inr (5, [.ref q7, .ref q14, .int (jI 2), .int (jI 1), .int (jI 2), .int (jI 1), .int (jI 2), .int (jI 6), .ref q54, .null, .null, .int (jI 0), .null, .int (jI 0), .int (jI 0), .int (jI 0), .null, .int (jI 0), .int (jI 0), .int (jI 0), .int (jI 0), .int (jI 0)])), (q7, .inl (cA, 96, .inl (jA (fun _ => 0)))), (q14, .inl (cA, 2, .inl (jA (fun _ => 0)))), (q54, .inl (cA, 2304, .inl (jA (fun _ => 0))))] := hD
  refine lv_aload_n hx hb dX5_init_59 rfl (lv_at hl 0 rfl) ?_
  refine lv_sipush (v := jI 2304) hx hb dX5_init_60 (by decide +kernel) ?_
  refine jv_newa (N' := 2304) F hP hD hS hA (by decide +kernel) (by decide +kernel) (by decide) (by decide) dX5_init_63 (fun q63 H hP hD hS => ?_)
  have hP : va_P D cls [(mo, .inr (5, [.ref q7, .ref q14, .int (jI 2), .int (jI 1), .int (jI 2), .int (jI 1), .int (jI 2), .int (jI 6), .ref q54, .null, .null, .int (jI 0), .null, .int (jI 0), .int (jI 0), .int (jI 0), .null, .int (jI 0), .int (jI 0), .int (jI 0), .int (jI 0), .int (jI 0)])), (q7, .inl (cA, 96, .inl (jA (fun _ => 0)))), (q14, .inl (cA, 2, .inl (jA (fun _ => 0)))), (q54, .inl (cA, 2304, .inl (jA (fun _ => 0)))), (q63, .inl (cA, 2304, .inl (jA (fun _ => 0))))] H := hP
  have hD : va_D A [(mo, .inr (5, [.ref q7, .ref q14, .int (jI 2), .int (jI 1), .int (jI 2), .int (jI 1), .int (jI 2), .int (jI 6), .ref q54, .null, .null, .int (jI 0), .null, .int (jI 0), .int (jI 0), .int (jI 0), .null, .int (jI 0), .int (jI 0), .int (jI 0), .int (jI 0), .int (jI 0)])), (q7, .inl (cA, 96, .inl (jA (fun _ => 0)))), (q14, .inl (cA, 2, .inl (jA (fun _ => 0)))), (q54, .inl (cA, 2304, .inl (jA (fun _ => 0)))), (q63, .inl (cA, 2304, .inl (jA (fun _ => 0))))] := hD
  refine W.widen (k := 4) (n := 4706) (by decide) (by decide) ?_
  refine jv_putF (v := .ref q63) F hP hD hS 0 rfl flX5_38 pfX5 (by decide +kernel) rfl rfl rfl rfl (Nat.le_of_ble_eq_true rfl) dX5_init_65 (fun H locs hP hD hS => ?_)
  have hP : va_P D cls [(mo, .inr (5, [.ref q7, .ref q14, .int (jI 2), .int (jI 1), .int (jI 2), .int (jI 1), .int (jI 2), .int (jI 6), .ref q54, .ref q63, .null, .int (jI 0), .null, .int (jI 0), .int (jI 0), .int (jI 0), .null, .int (jI 0), .int (jI 0), .int (jI 0), .int (jI 0), .int (jI 0)])), (q7, .inl (cA, 96, .inl (jA (fun _ => 0)))), (q14, .inl (cA, 2, .inl (jA (fun _ => 0)))), (q54, .inl (cA, 2304, .inl (jA (fun _ => 0)))), (q63, .inl (cA, 2304, .inl (jA (fun _ => 0))))] H := hP
  have hD : va_D A [(mo, .inr (5, [.ref q7, .ref q14, .int (jI 2), .int (jI 1), .int (jI 2), .int (jI 1), .int (jI 2), .int (jI 6), .ref q54, .ref q63, .null, .int (jI 0), .null, .int (jI 0), .int (jI 0), .int (jI 0), .null, .int (jI 0), .int (jI 0), .int (jI 0), .int (jI 0), .int (jI 0)])), (q7, .inl (cA, 96, .inl (jA (fun _ => 0)))), (q14, .inl (cA, 2, .inl (jA (fun _ => 0)))), (q54, .inl (cA, 2304, .inl (jA (fun _ => 0)))), (q63, .inl (cA, 2304, .inl (jA (fun _ => 0))))] := hD
  refine lv_aload_n hx hb dX5_init_68 rfl (lv_at hl 0 rfl) ?_
  refine lv_sipush (v := jI 2304) hx hb dX5_init_69 (by decide +kernel) ?_
  refine jv_newa (N' := 2304) F hP hD hS hA (by decide +kernel) (by decide +kernel) (by decide) (by decide) dX5_init_72 (fun q72 H hP hD hS => ?_)
  have hP : va_P D cls [(mo, .inr (5, [.ref q7, .ref q14, .int (jI 2), .int (jI 1), .int (jI 2), .int (jI 1), .int (jI 2), .int (jI 6), .ref q54, .ref q63, .null, .int (jI 0), .null, .int (jI 0), .int (jI 0), .int (jI 0), .null, .int (jI 0), .int (jI 0), .int (jI 0), .int (jI 0), .int (jI 0)])), (q7, .inl (cA, 96, .inl (jA (fun _ => 0)))), (q14, .inl (cA, 2, .inl (jA (fun _ => 0)))), (q54, .inl (cA, 2304, .inl (jA (fun _ => 0)))), (q63, .inl (cA, 2304, .inl (jA (fun _ => 0)))), (q72, .inl (cA, 2304, .inl (jA (fun _ => 0))))] H := hP
  have hD : va_D A [(mo, .inr (5, [.ref q7, .ref q14, .int (jI 2), .int (jI 1), .int (jI 2), .int (jI 1), .int (jI 2), .int (jI 6), .ref q54, .ref q63, .null, .int (jI 0), .null, .int (jI 0), .int (jI 0), .int (jI 0), .null, .int (jI 0), .int (jI 0), .int (jI 0), .int (jI 0), .int (jI 0)])), (q7, .inl (cA, 96, .inl (jA (fun _ => 0)))), (q14, .inl (cA, 2, .inl (jA (fun _ => 0)))), (q54, .inl (cA, 2304, .inl (jA (fun _ => 0)))), (q63, .inl (cA, 2304, .inl (jA (fun _ => 0)))), (q72, .inl (cA, 2304, .inl (jA (fun _ => 0))))] := hD
  refine W.widen (k := 5) (n := 7010) (by decide) (by decide) ?_
  refine jv_putF (v := .ref q72) F hP hD hS 0 rfl flX5_41 pfX5 (by decide +kernel) rfl rfl rfl rfl (Nat.le_of_ble_eq_true rfl) dX5_init_74 (fun H locs hP hD hS => ?_)
  have hP : va_P D cls [(mo, .inr (5, [.ref q7, .ref q14, .int (jI 2), .int (jI 1), .int (jI 2), .int (jI 1), .int (jI 2), .int (jI 6), .ref q54, .ref q63, .ref q72, .int (jI 0), .null, .int (jI 0), .int (jI 0), .int (jI 0), .null, .int (jI 0), .int (jI 0), .int (jI 0), .int (jI 0), .int (jI 0)])), (q7, .inl (cA, 96, .inl (jA (fun _ => 0)))), (q14, .inl (cA, 2, .inl (jA (fun _ => 0)))), (q54, .inl (cA, 2304, .inl (jA (fun _ => 0)))), (q63, .inl (cA, 2304, .inl (jA (fun _ => 0)))), (q72, .inl (cA, 2304, .inl (jA (fun _ => 0))))] H := hP
  have hD : va_D A [(mo, .inr (5, [.ref q7, .ref q14, .int (jI 2), .int (jI 1), .int (jI 2), .int (jI 1), .int (jI 2), .int (jI 6), .ref q54, .ref q63, .ref q72, .int (jI 0), .null, .int (jI 0), .int (jI 0), .int (jI 0), .null, .int (jI 0), .int (jI 0), .int (jI 0), .int (jI 0), .int (jI 0)])), (q7, .inl (cA, 96, .inl (jA (fun _ => 0)))), (q14, .inl (cA, 2, .inl (jA (fun _ => 0)))), (q54, .inl (cA, 2304, .inl (jA (fun _ => 0)))), (q63, .inl (cA, 2304, .inl (jA (fun _ => 0)))), (q72, .inl (cA, 2304, .inl (jA (fun _ => 0))))] := hD
  refine lv_aload_n hx hb dX5_init_77 rfl (lv_at hl 0 rfl) ?_
  refine lv_bipush (v := jI 48) hx hb dX5_init_78 (by decide +kernel) ?_
  refine jv_newa (N' := 48) F hP hD hS hA (by decide +kernel) (by decide +kernel) (by decide) (by decide) dX5_init_80 (fun q80 H hP hD hS => ?_)
  have hP : va_P D cls [(mo, .inr (5, [.ref q7, .ref q14, .int (jI 2), .int (jI 1), .int (jI 2), .int (jI 1), .int (jI 2), .int (jI 6), .ref q54, .ref q63, .ref q72, .int (jI 0), .null, .int (jI 0), .int (jI 0), .int (jI 0), .null, .int (jI 0), .int (jI 0), .int (jI 0), .int (jI 0), .int (jI 0)])), (q7, .inl (cA, 96, .inl (jA (fun _ => 0)))), (q14, .inl (cA, 2, .inl (jA (fun _ => 0)))), (q54, .inl (cA, 2304, .inl (jA (fun _ => 0)))), (q63, .inl (cA, 2304, .inl (jA (fun _ => 0)))), (q72, .inl (cA, 2304, .inl (jA (fun _ => 0)))), (q80, .inl (cA, 48, .inl (jA (fun _ => 0))))] H := hP
  have hD : va_D A [(mo, .inr (5, [.ref q7, .ref q14, .int (jI 2), .int (jI 1), .int (jI 2), .int (jI 1), .int (jI 2), .int (jI 6), .ref q54, .ref q63, .ref q72, .int (jI 0), .null, .int (jI 0), .int (jI 0), .int (jI 0), .null, .int (jI 0), .int (jI 0), .int (jI 0), .int (jI 0), .int (jI 0)])), (q7, .inl (cA, 96, .inl (jA (fun _ => 0)))), (q14, .inl (cA, 2, .inl (jA (fun _ => 0)))), (q54, .inl (cA, 2304, .inl (jA (fun _ => 0)))), (q63, .inl (cA, 2304, .inl (jA (fun _ => 0)))), (q72, .inl (cA, 2304, .inl (jA (fun _ => 0)))), (q80, .inl (cA, 48, .inl (jA (fun _ => 0))))] := hD
  refine W.widen (k := 6) (n := 7058) (by decide) (by decide) ?_
  refine jv_putF (v := .ref q80) F hP hD hS 0 rfl flX5_44 pfX5 (by decide +kernel) rfl rfl rfl rfl (Nat.le_of_ble_eq_true rfl) dX5_init_82 (fun H locs hP hD hS => ?_)
  have hP : va_P D cls [(mo, .inr (5, [.ref q7, .ref q14, .int (jI 2), .int (jI 1), .int (jI 2), .int (jI 1), .int (jI 2), .int (jI 6), .ref q54, .ref q63, .ref q72, .int (jI 0), .ref q80, .int (jI 0), .int (jI 0), .int (jI 0), .null, .int (jI 0), .int (jI 0), .int (jI 0), .int (jI 0), .int (jI 0)])), (q7, .inl (cA, 96, .inl (jA (fun _ => 0)))), (q14, .inl (cA, 2, .inl (jA (fun _ => 0)))), (q54, .inl (cA, 2304, .inl (jA (fun _ => 0)))), (q63, .inl (cA, 2304, .inl (jA (fun _ => 0)))), (q72, .inl (cA, 2304, .inl (jA (fun _ => 0)))), (q80, .inl (cA, 48, .inl (jA (fun _ => 0))))] H := hP
  have hD : va_D A [(mo, .inr (5, [.ref q7, .ref q14, .int (jI 2), .int (jI 1), .int (jI 2), .int (jI 1), .int (jI 2), .int (jI 6), .ref q54, .ref q63, .ref q72, .int (jI 0), .ref q80, .int (jI 0), .int (jI 0), .int (jI 0), .null, .int (jI 0), .int (jI 0), .int (jI 0), .int (jI 0), .int (jI 0)])), (q7, .inl (cA, 96, .inl (jA (fun _ => 0)))), (q14, .inl (cA, 2, .inl (jA (fun _ => 0)))), (q54, .inl (cA, 2304, .inl (jA (fun _ => 0)))), (q63, .inl (cA, 2304, .inl (jA (fun _ => 0)))), (q72, .inl (cA, 2304, .inl (jA (fun _ => 0)))), (q80, .inl (cA, 48, .inl (jA (fun _ => 0))))] := hD
  refine lv_aload_n hx hb dX5_init_85 rfl (lv_at hl 0 rfl) ?_
  refine lv_sipush (v := jI 2401) hx hb dX5_init_86 (by decide +kernel) ?_
  refine jv_newa (N' := 2401) F hP hD hS hA (by decide +kernel) (by decide +kernel) (by decide) (by decide) dX5_init_89 (fun q89 H hP hD hS => ?_)
  have hP : va_P D cls [(mo, .inr (5, [.ref q7, .ref q14, .int (jI 2), .int (jI 1), .int (jI 2), .int (jI 1), .int (jI 2), .int (jI 6), .ref q54, .ref q63, .ref q72, .int (jI 0), .ref q80, .int (jI 0), .int (jI 0), .int (jI 0), .null, .int (jI 0), .int (jI 0), .int (jI 0), .int (jI 0), .int (jI 0)])), (q7, .inl (cA, 96, .inl (jA (fun _ => 0)))), (q14, .inl (cA, 2, .inl (jA (fun _ => 0)))), (q54, .inl (cA, 2304, .inl (jA (fun _ => 0)))), (q63, .inl (cA, 2304, .inl (jA (fun _ => 0)))), (q72, .inl (cA, 2304, .inl (jA (fun _ => 0)))), (q80, .inl (cA, 48, .inl (jA (fun _ => 0)))), (q89, .inl (cA, 2401, .inl (jA (fun _ => 0))))] H := hP
  have hD : va_D A [(mo, .inr (5, [.ref q7, .ref q14, .int (jI 2), .int (jI 1), .int (jI 2), .int (jI 1), .int (jI 2), .int (jI 6), .ref q54, .ref q63, .ref q72, .int (jI 0), .ref q80, .int (jI 0), .int (jI 0), .int (jI 0), .null, .int (jI 0), .int (jI 0), .int (jI 0), .int (jI 0), .int (jI 0)])), (q7, .inl (cA, 96, .inl (jA (fun _ => 0)))), (q14, .inl (cA, 2, .inl (jA (fun _ => 0)))), (q54, .inl (cA, 2304, .inl (jA (fun _ => 0)))), (q63, .inl (cA, 2304, .inl (jA (fun _ => 0)))), (q72, .inl (cA, 2304, .inl (jA (fun _ => 0)))), (q80, .inl (cA, 48, .inl (jA (fun _ => 0)))), (q89, .inl (cA, 2401, .inl (jA (fun _ => 0))))] := hD
  refine W.widen (k := 7) (n := 9459) (by decide) (by decide) ?_
  refine jv_putF (v := .ref q89) F hP hD hS 0 rfl flX5_47 pfX5 (by decide +kernel) rfl rfl rfl rfl (Nat.le_of_ble_eq_true rfl) dX5_init_91 (fun H locs hP hD hS => ?_)
  have hP : va_P D cls [(mo, .inr (5, [.ref q7, .ref q14, .int (jI 2), .int (jI 1), .int (jI 2), .int (jI 1), .int (jI 2), .int (jI 6), .ref q54, .ref q63, .ref q72, .int (jI 0), .ref q80, .int (jI 0), .int (jI 0), .int (jI 0), .ref q89, .int (jI 0), .int (jI 0), .int (jI 0), .int (jI 0), .int (jI 0)])), (q7, .inl (cA, 96, .inl (jA (fun _ => 0)))), (q14, .inl (cA, 2, .inl (jA (fun _ => 0)))), (q54, .inl (cA, 2304, .inl (jA (fun _ => 0)))), (q63, .inl (cA, 2304, .inl (jA (fun _ => 0)))), (q72, .inl (cA, 2304, .inl (jA (fun _ => 0)))), (q80, .inl (cA, 48, .inl (jA (fun _ => 0)))), (q89, .inl (cA, 2401, .inl (jA (fun _ => 0))))] H := hP
  have hD : va_D A [(mo, .inr (5, [.ref q7, .ref q14, .int (jI 2), .int (jI 1), .int (jI 2), .int (jI 1), .int (jI 2), .int (jI 6), .ref q54, .ref q63, .ref q72, .int (jI 0), .ref q80, .int (jI 0), .int (jI 0), .int (jI 0), .ref q89, .int (jI 0), .int (jI 0), .int (jI 0), .int (jI 0), .int (jI 0)])), (q7, .inl (cA, 96, .inl (jA (fun _ => 0)))), (q14, .inl (cA, 2, .inl (jA (fun _ => 0)))), (q54, .inl (cA, 2304, .inl (jA (fun _ => 0)))), (q63, .inl (cA, 2304, .inl (jA (fun _ => 0)))), (q72, .inl (cA, 2304, .inl (jA (fun _ => 0)))), (q80, .inl (cA, 48, .inl (jA (fun _ => 0)))), (q89, .inl (cA, 2401, .inl (jA (fun _ => 0))))] := hD
  exact jM.rv F hQ rfl dX5_init_94 hS hP hD (by exact ⟨rfl, _, _, _, _, _, _, _, rfl⟩)
