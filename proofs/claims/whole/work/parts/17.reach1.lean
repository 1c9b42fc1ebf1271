def gsc (f : Int → Int) (gp pp : Int) : Int := if 0 < pp then max (f pp) (f (pp - 1)) - gp else f pp - gp
theorem gsc_1 {f : Int → Int} {gp pp : Int} (h : 0 < pp) : gsc f gp pp = max (f pp) (f (pp - 1)) - gp := if_pos h
theorem gsc_0 {f : Int → Int} {gp pp : Int} (h : ¬ 0 < pp) : gsc f gp pp = f pp - gp := if_neg h
theorem nx_out {sm : Int → Int → Int} {P Q gp li d top : Int} {one two : Int → Int} {p : Int} (h : ¬ (0 ≤ p ∧ p ≤ P ∧ 0 ≤ d - p ∧ d - p ≤ Q)) : nx sm P Q gp li d top one two p = -1000000 := if_neg (fun h2 => h h2.1)
theorem nx_lo {sm : Int → Int → Int} {P Q gp li d top : Int} {one two : Int → Int} {p : Int} (h : rawC sm gp one two p (d - p) < top - li) : nx sm P Q gp li d top one two p = -1000000 := if_neg (fun h2 => by have := h2.2; omega)
theorem nx_in {sm : Int → Int → Int} {P Q gp li d top : Int} {one two : Int → Int} {p : Int} (h : 0 ≤ p ∧ p ≤ P ∧ 0 ≤ d - p ∧ d - p ≤ Q) (h2 : top - li ≤ rawC sm gp one two p (d - p)) : nx sm P Q gp li d top one two p = rawC sm gp one two p (d - p) := if_pos ⟨h, h2⟩
theorem smv_b {L0 L1 : Int → Int} {i j ga lo : Int} (hga : 1 ≤ ga ∧ ga ≤ 9) (hlo : 0 ≤ lo ∧ lo ≤ 9) : ∀ p q, -9 ≤ smv L0 L1 i j ga lo p q ∧ smv L0 L1 i j ga lo p q ≤ 9 := by
  intro p q
  unfold smv
  by_cases h : L0 (i + p - 1) = L1 (j + q - 1)
  · rw [if_pos h]; omega
  · rw [if_neg h]; omega
theorem raw_b {sm : Int → Int → Int} {gp d p q : Int} {one two : Int → Int} (hsm : ∀ p q, -9 ≤ sm p q ∧ sm p q ≤ 9) (hgp : 1 ≤ gp ∧ gp ≤ 9) (h1 : one p = -1000000 ∨ (-99 ≤ one p ∧ one p ≤ 900)) (h2 : one (p - 1) = -1000000 ∨ (-99 ≤ one (p - 1) ∧ one (p - 1) ≤ 900)) (h3 : two (p - 1) = -1000000 ∨ (-99 ≤ two (p - 1) ∧ two (p - 1) ≤ 900)) : -1000009 ≤ rawC sm gp one two p q ∧ rawC sm gp one two p q ≤ 910 := by
  have s := hsm p q
  unfold rawC
  by_cases p0 : 0 < p
  · by_cases q0 : 0 < q
    · rw [if_pos p0, if_pos q0]; omega
    · rw [if_pos p0, if_neg q0]; omega
  · rw [if_neg p0]; omega
theorem acc1_b {v d p : Int} {t : acc} (h1 : -2000 ≤ v) (h2 : v ≤ 2000) (h : 0 ≤ t.1 ∧ t.1 ≤ 2000) : 0 ≤ (acc1 v d p t).1 ∧ (acc1 v d p t).1 ≤ 2000 := by
  by_cases e : v = -1000000
  · rw [acc1_dead e]; exact h
  · by_cases e2 : t.1 < v
    · rw [acc1_hi e e2]; exact ⟨by show 0 ≤ v; omega, h2⟩
    · rw [acc1_lo e e2]; exact h
set_option maxHeartbeats 4000000 in
set_option maxRecDepth 100000 in
theorem kJ7_fill (l : Launch) (D : va_G) (cA : ClassId) (ar : Nat) (x : Int) (f0 : Int → Int)  : jM l YJ7_fill (rmk 0 0 0 0) D cA [.ref ar, .int (jI x)] [(ar, .inl (cA, 49, .inl (jA f0)))] (fun v w => v = none ∧ ∃ f1 : Int → Int, (∀ t, 0 ≤ t → t < 49 → f1 t = x) ∧ w = [(ar, .inl (cA, 49, .inl (jA f1)))]) 0 0 := by
  refine jM.intro (by decide +kernel) (Nat.le_of_ble_eq_true rfl) ?_
  intro p e s m args below meth c ls Q A F hQ hA hP hD hS hl
  have hx := F.1
  have hb := F.2.1
  have hl : lv_has ls 4 [(0, .ref ar), (1, .int (jI x))] := hl
  refine lv_iconst (v := jI 0) hx hb dJ7_fill_0 rfl ?_
  refine lv_istore_n (lv' := [(2, .int (jI 0)), (0, .ref ar), (1, .int (jI x))]) hx hb dJ7_fill_1 rfl hl (by decide) rfl (fun ls hl => ?_)
  refine lv_aload_n hx hb dJ7_fill_2 rfl (lv_at hl 1 rfl) ?_
  refine va_alen (v := jI 49) hx hb F.K hP 0 0 rfl rfl rfl dJ7_fill_3 ?_
  refine lv_istore_n (lv' := [(3, .int (jI 49)), (2, .int (jI 0)), (0, .ref ar), (1, .int (jI x))]) hx hb dJ7_fill_4 rfl hl (by decide) rfl (fun ls hl => ?_)
  have lp5 : ∀ (fu : Nat) (i : Int) (f1 : Int → Int) (ls : Array Slot) (H : Heap) (locs : List Loc), 49 - i < (fu : Int) → (0 ≤ i ∧ i ≤ 49) → (∀ t, 0 ≤ t → t < i → f1 t = x) → lv_has ls 4 [(3, .int (jI 49)), (2, .int (jI i)), (0, .ref ar), (1, .int (jI x))] → va_P D cls [(ar, .inl (cA, 49, .inl (jA f1)))] H → va_D A [(ar, .inl (cA, 49, .inl (jA f1)))] → va_S A s.heap H locs → W p l e (rmk 0 0 0 0) s m args below meth c H locs 0 0 Q (F0 m 5 ls []) := by
    intro fu
    induction fu with
    | zero => intro i f1 ls H locs hfu hi hf hl hP hD hS; exfalso; omega
    | succ fu ih5 =>
      intro i f1 ls H locs hfu hi hf hl hP hD hS
      refine lv_iload_n hx hb dJ7_fill_5 rfl (lv_at hl 1 rfl) ?_
      refine lv_iload_n hx hb dJ7_fill_6 rfl (lv_at hl 0 rfl) ?_
      refine jv_icmp_ge (tgt := 20) hx hb dJ7_fill_7 rfl (by omega) (by omega) (fun c7 => ?_) (fun c7 => ?_)
      · exact jM.rv F hQ rfl dJ7_fill_20 hS hP hD (by exact ⟨rfl, _, fun t t0 t1 => hf t t0 (by omega), rfl⟩)
      · refine lv_aload_n hx hb dJ7_fill_10 rfl (lv_at hl 2 rfl) ?_
        refine lv_iload_n hx hb dJ7_fill_11 rfl (lv_at hl 1 rfl) ?_
        refine lv_iload_n hx hb dJ7_fill_12 rfl (lv_at hl 3 rfl) ?_
        refine jv_iast (fa := f1) F hP hD hS 0 rfl (by omega) (by decide) dJ7_fill_13 (fun H locs hP hD hS => ?_)
        have hP : va_P D cls [(ar, .inl (cA, 49, .inl (jA (jU f1 i x))))] H := hP
        have hD : va_D A [(ar, .inl (cA, 49, .inl (jA (jU f1 i x))))] := hD
        refine lv_iinc (k := 1) (v := jI (i + 1)) (lv' := [(2, .int (jI (i + 1))), (3, .int (jI 49)), (0, .ref ar), (1, .int (jI x))]) hx hb dJ7_fill_14 hl rfl (jI_add _ _) (by decide) rfl (fun ls hl => ?_)
        refine lv_goto (tgt := 5) hx hb dJ7_fill_17 rfl ?_
        refine ih5 (i + 1) (jU f1 i x) ls H locs (by omega) ?_ ?_ (lv_sub hl [1, 0, 2, 3] rfl) hP hD hS
        · omega
        · intro t t0 t1
          by_cases e : t = i
          · rw [e, jU_s]
          · rw [jU_n e]; exact hf t t0 (by omega)
  refine lp5 (Int.toNat (49 - 0) + 1) 0 f0 ls s.heap [] (by omega) ?_ ?_ (lv_sub hl [0, 1, 2, 3] rfl) hP hD hS
  · omega
  · intro t; omega
set_option maxHeartbeats 4000000 in
set_option maxRecDepth 100000 in
theorem kX2_begin (l : Launch) (D : va_G) (cA : ClassId) (re t2 t1 t0 : Nat) (ga lo gp li es ep eq al la : Int) (f0 : Int → Int)  : jM l YX2_begin (rmk 1 0 0 23) D cA [.ref re] [(re, .inr (2, [.int (jI ga), .int (jI lo), .int (jI gp), .int (jI li), .ref t2, .ref t1, .ref t0, .int (jI es), .int (jI ep), .int (jI eq), .int (jI al), .int (jI la)])), (t0, .inl (cA, 49, .inl (jA f0)))] (fun v w => v = none ∧ ∃ f1 : Int → Int, (∀ t, 0 ≤ t → t < 49 → f1 t = if t = 0 then 0 else -1000000) ∧ w = [(re, .inr (2, [.int (jI ga), .int (jI lo), .int (jI gp), .int (jI li), .ref t2, .ref t1, .ref t0, .int (jI 0), .int (jI 0), .int (jI 0), .int (jI 1), .int (jI 0)])), (t0, .inl (cA, 49, .inl (jA f1)))]) 0 0 := by
  refine jM.intro (by decide +kernel) (Nat.le_of_ble_eq_true rfl) ?_
  intro p e s m args below meth c ls Q A F hQ hA hP hD hS hl
  have hx := F.1
  have hb := F.2.1
  have hl : lv_has ls 1 [(0, .ref re)] := hl
  refine lv_aload_n hx hb dX2_begin_0 rfl (lv_at hl 0 rfl) ?_
  refine jv_get (v := .ref t0) F hP 0 rfl flX2_31 rfl dX2_begin_1 ?_
  refine lv_ldc (v := jI (-1000000)) hx hb F.own (F.wd wcX2_65) dX2_begin_4 ?_
  refine jw_S (wr := [(re, .inr (2, [.int (jI ga), .int (jI lo), .int (jI gp), .int (jI li), .ref t2, .ref t1, .ref t0, .int (jI es), .int (jI ep), .int (jI eq), .int (jI al), .int (jI la)]))]) F (kJ7_fill l D cA t0 (-1000000) f0) csX2_66 hP hD hS hA [1] [0] rfl rfl (by decide) (by decide) hl ⟨rfl, rfl, by decide, by decide⟩ rfl rfl (Nat.le_of_ble_eq_true rfl) dX2_begin_6 ⟨by decide, by decide⟩ (by decide) (fun v w1 H locs hw hP hD hS => ?_)
  obtain ⟨rfl, f6, hf6, rfl⟩ := hw
  have hP : va_P D cls [(re, .inr (2, [.int (jI ga), .int (jI lo), .int (jI gp), .int (jI li), .ref t2, .ref t1, .ref t0, .int (jI es), .int (jI ep), .int (jI eq), .int (jI al), .int (jI la)])), (t0, .inl (cA, 49, .inl (jA f6)))] H := hP
  have hD : va_D A [(re, .inr (2, [.int (jI ga), .int (jI lo), .int (jI gp), .int (jI li), .ref t2, .ref t1, .ref t0, .int (jI es), .int (jI ep), .int (jI eq), .int (jI al), .int (jI la)])), (t0, .inl (cA, 49, .inl (jA f6)))] := hD
  refine W.eq (g2 := F0 m 9 ls []) rfl ?_
  refine lv_aload_n hx hb dX2_begin_9 rfl (lv_at hl 0 rfl) ?_
  refine jv_get (v := .ref t0) F hP 0 rfl flX2_31 rfl dX2_begin_10 ?_
  refine lv_iconst (v := jI 0) hx hb dX2_begin_13 rfl ?_
  refine lv_iconst (v := jI 0) hx hb dX2_begin_14 rfl ?_
  refine jv_iast (fa := f6) F hP hD hS 1 rfl (by omega) (by decide) dX2_begin_15 (fun H locs hP hD hS => ?_)
  have hP : va_P D cls [(re, .inr (2, [.int (jI ga), .int (jI lo), .int (jI gp), .int (jI li), .ref t2, .ref t1, .ref t0, .int (jI es), .int (jI ep), .int (jI eq), .int (jI al), .int (jI la)])), (t0, .inl (cA, 49, .inl (jA (jU f6 0 0))))] H := hP
  have hD : va_D A [(re, .inr (2, [.int (jI ga), .int (jI lo), .int (jI gp), .int (jI li), .ref t2, .ref t1, .ref t0, .int (jI es), .int (jI ep), .int (jI eq), .int (jI al), .int (jI la)])), (t0, .inl (cA, 49, .inl (jA (jU f6 0 0))))] := hD
  refine lv_aload_n hx hb dX2_begin_16 rfl (lv_at hl 0 rfl) ?_
  refine lv_iconst (v := jI 0) hx hb dX2_begin_17 rfl ?_
  refine jv_put (v := .int (jI 0)) F hP hD hS 0 rfl flX2_34 pfX2 (by decide +kernel) rfl rfl (Nat.le_of_ble_eq_true rfl) dX2_begin_18 (fun H locs hP hD hS => ?_)
  have hP : va_P D cls [(re, .inr (2, [.int (jI ga), .int (jI lo), .int (jI gp), .int (jI li), .ref t2, .ref t1, .ref t0, .int (jI 0), .int (jI ep), .int (jI eq), .int (jI al), .int (jI la)])), (t0, .inl (cA, 49, .inl (jA (jU f6 0 0))))] H := hP
  have hD : va_D A [(re, .inr (2, [.int (jI ga), .int (jI lo), .int (jI gp), .int (jI li), .ref t2, .ref t1, .ref t0, .int (jI 0), .int (jI ep), .int (jI eq), .int (jI al), .int (jI la)])), (t0, .inl (cA, 49, .inl (jA (jU f6 0 0))))] := hD
  refine lv_aload_n hx hb dX2_begin_21 rfl (lv_at hl 0 rfl) ?_
  refine lv_iconst (v := jI 0) hx hb dX2_begin_22 rfl ?_
  refine jv_put (v := .int (jI 0)) F hP hD hS 0 rfl flX2_37 pfX2 (by decide +kernel) rfl rfl (Nat.le_of_ble_eq_true rfl) dX2_begin_23 (fun H locs hP hD hS => ?_)
  have hP : va_P D cls [(re, .inr (2, [.int (jI ga), .int (jI lo), .int (jI gp), .int (jI li), .ref t2, .ref t1, .ref t0, .int (jI 0), .int (jI 0), .int (jI eq), .int (jI al), .int (jI la)])), (t0, .inl (cA, 49, .inl (jA (jU f6 0 0))))] H := hP
  have hD : va_D A [(re, .inr (2, [.int (jI ga), .int (jI lo), .int (jI gp), .int (jI li), .ref t2, .ref t1, .ref t0, .int (jI 0), .int (jI 0), .int (jI eq), .int (jI al), .int (jI la)])), (t0, .inl (cA, 49, .inl (jA (jU f6 0 0))))] := hD
  refine lv_aload_n hx hb dX2_begin_26 rfl (lv_at hl 0 rfl) ?_
  refine lv_iconst (v := jI 0) hx hb dX2_begin_27 rfl ?_
  refine jv_put (v := .int (jI 0)) F hP hD hS 0 rfl flX2_40 pfX2 (by decide +kernel) rfl rfl (Nat.le_of_ble_eq_true rfl) dX2_begin_28 (fun H locs hP hD hS => ?_)
  have hP : va_P D cls [(re, .inr (2, [.int (jI ga), .int (jI lo), .int (jI gp), .int (jI li), .ref t2, .ref t1, .ref t0, .int (jI 0), .int (jI 0), .int (jI 0), .int (jI al), .int (jI la)])), (t0, .inl (cA, 49, .inl (jA (jU f6 0 0))))] H := hP
  have hD : va_D A [(re, .inr (2, [.int (jI ga), .int (jI lo), .int (jI gp), .int (jI li), .ref t2, .ref t1, .ref t0, .int (jI 0), .int (jI 0), .int (jI 0), .int (jI al), .int (jI la)])), (t0, .inl (cA, 49, .inl (jA (jU f6 0 0))))] := hD
  refine lv_aload_n hx hb dX2_begin_31 rfl (lv_at hl 0 rfl) ?_
  refine lv_iconst (v := jI 1) hx hb dX2_begin_32 rfl ?_
  refine jv_put (v := .int (jI 1)) F hP hD hS 0 rfl flX2_43 pfX2 (by decide +kernel) rfl rfl (Nat.le_of_ble_eq_true rfl) dX2_begin_33 (fun H locs hP hD hS => ?_)
  have hP : va_P D cls [(re, .inr (2, [.int (jI ga), .int (jI lo), .int (jI gp), .int (jI li), .ref t2, .ref t1, .ref t0, .int (jI 0), .int (jI 0), .int (jI 0), .int (jI 1), .int (jI la)])), (t0, .inl (cA, 49, .inl (jA (jU f6 0 0))))] H := hP
  have hD : va_D A [(re, .inr (2, [.int (jI ga), .int (jI lo), .int (jI gp), .int (jI li), .ref t2, .ref t1, .ref t0, .int (jI 0), .int (jI 0), .int (jI 0), .int (jI 1), .int (jI la)])), (t0, .inl (cA, 49, .inl (jA (jU f6 0 0))))] := hD
  refine lv_aload_n hx hb dX2_begin_36 rfl (lv_at hl 0 rfl) ?_
  refine lv_iconst (v := jI 0) hx hb dX2_begin_37 rfl ?_
  refine jv_put (v := .int (jI 0)) F hP hD hS 0 rfl flX2_46 pfX2 (by decide +kernel) rfl rfl (Nat.le_of_ble_eq_true rfl) dX2_begin_38 (fun H locs hP hD hS => ?_)
  have hP : va_P D cls [(re, .inr (2, [.int (jI ga), .int (jI lo), .int (jI gp), .int (jI li), .ref t2, .ref t1, .ref t0, .int (jI 0), .int (jI 0), .int (jI 0), .int (jI 1), .int (jI 0)])), (t0, .inl (cA, 49, .inl (jA (jU f6 0 0))))] H := hP
  have hD : va_D A [(re, .inr (2, [.int (jI ga), .int (jI lo), .int (jI gp), .int (jI li), .ref t2, .ref t1, .ref t0, .int (jI 0), .int (jI 0), .int (jI 0), .int (jI 1), .int (jI 0)])), (t0, .inl (cA, 49, .inl (jA (jU f6 0 0))))] := hD
  exact jM.rv F hQ rfl dX2_begin_41 hS hP hD (by exact ⟨rfl, _, fun t t0 t1 => by by_cases e : t = 0; (rw [if_pos e, e, jU_s]); (rw [if_neg e, jU_n e]; exact hf6 t t0 t1), rfl⟩)
set_option maxHeartbeats 4000000 in
set_option maxRecDepth 100000 in
theorem kX2_turnSlopes (l : Launch) (D : va_G) (cA : ClassId) (re t2 t1 t0 : Nat) (ga lo gp li es ep eq al la : Int) (f2 : Int → Int)  : jM l YX2_turnSlopes (rmk 1 0 0 23) D cA [.ref re] [(re, .inr (2, [.int (jI ga), .int (jI lo), .int (jI gp), .int (jI li), .ref t2, .ref t1, .ref t0, .int (jI es), .int (jI ep), .int (jI eq), .int (jI al), .int (jI la)])), (t2, .inl (cA, 49, .inl (jA f2)))] (fun v w => v = none ∧ ∃ f3 : Int → Int, (∀ t, 0 ≤ t → t < 49 → f3 t = -1000000) ∧ w = [(re, .inr (2, [.int (jI ga), .int (jI lo), .int (jI gp), .int (jI li), .ref t1, .ref t0, .ref t2, .int (jI es), .int (jI ep), .int (jI eq), .int (jI al), .int (jI la)])), (t2, .inl (cA, 49, .inl (jA f3)))]) 0 0 := by
  refine jM.intro (by decide +kernel) (Nat.le_of_ble_eq_true rfl) ?_
  intro p e s m args below meth c ls Q A F hQ hA hP hD hS hl
  have hx := F.1
  have hb := F.2.1
  have hl : lv_has ls 2 [(0, .ref re)] := hl
  refine lv_aload_n hx hb dX2_turnSlopes_0 rfl (lv_at hl 0 rfl) ?_
  refine jv_get (v := .ref t2) F hP 0 rfl flX2_24 rfl dX2_turnSlopes_1 ?_
  refine lv_astore_n (lv' := [(1, .ref t2), (0, .ref re)]) hx hb dX2_turnSlopes_4 rfl hl (by decide) rfl (fun ls hl => ?_)
  refine lv_aload_n hx hb dX2_turnSlopes_5 rfl (lv_at hl 1 rfl) ?_
  refine lv_aload_n hx hb dX2_turnSlopes_6 rfl (lv_at hl 1 rfl) ?_
  refine jv_get (v := .ref t1) F hP 0 rfl flX2_28 rfl dX2_turnSlopes_7 ?_
  refine jv_put (v := .ref t1) F hP hD hS 0 rfl flX2_24 pfX2 (by decide +kernel) rfl rfl (Nat.le_of_ble_eq_true rfl) dX2_turnSlopes_10 (fun H locs hP hD hS => ?_)
  have hP : va_P D cls [(re, .inr (2, [.int (jI ga), .int (jI lo), .int (jI gp), .int (jI li), .ref t1, .ref t1, .ref t0, .int (jI es), .int (jI ep), .int (jI eq), .int (jI al), .int (jI la)])), (t2, .inl (cA, 49, .inl (jA f2)))] H := hP
  have hD : va_D A [(re, .inr (2, [.int (jI ga), .int (jI lo), .int (jI gp), .int (jI li), .ref t1, .ref t1, .ref t0, .int (jI es), .int (jI ep), .int (jI eq), .int (jI al), .int (jI la)])), (t2, .inl (cA, 49, .inl (jA f2)))] := hD
  refine lv_aload_n hx hb dX2_turnSlopes_13 rfl (lv_at hl 1 rfl) ?_
  refine lv_aload_n hx hb dX2_turnSlopes_14 rfl (lv_at hl 1 rfl) ?_
  refine jv_get (v := .ref t0) F hP 0 rfl flX2_31 rfl dX2_turnSlopes_15 ?_
  refine jv_put (v := .ref t0) F hP hD hS 0 rfl flX2_28 pfX2 (by decide +kernel) rfl rfl (Nat.le_of_ble_eq_true rfl) dX2_turnSlopes_18 (fun H locs hP hD hS => ?_)
  have hP : va_P D cls [(re, .inr (2, [.int (jI ga), .int (jI lo), .int (jI gp), .int (jI li), .ref t1, .ref t0, .ref t0, .int (jI es), .int (jI ep), .int (jI eq), .int (jI al), .int (jI la)])), (t2, .inl (cA, 49, .inl (jA f2)))] H := hP
  have hD : va_D A [(re, .inr (2, [.int (jI ga), .int (jI lo), .int (jI gp), .int (jI li), .ref t1, .ref t0, .ref t0, .int (jI es), .int (jI ep), .int (jI eq), .int (jI al), .int (jI la)])), (t2, .inl (cA, 49, .inl (jA f2)))] := hD
  refine lv_aload_n hx hb dX2_turnSlopes_21 rfl (lv_at hl 1 rfl) ?_
  refine lv_aload_n hx hb dX2_turnSlopes_22 rfl (lv_at hl 0 rfl) ?_
  refine jv_put (v := .ref t2) F hP hD hS 0 rfl flX2_31 pfX2 (by decide +kernel) rfl rfl (Nat.le_of_ble_eq_true rfl) dX2_turnSlopes_23 (fun H locs hP hD hS => ?_)
  have hP : va_P D cls [(re, .inr (2, [.int (jI ga), .int (jI lo), .int (jI gp), .int (jI li), .ref t1, .ref t0, .ref t2, .int (jI es), .int (jI ep), .int (jI eq), .int (jI al), .int (jI la)])), (t2, .inl (cA, 49, .inl (jA f2)))] H := hP
  have hD : va_D A [(re, .inr (2, [.int (jI ga), .int (jI lo), .int (jI gp), .int (jI li), .ref t1, .ref t0, .ref t2, .int (jI es), .int (jI ep), .int (jI eq), .int (jI al), .int (jI la)])), (t2, .inl (cA, 49, .inl (jA f2)))] := hD
  refine lv_aload_n hx hb dX2_turnSlopes_26 rfl (lv_at hl 1 rfl) ?_
  refine jv_get (v := .ref t2) F hP 0 rfl flX2_31 rfl dX2_turnSlopes_27 ?_
  refine lv_ldc (v := jI (-1000000)) hx hb F.own (F.wd wcX2_65) dX2_turnSlopes_30 ?_
  refine jw_S (wr := [(re, .inr (2, [.int (jI ga), .int (jI lo), .int (jI gp), .int (jI li), .ref t1, .ref t0, .ref t2, .int (jI es), .int (jI ep), .int (jI eq), .int (jI al), .int (jI la)]))]) F (kJ7_fill l D cA t2 (-1000000) f2) csX2_66 hP hD hS hA [1] [0] rfl rfl (by decide) (by decide) hl ⟨rfl, rfl, by decide, by decide⟩ rfl rfl (Nat.le_of_ble_eq_true rfl) dX2_turnSlopes_32 ⟨by decide, by decide⟩ (by decide) (fun v w1 H locs hw hP hD hS => ?_)
  obtain ⟨rfl, f32, hf32, rfl⟩ := hw
  have hP : va_P D cls [(re, .inr (2, [.int (jI ga), .int (jI lo), .int (jI gp), .int (jI li), .ref t1, .ref t0, .ref t2, .int (jI es), .int (jI ep), .int (jI eq), .int (jI al), .int (jI la)])), (t2, .inl (cA, 49, .inl (jA f32)))] H := hP
  have hD : va_D A [(re, .inr (2, [.int (jI ga), .int (jI lo), .int (jI gp), .int (jI li), .ref t1, .ref t0, .ref t2, .int (jI es), .int (jI ep), .int (jI eq), .int (jI al), .int (jI la)])), (t2, .inl (cA, 49, .inl (jA f32)))] := hD
  refine W.eq (g2 := F0 m 35 ls []) rfl ?_
  exact jM.rv F hQ rfl dX2_turnSlopes_35 hS hP hD (by exact ⟨rfl, _, hf32, rfl⟩)
set_option maxHeartbeats 4000000 in
set_option maxRecDepth 100000 in
theorem kX2_gapScore (l : Launch) (D : va_G) (cA : ClassId) (re t2 t1 t0 : Nat) (ga lo gp li es ep eq al la : Int) (f1 : Int → Int) (pp : Int) (hp : 0 ≤ pp ∧ pp < 49) (hb1 : ∀ t, 0 ≤ t → t < 49 → -1000000 ≤ f1 t ∧ f1 t ≤ 2000) : jR l YX2_gapScore (rmk 1 0 0 13) D cA [.ref re, .int (jI pp)] [(re, .inr (2, [.int (jI ga), .int (jI lo), .int (jI gp), .int (jI li), .ref t2, .ref t1, .ref t0, .int (jI es), .int (jI ep), .int (jI eq), .int (jI al), .int (jI la)])), (t1, .inl (cA, 49, .inl (jA f1)))] (fun v => v = .int (jI (gsc f1 gp pp))) := by
  refine jR.intro (by decide +kernel) (Nat.le_of_ble_eq_true rfl) ?_
  intro p e s m args below meth c ls Q F hQ hP hl
  have hx := F.1
  have hb := F.2.1
  have hl : lv_has ls 3 [(0, .ref re), (1, .int (jI pp))] := hl
  refine lv_aload_n hx hb dX2_gapScore_0 rfl (lv_at hl 0 rfl) ?_
  refine jv_get (v := .ref t1) F hP 0 rfl flX2_28 rfl dX2_gapScore_1 ?_
  refine lv_iload_n hx hb dX2_gapScore_4 rfl (lv_at hl 1 rfl) ?_
  refine jv_iald (fa := f1) F hP 1 rfl (by omega) (by decide) dX2_gapScore_5 ?_
  refine lv_istore_n (lv' := [(2, .int (jI (f1 pp))), (0, .ref re), (1, .int (jI pp))]) hx hb dX2_gapScore_6 rfl hl (by decide) rfl (fun ls hl => ?_)
  refine lv_iload_n hx hb dX2_gapScore_7 rfl (lv_at hl 2 rfl) ?_
  refine jv_if_le (tgt := 24) hx hb dX2_gapScore_8 rfl (by omega) (fun c8 => ?_) (fun c8 => ?_)
  · refine lv_iload_n hx hb dX2_gapScore_24 rfl (lv_at hl 0 rfl) ?_
    refine lv_aload_n hx hb dX2_gapScore_25 rfl (lv_at hl 1 rfl) ?_
    refine jv_get (v := .int (jI gp)) F hP 0 rfl flX2_18 rfl dX2_gapScore_26 ?_
    refine jv_isub hx hb dX2_gapScore_29 ?_
    exact jR.ri F hQ rfl dX2_gapScore_30 (by first | (rw [gsc_1 (by omega)]; done) | (rw [gsc_0 (by omega)]; done))
  · refine lv_iload_n hx hb dX2_gapScore_11 rfl (lv_at hl 0 rfl) ?_
    refine lv_aload_n hx hb dX2_gapScore_12 rfl (lv_at hl 1 rfl) ?_
    refine jv_get (v := .ref t1) F hP 0 rfl flX2_28 rfl dX2_gapScore_13 ?_
    refine lv_iload_n hx hb dX2_gapScore_16 rfl (lv_at hl 2 rfl) ?_
    refine lv_iconst (v := jI 1) hx hb dX2_gapScore_17 rfl ?_
    refine jv_isub hx hb dX2_gapScore_18 ?_
    refine jv_iald (fa := f1) F hP 1 rfl (by omega) (by decide) dX2_gapScore_19 ?_
    have hq0 := hb1 pp hp.1 hp.2
    have hq1 := hb1 (pp - 1) (by omega) (by omega)
    refine jv_mmax F wmX2_78 hl (by decide) (Nat.le_of_ble_eq_true rfl) ⟨by decide, by decide⟩ (by omega) (by omega) dX2_gapScore_20 ?_
    refine lv_istore_n (lv' := [(2, .int (jI (max (f1 pp) (f1 (pp - 1))))), (0, .ref re), (1, .int (jI pp))]) hx hb dX2_gapScore_23 rfl hl (by decide) rfl (fun ls hl => ?_)
    refine lv_iload_n hx hb dX2_gapScore_24 rfl (lv_at hl 0 rfl) ?_
    refine lv_aload_n hx hb dX2_gapScore_25 rfl (lv_at hl 1 rfl) ?_
    refine jv_get (v := .int (jI gp)) F hP 0 rfl flX2_18 rfl dX2_gapScore_26 ?_
    refine jv_isub hx hb dX2_gapScore_29 ?_
    exact jR.ri F hQ rfl dX2_gapScore_30 (by first | (rw [gsc_1 (by omega)]; done) | (rw [gsc_0 (by omega)]; done))
set_option maxHeartbeats 4000000 in
set_option maxRecDepth 100000 in
theorem kX2_keepAlive (l : Launch) (D : va_G) (cA : ClassId) (re t2 t1 t0 : Nat) (ga lo gp li : Int) (u : acc) (f0 : Int → Int) (pp d sc : Int) (hp : 0 ≤ pp ∧ pp < 49) (hsc : sc ≠ -1000000) (hs2 : -2000 ≤ sc ∧ sc ≤ 2000) (hu : -2000 ≤ u.1 ∧ u.1 ≤ 2000) : jM l YX2_keepAlive (rmk 0 0 0 0) D cA [.ref re, .int (jI pp), .int (jI (d - pp)), .int (jI sc)] [(re, .inr (2, [.int (jI ga), .int (jI lo), .int (jI gp), .int (jI li), .ref t2, .ref t1, .ref t0, .int (jI u.1), .int (jI u.2.1), .int (jI u.2.2.1), .int (jI u.2.2.2.1), .int (jI u.2.2.2.2)])), (t0, .inl (cA, 49, .inl (jA f0)))] (fun v w => v = none ∧ w = [(re, .inr (2, [.int (jI ga), .int (jI lo), .int (jI gp), .int (jI li), .ref t2, .ref t1, .ref t0, .int (jI ((acc1 sc d pp u).1)), .int (jI ((acc1 sc d pp u).2.1)), .int (jI ((acc1 sc d pp u).2.2.1)), .int (jI ((acc1 sc d pp u).2.2.2.1)), .int (jI ((acc1 sc d pp u).2.2.2.2))])), (t0, .inl (cA, 49, .inl (jA (jU f0 pp sc))))]) 0 0 := by
  refine jM.intro (by decide +kernel) (Nat.le_of_ble_eq_true rfl) ?_
  intro p e s m args below meth c ls Q A F hQ hA hP hD hS hl
  have hx := F.1
  have hb := F.2.1
  have hl : lv_has ls 4 [(0, .ref re), (1, .int (jI pp)), (2, .int (jI (d - pp))), (3, .int (jI sc))] := hl
  refine lv_aload_n hx hb dX2_keepAlive_0 rfl (lv_at hl 0 rfl) ?_
  refine jv_get (v := .ref t0) F hP 0 rfl flX2_31 rfl dX2_keepAlive_1 ?_
  refine lv_iload_n hx hb dX2_keepAlive_4 rfl (lv_at hl 1 rfl) ?_
  refine lv_iload_n hx hb dX2_keepAlive_5 rfl (lv_at hl 3 rfl) ?_
  refine jv_iast (fa := f0) F hP hD hS 1 rfl (by omega) (by decide) dX2_keepAlive_6 (fun H locs hP hD hS => ?_)
  have hP : va_P D cls [(re, .inr (2, [.int (jI ga), .int (jI lo), .int (jI gp), .int (jI li), .ref t2, .ref t1, .ref t0, .int (jI u.1), .int (jI u.2.1), .int (jI u.2.2.1), .int (jI u.2.2.2.1), .int (jI u.2.2.2.2)])), (t0, .inl (cA, 49, .inl (jA (jU f0 pp sc))))] H := hP
  have hD : va_D A [(re, .inr (2, [.int (jI ga), .int (jI lo), .int (jI gp), .int (jI li), .ref t2, .ref t1, .ref t0, .int (jI u.1), .int (jI u.2.1), .int (jI u.2.2.1), .int (jI u.2.2.2.1), .int (jI u.2.2.2.2)])), (t0, .inl (cA, 49, .inl (jA (jU f0 pp sc))))] := hD
  refine lv_aload_n hx hb dX2_keepAlive_7 rfl (lv_at hl 0 rfl) ?_
  refine lv_dup hx hb dX2_keepAlive_8 rfl ?_
  refine jv_get (v := .int (jI u.2.2.2.1)) F hP 0 rfl flX2_43 rfl dX2_keepAlive_9 ?_
  refine lv_iconst (v := jI 1) hx hb dX2_keepAlive_12 rfl ?_
  refine jv_iadd hx hb dX2_keepAlive_13 ?_
  refine jv_put (v := .int (jI (u.2.2.2.1 + 1))) F hP hD hS 0 rfl flX2_43 pfX2 (by decide +kernel) rfl rfl (Nat.le_of_ble_eq_true rfl) dX2_keepAlive_14 (fun H locs hP hD hS => ?_)
  have hP : va_P D cls [(re, .inr (2, [.int (jI ga), .int (jI lo), .int (jI gp), .int (jI li), .ref t2, .ref t1, .ref t0, .int (jI u.1), .int (jI u.2.1), .int (jI u.2.2.1), .int (jI (u.2.2.2.1 + 1)), .int (jI u.2.2.2.2)])), (t0, .inl (cA, 49, .inl (jA (jU f0 pp sc))))] H := hP
  have hD : va_D A [(re, .inr (2, [.int (jI ga), .int (jI lo), .int (jI gp), .int (jI li), .ref t2, .ref t1, .ref t0, .int (jI u.1), .int (jI u.2.1), .int (jI u.2.2.1), .int (jI (u.2.2.2.1 + 1)), .int (jI u.2.2.2.2)])), (t0, .inl (cA, 49, .inl (jA (jU f0 pp sc))))] := hD
  refine lv_aload_n hx hb dX2_keepAlive_17 rfl (lv_at hl 0 rfl) ?_
  refine lv_iload_n hx hb dX2_keepAlive_18 rfl (lv_at hl 1 rfl) ?_
  refine lv_iload_n hx hb dX2_keepAlive_19 rfl (lv_at hl 2 rfl) ?_
  refine jv_iadd hx hb dX2_keepAlive_20 ?_
  refine jv_put (v := .int (jI (pp + (d - pp)))) F hP hD hS 0 rfl flX2_46 pfX2 (by decide +kernel) rfl rfl (Nat.le_of_ble_eq_true rfl) dX2_keepAlive_21 (fun H locs hP hD hS => ?_)
  have hP : va_P D cls [(re, .inr (2, [.int (jI ga), .int (jI lo), .int (jI gp), .int (jI li), .ref t2, .ref t1, .ref t0, .int (jI u.1), .int (jI u.2.1), .int (jI u.2.2.1), .int (jI (u.2.2.2.1 + 1)), .int (jI (pp + (d - pp)))])), (t0, .inl (cA, 49, .inl (jA (jU f0 pp sc))))] H := hP
  have hD : va_D A [(re, .inr (2, [.int (jI ga), .int (jI lo), .int (jI gp), .int (jI li), .ref t2, .ref t1, .ref t0, .int (jI u.1), .int (jI u.2.1), .int (jI u.2.2.1), .int (jI (u.2.2.2.1 + 1)), .int (jI (pp + (d - pp)))])), (t0, .inl (cA, 49, .inl (jA (jU f0 pp sc))))] := hD
  refine lv_iload_n hx hb dX2_keepAlive_24 rfl (lv_at hl 3 rfl) ?_
  refine lv_aload_n hx hb dX2_keepAlive_25 rfl (lv_at hl 0 rfl) ?_
  refine jv_get (v := .int (jI u.1)) F hP 0 rfl flX2_34 rfl dX2_keepAlive_26 ?_
  refine jv_icmp_le (tgt := 47) hx hb dX2_keepAlive_29 rfl (by omega) (by omega) (fun c29 => ?_) (fun c29 => ?_)
  · exact jM.rv F hQ rfl dX2_keepAlive_47 hS hP hD (by first | (rw [acc1_hi hsc (by omega), show pp + (d - pp) = d by omega]; exact ⟨rfl, rfl⟩) | (rw [acc1_lo hsc (by omega), show pp + (d - pp) = d by omega]; exact ⟨rfl, rfl⟩))
  · refine lv_aload_n hx hb dX2_keepAlive_32 rfl (lv_at hl 0 rfl) ?_
    refine lv_iload_n hx hb dX2_keepAlive_33 rfl (lv_at hl 3 rfl) ?_
    refine jv_put (v := .int (jI sc)) F hP hD hS 0 rfl flX2_34 pfX2 (by decide +kernel) rfl rfl (Nat.le_of_ble_eq_true rfl) dX2_keepAlive_34 (fun H locs hP hD hS => ?_)
    have hP : va_P D cls [(re, .inr (2, [.int (jI ga), .int (jI lo), .int (jI gp), .int (jI li), .ref t2, .ref t1, .ref t0, .int (jI sc), .int (jI u.2.1), .int (jI u.2.2.1), .int (jI (u.2.2.2.1 + 1)), .int (jI (pp + (d - pp)))])), (t0, .inl (cA, 49, .inl (jA (jU f0 pp sc))))] H := hP
    have hD : va_D A [(re, .inr (2, [.int (jI ga), .int (jI lo), .int (jI gp), .int (jI li), .ref t2, .ref t1, .ref t0, .int (jI sc), .int (jI u.2.1), .int (jI u.2.2.1), .int (jI (u.2.2.2.1 + 1)), .int (jI (pp + (d - pp)))])), (t0, .inl (cA, 49, .inl (jA (jU f0 pp sc))))] := hD
    refine lv_aload_n hx hb dX2_keepAlive_37 rfl (lv_at hl 0 rfl) ?_
    refine lv_iload_n hx hb dX2_keepAlive_38 rfl (lv_at hl 1 rfl) ?_
    refine jv_put (v := .int (jI pp)) F hP hD hS 0 rfl flX2_37 pfX2 (by decide +kernel) rfl rfl (Nat.le_of_ble_eq_true rfl) dX2_keepAlive_39 (fun H locs hP hD hS => ?_)
    have hP : va_P D cls [(re, .inr (2, [.int (jI ga), .int (jI lo), .int (jI gp), .int (jI li), .ref t2, .ref t1, .ref t0, .int (jI sc), .int (jI pp), .int (jI u.2.2.1), .int (jI (u.2.2.2.1 + 1)), .int (jI (pp + (d - pp)))])), (t0, .inl (cA, 49, .inl (jA (jU f0 pp sc))))] H := hP
    have hD : va_D A [(re, .inr (2, [.int (jI ga), .int (jI lo), .int (jI gp), .int (jI li), .ref t2, .ref t1, .ref t0, .int (jI sc), .int (jI pp), .int (jI u.2.2.1), .int (jI (u.2.2.2.1 + 1)), .int (jI (pp + (d - pp)))])), (t0, .inl (cA, 49, .inl (jA (jU f0 pp sc))))] := hD
    refine lv_aload_n hx hb dX2_keepAlive_42 rfl (lv_at hl 0 rfl) ?_
    refine lv_iload_n hx hb dX2_keepAlive_43 rfl (lv_at hl 2 rfl) ?_
    refine jv_put (v := .int (jI (d - pp))) F hP hD hS 0 rfl flX2_40 pfX2 (by decide +kernel) rfl rfl (Nat.le_of_ble_eq_true rfl) dX2_keepAlive_44 (fun H locs hP hD hS => ?_)
    have hP : va_P D cls [(re, .inr (2, [.int (jI ga), .int (jI lo), .int (jI gp), .int (jI li), .ref t2, .ref t1, .ref t0, .int (jI sc), .int (jI pp), .int (jI (d - pp)), .int (jI (u.2.2.2.1 + 1)), .int (jI (pp + (d - pp)))])), (t0, .inl (cA, 49, .inl (jA (jU f0 pp sc))))] H := hP
    have hD : va_D A [(re, .inr (2, [.int (jI ga), .int (jI lo), .int (jI gp), .int (jI li), .ref t2, .ref t1, .ref t0, .int (jI sc), .int (jI pp), .int (jI (d - pp)), .int (jI (u.2.2.2.1 + 1)), .int (jI (pp + (d - pp)))])), (t0, .inl (cA, 49, .inl (jA (jU f0 pp sc))))] := hD
    exact jM.rv F hQ rfl dX2_keepAlive_47 hS hP hD (by first | (rw [acc1_hi hsc (by omega), show pp + (d - pp) = d by omega]; exact ⟨rfl, rfl⟩) | (rw [acc1_lo hsc (by omega), show pp + (d - pp) = d by omega]; exact ⟨rfl, rfl⟩))
set_option maxHeartbeats 4000000 in
set_option maxRecDepth 100000 in
theorem kX2_walkSlope (l : Launch) (D : va_G) (cA : ClassId) (re t2 t1 t0 : Nat) (ga lo gp li : Int) (u : acc) (f2 f1 f0 one two : Int → Int) (r0 a0 r1 a1 : Nat) (n0 n1 i j d : Int) (L0 L1 : Int → Int) (hn0 : 0 ≤ n0 ∧ n0 ≤ 48) (hn1 : 0 ≤ n1 ∧ n1 ≤ 48) (hL0 : ∀ x, 0 ≤ L0 x ∧ L0 x ≤ 3) (hL1 : ∀ x, 0 ≤ L1 x ∧ L1 x ≤ 3) (hi : 0 ≤ i ∧ i ≤ n0) (hj : 0 ≤ j ∧ j ≤ n1) (hga : 1 ≤ ga ∧ ga ≤ 9) (hlo : 0 ≤ lo ∧ lo ≤ 9) (hgp : 1 ≤ gp ∧ gp ≤ 9) (hli : 0 ≤ li ∧ li ≤ 99) (hd : 1 ≤ d ∧ d ≤ n0 - i + (n1 - j)) (h0 : ∀ t, 0 ≤ t → t < 49 → f0 t = -1000000) (h1 : ∀ t, 0 ≤ t → t < 49 → f1 t = one t) (h2 : 2 ≤ d → ∀ t, 0 ≤ t → t < 49 → f2 t = two t) (hs1 : ∀ x, one x = -1000000 ∨ (-99 ≤ one x ∧ one x ≤ 900)) (hs2 : ∀ x, two x = -1000000 ∨ (-99 ≤ two x ∧ two x ≤ 900)) (hu : 0 ≤ u.1 ∧ u.1 ≤ 900) : jM l YX2_walkSlope (rmk 2 0 0 35) D cA [.ref re, .ref r0, .int (jI i), .ref r1, .int (jI j), .int (jI d)] [(re, .inr (2, [.int (jI ga), .int (jI lo), .int (jI gp), .int (jI li), .ref t2, .ref t1, .ref t0, .int (jI u.1), .int (jI u.2.1), .int (jI u.2.2.1), .int (jI u.2.2.2.1), .int (jI u.2.2.2.2)])), (t2, .inl (cA, 49, .inl (jA f2))), (t1, .inl (cA, 49, .inl (jA f1))), (t0, .inl (cA, 49, .inl (jA f0))), (r0, .inr (1, [.ref a0, .int (jI n0)])), (a0, .inl (cA, 48, .inl (jA L0))), (r1, .inr (1, [.ref a1, .int (jI n1)])), (a1, .inl (cA, 48, .inl (jA L1)))] (fun v w => v = none ∧ ∃ f9 : Int → Int, (∀ t, 0 ≤ t → t < 49 → f9 t = (nx (smv L0 L1 i j ga lo) (n0 - i) (n1 - j) gp li d u.1 one two) t) ∧ w = [(re, .inr (2, [.int (jI ga), .int (jI lo), .int (jI gp), .int (jI li), .ref t2, .ref t1, .ref t0, .int (jI ((rA (nx (smv L0 L1 i j ga lo) (n0 - i) (n1 - j) gp li d u.1 one two) d u (d + 1)).1)), .int (jI ((rA (nx (smv L0 L1 i j ga lo) (n0 - i) (n1 - j) gp li d u.1 one two) d u (d + 1)).2.1)), .int (jI ((rA (nx (smv L0 L1 i j ga lo) (n0 - i) (n1 - j) gp li d u.1 one two) d u (d + 1)).2.2.1)), .int (jI ((rA (nx (smv L0 L1 i j ga lo) (n0 - i) (n1 - j) gp li d u.1 one two) d u (d + 1)).2.2.2.1)), .int (jI ((rA (nx (smv L0 L1 i j ga lo) (n0 - i) (n1 - j) gp li d u.1 one two) d u (d + 1)).2.2.2.2))])), (t2, .inl (cA, 49, .inl (jA f2))), (t1, .inl (cA, 49, .inl (jA f1))), (t0, .inl (cA, 49, .inl (jA f9))), (r0, .inr (1, [.ref a0, .int (jI n0)])), (a0, .inl (cA, 48, .inl (jA L0))), (r1, .inr (1, [.ref a1, .int (jI n1)])), (a1, .inl (cA, 48, .inl (jA L1)))]) 0 0 := by
  refine jM.intro (by decide +kernel) (Nat.le_of_ble_eq_true rfl) ?_
  intro p e s m args below meth c ls Q A F hQ hA hP hD hS hl
  have hx := F.1
  have hb := F.2.1
  have hl : lv_has ls 12 [(0, .ref re), (1, .ref r0), (2, .int (jI i)), (3, .ref r1), (4, .int (jI j)), (5, .int (jI d))] := hl
  refine lv_aload_n hx hb dX2_walkSlope_0 rfl (lv_at hl 0 rfl) ?_
  refine jv_get (v := .int (jI u.1)) F hP 0 rfl flX2_34 rfl dX2_walkSlope_1 ?_
  refine lv_aload_n hx hb dX2_walkSlope_4 rfl (lv_at hl 0 rfl) ?_
  refine jv_get (v := .int (jI li)) F hP 0 rfl flX2_21 rfl dX2_walkSlope_5 ?_
  refine jv_isub hx hb dX2_walkSlope_8 ?_
  refine lv_istore (lv' := [(6, .int (jI (u.1 - li))), (0, .ref re), (1, .ref r0), (2, .int (jI i)), (3, .ref r1), (4, .int (jI j)), (5, .int (jI d))]) hx hb dX2_walkSlope_9 hl (by decide) rfl (fun ls hl => ?_)
  refine lv_iload hx hb dX2_walkSlope_11 (lv_at hl 6 rfl) ?_
  refine lv_aload_n hx hb dX2_walkSlope_13 rfl (lv_at hl 2 rfl) ?_
  refine jr_V F (kX1_size l D cA r0 a0 n0 L0) cvX2_52 hP [4, 5] rfl 4 rfl rfl hl ⟨rfl, rfl, by decide, by decide⟩ rfl rfl (Nat.le_of_ble_eq_true rfl) dX2_walkSlope_14 ⟨by decide, by decide⟩ (fun v hv => ?_)
  subst hv
  refine lv_iload_n hx hb dX2_walkSlope_17 rfl (lv_at hl 3 rfl) ?_
  refine jv_isub hx hb dX2_walkSlope_18 ?_
  refine jv_mmin F wmX2_72 hl (by decide) (Nat.le_of_ble_eq_true rfl) ⟨by decide, by decide⟩ (by omega) (by omega) dX2_walkSlope_19 ?_
  refine lv_istore (lv' := [(7, .int (jI (min d (n0 - i)))), (6, .int (jI (u.1 - li))), (0, .ref re), (1, .ref r0), (2, .int (jI i)), (3, .ref r1), (4, .int (jI j)), (5, .int (jI d))]) hx hb dX2_walkSlope_22 hl (by decide) rfl (fun ls hl => ?_)
  refine lv_iconst (v := jI 0) hx hb dX2_walkSlope_24 rfl ?_
  refine lv_iload hx hb dX2_walkSlope_25 (lv_at hl 7 rfl) ?_
  refine lv_aload_n hx hb dX2_walkSlope_27 rfl (lv_at hl 5 rfl) ?_
  refine jr_V F (kX1_size l D cA r1 a1 n1 L1) cvX2_52 hP [6, 7] rfl 6 rfl rfl hl ⟨rfl, rfl, by decide, by decide⟩ rfl rfl (Nat.le_of_ble_eq_true rfl) dX2_walkSlope_28 ⟨by decide, by decide⟩ (fun v hv => ?_)
  subst hv
  refine lv_iload hx hb dX2_walkSlope_31 (lv_at hl 6 rfl) ?_
  refine jv_isub hx hb dX2_walkSlope_33 ?_
  refine jv_isub hx hb dX2_walkSlope_34 ?_
  refine jv_mmax F wmX2_78 hl (by decide) (Nat.le_of_ble_eq_true rfl) ⟨by decide, by decide⟩ (by omega) (by omega) dX2_walkSlope_35 ?_
  refine lv_istore (lv' := [(8, .int (jI (max 0 (d - (n1 - j))))), (7, .int (jI (min d (n0 - i)))), (6, .int (jI (u.1 - li))), (0, .ref re), (1, .ref r0), (2, .int (jI i)), (3, .ref r1), (4, .int (jI j)), (5, .int (jI d))]) hx hb dX2_walkSlope_38 hl (by decide) rfl (fun ls hl => ?_)
  have lp40 : ∀ (fu : Nat) (pp : Int) (w0 : acc) (g0 : Int → Int) (ls : Array Slot) (H : Heap) (locs : List Loc), min d (n0 - i) + 1 - pp < (fu : Int) → (max 0 (d - (n1 - j)) ≤ pp ∧ pp ≤ min d (n0 - i) + 1) → (w0 = rA (nx (smv L0 L1 i j ga lo) (n0 - i) (n1 - j) gp li d u.1 one two) d u pp) → (∀ t, 0 ≤ t → t < 49 → g0 t = if t < pp then (nx (smv L0 L1 i j ga lo) (n0 - i) (n1 - j) gp li d u.1 one two) t else -1000000) → (0 ≤ w0.1 ∧ w0.1 ≤ 2000) → lv_has ls 12 [(8, .int (jI pp)), (7, .int (jI (min d (n0 - i)))), (6, .int (jI (u.1 - li))), (0, .ref re), (1, .ref r0), (2, .int (jI i)), (3, .ref r1), (4, .int (jI j)), (5, .int (jI d))] → va_P D cls [(re, .inr (2, [.int (jI ga), .int (jI lo), .int (jI gp), .int (jI li), .ref t2, .ref t1, .ref t0, .int (jI w0.1), .int (jI w0.2.1), .int (jI w0.2.2.1), .int (jI w0.2.2.2.1), .int (jI w0.2.2.2.2)])), (t2, .inl (cA, 49, .inl (jA f2))), (t1, .inl (cA, 49, .inl (jA f1))), (t0, .inl (cA, 49, .inl (jA g0))), (r0, .inr (1, [.ref a0, .int (jI n0)])), (a0, .inl (cA, 48, .inl (jA L0))), (r1, .inr (1, [.ref a1, .int (jI n1)])), (a1, .inl (cA, 48, .inl (jA L1)))] H → va_D A [(re, .inr (2, [.int (jI ga), .int (jI lo), .int (jI gp), .int (jI li), .ref t2, .ref t1, .ref t0, .int (jI w0.1), .int (jI w0.2.1), .int (jI w0.2.2.1), .int (jI w0.2.2.2.1), .int (jI w0.2.2.2.2)])), (t2, .inl (cA, 49, .inl (jA f2))), (t1, .inl (cA, 49, .inl (jA f1))), (t0, .inl (cA, 49, .inl (jA g0))), (r0, .inr (1, [.ref a0, .int (jI n0)])), (a0, .inl (cA, 48, .inl (jA L0))), (r1, .inr (1, [.ref a1, .int (jI n1)])), (a1, .inl (cA, 48, .inl (jA L1)))] → va_S A s.heap H locs → W p l e (rmk 2 0 0 35) s m args below meth c H locs 0 0 Q (F0 m 40 ls []) := by
    intro fu
    induction fu with
    | zero => intro pp w0 g0 ls H locs hfu hp hw hg0 hwb hl hP hD hS; exfalso; omega
    | succ fu ih40 =>
      intro pp w0 g0 ls H locs hfu hp hw hg0 hwb hl hP hD hS
      refine lv_iload hx hb dX2_walkSlope_40 (lv_at hl 0 rfl) ?_
      refine lv_iload hx hb dX2_walkSlope_42 (lv_at hl 1 rfl) ?_
      refine jv_icmp_gt (tgt := 160) hx hb dX2_walkSlope_44 rfl (by omega) (by omega) (fun c44 => ?_) (fun c44 => ?_)
      · exact jM.rv F hQ rfl dX2_walkSlope_160 hS hP hD (by exact ⟨rfl, g0, fun t t0 t1 => by rw [hg0 t t0 t1]; by_cases e : t < pp; (rw [if_pos e]); (rw [if_neg e, nx_out (by omega)]), by rw [hw, rA_skip2 (p := pp) (q := d + 1) (by omega) (by omega) (fun x x0 x1 => nx_out (by omega))]⟩)
      · refine lv_iload hx hb dX2_walkSlope_47 (lv_at hl 8 rfl) ?_
        refine lv_iload hx hb dX2_walkSlope_49 (lv_at hl 0 rfl) ?_
        refine jv_isub hx hb dX2_walkSlope_51 ?_
        refine lv_istore (lv' := [(9, .int (jI (d - pp))), (8, .int (jI pp)), (7, .int (jI (min d (n0 - i)))), (6, .int (jI (u.1 - li))), (0, .ref re), (1, .ref r0), (2, .int (jI i)), (3, .ref r1), (4, .int (jI j)), (5, .int (jI d))]) hx hb dX2_walkSlope_52 hl (by decide) rfl (fun ls hl => ?_)
        refine lv_aload_n hx hb dX2_walkSlope_54 rfl (lv_at hl 4 rfl) ?_
        refine lv_iload hx hb dX2_walkSlope_55 (lv_at hl 1 rfl) ?_
        refine jr_V F (kX2_gapScore l D cA re t2 t1 t0 ga lo gp li w0.1 w0.2.1 w0.2.2.1 w0.2.2.2.1 w0.2.2.2.2 f1 pp (by omega) (fun t h5 h6 => by have := h1 t h5 h6; have := hs1 t; omega)) cvX2_81 hP [0, 2] rfl 0 rfl rfl hl ⟨rfl, rfl, by decide, by decide⟩ rfl rfl (Nat.le_of_ble_eq_true rfl) dX2_walkSlope_57 ⟨by decide, by decide⟩ (fun v hv => ?_)
        subst hv
        refine lv_istore (lv' := [(10, .int (jI (gsc f1 gp pp))), (9, .int (jI (d - pp))), (8, .int (jI pp)), (7, .int (jI (min d (n0 - i)))), (6, .int (jI (u.1 - li))), (0, .ref re), (1, .ref r0), (2, .int (jI i)), (3, .ref r1), (4, .int (jI j)), (5, .int (jI d))]) hx hb dX2_walkSlope_60 hl (by decide) rfl (fun ls hl => ?_)
        refine lv_iload hx hb dX2_walkSlope_62 (lv_at hl 2 rfl) ?_
        refine jv_if_le (tgt := 137) hx hb dX2_walkSlope_64 rfl (by omega) (fun c64 => ?_) (fun c64 => ?_)
        · have hraw : gsc f1 gp pp = rawC (smv L0 L1 i j ga lo) gp one two pp (d - pp) := by
            have o0 := h1 pp (by omega) (by omega)
            by_cases p0 : 0 < pp
            · have o1 := h1 (pp - 1) (by omega) (by omega)
              rw [gsc_1 p0, rawC, if_pos p0, if_neg (by omega), o0, o1]
            · rw [gsc_0 p0, rawC, if_neg p0, o0]
          have hrb := raw_b (sm := smv L0 L1 i j ga lo) (smv_b hga hlo) hgp (hs1 pp) (hs1 (pp - 1)) (hs2 (pp - 1)) (d := d) (q := d - pp)
          rw [← hraw] at hrb
          refine lv_iload hx hb dX2_walkSlope_137 (lv_at hl 0 rfl) ?_
          refine lv_iload hx hb dX2_walkSlope_139 (lv_at hl 4 rfl) ?_
          refine jv_icmp_lt (tgt := 154) hx hb dX2_walkSlope_141 rfl (by omega) (by omega) (fun c141 => ?_) (fun c141 => ?_)
          · refine lv_iinc (k := 2) (v := jI (pp + 1)) (lv' := [(8, .int (jI (pp + 1))), (10, .int (jI (gsc f1 gp pp))), (9, .int (jI (d - pp))), (7, .int (jI (min d (n0 - i)))), (6, .int (jI (u.1 - li))), (0, .ref re), (1, .ref r0), (2, .int (jI i)), (3, .ref r1), (4, .int (jI j)), (5, .int (jI d))]) hx hb dX2_walkSlope_154 hl rfl (jI_add _ _) (by decide) rfl (fun ls hl => ?_)
            refine lv_goto (tgt := 40) hx hb dX2_walkSlope_157 rfl ?_
            refine ih40 (pp + 1) w0 g0 ls H locs (by omega) ?_ ?_ ?_ ?_ (lv_sub hl [0, 3, 4, 5, 6, 7, 8, 9, 10] rfl) hP hD hS
            · omega
            · first
                | (rw [rA_s (by omega), acc1_dead (nx_lo (by omega))]; exact hw)
                | (rw [rA_s (by omega), ← hw, nx_in (by omega) (by omega), ← hraw])
            · intro t t0 t1
              by_cases e : t = pp
              · first
                  | (rw [e, jU_s, if_pos (by omega), nx_in (by omega) (by omega)]; exact hraw)
                  | (rw [e, if_pos (by omega), nx_lo (by omega), hg0 pp (by omega) (by omega), if_neg (by omega)])
              · first
                  | rw [jU_n e, hg0 t t0 t1]
                  | rw [hg0 t t0 t1]
                by_cases e2 : t < pp
                · rw [if_pos e2, if_pos (by omega)]
                · rw [if_neg e2, if_neg (by omega)]
            · first
                | exact hwb
                | exact acc1_b (by omega) (by omega) hwb
          · refine lv_aload_n hx hb dX2_walkSlope_144 rfl (lv_at hl 5 rfl) ?_
            refine lv_iload hx hb dX2_walkSlope_145 (lv_at hl 2 rfl) ?_
            refine lv_iload hx hb dX2_walkSlope_147 (lv_at hl 1 rfl) ?_
            refine lv_iload hx hb dX2_walkSlope_149 (lv_at hl 0 rfl) ?_
            refine jw_V (wr := [(t2, .inl (cA, 49, .inl (jA f2))), (t1, .inl (cA, 49, .inl (jA f1))), (r0, .inr (1, [.ref a0, .int (jI n0)])), (a0, .inl (cA, 48, .inl (jA L0))), (r1, .inr (1, [.ref a1, .int (jI n1)])), (a1, .inl (cA, 48, .inl (jA L1)))]) F (kX2_keepAlive l D cA re t2 t1 t0 ga lo gp li w0 g0 pp d (gsc f1 gp pp) (by omega) (by omega) (by omega) (by omega)) cvX2_88 hP hD hS hA [0, 3] [1, 2, 4, 5, 6, 7] rfl rfl (by decide) (by decide) 0 rfl rfl hl ⟨rfl, rfl, by decide, by decide⟩ rfl rfl (Nat.le_of_ble_eq_true rfl) dX2_walkSlope_151 ⟨by decide, by decide⟩ (by decide) (fun v w1 H locs hw hP hD hS => ?_)
            obtain ⟨rfl, rfl⟩ := hw
            have hP : va_P D cls [(t2, .inl (cA, 49, .inl (jA f2))), (t1, .inl (cA, 49, .inl (jA f1))), (r0, .inr (1, [.ref a0, .int (jI n0)])), (a0, .inl (cA, 48, .inl (jA L0))), (r1, .inr (1, [.ref a1, .int (jI n1)])), (a1, .inl (cA, 48, .inl (jA L1))), (re, .inr (2, [.int (jI ga), .int (jI lo), .int (jI gp), .int (jI li), .ref t2, .ref t1, .ref t0, .int (jI ((acc1 (gsc f1 gp pp) d pp w0).1)), .int (jI ((acc1 (gsc f1 gp pp) d pp w0).2.1)), .int (jI ((acc1 (gsc f1 gp pp) d pp w0).2.2.1)), .int (jI ((acc1 (gsc f1 gp pp) d pp w0).2.2.2.1)), .int (jI ((acc1 (gsc f1 gp pp) d pp w0).2.2.2.2))])), (t0, .inl (cA, 49, .inl (jA (jU g0 pp (gsc f1 gp pp)))))] H := hP
            have hD : va_D A [(t2, .inl (cA, 49, .inl (jA f2))), (t1, .inl (cA, 49, .inl (jA f1))), (r0, .inr (1, [.ref a0, .int (jI n0)])), (a0, .inl (cA, 48, .inl (jA L0))), (r1, .inr (1, [.ref a1, .int (jI n1)])), (a1, .inl (cA, 48, .inl (jA L1))), (re, .inr (2, [.int (jI ga), .int (jI lo), .int (jI gp), .int (jI li), .ref t2, .ref t1, .ref t0, .int (jI ((acc1 (gsc f1 gp pp) d pp w0).1)), .int (jI ((acc1 (gsc f1 gp pp) d pp w0).2.1)), .int (jI ((acc1 (gsc f1 gp pp) d pp w0).2.2.1)), .int (jI ((acc1 (gsc f1 gp pp) d pp w0).2.2.2.1)), .int (jI ((acc1 (gsc f1 gp pp) d pp w0).2.2.2.2))])), (t0, .inl (cA, 49, .inl (jA (jU g0 pp (gsc f1 gp pp)))))] := hD
            refine W.eq (g2 := F0 m 154 ls []) rfl ?_
            refine lv_iinc (k := 2) (v := jI (pp + 1)) (lv' := [(8, .int (jI (pp + 1))), (10, .int (jI (gsc f1 gp pp))), (9, .int (jI (d - pp))), (7, .int (jI (min d (n0 - i)))), (6, .int (jI (u.1 - li))), (0, .ref re), (1, .ref r0), (2, .int (jI i)), (3, .ref r1), (4, .int (jI j)), (5, .int (jI d))]) hx hb dX2_walkSlope_154 hl rfl (jI_add _ _) (by decide) rfl (fun ls hl => ?_)
            refine lv_goto (tgt := 40) hx hb dX2_walkSlope_157 rfl ?_
            refine ih40 (pp + 1) (acc1 (gsc f1 gp pp) d pp w0) (jU g0 pp (gsc f1 gp pp)) ls H locs (by omega) ?_ ?_ ?_ ?_ (lv_sub hl [0, 3, 4, 5, 6, 7, 8, 9, 10] rfl) (hP.sub (ws' := [(re, .inr (2, [.int (jI ga), .int (jI lo), .int (jI gp), .int (jI li), .ref t2, .ref t1, .ref t0, .int (jI ((acc1 (gsc f1 gp pp) d pp w0).1)), .int (jI ((acc1 (gsc f1 gp pp) d pp w0).2.1)), .int (jI ((acc1 (gsc f1 gp pp) d pp w0).2.2.1)), .int (jI ((acc1 (gsc f1 gp pp) d pp w0).2.2.2.1)), .int (jI ((acc1 (gsc f1 gp pp) d pp w0).2.2.2.2))])), (t2, .inl (cA, 49, .inl (jA f2))), (t1, .inl (cA, 49, .inl (jA f1))), (t0, .inl (cA, 49, .inl (jA (jU g0 pp (gsc f1 gp pp))))), (r0, .inr (1, [.ref a0, .int (jI n0)])), (a0, .inl (cA, 48, .inl (jA L0))), (r1, .inr (1, [.ref a1, .int (jI n1)])), (a1, .inl (cA, 48, .inl (jA L1)))]) [6, 0, 1, 7, 2, 3, 4, 5] rfl) (hD.sub (ws' := [(re, .inr (2, [.int (jI ga), .int (jI lo), .int (jI gp), .int (jI li), .ref t2, .ref t1, .ref t0, .int (jI ((acc1 (gsc f1 gp pp) d pp w0).1)), .int (jI ((acc1 (gsc f1 gp pp) d pp w0).2.1)), .int (jI ((acc1 (gsc f1 gp pp) d pp w0).2.2.1)), .int (jI ((acc1 (gsc f1 gp pp) d pp w0).2.2.2.1)), .int (jI ((acc1 (gsc f1 gp pp) d pp w0).2.2.2.2))])), (t2, .inl (cA, 49, .inl (jA f2))), (t1, .inl (cA, 49, .inl (jA f1))), (t0, .inl (cA, 49, .inl (jA (jU g0 pp (gsc f1 gp pp))))), (r0, .inr (1, [.ref a0, .int (jI n0)])), (a0, .inl (cA, 48, .inl (jA L0))), (r1, .inr (1, [.ref a1, .int (jI n1)])), (a1, .inl (cA, 48, .inl (jA L1)))]) [6, 0, 1, 7, 2, 3, 4, 5] (by decide) rfl) hS
            · omega
            · first
                | (rw [rA_s (by omega), acc1_dead (nx_lo (by omega))]; exact hw)
                | (rw [rA_s (by omega), ← hw, nx_in (by omega) (by omega), ← hraw])
            · intro t t0 t1
              by_cases e : t = pp
              · first
                  | (rw [e, jU_s, if_pos (by omega), nx_in (by omega) (by omega)]; exact hraw)
                  | (rw [e, if_pos (by omega), nx_lo (by omega), hg0 pp (by omega) (by omega), if_neg (by omega)])
              · first
                  | rw [jU_n e, hg0 t t0 t1]
                  | rw [hg0 t t0 t1]
                by_cases e2 : t < pp
                · rw [if_pos e2, if_pos (by omega)]
                · rw [if_neg e2, if_neg (by omega)]
            · first
                | exact hwb
                | exact acc1_b (by omega) (by omega) hwb
        · refine lv_iload hx hb dX2_walkSlope_67 (lv_at hl 1 rfl) ?_
          refine jv_if_le (tgt := 137) hx hb dX2_walkSlope_69 rfl (by omega) (fun c69 => ?_) (fun c69 => ?_)
          · have hraw : gsc f1 gp pp = rawC (smv L0 L1 i j ga lo) gp one two pp (d - pp) := by
              have o0 := h1 pp (by omega) (by omega)
              by_cases p0 : 0 < pp
              · have o1 := h1 (pp - 1) (by omega) (by omega)
                rw [gsc_1 p0, rawC, if_pos p0, if_neg (by omega), o0, o1]
              · rw [gsc_0 p0, rawC, if_neg p0, o0]
            have hrb := raw_b (sm := smv L0 L1 i j ga lo) (smv_b hga hlo) hgp (hs1 pp) (hs1 (pp - 1)) (hs2 (pp - 1)) (d := d) (q := d - pp)
            rw [← hraw] at hrb
            refine lv_iload hx hb dX2_walkSlope_137 (lv_at hl 0 rfl) ?_
            refine lv_iload hx hb dX2_walkSlope_139 (lv_at hl 4 rfl) ?_
            refine jv_icmp_lt (tgt := 154) hx hb dX2_walkSlope_141 rfl (by omega) (by omega) (fun c141 => ?_) (fun c141 => ?_)
            · refine lv_iinc (k := 2) (v := jI (pp + 1)) (lv' := [(8, .int (jI (pp + 1))), (10, .int (jI (gsc f1 gp pp))), (9, .int (jI (d - pp))), (7, .int (jI (min d (n0 - i)))), (6, .int (jI (u.1 - li))), (0, .ref re), (1, .ref r0), (2, .int (jI i)), (3, .ref r1), (4, .int (jI j)), (5, .int (jI d))]) hx hb dX2_walkSlope_154 hl rfl (jI_add _ _) (by decide) rfl (fun ls hl => ?_)
              refine lv_goto (tgt := 40) hx hb dX2_walkSlope_157 rfl ?_
              refine ih40 (pp + 1) w0 g0 ls H locs (by omega) ?_ ?_ ?_ ?_ (lv_sub hl [0, 3, 4, 5, 6, 7, 8, 9, 10] rfl) hP hD hS
              · omega
              · first
                  | (rw [rA_s (by omega), acc1_dead (nx_lo (by omega))]; exact hw)
                  | (rw [rA_s (by omega), ← hw, nx_in (by omega) (by omega), ← hraw])
              · intro t t0 t1
                by_cases e : t = pp
                · first
                    | (rw [e, jU_s, if_pos (by omega), nx_in (by omega) (by omega)]; exact hraw)
                    | (rw [e, if_pos (by omega), nx_lo (by omega), hg0 pp (by omega) (by omega), if_neg (by omega)])
                · first
                    | rw [jU_n e, hg0 t t0 t1]
                    | rw [hg0 t t0 t1]
                  by_cases e2 : t < pp
                  · rw [if_pos e2, if_pos (by omega)]
                  · rw [if_neg e2, if_neg (by omega)]
              · first
                  | exact hwb
                  | exact acc1_b (by omega) (by omega) hwb
            · refine lv_aload_n hx hb dX2_walkSlope_144 rfl (lv_at hl 5 rfl) ?_
              refine lv_iload hx hb dX2_walkSlope_145 (lv_at hl 2 rfl) ?_
              refine lv_iload hx hb dX2_walkSlope_147 (lv_at hl 1 rfl) ?_
              refine lv_iload hx hb dX2_walkSlope_149 (lv_at hl 0 rfl) ?_
              refine jw_V (wr := [(t2, .inl (cA, 49, .inl (jA f2))), (t1, .inl (cA, 49, .inl (jA f1))), (r0, .inr (1, [.ref a0, .int (jI n0)])), (a0, .inl (cA, 48, .inl (jA L0))), (r1, .inr (1, [.ref a1, .int (jI n1)])), (a1, .inl (cA, 48, .inl (jA L1)))]) F (kX2_keepAlive l D cA re t2 t1 t0 ga lo gp li w0 g0 pp d (gsc f1 gp pp) (by omega) (by omega) (by omega) (by omega)) cvX2_88 hP hD hS hA [0, 3] [1, 2, 4, 5, 6, 7] rfl rfl (by decide) (by decide) 0 rfl rfl hl ⟨rfl, rfl, by decide, by decide⟩ rfl rfl (Nat.le_of_ble_eq_true rfl) dX2_walkSlope_151 ⟨by decide, by decide⟩ (by decide) (fun v w1 H locs hw hP hD hS => ?_)
              obtain ⟨rfl, rfl⟩ := hw
              have hP : va_P D cls [(t2, .inl (cA, 49, .inl (jA f2))), (t1, .inl (cA, 49, .inl (jA f1))), (r0, .inr (1, [.ref a0, .int (jI n0)])), (a0, .inl (cA, 48, .inl (jA L0))), (r1, .inr (1, [.ref a1, .int (jI n1)])), (a1, .inl (cA, 48, .inl (jA L1))), (re, .inr (2, [.int (jI ga), .int (jI lo), .int (jI gp), .int (jI li), .ref t2, .ref t1, .ref t0, .int (jI ((acc1 (gsc f1 gp pp) d pp w0).1)), .int (jI ((acc1 (gsc f1 gp pp) d pp w0).2.1)), .int (jI ((acc1 (gsc f1 gp pp) d pp w0).2.2.1)), .int (jI ((acc1 (gsc f1 gp pp) d pp w0).2.2.2.1)), .int (jI ((acc1 (gsc f1 gp pp) d pp w0).2.2.2.2))])), (t0, .inl (cA, 49, .inl (jA (jU g0 pp (gsc f1 gp pp)))))] H := hP
              have hD : va_D A [(t2, .inl (cA, 49, .inl (jA f2))), (t1, .inl (cA, 49, .inl (jA f1))), (r0, .inr (1, [.ref a0, .int (jI n0)])), (a0, .inl (cA, 48, .inl (jA L0))), (r1, .inr (1, [.ref a1, .int (jI n1)])), (a1, .inl (cA, 48, .inl (jA L1))), (re, .inr (2, [.int (jI ga), .int (jI lo), .int (jI gp), .int (jI li), .ref t2, .ref t1, .ref t0, .int (jI ((acc1 (gsc f1 gp pp) d pp w0).1)), .int (jI ((acc1 (gsc f1 gp pp) d pp w0).2.1)), .int (jI ((acc1 (gsc f1 gp pp) d pp w0).2.2.1)), .int (jI ((acc1 (gsc f1 gp pp) d pp w0).2.2.2.1)), .int (jI ((acc1 (gsc f1 gp pp) d pp w0).2.2.2.2))])), (t0, .inl (cA, 49, .inl (jA (jU g0 pp (gsc f1 gp pp)))))] := hD
              refine W.eq (g2 := F0 m 154 ls []) rfl ?_
              refine lv_iinc (k := 2) (v := jI (pp + 1)) (lv' := [(8, .int (jI (pp + 1))), (10, .int (jI (gsc f1 gp pp))), (9, .int (jI (d - pp))), (7, .int (jI (min d (n0 - i)))), (6, .int (jI (u.1 - li))), (0, .ref re), (1, .ref r0), (2, .int (jI i)), (3, .ref r1), (4, .int (jI j)), (5, .int (jI d))]) hx hb dX2_walkSlope_154 hl rfl (jI_add _ _) (by decide) rfl (fun ls hl => ?_)
              refine lv_goto (tgt := 40) hx hb dX2_walkSlope_157 rfl ?_
              refine ih40 (pp + 1) (acc1 (gsc f1 gp pp) d pp w0) (jU g0 pp (gsc f1 gp pp)) ls H locs (by omega) ?_ ?_ ?_ ?_ (lv_sub hl [0, 3, 4, 5, 6, 7, 8, 9, 10] rfl) (hP.sub (ws' := [(re, .inr (2, [.int (jI ga), .int (jI lo), .int (jI gp), .int (jI li), .ref t2, .ref t1, .ref t0, .int (jI ((acc1 (gsc f1 gp pp) d pp w0).1)), .int (jI ((acc1 (gsc f1 gp pp) d pp w0).2.1)), .int (jI ((acc1 (gsc f1 gp pp) d pp w0).2.2.1)), .int (jI ((acc1 (gsc f1 gp pp) d pp w0).2.2.2.1)), .int (jI ((acc1 (gsc f1 gp pp) d pp w0).2.2.2.2))])), (t2, .inl (cA, 49, .inl (jA f2))), (t1, .inl (cA, 49, .inl (jA f1))), (t0, .inl (cA, 49, .inl (jA (jU g0 pp (gsc f1 gp pp))))), (r0, .inr (1, [.ref a0, .int (jI n0)])), (a0, .inl (cA, 48, .inl (jA L0))), (r1, .inr (1, [.ref a1, .int (jI n1)])), (a1, .inl (cA, 48, .inl (jA L1)))]) [6, 0, 1, 7, 2, 3, 4, 5] rfl) (hD.sub (ws' := [(re, .inr (2, [.int (jI ga), .int (jI lo), .int (jI gp), .int (jI li), .ref t2, .ref t1, .ref t0, .int (jI ((acc1 (gsc f1 gp pp) d pp w0).1)), .int (jI ((acc1 (gsc f1 gp pp) d pp w0).2.1)), .int (jI ((acc1 (gsc f1 gp pp) d pp w0).2.2.1)), .int (jI ((acc1 (gsc f1 gp pp) d pp w0).2.2.2.1)), .int (jI ((acc1 (gsc f1 gp pp) d pp w0).2.2.2.2))])), (t2, .inl (cA, 49, .inl (jA f2))), (t1, .inl (cA, 49, .inl (jA f1))), (t0, .inl (cA, 49, .inl (jA (jU g0 pp (gsc f1 gp pp))))), (r0, .inr (1, [.ref a0, .int (jI n0)])), (a0, .inl (cA, 48, .inl (jA L0))), (r1, .inr (1, [.ref a1, .int (jI n1)])), (a1, .inl (cA, 48, .inl (jA L1)))]) [6, 0, 1, 7, 2, 3, 4, 5] (by decide) rfl) hS
              · omega
              · first
                  | (rw [rA_s (by omega), acc1_dead (nx_lo (by omega))]; exact hw)
                  | (rw [rA_s (by omega), ← hw, nx_in (by omega) (by omega), ← hraw])
              · intro t t0 t1
                by_cases e : t = pp
                · first
                    | (rw [e, jU_s, if_pos (by omega), nx_in (by omega) (by omega)]; exact hraw)
                    | (rw [e, if_pos (by omega), nx_lo (by omega), hg0 pp (by omega) (by omega), if_neg (by omega)])
                · first
                    | rw [jU_n e, hg0 t t0 t1]
                    | rw [hg0 t t0 t1]
                  by_cases e2 : t < pp
                  · rw [if_pos e2, if_pos (by omega)]
                  · rw [if_neg e2, if_neg (by omega)]
              · first
                  | exact hwb
                  | exact acc1_b (by omega) (by omega) hwb
          · refine lv_aload_n hx hb dX2_walkSlope_72 rfl (lv_at hl 6 rfl) ?_
            refine lv_iload_n hx hb dX2_walkSlope_73 rfl (lv_at hl 7 rfl) ?_
            refine lv_iload hx hb dX2_walkSlope_74 (lv_at hl 2 rfl) ?_
            refine jv_iadd hx hb dX2_walkSlope_76 ?_
            refine lv_iconst (v := jI 1) hx hb dX2_walkSlope_77 rfl ?_
            refine jv_isub hx hb dX2_walkSlope_78 ?_
            refine jr_V F (kX1_at l D cA r0 a0 n0 L0 ((i + pp) - 1) (by omega) (by omega)) cvX2_85 hP [4, 5] rfl 4 rfl rfl hl ⟨rfl, rfl, by decide, by decide⟩ rfl rfl (Nat.le_of_ble_eq_true rfl) dX2_walkSlope_79 ⟨by decide, by decide⟩ (fun v hv => ?_)
            subst hv
            refine lv_aload_n hx hb dX2_walkSlope_82 rfl (lv_at hl 8 rfl) ?_
            refine lv_iload hx hb dX2_walkSlope_83 (lv_at hl 9 rfl) ?_
            refine lv_iload hx hb dX2_walkSlope_85 (lv_at hl 1 rfl) ?_
            refine jv_iadd hx hb dX2_walkSlope_87 ?_
            refine lv_iconst (v := jI 1) hx hb dX2_walkSlope_88 rfl ?_
            refine jv_isub hx hb dX2_walkSlope_89 ?_
            refine jr_V F (kX1_at l D cA r1 a1 n1 L1 ((j + (d - pp)) - 1) (by omega) (by omega)) cvX2_85 hP [6, 7] rfl 6 rfl rfl hl ⟨rfl, rfl, by decide, by decide⟩ rfl rfl (Nat.le_of_ble_eq_true rfl) dX2_walkSlope_90 ⟨by decide, by decide⟩ (fun v hv => ?_)
            subst hv
            have ra0 := atv_rg hL0 n0 (i + pp - 1)
            have ra1 := atv_rg hL1 n1 (j + (d - pp) - 1)
            refine jv_icmp_ne (tgt := 100) hx hb dX2_walkSlope_93 rfl (by omega) (by omega) (fun c93 => ?_) (fun c93 => ?_)
            · have hsame : ¬ L0 (i + pp - 1) = L1 (j + (d - pp) - 1) := by
                rw [atv_in (by omega), atv_in (by omega)] at c93
                exact c93
              refine lv_iconst (v := jI 0) hx hb dX2_walkSlope_100 rfl ?_
              refine lv_istore (lv' := [(11, .int (jI 0)), (10, .int (jI (gsc f1 gp pp))), (9, .int (jI (d - pp))), (8, .int (jI pp)), (7, .int (jI (min d (n0 - i)))), (6, .int (jI (u.1 - li))), (0, .ref re), (1, .ref r0), (2, .int (jI i)), (3, .ref r1), (4, .int (jI j)), (5, .int (jI d))]) hx hb dX2_walkSlope_101 hl (by decide) rfl (fun ls hl => ?_)
              refine lv_iload hx hb dX2_walkSlope_103 (lv_at hl 1 rfl) ?_
              refine lv_aload_n hx hb dX2_walkSlope_105 rfl (lv_at hl 6 rfl) ?_
              refine jv_get (v := .ref t2) F hP 0 rfl flX2_24 rfl dX2_walkSlope_106 ?_
              refine lv_iload hx hb dX2_walkSlope_109 (lv_at hl 3 rfl) ?_
              refine lv_iconst (v := jI 1) hx hb dX2_walkSlope_111 rfl ?_
              refine jv_isub hx hb dX2_walkSlope_112 ?_
              refine jv_iald (fa := f2) F hP 1 rfl (by omega) (by decide) dX2_walkSlope_113 ?_
              refine lv_iload hx hb dX2_walkSlope_114 (lv_at hl 0 rfl) ?_
              refine jv_if_eq (tgt := 126) hx hb dX2_walkSlope_116 rfl (by omega) (fun c116 => ?_) (fun c116 => ?_)
              · refine lv_aload_n hx hb dX2_walkSlope_126 rfl (lv_at hl 6 rfl) ?_
                refine jv_get (v := .int (jI lo)) F hP 0 rfl flX2_15 rfl dX2_walkSlope_127 ?_
                refine jv_ineg hx hb dX2_walkSlope_130 ?_
                refine jv_iadd hx hb dX2_walkSlope_131 ?_
                refine jv_mmax F wmX2_78 hl (by decide) (Nat.le_of_ble_eq_true rfl) ⟨by decide, by decide⟩ (by (have := h1 pp (by omega) (by omega); have := hs1 pp; have := h1 (pp - 1) (by omega) (by omega); have := hs1 (pp - 1); rw [gsc_1 (by omega)]; omega)) (by (have := h2 (by omega) (pp - 1) (by omega) (by omega); have := hs2 (pp - 1); omega)) dX2_walkSlope_132 ?_
                refine lv_istore (lv' := [(10, .int (jI (max (gsc f1 gp pp) ((f2 (pp - 1)) + (-lo))))), (11, .int (jI 0)), (9, .int (jI (d - pp))), (8, .int (jI pp)), (7, .int (jI (min d (n0 - i)))), (6, .int (jI (u.1 - li))), (0, .ref re), (1, .ref r0), (2, .int (jI i)), (3, .ref r1), (4, .int (jI j)), (5, .int (jI d))]) hx hb dX2_walkSlope_135 hl (by decide) rfl (fun ls hl => ?_)
                have hraw : max (gsc f1 gp pp) ((f2 (pp - 1)) + (-lo)) = rawC (smv L0 L1 i j ga lo) gp one two pp (d - pp) := by
                  have o0 := h1 pp (by omega) (by omega)
                  have o1 := h1 (pp - 1) (by omega) (by omega)
                  have o2 := h2 (by omega) (pp - 1) (by omega) (by omega)
                  rw [gsc_1 (by omega), rawC, if_pos (by omega), if_pos (by omega), o0, o1, o2]
                  congr 1
                  congr 1
                  unfold smv
                  first | rw [if_pos hsame] | rw [if_neg hsame]
                have hrb := raw_b (sm := smv L0 L1 i j ga lo) (smv_b hga hlo) hgp (hs1 pp) (hs1 (pp - 1)) (hs2 (pp - 1)) (d := d) (q := d - pp)
                rw [← hraw] at hrb
                refine lv_iload hx hb dX2_walkSlope_137 (lv_at hl 0 rfl) ?_
                refine lv_iload hx hb dX2_walkSlope_139 (lv_at hl 5 rfl) ?_
                refine jv_icmp_lt (tgt := 154) hx hb dX2_walkSlope_141 rfl (by omega) (by omega) (fun c141 => ?_) (fun c141 => ?_)
                · refine lv_iinc (k := 3) (v := jI (pp + 1)) (lv' := [(8, .int (jI (pp + 1))), (10, .int (jI (max (gsc f1 gp pp) ((f2 (pp - 1)) + (-lo))))), (11, .int (jI 0)), (9, .int (jI (d - pp))), (7, .int (jI (min d (n0 - i)))), (6, .int (jI (u.1 - li))), (0, .ref re), (1, .ref r0), (2, .int (jI i)), (3, .ref r1), (4, .int (jI j)), (5, .int (jI d))]) hx hb dX2_walkSlope_154 hl rfl (jI_add _ _) (by decide) rfl (fun ls hl => ?_)
                  refine lv_goto (tgt := 40) hx hb dX2_walkSlope_157 rfl ?_
                  refine ih40 (pp + 1) w0 g0 ls H locs (by omega) ?_ ?_ ?_ ?_ (lv_sub hl [0, 4, 5, 6, 7, 8, 9, 10, 11] rfl) hP hD hS
                  · omega
                  · first
                      | (rw [rA_s (by omega), acc1_dead (nx_lo (by omega))]; exact hw)
                      | (rw [rA_s (by omega), ← hw, nx_in (by omega) (by omega), ← hraw])
                  · intro t t0 t1
                    by_cases e : t = pp
                    · first
                        | (rw [e, jU_s, if_pos (by omega), nx_in (by omega) (by omega)]; exact hraw)
                        | (rw [e, if_pos (by omega), nx_lo (by omega), hg0 pp (by omega) (by omega), if_neg (by omega)])
                    · first
                        | rw [jU_n e, hg0 t t0 t1]
                        | rw [hg0 t t0 t1]
                      by_cases e2 : t < pp
                      · rw [if_pos e2, if_pos (by omega)]
                      · rw [if_neg e2, if_neg (by omega)]
                  · first
                      | exact hwb
                      | exact acc1_b (by omega) (by omega) hwb
                · refine lv_aload_n hx hb dX2_walkSlope_144 rfl (lv_at hl 6 rfl) ?_
                  refine lv_iload hx hb dX2_walkSlope_145 (lv_at hl 3 rfl) ?_
                  refine lv_iload hx hb dX2_walkSlope_147 (lv_at hl 2 rfl) ?_
                  refine lv_iload hx hb dX2_walkSlope_149 (lv_at hl 0 rfl) ?_
                  refine jw_V (wr := [(t2, .inl (cA, 49, .inl (jA f2))), (t1, .inl (cA, 49, .inl (jA f1))), (r0, .inr (1, [.ref a0, .int (jI n0)])), (a0, .inl (cA, 48, .inl (jA L0))), (r1, .inr (1, [.ref a1, .int (jI n1)])), (a1, .inl (cA, 48, .inl (jA L1)))]) F (kX2_keepAlive l D cA re t2 t1 t0 ga lo gp li w0 g0 pp d (max (gsc f1 gp pp) ((f2 (pp - 1)) + (-lo))) (by omega) (by omega) (by omega) (by omega)) cvX2_88 hP hD hS hA [0, 3] [1, 2, 4, 5, 6, 7] rfl rfl (by decide) (by decide) 0 rfl rfl hl ⟨rfl, rfl, by decide, by decide⟩ rfl rfl (Nat.le_of_ble_eq_true rfl) dX2_walkSlope_151 ⟨by decide, by decide⟩ (by decide) (fun v w1 H locs hw hP hD hS => ?_)
                  obtain ⟨rfl, rfl⟩ := hw
                  have hP : va_P D cls [(t2, .inl (cA, 49, .inl (jA f2))), (t1, .inl (cA, 49, .inl (jA f1))), (r0, .inr (1, [.ref a0, .int (jI n0)])), (a0, .inl (cA, 48, .inl (jA L0))), (r1, .inr (1, [.ref a1, .int (jI n1)])), (a1, .inl (cA, 48, .inl (jA L1))), (re, .inr (2, [.int (jI ga), .int (jI lo), .int (jI gp), .int (jI li), .ref t2, .ref t1, .ref t0, .int (jI ((acc1 (max (gsc f1 gp pp) ((f2 (pp - 1)) + (-lo))) d pp w0).1)), .int (jI ((acc1 (max (gsc f1 gp pp) ((f2 (pp - 1)) + (-lo))) d pp w0).2.1)), .int (jI ((acc1 (max (gsc f1 gp pp) ((f2 (pp - 1)) + (-lo))) d pp w0).2.2.1)), .int (jI ((acc1 (max (gsc f1 gp pp) ((f2 (pp - 1)) + (-lo))) d pp w0).2.2.2.1)), .int (jI ((acc1 (max (gsc f1 gp pp) ((f2 (pp - 1)) + (-lo))) d pp w0).2.2.2.2))])), (t0, .inl (cA, 49, .inl (jA (jU g0 pp (max (gsc f1 gp pp) ((f2 (pp - 1)) + (-lo)))))))] H := hP
                  have hD : va_D A [(t2, .inl (cA, 49, .inl (jA f2))), (t1, .inl (cA, 49, .inl (jA f1))), (r0, .inr (1, [.ref a0, .int (jI n0)])), (a0, .inl (cA, 48, .inl (jA L0))), (r1, .inr (1, [.ref a1, .int (jI n1)])), (a1, .inl (cA, 48, .inl (jA L1))), (re, .inr (2, [.int (jI ga), .int (jI lo), .int (jI gp), .int (jI li), .ref t2, .ref t1, .ref t0, .int (jI ((acc1 (max (gsc f1 gp pp) ((f2 (pp - 1)) + (-lo))) d pp w0).1)), .int (jI ((acc1 (max (gsc f1 gp pp) ((f2 (pp - 1)) + (-lo))) d pp w0).2.1)), .int (jI ((acc1 (max (gsc f1 gp pp) ((f2 (pp - 1)) + (-lo))) d pp w0).2.2.1)), .int (jI ((acc1 (max (gsc f1 gp pp) ((f2 (pp - 1)) + (-lo))) d pp w0).2.2.2.1)), .int (jI ((acc1 (max (gsc f1 gp pp) ((f2 (pp - 1)) + (-lo))) d pp w0).2.2.2.2))])), (t0, .inl (cA, 49, .inl (jA (jU g0 pp (max (gsc f1 gp pp) ((f2 (pp - 1)) + (-lo)))))))] := hD
                  refine W.eq (g2 := F0 m 154 ls []) rfl ?_
                  refine lv_iinc (k := 3) (v := jI (pp + 1)) (lv' := [(8, .int (jI (pp + 1))), (10, .int (jI (max (gsc f1 gp pp) ((f2 (pp - 1)) + (-lo))))), (11, .int (jI 0)), (9, .int (jI (d - pp))), (7, .int (jI (min d (n0 - i)))), (6, .int (jI (u.1 - li))), (0, .ref re), (1, .ref r0), (2, .int (jI i)), (3, .ref r1), (4, .int (jI j)), (5, .int (jI d))]) hx hb dX2_walkSlope_154 hl rfl (jI_add _ _) (by decide) rfl (fun ls hl => ?_)
                  refine lv_goto (tgt := 40) hx hb dX2_walkSlope_157 rfl ?_
                  refine ih40 (pp + 1) (acc1 (max (gsc f1 gp pp) ((f2 (pp - 1)) + (-lo))) d pp w0) (jU g0 pp (max (gsc f1 gp pp) ((f2 (pp - 1)) + (-lo)))) ls H locs (by omega) ?_ ?_ ?_ ?_ (lv_sub hl [0, 4, 5, 6, 7, 8, 9, 10, 11] rfl) (hP.sub (ws' := [(re, .inr (2, [.int (jI ga), .int (jI lo), .int (jI gp), .int (jI li), .ref t2, .ref t1, .ref t0, .int (jI ((acc1 (max (gsc f1 gp pp) ((f2 (pp - 1)) + (-lo))) d pp w0).1)), .int (jI ((acc1 (max (gsc f1 gp pp) ((f2 (pp - 1)) + (-lo))) d pp w0).2.1)), .int (jI ((acc1 (max (gsc f1 gp pp) ((f2 (pp - 1)) + (-lo))) d pp w0).2.2.1)), .int (jI ((acc1 (max (gsc f1 gp pp) ((f2 (pp - 1)) + (-lo))) d pp w0).2.2.2.1)), .int (jI ((acc1 (max (gsc f1 gp pp) ((f2 (pp - 1)) + (-lo))) d pp w0).2.2.2.2))])), (t2, .inl (cA, 49, .inl (jA f2))), (t1, .inl (cA, 49, .inl (jA f1))), (t0, .inl (cA, 49, .inl (jA (jU g0 pp (max (gsc f1 gp pp) ((f2 (pp - 1)) + (-lo))))))), (r0, .inr (1, [.ref a0, .int (jI n0)])), (a0, .inl (cA, 48, .inl (jA L0))), (r1, .inr (1, [.ref a1, .int (jI n1)])), (a1, .inl (cA, 48, .inl (jA L1)))]) [6, 0, 1, 7, 2, 3, 4, 5] rfl) (hD.sub (ws' := [(re, .inr (2, [.int (jI ga), .int (jI lo), .int (jI gp), .int (jI li), .ref t2, .ref t1, .ref t0, .int (jI ((acc1 (max (gsc f1 gp pp) ((f2 (pp - 1)) + (-lo))) d pp w0).1)), .int (jI ((acc1 (max (gsc f1 gp pp) ((f2 (pp - 1)) + (-lo))) d pp w0).2.1)), .int (jI ((acc1 (max (gsc f1 gp pp) ((f2 (pp - 1)) + (-lo))) d pp w0).2.2.1)), .int (jI ((acc1 (max (gsc f1 gp pp) ((f2 (pp - 1)) + (-lo))) d pp w0).2.2.2.1)), .int (jI ((acc1 (max (gsc f1 gp pp) ((f2 (pp - 1)) + (-lo))) d pp w0).2.2.2.2))])), (t2, .inl (cA, 49, .inl (jA f2))), (t1, .inl (cA, 49, .inl (jA f1))), (t0, .inl (cA, 49, .inl (jA (jU g0 pp (max (gsc f1 gp pp) ((f2 (pp - 1)) + (-lo))))))), (r0, .inr (1, [.ref a0, .int (jI n0)])), (a0, .inl (cA, 48, .inl (jA L0))), (r1, .inr (1, [.ref a1, .int (jI n1)])), (a1, .inl (cA, 48, .inl (jA L1)))]) [6, 0, 1, 7, 2, 3, 4, 5] (by decide) rfl) hS
                  · omega
                  · first
                      | (rw [rA_s (by omega), acc1_dead (nx_lo (by omega))]; exact hw)
                      | (rw [rA_s (by omega), ← hw, nx_in (by omega) (by omega), ← hraw])
                  · intro t t0 t1
                    by_cases e : t = pp
                    · first
                        | (rw [e, jU_s, if_pos (by omega), nx_in (by omega) (by omega)]; exact hraw)
                        | (rw [e, if_pos (by omega), nx_lo (by omega), hg0 pp (by omega) (by omega), if_neg (by omega)])
                    · first
                        | rw [jU_n e, hg0 t t0 t1]
                        | rw [hg0 t t0 t1]
                      by_cases e2 : t < pp
                      · rw [if_pos e2, if_pos (by omega)]
                      · rw [if_neg e2, if_neg (by omega)]
                  · first
                      | exact hwb
                      | exact acc1_b (by omega) (by omega) hwb
              · exfalso
                omega
            · have hsame : L0 (i + pp - 1) = L1 (j + (d - pp) - 1) := by
                rw [atv_in (by omega), atv_in (by omega)] at c93
                exact c93
              refine lv_iconst (v := jI 1) hx hb dX2_walkSlope_96 rfl ?_
              refine lv_goto (tgt := 101) hx hb dX2_walkSlope_97 rfl ?_
              refine lv_istore (lv' := [(11, .int (jI 1)), (10, .int (jI (gsc f1 gp pp))), (9, .int (jI (d - pp))), (8, .int (jI pp)), (7, .int (jI (min d (n0 - i)))), (6, .int (jI (u.1 - li))), (0, .ref re), (1, .ref r0), (2, .int (jI i)), (3, .ref r1), (4, .int (jI j)), (5, .int (jI d))]) hx hb dX2_walkSlope_101 hl (by decide) rfl (fun ls hl => ?_)
              refine lv_iload hx hb dX2_walkSlope_103 (lv_at hl 1 rfl) ?_
              refine lv_aload_n hx hb dX2_walkSlope_105 rfl (lv_at hl 6 rfl) ?_
              refine jv_get (v := .ref t2) F hP 0 rfl flX2_24 rfl dX2_walkSlope_106 ?_
              refine lv_iload hx hb dX2_walkSlope_109 (lv_at hl 3 rfl) ?_
              refine lv_iconst (v := jI 1) hx hb dX2_walkSlope_111 rfl ?_
              refine jv_isub hx hb dX2_walkSlope_112 ?_
              refine jv_iald (fa := f2) F hP 1 rfl (by omega) (by decide) dX2_walkSlope_113 ?_
              refine lv_iload hx hb dX2_walkSlope_114 (lv_at hl 0 rfl) ?_
              refine jv_if_eq (tgt := 126) hx hb dX2_walkSlope_116 rfl (by omega) (fun c116 => ?_) (fun c116 => ?_)
              · exfalso
                omega
              · refine lv_aload_n hx hb dX2_walkSlope_119 rfl (lv_at hl 6 rfl) ?_
                refine jv_get (v := .int (jI ga)) F hP 0 rfl flX2_9 rfl dX2_walkSlope_120 ?_
                refine lv_goto (tgt := 131) hx hb dX2_walkSlope_123 rfl ?_
                refine jv_iadd hx hb dX2_walkSlope_131 ?_
                refine jv_mmax F wmX2_78 hl (by decide) (Nat.le_of_ble_eq_true rfl) ⟨by decide, by decide⟩ (by (have := h1 pp (by omega) (by omega); have := hs1 pp; have := h1 (pp - 1) (by omega) (by omega); have := hs1 (pp - 1); rw [gsc_1 (by omega)]; omega)) (by (have := h2 (by omega) (pp - 1) (by omega) (by omega); have := hs2 (pp - 1); omega)) dX2_walkSlope_132 ?_
                refine lv_istore (lv' := [(10, .int (jI (max (gsc f1 gp pp) ((f2 (pp - 1)) + ga)))), (11, .int (jI 1)), (9, .int (jI (d - pp))), (8, .int (jI pp)), (7, .int (jI (min d (n0 - i)))), (6, .int (jI (u.1 - li))), (0, .ref re), (1, .ref r0), (2, .int (jI i)), (3, .ref r1), (4, .int (jI j)), (5, .int (jI d))]) hx hb dX2_walkSlope_135 hl (by decide) rfl (fun ls hl => ?_)
                have hraw : max (gsc f1 gp pp) ((f2 (pp - 1)) + ga) = rawC (smv L0 L1 i j ga lo) gp one two pp (d - pp) := by
                  have o0 := h1 pp (by omega) (by omega)
                  have o1 := h1 (pp - 1) (by omega) (by omega)
                  have o2 := h2 (by omega) (pp - 1) (by omega) (by omega)
                  rw [gsc_1 (by omega), rawC, if_pos (by omega), if_pos (by omega), o0, o1, o2]
                  congr 1
                  congr 1
                  unfold smv
                  first | rw [if_pos hsame] | rw [if_neg hsame]
                have hrb := raw_b (sm := smv L0 L1 i j ga lo) (smv_b hga hlo) hgp (hs1 pp) (hs1 (pp - 1)) (hs2 (pp - 1)) (d := d) (q := d - pp)
                rw [← hraw] at hrb
                refine lv_iload hx hb dX2_walkSlope_137 (lv_at hl 0 rfl) ?_
                refine lv_iload hx hb dX2_walkSlope_139 (lv_at hl 5 rfl) ?_
                refine jv_icmp_lt (tgt := 154) hx hb dX2_walkSlope_141 rfl (by omega) (by omega) (fun c141 => ?_) (fun c141 => ?_)
                · refine lv_iinc (k := 3) (v := jI (pp + 1)) (lv' := [(8, .int (jI (pp + 1))), (10, .int (jI (max (gsc f1 gp pp) ((f2 (pp - 1)) + ga)))), (11, .int (jI 1)), (9, .int (jI (d - pp))), (7, .int (jI (min d (n0 - i)))), (6, .int (jI (u.1 - li))), (0, .ref re), (1, .ref r0), (2, .int (jI i)), (3, .ref r1), (4, .int (jI j)), (5, .int (jI d))]) hx hb dX2_walkSlope_154 hl rfl (jI_add _ _) (by decide) rfl (fun ls hl => ?_)
                  refine lv_goto (tgt := 40) hx hb dX2_walkSlope_157 rfl ?_
                  refine ih40 (pp + 1) w0 g0 ls H locs (by omega) ?_ ?_ ?_ ?_ (lv_sub hl [0, 4, 5, 6, 7, 8, 9, 10, 11] rfl) hP hD hS
                  · omega
                  · first
                      | (rw [rA_s (by omega), acc1_dead (nx_lo (by omega))]; exact hw)
                      | (rw [rA_s (by omega), ← hw, nx_in (by omega) (by omega), ← hraw])
                  · intro t t0 t1
                    by_cases e : t = pp
                    · first
                        | (rw [e, jU_s, if_pos (by omega), nx_in (by omega) (by omega)]; exact hraw)
                        | (rw [e, if_pos (by omega), nx_lo (by omega), hg0 pp (by omega) (by omega), if_neg (by omega)])
                    · first
                        | rw [jU_n e, hg0 t t0 t1]
                        | rw [hg0 t t0 t1]
                      by_cases e2 : t < pp
                      · rw [if_pos e2, if_pos (by omega)]
                      · rw [if_neg e2, if_neg (by omega)]
                  · first
                      | exact hwb
                      | exact acc1_b (by omega) (by omega) hwb
                · refine lv_aload_n hx hb dX2_walkSlope_144 rfl (lv_at hl 6 rfl) ?_
                  refine lv_iload hx hb dX2_walkSlope_145 (lv_at hl 3 rfl) ?_
                  refine lv_iload hx hb dX2_walkSlope_147 (lv_at hl 2 rfl) ?_
                  refine lv_iload hx hb dX2_walkSlope_149 (lv_at hl 0 rfl) ?_
                  refine jw_V (wr := [(t2, .inl (cA, 49, .inl (jA f2))), (t1, .inl (cA, 49, .inl (jA f1))), (r0, .inr (1, [.ref a0, .int (jI n0)])), (a0, .inl (cA, 48, .inl (jA L0))), (r1, .inr (1, [.ref a1, .int (jI n1)])), (a1, .inl (cA, 48, .inl (jA L1)))]) F (kX2_keepAlive l D cA re t2 t1 t0 ga lo gp li w0 g0 pp d (max (gsc f1 gp pp) ((f2 (pp - 1)) + ga)) (by omega) (by omega) (by omega) (by omega)) cvX2_88 hP hD hS hA [0, 3] [1, 2, 4, 5, 6, 7] rfl rfl (by decide) (by decide) 0 rfl rfl hl ⟨rfl, rfl, by decide, by decide⟩ rfl rfl (Nat.le_of_ble_eq_true rfl) dX2_walkSlope_151 ⟨by decide, by decide⟩ (by decide) (fun v w1 H locs hw hP hD hS => ?_)
                  obtain ⟨rfl, rfl⟩ := hw
                  have hP : va_P D cls [(t2, .inl (cA, 49, .inl (jA f2))), (t1, .inl (cA, 49, .inl (jA f1))), (r0, .inr (1, [.ref a0, .int (jI n0)])), (a0, .inl (cA, 48, .inl (jA L0))), (r1, .inr (1, [.ref a1, .int (jI n1)])), (a1, .inl (cA, 48, .inl (jA L1))), (re, .inr (2, [.int (jI ga), .int (jI lo), .int (jI gp), .int (jI li), .ref t2, .ref t1, .ref t0, .int (jI ((acc1 (max (gsc f1 gp pp) ((f2 (pp - 1)) + ga)) d pp w0).1)), .int (jI ((acc1 (max (gsc f1 gp pp) ((f2 (pp - 1)) + ga)) d pp w0).2.1)), .int (jI ((acc1 (max (gsc f1 gp pp) ((f2 (pp - 1)) + ga)) d pp w0).2.2.1)), .int (jI ((acc1 (max (gsc f1 gp pp) ((f2 (pp - 1)) + ga)) d pp w0).2.2.2.1)), .int (jI ((acc1 (max (gsc f1 gp pp) ((f2 (pp - 1)) + ga)) d pp w0).2.2.2.2))])), (t0, .inl (cA, 49, .inl (jA (jU g0 pp (max (gsc f1 gp pp) ((f2 (pp - 1)) + ga))))))] H := hP
                  have hD : va_D A [(t2, .inl (cA, 49, .inl (jA f2))), (t1, .inl (cA, 49, .inl (jA f1))), (r0, .inr (1, [.ref a0, .int (jI n0)])), (a0, .inl (cA, 48, .inl (jA L0))), (r1, .inr (1, [.ref a1, .int (jI n1)])), (a1, .inl (cA, 48, .inl (jA L1))), (re, .inr (2, [.int (jI ga), .int (jI lo), .int (jI gp), .int (jI li), .ref t2, .ref t1, .ref t0, .int (jI ((acc1 (max (gsc f1 gp pp) ((f2 (pp - 1)) + ga)) d pp w0).1)), .int (jI ((acc1 (max (gsc f1 gp pp) ((f2 (pp - 1)) + ga)) d pp w0).2.1)), .int (jI ((acc1 (max (gsc f1 gp pp) ((f2 (pp - 1)) + ga)) d pp w0).2.2.1)), .int (jI ((acc1 (max (gsc f1 gp pp) ((f2 (pp - 1)) + ga)) d pp w0).2.2.2.1)), .int (jI ((acc1 (max (gsc f1 gp pp) ((f2 (pp - 1)) + ga)) d pp w0).2.2.2.2))])), (t0, .inl (cA, 49, .inl (jA (jU g0 pp (max (gsc f1 gp pp) ((f2 (pp - 1)) + ga))))))] := hD
                  refine W.eq (g2 := F0 m 154 ls []) rfl ?_
                  refine lv_iinc (k := 3) (v := jI (pp + 1)) (lv' := [(8, .int (jI (pp + 1))), (10, .int (jI (max (gsc f1 gp pp) ((f2 (pp - 1)) + ga)))), (11, .int (jI 1)), (9, .int (jI (d - pp))), (7, .int (jI (min d (n0 - i)))), (6, .int (jI (u.1 - li))), (0, .ref re), (1, .ref r0), (2, .int (jI i)), (3, .ref r1), (4, .int (jI j)), (5, .int (jI d))]) hx hb dX2_walkSlope_154 hl rfl (jI_add _ _) (by decide) rfl (fun ls hl => ?_)
                  refine lv_goto (tgt := 40) hx hb dX2_walkSlope_157 rfl ?_
                  refine ih40 (pp + 1) (acc1 (max (gsc f1 gp pp) ((f2 (pp - 1)) + ga)) d pp w0) (jU g0 pp (max (gsc f1 gp pp) ((f2 (pp - 1)) + ga))) ls H locs (by omega) ?_ ?_ ?_ ?_ (lv_sub hl [0, 4, 5, 6, 7, 8, 9, 10, 11] rfl) (hP.sub (ws' := [(re, .inr (2, [.int (jI ga), .int (jI lo), .int (jI gp), .int (jI li), .ref t2, .ref t1, .ref t0, .int (jI ((acc1 (max (gsc f1 gp pp) ((f2 (pp - 1)) + ga)) d pp w0).1)), .int (jI ((acc1 (max (gsc f1 gp pp) ((f2 (pp - 1)) + ga)) d pp w0).2.1)), .int (jI ((acc1 (max (gsc f1 gp pp) ((f2 (pp - 1)) + ga)) d pp w0).2.2.1)), .int (jI ((acc1 (max (gsc f1 gp pp) ((f2 (pp - 1)) + ga)) d pp w0).2.2.2.1)), .int (jI ((acc1 (max (gsc f1 gp pp) ((f2 (pp - 1)) + ga)) d pp w0).2.2.2.2))])), (t2, .inl (cA, 49, .inl (jA f2))), (t1, .inl (cA, 49, .inl (jA f1))), (t0, .inl (cA, 49, .inl (jA (jU g0 pp (max (gsc f1 gp pp) ((f2 (pp - 1)) + ga)))))), (r0, .inr (1, [.ref a0, .int (jI n0)])), (a0, .inl (cA, 48, .inl (jA L0))), (r1, .inr (1, [.ref a1, .int (jI n1)])), (a1, .inl (cA, 48, .inl (jA L1)))]) [6, 0, 1, 7, 2, 3, 4, 5] rfl) (hD.sub (ws' := [(re, .inr (2, [.int (jI ga), .int (jI lo), .int (jI gp), .int (jI li), .ref t2, .ref t1, .ref t0, .int (jI ((acc1 (max (gsc f1 gp pp) ((f2 (pp - 1)) + ga)) d pp w0).1)), .int (jI ((acc1 (max (gsc f1 gp pp) ((f2 (pp - 1)) + ga)) d pp w0).2.1)), .int (jI ((acc1 (max (gsc f1 gp pp) ((f2 (pp - 1)) + ga)) d pp w0).2.2.1)), .int (jI ((acc1 (max (gsc f1 gp pp) ((f2 (pp - 1)) + ga)) d pp w0).2.2.2.1)), .int (jI ((acc1 (max (gsc f1 gp pp) ((f2 (pp - 1)) + ga)) d pp w0).2.2.2.2))])), (t2, .inl (cA, 49, .inl (jA f2))), (t1, .inl (cA, 49, .inl (jA f1))), (t0, .inl (cA, 49, .inl (jA (jU g0 pp (max (gsc f1 gp pp) ((f2 (pp - 1)) + ga)))))), (r0, .inr (1, [.ref a0, .int (jI n0)])), (a0, .inl (cA, 48, .inl (jA L0))), (r1, .inr (1, [.ref a1, .int (jI n1)])), (a1, .inl (cA, 48, .inl (jA L1)))]) [6, 0, 1, 7, 2, 3, 4, 5] (by decide) rfl) hS
                  · omega
                  · first
                      | (rw [rA_s (by omega), acc1_dead (nx_lo (by omega))]; exact hw)
                      | (rw [rA_s (by omega), ← hw, nx_in (by omega) (by omega), ← hraw])
                  · intro t t0 t1
                    by_cases e : t = pp
                    · first
                        | (rw [e, jU_s, if_pos (by omega), nx_in (by omega) (by omega)]; exact hraw)
                        | (rw [e, if_pos (by omega), nx_lo (by omega), hg0 pp (by omega) (by omega), if_neg (by omega)])
                    · first
                        | rw [jU_n e, hg0 t t0 t1]
                        | rw [hg0 t t0 t1]
                      by_cases e2 : t < pp
                      · rw [if_pos e2, if_pos (by omega)]
                      · rw [if_neg e2, if_neg (by omega)]
                  · first
                      | exact hwb
                      | exact acc1_b (by omega) (by omega) hwb
  refine lp40 (Int.toNat (min d (n0 - i) + 1 - (max 0 (d - (n1 - j)))) + 1) (max 0 (d - (n1 - j))) u f0 ls s.heap [] (by omega) ?_ ?_ ?_ ?_ (lv_sub hl [0, 1, 2, 3, 4, 5, 6, 7, 8] rfl) hP hD hS
  · omega
  · exact (rA_skip2 (p := 0) (by omega) (by omega) (fun x x0 x1 => nx_out (by omega))).symm
  · intro t t0 t1
    by_cases e : t < max 0 (d - (n1 - j))
    · rw [if_pos e, h0 t t0 t1, nx_out (by omega)]
    · rw [if_neg e]; exact h0 t t0 t1
  · omega
