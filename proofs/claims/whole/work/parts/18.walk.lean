def Zi (sm : Int → Int → Int) (P Q gp li d : Int) : (Int → Int) × (Int → Int) × acc := Zf sm P Q gp li d.toNat
theorem Zi_s {sm : Int → Int → Int} {P Q gp li d : Int} (hd : 0 ≤ d) : Zi sm P Q gp li (d + 1) = ((Zi sm P Q gp li d).2.1, nx sm P Q gp li (d + 1) (Zi sm P Q gp li d).2.2.1 (Zi sm P Q gp li d).2.1 (Zi sm P Q gp li d).1, rA (nx sm P Q gp li (d + 1) (Zi sm P Q gp li d).2.2.1 (Zi sm P Q gp li d).2.1 (Zi sm P Q gp li d).1) (d + 1) (Zi sm P Q gp li d).2.2 (d + 2)) := by
  unfold Zi
  have e : (d + 1).toNat = d.toNat + 1 := by omega
  rw [e, Zf_s, Int.toNat_of_nonneg hd]
theorem Zi_I {sm : Int → Int → Int} {P Q gp li : Int} (hsm : ∀ p q, -9 ≤ sm p q ∧ sm p q ≤ 9) (hgp : 1 ≤ gp ∧ gp ≤ 9) (hli : 0 ≤ li ∧ li ≤ 99) (hP : 0 ≤ P) (hQ : 0 ≤ Q) {d : Int} (hd : 0 ≤ d) (hd2 : d ≤ 97) : ZI P Q d (Zi sm P Q gp li d) := by
  have h := Zf_I hsm hgp hli hP hQ d.toNat (by omega)
  rw [Int.toNat_of_nonneg hd] at h
  exact h
theorem zi_b {P Q d : Int} {z : (Int → Int) × (Int → Int) × acc} (h : ZI P Q d z) (hd : d ≤ 96) : (∀ x, z.2.1 x = -1000000 ∨ (-99 ≤ z.2.1 x ∧ z.2.1 x ≤ 900)) ∧ (∀ x, z.1 x = -1000000 ∨ (-99 ≤ z.1 x ∧ z.1 x ≤ 900)) ∧ (0 ≤ z.2.2.1 ∧ z.2.2.1 ≤ 900) := by
  obtain ⟨a, b, c, -⟩ := h
  refine ⟨fun x => ?_, fun x => ?_, by omega⟩
  · have := a x; omega
  · rcases b with b | b
    · have := b x; omega
    · exact Or.inl (b x)
theorem Zi_stop {sm : Int → Int → Int} {P Q gp li d N : Int} (hsm : ∀ p q, -9 ≤ sm p q ∧ sm p q ≤ 9) (hgp : 1 ≤ gp ∧ gp ≤ 9) (hli : 0 ≤ li ∧ li ≤ 99) (h : ZI P Q d (Zi sm P Q gp li d)) (hf : (Zi sm P Q gp li d).2.2.2.2.2.2 < d - 1) (hN : 0 ≤ d ∧ d ≤ N) : (Zi sm P Q gp li N).2.2 = (Zi sm P Q gp li d).2.2 := by
  obtain ⟨a, b, c, c2, c3, c4, c5⟩ := h
  have k := (Zf_stop (sm := sm) (P := P) (Q := Q) hli hgp hsm (d := d.toNat) c.1 (c5 hf) (c4 (by omega)) (N - d).toNat).1
  have e : d.toNat + (N - d).toNat = N.toNat := by omega
  rw [e] at k
  exact k
set_option maxHeartbeats 4000000 in
set_option maxRecDepth 100000 in
theorem kX2_walk (l : Launch) (D : va_G) (cA : ClassId) (re t2 t1 t0 : Nat) (ga lo gp li es ep eq al la : Int) (f2 f1 f0 : Int → Int) (r0 a0 r1 a1 : Nat) (n0 n1 i j : Int) (L0 L1 : Int → Int) (hn0 : 0 ≤ n0 ∧ n0 ≤ 48) (hn1 : 0 ≤ n1 ∧ n1 ≤ 48) (hL0 : ∀ x, 0 ≤ L0 x ∧ L0 x ≤ 3) (hL1 : ∀ x, 0 ≤ L1 x ∧ L1 x ≤ 3) (hi : 0 ≤ i ∧ i ≤ n0) (hj : 0 ≤ j ∧ j ≤ n1) (hga : 1 ≤ ga ∧ ga ≤ 9) (hlo : 0 ≤ lo ∧ lo ≤ 9) (hgp : 1 ≤ gp ∧ gp ≤ 9) (hli : 0 ≤ li ∧ li ≤ 99) : jM l YX2_walk (rmk 3 0 0 66) D cA [.ref re, .ref r0, .int (jI i), .ref r1, .int (jI j)] [(re, .inr (2, [.int (jI ga), .int (jI lo), .int (jI gp), .int (jI li), .ref t2, .ref t1, .ref t0, .int (jI es), .int (jI ep), .int (jI eq), .int (jI al), .int (jI la)])), (t2, .inl (cA, 49, .inl (jA f2))), (t1, .inl (cA, 49, .inl (jA f1))), (t0, .inl (cA, 49, .inl (jA f0))), (r0, .inr (1, [.ref a0, .int (jI n0)])), (a0, .inl (cA, 48, .inl (jA L0))), (r1, .inr (1, [.ref a1, .int (jI n1)])), (a1, .inl (cA, 48, .inl (jA L1)))] (fun v w => v = none ∧ ∃ (x y z : Nat) (k2 k1 k0 : Int → Int), w = [(re, .inr (2, [.int (jI ga), .int (jI lo), .int (jI gp), .int (jI li), .ref x, .ref y, .ref z, .int (jI ((Zi (smv L0 L1 i j ga lo) (n0 - i) (n1 - j) gp li (n0 - i + (n1 - j))).2.2.1)), .int (jI ((Zi (smv L0 L1 i j ga lo) (n0 - i) (n1 - j) gp li (n0 - i + (n1 - j))).2.2.2.1)), .int (jI ((Zi (smv L0 L1 i j ga lo) (n0 - i) (n1 - j) gp li (n0 - i + (n1 - j))).2.2.2.2.1)), .int (jI ((Zi (smv L0 L1 i j ga lo) (n0 - i) (n1 - j) gp li (n0 - i + (n1 - j))).2.2.2.2.2.1)), .int (jI ((Zi (smv L0 L1 i j ga lo) (n0 - i) (n1 - j) gp li (n0 - i + (n1 - j))).2.2.2.2.2.2))])), (x, .inl (cA, 49, .inl (jA k2))), (y, .inl (cA, 49, .inl (jA k1))), (z, .inl (cA, 49, .inl (jA k0))), (r0, .inr (1, [.ref a0, .int (jI n0)])), (a0, .inl (cA, 48, .inl (jA L0))), (r1, .inr (1, [.ref a1, .int (jI n1)])), (a1, .inl (cA, 48, .inl (jA L1)))]) 0 0 := by
  refine jM.intro (by decide +kernel) (Nat.le_of_ble_eq_true rfl) ?_
  intro p e s m args below meth c ls Q A F hQ hA hP hD hS hl
  have hx := F.1
  have hb := F.2.1
  have hl : lv_has ls 7 [(0, .ref re), (1, .ref r0), (2, .int (jI i)), (3, .ref r1), (4, .int (jI j))] := hl
  refine lv_aload_n hx hb dX2_walk_0 rfl (lv_at hl 0 rfl) ?_
  refine jw_V (wr := [(t2, .inl (cA, 49, .inl (jA f2))), (t1, .inl (cA, 49, .inl (jA f1))), (r0, .inr (1, [.ref a0, .int (jI n0)])), (a0, .inl (cA, 48, .inl (jA L0))), (r1, .inr (1, [.ref a1, .int (jI n1)])), (a1, .inl (cA, 48, .inl (jA L1)))]) F (kX2_begin l D cA re t2 t1 t0 ga lo gp li es ep eq al la f0) cvX2_49 hP hD hS hA [0, 3] [1, 2, 4, 5, 6, 7] rfl rfl (by decide) (by decide) 0 rfl rfl hl ⟨rfl, rfl, by decide, by decide⟩ rfl rfl (Nat.le_of_ble_eq_true rfl) dX2_walk_1 ⟨by decide, by decide⟩ (by decide) (fun v w1 H locs hw hP hD hS => ?_)
  obtain ⟨rfl, fb, hfb, rfl⟩ := hw
  have hP : va_P D cls [(t2, .inl (cA, 49, .inl (jA f2))), (t1, .inl (cA, 49, .inl (jA f1))), (r0, .inr (1, [.ref a0, .int (jI n0)])), (a0, .inl (cA, 48, .inl (jA L0))), (r1, .inr (1, [.ref a1, .int (jI n1)])), (a1, .inl (cA, 48, .inl (jA L1))), (re, .inr (2, [.int (jI ga), .int (jI lo), .int (jI gp), .int (jI li), .ref t2, .ref t1, .ref t0, .int (jI 0), .int (jI 0), .int (jI 0), .int (jI 1), .int (jI 0)])), (t0, .inl (cA, 49, .inl (jA fb)))] H := hP
  have hD : va_D A [(t2, .inl (cA, 49, .inl (jA f2))), (t1, .inl (cA, 49, .inl (jA f1))), (r0, .inr (1, [.ref a0, .int (jI n0)])), (a0, .inl (cA, 48, .inl (jA L0))), (r1, .inr (1, [.ref a1, .int (jI n1)])), (a1, .inl (cA, 48, .inl (jA L1))), (re, .inr (2, [.int (jI ga), .int (jI lo), .int (jI gp), .int (jI li), .ref t2, .ref t1, .ref t0, .int (jI 0), .int (jI 0), .int (jI 0), .int (jI 1), .int (jI 0)])), (t0, .inl (cA, 49, .inl (jA fb)))] := hD
  refine W.eq (g2 := F0 m 4 ls []) rfl ?_
  refine lv_aload_n hx hb dX2_walk_4 rfl (lv_at hl 1 rfl) ?_
  refine jr_V F (kX1_size l D cA r0 a0 n0 L0) cvX2_52 hP [2, 3] rfl 2 rfl rfl hl ⟨rfl, rfl, by decide, by decide⟩ rfl rfl (Nat.le_of_ble_eq_true rfl) dX2_walk_5 ⟨by decide, by decide⟩ (fun v hv => ?_)
  subst hv
  refine lv_iload_n hx hb dX2_walk_8 rfl (lv_at hl 2 rfl) ?_
  refine jv_isub hx hb dX2_walk_9 ?_
  refine lv_aload_n hx hb dX2_walk_10 rfl (lv_at hl 3 rfl) ?_
  refine jr_V F (kX1_size l D cA r1 a1 n1 L1) cvX2_52 hP [4, 5] rfl 4 rfl rfl hl ⟨rfl, rfl, by decide, by decide⟩ rfl rfl (Nat.le_of_ble_eq_true rfl) dX2_walk_11 ⟨by decide, by decide⟩ (fun v hv => ?_)
  subst hv
  refine jv_iadd hx hb dX2_walk_14 ?_
  refine lv_iload hx hb dX2_walk_15 (lv_at hl 4 rfl) ?_
  refine jv_isub hx hb dX2_walk_17 ?_
  refine lv_istore (lv' := [(5, .int (jI (((n0 - i) + n1) - j))), (0, .ref re), (1, .ref r0), (2, .int (jI i)), (3, .ref r1), (4, .int (jI j))]) hx hb dX2_walk_18 hl (by decide) rfl (fun ls hl => ?_)
  refine lv_iconst (v := jI 1) hx hb dX2_walk_20 rfl ?_
  refine lv_istore (lv' := [(6, .int (jI 1)), (5, .int (jI (((n0 - i) + n1) - j))), (0, .ref re), (1, .ref r0), (2, .int (jI i)), (3, .ref r1), (4, .int (jI j))]) hx hb dX2_walk_21 hl (by decide) rfl (fun ls hl => ?_)
  have lp23 : ∀ (fu : Nat) (d : Int) (u : acc) (x : Nat) (k2 : Int → Int) (y : Nat) (k1 : Int → Int) (z : Nat) (k0 : Int → Int) (ls : Array Slot) (H : Heap) (locs : List Loc), n0 - i + (n1 - j) + 1 - d < (fu : Int) → (1 ≤ d ∧ d ≤ n0 - i + (n1 - j) + 1) → (u = (Zi (smv L0 L1 i j ga lo) (n0 - i) (n1 - j) gp li (d - 1)).2.2) → (∀ t, 0 ≤ t → t < 49 → k0 t = (Zi (smv L0 L1 i j ga lo) (n0 - i) (n1 - j) gp li (d - 1)).2.1 t) → (2 ≤ d → ∀ t, 0 ≤ t → t < 49 → k1 t = (Zi (smv L0 L1 i j ga lo) (n0 - i) (n1 - j) gp li (d - 1)).1 t) → lv_has ls 7 [(6, .int (jI d)), (5, .int (jI (((n0 - i) + n1) - j))), (0, .ref re), (1, .ref r0), (2, .int (jI i)), (3, .ref r1), (4, .int (jI j))] → va_P D cls [(x, .inl (cA, 49, .inl (jA k2))), (y, .inl (cA, 49, .inl (jA k1))), (r0, .inr (1, [.ref a0, .int (jI n0)])), (a0, .inl (cA, 48, .inl (jA L0))), (r1, .inr (1, [.ref a1, .int (jI n1)])), (a1, .inl (cA, 48, .inl (jA L1))), (re, .inr (2, [.int (jI ga), .int (jI lo), .int (jI gp), .int (jI li), .ref x, .ref y, .ref z, .int (jI u.1), .int (jI u.2.1), .int (jI u.2.2.1), .int (jI u.2.2.2.1), .int (jI u.2.2.2.2)])), (z, .inl (cA, 49, .inl (jA k0)))] H → va_D A [(x, .inl (cA, 49, .inl (jA k2))), (y, .inl (cA, 49, .inl (jA k1))), (r0, .inr (1, [.ref a0, .int (jI n0)])), (a0, .inl (cA, 48, .inl (jA L0))), (r1, .inr (1, [.ref a1, .int (jI n1)])), (a1, .inl (cA, 48, .inl (jA L1))), (re, .inr (2, [.int (jI ga), .int (jI lo), .int (jI gp), .int (jI li), .ref x, .ref y, .ref z, .int (jI u.1), .int (jI u.2.1), .int (jI u.2.2.1), .int (jI u.2.2.2.1), .int (jI u.2.2.2.2)])), (z, .inl (cA, 49, .inl (jA k0)))] → va_S A s.heap H locs → W p l e (rmk 3 0 0 66) s m args below meth c H locs 0 0 Q (F0 m 23 ls []) := by
    intro fu
    induction fu with
    | zero => intro d u x k2 y k1 z k0 ls H locs hfu hd hu hz0 hy1 hl hP hD hS; exfalso; omega
    | succ fu ih23 =>
      intro d u x k2 y k1 z k0 ls H locs hfu hd hu hz0 hy1 hl hP hD hS
      have hzi := Zi_I (smv_b (L0 := L0) (L1 := L1) (i := i) (j := j) hga hlo) hgp hli (P := n0 - i) (Q := n1 - j) (by omega) (by omega) (d := d - 1) (by omega) (by omega)
      have hub : 0 ≤ u.2.2.2.2 ∧ u.2.2.2.2 ≤ 200 := by rw [hu]; exact ⟨hzi.2.2.2.1.1, by have := hzi.2.2.2.1.2; omega⟩
      refine lv_iload hx hb dX2_walk_23 (lv_at hl 0 rfl) ?_
      refine lv_iload hx hb dX2_walk_25 (lv_at hl 1 rfl) ?_
      refine jv_icmp_gt (tgt := 62) hx hb dX2_walk_27 rfl (by omega) (by omega) (fun c27 => ?_) (fun c27 => ?_)
      · have huN : u = (Zi (smv L0 L1 i j ga lo) (n0 - i) (n1 - j) gp li (n0 - i + (n1 - j))).2.2 := by
          rw [hu]
          first
            | (rw [show d - 1 = n0 - i + (n1 - j) by omega]; done)
            | exact (Zi_stop (smv_b hga hlo) hgp hli hzi (by rw [← hu]; omega) (by omega)).symm
        exact jM.rv F hQ rfl dX2_walk_62 hS (hP.sub (ws' := [(re, .inr (2, [.int (jI ga), .int (jI lo), .int (jI gp), .int (jI li), .ref x, .ref y, .ref z, .int (jI u.1), .int (jI u.2.1), .int (jI u.2.2.1), .int (jI u.2.2.2.1), .int (jI u.2.2.2.2)])), (x, .inl (cA, 49, .inl (jA k2))), (y, .inl (cA, 49, .inl (jA k1))), (z, .inl (cA, 49, .inl (jA k0))), (r0, .inr (1, [.ref a0, .int (jI n0)])), (a0, .inl (cA, 48, .inl (jA L0))), (r1, .inr (1, [.ref a1, .int (jI n1)])), (a1, .inl (cA, 48, .inl (jA L1)))]) [6, 0, 1, 7, 2, 3, 4, 5] rfl) (hD.sub (ws' := [(re, .inr (2, [.int (jI ga), .int (jI lo), .int (jI gp), .int (jI li), .ref x, .ref y, .ref z, .int (jI u.1), .int (jI u.2.1), .int (jI u.2.2.1), .int (jI u.2.2.2.1), .int (jI u.2.2.2.2)])), (x, .inl (cA, 49, .inl (jA k2))), (y, .inl (cA, 49, .inl (jA k1))), (z, .inl (cA, 49, .inl (jA k0))), (r0, .inr (1, [.ref a0, .int (jI n0)])), (a0, .inl (cA, 48, .inl (jA L0))), (r1, .inr (1, [.ref a1, .int (jI n1)])), (a1, .inl (cA, 48, .inl (jA L1)))]) [6, 0, 1, 7, 2, 3, 4, 5] (by decide) rfl) (by exact ⟨rfl, x, y, z, k2, k1, k0, by rw [← huN]⟩)
      · refine lv_iload hx hb dX2_walk_30 (lv_at hl 0 rfl) ?_
        refine lv_aload_n hx hb dX2_walk_32 rfl (lv_at hl 2 rfl) ?_
        refine jv_get (v := .int (jI u.2.2.2.2)) F hP 6 rfl flX2_46 rfl dX2_walk_33 ?_
        refine lv_iconst (v := jI 2) hx hb dX2_walk_36 rfl ?_
        refine jv_iadd hx hb dX2_walk_37 ?_
        refine jv_icmp_gt (tgt := 62) hx hb dX2_walk_38 rfl (by omega) (by omega) (fun c38 => ?_) (fun c38 => ?_)
        · have huN : u = (Zi (smv L0 L1 i j ga lo) (n0 - i) (n1 - j) gp li (n0 - i + (n1 - j))).2.2 := by
            rw [hu]
            first
              | (rw [show d - 1 = n0 - i + (n1 - j) by omega]; done)
              | exact (Zi_stop (smv_b hga hlo) hgp hli hzi (by rw [← hu]; omega) (by omega)).symm
          exact jM.rv F hQ rfl dX2_walk_62 hS (hP.sub (ws' := [(re, .inr (2, [.int (jI ga), .int (jI lo), .int (jI gp), .int (jI li), .ref x, .ref y, .ref z, .int (jI u.1), .int (jI u.2.1), .int (jI u.2.2.1), .int (jI u.2.2.2.1), .int (jI u.2.2.2.2)])), (x, .inl (cA, 49, .inl (jA k2))), (y, .inl (cA, 49, .inl (jA k1))), (z, .inl (cA, 49, .inl (jA k0))), (r0, .inr (1, [.ref a0, .int (jI n0)])), (a0, .inl (cA, 48, .inl (jA L0))), (r1, .inr (1, [.ref a1, .int (jI n1)])), (a1, .inl (cA, 48, .inl (jA L1)))]) [6, 0, 1, 7, 2, 3, 4, 5] rfl) (hD.sub (ws' := [(re, .inr (2, [.int (jI ga), .int (jI lo), .int (jI gp), .int (jI li), .ref x, .ref y, .ref z, .int (jI u.1), .int (jI u.2.1), .int (jI u.2.2.1), .int (jI u.2.2.2.1), .int (jI u.2.2.2.2)])), (x, .inl (cA, 49, .inl (jA k2))), (y, .inl (cA, 49, .inl (jA k1))), (z, .inl (cA, 49, .inl (jA k0))), (r0, .inr (1, [.ref a0, .int (jI n0)])), (a0, .inl (cA, 48, .inl (jA L0))), (r1, .inr (1, [.ref a1, .int (jI n1)])), (a1, .inl (cA, 48, .inl (jA L1)))]) [6, 0, 1, 7, 2, 3, 4, 5] (by decide) rfl) (by exact ⟨rfl, x, y, z, k2, k1, k0, by rw [← huN]⟩)
        · refine lv_aload_n hx hb dX2_walk_41 rfl (lv_at hl 2 rfl) ?_
          refine jw_V (wr := [(y, .inl (cA, 49, .inl (jA k1))), (r0, .inr (1, [.ref a0, .int (jI n0)])), (a0, .inl (cA, 48, .inl (jA L0))), (r1, .inr (1, [.ref a1, .int (jI n1)])), (a1, .inl (cA, 48, .inl (jA L1))), (z, .inl (cA, 49, .inl (jA k0)))]) F (kX2_turnSlopes l D cA re x y z ga lo gp li u.1 u.2.1 u.2.2.1 u.2.2.2.1 u.2.2.2.2 k2) cvX2_58 hP hD hS hA [6, 0] [1, 2, 3, 4, 5, 7] rfl rfl (by decide) (by decide) 6 rfl rfl hl ⟨rfl, rfl, by decide, by decide⟩ rfl rfl (Nat.le_of_ble_eq_true rfl) dX2_walk_42 ⟨by decide, by decide⟩ (by decide) (fun v w1 H locs hw hP hD hS => ?_)
          obtain ⟨rfl, ft, hft, rfl⟩ := hw
          have hP : va_P D cls [(y, .inl (cA, 49, .inl (jA k1))), (r0, .inr (1, [.ref a0, .int (jI n0)])), (a0, .inl (cA, 48, .inl (jA L0))), (r1, .inr (1, [.ref a1, .int (jI n1)])), (a1, .inl (cA, 48, .inl (jA L1))), (z, .inl (cA, 49, .inl (jA k0))), (re, .inr (2, [.int (jI ga), .int (jI lo), .int (jI gp), .int (jI li), .ref y, .ref z, .ref x, .int (jI u.1), .int (jI u.2.1), .int (jI u.2.2.1), .int (jI u.2.2.2.1), .int (jI u.2.2.2.2)])), (x, .inl (cA, 49, .inl (jA ft)))] H := hP
          have hD : va_D A [(y, .inl (cA, 49, .inl (jA k1))), (r0, .inr (1, [.ref a0, .int (jI n0)])), (a0, .inl (cA, 48, .inl (jA L0))), (r1, .inr (1, [.ref a1, .int (jI n1)])), (a1, .inl (cA, 48, .inl (jA L1))), (z, .inl (cA, 49, .inl (jA k0))), (re, .inr (2, [.int (jI ga), .int (jI lo), .int (jI gp), .int (jI li), .ref y, .ref z, .ref x, .int (jI u.1), .int (jI u.2.1), .int (jI u.2.2.1), .int (jI u.2.2.2.1), .int (jI u.2.2.2.2)])), (x, .inl (cA, 49, .inl (jA ft)))] := hD
          refine W.eq (g2 := F0 m 45 ls []) rfl ?_
          refine lv_aload_n hx hb dX2_walk_45 rfl (lv_at hl 2 rfl) ?_
          refine lv_aload_n hx hb dX2_walk_46 rfl (lv_at hl 3 rfl) ?_
          refine lv_iload_n hx hb dX2_walk_47 rfl (lv_at hl 4 rfl) ?_
          refine lv_aload_n hx hb dX2_walk_48 rfl (lv_at hl 5 rfl) ?_
          refine lv_iload hx hb dX2_walk_49 (lv_at hl 6 rfl) ?_
          refine lv_iload hx hb dX2_walk_51 (lv_at hl 0 rfl) ?_
          refine jw_V (wr := []) F (kX2_walkSlope l D cA re y z x ga lo gp li u k1 k0 ft ((Zi (smv L0 L1 i j ga lo) (n0 - i) (n1 - j) gp li (d - 1)).2.1) ((Zi (smv L0 L1 i j ga lo) (n0 - i) (n1 - j) gp li (d - 1)).1) r0 a0 r1 a1 n0 n1 i j d L0 L1 hn0 hn1 hL0 hL1 hi hj hga hlo hgp hli (by omega) hft hz0 hy1 (zi_b hzi (by omega)).1 (zi_b hzi (by omega)).2.1 (by rw [hu]; exact (zi_b hzi (by omega)).2.2)) cvX2_61 hP hD hS hA [6, 0, 5, 7, 1, 2, 3, 4] [] rfl rfl (by decide) (by decide) 6 rfl rfl hl ⟨rfl, rfl, by decide, by decide⟩ rfl rfl (Nat.le_of_ble_eq_true rfl) dX2_walk_53 ⟨by decide, by decide⟩ (by decide) (fun v w1 H locs hw hP hD hS => ?_)
          obtain ⟨rfl, f9, hf9, rfl⟩ := hw
          have hP : va_P D cls [(re, .inr (2, [.int (jI ga), .int (jI lo), .int (jI gp), .int (jI li), .ref y, .ref z, .ref x, .int (jI ((rA (nx (smv L0 L1 i j ga lo) (n0 - i) (n1 - j) gp li d u.1 (Zi (smv L0 L1 i j ga lo) (n0 - i) (n1 - j) gp li (d - 1)).2.1 (Zi (smv L0 L1 i j ga lo) (n0 - i) (n1 - j) gp li (d - 1)).1) d u (d + 1)).1)), .int (jI ((rA (nx (smv L0 L1 i j ga lo) (n0 - i) (n1 - j) gp li d u.1 (Zi (smv L0 L1 i j ga lo) (n0 - i) (n1 - j) gp li (d - 1)).2.1 (Zi (smv L0 L1 i j ga lo) (n0 - i) (n1 - j) gp li (d - 1)).1) d u (d + 1)).2.1)), .int (jI ((rA (nx (smv L0 L1 i j ga lo) (n0 - i) (n1 - j) gp li d u.1 (Zi (smv L0 L1 i j ga lo) (n0 - i) (n1 - j) gp li (d - 1)).2.1 (Zi (smv L0 L1 i j ga lo) (n0 - i) (n1 - j) gp li (d - 1)).1) d u (d + 1)).2.2.1)), .int (jI ((rA (nx (smv L0 L1 i j ga lo) (n0 - i) (n1 - j) gp li d u.1 (Zi (smv L0 L1 i j ga lo) (n0 - i) (n1 - j) gp li (d - 1)).2.1 (Zi (smv L0 L1 i j ga lo) (n0 - i) (n1 - j) gp li (d - 1)).1) d u (d + 1)).2.2.2.1)), .int (jI ((rA (nx (smv L0 L1 i j ga lo) (n0 - i) (n1 - j) gp li d u.1 (Zi (smv L0 L1 i j ga lo) (n0 - i) (n1 - j) gp li (d - 1)).2.1 (Zi (smv L0 L1 i j ga lo) (n0 - i) (n1 - j) gp li (d - 1)).1) d u (d + 1)).2.2.2.2))])), (y, .inl (cA, 49, .inl (jA k1))), (z, .inl (cA, 49, .inl (jA k0))), (x, .inl (cA, 49, .inl (jA f9))), (r0, .inr (1, [.ref a0, .int (jI n0)])), (a0, .inl (cA, 48, .inl (jA L0))), (r1, .inr (1, [.ref a1, .int (jI n1)])), (a1, .inl (cA, 48, .inl (jA L1)))] H := hP
          have hD : va_D A [(re, .inr (2, [.int (jI ga), .int (jI lo), .int (jI gp), .int (jI li), .ref y, .ref z, .ref x, .int (jI ((rA (nx (smv L0 L1 i j ga lo) (n0 - i) (n1 - j) gp li d u.1 (Zi (smv L0 L1 i j ga lo) (n0 - i) (n1 - j) gp li (d - 1)).2.1 (Zi (smv L0 L1 i j ga lo) (n0 - i) (n1 - j) gp li (d - 1)).1) d u (d + 1)).1)), .int (jI ((rA (nx (smv L0 L1 i j ga lo) (n0 - i) (n1 - j) gp li d u.1 (Zi (smv L0 L1 i j ga lo) (n0 - i) (n1 - j) gp li (d - 1)).2.1 (Zi (smv L0 L1 i j ga lo) (n0 - i) (n1 - j) gp li (d - 1)).1) d u (d + 1)).2.1)), .int (jI ((rA (nx (smv L0 L1 i j ga lo) (n0 - i) (n1 - j) gp li d u.1 (Zi (smv L0 L1 i j ga lo) (n0 - i) (n1 - j) gp li (d - 1)).2.1 (Zi (smv L0 L1 i j ga lo) (n0 - i) (n1 - j) gp li (d - 1)).1) d u (d + 1)).2.2.1)), .int (jI ((rA (nx (smv L0 L1 i j ga lo) (n0 - i) (n1 - j) gp li d u.1 (Zi (smv L0 L1 i j ga lo) (n0 - i) (n1 - j) gp li (d - 1)).2.1 (Zi (smv L0 L1 i j ga lo) (n0 - i) (n1 - j) gp li (d - 1)).1) d u (d + 1)).2.2.2.1)), .int (jI ((rA (nx (smv L0 L1 i j ga lo) (n0 - i) (n1 - j) gp li d u.1 (Zi (smv L0 L1 i j ga lo) (n0 - i) (n1 - j) gp li (d - 1)).2.1 (Zi (smv L0 L1 i j ga lo) (n0 - i) (n1 - j) gp li (d - 1)).1) d u (d + 1)).2.2.2.2))])), (y, .inl (cA, 49, .inl (jA k1))), (z, .inl (cA, 49, .inl (jA k0))), (x, .inl (cA, 49, .inl (jA f9))), (r0, .inr (1, [.ref a0, .int (jI n0)])), (a0, .inl (cA, 48, .inl (jA L0))), (r1, .inr (1, [.ref a1, .int (jI n1)])), (a1, .inl (cA, 48, .inl (jA L1)))] := hD
          refine W.eq (g2 := F0 m 56 ls []) rfl ?_
          refine lv_iinc (k := 0) (v := jI (d + 1)) (lv' := [(6, .int (jI (d + 1))), (5, .int (jI (((n0 - i) + n1) - j))), (0, .ref re), (1, .ref r0), (2, .int (jI i)), (3, .ref r1), (4, .int (jI j))]) hx hb dX2_walk_56 hl rfl (jI_add _ _) (by decide) rfl (fun ls hl => ?_)
          refine lv_goto (tgt := 23) hx hb dX2_walk_59 rfl ?_
          refine ih23 (d + 1) (rA (nx (smv L0 L1 i j ga lo) (n0 - i) (n1 - j) gp li d u.1 (Zi (smv L0 L1 i j ga lo) (n0 - i) (n1 - j) gp li (d - 1)).2.1 (Zi (smv L0 L1 i j ga lo) (n0 - i) (n1 - j) gp li (d - 1)).1) d u (d + 1)) y k1 z k0 x f9 ls H locs (by omega) ?_ ?_ ?_ ?_ (lv_sub hl [0, 1, 2, 3, 4, 5, 6] rfl) (hP.sub (ws' := [(y, .inl (cA, 49, .inl (jA k1))), (z, .inl (cA, 49, .inl (jA k0))), (r0, .inr (1, [.ref a0, .int (jI n0)])), (a0, .inl (cA, 48, .inl (jA L0))), (r1, .inr (1, [.ref a1, .int (jI n1)])), (a1, .inl (cA, 48, .inl (jA L1))), (re, .inr (2, [.int (jI ga), .int (jI lo), .int (jI gp), .int (jI li), .ref y, .ref z, .ref x, .int (jI ((rA (nx (smv L0 L1 i j ga lo) (n0 - i) (n1 - j) gp li d u.1 (Zi (smv L0 L1 i j ga lo) (n0 - i) (n1 - j) gp li (d - 1)).2.1 (Zi (smv L0 L1 i j ga lo) (n0 - i) (n1 - j) gp li (d - 1)).1) d u (d + 1)).1)), .int (jI ((rA (nx (smv L0 L1 i j ga lo) (n0 - i) (n1 - j) gp li d u.1 (Zi (smv L0 L1 i j ga lo) (n0 - i) (n1 - j) gp li (d - 1)).2.1 (Zi (smv L0 L1 i j ga lo) (n0 - i) (n1 - j) gp li (d - 1)).1) d u (d + 1)).2.1)), .int (jI ((rA (nx (smv L0 L1 i j ga lo) (n0 - i) (n1 - j) gp li d u.1 (Zi (smv L0 L1 i j ga lo) (n0 - i) (n1 - j) gp li (d - 1)).2.1 (Zi (smv L0 L1 i j ga lo) (n0 - i) (n1 - j) gp li (d - 1)).1) d u (d + 1)).2.2.1)), .int (jI ((rA (nx (smv L0 L1 i j ga lo) (n0 - i) (n1 - j) gp li d u.1 (Zi (smv L0 L1 i j ga lo) (n0 - i) (n1 - j) gp li (d - 1)).2.1 (Zi (smv L0 L1 i j ga lo) (n0 - i) (n1 - j) gp li (d - 1)).1) d u (d + 1)).2.2.2.1)), .int (jI ((rA (nx (smv L0 L1 i j ga lo) (n0 - i) (n1 - j) gp li d u.1 (Zi (smv L0 L1 i j ga lo) (n0 - i) (n1 - j) gp li (d - 1)).2.1 (Zi (smv L0 L1 i j ga lo) (n0 - i) (n1 - j) gp li (d - 1)).1) d u (d + 1)).2.2.2.2))])), (x, .inl (cA, 49, .inl (jA f9)))]) [1, 2, 4, 5, 6, 7, 0, 3] rfl) (hD.sub (ws' := [(y, .inl (cA, 49, .inl (jA k1))), (z, .inl (cA, 49, .inl (jA k0))), (r0, .inr (1, [.ref a0, .int (jI n0)])), (a0, .inl (cA, 48, .inl (jA L0))), (r1, .inr (1, [.ref a1, .int (jI n1)])), (a1, .inl (cA, 48, .inl (jA L1))), (re, .inr (2, [.int (jI ga), .int (jI lo), .int (jI gp), .int (jI li), .ref y, .ref z, .ref x, .int (jI ((rA (nx (smv L0 L1 i j ga lo) (n0 - i) (n1 - j) gp li d u.1 (Zi (smv L0 L1 i j ga lo) (n0 - i) (n1 - j) gp li (d - 1)).2.1 (Zi (smv L0 L1 i j ga lo) (n0 - i) (n1 - j) gp li (d - 1)).1) d u (d + 1)).1)), .int (jI ((rA (nx (smv L0 L1 i j ga lo) (n0 - i) (n1 - j) gp li d u.1 (Zi (smv L0 L1 i j ga lo) (n0 - i) (n1 - j) gp li (d - 1)).2.1 (Zi (smv L0 L1 i j ga lo) (n0 - i) (n1 - j) gp li (d - 1)).1) d u (d + 1)).2.1)), .int (jI ((rA (nx (smv L0 L1 i j ga lo) (n0 - i) (n1 - j) gp li d u.1 (Zi (smv L0 L1 i j ga lo) (n0 - i) (n1 - j) gp li (d - 1)).2.1 (Zi (smv L0 L1 i j ga lo) (n0 - i) (n1 - j) gp li (d - 1)).1) d u (d + 1)).2.2.1)), .int (jI ((rA (nx (smv L0 L1 i j ga lo) (n0 - i) (n1 - j) gp li d u.1 (Zi (smv L0 L1 i j ga lo) (n0 - i) (n1 - j) gp li (d - 1)).2.1 (Zi (smv L0 L1 i j ga lo) (n0 - i) (n1 - j) gp li (d - 1)).1) d u (d + 1)).2.2.2.1)), .int (jI ((rA (nx (smv L0 L1 i j ga lo) (n0 - i) (n1 - j) gp li d u.1 (Zi (smv L0 L1 i j ga lo) (n0 - i) (n1 - j) gp li (d - 1)).2.1 (Zi (smv L0 L1 i j ga lo) (n0 - i) (n1 - j) gp li (d - 1)).1) d u (d + 1)).2.2.2.2))])), (x, .inl (cA, 49, .inl (jA f9)))]) [1, 2, 4, 5, 6, 7, 0, 3] (by decide) rfl) hS
          · omega
          · have e5 : (Zi (smv L0 L1 i j ga lo) (n0 - i) (n1 - j) gp li (d + 1 - 1)) = (Zi (smv L0 L1 i j ga lo) (n0 - i) (n1 - j) gp li (d - 1 + 1)) := by rw [show d + 1 - 1 = d - 1 + 1 by omega]
            rw [e5, Zi_s (by omega)]
            show _ = rA _ _ _ _
            rw [hu, show d - 1 + 1 = d by omega, show d - 1 + 2 = d + 1 by omega]
          · have e5 : (Zi (smv L0 L1 i j ga lo) (n0 - i) (n1 - j) gp li (d + 1 - 1)) = (Zi (smv L0 L1 i j ga lo) (n0 - i) (n1 - j) gp li (d - 1 + 1)) := by rw [show d + 1 - 1 = d - 1 + 1 by omega]
            rw [e5, Zi_s (by omega)]
            intro t t0 t1
            rw [hf9 t t0 t1, hu]
            show _ = nx _ _ _ _ _ _ _ _ _ _
            rw [show d - 1 + 1 = d by omega]
          · have e5 : (Zi (smv L0 L1 i j ga lo) (n0 - i) (n1 - j) gp li (d + 1 - 1)) = (Zi (smv L0 L1 i j ga lo) (n0 - i) (n1 - j) gp li (d - 1 + 1)) := by rw [show d + 1 - 1 = d - 1 + 1 by omega]
            rw [e5, Zi_s (by omega)]
            intro _
            exact hz0
  refine lp23 (Int.toNat (n0 - i + (n1 - j) + 1 - 1) + 1) 1 (0, 0, 0, 1, 0) t2 f2 t1 f1 t0 fb ls H locs (by omega) ?_ ?_ ?_ ?_ (lv_sub hl [0, 1, 2, 3, 4, 5, 6] rfl) hP hD hS
  · omega
  · rfl
  · exact hfb
  · intro h5; omega
