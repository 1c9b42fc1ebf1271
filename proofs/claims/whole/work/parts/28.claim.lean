theorem lw_cxt {args : Array Value} {s : State} (hts : ∀ w ∈ lw_tbl, w.before args s = true) : ∃ (D : va_G) (cA : ClassId), cxt D cA s := by
  have g : ∀ w ∈ gw, w.before args s = true := fun w h => hts w (List.mem_filter.mp h).1
  obtain ⟨c0, i0, k0⟩ := u_known g iwX0 (g _ wiX0)
  obtain ⟨c1, i1, k1⟩ := u_known g iwX1 (g _ wiX1)
  obtain ⟨c2, i2, k2⟩ := u_known g iwX2 (g _ wiX2)
  obtain ⟨c3, i3, k3⟩ := u_known g iwX3 (g _ wiX3)
  obtain ⟨c4, i4, k4⟩ := u_known g iwX4 (g _ wiX4)
  obtain ⟨c5, i5, k5⟩ := u_known g iwX5 (g _ wiX5)
  obtain ⟨cA, kA, comp, h1, h2, h3⟩ := Cond.arrayClass_spec (g _ wa_int)
  refine ⟨(fun k => match k with | 0 => c0 | 1 => c1 | 2 => c2 | 3 => c3 | 4 => c4 | _ => c5, fun k => match k with | 0 => i0 | 1 => i1 | 2 => i2 | 3 => i3 | 4 => i4 | _ => i5), cA, ⟨fun c q hq => ?_, fun k q hk => ?_⟩, fun a i x h hm => ?_⟩
  · match c, hq with
    | 0, hq => cases hq; exact k0
    | 1, hq => cases hq; exact k1
    | 2, hq => cases hq; exact k2
    | 3, hq => cases hq; exact k3
    | 4, hq => cases hq; exact k4
    | 5, hq => cases hq; exact k5
    | n + 6, hq => cases hq
  · match k, hk with
    | 0, hk => cases hk; exact ⟨fun n z => ⟨fun k h => (by cases h), kA, h2, comp, h3⟩, h1⟩
    | n + 1, hk => cases hk
  · exact va_Nw.of rfl (hts _ (List.mem_append_right _ hm))
theorem base_0 : Base 0 0 2 1 2 1 2 6 (fun _ => 0) (fun _ => 0) (fun _ => 0) (fun _ => 0) := ⟨by omega, by omega, by omega, by omega, by omega, by omega, by omega, by omega, fun _ => ⟨Int.le_refl 0, by show (0 : Int) ≤ 3; omega⟩, fun _ => ⟨Int.le_refl 0, by show (0 : Int) ≤ 3; omega⟩, rfl, rfl, fun _ _ _ => rfl, fun _ _ _ => rfl⟩
/-! THE CLAIM OUT OF ONE WALK OF THE LAW'S BODY. Your part is whole_start (and what it stands on); all else here is the same for every law, but numbers. -/
def R_law : String := "SeedChainerLaw"
def lw_P (b : Addr) (xs : List Int32) (args : Array Value) (s : State) : Prop := args = #[.ref b] ∧ s.IntsAt b xs ∧ xs.length ≤ 2560 ∧ (Jvm.Cond.and given_1 narrow_1).before args s = true
def lw_Q (_ : Array Value) (s : State) (o : Outcome) (t : State) : Prop := o = .returned (some (.int 1)) ∧ Framed s o t [] 21 12203
def lw_Z (below : List Frame) (a : Array Value) (s : State) : State → Prop := fun t => ∃ o, t.status = .running ∧ Ended t below o ∧ lw_Q a s o t
/-- the law's own end, with 1 on the stack, nothing written that was there before, its room as the claim has it -/
theorem lw_ret {p : Program} {l : Launch} {e : Env} {s : State} {m : MethodId} {below : List Frame} {meth : Method} {c : Code} {b : Nat} (hx : p.tables.exec = Jvm.exec) (hb : c.code = code) (hr : meth.sig.returnType = ret) (hlocks : meth.locks = false) {pc : Nat} {H : Heap} {ls : Array Slot} (hdg : decode code pc = .ok (.ireturn, 1)) : W p l e room_1 s m #[Value.ref b] below meth c H [] 21 12203 (lw_Z below #[Value.ref b] s) (F0 m pc ls [.int 1]) := by
  intro T hT X
  obtain ⟨fs, hret, hrun, hended, hW, hframe⟩ := X.leave (v := some (.int 1)) (hlocks := hlocks) (fun h => by rw [hr] at h; cases h)
  have hmeth' : T.vm.method? m = some meth := X.method'
  refine ⟨T.setFrames fs, ?_, .returned (some (.int 1)), hrun, hended, rfl, ⟨_, rfl⟩, hW, hframe⟩
  jvm_step X.here [X.here.top, hx, hb, hdg, hmeth', hr, ret, narrow_b1]
  (try refine ⟨rfl, ?_⟩); (try refine ⟨rfl, ?_⟩)
  first | (intro acts; rw [hret _ acts rfl rfl rfl]) | rw [hret _ _ rfl rfl rfl]
  exact Steps.refl _
/-- what holds at the law's entry: the machine, the code, the tables' words (any of lw_tbl by 'hts w (by decide +kernel)'), the script of L ints xs at the cell b, what the Statement gives of the start (any of its parts by flat_of_before) -/
def lw_At (p : Program) (s : State) (m : MethodId) (meth : Method) (c : Code) (b L : Nat) (xs : Nat → Int32) : Prop :=
  p.tables.exec = Jvm.exec ∧ c.code = code ∧ meth.sig.returnType = ret ∧ c.maxLocals = 4 ∧ s.vm.findClass R_law = some m.cls ∧ (∀ w ∈ lw_tbl, w.before #[Value.ref b] s = true) ∧ va_X b L xs s s.heap ∧ b < s.heap.size ∧ meth.locks = false ∧ (Jvm.Cond.and given_1 narrow_1).before #[Value.ref b] s = true
set_option maxHeartbeats 4000000 in
set_option maxRecDepth 100000 in
/-- YOUR PART: from the entry, for every script of at most 2560 ints, the law comes to its end with true -/
theorem whole_start {p : Program} {e : Env} {s : State} {m : MethodId} {below : List Frame} {meth : Method} {c : Code} (l : Launch) {b L : Nat} {xs : Nat → Int32} (hL : L ≤ 2560) (C0 : lw_At p s m meth c b L xs) : W p l e room_1 s m #[Value.ref b] below meth c s.heap [] 0 0 (lw_Z below #[Value.ref b] s) (entryFrame m ([Value.ref b] : List Value).toArray 4) := by
  obtain ⟨hx, hb, hr, hml, hown, hts, hX, hbl, hlocks, hgv⟩ := C0
  obtain ⟨D, cA, hcx⟩ := lw_cxt hts
  have F : jF p s m #[Value.ref b] meth c YL_law D cA := ⟨hx, hb, hr, hlocks, hml, hown, fun w h => hts w (List.mem_filter.mp h).1, hcx, fun h => absurd h (by decide)⟩
  obtain ⟨A, hAe⟩ : ∃ A : Nat → Prop, A = fun q => s.heap.size ≤ q := ⟨_, rfl⟩
  have hA : ∀ q : Nat, s.heap.size ≤ q → A q := fun q h => by rw [hAe]; exact h
  have hA2 : ∀ q : Nat, A q → s.heap.size ≤ q := fun q h => by rw [hAe] at h; exact h
  have hbA : ¬ A b := fun h => by have := hA2 b h; omega
  have hS : va_S A s.heap s.heap [] := va_S.rf
  have hP : va_P D cls [] s.heap := fun k q h => by cases h
  have hD : va_D A [] := ⟨fun i j p q h => (by cases h), fun k q h => (by cases h)⟩
  have hl := lv_entry ([Value.ref b]) (n := 4) (Nat.le_of_ble_eq_true rfl)
  rw [lg_entry_eq]
  generalize (lg_sl ([Value.ref b]) ++ List.replicate (4 - (lg_sl ([Value.ref b])).length) Slot.unset).toArray = ls at hl ⊢
  have hl : lv_has ls 4 [(0, .ref b)] := hl
  refine jv_new (ci := 4) (fs := [.null, .null, .null, .null, .null, .int (jI 0), .int (jI 0)]) F nwL_7 pfX4 hP hD hS hA (fun j hj => by rcases (show j = 0 ∨ j = 1 ∨ j = 2 ∨ j = 3 ∨ j = 4 ∨ j = 5 ∨ j = 6 by omega) with rfl | rfl | rfl | rfl | rfl | rfl | rfl <;> rfl) (by decide) (by decide) dL_law_0 (fun q0 H hP hD hS => ?_)
  have hP : va_P D cls [(q0, .inr (4, [.null, .null, .null, .null, .null, .int (jI 0), .int (jI 0)]))] H := hP
  have hD : va_D A [(q0, .inr (4, [.null, .null, .null, .null, .null, .int (jI 0), .int (jI 0)]))] := hD
  refine W.widen (k := 1) (n := 7) (by decide) (by decide) ?_
  refine lv_dup hx hb dL_law_3 rfl ?_
  refine jw_I (wr := []) F (kX4_init l D cA q0) ciL_9 hP hD hS hA [0] [] rfl rfl (by decide) (by decide) hl ⟨rfl, rfl, by decide, by decide⟩ rfl rfl (Nat.le_of_ble_eq_true rfl) dL_law_4 ⟨by decide, by decide⟩ (by decide) (fun v w1 H locs hw hP hD hS => ?_)
  obtain ⟨rfl, r0, a0, r1, a1, sp, be, ah, pa, re, t2, t1, t0, rfl⟩ := hw
  have hP : va_P D cls [(q0, .inr (4, [.ref r0, .ref r1, .ref sp, .ref be, .ref re, .int (jI 1), .int (jI 0)])), (r0, .inr (1, [.ref a0, .int (jI 0)])), (a0, .inl (cA, 48, .inl (jA (fun _ => 0)))), (r1, .inr (1, [.ref a1, .int (jI 0)])), (a1, .inl (cA, 48, .inl (jA (fun _ => 0)))), (sp, .inr (3, [.ref r0, .ref r1, .int (jI 2)])), (be, .inr (0, [.ref ah, .ref pa, .int (jI 0), .int (jI 0)])), (ah, .inl (cA, 2401, .inl (jA (fun _ => 0)))), (pa, .inl (cA, 48, .inl (jA (fun _ => 0)))), (re, .inr (2, [.int (jI 2), .int (jI 1), .int (jI 2), .int (jI 6), .ref t2, .ref t1, .ref t0, .int (jI (-1)), .int (jI (-1)), .int (jI (-1)), .int (jI (-1)), .int (jI (-1))])), (t2, .inl (cA, 49, .inl (jA (fun _ => 0)))), (t1, .inl (cA, 49, .inl (jA (fun _ => 0)))), (t0, .inl (cA, 49, .inl (jA (fun _ => 0))))] H := hP
  have hD : va_D A [(q0, .inr (4, [.ref r0, .ref r1, .ref sp, .ref be, .ref re, .int (jI 1), .int (jI 0)])), (r0, .inr (1, [.ref a0, .int (jI 0)])), (a0, .inl (cA, 48, .inl (jA (fun _ => 0)))), (r1, .inr (1, [.ref a1, .int (jI 0)])), (a1, .inl (cA, 48, .inl (jA (fun _ => 0)))), (sp, .inr (3, [.ref r0, .ref r1, .int (jI 2)])), (be, .inr (0, [.ref ah, .ref pa, .int (jI 0), .int (jI 0)])), (ah, .inl (cA, 2401, .inl (jA (fun _ => 0)))), (pa, .inl (cA, 48, .inl (jA (fun _ => 0)))), (re, .inr (2, [.int (jI 2), .int (jI 1), .int (jI 2), .int (jI 6), .ref t2, .ref t1, .ref t0, .int (jI (-1)), .int (jI (-1)), .int (jI (-1)), .int (jI (-1)), .int (jI (-1))])), (t2, .inl (cA, 49, .inl (jA (fun _ => 0)))), (t1, .inl (cA, 49, .inl (jA (fun _ => 0)))), (t0, .inl (cA, 49, .inl (jA (fun _ => 0))))] := hD
  refine W.widen (k := 13) (n := 2722) (by decide) (by decide) ?_
  refine W.eq (g2 := F0 m 7 ls [.ref q0]) rfl ?_
  refine lv_astore_n (lv' := [(1, .ref q0), (0, .ref b)]) hx hb dL_law_7 rfl hl (by decide) rfl (fun ls hl => ?_)
  refine jv_new (ci := 5) (fs := [.null, .null, .int (jI 0), .int (jI 0), .int (jI 0), .int (jI 0), .int (jI 0), .int (jI 0), .null, .null, .null, .int (jI 0), .null, .int (jI 0), .int (jI 0), .int (jI 0), .null, .int (jI 0), .int (jI 0), .int (jI 0), .int (jI 0), .int (jI 0)]) F nwL_10 pfX5 hP hD hS hA (fun j hj => by rcases (show j = 0 ∨ j = 1 ∨ j = 2 ∨ j = 3 ∨ j = 4 ∨ j = 5 ∨ j = 6 ∨ j = 7 ∨ j = 8 ∨ j = 9 ∨ j = 10 ∨ j = 11 ∨ j = 12 ∨ j = 13 ∨ j = 14 ∨ j = 15 ∨ j = 16 ∨ j = 17 ∨ j = 18 ∨ j = 19 ∨ j = 20 ∨ j = 21 by omega) with rfl | rfl | rfl | rfl | rfl | rfl | rfl | rfl | rfl | rfl | rfl | rfl | rfl | rfl | rfl | rfl | rfl | rfl | rfl | rfl | rfl | rfl <;> rfl) (by decide) (by decide) dL_law_8 (fun q8 H hP hD hS => ?_)
  have hP : va_P D cls [(q0, .inr (4, [.ref r0, .ref r1, .ref sp, .ref be, .ref re, .int (jI 1), .int (jI 0)])), (r0, .inr (1, [.ref a0, .int (jI 0)])), (a0, .inl (cA, 48, .inl (jA (fun _ => 0)))), (r1, .inr (1, [.ref a1, .int (jI 0)])), (a1, .inl (cA, 48, .inl (jA (fun _ => 0)))), (sp, .inr (3, [.ref r0, .ref r1, .int (jI 2)])), (be, .inr (0, [.ref ah, .ref pa, .int (jI 0), .int (jI 0)])), (ah, .inl (cA, 2401, .inl (jA (fun _ => 0)))), (pa, .inl (cA, 48, .inl (jA (fun _ => 0)))), (re, .inr (2, [.int (jI 2), .int (jI 1), .int (jI 2), .int (jI 6), .ref t2, .ref t1, .ref t0, .int (jI (-1)), .int (jI (-1)), .int (jI (-1)), .int (jI (-1)), .int (jI (-1))])), (t2, .inl (cA, 49, .inl (jA (fun _ => 0)))), (t1, .inl (cA, 49, .inl (jA (fun _ => 0)))), (t0, .inl (cA, 49, .inl (jA (fun _ => 0)))), (q8, .inr (5, [.null, .null, .int (jI 0), .int (jI 0), .int (jI 0), .int (jI 0), .int (jI 0), .int (jI 0), .null, .null, .null, .int (jI 0), .null, .int (jI 0), .int (jI 0), .int (jI 0), .null, .int (jI 0), .int (jI 0), .int (jI 0), .int (jI 0), .int (jI 0)]))] H := hP
  have hD : va_D A [(q0, .inr (4, [.ref r0, .ref r1, .ref sp, .ref be, .ref re, .int (jI 1), .int (jI 0)])), (r0, .inr (1, [.ref a0, .int (jI 0)])), (a0, .inl (cA, 48, .inl (jA (fun _ => 0)))), (r1, .inr (1, [.ref a1, .int (jI 0)])), (a1, .inl (cA, 48, .inl (jA (fun _ => 0)))), (sp, .inr (3, [.ref r0, .ref r1, .int (jI 2)])), (be, .inr (0, [.ref ah, .ref pa, .int (jI 0), .int (jI 0)])), (ah, .inl (cA, 2401, .inl (jA (fun _ => 0)))), (pa, .inl (cA, 48, .inl (jA (fun _ => 0)))), (re, .inr (2, [.int (jI 2), .int (jI 1), .int (jI 2), .int (jI 6), .ref t2, .ref t1, .ref t0, .int (jI (-1)), .int (jI (-1)), .int (jI (-1)), .int (jI (-1)), .int (jI (-1))])), (t2, .inl (cA, 49, .inl (jA (fun _ => 0)))), (t1, .inl (cA, 49, .inl (jA (fun _ => 0)))), (t0, .inl (cA, 49, .inl (jA (fun _ => 0)))), (q8, .inr (5, [.null, .null, .int (jI 0), .int (jI 0), .int (jI 0), .int (jI 0), .int (jI 0), .int (jI 0), .null, .null, .null, .int (jI 0), .null, .int (jI 0), .int (jI 0), .int (jI 0), .null, .int (jI 0), .int (jI 0), .int (jI 0), .int (jI 0), .int (jI 0)]))] := hD
  refine W.widen (k := 14) (n := 2744) (by decide) (by decide) ?_
  refine lv_dup hx hb dL_law_11 rfl ?_
  refine jw_I (wr := [(q0, .inr (4, [.ref r0, .ref r1, .ref sp, .ref be, .ref re, .int (jI 1), .int (jI 0)])), (r0, .inr (1, [.ref a0, .int (jI 0)])), (a0, .inl (cA, 48, .inl (jA (fun _ => 0)))), (r1, .inr (1, [.ref a1, .int (jI 0)])), (a1, .inl (cA, 48, .inl (jA (fun _ => 0)))), (sp, .inr (3, [.ref r0, .ref r1, .int (jI 2)])), (be, .inr (0, [.ref ah, .ref pa, .int (jI 0), .int (jI 0)])), (ah, .inl (cA, 2401, .inl (jA (fun _ => 0)))), (pa, .inl (cA, 48, .inl (jA (fun _ => 0)))), (re, .inr (2, [.int (jI 2), .int (jI 1), .int (jI 2), .int (jI 6), .ref t2, .ref t1, .ref t0, .int (jI (-1)), .int (jI (-1)), .int (jI (-1)), .int (jI (-1)), .int (jI (-1))])), (t2, .inl (cA, 49, .inl (jA (fun _ => 0)))), (t1, .inl (cA, 49, .inl (jA (fun _ => 0)))), (t0, .inl (cA, 49, .inl (jA (fun _ => 0))))]) F (kX5_init l D cA q8) ciL_12 hP hD hS hA [13] [0, 1, 2, 3, 4, 5, 6, 7, 8, 9, 10, 11, 12] rfl rfl (by decide) (by decide) hl ⟨rfl, rfl, by decide, by decide⟩ rfl rfl (Nat.le_of_ble_eq_true rfl) dL_law_12 ⟨by decide, by decide⟩ (by decide) (fun v w1 H locs hw hP hD hS => ?_)
  obtain ⟨rfl, ml, mn, mf, mt, mw, mk, mz, rfl⟩ := hw
  have hP : va_P D cls [(q0, .inr (4, [.ref r0, .ref r1, .ref sp, .ref be, .ref re, .int (jI 1), .int (jI 0)])), (r0, .inr (1, [.ref a0, .int (jI 0)])), (a0, .inl (cA, 48, .inl (jA (fun _ => 0)))), (r1, .inr (1, [.ref a1, .int (jI 0)])), (a1, .inl (cA, 48, .inl (jA (fun _ => 0)))), (sp, .inr (3, [.ref r0, .ref r1, .int (jI 2)])), (be, .inr (0, [.ref ah, .ref pa, .int (jI 0), .int (jI 0)])), (ah, .inl (cA, 2401, .inl (jA (fun _ => 0)))), (pa, .inl (cA, 48, .inl (jA (fun _ => 0)))), (re, .inr (2, [.int (jI 2), .int (jI 1), .int (jI 2), .int (jI 6), .ref t2, .ref t1, .ref t0, .int (jI (-1)), .int (jI (-1)), .int (jI (-1)), .int (jI (-1)), .int (jI (-1))])), (t2, .inl (cA, 49, .inl (jA (fun _ => 0)))), (t1, .inl (cA, 49, .inl (jA (fun _ => 0)))), (t0, .inl (cA, 49, .inl (jA (fun _ => 0)))), (q8, .inr (5, [.ref ml, .ref mn, .int (jI 2), .int (jI 1), .int (jI 2), .int (jI 1), .int (jI 2), .int (jI 6), .ref mf, .ref mt, .ref mw, .int (jI 0), .ref mk, .int (jI 0), .int (jI 0), .int (jI 0), .ref mz, .int (jI 0), .int (jI 0), .int (jI 0), .int (jI 0), .int (jI 0)])), (ml, .inl (cA, 96, .inl (jA (fun _ => 0)))), (mn, .inl (cA, 2, .inl (jA (fun _ => 0)))), (mf, .inl (cA, 2304, .inl (jA (fun _ => 0)))), (mt, .inl (cA, 2304, .inl (jA (fun _ => 0)))), (mw, .inl (cA, 2304, .inl (jA (fun _ => 0)))), (mk, .inl (cA, 48, .inl (jA (fun _ => 0)))), (mz, .inl (cA, 2401, .inl (jA (fun _ => 0))))] H := hP
  have hD : va_D A [(q0, .inr (4, [.ref r0, .ref r1, .ref sp, .ref be, .ref re, .int (jI 1), .int (jI 0)])), (r0, .inr (1, [.ref a0, .int (jI 0)])), (a0, .inl (cA, 48, .inl (jA (fun _ => 0)))), (r1, .inr (1, [.ref a1, .int (jI 0)])), (a1, .inl (cA, 48, .inl (jA (fun _ => 0)))), (sp, .inr (3, [.ref r0, .ref r1, .int (jI 2)])), (be, .inr (0, [.ref ah, .ref pa, .int (jI 0), .int (jI 0)])), (ah, .inl (cA, 2401, .inl (jA (fun _ => 0)))), (pa, .inl (cA, 48, .inl (jA (fun _ => 0)))), (re, .inr (2, [.int (jI 2), .int (jI 1), .int (jI 2), .int (jI 6), .ref t2, .ref t1, .ref t0, .int (jI (-1)), .int (jI (-1)), .int (jI (-1)), .int (jI (-1)), .int (jI (-1))])), (t2, .inl (cA, 49, .inl (jA (fun _ => 0)))), (t1, .inl (cA, 49, .inl (jA (fun _ => 0)))), (t0, .inl (cA, 49, .inl (jA (fun _ => 0)))), (q8, .inr (5, [.ref ml, .ref mn, .int (jI 2), .int (jI 1), .int (jI 2), .int (jI 1), .int (jI 2), .int (jI 6), .ref mf, .ref mt, .ref mw, .int (jI 0), .ref mk, .int (jI 0), .int (jI 0), .int (jI 0), .ref mz, .int (jI 0), .int (jI 0), .int (jI 0), .int (jI 0), .int (jI 0)])), (ml, .inl (cA, 96, .inl (jA (fun _ => 0)))), (mn, .inl (cA, 2, .inl (jA (fun _ => 0)))), (mf, .inl (cA, 2304, .inl (jA (fun _ => 0)))), (mt, .inl (cA, 2304, .inl (jA (fun _ => 0)))), (mw, .inl (cA, 2304, .inl (jA (fun _ => 0)))), (mk, .inl (cA, 48, .inl (jA (fun _ => 0)))), (mz, .inl (cA, 2401, .inl (jA (fun _ => 0))))] := hD
  refine W.widen (k := 21) (n := 12203) (by decide) (by decide) ?_
  refine W.eq (g2 := F0 m 15 ls [.ref q8]) rfl ?_
  refine lv_astore_n (lv' := [(2, .ref q8), (1, .ref q0), (0, .ref b)]) hx hb dL_law_15 rfl hl (by decide) rfl (fun ls hl => ?_)
  refine lv_iconst (v := jI 0) hx hb dL_law_16 rfl ?_
  refine lv_istore_n (lv' := [(3, .int (jI 0)), (2, .ref q8), (1, .ref q0), (0, .ref b)]) hx hb dL_law_17 rfl hl (by decide) rfl (fun ls hl => ?_)
  have lp : ∀ (fu : Nat) (i : Int) (ls : Array Slot) (H : Heap) (locs : List Loc) (wd : va_W), (L : Int) - i < (fu : Int) → 0 ≤ i → i ≤ (L : Int) → lv_has ls 4 [(3, .int (jI i)), (2, .ref q8), (1, .ref q0), (0, .ref b)] → Inv cA q0 q8 wd → va_P D cls wd H → va_D A wd → va_S A s.heap H locs → W p l e room_1 s m #[Value.ref b] below meth c H locs 21 12203 (lw_Z below #[Value.ref b] s) (F0 m 18 ls []) := by
    intro fu
    induction fu with
    | zero => intro i ls H locs wd hfu hi0 hiL; exfalso; omega
    | succ fu ih =>
      intro i ls H locs wd hfu hi0 hiL hl hI hP hD hS
      refine lv_iload_n hx hb dL_law_18 rfl (lv_at hl 0 rfl) ?_
      refine lv_aload_n hx hb dL_law_19 rfl (lv_at hl 3 rfl) ?_
      refine jv_slen F hX hbl hbA hS (by omega) dL_law_20 ?_
      refine lv_iconst (v := jI 5) hx hb dL_law_21 rfl ?_
      refine jv_isub hx hb dL_law_22 ?_
      refine jv_icmp_gt (tgt := 455) hx hb dL_law_23 rfl (by omega) (by omega) (fun c23 => ?_) (fun c23 => ?_)
      · refine va_forget (fun q hq => hA2 _ (hS.2.2 q hq)) ?_
        refine lv_iconst (v := 1) hx hb dL_law_455 (by decide +kernel) ?_
        exact lw_ret hx hb hr hlocks dL_law_456
      · have hJ : ∀ (ls : Array Slot) (H : Heap) (locs : List Loc) (wd : va_W), lv_has ls 4 [(3, .int (jI i)), (2, .ref q8), (1, .ref q0), (0, .ref b)] → Inv cA q0 q8 wd → va_P D cls wd H → va_D A wd → va_S A s.heap H locs → W p l e room_1 s m #[Value.ref b] below meth c H locs 21 12203 (lw_Z below #[Value.ref b] s) (F0 m 449 ls []) := by
          intro ls H locs wd hl hI hP hD hS
          refine lv_iinc (k := 0) (v := jI (i + 5)) (lv' := [(3, .int (jI (i + 5))), (2, .ref q8), (1, .ref q0), (0, .ref b)]) hx hb dL_law_449 hl rfl (jI_add _ _) (by decide) rfl (fun ls hl => ?_)
          refine lv_goto (tgt := 18) hx hb dL_law_452 rfl ?_
          exact ih (i + 5) ls H locs wd (by omega) (by omega) (by omega) hl hI hP hD hS
        refine lv_aload_n hx hb dL_law_26 rfl (lv_at hl 3 rfl) ?_
        refine lv_iload_n hx hb dL_law_27 rfl (lv_at hl 0 rfl) ?_
        refine jv_sld F hX hbl hbA hS (by omega) (by omega) dL_law_28 ?_
        refine lv_bipush (v := jI 15) hx hb dL_law_29 (by decide +kernel) ?_
        refine jv_and15 hx hb dL_law_31 (fun k hk => ?_)
        by_cases hsw : k = 0 ∨ k = 1 ∨ k = 2 ∨ k = 3 ∨ k = 4 ∨ k = 5 ∨ k = 6 ∨ k = 7 ∨ k = 8 ∨ k = 9 ∨ k = 10 ∨ k = 11 ∨ k = 12
        · rcases hsw with hsw | hsw | hsw | hsw | hsw | hsw | hsw | hsw | hsw | hsw | hsw | hsw | hsw
          · rw [hsw]
            refine lv_tableIn (off := 68) (tgt := 100) hx hb dL_law_32 (by decide +kernel) (by decide +kernel) (by decide +kernel) rfl ?_
            exact law_0 l hL F hX hbl hbA hA ⟨hi0, by omega⟩ hJ ls H locs wd hl hI hP hD hS
          · rw [hsw]
            refine lv_tableIn (off := 101) (tgt := 133) hx hb dL_law_32 (by decide +kernel) (by decide +kernel) (by decide +kernel) rfl ?_
            exact law_1 l hL F hX hbl hbA hA ⟨hi0, by omega⟩ hJ ls H locs wd hl hI hP hD hS
          · rw [hsw]
            refine lv_tableIn (off := 124) (tgt := 156) hx hb dL_law_32 (by decide +kernel) (by decide +kernel) (by decide +kernel) rfl ?_
            exact law_2 l hL F hX hbl hbA hA ⟨hi0, by omega⟩ hJ ls H locs wd hl hI hP hD hS
          · rw [hsw]
            refine lv_tableIn (off := 157) (tgt := 189) hx hb dL_law_32 (by decide +kernel) (by decide +kernel) (by decide +kernel) rfl ?_
            exact law_3 l hL F hX hbl hbA hA ⟨hi0, by omega⟩ hJ ls H locs wd hl hI hP hD hS
          · rw [hsw]
            refine lv_tableIn (off := 180) (tgt := 212) hx hb dL_law_32 (by decide +kernel) (by decide +kernel) (by decide +kernel) rfl ?_
            exact law_4 l hL F hX hbl hbA hA ⟨hi0, by omega⟩ hJ ls H locs wd hl hI hP hD hS
          · rw [hsw]
            refine lv_tableIn (off := 203) (tgt := 235) hx hb dL_law_32 (by decide +kernel) (by decide +kernel) (by decide +kernel) rfl ?_
            exact law_5 l hL F hX hbl hbA hA ⟨hi0, by omega⟩ hJ ls H locs wd hl hI hP hD hS
          · rw [hsw]
            refine lv_tableIn (off := 256) (tgt := 288) hx hb dL_law_32 (by decide +kernel) (by decide +kernel) (by decide +kernel) rfl ?_
            exact law_6 l hL F hX hbl hbA hA ⟨hi0, by omega⟩ hJ ls H locs wd hl hI hP hD hS
          · rw [hsw]
            refine lv_tableIn (off := 269) (tgt := 301) hx hb dL_law_32 (by decide +kernel) (by decide +kernel) (by decide +kernel) rfl ?_
            exact law_7 l hL F hX hbl hbA hA ⟨hi0, by omega⟩ hJ ls H locs wd hl hI hP hD hS
          · rw [hsw]
            refine lv_tableIn (off := 302) (tgt := 334) hx hb dL_law_32 (by decide +kernel) (by decide +kernel) (by decide +kernel) rfl ?_
            exact law_8 l hL F hX hbl hbA hA ⟨hi0, by omega⟩ hJ ls H locs wd hl hI hP hD hS
          · rw [hsw]
            refine lv_tableIn (off := 315) (tgt := 347) hx hb dL_law_32 (by decide +kernel) (by decide +kernel) (by decide +kernel) rfl ?_
            exact law_9 l hL F hX hbl hbA hA ⟨hi0, by omega⟩ hJ ls H locs wd hl hI hP hD hS
          · rw [hsw]
            refine lv_tableIn (off := 328) (tgt := 360) hx hb dL_law_32 (by decide +kernel) (by decide +kernel) (by decide +kernel) rfl ?_
            exact law_10 l hL F hX hbl hbA hA ⟨hi0, by omega⟩ hJ ls H locs wd hl hI hP hD hS
          · rw [hsw]
            refine lv_tableIn (off := 361) (tgt := 393) hx hb dL_law_32 (by decide +kernel) (by decide +kernel) (by decide +kernel) rfl ?_
            exact law_11 l hL F hX hbl hbA hA ⟨hi0, by omega⟩ hJ ls H locs wd hl hI hP hD hS
          · rw [hsw]
            refine lv_tableIn (off := 394) (tgt := 426) hx hb dL_law_32 (by decide +kernel) (by decide +kernel) (by decide +kernel) rfl ?_
            exact law_12 l hL F hX hbl hbA hA ⟨hi0, by omega⟩ hJ ls H locs wd hl hI hP hD hS
        · refine jv_tabOut (tgt := 449) hx hb dL_law_32 (by omega) (by omega) rfl ?_
          exact hJ ls H locs wd hl hI hP hD hS
  exact lp (L + 1) 0 ls H locs _ (by omega) (by omega) (by omega) (lv_sub hl [0, 1, 2, 3] rfl) (Inv.mk base_0 (Or.inl rfl) (Or.inl rfl) (Or.inl ⟨rfl, rfl, rfl, rfl, rfl⟩)) (hP.sub (ws' := [(q0, .inr (4, [.ref r0, .ref r1, .ref sp, .ref be, .ref re, .int (jI 1), .int (jI 0)])), (r0, .inr (1, [.ref a0, .int (jI 0)])), (a0, .inl (cA, 48, .inl (jA (fun _ => 0)))), (r1, .inr (1, [.ref a1, .int (jI 0)])), (a1, .inl (cA, 48, .inl (jA (fun _ => 0)))), (sp, .inr (3, [.ref r0, .ref r1, .int (jI 2)])), (be, .inr (0, [.ref ah, .ref pa, .int (jI 0), .int (jI 0)])), (ah, .inl (cA, 2401, .inl (jA (fun _ => 0)))), (pa, .inl (cA, 48, .inl (jA (fun _ => 0)))), (re, .inr (2, [.int (jI 2), .int (jI 1), .int (jI 2), .int (jI 6), .ref t2, .ref t1, .ref t0, .int (jI (-1)), .int (jI (-1)), .int (jI (-1)), .int (jI (-1)), .int (jI (-1))])), (t2, .inl (cA, 49, .inl (jA (fun _ => 0)))), (t1, .inl (cA, 49, .inl (jA (fun _ => 0)))), (t0, .inl (cA, 49, .inl (jA (fun _ => 0)))), (q8, .inr (5, [.ref ml, .ref mn, .int (jI 2), .int (jI 1), .int (jI 2), .int (jI 1), .int (jI 2), .int (jI 6), .ref mf, .ref mt, .ref mw, .int (jI 0), .ref mk, .int (jI 0), .int (jI 0), .int (jI 0), .ref mz, .int (jI 0), .int (jI 0), .int (jI 0), .int (jI 0), .int (jI 0)])), (ml, .inl (cA, 96, .inl (jA (fun _ => 0)))), (mn, .inl (cA, 2, .inl (jA (fun _ => 0)))), (mf, .inl (cA, 2304, .inl (jA (fun _ => 0)))), (mt, .inl (cA, 2304, .inl (jA (fun _ => 0)))), (mw, .inl (cA, 2304, .inl (jA (fun _ => 0)))), (mk, .inl (cA, 48, .inl (jA (fun _ => 0)))), (mz, .inl (cA, 2401, .inl (jA (fun _ => 0))))]) [0, 1, 2, 3, 4, 5, 6, 7, 8, 9, 10, 11, 12, 13, 14, 15, 16, 17, 18, 19, 20] rfl) (hD.sub (ws' := [(q0, .inr (4, [.ref r0, .ref r1, .ref sp, .ref be, .ref re, .int (jI 1), .int (jI 0)])), (r0, .inr (1, [.ref a0, .int (jI 0)])), (a0, .inl (cA, 48, .inl (jA (fun _ => 0)))), (r1, .inr (1, [.ref a1, .int (jI 0)])), (a1, .inl (cA, 48, .inl (jA (fun _ => 0)))), (sp, .inr (3, [.ref r0, .ref r1, .int (jI 2)])), (be, .inr (0, [.ref ah, .ref pa, .int (jI 0), .int (jI 0)])), (ah, .inl (cA, 2401, .inl (jA (fun _ => 0)))), (pa, .inl (cA, 48, .inl (jA (fun _ => 0)))), (re, .inr (2, [.int (jI 2), .int (jI 1), .int (jI 2), .int (jI 6), .ref t2, .ref t1, .ref t0, .int (jI (-1)), .int (jI (-1)), .int (jI (-1)), .int (jI (-1)), .int (jI (-1))])), (t2, .inl (cA, 49, .inl (jA (fun _ => 0)))), (t1, .inl (cA, 49, .inl (jA (fun _ => 0)))), (t0, .inl (cA, 49, .inl (jA (fun _ => 0)))), (q8, .inr (5, [.ref ml, .ref mn, .int (jI 2), .int (jI 1), .int (jI 2), .int (jI 1), .int (jI 2), .int (jI 6), .ref mf, .ref mt, .ref mw, .int (jI 0), .ref mk, .int (jI 0), .int (jI 0), .int (jI 0), .ref mz, .int (jI 0), .int (jI 0), .int (jI 0), .int (jI 0), .int (jI 0)])), (ml, .inl (cA, 96, .inl (jA (fun _ => 0)))), (mn, .inl (cA, 2, .inl (jA (fun _ => 0)))), (mf, .inl (cA, 2304, .inl (jA (fun _ => 0)))), (mt, .inl (cA, 2304, .inl (jA (fun _ => 0)))), (mw, .inl (cA, 2304, .inl (jA (fun _ => 0)))), (mk, .inl (cA, 48, .inl (jA (fun _ => 0)))), (mz, .inl (cA, 2401, .inl (jA (fun _ => 0))))]) [0, 1, 2, 3, 4, 5, 6, 7, 8, 9, 10, 11, 12, 13, 14, 15, 16, 17, 18, 19, 20] (by decide) rfl) hS
set_option maxHeartbeats 4000000 in
theorem lw_walk (l : Launch) (b : Addr) (xs : List Int32) : MetFree l x (headSpec (Jvm.Cond.code x code maxLocals ret :: tables_1) room_1) (lw_P b xs) (fun _ _ _ _ _ => True) lw_Q := by
  refine MetFree.of_bodyS (code := code) (maxLocals := maxLocals) (ret := ret) (by decide) ?_ ?_
  · intro args s m h hn
    obtain ⟨meth, c, h1, h2, h3, h4, h5, h6, -, -⟩ := Cond.code_spec hn (atoms_spec (ws := Jvm.Cond.code x code maxLocals ret :: tables_1) h _ List.mem_cons_self)
    exact ⟨meth, c, h1, h2, h3, h4, h5, h6⟩
  · intro p e s m args below meth c s₁ B hml0 hP _
    obtain ⟨rfl, hx, hbd, hgv⟩ := hP
    obtain ⟨scr, harrAt, hlist, hof, hsmall⟩ := hx
    obtain ⟨hcb, hkn, -, -⟩ := State.arrayAt?_spec harrAt
    have hown : s.vm.findClass R_law = some m.cls := findClass_of_methodNamed B.named
    have hts0 : ∀ c ∈ (Jvm.Cond.code x code maxLocals ret :: tables_1), c.before #[Value.ref b] s = true := atoms_spec (ws := Jvm.Cond.code x code maxLocals ret :: tables_1) B.pre
    have hts : ∀ w ∈ lw_tbl, w.before #[Value.ref b] s = true := k2_hts_sels lw_privs (fun w hw => hts0 w (List.mem_cons_of_mem _ hw)) lw_privs_ok
    have hml : c.maxLocals = 4 := B.maxLocals_eq (hts0 _ List.mem_cons_self)
    have X₀ : Stand p l e room_1 s m #[Value.ref b] below meth c s₁ [] 0 0 := Stand.of_body B
    have hh0 : s₁.heap = s.heap := by rw [B.state]; rfl
    have hsz : scr.slots.size = xs.length := by rw [← Array.length_toList, hlist, List.length_map]
    have hval : ∀ j : Nat, j < xs.length → scr.slots[j]? = some (.int (xs.getD j 0)) := fun j hj => by
      rw [← Array.getElem?_toList, hlist]
      simp [hj]
    have hbl : b < s.heap.size := (Array.getElem?_eq_some_iff.mp hcb).1
    have hX : va_X b xs.length (fun j => xs.getD j 0) s s.heap := ⟨scr, hcb, hof, hkn, hsz, hval⟩
    have K : W p l e room_1 s m #[Value.ref b] below meth c s₁.heap [] 0 0 (lw_Z below #[Value.ref b] s) (entryFrame m ([Value.ref b] : List Value).toArray 4) := by
      rw [hh0]
      exact whole_start l hbd ⟨B.exec, B.bytes, B.returns, hml, hown, hts, hX, hbl, B.notSynchronized, hgv⟩
    obtain ⟨t, a1, o, b1, b2, b3⟩ := K s₁ rfl X₀
    exact ⟨t, o, a1, b1, b2, b3⟩
theorem lw_pre_spec {args : Array Value} {s : State} (h : (Jvm.Cond.and given_1 narrow_1).before args s = true) (hr : rest_1_c.before args s = true) : ∃ (b : Addr) (xs : List Int32), lw_P b xs args s := by
  have hs := flat_of_before _ h
  have hq := flat_of_before _ hr
  have hc : (Cond.count 1).before args s = true := hs _ (by decide +kernel)
  have harr : (Cond.arrayOf (.arg 0) .int).before args s = true := hs _ (by decide +kernel)
  have hle : (Cond.le (.length (.arg 0)) (.int 2560)).before args s = true := hs _ (by decide +kernel)
  have hlen : (Cond.isInt (.length (.arg 0))).before args s = true := hq _ (by decide +kernel)
  have hall : (Cond.all (.arg 0) (.isInt (.elem (.arg 0) (.index 0)))).before args s = true := hq _ (by decide +kernel)
  obtain ⟨b, xs, hb, hx⟩ := State.ints_of_pre rfl harr hlen hall
  have hsm : xs.length < 2 ^ 31 := hx.choose_spec.2.2.2
  have hev : (Term.length (.arg 0)).eval args s none [] s = some (.int xs.length.toInt32) := hx.length_eval hb
  have hv := Cond.le_ints hev (show (Term.int 2560).eval args s none [] s = some (.int 2560) from rfl)
  have hd : xs.length.toInt32 ≤ 2560 := by
    simpa [Cond.before, Cond.holds, hv] using hle
  have hN : xs.length ≤ 2560 := (Int32.ofNat_le_ofNat hsm (by decide)).mp (show Int32.ofNat xs.length ≤ Int32.ofNat 2560 from hd)
  exact ⟨b, xs, Cond.one_arg hc (show args[0]? = some (.ref b) from hb), hx, hN, h⟩
theorem lw_comes (l : Launch) : Comes l x (Jvm.Cond.code x code maxLocals ret :: tables_1) room_1 (fun tb e args s => Calls_1 tb e args s ∧ rest_1 tb e args s ∧ Pre_1 tb e args s)
    (fun _ _ args s o t => lw_Q args s o t) := by
  intro p e ha hc hk s m args below hf hfit hheap happ hpre
  obtain ⟨b, xs, hP⟩ := lw_pre_spec hpre.2.2 hpre.2.1
  obtain ⟨k, o, h1, h2, h3, hQ⟩ := lw_walk l b xs p e ha hc hk s m args below hf ((Spec.applies_iff_loose hf).mp happ).1 hP trivial
  exact ⟨k, o, h1, h2, h3, hQ⟩
theorem lw_frame {s t : State} {o : Outcome} {args : Array Value} (h : Framed s o t [] 21 12203) :
    Framed s o t (fieldLocs frame_1_writes args s ++ arrayLocs frame_1_arrays args s ++ staticLocs frame_1_statics s) 21 12203 := h
theorem lw_limb (L : Cond) (hL : ∀ (args : Array Value) (s t : State), L.after args s (.returned (some (.int 1))) t = true) :
    ArmFor flags0 classFile x code maxLocals ret World_1 tables_1 room_1 Calls_1 rest_1 Pre_1
      (fun tb e a s o t => postC L tb e a s o t ∧ Framed s o t (fieldLocs frame_1_writes a s ++ arrayLocs frame_1_arrays a s ++ staticLocs frame_1_statics s) 21 12203) := by
  intro l _ _ _ p e ha hc hk s m args below hf hfit hheap happ hpre
  obtain ⟨k, o, h1, h2, h3, rfl, hF⟩ := lw_comes l p e ha hc hk s m args below hf hfit hheap happ hpre
  exact ⟨k, _, h1, h2, h3, hL args s _, lw_frame hF⟩
theorem i_vc : Claimed_1_1 ∧ Claimed_1_2 := ⟨lw_limb limb_1_1 (fun args s t => by simp [limb_1_1, Cond.after, Cond.holds, Cond.value]), lw_limb limb_1_2 (fun args s t => Cond.after_iff.mpr (by
  first | (rw [show limb_1_2 = Cond.eq .result (.int 1) from rfl, Cond.eq_ints (x := 1) (y := 1) rfl rfl]; simp; done) | (simp [limb_1_2, Cond.value, Term.eval]; done)))⟩
