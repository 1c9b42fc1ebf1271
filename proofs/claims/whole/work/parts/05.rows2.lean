/-! ===== rows that name words: Math.max, Math.min, Object.<init>, new, newarray, switch ===== -/
theorem jI_max {a b : Int} (ra : -2147483648 ≤ a ∧ a < 2147483648) (rb : -2147483648 ≤ b ∧ b < 2147483648) : (if jI a < jI b then jI b else jI a) = jI (max a b) := by
  by_cases h : a < b
  · rw [if_pos ((jI_lt ra rb).2 h), Int.max_eq_right (by omega)]
  · rw [if_neg (fun h2 => h ((jI_lt ra rb).1 h2)), Int.max_eq_left (by omega)]
theorem jI_min {a b : Int} (ra : -2147483648 ≤ a ∧ a < 2147483648) (rb : -2147483648 ≤ b ∧ b < 2147483648) : (if jI b < jI a then jI b else jI a) = jI (min a b) := by
  by_cases h : b < a
  · rw [if_pos ((jI_lt rb ra).2 h), Int.min_eq_right (by omega)]
  · rw [if_neg (fun h2 => h ((jI_lt rb ra).1 h2)), Int.min_eq_left (by omega)]
section JD
variable {p : Program} {l : Launch} {e : Env} {R : Room} {s : State} {m : MethodId} {args : Array Value} {below : List Frame} {meth : Method} {c : Code} {H : Heap} {locs : List Loc} {cells slots : Nat} {Q : State → Prop}
variable {pc : Nat} {ls : Array Slot} {rest : List Value} {A : Nat → Prop} {H0 : Heap} {D : va_G} {cA : ClassId} {Y : jY} {index : Nat} {lv : List (Nat × Value)} {ws : va_W} {a b : Int}
theorem jv_mmax (F : jF p s m args meth c Y D cA) (hw : Cond.methodLink Y.1.cls index Lib.Math.max.name ∈ gw) (hl : lv_has ls Y.2.2.1 lv) (hfr : 1 ≤ R.frames) (hlo : (rest.map fun v => v.category).sum + 13 ≤ R.locals) (hcs : cells ≤ R.cells ∧ slots ≤ R.slots) (ra : -2147483648 ≤ a ∧ a < 2147483648) (rb : -2147483648 ≤ b ∧ b < 2147483648) (hdg : decode Y.2.1 pc = .ok (.invokestatic index, 3))
    (kk : W p l e R s m args below meth c H locs cells slots Q (F0 m (pc + 3) ls (.int (jI (max a b)) :: rest))) : W p l e R s m args below meth c H locs cells slots Q (F0 m pc ls (.int (jI b) :: .int (jI a) :: rest)) :=
  va_mmax F.1 F.2.1 (F.2.2.2.2.1.trans hl.1.symm) F.own (F.wd hw) (F.wd wsJ8_max) (F.wd wzJ8) (F.wd wdJ8_max) hfr hlo hcs.1 hcs.2 hdg (by rw [jI_max ra rb]; exact kk)
theorem jv_mmin (F : jF p s m args meth c Y D cA) (hw : Cond.methodLink Y.1.cls index Lib.Math.min.name ∈ gw) (hl : lv_has ls Y.2.2.1 lv) (hfr : 1 ≤ R.frames) (hlo : (rest.map fun v => v.category).sum + 13 ≤ R.locals) (hcs : cells ≤ R.cells ∧ slots ≤ R.slots) (ra : -2147483648 ≤ a ∧ a < 2147483648) (rb : -2147483648 ≤ b ∧ b < 2147483648) (hdg : decode Y.2.1 pc = .ok (.invokestatic index, 3))
    (kk : W p l e R s m args below meth c H locs cells slots Q (F0 m (pc + 3) ls (.int (jI (min a b)) :: rest))) : W p l e R s m args below meth c H locs cells slots Q (F0 m pc ls (.int (jI b) :: .int (jI a) :: rest)) :=
  va_mmin F.1 F.2.1 (F.2.2.2.2.1.trans hl.1.symm) F.own (F.wd hw) (F.wd wsJ8_min) (F.wd wzJ8) (F.wd wdJ8_min) hfr hlo hcs.1 hcs.2 hdg (by rw [jI_min ra rb]; exact kk)
theorem jv_obj {q : Nat} (F : jF p s m args meth c Y D cA) (hw : Cond.methodLink Y.1.cls index objectInit ∈ gw) (hl : lv_has ls Y.2.2.1 lv) (hfr : 1 ≤ R.frames) (hlo : (rest.map fun v => v.category).sum + 12 ≤ R.locals) (hdg : decode Y.2.1 pc = .ok (.invokespecial index, 3))
    (kk : W p l e R s m args below meth c H locs cells slots Q (F0 m (pc + 3) ls rest)) : W p l e R s m args below meth c H locs cells slots Q (F0 m pc ls (.ref q :: rest)) :=
  W.objInit F.1 F.2.1 F.own (F.wd hw) (F.wd woJ0_init) (F.wd wdJ0_init) rfl (hl.1.trans F.2.2.2.2.1.symm) rfl hdg hfr (by show 2 * 0 + _ + 12 ≤ _; omega) (W.eq rfl kk)
theorem jv_newa {N' : Nat} (F : jF p s m args meth c Y D cA) (hP : va_P D cls ws H) (hD : va_D A ws) (hS : va_S A H0 H locs) (hA : ∀ q, H0.size ≤ q → A q) (hn : ¬ jI a < 0) (hN : (jI a).toNatClampNeg = N') (hcells : cells + 1 ≤ R.cells) (hslots : slots + N' ≤ R.slots ∧ N' ≤ 100000) (hdg : decode Y.2.1 pc = .ok (.newarray .int, 2))
    (kk : ∀ (q : Nat) (H1 : Heap), va_P D cls (ws ++ [(q, .inl (cA, N', .inl (jA fun _ => 0)))]) H1 → va_D A (ws ++ [(q, .inl (cA, N', .inl (jA fun _ => 0)))]) → va_S A H0 H1 locs →
      W p l e R s m args below meth c H1 locs (cells + 1) (slots + N') Q (F0 m (pc + 2) ls (.ref q :: rest))) : W p l e R s m args below meth c H locs cells slots Q (F0 m pc ls (.int (jI a) :: rest)) := by
  refine va_newa (atype := .int) (a0 := (N', .inl (jA fun _ => 0))) F.1 F.2.1 (F.wd wa_int) (ty := .int) rfl F.K hP hD hS hA (fun _ => rfl) hn hN (by show N' * 4 ≤ _; omega) hcells hslots.1 hdg (fun q cA' H1 hK' hP hD hS => ?_)
  have h1 : s.vm.findClass ("[" ++ FieldType.int.toString) = some cA := (F.K.2 0 _ rfl).2
  have h2 : s.vm.findClass ("[" ++ FieldType.int.toString) = some cA' := (hK'.2 1 _ rfl).2
  have e : cA' = cA := Option.some.inj (h2.symm.trans h1)
  subst e
  exact kk q H1 hP hD hS
theorem jv_new {C : String} {T : u_T} {N ci : Nat} {ty : Nat → FieldType} {fs : List Value} (F : jF p s m args meth c Y D cA) (hw : jNw Y.1.cls index ci C T N) (hp : jPf T N ty) (hP : va_P D cls ws H) (hD : va_D A ws) (hS : va_S A H0 H locs) (hA : ∀ q, H0.size ≤ q → A q) (hfs : ∀ j, j < N → defaultValue (ty j) = vp_V fs j) (hcells : cells + 1 ≤ R.cells) (hslots : slots + N ≤ R.slots) (hdg : decode Y.2.1 pc = .ok (.new index, 3))
    (kk : ∀ (q : Nat) (H1 : Heap), va_P D cls (ws ++ [(q, .inr (ci, fs))]) H1 → va_D A (ws ++ [(q, .inr (ci, fs))]) → va_S A H0 H1 locs →
      W p l e R s m args below meth c H1 locs (cells + 1) (slots + N) Q (F0 m (pc + 3) ls (.ref q :: rest))) : W p l e R s m args below meth c H locs cells slots Q (F0 m pc ls rest) :=
  va_new F.1 F.2.1 (Ts := gw) (fun w h => F.wd h) hw.1 ty hp.1 F.own (F.wd hw.2.2.1) (F.wd hw.2.2.2.1) (F.wd hw.2.2.2.2) F.K hP hD hS hA hw.2.1 hfs hcells hslots hdg kk
theorem jv_tabOut {cc : ByteArray} {dflt lo hi : Int} {offs : Array Int} {len tgt : Nat} (hx : p.tables.exec = Jvm.exec) (hb : c.code = cc) (hdg : decode cc pc = .ok (.tableswitch dflt lo hi offs, len)) (hr : -2147483648 ≤ a ∧ a < 2147483648) (h : a < lo ∨ hi < a) (ht : (pc : Int) + dflt = (tgt : Int))
    (k : W p l e R s m args below meth c H locs cells slots Q (F0 m tgt ls rest)) : W p l e R s m args below meth c H locs cells slots Q (F0 m pc ls (.int (jI a) :: rest)) :=
  lv_tableOut hx hb hdg (by rw [jI_toInt hr]; exact h) ht k
end JD
