/-! ===== the words that every method has: those of the tables that stay true as the tables warm up ===== -/
def gw : List Cond := lw_tbl.filter goodWord
theorem gw_of {w : Cond} (h : w ∈ lw_tbl) (hg : goodWord w = true) : w ∈ gw := List.mem_filter.mpr ⟨h, hg⟩
theorem gw_good : ∀ w ∈ gw, (w.onTables && w.keeps) = true ∨ ∃ ty, w = .arrayClass ty := fun w h => good_of_word (List.mem_filter.mp h).2
theorem gw_in {c1 : Cond} (h : c1 ∈ gw) : GoodIn gw (c1 :: gw) := fun w hw => (List.mem_cons.mp hw).elim (fun e => ⟨e ▸ h, gw_good w (e ▸ h)⟩) (fun h2 => ⟨h2, gw_good w h2⟩)
/-- private members of nest mates: what the tables say of them -/
def nst (U : State) : Prop := ∀ a i x h, Cond.methodLinkNest a i x h ∈ tables_1 → va_Nw (.methodLinkNest a i x h) U
theorem nst.warm {s U : State} (hW : s.WarmedH U.vm) (h : nst s) : nst U := fun a i x g hm => va_Nw.warmM hW (h a i x g hm)
theorem nst.same {u U : State} (hv : u.vm = U.vm) (h : nst u) : nst U := fun a i x g hm => va_Nw.same rfl hv (h a i x g hm)
/-- what is known of the classes at any time -/
def cxt (D : va_G) (cA : ClassId) (U : State) : Prop := va_K D cls [(cA, .int)] U ∧ nst U
theorem cxt.warm {D : va_G} {cA : ClassId} {s U : State} (hW : s.WarmedH U.vm) (h : cxt D cA s) : cxt D cA U := ⟨va_K.moved hW.alike h.1, nst.warm hW h.2⟩
theorem cxt.call {D : va_G} {cA : ClassId} {U : State} {g : JFrame} {mk : MethodId} {a : Array Value} (h : cxt D cA U) : cxt D cA (U.calling g mk a) := ⟨va_K.moved (u := U) (U := U.calling g mk a) (Vm.Alike.refl U.vm) h.1, nst.same (u := U) (U := U.calling g mk a) rfl h.2⟩
/-- a start of a method that reads; of one that writes -/
def jP (D : va_G) (cA : ClassId) (av : List Value) (wc : va_W) : Array Value → State → Prop := fun v U => v = av.toArray ∧ cxt D cA U ∧ va_P D cls wc U.heap
theorem jP_blind {D : va_G} {cA : ClassId} {av : List Value} {wc : va_W} : FrameBlind (jP D cA av wc) := fun _ _ _ _ h => ⟨h.1, cxt.call h.2.1, h.2.2⟩
def jPM (D : va_G) (cA : ClassId) (av : List Value) (wc : va_W) (sz : Nat) : Array Value → State → Prop := fun v U => v = av.toArray ∧ cxt D cA U ∧ U.heap.size = sz ∧ va_P D cls wc U.heap ∧ va_D (fun _ => True) wc
theorem jPM_blind {D : va_G} {cA : ClassId} {av : List Value} {wc : va_W} {sz : Nat} : FrameBlind (jPM D cA av wc sz) := fun _ _ _ _ h => ⟨h.1, cxt.call h.2.1, h.2.2⟩
/-- an end without a trace: the answer, the heap as it was -/
def jS (Po : Value → Prop) : Array Value → State → Outcome → State → Prop := fun _ st oc t => (∃ v, oc = .returned (some v) ∧ Po v) ∧ t.heap = st.heap
/-- an end with a new world -/
def jQ (D : va_G) (Wd : Option Value → va_W → Prop) (A : Nat → Prop) : Array Value → State → Outcome → State → Prop := fun _ st oc t => (∃ v w1, oc = .returned v ∧ Wd v w1 ∧ va_P D cls w1 t.heap ∧ va_D A w1) ∧ va_F A st t
abbrev jws (Y : jY) : List Cond := Cond.code Y.1 Y.2.1 Y.2.2.1 Y.2.2.2 :: gw
abbrev rmk (f mc ms lo : Nat) : Room := { frames := f, cells := mc, slots := ms, locals := lo }
/-- the contract of a method that reads -/
def jR (l : Launch) (Y : jY) (rm : Room) (D : va_G) (cA : ClassId) (av : List Value) (wc : va_W) (Po : Value → Prop) : Prop := Met l Y.1 (jws Y) rm (jP D cA av wc) (jS Po) 0 0 (fun _ => False)
/-- the contract of a method that writes -/
def jM (l : Launch) (Y : jY) (rm : Room) (D : va_G) (cA : ClassId) (av : List Value) (wc : va_W) (Wd : Option Value → va_W → Prop) (mc ms : Nat) : Prop := ∀ sz : Nat, Met l Y.1 (jws Y) rm (jPM D cA av wc sz) (jQ D Wd (va_A wc sz)) mc ms (va_A wc sz)
/-- what stands fixed in a method -/
def jF (p : Program) (s : State) (m : MethodId) (args : Array Value) (meth : Method) (c : Code) (Y : jY) (D : va_G) (cA : ClassId) : Prop :=
  p.tables.exec = Jvm.exec ∧ c.code = Y.2.1 ∧ meth.sig.returnType = Y.2.2.2 ∧ meth.locks = false ∧ c.maxLocals = Y.2.2.1 ∧ s.vm.findClass Y.1.cls = some m.cls ∧ (∀ w ∈ gw, w.before args s = true) ∧ cxt D cA s ∧ (Y.1.name = "<init>" → meth.name = "<init>")
section JF
variable {p : Program} {s : State} {m : MethodId} {args : Array Value} {meth : Method} {c : Code} {Y : jY} {D : va_G} {cA : ClassId}
theorem jF.own (F : jF p s m args meth c Y D cA) : s.vm.findClass Y.1.cls = some m.cls := F.2.2.2.2.2.1
theorem jF.ts (F : jF p s m args meth c Y D cA) : ∀ w ∈ gw, w.before args s = true := F.2.2.2.2.2.2.1
theorem jF.wd (F : jF p s m args meth c Y D cA) {w : Cond} (h : w ∈ gw) : w.before args s = true := F.ts w h
theorem jF.cx (F : jF p s m args meth c Y D cA) : cxt D cA s := F.2.2.2.2.2.2.2.1
theorem jF.K (F : jF p s m args meth c Y D cA) : va_K D cls [(cA, .int)] s := F.cx.1
theorem jF.fix (F : jF p s m args meth c Y D cA) : CallFix p m c Y.2.1 Y.2.2.1 s args gw Y.1.cls := ⟨F.1, F.2.1, F.2.2.2.2.1, F.own, F.ts⟩
end JF
theorem jR.intro {l : Launch} {Y : jY} {rm : Room} {D : va_G} {cA : ClassId} {av : List Value} {wc : va_W} {Po : Value → Prop} (hy : plainName Y.1.cls = true) (hlen : (lg_sl av).length ≤ Y.2.2.1)
    (body : ∀ (p : Program) (e : Env) (s : State) (m : MethodId) (args : Array Value) (below : List Frame) (meth : Method) (c : Code) (ls : Array Slot) (Q : State → Prop), jF p s m args meth c Y D cA → Q = MQ below (jS Po) args s 0 0 (fun _ => False) → va_P D cls wc s.heap → lv_has ls Y.2.2.1 (lv_args 0 av) →
      W p l e rm s m args below meth c s.heap [] 0 0 Q (F0 m 0 ls [])) : jR l Y rm D cA av wc Po := by
  refine Met.ofW (cc := Y.2.1) (maxL := Y.2.2.1) (ret := Y.2.2.2) hy rfl ?_
  intro p e s m args below meth c s₁ B hml hv
  obtain ⟨rfl, hcx, hpic⟩ := hv
  have hts := atoms_spec (ws := jws Y) B.pre
  rw [lg_entry_eq]
  exact body p e s m _ below meth c _ _ ⟨B.exec, B.bytes, B.returns, B.notSynchronized, hml, findClass_of_methodNamed B.named, fun w h => hts w (List.mem_cons_of_mem _ h), hcx, fun h => (name_of_methodNamed B.named B.method).1.trans h⟩ rfl hpic (lv_entry av hlen)
theorem jM.intro {l : Launch} {Y : jY} {rm : Room} {D : va_G} {cA : ClassId} {av : List Value} {wc : va_W} {Wd : Option Value → va_W → Prop} {mc ms : Nat} (hy : plainName Y.1.cls = true) (hlen : (lg_sl av).length ≤ Y.2.2.1)
    (body : ∀ (p : Program) (e : Env) (s : State) (m : MethodId) (args : Array Value) (below : List Frame) (meth : Method) (c : Code) (ls : Array Slot) (Q : State → Prop) (A : Nat → Prop), jF p s m args meth c Y D cA → Q = MQ below (jQ D Wd A) args s mc ms A → (∀ q : Nat, s.heap.size ≤ q → A q) → va_P D cls wc s.heap → va_D A wc → va_S A s.heap s.heap [] → lv_has ls Y.2.2.1 (lv_args 0 av) →
      W p l e rm s m args below meth c s.heap [] 0 0 Q (F0 m 0 ls [])) : jM l Y rm D cA av wc Wd mc ms := by
  intro sz
  refine Met.ofW (cc := Y.2.1) (maxL := Y.2.2.1) (ret := Y.2.2.2) hy rfl ?_
  intro p e s m args below meth c s₁ B hml hv
  obtain ⟨rfl, hcx, hsz, hP, hD⟩ := hv
  subst hsz
  have hts := atoms_spec (ws := jws Y) B.pre
  rw [lg_entry_eq]
  exact body p e s m _ below meth c _ _ (va_A wc s.heap.size) ⟨B.exec, B.bytes, B.returns, B.notSynchronized, hml, findClass_of_methodNamed B.named, fun w h => hts w (List.mem_cons_of_mem _ h), hcx, fun h => (name_of_methodNamed B.named B.method).1.trans h⟩ rfl (fun q h => Or.inr h) hP hD.self va_S.rf (lv_entry av hlen)
theorem jsub {ws wc : va_W} {is : List Nat} (h : is.map (fun i => ws[i]?) = wc.map some) : is.filterMap (fun i => ws[i]?) = wc := by
  have e : is.filterMap (fun i => ws[i]?) = (is.map (fun i => ws[i]?)).filterMap id := by rw [List.filterMap_map]; rfl
  rw [e, h, List.filterMap_map]
  exact List.filterMap_some
section JC
variable {p : Program} {l : Launch} {e : Env} {R : Room} {s : State} {m : MethodId} {args : Array Value} {below : List Frame} {meth : Method} {c : Code} {H : Heap} {locs : List Loc} {cells slots : Nat} {Q : State → Prop}
variable {pc : Nat} {ls : Array Slot} {rest st0 : List Value} {a : Array Value} {A A0 : Nat → Prop} {H0 : Heap} {mc ms : Nat} {D : va_G} {cA : ClassId} {Y Yc : jY} {Po : Value → Prop} {Wd : Option Value → va_W → Prop} {w1 : va_W} {z : Int}
/-! ends -/
theorem jR.ri (F : jF p s m args meth c Y D cA) (hQ : Q = MQ below (jS Po) args s 0 0 (fun _ => False)) (hret : Y.2.2.2 = some .int) (hdg : decode Y.2.1 pc = .ok (.ireturn, 1)) (hv : Po (.int (jI z))) : W p l e R s m args below meth c s.heap [] 0 0 Q (F0 m pc ls [.int (jI z)]) := by
  subst hQ
  exact W.iret F.1 F.2.1 (F.2.2.1.trans hret) (fun t ht hW => ⟨⟨_, rfl, hv⟩, ht⟩) (fun q h => by cases h) hdg F.2.2.2.1
theorem jB_nar {z : Int} (h : z = 0 ∨ z = 1) : narrow .boolean (.int (jI z)) = .int (jI z) := by rcases h with rfl | rfl <;> decide +kernel
theorem jR.rz (F : jF p s m args meth c Y D cA) (hQ : Q = MQ below (jS Po) args s 0 0 (fun _ => False)) (hret : Y.2.2.2 = some .boolean) (hz : z = 0 ∨ z = 1) (hdg : decode Y.2.1 pc = .ok (.ireturn, 1)) (hv : Po (.int (jI z))) : W p l e R s m args below meth c s.heap [] 0 0 Q (F0 m pc ls [.int (jI z)]) := by
  subst hQ
  exact W.zret F.1 F.2.1 (F.2.2.1.trans hret) (jB_nar hz) (fun t ht hW => ⟨⟨_, rfl, hv⟩, ht⟩) (fun q h => by cases h) hdg F.2.2.2.1
theorem jR.ra {n : String} {b : Nat} (F : jF p s m args meth c Y D cA) (hQ : Q = MQ below (jS Po) args s 0 0 (fun _ => False)) (hret : Y.2.2.2 = some (.object n)) (hdg : decode Y.2.1 pc = .ok (.areturn, 1)) (hv : Po (.ref b)) : W p l e R s m args below meth c s.heap [] 0 0 Q (F0 m pc ls [.ref b]) := by
  subst hQ
  exact W.aret F.1 F.2.1 (F.2.2.1.trans hret) (Or.inl ⟨_, rfl⟩) (Or.inr ⟨_, rfl⟩) (fun t ht hW => ⟨⟨_, rfl, hv⟩, ht⟩) (fun q h => by cases h) hdg F.2.2.2.1
theorem jR.rn {n : String} (F : jF p s m args meth c Y D cA) (hQ : Q = MQ below (jS Po) args s 0 0 (fun _ => False)) (hret : Y.2.2.2 = some (.object n)) (hdg : decode Y.2.1 pc = .ok (.areturn, 1)) (hv : Po .null) : W p l e R s m args below meth c s.heap [] 0 0 Q (F0 m pc ls [.null]) := by
  subst hQ
  exact W.aret F.1 F.2.1 (F.2.2.1.trans hret) (Or.inl ⟨_, rfl⟩) (Or.inl rfl) (fun t ht hW => ⟨⟨_, rfl, hv⟩, ht⟩) (fun q h => by cases h) hdg F.2.2.2.1
theorem jM.rv (F : jF p s m args meth c Y D cA) (hQ : Q = MQ below (jQ D Wd A) args s mc ms A) (hret : Y.2.2.2 = none) (hdg : decode Y.2.1 pc = .ok (.return_, 1)) (hS : va_S A s.heap H locs) (hP : va_P D cls w1 H) (hD : va_D A w1) (hv : Wd none w1) : W p l e R s m args below meth c H locs mc ms Q (F0 m pc ls []) := by
  subst hQ
  exact W.vret F.1 F.2.1 (F.2.2.1.trans hret) (fun t ht hW => ⟨⟨_, w1, rfl, hv, by rw [ht]; exact hP, hD⟩, hS.F ht⟩) hS.2.2 hdg F.2.2.2.1
theorem jM.ri (F : jF p s m args meth c Y D cA) (hQ : Q = MQ below (jQ D Wd A) args s mc ms A) (hret : Y.2.2.2 = some .int) (hdg : decode Y.2.1 pc = .ok (.ireturn, 1)) (hS : va_S A s.heap H locs) (hP : va_P D cls w1 H) (hD : va_D A w1) (hv : Wd (some (.int (jI z))) w1) : W p l e R s m args below meth c H locs mc ms Q (F0 m pc ls [.int (jI z)]) := by
  subst hQ
  exact W.iret F.1 F.2.1 (F.2.2.1.trans hret) (fun t ht hW => ⟨⟨_, w1, rfl, hv, by rw [ht]; exact hP, hD⟩, hS.F ht⟩) hS.2.2 hdg F.2.2.2.1
theorem jM.rz (F : jF p s m args meth c Y D cA) (hQ : Q = MQ below (jQ D Wd A) args s mc ms A) (hret : Y.2.2.2 = some .boolean) (hz : z = 0 ∨ z = 1) (hdg : decode Y.2.1 pc = .ok (.ireturn, 1)) (hS : va_S A s.heap H locs) (hP : va_P D cls w1 H) (hD : va_D A w1) (hv : Wd (some (.int (jI z))) w1) : W p l e R s m args below meth c H locs mc ms Q (F0 m pc ls [.int (jI z)]) := by
  subst hQ
  exact W.zret F.1 F.2.1 (F.2.2.1.trans hret) (jB_nar hz) (fun t ht hW => ⟨⟨_, w1, rfl, hv, by rw [ht]; exact hP, hD⟩, hS.F ht⟩) hS.2.2 hdg F.2.2.2.1
theorem jM.ra {n : String} {b : Nat} (F : jF p s m args meth c Y D cA) (hQ : Q = MQ below (jQ D Wd A) args s mc ms A) (hret : Y.2.2.2 = some (.object n)) (hdg : decode Y.2.1 pc = .ok (.areturn, 1)) (hS : va_S A s.heap H locs) (hP : va_P D cls w1 H) (hD : va_D A w1) (hv : Wd (some (.ref b)) w1) : W p l e R s m args below meth c H locs mc ms Q (F0 m pc ls [.ref b]) := by
  subst hQ
  exact W.aret F.1 F.2.1 (F.2.2.1.trans hret) (Or.inl ⟨_, rfl⟩) (Or.inr ⟨_, rfl⟩) (fun t ht hW => ⟨⟨_, w1, rfl, hv, by rw [ht]; exact hP, hD⟩, hS.F ht⟩) hS.2.2 hdg F.2.2.2.1
/-! behind a call -/
theorem jr_go (hr : va_Run p l e R s m args below meth c H locs cells slots 0 0 (F0 m pc ls st0) rest (jS Po a) (fun _ => False))
    (kk : ∀ v, Po v → W p l e R s m args below meth c H locs cells slots Q (F0 m (pc + 3) ls (v :: rest))) : W p l e R s m args below meth c H locs cells slots Q (F0 m pc ls st0) := by
  intro T hT X
  obtain ⟨v', st₀, t, T', L, h0, X', hL, e1, -, ⟨⟨v, hv, hp⟩, hh⟩, st⟩ := hr T hT X
  cases hv
  obtain ⟨t2, a1, b1⟩ := kk v hp T' (by rw [e1, hh, h0]) (Stand.forget X' (fun q h => (hL q h).elim))
  exact ⟨t2, st t2 a1, b1⟩
theorem jw_go {ws wc wr : va_W} (hr : va_Run p l e R s m args below meth c H locs cells slots mc ms (F0 m pc ls st0) rest (jQ D Wd (va_A wc H.size) a) (va_A wc H.size))
    (hP : va_P D cls ws H) (hD : va_D A0 ws) (hS : va_S A0 H0 H locs) (hA : ∀ q, H0.size ≤ q → A0 q) (isC isR : List Nat) (hC : isC.map (fun i => ws[i]?) = wc.map some) (hR : isR.map (fun i => ws[i]?) = wr.map some) (hn : va_nd isR = true) (hdis : ∀ i ∈ isR, i ∉ isC)
    (kk : ∀ (v : Option Value) (w1 : va_W) (H1 : Heap) (locs1 : List Loc), Wd v w1 → va_P D cls (wr ++ w1) H1 → va_D A0 (wr ++ w1) → va_S A0 H0 H1 locs1 → W p l e R s m args below meth c H1 locs1 (cells + mc) (slots + ms) Q (F0 m (pc + 3) ls (v.toList ++ rest))) : W p l e R s m args below meth c H locs cells slots Q (F0 m pc ls st0) := by
  have hF := va_free (wc := wc) hD hS hA isC hC
  intro T hT X
  obtain ⟨v', st₀, t, T', L, h0, X', hL, e1, -, ⟨⟨v, w1, hv, hw, hP1, hD1⟩, hz, hk⟩, st⟩ := hr T hT X
  cases hv
  rw [h0] at hz hk
  rw [← e1] at hP1 hz hk
  obtain ⟨hP2, hD2⟩ := va_join (wr := wr) (w1 := w1) hP hD isC isR hC hR hn hdis hk hF hP1 hD1
  obtain ⟨t2, a1, b1⟩ := kk v' w1 T'.heap (locs ++ L) hw hP2 hD2
    ⟨Nat.le_trans hS.1 hz, fun q h1 h2 => by rw [hk q (Nat.lt_of_lt_of_le h1 hS.1) (fun z => h2 (hF q z))]; exact hS.2.1 q h1 h2, fun q hq => by
      rcases List.mem_append.mp hq with h | h
      · exact hS.2.2 q h
      · exact hF _ (hL q h)⟩ T' rfl X'
  exact ⟨t2, st t2 a1, b1⟩
/-! what a call's words are -/
def jOk (Yc : jY) (n : Nat) : Prop := Yc.1.cls ≠ "java/lang/invoke/MethodHandle" ∧ Yc.1.cls ≠ "java/lang/invoke/VarHandle" ∧ (parseMethodDescriptor Yc.1.desc).map (fun d => d.parameters.length) = some n
def jCo (Yc : jY) : Prop := Cond.code Yc.1 Yc.2.1 Yc.2.2.1 Yc.2.2.2 ∈ gw ∧ Cond.initialized Yc.1.cls ∈ gw
def jCV (own : String) (index : Nat) (Yc : jY) (n : Nat) : Prop := jCo Yc ∧ jOk Yc n ∧ Cond.methodLink own index Yc.1 ∈ gw ∧ Cond.instanceMethod Yc.1 ∈ gw ∧ Cond.selects Yc.1.cls Yc.1 Yc.1 ∈ gw
def jCS (own : String) (index : Nat) (Yc : jY) (n : Nat) : Prop := jCo Yc ∧ jOk Yc n ∧ Cond.methodLink own index Yc.1 ∈ gw ∧ Cond.static Yc.1 ∈ gw
def jCI (own : String) (index : Nat) (Yc : jY) (n : Nat) : Prop := jCo Yc ∧ jOk Yc n ∧ Cond.methodLink own index Yc.1 ∈ gw ∧ Cond.instanceMethod Yc.1 ∈ gw ∧ Yc.1.name = "<init>" ∧ Yc.2.2.2 = none
def jCSN (own : String) (index : Nat) (Yc : jY) (n : Nat) : Prop := jCo Yc ∧ jOk Yc n ∧ (∃ h, Cond.methodLinkNest own index Yc.1 h ∈ tables_1) ∧ Cond.static Yc.1 ∈ gw
def jCIN (own : String) (index : Nat) (Yc : jY) (n : Nat) : Prop := jCo Yc ∧ jOk Yc n ∧ (∃ h, Cond.methodLinkNest own index Yc.1 h ∈ tables_1) ∧ Cond.instanceMethod Yc.1 ∈ gw ∧ Yc.1.name = "<init>" ∧ Yc.2.2.2 = none
variable {rc : Room} {index b ci n N : Nat} {As fs : List Value} {ws wc wr : va_W} {T : u_T} {lv : List (Nat × Value)}
abbrev jRm (rc R : Room) (Yc : jY) (mc ms : Nat) : Prop := rc.cells = mc ∧ rc.slots = ms ∧ rc.frames + 1 ≤ R.frames ∧ 8 + (Yc.2.2.1 + 11) + rc.locals ≤ R.locals
theorem jr_V (F : jF p s m args meth c Y D cA) (hM : jR l Yc rc D cA (.ref b :: As) wc Po) (hw : jCV Y.1.cls index Yc n) (hP : va_P D cls ws H) (isC : List Nat) (hC : isC.map (fun i => ws[i]?) = wc.map some)
    (q0 : Nat) (he : ws[q0]? = some (b, .inr (ci, fs))) (hc : cls[ci]? = some (Yc.1.cls, T, N)) (hl : lv_has ls Y.2.2.1 lv) (hR : jRm rc R Yc 0 0) (hn : As.length = n) (hst : st0 = As.reverse ++ .ref b :: rest) (hcat : (rest.map fun v => v.category).sum ≤ 8)
    (hdg : decode Y.2.1 pc = .ok (.invokevirtual index, 3)) (hcs : cells ≤ R.cells ∧ slots ≤ R.slots)
    (kk : ∀ v, Po v → W p l e R s m args below meth c H locs cells slots Q (F0 m (pc + 3) ls (v :: rest))) : W p l e R s m args below meth c H locs cells slots Q (F0 m pc ls st0) := by
  obtain ⟨⟨w5, w3⟩, hd, w1, w2, w4⟩ := hw
  exact jr_go (va_runV (C := Yc.1.cls) F.fix hM ⟨callB_of n F.ts (gw_in w5) rfl hR.1 hR.2.1 (F.wd w3) (F.wd w1) hd hR.2.2, F.wd w2, F.wd w4⟩ ⟨jP_blind, va_recv F.K hP hc he, fun U hU hW => ⟨rfl, cxt.warm hW F.cx, by rw [hU]; exact hP.sub isC (jsub hC)⟩⟩ rfl hn hl.1 hst (lv_room hcat) hdg hcs) kk
theorem jr_S (F : jF p s m args meth c Y D cA) (hM : jR l Yc rc D cA As wc Po) (hw : jCS Y.1.cls index Yc n) (hP : va_P D cls ws H) (isC : List Nat) (hC : isC.map (fun i => ws[i]?) = wc.map some)
    (hl : lv_has ls Y.2.2.1 lv) (hR : jRm rc R Yc 0 0) (hn : As.length = n) (hst : st0 = As.reverse ++ rest) (hcat : (rest.map fun v => v.category).sum ≤ 8)
    (hdg : decode Y.2.1 pc = .ok (.invokestatic index, 3)) (hcs : cells ≤ R.cells ∧ slots ≤ R.slots)
    (kk : ∀ v, Po v → W p l e R s m args below meth c H locs cells slots Q (F0 m (pc + 3) ls (v :: rest))) : W p l e R s m args below meth c H locs cells slots Q (F0 m pc ls st0) := by
  obtain ⟨⟨w5, w3⟩, hd, w1, w2⟩ := hw
  exact jr_go (va_runS F.fix hM ⟨callB_of n F.ts (gw_in w5) rfl hR.1 hR.2.1 (F.wd w3) (F.wd w1) hd hR.2.2, F.wd w2⟩ ⟨jP_blind, fun U hU hW => ⟨rfl, cxt.warm hW F.cx, by rw [hU]; exact hP.sub isC (jsub hC)⟩⟩ rfl hn hl.1 hst (lv_room hcat) hdg hcs) kk
theorem jr_SN (F : jF p s m args meth c Y D cA) (hM : jR l Yc rc D cA As wc Po) (hw : jCSN Y.1.cls index Yc n) (hP : va_P D cls ws H) (isC : List Nat) (hC : isC.map (fun i => ws[i]?) = wc.map some)
    (hl : lv_has ls Y.2.2.1 lv) (hR : jRm rc R Yc 0 0) (hn : As.length = n) (hst : st0 = As.reverse ++ rest) (hcat : (rest.map fun v => v.category).sum ≤ 8)
    (hdg : decode Y.2.1 pc = .ok (.invokestatic index, 3)) (hcs : cells ≤ R.cells ∧ slots ≤ R.slots)
    (kk : ∀ v, Po v → W p l e R s m args below meth c H locs cells slots Q (F0 m (pc + 3) ls (v :: rest))) : W p l e R s m args below meth c H locs cells slots Q (F0 m pc ls st0) := by
  obtain ⟨⟨w5, w3⟩, hd, ⟨hh, w1⟩, w2⟩ := hw
  exact jr_go (va_runSN (host := hh) F.fix hM ⟨va_cnB n F.ts (gw_in w5) rfl hR.1 hR.2.1 (F.cx.2 _ _ _ _ w1) (F.wd w3) hd hR.2.2, F.wd w2, trivial⟩ ⟨jP_blind, fun U hU hW => ⟨rfl, cxt.warm hW F.cx, by rw [hU]; exact hP.sub isC (jsub hC)⟩⟩ rfl hn hl.1 hst (lv_room hcat) hdg hcs) kk
theorem jw_V (F : jF p s m args meth c Y D cA) (hM : jM l Yc rc D cA (.ref b :: As) wc Wd mc ms) (hw : jCV Y.1.cls index Yc n) (hP : va_P D cls ws H) (hD : va_D A0 ws) (hS : va_S A0 H0 H locs) (hA : ∀ q, H0.size ≤ q → A0 q) (isC isR : List Nat) (hC : isC.map (fun i => ws[i]?) = wc.map some) (hRr : isR.map (fun i => ws[i]?) = wr.map some) (hnd : va_nd isR = true) (hdis : ∀ i ∈ isR, i ∉ isC)
    (q0 : Nat) (he : ws[q0]? = some (b, .inr (ci, fs))) (hc : cls[ci]? = some (Yc.1.cls, T, N)) (hl : lv_has ls Y.2.2.1 lv) (hR : jRm rc R Yc mc ms) (hn : As.length = n) (hst : st0 = As.reverse ++ .ref b :: rest) (hcat : (rest.map fun v => v.category).sum ≤ 8)
    (hdg : decode Y.2.1 pc = .ok (.invokevirtual index, 3)) (hcs : cells + mc ≤ R.cells ∧ slots + ms ≤ R.slots) (hnC : va_nd isC = true)
    (kk : ∀ (v : Option Value) (w1 : va_W) (H1 : Heap) (locs1 : List Loc), Wd v w1 → va_P D cls (wr ++ w1) H1 → va_D A0 (wr ++ w1) → va_S A0 H0 H1 locs1 → W p l e R s m args below meth c H1 locs1 (cells + mc) (slots + ms) Q (F0 m (pc + 3) ls (v.toList ++ rest))) : W p l e R s m args below meth c H locs cells slots Q (F0 m pc ls st0) := by
  obtain ⟨⟨w5, w3⟩, hd, w1, w2, w4⟩ := hw
  exact jw_go (va_runV (C := Yc.1.cls) F.fix (hM H.size) ⟨callB_of n F.ts (gw_in w5) rfl hR.1 hR.2.1 (F.wd w3) (F.wd w1) hd hR.2.2, F.wd w2, F.wd w4⟩ ⟨jPM_blind, va_recv F.K hP hc he, fun U hU hW => ⟨rfl, cxt.warm hW F.cx, by rw [hU], by rw [hU]; exact hP.sub isC (jsub hC), (hD.sub isC hnC hC).weaken (fun _ _ _ _ => trivial)⟩⟩ rfl hn hl.1 hst (lv_room hcat) hdg hcs) hP hD hS hA isC isR hC hRr hnd hdis kk
theorem jw_S (F : jF p s m args meth c Y D cA) (hM : jM l Yc rc D cA As wc Wd mc ms) (hw : jCS Y.1.cls index Yc n) (hP : va_P D cls ws H) (hD : va_D A0 ws) (hS : va_S A0 H0 H locs) (hA : ∀ q, H0.size ≤ q → A0 q) (isC isR : List Nat) (hC : isC.map (fun i => ws[i]?) = wc.map some) (hRr : isR.map (fun i => ws[i]?) = wr.map some) (hnd : va_nd isR = true) (hdis : ∀ i ∈ isR, i ∉ isC)
    (hl : lv_has ls Y.2.2.1 lv) (hR : jRm rc R Yc mc ms) (hn : As.length = n) (hst : st0 = As.reverse ++ rest) (hcat : (rest.map fun v => v.category).sum ≤ 8)
    (hdg : decode Y.2.1 pc = .ok (.invokestatic index, 3)) (hcs : cells + mc ≤ R.cells ∧ slots + ms ≤ R.slots) (hnC : va_nd isC = true)
    (kk : ∀ (v : Option Value) (w1 : va_W) (H1 : Heap) (locs1 : List Loc), Wd v w1 → va_P D cls (wr ++ w1) H1 → va_D A0 (wr ++ w1) → va_S A0 H0 H1 locs1 → W p l e R s m args below meth c H1 locs1 (cells + mc) (slots + ms) Q (F0 m (pc + 3) ls (v.toList ++ rest))) : W p l e R s m args below meth c H locs cells slots Q (F0 m pc ls st0) := by
  obtain ⟨⟨w5, w3⟩, hd, w1, w2⟩ := hw
  exact jw_go (va_runS F.fix (hM H.size) ⟨callB_of n F.ts (gw_in w5) rfl hR.1 hR.2.1 (F.wd w3) (F.wd w1) hd hR.2.2, F.wd w2⟩ ⟨jPM_blind, fun U hU hW => ⟨rfl, cxt.warm hW F.cx, by rw [hU], by rw [hU]; exact hP.sub isC (jsub hC), (hD.sub isC hnC hC).weaken (fun _ _ _ _ => trivial)⟩⟩ rfl hn hl.1 hst (lv_room hcat) hdg hcs) hP hD hS hA isC isR hC hRr hnd hdis kk
theorem jw_I (F : jF p s m args meth c Y D cA) (hM : jM l Yc rc D cA (.ref b :: As) wc Wd mc ms) (hw : jCI Y.1.cls index Yc n) (hP : va_P D cls ws H) (hD : va_D A0 ws) (hS : va_S A0 H0 H locs) (hA : ∀ q, H0.size ≤ q → A0 q) (isC isR : List Nat) (hC : isC.map (fun i => ws[i]?) = wc.map some) (hRr : isR.map (fun i => ws[i]?) = wr.map some) (hnd : va_nd isR = true) (hdis : ∀ i ∈ isR, i ∉ isC)
    (hl : lv_has ls Y.2.2.1 lv) (hR : jRm rc R Yc mc ms) (hn : As.length = n) (hst : st0 = As.reverse ++ .ref b :: rest) (hcat : (rest.map fun v => v.category).sum ≤ 8)
    (hdg : decode Y.2.1 pc = .ok (.invokespecial index, 3)) (hcs : cells + mc ≤ R.cells ∧ slots + ms ≤ R.slots) (hnC : va_nd isC = true)
    (kk : ∀ (v : Option Value) (w1 : va_W) (H1 : Heap) (locs1 : List Loc), Wd v w1 → va_P D cls (wr ++ w1) H1 → va_D A0 (wr ++ w1) → va_S A0 H0 H1 locs1 → W p l e R s m args below meth c H1 locs1 (cells + mc) (slots + ms) Q (F0 m (pc + 3) ls (v.toList ++ rest))) : W p l e R s m args below meth c H locs cells slots Q (F0 m pc ls st0) := by
  obtain ⟨⟨w5, w3⟩, hd, w1, w2, hnm, hrt⟩ := hw
  obtain ⟨y, bb, mL, rt⟩ := Yc
  dsimp only at hrt
  subst hrt
  exact jw_go (va_runI F.fix (hM H.size) ⟨callB_of n F.ts (gw_in w5) rfl hR.1 hR.2.1 (F.wd w3) (F.wd w1) hd hR.2.2, hnm, F.wd w2⟩ ⟨jPM_blind, fun U hU hW => ⟨rfl, cxt.warm hW F.cx, by rw [hU], by rw [hU]; exact hP.sub isC (jsub hC), (hD.sub isC hnC hC).weaken (fun _ _ _ _ => trivial)⟩⟩ rfl hn hl.1 hst (lv_room hcat) hdg hcs) hP hD hS hA isC isR hC hRr hnd hdis kk
theorem jw_IN (F : jF p s m args meth c Y D cA) (hM : jM l Yc rc D cA (.ref b :: As) wc Wd mc ms) (hw : jCIN Y.1.cls index Yc n) (hP : va_P D cls ws H) (hD : va_D A0 ws) (hS : va_S A0 H0 H locs) (hA : ∀ q, H0.size ≤ q → A0 q) (isC isR : List Nat) (hC : isC.map (fun i => ws[i]?) = wc.map some) (hRr : isR.map (fun i => ws[i]?) = wr.map some) (hnd : va_nd isR = true) (hdis : ∀ i ∈ isR, i ∉ isC)
    (hl : lv_has ls Y.2.2.1 lv) (hR : jRm rc R Yc mc ms) (hn : As.length = n) (hst : st0 = As.reverse ++ .ref b :: rest) (hcat : (rest.map fun v => v.category).sum ≤ 8)
    (hdg : decode Y.2.1 pc = .ok (.invokespecial index, 3)) (hcs : cells + mc ≤ R.cells ∧ slots + ms ≤ R.slots) (hnC : va_nd isC = true)
    (kk : ∀ (v : Option Value) (w1 : va_W) (H1 : Heap) (locs1 : List Loc), Wd v w1 → va_P D cls (wr ++ w1) H1 → va_D A0 (wr ++ w1) → va_S A0 H0 H1 locs1 → W p l e R s m args below meth c H1 locs1 (cells + mc) (slots + ms) Q (F0 m (pc + 3) ls (v.toList ++ rest))) : W p l e R s m args below meth c H locs cells slots Q (F0 m pc ls st0) := by
  obtain ⟨⟨w5, w3⟩, hd, ⟨hh, w1⟩, w2, hnm, hrt⟩ := hw
  obtain ⟨y, bb, mL, rt⟩ := Yc
  dsimp only at hrt
  subst hrt
  exact jw_go (va_runIN (host := hh) F.fix (hM H.size) ⟨va_cnB n F.ts (gw_in w5) rfl hR.1 hR.2.1 (F.cx.2 _ _ _ _ w1) (F.wd w3) hd hR.2.2, hnm, F.wd w2⟩ ⟨jPM_blind, fun U hU hW => ⟨rfl, cxt.warm hW F.cx, by rw [hU], by rw [hU]; exact hP.sub isC (jsub hC), (hD.sub isC hnC hC).weaken (fun _ _ _ _ => trivial)⟩⟩ rfl hn hl.1 hst (lv_room hcat) hdg hcs) hP hD hS hA isC isR hC hRr hnd hdis kk
/-! fields and arrays -/
def jNw (own : String) (index ci : Nat) (C : String) (T : u_T) (N : Nat) : Prop := (∀ w ∈ u_ws C T N, w ∈ gw) ∧ cls[ci]? = some (C, T, N) ∧ Cond.classLink own index C ∈ gw ∧ Cond.instantiable C N ∈ gw ∧ Cond.initialized C ∈ gw
def jFl (own : String) (index ci k : Nat) (C : String) (T : u_T) (N : Nat) : Prop := (∀ w ∈ u_ws C T N, w ∈ gw) ∧ cls[ci]? = some (C, T, N) ∧ k < N ∧ Cond.fieldLink own index (T k).1 (T k).2.1 (T k).2.2.1 ∈ gw
def jPf (T : u_T) (N : Nat) (ty : Nat → FieldType) : Prop := (∀ k, k < N → parseFieldDescriptor (T k).2.2.1 = some (ty k)) ∧ ∀ a, a < N → ∀ b, b < N → a ≠ b → (T a).2.1 ≠ (T b).2.1
variable {C : String} {k : Nat} {v : Value} {ty : Nat → FieldType} {q : Nat} {fa : Int → Int} {an : Nat}
theorem jv_get (F : jF p s m args meth c Y D cA) (hP : va_P D cls ws H) (q0 : Nat) (he : ws[q0]? = some (q, .inr (ci, fs))) (hf : jFl Y.1.cls index ci k C T N) (hv : fs[k]? = some v) (hdg : decode Y.2.1 pc = .ok (.getfield index, 3))
    (kk : W p l e R s m args below meth c H locs cells slots Q (F0 m (pc + 3) ls (v :: rest))) : W p l e R s m args below meth c H locs cells slots Q (F0 m pc ls (.ref q :: rest)) :=
  va_get F.1 F.2.1 (Ts := gw) (fun w h => F.wd h) hf.1 F.own F.K hP q0 he hf.2.1 k hf.2.2.1 (F.wd hf.2.2.2) (fun _ h => h) hv hdg kk
theorem jv_put (F : jF p s m args meth c Y D cA) (hP : va_P D cls ws H) (hD : va_D A ws) (hS : va_S A H0 H locs) (q0 : Nat) (he : ws[q0]? = some (q, .inr (ci, fs))) (hf : jFl Y.1.cls index ci k C T N) (hp : jPf T N ty) (hfin : (T k).2.2.2 = false) (hn : narrow (ty k) v = v) (hfit : fits (ty k) v = true) (hl : k < fs.length) (hdg : decode Y.2.1 pc = .ok (.putfield index, 3))
    (kk : ∀ (H1 : Heap) (locs1 : List Loc), va_P D cls (ws.set q0 (q, .inr (ci, fs.set k v))) H1 → va_D A (ws.set q0 (q, .inr (ci, fs.set k v))) → va_S A H0 H1 locs1 → W p l e R s m args below meth c H1 locs1 cells slots Q (F0 m (pc + 3) ls rest)) : W p l e R s m args below meth c H locs cells slots Q (F0 m pc ls (v :: .ref q :: rest)) :=
  va_put F.1 F.2.1 (Ts := gw) (fun w h => F.wd h) hf.1 ty hp.1 hp.2 F.own F.K hP hD hS q0 he hf.2.1 k hf.2.2.1 (F.wd hf.2.2.2) (fun _ h => h) hfin (hp.1 k hf.2.2.1) hn hfit hl hdg kk
theorem jv_putF (F : jF p s m args meth c Y D cA) (hP : va_P D cls ws H) (hD : va_D A ws) (hS : va_S A H0 H locs) (q0 : Nat) (he : ws[q0]? = some (q, .inr (ci, fs))) (hf : jFl Y.1.cls index ci k C T N) (hp : jPf T N ty) (hfin : (T k).2.2.2 = true) (hin : Y.1.name = "<init>") (hdecl : (T k).1 = Y.1.cls) (hn : narrow (ty k) v = v) (hfit : fits (ty k) v = true) (hl : k < fs.length) (hdg : decode Y.2.1 pc = .ok (.putfield index, 3))
    (kk : ∀ (H1 : Heap) (locs1 : List Loc), va_P D cls (ws.set q0 (q, .inr (ci, fs.set k v))) H1 → va_D A (ws.set q0 (q, .inr (ci, fs.set k v))) → va_S A H0 H1 locs1 → W p l e R s m args below meth c H1 locs1 cells slots Q (F0 m (pc + 3) ls rest)) : W p l e R s m args below meth c H locs cells slots Q (F0 m pc ls (v :: .ref q :: rest)) :=
  va_putF F.1 F.2.1 (Ts := gw) (fun w h => F.wd h) hf.1 ty hp.1 hp.2 F.own F.K hP hD hS q0 he hf.2.1 k hf.2.2.1 (F.wd hf.2.2.2) (fun _ h => h) hfin (F.2.2.2.2.2.2.2.2 hin) hdecl (hp.1 k hf.2.2.1) hn hfit hl hdg kk
theorem jv_iald (F : jF p s m args meth c Y D cA) (hP : va_P D cls ws H) (q0 : Nat) (he : ws[q0]? = some (q, .inl (cA, an, .inl (jA fa)))) (hz : 0 ≤ z ∧ z < (an : Int)) (hn : an < 2147483648) (hdg : decode Y.2.1 pc = .ok (.iaload, 1))
    (kk : W p l e R s m args below meth c H locs cells slots Q (F0 m (pc + 1) ls (.int (jI (fa z)) :: rest))) : W p l e R s m args below meth c H locs cells slots Q (F0 m pc ls (.int (jI z) :: .ref q :: rest)) :=
  va_iald F.1 F.2.1 F.K hP q0 0 he rfl (jI_in hz hn) hdg (by rw [jA_at ⟨hz.1, by omega⟩]; exact kk)
theorem jv_iast {x : Int} (F : jF p s m args meth c Y D cA) (hP : va_P D cls ws H) (hD : va_D A ws) (hS : va_S A H0 H locs) (q0 : Nat) (he : ws[q0]? = some (q, .inl (cA, an, .inl (jA fa)))) (hz : 0 ≤ z ∧ z < (an : Int)) (hn : an < 2147483648) (hdg : decode Y.2.1 pc = .ok (.iastore, 1))
    (kk : ∀ (H1 : Heap) (locs1 : List Loc), va_P D cls (ws.set q0 (q, .inl (cA, an, .inl (jA (jU fa z x))))) H1 → va_D A (ws.set q0 (q, .inl (cA, an, .inl (jA (jU fa z x))))) → va_S A H0 H1 locs1 → W p l e R s m args below meth c H1 locs1 cells slots Q (F0 m (pc + 1) ls rest)) : W p l e R s m args below meth c H locs cells slots Q (F0 m pc ls (.int (jI x) :: .int (jI z) :: .ref q :: rest)) :=
  va_iast F.1 F.2.1 F.K hP hD hS q0 0 he rfl (jI_in hz hn) hdg (by rw [jA_up ⟨hz.1, by omega⟩]; exact kk)
end JC
