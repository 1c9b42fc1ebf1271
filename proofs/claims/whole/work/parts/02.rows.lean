/-! ===== whole numbers as the machine's ints: jI ===== -/
def jI (z : Int) : Int32 := Int32.ofInt z
theorem jI_toInt {z : Int} (h : -2147483648 ≤ z ∧ z < 2147483648) : (jI z).toInt = z := Int32.toInt_ofInt_of_le (by omega) (by omega)
theorem jI_add (a b : Int) : jI a + jI b = jI (a + b) := (Int32.ofInt_add a b).symm
theorem jI_sub (a b : Int) : jI a - jI b = jI (a - b) := (Int32.ofInt_sub a b).symm
theorem jI_mul (a b : Int) : jI a * jI b = jI (a * b) := (Int32.ofInt_mul a b).symm
theorem jI_neg (a : Int) : -jI a = jI (-a) := (Int32.ofInt_neg a).symm
theorem jI_of (x : Int32) : jI x.toInt = x := Int32.ofInt_toInt x
theorem jI_rg (x : Int32) : -2147483648 ≤ x.toInt ∧ x.toInt < 2147483648 := ⟨by have := x.le_toInt; omega, by have := x.toInt_lt; omega⟩
theorem jI_le {a b : Int} (ra : -2147483648 ≤ a ∧ a < 2147483648) (rb : -2147483648 ≤ b ∧ b < 2147483648) : jI a ≤ jI b ↔ a ≤ b := by rw [Int32.le_iff_toInt_le, jI_toInt ra, jI_toInt rb]
theorem jI_lt {a b : Int} (ra : -2147483648 ≤ a ∧ a < 2147483648) (rb : -2147483648 ≤ b ∧ b < 2147483648) : jI a < jI b ↔ a < b := by rw [Int32.lt_iff_toInt_lt, jI_toInt ra, jI_toInt rb]
theorem jI_eq {a b : Int} (ra : -2147483648 ≤ a ∧ a < 2147483648) (rb : -2147483648 ≤ b ∧ b < 2147483648) : jI a = jI b ↔ a = b := by rw [← Int32.toInt_inj, jI_toInt ra, jI_toInt rb]
theorem jI_0 : jI 0 = 0 := rfl
theorem jI_clamp {z : Int} (h : 0 ≤ z ∧ z < 2147483648) : (jI z).toNatClampNeg = z.toNat := Int32.toNatClampNeg_ofInt_of_le (by omega) (by omega)
theorem jI_in {z : Int} {n : Nat} (h : 0 ≤ z ∧ z < n) (hn : n < 2147483648) : vp_in (jI z) n := by
  unfold vp_in
  rw [jI_clamp ⟨h.1, by omega⟩, ← jI_0, jI_lt (by omega) (by omega)]
  omega
theorem jI_div {a b : Int} (ra : 0 ≤ a ∧ a < 2147483648) (rb : 0 < b ∧ b < 2147483648) : jI a / jI b = jI (a / b) := by
  have hq : 0 ≤ a / b ∧ a / b ≤ a := ⟨Int.ediv_nonneg ra.1 (by omega), Int.ediv_le_self _ ra.1⟩
  rw [← Int32.toInt_inj, Int32.toInt_div, jI_toInt (by omega), jI_toInt (by omega), jI_toInt (by omega), Int.tdiv_eq_ediv_of_nonneg ra.1]
  exact Int.bmod_eq_of_le (by omega) (by omega)
theorem jI_rem {a b : Int} (ra : 0 ≤ a ∧ a < 2147483648) (rb : 0 < b ∧ b < 2147483648) : jI a - jI a / jI b * jI b = jI (a % b) := by
  rw [jI_div ra rb, jI_mul, jI_sub, Int.emod_def, Int.mul_comm b]
/-- an array's contents by a function on whole numbers -/
def jA (F : Int → Int) : Nat → Int32 := fun j => jI (F (j : Int))
def jU (F : Int → Int) (z v : Int) : Int → Int := fun x => if x = z then v else F x
theorem jU_s {F : Int → Int} {z v : Int} : jU F z v z = v := by simp [jU]
theorem jU_n {F : Int → Int} {z v x : Int} (h : x ≠ z) : jU F z v x = F x := by simp [jU, h]
theorem jA_at {F : Int → Int} {z : Int} (h : 0 ≤ z ∧ z < 2147483648) : jA F (jI z).toNatClampNeg = jI (F z) := by
  rw [jI_clamp h]
  unfold jA
  rw [Int.toNat_of_nonneg h.1]
theorem jA_up {F : Int → Int} {z v : Int} (h : 0 ≤ z ∧ z < 2147483648) : upd (jA F) (jI z).toNatClampNeg (jI v) = jA (jU F z v) := by
  rw [jI_clamp h]
  funext j
  unfold upd jA jU
  by_cases hj : j = z.toNat
  · rw [if_pos hj, if_pos (by omega)]
  · rw [if_neg hj, if_neg (by omega)]
theorem jA_0 : (fun _ => (0 : Int32)) = jA (fun _ => 0) := rfl
section JV
variable {p : Program} {l : Launch} {e : Env} {R : Room} {s : State} {m : MethodId} {args : Array Value} {below : List Frame} {meth : Method} {c : Code} {H : Heap} {locs : List Loc} {cells slots : Nat} {Q : State → Prop}
variable {cc : ByteArray} {pc : Nat} {ls : Array Slot} {rest : List Value}
theorem jv_iadd (hx : p.tables.exec = Jvm.exec) (hb : c.code = cc) {a b : Int} (hdg : decode cc pc = .ok (.iadd, 1)) (k : W p l e R s m args below meth c H locs cells slots Q (F0 m (pc + 1) ls (.int (jI (a + b)) :: rest))) : W p l e R s m args below meth c H locs cells slots Q (F0 m pc ls (.int (jI b) :: .int (jI a) :: rest)) := lv_iadd hx hb hdg (by rw [jI_add]; exact k)
theorem jv_isub (hx : p.tables.exec = Jvm.exec) (hb : c.code = cc) {a b : Int} (hdg : decode cc pc = .ok (.isub, 1)) (k : W p l e R s m args below meth c H locs cells slots Q (F0 m (pc + 1) ls (.int (jI (a - b)) :: rest))) : W p l e R s m args below meth c H locs cells slots Q (F0 m pc ls (.int (jI b) :: .int (jI a) :: rest)) := lv_isub hx hb hdg (by rw [jI_sub]; exact k)
theorem jv_imul (hx : p.tables.exec = Jvm.exec) (hb : c.code = cc) {a b : Int} (hdg : decode cc pc = .ok (.imul, 1)) (k : W p l e R s m args below meth c H locs cells slots Q (F0 m (pc + 1) ls (.int (jI (a * b)) :: rest))) : W p l e R s m args below meth c H locs cells slots Q (F0 m pc ls (.int (jI b) :: .int (jI a) :: rest)) := lv_imul hx hb hdg (by rw [jI_mul]; exact k)
theorem jv_ineg (hx : p.tables.exec = Jvm.exec) (hb : c.code = cc) {a : Int} (hdg : decode cc pc = .ok (.ineg, 1)) (k : W p l e R s m args below meth c H locs cells slots Q (F0 m (pc + 1) ls (.int (jI (-a)) :: rest))) : W p l e R s m args below meth c H locs cells slots Q (F0 m pc ls (.int (jI a) :: rest)) := lv_ineg hx hb hdg (by first | (rw [jI_neg]; exact k) | (rw [← jI_0, jI_sub, Int.zero_sub]; exact k))
theorem jv_idiv (hx : p.tables.exec = Jvm.exec) (hb : c.code = cc) {a b : Int} (hdg : decode cc pc = .ok (.idiv, 1)) (ra : 0 ≤ a ∧ a < 2147483648) (rb : 0 < b ∧ b < 2147483648) (k : W p l e R s m args below meth c H locs cells slots Q (F0 m (pc + 1) ls (.int (jI (a / b)) :: rest))) : W p l e R s m args below meth c H locs cells slots Q (F0 m pc ls (.int (jI b) :: .int (jI a) :: rest)) := lv_idiv hx hb hdg (by rw [← jI_0, jI_eq (by omega) (by omega)]; omega) (by rw [jI_div ra rb]; exact k)
theorem jv_irem (hx : p.tables.exec = Jvm.exec) (hb : c.code = cc) {a b : Int} (hdg : decode cc pc = .ok (.irem, 1)) (ra : 0 ≤ a ∧ a < 2147483648) (rb : 0 < b ∧ b < 2147483648) (k : W p l e R s m args below meth c H locs cells slots Q (F0 m (pc + 1) ls (.int (jI (a % b)) :: rest))) : W p l e R s m args below meth c H locs cells slots Q (F0 m pc ls (.int (jI b) :: .int (jI a) :: rest)) := lv_irem hx hb hdg (by rw [← jI_0, jI_eq (by omega) (by omega)]; omega) (by rw [jI_rem ra rb]; exact k)
theorem jv_icmp_eq (hx : p.tables.exec = Jvm.exec) (hb : c.code = cc) {a b : Int} {off : Int} {tgt : Nat} (hdg : decode cc pc = .ok (.if_icmp .eq off, 3)) (ht : (pc : Int) + off = (tgt : Int)) (ra : -2147483648 ≤ a ∧ a < 2147483648) (rb : -2147483648 ≤ b ∧ b < 2147483648) (kt : a = b → W p l e R s m args below meth c H locs cells slots Q (F0 m tgt ls rest)) (kf : ¬ a = b → W p l e R s m args below meth c H locs cells slots Q (F0 m (pc + 3) ls rest)) : W p l e R s m args below meth c H locs cells slots Q (F0 m pc ls (.int (jI b) :: .int (jI a) :: rest)) := lv_icmp_eq hx hb hdg ht (fun h => kt ((jI_eq ra rb).1 h)) (fun h => kf (fun h2 => h ((jI_eq ra rb).2 h2)))
theorem jv_if_eq (hx : p.tables.exec = Jvm.exec) (hb : c.code = cc) {a : Int} {off : Int} {tgt : Nat} (hdg : decode cc pc = .ok (.ifCond .eq off, 3)) (ht : (pc : Int) + off = (tgt : Int)) (ra : -2147483648 ≤ a ∧ a < 2147483648) (kt : a = 0 → W p l e R s m args below meth c H locs cells slots Q (F0 m tgt ls rest)) (kf : ¬ a = 0 → W p l e R s m args below meth c H locs cells slots Q (F0 m (pc + 3) ls rest)) : W p l e R s m args below meth c H locs cells slots Q (F0 m pc ls (.int (jI a) :: rest)) := by
  have r0 : -2147483648 ≤ (0 : Int) ∧ (0 : Int) < 2147483648 := by omega
  refine lv_if_eq hx hb hdg ht ?_ ?_
  · rw [← jI_0]; exact fun h => kt ((jI_eq ra r0).1 h)
  · rw [← jI_0]; exact fun h => kf (fun h2 => h ((jI_eq ra r0).2 h2))
theorem jv_icmp_ne (hx : p.tables.exec = Jvm.exec) (hb : c.code = cc) {a b : Int} {off : Int} {tgt : Nat} (hdg : decode cc pc = .ok (.if_icmp .ne off, 3)) (ht : (pc : Int) + off = (tgt : Int)) (ra : -2147483648 ≤ a ∧ a < 2147483648) (rb : -2147483648 ≤ b ∧ b < 2147483648) (kt : ¬ a = b → W p l e R s m args below meth c H locs cells slots Q (F0 m tgt ls rest)) (kf : a = b → W p l e R s m args below meth c H locs cells slots Q (F0 m (pc + 3) ls rest)) : W p l e R s m args below meth c H locs cells slots Q (F0 m pc ls (.int (jI b) :: .int (jI a) :: rest)) := lv_icmp_ne hx hb hdg ht (fun h => kt (fun h2 => h ((jI_eq ra rb).2 h2))) (fun h => kf ((jI_eq ra rb).1 h))
theorem jv_if_ne (hx : p.tables.exec = Jvm.exec) (hb : c.code = cc) {a : Int} {off : Int} {tgt : Nat} (hdg : decode cc pc = .ok (.ifCond .ne off, 3)) (ht : (pc : Int) + off = (tgt : Int)) (ra : -2147483648 ≤ a ∧ a < 2147483648) (kt : ¬ a = 0 → W p l e R s m args below meth c H locs cells slots Q (F0 m tgt ls rest)) (kf : a = 0 → W p l e R s m args below meth c H locs cells slots Q (F0 m (pc + 3) ls rest)) : W p l e R s m args below meth c H locs cells slots Q (F0 m pc ls (.int (jI a) :: rest)) := by
  have r0 : -2147483648 ≤ (0 : Int) ∧ (0 : Int) < 2147483648 := by omega
  refine lv_if_ne hx hb hdg ht ?_ ?_
  · rw [← jI_0]; exact fun h => kt (fun h2 => h ((jI_eq ra r0).2 h2))
  · rw [← jI_0]; exact fun h => kf ((jI_eq ra r0).1 h)
theorem jv_icmp_lt (hx : p.tables.exec = Jvm.exec) (hb : c.code = cc) {a b : Int} {off : Int} {tgt : Nat} (hdg : decode cc pc = .ok (.if_icmp .lt off, 3)) (ht : (pc : Int) + off = (tgt : Int)) (ra : -2147483648 ≤ a ∧ a < 2147483648) (rb : -2147483648 ≤ b ∧ b < 2147483648) (kt : a < b → W p l e R s m args below meth c H locs cells slots Q (F0 m tgt ls rest)) (kf : ¬ a < b → W p l e R s m args below meth c H locs cells slots Q (F0 m (pc + 3) ls rest)) : W p l e R s m args below meth c H locs cells slots Q (F0 m pc ls (.int (jI b) :: .int (jI a) :: rest)) := lv_icmp_lt hx hb hdg ht (fun h => kt ((jI_lt ra rb).1 h)) (fun h => kf (fun h2 => h ((jI_lt ra rb).2 h2)))
theorem jv_if_lt (hx : p.tables.exec = Jvm.exec) (hb : c.code = cc) {a : Int} {off : Int} {tgt : Nat} (hdg : decode cc pc = .ok (.ifCond .lt off, 3)) (ht : (pc : Int) + off = (tgt : Int)) (ra : -2147483648 ≤ a ∧ a < 2147483648) (kt : a < 0 → W p l e R s m args below meth c H locs cells slots Q (F0 m tgt ls rest)) (kf : ¬ a < 0 → W p l e R s m args below meth c H locs cells slots Q (F0 m (pc + 3) ls rest)) : W p l e R s m args below meth c H locs cells slots Q (F0 m pc ls (.int (jI a) :: rest)) := by
  have r0 : -2147483648 ≤ (0 : Int) ∧ (0 : Int) < 2147483648 := by omega
  refine lv_if_lt hx hb hdg ht ?_ ?_
  · rw [← jI_0]; exact fun h => kt ((jI_lt ra r0).1 h)
  · rw [← jI_0]; exact fun h => kf (fun h2 => h ((jI_lt ra r0).2 h2))
theorem jv_icmp_ge (hx : p.tables.exec = Jvm.exec) (hb : c.code = cc) {a b : Int} {off : Int} {tgt : Nat} (hdg : decode cc pc = .ok (.if_icmp .ge off, 3)) (ht : (pc : Int) + off = (tgt : Int)) (ra : -2147483648 ≤ a ∧ a < 2147483648) (rb : -2147483648 ≤ b ∧ b < 2147483648) (kt : b ≤ a → W p l e R s m args below meth c H locs cells slots Q (F0 m tgt ls rest)) (kf : ¬ b ≤ a → W p l e R s m args below meth c H locs cells slots Q (F0 m (pc + 3) ls rest)) : W p l e R s m args below meth c H locs cells slots Q (F0 m pc ls (.int (jI b) :: .int (jI a) :: rest)) := lv_icmp_ge hx hb hdg ht (fun h => kt ((jI_le rb ra).1 h)) (fun h => kf (fun h2 => h ((jI_le rb ra).2 h2)))
theorem jv_if_ge (hx : p.tables.exec = Jvm.exec) (hb : c.code = cc) {a : Int} {off : Int} {tgt : Nat} (hdg : decode cc pc = .ok (.ifCond .ge off, 3)) (ht : (pc : Int) + off = (tgt : Int)) (ra : -2147483648 ≤ a ∧ a < 2147483648) (kt : 0 ≤ a → W p l e R s m args below meth c H locs cells slots Q (F0 m tgt ls rest)) (kf : ¬ 0 ≤ a → W p l e R s m args below meth c H locs cells slots Q (F0 m (pc + 3) ls rest)) : W p l e R s m args below meth c H locs cells slots Q (F0 m pc ls (.int (jI a) :: rest)) := by
  have r0 : -2147483648 ≤ (0 : Int) ∧ (0 : Int) < 2147483648 := by omega
  refine lv_if_ge hx hb hdg ht ?_ ?_
  · rw [← jI_0]; exact fun h => kt ((jI_le r0 ra).1 h)
  · rw [← jI_0]; exact fun h => kf (fun h2 => h ((jI_le r0 ra).2 h2))
theorem jv_icmp_gt (hx : p.tables.exec = Jvm.exec) (hb : c.code = cc) {a b : Int} {off : Int} {tgt : Nat} (hdg : decode cc pc = .ok (.if_icmp .gt off, 3)) (ht : (pc : Int) + off = (tgt : Int)) (ra : -2147483648 ≤ a ∧ a < 2147483648) (rb : -2147483648 ≤ b ∧ b < 2147483648) (kt : b < a → W p l e R s m args below meth c H locs cells slots Q (F0 m tgt ls rest)) (kf : ¬ b < a → W p l e R s m args below meth c H locs cells slots Q (F0 m (pc + 3) ls rest)) : W p l e R s m args below meth c H locs cells slots Q (F0 m pc ls (.int (jI b) :: .int (jI a) :: rest)) := lv_icmp_gt hx hb hdg ht (fun h => kt ((jI_lt rb ra).1 h)) (fun h => kf (fun h2 => h ((jI_lt rb ra).2 h2)))
theorem jv_if_gt (hx : p.tables.exec = Jvm.exec) (hb : c.code = cc) {a : Int} {off : Int} {tgt : Nat} (hdg : decode cc pc = .ok (.ifCond .gt off, 3)) (ht : (pc : Int) + off = (tgt : Int)) (ra : -2147483648 ≤ a ∧ a < 2147483648) (kt : 0 < a → W p l e R s m args below meth c H locs cells slots Q (F0 m tgt ls rest)) (kf : ¬ 0 < a → W p l e R s m args below meth c H locs cells slots Q (F0 m (pc + 3) ls rest)) : W p l e R s m args below meth c H locs cells slots Q (F0 m pc ls (.int (jI a) :: rest)) := by
  have r0 : -2147483648 ≤ (0 : Int) ∧ (0 : Int) < 2147483648 := by omega
  refine lv_if_gt hx hb hdg ht ?_ ?_
  · rw [← jI_0]; exact fun h => kt ((jI_lt r0 ra).1 h)
  · rw [← jI_0]; exact fun h => kf (fun h2 => h ((jI_lt r0 ra).2 h2))
theorem jv_icmp_le (hx : p.tables.exec = Jvm.exec) (hb : c.code = cc) {a b : Int} {off : Int} {tgt : Nat} (hdg : decode cc pc = .ok (.if_icmp .le off, 3)) (ht : (pc : Int) + off = (tgt : Int)) (ra : -2147483648 ≤ a ∧ a < 2147483648) (rb : -2147483648 ≤ b ∧ b < 2147483648) (kt : a ≤ b → W p l e R s m args below meth c H locs cells slots Q (F0 m tgt ls rest)) (kf : ¬ a ≤ b → W p l e R s m args below meth c H locs cells slots Q (F0 m (pc + 3) ls rest)) : W p l e R s m args below meth c H locs cells slots Q (F0 m pc ls (.int (jI b) :: .int (jI a) :: rest)) := lv_icmp_le hx hb hdg ht (fun h => kt ((jI_le ra rb).1 h)) (fun h => kf (fun h2 => h ((jI_le ra rb).2 h2)))
theorem jv_if_le (hx : p.tables.exec = Jvm.exec) (hb : c.code = cc) {a : Int} {off : Int} {tgt : Nat} (hdg : decode cc pc = .ok (.ifCond .le off, 3)) (ht : (pc : Int) + off = (tgt : Int)) (ra : -2147483648 ≤ a ∧ a < 2147483648) (kt : a ≤ 0 → W p l e R s m args below meth c H locs cells slots Q (F0 m tgt ls rest)) (kf : ¬ a ≤ 0 → W p l e R s m args below meth c H locs cells slots Q (F0 m (pc + 3) ls rest)) : W p l e R s m args below meth c H locs cells slots Q (F0 m pc ls (.int (jI a) :: rest)) := by
  have r0 : -2147483648 ≤ (0 : Int) ∧ (0 : Int) < 2147483648 := by omega
  refine lv_if_le hx hb hdg ht ?_ ?_
  · rw [← jI_0]; exact fun h => kt ((jI_le ra r0).1 h)
  · rw [← jI_0]; exact fun h => kf (fun h2 => h ((jI_le ra r0).2 h2))
end JV
